theorem tw_all : ∀ n : Nat, n < 256 → 0 ≤ ((iI (n : Int) <<< iI 1) ^^^ ((iI (n : Int) >>> iI 7) * iI 283)).toInt ∧ ((iI (n : Int) <<< iI 1) ^^^ ((iI (n : Int) >>> iI 7) * iI 283)).toInt ≤ 255 := by decide +kernel
theorem tw_ok (i : Int) (h0 : 0 ≤ i) (h1 : i ≤ 255) : ∃ z : Int, 0 ≤ z ∧ z ≤ 255 ∧ (iI i <<< iI 1) ^^^ ((iI i >>> iI 7) * iI 283) = iI z := by
  obtain ⟨n, rfl⟩ := Int.eq_ofNat_of_zero_le h0
  have h := tw_all n (by omega)
  exact ⟨_, h.1, h.2, iI_of _⟩
set_option maxHeartbeats 4000000 in
set_option maxRecDepth 100000 in
theorem c_Ha_init (l : Launch) (D : va_G) (E : cE) (T : cT) (κ : tK) (L : List Nat) (f : pF) (sz : Nat) (h : Nat) (m_h : h ∈ L) (r_h : (κ h).1 = 0) (e_h : f h = .inr (6, [.null, .null, .null, .null, .null, .int (iI 0), .int (iI 0), .null])) (hw : tW E T κ L f) : Met l y_Ha_init (k_Ha_init :: lw_tg) (kRm 1 60 6 179) (va_Pc [.ref h] (kPre D E T L f sz)) (va_Qv (aPv E T [16] [h] κ L f (fun (k : tK) (g : pF) => k h = (16, 0))) (cPost D E (pA L sz)) (pA L sz)) 6 179 (pA L sz) := by
  refine k_enter (own := R_Ha) (by decide) rfl (Nat.le_of_ble_eq_true rfl) (fun p e s m below meth c ls AV QQ H locs hQQ X Y hA hin hr hlk hml hl KS KR => ?_)
  have hl : lv_has ls 1 [(0, .ref h)] := hl
  have S : tS E T (tFr κ L [16] [h]) κ L f κ L f := tS_rf hw
  have hF0 : ∀ b, tFr κ L [16] [h] b → b ∈ L := fun b h9 => h9.1
  refine lv_aload_n X.1 X.2.1 d_Ha_init_0 rfl (lv_at hl 0 rfl) ?_
  refine W.objInit X.1 X.2.1 X.2.2.2.1 (X.2.2.1 _ ol_Ha) (X.2.2.1 _ o_inst) (X.2.2.1 _ o_code) rfl (by rw [hml]; exact hl.1) rfl d_Ha_init_1 (Nat.le_of_ble_eq_true rfl) (Nat.le_of_ble_eq_true rfl) ?_
  refine W.eq (g2 := F0 m 4 ls []) rfl ?_
  refine lv_aload_n X.1 X.2.1 d_Ha_init_4 rfl (lv_at hl 0 rfl) ?_
  refine lv_bipush (v := iI 80) X.1 X.2.1 d_Ha_init_5 (by decide) ?_
  refine t_newI (cI := 2) (by decide) X Y S hA hF0 (N := 80) (mx := 80) (by omega) (by omega) (by decide) (Nat.le_of_ble_eq_true rfl) (Nat.le_of_ble_eq_true rfl) d_Ha_init_7 (fun q101 κ101 L101 f101 H Y S s101 k101 => ?_)
  have e102 : f101 h = .inr (6, [.null, .null, .null, .null, .null, .int (iI 0), .int (iI 0), .null]) := (s101.2.2.2 _ ⟨m_h, by rw [r_h]; decide, by simp⟩).1.trans e_h
  have m103 : h ∈ L101 := s101.2.1 _ m_h
  have r104 : (κ101 h).1 = 0 := by rw [(s101.2.2.2 _ ⟨m_h, by rw [r_h]; decide, by simp⟩).2]; exact r_h
  refine q_putF X.1 X.2.1 X.2.2.1 i_Ha t_Ha t_Ha_ok n_Ha X.2.2.2.1 X.2.2.2.2 Y m103 e102 rfl 0 (by decide) (X.2.2.1 _ lk_Ha_7) (fun _ h9 => h9) rfl hin rfl (t_Ha_ok 0 (by decide)) rfl rfl (Nat.le_of_ble_eq_true rfl) d_Ha_init_9 (fun H locs Y => ?_)
  have Y : pH D cCl (pA L sz) s.heap L101 (va_up f101 h (.inr (6, [.ref q101, .null, .null, .null, .null, .int (iI 0), .int (iI 0), .null]))) H locs := Y
  have S := tS_up (x := .inr (6, [.ref q101, .null, .null, .null, .null, .int (iI 0), .int (iI 0), .null])) S (fun h9 => h9.2.2 (List.mem_singleton.mpr rfl)) (fun h9 => absurd r104 h9)
  have e106 : (va_up f101 h (.inr (6, [.ref q101, .null, .null, .null, .null, .int (iI 0), .int (iI 0), .null]))) h = .inr (6, [.ref q101, .null, .null, .null, .null, .int (iI 0), .int (iI 0), .null]) := q_up
  generalize va_up f101 h (.inr (6, [.ref q101, .null, .null, .null, .null, .int (iI 0), .int (iI 0), .null])) = f105 at Y S e106
  refine lv_aload_n X.1 X.2.1 d_Ha_init_12 rfl (lv_at hl 0 rfl) ?_
  refine lv_bipush (v := iI 64) X.1 X.2.1 d_Ha_init_13 (by decide) ?_
  refine t_newB X Y S hA hF0 (N := 64) (mx := 64) (by omega) (by omega) (by decide) (Nat.le_of_ble_eq_true rfl) (Nat.le_of_ble_eq_true rfl) d_Ha_init_15 (fun q107 κ107 L107 f107 H Y S s107 k107 => ?_)
  have k108 : κ107 q101 = (2, 80) := tLe_k s107.2.2.1 k101
  have e109 : f107 h = .inr (6, [.ref q101, .null, .null, .null, .null, .int (iI 0), .int (iI 0), .null]) := (s107.2.2.2 _ ⟨m103, by rw [r104]; decide, by simp⟩).1.trans e106
  have m110 : h ∈ L107 := s107.2.1 _ m103
  have r111 : (κ107 h).1 = 0 := by rw [(s107.2.2.2 _ ⟨m103, by rw [r104]; decide, by simp⟩).2]; exact r104
  refine q_putF X.1 X.2.1 X.2.2.1 i_Ha t_Ha t_Ha_ok n_Ha X.2.2.2.1 X.2.2.2.2 Y m110 e109 rfl 1 (by decide) (X.2.2.1 _ lk_Ha_13) (fun _ h9 => h9) rfl hin rfl (t_Ha_ok 1 (by decide)) rfl rfl (Nat.le_of_ble_eq_true rfl) d_Ha_init_17 (fun H locs Y => ?_)
  have Y : pH D cCl (pA L sz) s.heap L107 (va_up f107 h (.inr (6, [.ref q101, .ref q107, .null, .null, .null, .int (iI 0), .int (iI 0), .null]))) H locs := Y
  have S := tS_up (x := .inr (6, [.ref q101, .ref q107, .null, .null, .null, .int (iI 0), .int (iI 0), .null])) S (fun h9 => h9.2.2 (List.mem_singleton.mpr rfl)) (fun h9 => absurd r111 h9)
  have e113 : (va_up f107 h (.inr (6, [.ref q101, .ref q107, .null, .null, .null, .int (iI 0), .int (iI 0), .null]))) h = .inr (6, [.ref q101, .ref q107, .null, .null, .null, .int (iI 0), .int (iI 0), .null]) := q_up
  generalize va_up f107 h (.inr (6, [.ref q101, .ref q107, .null, .null, .null, .int (iI 0), .int (iI 0), .null])) = f112 at Y S e113
  refine lv_aload_n X.1 X.2.1 d_Ha_init_20 rfl (lv_at hl 0 rfl) ?_
  refine lv_iconst (v := iI 5) X.1 X.2.1 d_Ha_init_21 (by decide) ?_
  refine t_newI (cI := 2) (by decide) X Y S hA hF0 (N := 5) (mx := 5) (by omega) (by omega) (by decide) (Nat.le_of_ble_eq_true rfl) (Nat.le_of_ble_eq_true rfl) d_Ha_init_22 (fun q114 κ114 L114 f114 H Y S s114 k114 => ?_)
  have k115 : κ114 q101 = (2, 80) := tLe_k s114.2.2.1 k108
  have k116 : κ114 q107 = (1, 64) := tLe_k s114.2.2.1 k107
  have e117 : f114 h = .inr (6, [.ref q101, .ref q107, .null, .null, .null, .int (iI 0), .int (iI 0), .null]) := (s114.2.2.2 _ ⟨m110, by rw [r111]; decide, by simp⟩).1.trans e113
  have m118 : h ∈ L114 := s114.2.1 _ m110
  have r119 : (κ114 h).1 = 0 := by rw [(s114.2.2.2 _ ⟨m110, by rw [r111]; decide, by simp⟩).2]; exact r111
  refine q_putF X.1 X.2.1 X.2.2.1 i_Ha t_Ha t_Ha_ok n_Ha X.2.2.2.1 X.2.2.2.2 Y m118 e117 rfl 2 (by decide) (X.2.2.1 _ lk_Ha_17) (fun _ h9 => h9) rfl hin rfl (t_Ha_ok 2 (by decide)) rfl rfl (Nat.le_of_ble_eq_true rfl) d_Ha_init_24 (fun H locs Y => ?_)
  have Y : pH D cCl (pA L sz) s.heap L114 (va_up f114 h (.inr (6, [.ref q101, .ref q107, .ref q114, .null, .null, .int (iI 0), .int (iI 0), .null]))) H locs := Y
  have S := tS_up (x := .inr (6, [.ref q101, .ref q107, .ref q114, .null, .null, .int (iI 0), .int (iI 0), .null])) S (fun h9 => h9.2.2 (List.mem_singleton.mpr rfl)) (fun h9 => absurd r119 h9)
  have e121 : (va_up f114 h (.inr (6, [.ref q101, .ref q107, .ref q114, .null, .null, .int (iI 0), .int (iI 0), .null]))) h = .inr (6, [.ref q101, .ref q107, .ref q114, .null, .null, .int (iI 0), .int (iI 0), .null]) := q_up
  generalize va_up f114 h (.inr (6, [.ref q101, .ref q107, .ref q114, .null, .null, .int (iI 0), .int (iI 0), .null])) = f120 at Y S e121
  refine lv_aload_n X.1 X.2.1 d_Ha_init_27 rfl (lv_at hl 0 rfl) ?_
  refine lv_iconst (v := iI 5) X.1 X.2.1 d_Ha_init_28 (by decide) ?_
  refine t_newI (cI := 2) (by decide) X Y S hA hF0 (N := 5) (mx := 5) (by omega) (by omega) (by decide) (Nat.le_of_ble_eq_true rfl) (Nat.le_of_ble_eq_true rfl) d_Ha_init_29 (fun q122 κ122 L122 f122 H Y S s122 k122 => ?_)
  have k123 : κ122 q101 = (2, 80) := tLe_k s122.2.2.1 k115
  have k124 : κ122 q107 = (1, 64) := tLe_k s122.2.2.1 k116
  have k125 : κ122 q114 = (2, 5) := tLe_k s122.2.2.1 k114
  have e126 : f122 h = .inr (6, [.ref q101, .ref q107, .ref q114, .null, .null, .int (iI 0), .int (iI 0), .null]) := (s122.2.2.2 _ ⟨m118, by rw [r119]; decide, by simp⟩).1.trans e121
  have m127 : h ∈ L122 := s122.2.1 _ m118
  have r128 : (κ122 h).1 = 0 := by rw [(s122.2.2.2 _ ⟨m118, by rw [r119]; decide, by simp⟩).2]; exact r119
  refine q_putF X.1 X.2.1 X.2.2.1 i_Ha t_Ha t_Ha_ok n_Ha X.2.2.2.1 X.2.2.2.2 Y m127 e126 rfl 3 (by decide) (X.2.2.1 _ lk_Ha_20) (fun _ h9 => h9) rfl hin rfl (t_Ha_ok 3 (by decide)) rfl rfl (Nat.le_of_ble_eq_true rfl) d_Ha_init_31 (fun H locs Y => ?_)
  have Y : pH D cCl (pA L sz) s.heap L122 (va_up f122 h (.inr (6, [.ref q101, .ref q107, .ref q114, .ref q122, .null, .int (iI 0), .int (iI 0), .null]))) H locs := Y
  have S := tS_up (x := .inr (6, [.ref q101, .ref q107, .ref q114, .ref q122, .null, .int (iI 0), .int (iI 0), .null])) S (fun h9 => h9.2.2 (List.mem_singleton.mpr rfl)) (fun h9 => absurd r128 h9)
  have e130 : (va_up f122 h (.inr (6, [.ref q101, .ref q107, .ref q114, .ref q122, .null, .int (iI 0), .int (iI 0), .null]))) h = .inr (6, [.ref q101, .ref q107, .ref q114, .ref q122, .null, .int (iI 0), .int (iI 0), .null]) := q_up
  generalize va_up f122 h (.inr (6, [.ref q101, .ref q107, .ref q114, .ref q122, .null, .int (iI 0), .int (iI 0), .null])) = f129 at Y S e130
  refine lv_aload_n X.1 X.2.1 d_Ha_init_34 rfl (lv_at hl 0 rfl) ?_
  refine lv_iconst (v := iI 5) X.1 X.2.1 d_Ha_init_35 (by decide) ?_
  refine t_newI (cI := 2) (by decide) X Y S hA hF0 (N := 5) (mx := 5) (by omega) (by omega) (by decide) (Nat.le_of_ble_eq_true rfl) (Nat.le_of_ble_eq_true rfl) d_Ha_init_36 (fun q131 κ131 L131 f131 H Y S s131 k131 => ?_)
  have k132 : κ131 q101 = (2, 80) := tLe_k s131.2.2.1 k123
  have k133 : κ131 q107 = (1, 64) := tLe_k s131.2.2.1 k124
  have k134 : κ131 q114 = (2, 5) := tLe_k s131.2.2.1 k125
  have k135 : κ131 q122 = (2, 5) := tLe_k s131.2.2.1 k122
  have e136 : f131 h = .inr (6, [.ref q101, .ref q107, .ref q114, .ref q122, .null, .int (iI 0), .int (iI 0), .null]) := (s131.2.2.2 _ ⟨m127, by rw [r128]; decide, by simp⟩).1.trans e130
  have m137 : h ∈ L131 := s131.2.1 _ m127
  have r138 : (κ131 h).1 = 0 := by rw [(s131.2.2.2 _ ⟨m127, by rw [r128]; decide, by simp⟩).2]; exact r128
  refine q_putF X.1 X.2.1 X.2.2.1 i_Ha t_Ha t_Ha_ok n_Ha X.2.2.2.1 X.2.2.2.2 Y m137 e136 rfl 4 (by decide) (X.2.2.1 _ lk_Ha_23) (fun _ h9 => h9) rfl hin rfl (t_Ha_ok 4 (by decide)) rfl rfl (Nat.le_of_ble_eq_true rfl) d_Ha_init_38 (fun H locs Y => ?_)
  have Y : pH D cCl (pA L sz) s.heap L131 (va_up f131 h (.inr (6, [.ref q101, .ref q107, .ref q114, .ref q122, .ref q131, .int (iI 0), .int (iI 0), .null]))) H locs := Y
  have S := tS_up (x := .inr (6, [.ref q101, .ref q107, .ref q114, .ref q122, .ref q131, .int (iI 0), .int (iI 0), .null])) S (fun h9 => h9.2.2 (List.mem_singleton.mpr rfl)) (fun h9 => absurd r138 h9)
  have e140 : (va_up f131 h (.inr (6, [.ref q101, .ref q107, .ref q114, .ref q122, .ref q131, .int (iI 0), .int (iI 0), .null]))) h = .inr (6, [.ref q101, .ref q107, .ref q114, .ref q122, .ref q131, .int (iI 0), .int (iI 0), .null]) := q_up
  generalize va_up f131 h (.inr (6, [.ref q101, .ref q107, .ref q114, .ref q122, .ref q131, .int (iI 0), .int (iI 0), .null])) = f139 at Y S e140
  refine lv_aload_n X.1 X.2.1 d_Ha_init_41 rfl (lv_at hl 0 rfl) ?_
  refine lv_bipush (v := iI 20) X.1 X.2.1 d_Ha_init_42 (by decide) ?_
  refine t_newB X Y S hA hF0 (N := 20) (mx := 20) (by omega) (by omega) (by decide) (Nat.le_of_ble_eq_true rfl) (Nat.le_of_ble_eq_true rfl) d_Ha_init_44 (fun q141 κ141 L141 f141 H Y S s141 k141 => ?_)
  have k142 : κ141 q101 = (2, 80) := tLe_k s141.2.2.1 k132
  have k143 : κ141 q107 = (1, 64) := tLe_k s141.2.2.1 k133
  have k144 : κ141 q114 = (2, 5) := tLe_k s141.2.2.1 k134
  have k145 : κ141 q122 = (2, 5) := tLe_k s141.2.2.1 k135
  have k146 : κ141 q131 = (2, 5) := tLe_k s141.2.2.1 k131
  have e147 : f141 h = .inr (6, [.ref q101, .ref q107, .ref q114, .ref q122, .ref q131, .int (iI 0), .int (iI 0), .null]) := (s141.2.2.2 _ ⟨m137, by rw [r138]; decide, by simp⟩).1.trans e140
  have m148 : h ∈ L141 := s141.2.1 _ m137
  have r149 : (κ141 h).1 = 0 := by rw [(s141.2.2.2 _ ⟨m137, by rw [r138]; decide, by simp⟩).2]; exact r138
  refine q_putF X.1 X.2.1 X.2.2.1 i_Ha t_Ha t_Ha_ok n_Ha X.2.2.2.1 X.2.2.2.2 Y m148 e147 rfl 7 (by decide) (X.2.2.1 _ lk_Ha_26) (fun _ h9 => h9) rfl hin rfl (t_Ha_ok 7 (by decide)) rfl rfl (Nat.le_of_ble_eq_true rfl) d_Ha_init_46 (fun H locs Y => ?_)
  have Y : pH D cCl (pA L sz) s.heap L141 (va_up f141 h (.inr (6, [.ref q101, .ref q107, .ref q114, .ref q122, .ref q131, .int (iI 0), .int (iI 0), .ref q141]))) H locs := Y
  have S := tS_up (x := .inr (6, [.ref q101, .ref q107, .ref q114, .ref q122, .ref q131, .int (iI 0), .int (iI 0), .ref q141])) S (fun h9 => h9.2.2 (List.mem_singleton.mpr rfl)) (fun h9 => absurd r149 h9)
  have e151 : (va_up f141 h (.inr (6, [.ref q101, .ref q107, .ref q114, .ref q122, .ref q131, .int (iI 0), .int (iI 0), .ref q141]))) h = .inr (6, [.ref q101, .ref q107, .ref q114, .ref q122, .ref q131, .int (iI 0), .int (iI 0), .ref q141]) := q_up
  generalize va_up f141 h (.inr (6, [.ref q101, .ref q107, .ref q114, .ref q122, .ref q131, .int (iI 0), .int (iI 0), .ref q141])) = f150 at Y S e151
  have hle : tLe κ141 (va_up κ141 h (16, 0)) := tLe_raw r149
  have S := (tS_kind (k := (16, 0)) S m148 r149 r_h (fun h9 => h9.2.2 (List.mem_singleton.mpr rfl)) (by rw [e151]; exact ⟨_, rfl, okO_of ⟨⟨_, rfl, tLe_k hle k142⟩, ⟨_, rfl, tLe_k hle k143⟩, ⟨_, rfl, tLe_k hle k144⟩, ⟨_, rfl, tLe_k hle k145⟩, ⟨_, rfl, tLe_k hle k146⟩, ⟨_, rfl, (show (0 : Int) ≤ 0 by omega), (show 0 ≤ (64 : Int) by omega)⟩, ⟨_, rfl, (show ((-2147483648) : Int) ≤ 0 by omega), (show 0 ≤ (2147483647 : Int) by omega)⟩, ⟨_, rfl, tLe_k hle k141⟩, trivial⟩⟩)).1
  exact c_retv hQQ X Y hr hlk ⟨_, S, va_up_self _ _ _⟩ d_Ha_init_49
set_option maxHeartbeats 4000000 in
set_option maxRecDepth 100000 in
theorem c_Ae_init (l : Launch) (D : va_G) (E : cE) (T : cT) (κ : tK) (L : List Nat) (f : pF) (sz : Nat) (h : Nat) (m_h : h ∈ L) (r_h : (κ h).1 = 0) (e_h : f h = .inr (1, [.null, .null, .null, .int (iI 0), .null, .null, .null])) (hw : tW E T κ L f) : Met l y_Ae_init (k_Ae_init :: lw_tg) (kRm 1 60 6 800) (va_Pc [.ref h] (kPre D E T L f sz)) (va_Qv (aPv E T [2, 3, 4, 11] [h] κ L f (fun (k : tK) (g : pF) => k h = (11, 0))) (cPost D E (pA L sz)) (pA L sz)) 6 800 (pA L sz) := by
  refine k_enter (own := R_Ae) (by decide) rfl (Nat.le_of_ble_eq_true rfl) (fun p e s m below meth c ls AV QQ H locs hQQ X Y hA hin hr hlk hml hl KS KR => ?_)
  have hl : lv_has ls 2 [(0, .ref h)] := hl
  have S : tS E T (tFr κ L [2, 3, 4, 11] [h]) κ L f κ L f := tS_rf hw
  have hF0 : ∀ b, tFr κ L [2, 3, 4, 11] [h] b → b ∈ L := fun b h9 => h9.1
  refine lv_aload_n X.1 X.2.1 d_Ae_init_0 rfl (lv_at hl 0 rfl) ?_
  refine W.objInit X.1 X.2.1 X.2.2.2.1 (X.2.2.1 _ ol_Ae) (X.2.2.1 _ o_inst) (X.2.2.1 _ o_code) rfl (by rw [hml]; exact hl.1) rfl d_Ae_init_1 (Nat.le_of_ble_eq_true rfl) (Nat.le_of_ble_eq_true rfl) ?_
  refine W.eq (g2 := F0 m 4 ls []) rfl ?_
  refine lv_aload_n X.1 X.2.1 d_Ae_init_4 rfl (lv_at hl 0 rfl) ?_
  refine lv_sipush (v := iI 256) X.1 X.2.1 d_Ae_init_5 (by decide) ?_
  refine t_newI (cI := 3) (by decide) X Y S hA hF0 (N := 256) (mx := 256) (by omega) (by omega) (by decide) (Nat.le_of_ble_eq_true rfl) (Nat.le_of_ble_eq_true rfl) d_Ae_init_8 (fun q101 κ101 L101 f101 H Y S s101 k101 => ?_)
  have e102 : f101 h = .inr (1, [.null, .null, .null, .int (iI 0), .null, .null, .null]) := (s101.2.2.2 _ ⟨m_h, by rw [r_h]; decide, by simp⟩).1.trans e_h
  have m103 : h ∈ L101 := s101.2.1 _ m_h
  have r104 : (κ101 h).1 = 0 := by rw [(s101.2.2.2 _ ⟨m_h, by rw [r_h]; decide, by simp⟩).2]; exact r_h
  refine q_putF X.1 X.2.1 X.2.2.1 i_Ae t_Ae t_Ae_ok n_Ae X.2.2.2.1 X.2.2.2.2 Y m103 e102 rfl 0 (by decide) (X.2.2.1 _ lk_Ae_7) (fun _ h9 => h9) rfl hin rfl (t_Ae_ok 0 (by decide)) rfl rfl (Nat.le_of_ble_eq_true rfl) d_Ae_init_10 (fun H locs Y => ?_)
  have Y : pH D cCl (pA L sz) s.heap L101 (va_up f101 h (.inr (1, [.ref q101, .null, .null, .int (iI 0), .null, .null, .null]))) H locs := Y
  have S := tS_up (x := .inr (1, [.ref q101, .null, .null, .int (iI 0), .null, .null, .null])) S (fun h9 => h9.2.2 (List.mem_singleton.mpr rfl)) (fun h9 => absurd r104 h9)
  have e106 : (va_up f101 h (.inr (1, [.ref q101, .null, .null, .int (iI 0), .null, .null, .null]))) h = .inr (1, [.ref q101, .null, .null, .int (iI 0), .null, .null, .null]) := q_up
  generalize va_up f101 h (.inr (1, [.ref q101, .null, .null, .int (iI 0), .null, .null, .null])) = f105 at Y S e106
  refine lv_aload_n X.1 X.2.1 d_Ae_init_13 rfl (lv_at hl 0 rfl) ?_
  refine lv_sipush (v := iI 256) X.1 X.2.1 d_Ae_init_14 (by decide) ?_
  refine t_newI (cI := 3) (by decide) X Y S hA hF0 (N := 256) (mx := 256) (by omega) (by omega) (by decide) (Nat.le_of_ble_eq_true rfl) (Nat.le_of_ble_eq_true rfl) d_Ae_init_17 (fun q107 κ107 L107 f107 H Y S s107 k107 => ?_)
  have k108 : κ107 q101 = (3, 256) := tLe_k s107.2.2.1 k101
  have e109 : f107 h = .inr (1, [.ref q101, .null, .null, .int (iI 0), .null, .null, .null]) := (s107.2.2.2 _ ⟨m103, by rw [r104]; decide, by simp⟩).1.trans e106
  have m110 : h ∈ L107 := s107.2.1 _ m103
  have r111 : (κ107 h).1 = 0 := by rw [(s107.2.2.2 _ ⟨m103, by rw [r104]; decide, by simp⟩).2]; exact r104
  refine q_putF X.1 X.2.1 X.2.2.1 i_Ae t_Ae t_Ae_ok n_Ae X.2.2.2.1 X.2.2.2.2 Y m110 e109 rfl 1 (by decide) (X.2.2.1 _ lk_Ae_13) (fun _ h9 => h9) rfl hin rfl (t_Ae_ok 1 (by decide)) rfl rfl (Nat.le_of_ble_eq_true rfl) d_Ae_init_19 (fun H locs Y => ?_)
  have Y : pH D cCl (pA L sz) s.heap L107 (va_up f107 h (.inr (1, [.ref q101, .ref q107, .null, .int (iI 0), .null, .null, .null]))) H locs := Y
  have S := tS_up (x := .inr (1, [.ref q101, .ref q107, .null, .int (iI 0), .null, .null, .null])) S (fun h9 => h9.2.2 (List.mem_singleton.mpr rfl)) (fun h9 => absurd r111 h9)
  have e113 : (va_up f107 h (.inr (1, [.ref q101, .ref q107, .null, .int (iI 0), .null, .null, .null]))) h = .inr (1, [.ref q101, .ref q107, .null, .int (iI 0), .null, .null, .null]) := q_up
  generalize va_up f107 h (.inr (1, [.ref q101, .ref q107, .null, .int (iI 0), .null, .null, .null])) = f112 at Y S e113
  refine lv_aload_n X.1 X.2.1 d_Ae_init_22 rfl (lv_at hl 0 rfl) ?_
  refine lv_sipush (v := iI 240) X.1 X.2.1 d_Ae_init_23 (by decide) ?_
  refine t_newI (cI := 3) (by decide) X Y S hA hF0 (N := 240) (mx := 240) (by omega) (by omega) (by decide) (Nat.le_of_ble_eq_true rfl) (Nat.le_of_ble_eq_true rfl) d_Ae_init_26 (fun q114 κ114 L114 f114 H Y S s114 k114 => ?_)
  have k115 : κ114 q101 = (3, 256) := tLe_k s114.2.2.1 k108
  have k116 : κ114 q107 = (3, 256) := tLe_k s114.2.2.1 k107
  have e117 : f114 h = .inr (1, [.ref q101, .ref q107, .null, .int (iI 0), .null, .null, .null]) := (s114.2.2.2 _ ⟨m110, by rw [r111]; decide, by simp⟩).1.trans e113
  have m118 : h ∈ L114 := s114.2.1 _ m110
  have r119 : (κ114 h).1 = 0 := by rw [(s114.2.2.2 _ ⟨m110, by rw [r111]; decide, by simp⟩).2]; exact r111
  refine q_putF X.1 X.2.1 X.2.2.1 i_Ae t_Ae t_Ae_ok n_Ae X.2.2.2.1 X.2.2.2.2 Y m118 e117 rfl 2 (by decide) (X.2.2.1 _ lk_Ae_16) (fun _ h9 => h9) rfl hin rfl (t_Ae_ok 2 (by decide)) rfl rfl (Nat.le_of_ble_eq_true rfl) d_Ae_init_28 (fun H locs Y => ?_)
  have Y : pH D cCl (pA L sz) s.heap L114 (va_up f114 h (.inr (1, [.ref q101, .ref q107, .ref q114, .int (iI 0), .null, .null, .null]))) H locs := Y
  have S := tS_up (x := .inr (1, [.ref q101, .ref q107, .ref q114, .int (iI 0), .null, .null, .null])) S (fun h9 => h9.2.2 (List.mem_singleton.mpr rfl)) (fun h9 => absurd r119 h9)
  have e121 : (va_up f114 h (.inr (1, [.ref q101, .ref q107, .ref q114, .int (iI 0), .null, .null, .null]))) h = .inr (1, [.ref q101, .ref q107, .ref q114, .int (iI 0), .null, .null, .null]) := q_up
  generalize va_up f114 h (.inr (1, [.ref q101, .ref q107, .ref q114, .int (iI 0), .null, .null, .null])) = f120 at Y S e121
  refine lv_aload_n X.1 X.2.1 d_Ae_init_31 rfl (lv_at hl 0 rfl) ?_
  refine lv_bipush (v := iI 16) X.1 X.2.1 d_Ae_init_32 (by decide) ?_
  refine t_newI (cI := 3) (by decide) X Y S hA hF0 (N := 16) (mx := 16) (by omega) (by omega) (by decide) (Nat.le_of_ble_eq_true rfl) (Nat.le_of_ble_eq_true rfl) d_Ae_init_34 (fun q122 κ122 L122 f122 H Y S s122 k122 => ?_)
  have k123 : κ122 q101 = (3, 256) := tLe_k s122.2.2.1 k115
  have k124 : κ122 q107 = (3, 256) := tLe_k s122.2.2.1 k116
  have k125 : κ122 q114 = (3, 240) := tLe_k s122.2.2.1 k114
  have e126 : f122 h = .inr (1, [.ref q101, .ref q107, .ref q114, .int (iI 0), .null, .null, .null]) := (s122.2.2.2 _ ⟨m118, by rw [r119]; decide, by simp⟩).1.trans e121
  have m127 : h ∈ L122 := s122.2.1 _ m118
  have r128 : (κ122 h).1 = 0 := by rw [(s122.2.2.2 _ ⟨m118, by rw [r119]; decide, by simp⟩).2]; exact r119
  refine q_putF X.1 X.2.1 X.2.2.1 i_Ae t_Ae t_Ae_ok n_Ae X.2.2.2.1 X.2.2.2.2 Y m127 e126 rfl 4 (by decide) (X.2.2.1 _ lk_Ae_19) (fun _ h9 => h9) rfl hin rfl (t_Ae_ok 4 (by decide)) rfl rfl (Nat.le_of_ble_eq_true rfl) d_Ae_init_36 (fun H locs Y => ?_)
  have Y : pH D cCl (pA L sz) s.heap L122 (va_up f122 h (.inr (1, [.ref q101, .ref q107, .ref q114, .int (iI 0), .ref q122, .null, .null]))) H locs := Y
  have S := tS_up (x := .inr (1, [.ref q101, .ref q107, .ref q114, .int (iI 0), .ref q122, .null, .null])) S (fun h9 => h9.2.2 (List.mem_singleton.mpr rfl)) (fun h9 => absurd r128 h9)
  have e130 : (va_up f122 h (.inr (1, [.ref q101, .ref q107, .ref q114, .int (iI 0), .ref q122, .null, .null]))) h = .inr (1, [.ref q101, .ref q107, .ref q114, .int (iI 0), .ref q122, .null, .null]) := q_up
  generalize va_up f122 h (.inr (1, [.ref q101, .ref q107, .ref q114, .int (iI 0), .ref q122, .null, .null])) = f129 at Y S e130
  refine lv_aload_n X.1 X.2.1 d_Ae_init_39 rfl (lv_at hl 0 rfl) ?_
  refine lv_bipush (v := iI 16) X.1 X.2.1 d_Ae_init_40 (by decide) ?_
  refine t_newI (cI := 3) (by decide) X Y S hA hF0 (N := 16) (mx := 16) (by omega) (by omega) (by decide) (Nat.le_of_ble_eq_true rfl) (Nat.le_of_ble_eq_true rfl) d_Ae_init_42 (fun q131 κ131 L131 f131 H Y S s131 k131 => ?_)
  have k132 : κ131 q101 = (3, 256) := tLe_k s131.2.2.1 k123
  have k133 : κ131 q107 = (3, 256) := tLe_k s131.2.2.1 k124
  have k134 : κ131 q114 = (3, 240) := tLe_k s131.2.2.1 k125
  have k135 : κ131 q122 = (3, 16) := tLe_k s131.2.2.1 k122
  have e136 : f131 h = .inr (1, [.ref q101, .ref q107, .ref q114, .int (iI 0), .ref q122, .null, .null]) := (s131.2.2.2 _ ⟨m127, by rw [r128]; decide, by simp⟩).1.trans e130
  have m137 : h ∈ L131 := s131.2.1 _ m127
  have r138 : (κ131 h).1 = 0 := by rw [(s131.2.2.2 _ ⟨m127, by rw [r128]; decide, by simp⟩).2]; exact r128
  refine q_putF X.1 X.2.1 X.2.2.1 i_Ae t_Ae t_Ae_ok n_Ae X.2.2.2.1 X.2.2.2.2 Y m137 e136 rfl 5 (by decide) (X.2.2.1 _ lk_Ae_22) (fun _ h9 => h9) rfl hin rfl (t_Ae_ok 5 (by decide)) rfl rfl (Nat.le_of_ble_eq_true rfl) d_Ae_init_44 (fun H locs Y => ?_)
  have Y : pH D cCl (pA L sz) s.heap L131 (va_up f131 h (.inr (1, [.ref q101, .ref q107, .ref q114, .int (iI 0), .ref q122, .ref q131, .null]))) H locs := Y
  have S := tS_up (x := .inr (1, [.ref q101, .ref q107, .ref q114, .int (iI 0), .ref q122, .ref q131, .null])) S (fun h9 => h9.2.2 (List.mem_singleton.mpr rfl)) (fun h9 => absurd r138 h9)
  have e140 : (va_up f131 h (.inr (1, [.ref q101, .ref q107, .ref q114, .int (iI 0), .ref q122, .ref q131, .null]))) h = .inr (1, [.ref q101, .ref q107, .ref q114, .int (iI 0), .ref q122, .ref q131, .null]) := q_up
  generalize va_up f131 h (.inr (1, [.ref q101, .ref q107, .ref q114, .int (iI 0), .ref q122, .ref q131, .null])) = f139 at Y S e140
  refine lv_aload_n X.1 X.2.1 d_Ae_init_47 rfl (lv_at hl 0 rfl) ?_
  refine lv_bipush (v := iI 16) X.1 X.2.1 d_Ae_init_48 (by decide) ?_
  refine t_newB X Y S hA hF0 (N := 16) (mx := 16) (by omega) (by omega) (by decide) (Nat.le_of_ble_eq_true rfl) (Nat.le_of_ble_eq_true rfl) d_Ae_init_50 (fun q141 κ141 L141 f141 H Y S s141 k141 => ?_)
  have k142 : κ141 q101 = (3, 256) := tLe_k s141.2.2.1 k132
  have k143 : κ141 q107 = (3, 256) := tLe_k s141.2.2.1 k133
  have k144 : κ141 q114 = (3, 240) := tLe_k s141.2.2.1 k134
  have k145 : κ141 q122 = (3, 16) := tLe_k s141.2.2.1 k135
  have k146 : κ141 q131 = (3, 16) := tLe_k s141.2.2.1 k131
  have e147 : f141 h = .inr (1, [.ref q101, .ref q107, .ref q114, .int (iI 0), .ref q122, .ref q131, .null]) := (s141.2.2.2 _ ⟨m137, by rw [r138]; decide, by simp⟩).1.trans e140
  have m148 : h ∈ L141 := s141.2.1 _ m137
  have r149 : (κ141 h).1 = 0 := by rw [(s141.2.2.2 _ ⟨m137, by rw [r138]; decide, by simp⟩).2]; exact r138
  refine q_putF X.1 X.2.1 X.2.2.1 i_Ae t_Ae t_Ae_ok n_Ae X.2.2.2.1 X.2.2.2.2 Y m148 e147 rfl 6 (by decide) (X.2.2.1 _ lk_Ae_25) (fun _ h9 => h9) rfl hin rfl (t_Ae_ok 6 (by decide)) rfl rfl (Nat.le_of_ble_eq_true rfl) d_Ae_init_52 (fun H locs Y => ?_)
  have Y : pH D cCl (pA L sz) s.heap L141 (va_up f141 h (.inr (1, [.ref q101, .ref q107, .ref q114, .int (iI 0), .ref q122, .ref q131, .ref q141]))) H locs := Y
  have S := tS_up (x := .inr (1, [.ref q101, .ref q107, .ref q114, .int (iI 0), .ref q122, .ref q131, .ref q141])) S (fun h9 => h9.2.2 (List.mem_singleton.mpr rfl)) (fun h9 => absurd r149 h9)
  have e151 : (va_up f141 h (.inr (1, [.ref q101, .ref q107, .ref q114, .int (iI 0), .ref q122, .ref q131, .ref q141]))) h = .inr (1, [.ref q101, .ref q107, .ref q114, .int (iI 0), .ref q122, .ref q131, .ref q141]) := q_up
  generalize va_up f141 h (.inr (1, [.ref q101, .ref q107, .ref q114, .int (iI 0), .ref q122, .ref q131, .ref q141])) = f150 at Y S e151
  refine lv_iconst (v := iI 0) X.1 X.2.1 d_Ae_init_55 (by decide) ?_
  have J155 : ∀ (n157 : Nat) (z153 : Int) (f152 : pF) (H : Heap) (locs : List Loc) (ls : Array Slot), (256 - z153).toNat = n157 → (0 ≤ z153) → (z153 ≤ 256) → (f152 h = .inr (1, [.ref q101, .ref q107, .ref q114, .int (iI 0), .ref q122, .ref q131, .ref q141])) → pH D cCl (pA L sz) s.heap L141 f152 H locs → tS E T (tFr κ L [2, 3, 4, 11] [h]) κ L f κ141 L141 f152 → lv_has ls 2 [(0, .ref h), (1, .int (iI z153))] → W p l e (kRm 1 60 6 800) s m AV below meth c H locs 6 800 QQ (F0 m 57 ls []) := by
    intro n157
    induction n157 using Nat.strongRecOn with
    | ind n157 ih156 =>
      intro z153 f152 H locs ls hm158 l153 u153 e154 Y S hl
      refine lv_iload_n X.1 X.2.1 d_Ae_init_57 rfl (lv_at hl 1 rfl) ?_
      refine lv_sipush (v := iI 256) X.1 X.2.1 d_Ae_init_58 (by decide) ?_
      refine z_icmp_ge (tgt := 99) X.1 X.2.1 d_Ae_init_61 (by decide) ⟨by omega, by omega⟩ ⟨by omega, by omega⟩ (fun h159 => ?_) (fun h159 => ?_)
      · have hle : tLe κ141 (va_up κ141 h (11, 0)) := tLe_raw r149
        have S := (tS_kind (k := (11, 0)) S m148 r149 r_h (fun h9 => h9.2.2 (List.mem_singleton.mpr rfl)) (by rw [e154]; exact ⟨_, rfl, okO_of ⟨⟨_, rfl, tLe_k hle k142⟩, ⟨_, rfl, tLe_k hle k143⟩, ⟨_, rfl, tLe_k hle k144⟩, ⟨_, rfl, (show (0 : Int) ≤ 0 by omega), (show 0 ≤ (14 : Int) by omega)⟩, ⟨_, rfl, tLe_k hle k145⟩, ⟨_, rfl, tLe_k hle k146⟩, ⟨_, rfl, tLe_k hle k141⟩, trivial⟩⟩)).1
        exact c_retv hQQ X Y hr hlk ⟨_, S, va_up_self _ _ _⟩ d_Ae_init_99
      · refine lv_aload_n X.1 X.2.1 d_Ae_init_64 rfl (lv_at hl 0 rfl) ?_
        refine q_get X.1 X.2.1 X.2.2.1 i_Ae X.2.2.2.1 X.2.2.2.2 Y m148 e154 rfl 0 (by decide) (X.2.2.1 _ lk_Ae_7) (fun _ h9 => h9) rfl d_Ae_init_65 ?_
        refine k_gets 1 (by decide) X Y KS sk_Ae_29 d_Ae_init_68 ?_
        refine lv_iload_n X.1 X.2.1 d_Ae_init_71 rfl (lv_at hl 1 rfl) ?_
        refine t_box X Y KS (by omega) (by omega) d_Ae_init_72 (fun z160 l160 u160 => ?_)
        refine lv_iload_n X.1 X.2.1 d_Ae_init_73 rfl (lv_at hl 1 rfl) ?_
        refine t_iast3 X Y S k142 (by omega) (by omega) (by omega) ⟨by omega, by omega⟩ (nF_of S k142 (by decide)) d_Ae_init_74 (fun f161 H locs Y S w161 => ?_)
        have e162 : f161 h = .inr (1, [.ref q101, .ref q107, .ref q114, .int (iI 0), .ref q122, .ref q131, .ref q141]) := (w161 _ (kr_ne k142 r149 (by decide))).trans e154
        refine lv_aload_n X.1 X.2.1 d_Ae_init_75 rfl (lv_at hl 0 rfl) ?_
        refine q_get X.1 X.2.1 X.2.2.1 i_Ae X.2.2.2.1 X.2.2.2.2 Y m148 e162 rfl 1 (by decide) (X.2.2.1 _ lk_Ae_13) (fun _ h9 => h9) rfl d_Ae_init_76 ?_
        refine lv_iload_n X.1 X.2.1 d_Ae_init_79 rfl (lv_at hl 1 rfl) ?_
        refine lv_iload_n X.1 X.2.1 d_Ae_init_80 rfl (lv_at hl 1 rfl) ?_
        refine lv_iconst (v := iI 1) X.1 X.2.1 d_Ae_init_81 (by decide) ?_
        refine lv_ishl X.1 X.2.1 d_Ae_init_82 ?_
        refine lv_iload_n X.1 X.2.1 d_Ae_init_83 rfl (lv_at hl 1 rfl) ?_
        refine lv_bipush (v := iI 7) X.1 X.2.1 d_Ae_init_84 (by decide) ?_
        refine lv_ishr X.1 X.2.1 d_Ae_init_86 ?_
        refine lv_sipush (v := iI 283) X.1 X.2.1 d_Ae_init_87 (by decide) ?_
        refine lv_imul X.1 X.2.1 d_Ae_init_90 ?_
        refine lv_ixor X.1 X.2.1 d_Ae_init_91 ?_
        obtain ⟨z163, l163, u163, e163⟩ := tw_ok z153 (by omega) (by omega)
        refine t_eq e163 ?_
        refine t_iast3 X Y S k143 (by omega) (by omega) (by omega) ⟨by omega, by omega⟩ (nF_of S k143 (by decide)) d_Ae_init_92 (fun f164 H locs Y S w164 => ?_)
        have e165 : f164 h = .inr (1, [.ref q101, .ref q107, .ref q114, .int (iI 0), .ref q122, .ref q131, .ref q141]) := (w164 _ (kr_ne k143 r149 (by decide))).trans e162
        refine lv_iinc (v := iI (z153 + 1)) (lv' := [(1, .int (iI (z153 + 1))), (0, .ref h)]) X.1 X.2.1 d_Ae_init_93 hl (k := 1) rfl ((iI_add _ _).trans (congrArg iI (by omega))) (by decide) rfl (fun ls hl => ?_)
        refine lv_goto (tgt := 57) X.1 X.2.1 d_Ae_init_96 (by decide) ?_
        exact ih156 ((256 - (z153 + 1)).toNat) (by omega) (z153 + 1) f164 _ _ _ rfl (by omega) (by omega) e165 Y S (lv_sub hl [1, 0] rfl)
  refine lv_istore_n (lv' := [(1, .int (iI 0)), (0, .ref h)]) X.1 X.2.1 d_Ae_init_56 rfl hl (by decide) rfl (fun ls hl => ?_)
  exact J155 _ 0 f150 _ _ _ rfl (by omega) (by omega) e151 Y S (lv_sub hl [1, 0] rfl)
set_option maxHeartbeats 4000000 in
set_option maxRecDepth 100000 in
theorem c_Va_init (l : Launch) (D : va_G) (E : cE) (T : cT) (κ : tK) (L : List Nat) (f : pF) (sz : Nat) (h : Nat) (m_h : h ∈ L) (r_h : (κ h).1 = 0) (e_h : f h = .inr (11, [.int (iI 0), .null, .null, .null, .null, .null, .int (iI 0), .null, .int (iI 0), .int (iI 0), .null, .null, .null])) (hw : tW E T κ L f) : Met l y_Va_init (k_Va_init :: lw_tg) (kRm 2 81 24 7856) (va_Pc [.ref h] (kPre D E T L f sz)) (va_Qv (aPv E T [2, 3, 4, 11, 13, 16, 21] [h] κ L f (fun (k : tK) (g : pF) => k h = (21, 0))) (cPost D E (pA L sz)) (pA L sz)) 24 7856 (pA L sz) := by
  refine k_enter (own := R_Va) (by decide) rfl (Nat.le_of_ble_eq_true rfl) (fun p e s m below meth c ls AV QQ H locs hQQ X Y hA hin hr hlk hml hl KS KR => ?_)
  have hl : lv_has ls 1 [(0, .ref h)] := hl
  have S : tS E T (tFr κ L [2, 3, 4, 11, 13, 16, 21] [h]) κ L f κ L f := tS_rf hw
  have hF0 : ∀ b, tFr κ L [2, 3, 4, 11, 13, 16, 21] [h] b → b ∈ L := fun b h9 => h9.1
  refine lv_aload_n X.1 X.2.1 d_Va_init_0 rfl (lv_at hl 0 rfl) ?_
  refine W.objInit X.1 X.2.1 X.2.2.2.1 (X.2.2.1 _ ol_Va) (X.2.2.1 _ o_inst) (X.2.2.1 _ o_code) rfl (by rw [hml]; exact hl.1) rfl d_Va_init_1 (Nat.le_of_ble_eq_true rfl) (Nat.le_of_ble_eq_true rfl) ?_
  refine W.eq (g2 := F0 m 4 ls []) rfl ?_
  refine lv_aload_n X.1 X.2.1 d_Va_init_4 rfl (lv_at hl 0 rfl) ?_
  refine lv_ldc (v := (1000000000)) X.1 X.2.1 X.2.2.2.1 (X.2.2.1 _ cn_Va_9) d_Va_init_5 ?_
  refine t_eq (y := iI 1000000000) (by decide) ?_
  refine q_put X.1 X.2.1 X.2.2.1 i_Va t_Va t_Va_ok n_Va X.2.2.2.1 X.2.2.2.2 Y m_h e_h rfl 0 (by decide) (X.2.2.1 _ lk_Va_10) (fun _ h9 => h9) rfl (t_Va_ok 0 (by decide)) rfl rfl (Nat.le_of_ble_eq_true rfl) d_Va_init_7 (fun H locs Y => ?_)
  have Y : pH D cCl (pA L sz) s.heap L (va_up f h (.inr (11, [.int (iI 1000000000), .null, .null, .null, .null, .null, .int (iI 0), .null, .int (iI 0), .int (iI 0), .null, .null, .null]))) H locs := Y
  have S := tS_up (x := .inr (11, [.int (iI 1000000000), .null, .null, .null, .null, .null, .int (iI 0), .null, .int (iI 0), .int (iI 0), .null, .null, .null])) S (fun h9 => h9.2.2 (List.mem_singleton.mpr rfl)) (fun h9 => absurd r_h h9)
  have e102 : (va_up f h (.inr (11, [.int (iI 1000000000), .null, .null, .null, .null, .null, .int (iI 0), .null, .int (iI 0), .int (iI 0), .null, .null, .null]))) h = .inr (11, [.int (iI 1000000000), .null, .null, .null, .null, .null, .int (iI 0), .null, .int (iI 0), .int (iI 0), .null, .null, .null]) := q_up
  generalize va_up f h (.inr (11, [.int (iI 1000000000), .null, .null, .null, .null, .null, .int (iI 0), .null, .int (iI 0), .int (iI 0), .null, .null, .null])) = f101 at Y S e102
  refine lv_aload_n X.1 X.2.1 d_Va_init_10 rfl (lv_at hl 0 rfl) ?_
  refine t_new (ci := 3) X Y S hA hF0 i_By t_By t_By_ok ck_Va_16 mk_By ini_By rfl (fs := [.null, .int (iI 0)]) (fun j hj => match j, hj with | 0, _ => rfl | 1, _ => rfl | n9 + 2, h9 => absurd (show n9 + 2 < 2 from h9) (by omega)) (Nat.le_of_ble_eq_true rfl) (Nat.le_of_ble_eq_true rfl) d_Va_init_11 (fun q103 L103 f103 H Y S s103 nl103 m103 r103 e103 nz103 => ?_)
  have e104 : f103 h = .inr (11, [.int (iI 1000000000), .null, .null, .null, .null, .null, .int (iI 0), .null, .int (iI 0), .int (iI 0), .null, .null, .null]) := (s103.2.2.2 _ ⟨m_h, by rw [r_h]; decide, by simp⟩).1.trans e102
  have m105 : h ∈ L103 := s103.2.1 _ m_h
  have r106 : (κ h).1 = 0 := by rw [(s103.2.2.2 _ ⟨m_h, by rw [r_h]; decide, by simp⟩).2]; exact r_h
  refine lv_dup X.1 X.2.1 d_Va_init_14 rfl ?_
  refine lv_sipush (v := iI 6144) X.1 X.2.1 d_Va_init_15 (by decide) ?_
  refine t_mk (x_runI (As := [.int (iI 6144)]) (rest := [.ref q103, .ref h]) (n := 1) X hml hl.1 (c_By_init l D E T κ L103 f103 H.size q103 m103 r103 e103 6144 (by omega) (by omega) S.1 6144 6144 (by omega) (by omega) (by decide)) (ok_k X Y hA KS KR) kl_Va_By_init ks_By_init ki_By_init ini_By rfl ⟨rfl, rfl⟩ hd_By_init.2 ⟨Nat.le_of_ble_eq_true rfl, Nat.le_of_ble_eq_true rfl⟩ rfl (Nat.le_of_ble_eq_true rfl) d_Va_init_18 ⟨Nat.le_of_ble_eq_true rfl, Nat.le_of_ble_eq_true rfl⟩) X Y hA S (by decide) nl103 (fun κ107 L107 f107 H locs Y S s107 p107 => ?_)
  have k107 := p107
  have e108 : f107 h = .inr (11, [.int (iI 1000000000), .null, .null, .null, .null, .null, .int (iI 0), .null, .int (iI 0), .int (iI 0), .null, .null, .null]) := (s107.2.2.2 _ ⟨m105, by rw [r106]; decide, by simp only [List.mem_singleton]; exact (nz103 _ m_h)⟩).1.trans e104
  have m109 : h ∈ L107 := s107.2.1 _ m105
  have r110 : (κ107 h).1 = 0 := by rw [(s107.2.2.2 _ ⟨m105, by rw [r106]; decide, by simp only [List.mem_singleton]; exact (nz103 _ m_h)⟩).2]; exact r106
  refine q_putF X.1 X.2.1 X.2.2.1 i_Va t_Va t_Va_ok n_Va X.2.2.2.1 X.2.2.2.2 Y m109 e108 rfl 1 (by decide) (X.2.2.1 _ lk_Va_21) (fun _ h9 => h9) rfl hin rfl (t_Va_ok 1 (by decide)) rfl rfl (Nat.le_of_ble_eq_true rfl) d_Va_init_21 (fun H locs Y => ?_)
  have Y : pH D cCl (pA L sz) s.heap L107 (va_up f107 h (.inr (11, [.int (iI 1000000000), .ref q103, .null, .null, .null, .null, .int (iI 0), .null, .int (iI 0), .int (iI 0), .null, .null, .null]))) H locs := Y
  have S := tS_up (x := .inr (11, [.int (iI 1000000000), .ref q103, .null, .null, .null, .null, .int (iI 0), .null, .int (iI 0), .int (iI 0), .null, .null, .null])) S (fun h9 => h9.2.2 (List.mem_singleton.mpr rfl)) (fun h9 => absurd r110 h9)
  have e112 : (va_up f107 h (.inr (11, [.int (iI 1000000000), .ref q103, .null, .null, .null, .null, .int (iI 0), .null, .int (iI 0), .int (iI 0), .null, .null, .null]))) h = .inr (11, [.int (iI 1000000000), .ref q103, .null, .null, .null, .null, .int (iI 0), .null, .int (iI 0), .int (iI 0), .null, .null, .null]) := q_up
  generalize va_up f107 h (.inr (11, [.int (iI 1000000000), .ref q103, .null, .null, .null, .null, .int (iI 0), .null, .int (iI 0), .int (iI 0), .null, .null, .null])) = f111 at Y S e112
  refine lv_aload_n X.1 X.2.1 d_Va_init_24 rfl (lv_at hl 0 rfl) ?_
  refine t_new (ci := 3) X Y S hA hF0 i_By t_By t_By_ok ck_Va_16 mk_By ini_By rfl (fs := [.null, .int (iI 0)]) (fun j hj => match j, hj with | 0, _ => rfl | 1, _ => rfl | n9 + 2, h9 => absurd (show n9 + 2 < 2 from h9) (by omega)) (Nat.le_of_ble_eq_true rfl) (Nat.le_of_ble_eq_true rfl) d_Va_init_25 (fun q113 L113 f113 H Y S s113 nl113 m113 r113 e113 nz113 => ?_)
  have k114 : κ107 q103 = (13, 6144) := tLe_k s113.2.2.1 k107
  have e115 : f113 h = .inr (11, [.int (iI 1000000000), .ref q103, .null, .null, .null, .null, .int (iI 0), .null, .int (iI 0), .int (iI 0), .null, .null, .null]) := (s113.2.2.2 _ ⟨m109, by rw [r110]; decide, by simp⟩).1.trans e112
  have m116 : h ∈ L113 := s113.2.1 _ m109
  have r117 : (κ107 h).1 = 0 := by rw [(s113.2.2.2 _ ⟨m109, by rw [r110]; decide, by simp⟩).2]; exact r110
  refine lv_dup X.1 X.2.1 d_Va_init_28 rfl ?_
  refine lv_sipush (v := iI 512) X.1 X.2.1 d_Va_init_29 (by decide) ?_
  refine t_mk (x_runI (As := [.int (iI 512)]) (rest := [.ref q113, .ref h]) (n := 1) X hml hl.1 (c_By_init l D E T κ107 L113 f113 H.size q113 m113 r113 e113 512 (by omega) (by omega) S.1 512 512 (by omega) (by omega) (by decide)) (ok_k X Y hA KS KR) kl_Va_By_init ks_By_init ki_By_init ini_By rfl ⟨rfl, rfl⟩ hd_By_init.2 ⟨Nat.le_of_ble_eq_true rfl, Nat.le_of_ble_eq_true rfl⟩ rfl (Nat.le_of_ble_eq_true rfl) d_Va_init_32 ⟨Nat.le_of_ble_eq_true rfl, Nat.le_of_ble_eq_true rfl⟩) X Y hA S (by decide) nl113 (fun κ118 L118 f118 H locs Y S s118 p118 => ?_)
  have k118 := p118
  have k119 : κ118 q103 = (13, 6144) := tLe_k s118.2.2.1 k114
  have e120 : f118 h = .inr (11, [.int (iI 1000000000), .ref q103, .null, .null, .null, .null, .int (iI 0), .null, .int (iI 0), .int (iI 0), .null, .null, .null]) := (s118.2.2.2 _ ⟨m116, by rw [r117]; decide, by simp only [List.mem_singleton]; exact (nz113 _ m109)⟩).1.trans e115
  have m121 : h ∈ L118 := s118.2.1 _ m116
  have r122 : (κ118 h).1 = 0 := by rw [(s118.2.2.2 _ ⟨m116, by rw [r117]; decide, by simp only [List.mem_singleton]; exact (nz113 _ m109)⟩).2]; exact r117
  refine q_putF X.1 X.2.1 X.2.2.1 i_Va t_Va t_Va_ok n_Va X.2.2.2.1 X.2.2.2.2 Y m121 e120 rfl 2 (by decide) (X.2.2.1 _ lk_Va_25) (fun _ h9 => h9) rfl hin rfl (t_Va_ok 2 (by decide)) rfl rfl (Nat.le_of_ble_eq_true rfl) d_Va_init_35 (fun H locs Y => ?_)
  have Y : pH D cCl (pA L sz) s.heap L118 (va_up f118 h (.inr (11, [.int (iI 1000000000), .ref q103, .ref q113, .null, .null, .null, .int (iI 0), .null, .int (iI 0), .int (iI 0), .null, .null, .null]))) H locs := Y
  have S := tS_up (x := .inr (11, [.int (iI 1000000000), .ref q103, .ref q113, .null, .null, .null, .int (iI 0), .null, .int (iI 0), .int (iI 0), .null, .null, .null])) S (fun h9 => h9.2.2 (List.mem_singleton.mpr rfl)) (fun h9 => absurd r122 h9)
  have e124 : (va_up f118 h (.inr (11, [.int (iI 1000000000), .ref q103, .ref q113, .null, .null, .null, .int (iI 0), .null, .int (iI 0), .int (iI 0), .null, .null, .null]))) h = .inr (11, [.int (iI 1000000000), .ref q103, .ref q113, .null, .null, .null, .int (iI 0), .null, .int (iI 0), .int (iI 0), .null, .null, .null]) := q_up
  generalize va_up f118 h (.inr (11, [.int (iI 1000000000), .ref q103, .ref q113, .null, .null, .null, .int (iI 0), .null, .int (iI 0), .int (iI 0), .null, .null, .null])) = f123 at Y S e124
  refine lv_aload_n X.1 X.2.1 d_Va_init_38 rfl (lv_at hl 0 rfl) ?_
  refine t_new (ci := 6) X Y S hA hF0 i_Ha t_Ha t_Ha_ok ck_Va_28 mk_Ha ini_Ha rfl (fs := [.null, .null, .null, .null, .null, .int (iI 0), .int (iI 0), .null]) (fun j hj => match j, hj with | 0, _ => rfl | 1, _ => rfl | 2, _ => rfl | 3, _ => rfl | 4, _ => rfl | 5, _ => rfl | 6, _ => rfl | 7, _ => rfl | n9 + 8, h9 => absurd (show n9 + 8 < 8 from h9) (by omega)) (Nat.le_of_ble_eq_true rfl) (Nat.le_of_ble_eq_true rfl) d_Va_init_39 (fun q125 L125 f125 H Y S s125 nl125 m125 r125 e125 nz125 => ?_)
  have k126 : κ118 q103 = (13, 6144) := tLe_k s125.2.2.1 k119
  have k127 : κ118 q113 = (13, 512) := tLe_k s125.2.2.1 k118
  have e128 : f125 h = .inr (11, [.int (iI 1000000000), .ref q103, .ref q113, .null, .null, .null, .int (iI 0), .null, .int (iI 0), .int (iI 0), .null, .null, .null]) := (s125.2.2.2 _ ⟨m121, by rw [r122]; decide, by simp⟩).1.trans e124
  have m129 : h ∈ L125 := s125.2.1 _ m121
  have r130 : (κ118 h).1 = 0 := by rw [(s125.2.2.2 _ ⟨m121, by rw [r122]; decide, by simp⟩).2]; exact r122
  refine lv_dup X.1 X.2.1 d_Va_init_42 rfl ?_
  refine t_mk (x_runIN (As := []) (rest := [.ref q125, .ref h]) (n := 0) X KR hml hl.1 (c_Ha_init l D E T κ118 L125 f125 H.size q125 m125 r125 e125 S.1) (ok_k X Y hA KS KR) (by decide) ks_Ha_init ki_Ha_init ini_Ha rfl ⟨rfl, rfl⟩ hd_Ha_init.2 ⟨Nat.le_of_ble_eq_true rfl, Nat.le_of_ble_eq_true rfl⟩ rfl (Nat.le_of_ble_eq_true rfl) d_Va_init_43 ⟨Nat.le_of_ble_eq_true rfl, Nat.le_of_ble_eq_true rfl⟩) X Y hA S (by decide) nl125 (fun κ131 L131 f131 H locs Y S s131 p131 => ?_)
  have k131 := p131
  have k132 : κ131 q103 = (13, 6144) := tLe_k s131.2.2.1 k126
  have k133 : κ131 q113 = (13, 512) := tLe_k s131.2.2.1 k127
  have e134 : f131 h = .inr (11, [.int (iI 1000000000), .ref q103, .ref q113, .null, .null, .null, .int (iI 0), .null, .int (iI 0), .int (iI 0), .null, .null, .null]) := (s131.2.2.2 _ ⟨m129, by rw [r130]; decide, by simp only [List.mem_singleton]; exact (nz125 _ m121)⟩).1.trans e128
  have m135 : h ∈ L131 := s131.2.1 _ m129
  have r136 : (κ131 h).1 = 0 := by rw [(s131.2.2.2 _ ⟨m129, by rw [r130]; decide, by simp only [List.mem_singleton]; exact (nz125 _ m121)⟩).2]; exact r130
  refine q_putF X.1 X.2.1 X.2.2.1 i_Va t_Va t_Va_ok n_Va X.2.2.2.1 X.2.2.2.2 Y m135 e134 rfl 3 (by decide) (X.2.2.1 _ lk_Va_31) (fun _ h9 => h9) rfl hin rfl (t_Va_ok 3 (by decide)) rfl rfl (Nat.le_of_ble_eq_true rfl) d_Va_init_46 (fun H locs Y => ?_)
  have Y : pH D cCl (pA L sz) s.heap L131 (va_up f131 h (.inr (11, [.int (iI 1000000000), .ref q103, .ref q113, .ref q125, .null, .null, .int (iI 0), .null, .int (iI 0), .int (iI 0), .null, .null, .null]))) H locs := Y
  have S := tS_up (x := .inr (11, [.int (iI 1000000000), .ref q103, .ref q113, .ref q125, .null, .null, .int (iI 0), .null, .int (iI 0), .int (iI 0), .null, .null, .null])) S (fun h9 => h9.2.2 (List.mem_singleton.mpr rfl)) (fun h9 => absurd r136 h9)
  have e138 : (va_up f131 h (.inr (11, [.int (iI 1000000000), .ref q103, .ref q113, .ref q125, .null, .null, .int (iI 0), .null, .int (iI 0), .int (iI 0), .null, .null, .null]))) h = .inr (11, [.int (iI 1000000000), .ref q103, .ref q113, .ref q125, .null, .null, .int (iI 0), .null, .int (iI 0), .int (iI 0), .null, .null, .null]) := q_up
  generalize va_up f131 h (.inr (11, [.int (iI 1000000000), .ref q103, .ref q113, .ref q125, .null, .null, .int (iI 0), .null, .int (iI 0), .int (iI 0), .null, .null, .null])) = f137 at Y S e138
  refine lv_aload_n X.1 X.2.1 d_Va_init_49 rfl (lv_at hl 0 rfl) ?_
  refine t_new (ci := 1) X Y S hA hF0 i_Ae t_Ae t_Ae_ok ck_Va_35 mk_Ae ini_Ae rfl (fs := [.null, .null, .null, .int (iI 0), .null, .null, .null]) (fun j hj => match j, hj with | 0, _ => rfl | 1, _ => rfl | 2, _ => rfl | 3, _ => rfl | 4, _ => rfl | 5, _ => rfl | 6, _ => rfl | n9 + 7, h9 => absurd (show n9 + 7 < 7 from h9) (by omega)) (Nat.le_of_ble_eq_true rfl) (Nat.le_of_ble_eq_true rfl) d_Va_init_50 (fun q139 L139 f139 H Y S s139 nl139 m139 r139 e139 nz139 => ?_)
  have k140 : κ131 q103 = (13, 6144) := tLe_k s139.2.2.1 k132
  have k141 : κ131 q113 = (13, 512) := tLe_k s139.2.2.1 k133
  have k142 : κ131 q125 = (16, 0) := tLe_k s139.2.2.1 k131
  have e143 : f139 h = .inr (11, [.int (iI 1000000000), .ref q103, .ref q113, .ref q125, .null, .null, .int (iI 0), .null, .int (iI 0), .int (iI 0), .null, .null, .null]) := (s139.2.2.2 _ ⟨m135, by rw [r136]; decide, by simp⟩).1.trans e138
  have m144 : h ∈ L139 := s139.2.1 _ m135
  have r145 : (κ131 h).1 = 0 := by rw [(s139.2.2.2 _ ⟨m135, by rw [r136]; decide, by simp⟩).2]; exact r136
  refine lv_dup X.1 X.2.1 d_Va_init_53 rfl ?_
  refine t_mk (x_runI (As := []) (rest := [.ref q139, .ref h]) (n := 0) X hml hl.1 (c_Ae_init l D E T κ131 L139 f139 H.size q139 m139 r139 e139 S.1) (ok_k X Y hA KS KR) kl_Va_Ae_init ks_Ae_init ki_Ae_init ini_Ae rfl ⟨rfl, rfl⟩ hd_Ae_init.2 ⟨Nat.le_of_ble_eq_true rfl, Nat.le_of_ble_eq_true rfl⟩ rfl (Nat.le_of_ble_eq_true rfl) d_Va_init_54 ⟨Nat.le_of_ble_eq_true rfl, Nat.le_of_ble_eq_true rfl⟩) X Y hA S (by decide) nl139 (fun κ146 L146 f146 H locs Y S s146 p146 => ?_)
  have k146 := p146
  have k147 : κ146 q103 = (13, 6144) := tLe_k s146.2.2.1 k140
  have k148 : κ146 q113 = (13, 512) := tLe_k s146.2.2.1 k141
  have k149 : κ146 q125 = (16, 0) := tLe_k s146.2.2.1 k142
  have e150 : f146 h = .inr (11, [.int (iI 1000000000), .ref q103, .ref q113, .ref q125, .null, .null, .int (iI 0), .null, .int (iI 0), .int (iI 0), .null, .null, .null]) := (s146.2.2.2 _ ⟨m144, by rw [r145]; decide, by simp only [List.mem_singleton]; exact (nz139 _ m135)⟩).1.trans e143
  have m151 : h ∈ L146 := s146.2.1 _ m144
  have r152 : (κ146 h).1 = 0 := by rw [(s146.2.2.2 _ ⟨m144, by rw [r145]; decide, by simp only [List.mem_singleton]; exact (nz139 _ m135)⟩).2]; exact r145
  refine q_putF X.1 X.2.1 X.2.2.1 i_Va t_Va t_Va_ok n_Va X.2.2.2.1 X.2.2.2.2 Y m151 e150 rfl 4 (by decide) (X.2.2.1 _ lk_Va_38) (fun _ h9 => h9) rfl hin rfl (t_Va_ok 4 (by decide)) rfl rfl (Nat.le_of_ble_eq_true rfl) d_Va_init_57 (fun H locs Y => ?_)
  have Y : pH D cCl (pA L sz) s.heap L146 (va_up f146 h (.inr (11, [.int (iI 1000000000), .ref q103, .ref q113, .ref q125, .ref q139, .null, .int (iI 0), .null, .int (iI 0), .int (iI 0), .null, .null, .null]))) H locs := Y
  have S := tS_up (x := .inr (11, [.int (iI 1000000000), .ref q103, .ref q113, .ref q125, .ref q139, .null, .int (iI 0), .null, .int (iI 0), .int (iI 0), .null, .null, .null])) S (fun h9 => h9.2.2 (List.mem_singleton.mpr rfl)) (fun h9 => absurd r152 h9)
  have e154 : (va_up f146 h (.inr (11, [.int (iI 1000000000), .ref q103, .ref q113, .ref q125, .ref q139, .null, .int (iI 0), .null, .int (iI 0), .int (iI 0), .null, .null, .null]))) h = .inr (11, [.int (iI 1000000000), .ref q103, .ref q113, .ref q125, .ref q139, .null, .int (iI 0), .null, .int (iI 0), .int (iI 0), .null, .null, .null]) := q_up
  generalize va_up f146 h (.inr (11, [.int (iI 1000000000), .ref q103, .ref q113, .ref q125, .ref q139, .null, .int (iI 0), .null, .int (iI 0), .int (iI 0), .null, .null, .null])) = f153 at Y S e154
  refine lv_aload_n X.1 X.2.1 d_Va_init_60 rfl (lv_at hl 0 rfl) ?_
  refine lv_bipush (v := iI 64) X.1 X.2.1 d_Va_init_61 (by decide) ?_
  refine t_newB X Y S hA hF0 (N := 64) (mx := 64) (by omega) (by omega) (by decide) (Nat.le_of_ble_eq_true rfl) (Nat.le_of_ble_eq_true rfl) d_Va_init_63 (fun q155 κ155 L155 f155 H Y S s155 k155 => ?_)
  have k156 : κ155 q103 = (13, 6144) := tLe_k s155.2.2.1 k147
  have k157 : κ155 q113 = (13, 512) := tLe_k s155.2.2.1 k148
  have k158 : κ155 q125 = (16, 0) := tLe_k s155.2.2.1 k149
  have k159 : κ155 q139 = (11, 0) := tLe_k s155.2.2.1 k146
  have e160 : f155 h = .inr (11, [.int (iI 1000000000), .ref q103, .ref q113, .ref q125, .ref q139, .null, .int (iI 0), .null, .int (iI 0), .int (iI 0), .null, .null, .null]) := (s155.2.2.2 _ ⟨m151, by rw [r152]; decide, by simp⟩).1.trans e154
  have m161 : h ∈ L155 := s155.2.1 _ m151
  have r162 : (κ155 h).1 = 0 := by rw [(s155.2.2.2 _ ⟨m151, by rw [r152]; decide, by simp⟩).2]; exact r152
  refine q_putF X.1 X.2.1 X.2.2.1 i_Va t_Va t_Va_ok n_Va X.2.2.2.1 X.2.2.2.2 Y m161 e160 rfl 5 (by decide) (X.2.2.1 _ lk_Va_42) (fun _ h9 => h9) rfl hin rfl (t_Va_ok 5 (by decide)) rfl rfl (Nat.le_of_ble_eq_true rfl) d_Va_init_65 (fun H locs Y => ?_)
  have Y : pH D cCl (pA L sz) s.heap L155 (va_up f155 h (.inr (11, [.int (iI 1000000000), .ref q103, .ref q113, .ref q125, .ref q139, .ref q155, .int (iI 0), .null, .int (iI 0), .int (iI 0), .null, .null, .null]))) H locs := Y
  have S := tS_up (x := .inr (11, [.int (iI 1000000000), .ref q103, .ref q113, .ref q125, .ref q139, .ref q155, .int (iI 0), .null, .int (iI 0), .int (iI 0), .null, .null, .null])) S (fun h9 => h9.2.2 (List.mem_singleton.mpr rfl)) (fun h9 => absurd r162 h9)
  have e164 : (va_up f155 h (.inr (11, [.int (iI 1000000000), .ref q103, .ref q113, .ref q125, .ref q139, .ref q155, .int (iI 0), .null, .int (iI 0), .int (iI 0), .null, .null, .null]))) h = .inr (11, [.int (iI 1000000000), .ref q103, .ref q113, .ref q125, .ref q139, .ref q155, .int (iI 0), .null, .int (iI 0), .int (iI 0), .null, .null, .null]) := q_up
  generalize va_up f155 h (.inr (11, [.int (iI 1000000000), .ref q103, .ref q113, .ref q125, .ref q139, .ref q155, .int (iI 0), .null, .int (iI 0), .int (iI 0), .null, .null, .null])) = f163 at Y S e164
  refine lv_aload_n X.1 X.2.1 d_Va_init_68 rfl (lv_at hl 0 rfl) ?_
  refine lv_bipush (v := iI 20) X.1 X.2.1 d_Va_init_69 (by decide) ?_
  refine t_newB X Y S hA hF0 (N := 20) (mx := 20) (by omega) (by omega) (by decide) (Nat.le_of_ble_eq_true rfl) (Nat.le_of_ble_eq_true rfl) d_Va_init_71 (fun q165 κ165 L165 f165 H Y S s165 k165 => ?_)
  have k166 : κ165 q103 = (13, 6144) := tLe_k s165.2.2.1 k156
  have k167 : κ165 q113 = (13, 512) := tLe_k s165.2.2.1 k157
  have k168 : κ165 q125 = (16, 0) := tLe_k s165.2.2.1 k158
  have k169 : κ165 q139 = (11, 0) := tLe_k s165.2.2.1 k159
  have k170 : κ165 q155 = (1, 64) := tLe_k s165.2.2.1 k155
  have e171 : f165 h = .inr (11, [.int (iI 1000000000), .ref q103, .ref q113, .ref q125, .ref q139, .ref q155, .int (iI 0), .null, .int (iI 0), .int (iI 0), .null, .null, .null]) := (s165.2.2.2 _ ⟨m161, by rw [r162]; decide, by simp⟩).1.trans e164
  have m172 : h ∈ L165 := s165.2.1 _ m161
  have r173 : (κ165 h).1 = 0 := by rw [(s165.2.2.2 _ ⟨m161, by rw [r162]; decide, by simp⟩).2]; exact r162
  refine q_putF X.1 X.2.1 X.2.2.1 i_Va t_Va t_Va_ok n_Va X.2.2.2.1 X.2.2.2.2 Y m172 e171 rfl 7 (by decide) (X.2.2.1 _ lk_Va_46) (fun _ h9 => h9) rfl hin rfl (t_Va_ok 7 (by decide)) rfl rfl (Nat.le_of_ble_eq_true rfl) d_Va_init_73 (fun H locs Y => ?_)
  have Y : pH D cCl (pA L sz) s.heap L165 (va_up f165 h (.inr (11, [.int (iI 1000000000), .ref q103, .ref q113, .ref q125, .ref q139, .ref q155, .int (iI 0), .ref q165, .int (iI 0), .int (iI 0), .null, .null, .null]))) H locs := Y
  have S := tS_up (x := .inr (11, [.int (iI 1000000000), .ref q103, .ref q113, .ref q125, .ref q139, .ref q155, .int (iI 0), .ref q165, .int (iI 0), .int (iI 0), .null, .null, .null])) S (fun h9 => h9.2.2 (List.mem_singleton.mpr rfl)) (fun h9 => absurd r173 h9)
  have e175 : (va_up f165 h (.inr (11, [.int (iI 1000000000), .ref q103, .ref q113, .ref q125, .ref q139, .ref q155, .int (iI 0), .ref q165, .int (iI 0), .int (iI 0), .null, .null, .null]))) h = .inr (11, [.int (iI 1000000000), .ref q103, .ref q113, .ref q125, .ref q139, .ref q155, .int (iI 0), .ref q165, .int (iI 0), .int (iI 0), .null, .null, .null]) := q_up
  generalize va_up f165 h (.inr (11, [.int (iI 1000000000), .ref q103, .ref q113, .ref q125, .ref q139, .ref q155, .int (iI 0), .ref q165, .int (iI 0), .int (iI 0), .null, .null, .null])) = f174 at Y S e175
  refine lv_aload_n X.1 X.2.1 d_Va_init_76 rfl (lv_at hl 0 rfl) ?_
  refine lv_bipush (v := iI 20) X.1 X.2.1 d_Va_init_77 (by decide) ?_
  refine q_put X.1 X.2.1 X.2.2.1 i_Va t_Va t_Va_ok n_Va X.2.2.2.1 X.2.2.2.2 Y m172 e175 rfl 8 (by decide) (X.2.2.1 _ lk_Va_49) (fun _ h9 => h9) rfl (t_Va_ok 8 (by decide)) rfl rfl (Nat.le_of_ble_eq_true rfl) d_Va_init_79 (fun H locs Y => ?_)
  have Y : pH D cCl (pA L sz) s.heap L165 (va_up f174 h (.inr (11, [.int (iI 1000000000), .ref q103, .ref q113, .ref q125, .ref q139, .ref q155, .int (iI 0), .ref q165, .int (iI 20), .int (iI 0), .null, .null, .null]))) H locs := Y
  have S := tS_up (x := .inr (11, [.int (iI 1000000000), .ref q103, .ref q113, .ref q125, .ref q139, .ref q155, .int (iI 0), .ref q165, .int (iI 20), .int (iI 0), .null, .null, .null])) S (fun h9 => h9.2.2 (List.mem_singleton.mpr rfl)) (fun h9 => absurd r173 h9)
  have e177 : (va_up f174 h (.inr (11, [.int (iI 1000000000), .ref q103, .ref q113, .ref q125, .ref q139, .ref q155, .int (iI 0), .ref q165, .int (iI 20), .int (iI 0), .null, .null, .null]))) h = .inr (11, [.int (iI 1000000000), .ref q103, .ref q113, .ref q125, .ref q139, .ref q155, .int (iI 0), .ref q165, .int (iI 20), .int (iI 0), .null, .null, .null]) := q_up
  generalize va_up f174 h (.inr (11, [.int (iI 1000000000), .ref q103, .ref q113, .ref q125, .ref q139, .ref q155, .int (iI 0), .ref q165, .int (iI 20), .int (iI 0), .null, .null, .null])) = f176 at Y S e177
  refine lv_aload_n X.1 X.2.1 d_Va_init_82 rfl (lv_at hl 0 rfl) ?_
  refine lv_bipush (v := iI 32) X.1 X.2.1 d_Va_init_83 (by decide) ?_
  refine t_newB X Y S hA hF0 (N := 32) (mx := 32) (by omega) (by omega) (by decide) (Nat.le_of_ble_eq_true rfl) (Nat.le_of_ble_eq_true rfl) d_Va_init_85 (fun q178 κ178 L178 f178 H Y S s178 k178 => ?_)
  have k179 : κ178 q103 = (13, 6144) := tLe_k s178.2.2.1 k166
  have k180 : κ178 q113 = (13, 512) := tLe_k s178.2.2.1 k167
  have k181 : κ178 q125 = (16, 0) := tLe_k s178.2.2.1 k168
  have k182 : κ178 q139 = (11, 0) := tLe_k s178.2.2.1 k169
  have k183 : κ178 q155 = (1, 64) := tLe_k s178.2.2.1 k170
  have k184 : κ178 q165 = (1, 20) := tLe_k s178.2.2.1 k165
  have e185 : f178 h = .inr (11, [.int (iI 1000000000), .ref q103, .ref q113, .ref q125, .ref q139, .ref q155, .int (iI 0), .ref q165, .int (iI 20), .int (iI 0), .null, .null, .null]) := (s178.2.2.2 _ ⟨m172, by rw [r173]; decide, by simp⟩).1.trans e177
  have m186 : h ∈ L178 := s178.2.1 _ m172
  have r187 : (κ178 h).1 = 0 := by rw [(s178.2.2.2 _ ⟨m172, by rw [r173]; decide, by simp⟩).2]; exact r173
  refine q_putF X.1 X.2.1 X.2.2.1 i_Va t_Va t_Va_ok n_Va X.2.2.2.1 X.2.2.2.2 Y m186 e185 rfl 10 (by decide) (X.2.2.1 _ lk_Va_52) (fun _ h9 => h9) rfl hin rfl (t_Va_ok 10 (by decide)) rfl rfl (Nat.le_of_ble_eq_true rfl) d_Va_init_87 (fun H locs Y => ?_)
  have Y : pH D cCl (pA L sz) s.heap L178 (va_up f178 h (.inr (11, [.int (iI 1000000000), .ref q103, .ref q113, .ref q125, .ref q139, .ref q155, .int (iI 0), .ref q165, .int (iI 20), .int (iI 0), .ref q178, .null, .null]))) H locs := Y
  have S := tS_up (x := .inr (11, [.int (iI 1000000000), .ref q103, .ref q113, .ref q125, .ref q139, .ref q155, .int (iI 0), .ref q165, .int (iI 20), .int (iI 0), .ref q178, .null, .null])) S (fun h9 => h9.2.2 (List.mem_singleton.mpr rfl)) (fun h9 => absurd r187 h9)
  have e189 : (va_up f178 h (.inr (11, [.int (iI 1000000000), .ref q103, .ref q113, .ref q125, .ref q139, .ref q155, .int (iI 0), .ref q165, .int (iI 20), .int (iI 0), .ref q178, .null, .null]))) h = .inr (11, [.int (iI 1000000000), .ref q103, .ref q113, .ref q125, .ref q139, .ref q155, .int (iI 0), .ref q165, .int (iI 20), .int (iI 0), .ref q178, .null, .null]) := q_up
  generalize va_up f178 h (.inr (11, [.int (iI 1000000000), .ref q103, .ref q113, .ref q125, .ref q139, .ref q155, .int (iI 0), .ref q165, .int (iI 20), .int (iI 0), .ref q178, .null, .null])) = f188 at Y S e189
  refine lv_aload_n X.1 X.2.1 d_Va_init_90 rfl (lv_at hl 0 rfl) ?_
  refine lv_bipush (v := iI 20) X.1 X.2.1 d_Va_init_91 (by decide) ?_
  refine t_newB X Y S hA hF0 (N := 20) (mx := 20) (by omega) (by omega) (by decide) (Nat.le_of_ble_eq_true rfl) (Nat.le_of_ble_eq_true rfl) d_Va_init_93 (fun q190 κ190 L190 f190 H Y S s190 k190 => ?_)
  have k191 : κ190 q103 = (13, 6144) := tLe_k s190.2.2.1 k179
  have k192 : κ190 q113 = (13, 512) := tLe_k s190.2.2.1 k180
  have k193 : κ190 q125 = (16, 0) := tLe_k s190.2.2.1 k181
  have k194 : κ190 q139 = (11, 0) := tLe_k s190.2.2.1 k182
  have k195 : κ190 q155 = (1, 64) := tLe_k s190.2.2.1 k183
  have k196 : κ190 q165 = (1, 20) := tLe_k s190.2.2.1 k184
  have k197 : κ190 q178 = (1, 32) := tLe_k s190.2.2.1 k178
  have e198 : f190 h = .inr (11, [.int (iI 1000000000), .ref q103, .ref q113, .ref q125, .ref q139, .ref q155, .int (iI 0), .ref q165, .int (iI 20), .int (iI 0), .ref q178, .null, .null]) := (s190.2.2.2 _ ⟨m186, by rw [r187]; decide, by simp⟩).1.trans e189
  have m199 : h ∈ L190 := s190.2.1 _ m186
  have r200 : (κ190 h).1 = 0 := by rw [(s190.2.2.2 _ ⟨m186, by rw [r187]; decide, by simp⟩).2]; exact r187
  refine q_putF X.1 X.2.1 X.2.2.1 i_Va t_Va t_Va_ok n_Va X.2.2.2.1 X.2.2.2.2 Y m199 e198 rfl 11 (by decide) (X.2.2.1 _ lk_Va_55) (fun _ h9 => h9) rfl hin rfl (t_Va_ok 11 (by decide)) rfl rfl (Nat.le_of_ble_eq_true rfl) d_Va_init_95 (fun H locs Y => ?_)
  have Y : pH D cCl (pA L sz) s.heap L190 (va_up f190 h (.inr (11, [.int (iI 1000000000), .ref q103, .ref q113, .ref q125, .ref q139, .ref q155, .int (iI 0), .ref q165, .int (iI 20), .int (iI 0), .ref q178, .ref q190, .null]))) H locs := Y
  have S := tS_up (x := .inr (11, [.int (iI 1000000000), .ref q103, .ref q113, .ref q125, .ref q139, .ref q155, .int (iI 0), .ref q165, .int (iI 20), .int (iI 0), .ref q178, .ref q190, .null])) S (fun h9 => h9.2.2 (List.mem_singleton.mpr rfl)) (fun h9 => absurd r200 h9)
  have e202 : (va_up f190 h (.inr (11, [.int (iI 1000000000), .ref q103, .ref q113, .ref q125, .ref q139, .ref q155, .int (iI 0), .ref q165, .int (iI 20), .int (iI 0), .ref q178, .ref q190, .null]))) h = .inr (11, [.int (iI 1000000000), .ref q103, .ref q113, .ref q125, .ref q139, .ref q155, .int (iI 0), .ref q165, .int (iI 20), .int (iI 0), .ref q178, .ref q190, .null]) := q_up
  generalize va_up f190 h (.inr (11, [.int (iI 1000000000), .ref q103, .ref q113, .ref q125, .ref q139, .ref q155, .int (iI 0), .ref q165, .int (iI 20), .int (iI 0), .ref q178, .ref q190, .null])) = f201 at Y S e202
  refine lv_aload_n X.1 X.2.1 d_Va_init_98 rfl (lv_at hl 0 rfl) ?_
  refine t_new (ci := 3) X Y S hA hF0 i_By t_By t_By_ok ck_Va_16 mk_By ini_By rfl (fs := [.null, .int (iI 0)]) (fun j hj => match j, hj with | 0, _ => rfl | 1, _ => rfl | n9 + 2, h9 => absurd (show n9 + 2 < 2 from h9) (by omega)) (Nat.le_of_ble_eq_true rfl) (Nat.le_of_ble_eq_true rfl) d_Va_init_99 (fun q203 L203 f203 H Y S s203 nl203 m203 r203 e203 nz203 => ?_)
  have k204 : κ190 q103 = (13, 6144) := tLe_k s203.2.2.1 k191
  have k205 : κ190 q113 = (13, 512) := tLe_k s203.2.2.1 k192
  have k206 : κ190 q125 = (16, 0) := tLe_k s203.2.2.1 k193
  have k207 : κ190 q139 = (11, 0) := tLe_k s203.2.2.1 k194
  have k208 : κ190 q155 = (1, 64) := tLe_k s203.2.2.1 k195
  have k209 : κ190 q165 = (1, 20) := tLe_k s203.2.2.1 k196
  have k210 : κ190 q178 = (1, 32) := tLe_k s203.2.2.1 k197
  have k211 : κ190 q190 = (1, 20) := tLe_k s203.2.2.1 k190
  have e212 : f203 h = .inr (11, [.int (iI 1000000000), .ref q103, .ref q113, .ref q125, .ref q139, .ref q155, .int (iI 0), .ref q165, .int (iI 20), .int (iI 0), .ref q178, .ref q190, .null]) := (s203.2.2.2 _ ⟨m199, by rw [r200]; decide, by simp⟩).1.trans e202
  have m213 : h ∈ L203 := s203.2.1 _ m199
  have r214 : (κ190 h).1 = 0 := by rw [(s203.2.2.2 _ ⟨m199, by rw [r200]; decide, by simp⟩).2]; exact r200
  refine lv_dup X.1 X.2.1 d_Va_init_102 rfl ?_
  refine lv_bipush (v := iI 64) X.1 X.2.1 d_Va_init_103 (by decide) ?_
  refine t_mk (x_runI (As := [.int (iI 64)]) (rest := [.ref q203, .ref h]) (n := 1) X hml hl.1 (c_By_init l D E T κ190 L203 f203 H.size q203 m203 r203 e203 64 (by omega) (by omega) S.1 64 64 (by omega) (by omega) (by decide)) (ok_k X Y hA KS KR) kl_Va_By_init ks_By_init ki_By_init ini_By rfl ⟨rfl, rfl⟩ hd_By_init.2 ⟨Nat.le_of_ble_eq_true rfl, Nat.le_of_ble_eq_true rfl⟩ rfl (Nat.le_of_ble_eq_true rfl) d_Va_init_105 ⟨Nat.le_of_ble_eq_true rfl, Nat.le_of_ble_eq_true rfl⟩) X Y hA S (by decide) nl203 (fun κ215 L215 f215 H locs Y S s215 p215 => ?_)
  have k215 := p215
  have k216 : κ215 q103 = (13, 6144) := tLe_k s215.2.2.1 k204
  have k217 : κ215 q113 = (13, 512) := tLe_k s215.2.2.1 k205
  have k218 : κ215 q125 = (16, 0) := tLe_k s215.2.2.1 k206
  have k219 : κ215 q139 = (11, 0) := tLe_k s215.2.2.1 k207
  have k220 : κ215 q155 = (1, 64) := tLe_k s215.2.2.1 k208
  have k221 : κ215 q165 = (1, 20) := tLe_k s215.2.2.1 k209
  have k222 : κ215 q178 = (1, 32) := tLe_k s215.2.2.1 k210
  have k223 : κ215 q190 = (1, 20) := tLe_k s215.2.2.1 k211
  have e224 : f215 h = .inr (11, [.int (iI 1000000000), .ref q103, .ref q113, .ref q125, .ref q139, .ref q155, .int (iI 0), .ref q165, .int (iI 20), .int (iI 0), .ref q178, .ref q190, .null]) := (s215.2.2.2 _ ⟨m213, by rw [r214]; decide, by simp only [List.mem_singleton]; exact (nz203 _ m199)⟩).1.trans e212
  have m225 : h ∈ L215 := s215.2.1 _ m213
  have r226 : (κ215 h).1 = 0 := by rw [(s215.2.2.2 _ ⟨m213, by rw [r214]; decide, by simp only [List.mem_singleton]; exact (nz203 _ m199)⟩).2]; exact r214
  refine q_putF X.1 X.2.1 X.2.2.1 i_Va t_Va t_Va_ok n_Va X.2.2.2.1 X.2.2.2.2 Y m225 e224 rfl 12 (by decide) (X.2.2.1 _ lk_Va_58) (fun _ h9 => h9) rfl hin rfl (t_Va_ok 12 (by decide)) rfl rfl (Nat.le_of_ble_eq_true rfl) d_Va_init_108 (fun H locs Y => ?_)
  have Y : pH D cCl (pA L sz) s.heap L215 (va_up f215 h (.inr (11, [.int (iI 1000000000), .ref q103, .ref q113, .ref q125, .ref q139, .ref q155, .int (iI 0), .ref q165, .int (iI 20), .int (iI 0), .ref q178, .ref q190, .ref q203]))) H locs := Y
  have S := tS_up (x := .inr (11, [.int (iI 1000000000), .ref q103, .ref q113, .ref q125, .ref q139, .ref q155, .int (iI 0), .ref q165, .int (iI 20), .int (iI 0), .ref q178, .ref q190, .ref q203])) S (fun h9 => h9.2.2 (List.mem_singleton.mpr rfl)) (fun h9 => absurd r226 h9)
  have e228 : (va_up f215 h (.inr (11, [.int (iI 1000000000), .ref q103, .ref q113, .ref q125, .ref q139, .ref q155, .int (iI 0), .ref q165, .int (iI 20), .int (iI 0), .ref q178, .ref q190, .ref q203]))) h = .inr (11, [.int (iI 1000000000), .ref q103, .ref q113, .ref q125, .ref q139, .ref q155, .int (iI 0), .ref q165, .int (iI 20), .int (iI 0), .ref q178, .ref q190, .ref q203]) := q_up
  generalize va_up f215 h (.inr (11, [.int (iI 1000000000), .ref q103, .ref q113, .ref q125, .ref q139, .ref q155, .int (iI 0), .ref q165, .int (iI 20), .int (iI 0), .ref q178, .ref q190, .ref q203])) = f227 at Y S e228
  have hle : tLe κ215 (va_up κ215 h (21, 0)) := tLe_raw r226
  have S := (tS_kind (k := (21, 0)) S m225 r226 r_h (fun h9 => h9.2.2 (List.mem_singleton.mpr rfl)) (by rw [e228]; exact ⟨_, rfl, okO_of ⟨⟨_, rfl, (show ((-2147483648) : Int) ≤ 1000000000 by omega), (show 1000000000 ≤ (2147483647 : Int) by omega)⟩, ⟨_, rfl, tLe_k hle k216⟩, ⟨_, rfl, tLe_k hle k217⟩, ⟨_, rfl, tLe_k hle k218⟩, ⟨_, rfl, tLe_k hle k219⟩, ⟨_, rfl, tLe_k hle k220⟩, ⟨_, rfl, (show (0 : Int) ≤ 0 by omega), (show 0 ≤ (64 : Int) by omega)⟩, ⟨_, rfl, tLe_k hle k221⟩, ⟨_, rfl, (show (0 : Int) ≤ 20 by omega), (show 20 ≤ (20 : Int) by omega)⟩, ⟨_, rfl, (show ((-2147483648) : Int) ≤ 0 by omega), (show 0 ≤ (2147483647 : Int) by omega)⟩, ⟨_, rfl, tLe_k hle k222⟩, ⟨_, rfl, tLe_k hle k223⟩, ⟨_, rfl, tLe_k hle k215⟩, trivial⟩⟩)).1
  exact c_retv hQQ X Y hr hlk ⟨_, S, va_up_self _ _ _⟩ d_Va_init_111
set_option maxHeartbeats 4000000 in
set_option maxRecDepth 100000 in
theorem c_Se_init (l : Launch) (D : va_G) (E : cE) (T : cT) (κ : tK) (L : List Nat) (f : pF) (sz : Nat) (h : Nat) (m_h : h ∈ L) (r_h : (κ h).1 = 0) (e_h : f h = .inr (8, [.null, .null, .null, .null, .int (iI 0)])) (hw : tW E T κ L f) : Met l y_Se_init (k_Se_init :: lw_tg) (kRm 1 60 4 1376) (va_Pc [.ref h] (kPre D E T L f sz)) (va_Qv (aPv E T [18] [h] κ L f (fun (k : tK) (g : pF) => k h = (18, 0))) (cPost D E (pA L sz)) (pA L sz)) 4 1376 (pA L sz) := by
  refine k_enter (own := R_Se) (by decide) rfl (Nat.le_of_ble_eq_true rfl) (fun p e s m below meth c ls AV QQ H locs hQQ X Y hA hin hr hlk hml hl KS KR => ?_)
  have hl : lv_has ls 1 [(0, .ref h)] := hl
  have S : tS E T (tFr κ L [18] [h]) κ L f κ L f := tS_rf hw
  have hF0 : ∀ b, tFr κ L [18] [h] b → b ∈ L := fun b h9 => h9.1
  refine lv_aload_n X.1 X.2.1 d_Se_init_0 rfl (lv_at hl 0 rfl) ?_
  refine W.objInit X.1 X.2.1 X.2.2.2.1 (X.2.2.1 _ ol_Se) (X.2.2.1 _ o_inst) (X.2.2.1 _ o_code) rfl (by rw [hml]; exact hl.1) rfl d_Se_init_1 (Nat.le_of_ble_eq_true rfl) (Nat.le_of_ble_eq_true rfl) ?_
  refine W.eq (g2 := F0 m 4 ls []) rfl ?_
  refine lv_aload_n X.1 X.2.1 d_Se_init_4 rfl (lv_at hl 0 rfl) ?_
  refine lv_sipush (v := iI 1280) X.1 X.2.1 d_Se_init_5 (by decide) ?_
  refine t_newB X Y S hA hF0 (N := 1280) (mx := 1280) (by omega) (by omega) (by decide) (Nat.le_of_ble_eq_true rfl) (Nat.le_of_ble_eq_true rfl) d_Se_init_8 (fun q101 κ101 L101 f101 H Y S s101 k101 => ?_)
  have e102 : f101 h = .inr (8, [.null, .null, .null, .null, .int (iI 0)]) := (s101.2.2.2 _ ⟨m_h, by rw [r_h]; decide, by simp⟩).1.trans e_h
  have m103 : h ∈ L101 := s101.2.1 _ m_h
  have r104 : (κ101 h).1 = 0 := by rw [(s101.2.2.2 _ ⟨m_h, by rw [r_h]; decide, by simp⟩).2]; exact r_h
  refine q_putF X.1 X.2.1 X.2.2.1 i_Se t_Se t_Se_ok n_Se X.2.2.2.1 X.2.2.2.2 Y m103 e102 rfl 0 (by decide) (X.2.2.1 _ lk_Se_9) (fun _ h9 => h9) rfl hin rfl (t_Se_ok 0 (by decide)) rfl rfl (Nat.le_of_ble_eq_true rfl) d_Se_init_10 (fun H locs Y => ?_)
  have Y : pH D cCl (pA L sz) s.heap L101 (va_up f101 h (.inr (8, [.ref q101, .null, .null, .null, .int (iI 0)]))) H locs := Y
  have S := tS_up (x := .inr (8, [.ref q101, .null, .null, .null, .int (iI 0)])) S (fun h9 => h9.2.2 (List.mem_singleton.mpr rfl)) (fun h9 => absurd r104 h9)
  have e106 : (va_up f101 h (.inr (8, [.ref q101, .null, .null, .null, .int (iI 0)]))) h = .inr (8, [.ref q101, .null, .null, .null, .int (iI 0)]) := q_up
  generalize va_up f101 h (.inr (8, [.ref q101, .null, .null, .null, .int (iI 0)])) = f105 at Y S e106
  refine lv_aload_n X.1 X.2.1 d_Se_init_13 rfl (lv_at hl 0 rfl) ?_
  refine lv_bipush (v := iI 32) X.1 X.2.1 d_Se_init_14 (by decide) ?_
  refine t_newI (cI := 4) (by decide) X Y S hA hF0 (N := 32) (mx := 32) (by omega) (by omega) (by decide) (Nat.le_of_ble_eq_true rfl) (Nat.le_of_ble_eq_true rfl) d_Se_init_16 (fun q107 κ107 L107 f107 H Y S s107 k107 => ?_)
  have k108 : κ107 q101 = (1, 1280) := tLe_k s107.2.2.1 k101
  have e109 : f107 h = .inr (8, [.ref q101, .null, .null, .null, .int (iI 0)]) := (s107.2.2.2 _ ⟨m103, by rw [r104]; decide, by simp⟩).1.trans e106
  have m110 : h ∈ L107 := s107.2.1 _ m103
  have r111 : (κ107 h).1 = 0 := by rw [(s107.2.2.2 _ ⟨m103, by rw [r104]; decide, by simp⟩).2]; exact r104
  refine q_putF X.1 X.2.1 X.2.2.1 i_Se t_Se t_Se_ok n_Se X.2.2.2.1 X.2.2.2.2 Y m110 e109 rfl 1 (by decide) (X.2.2.1 _ lk_Se_15) (fun _ h9 => h9) rfl hin rfl (t_Se_ok 1 (by decide)) rfl rfl (Nat.le_of_ble_eq_true rfl) d_Se_init_18 (fun H locs Y => ?_)
  have Y : pH D cCl (pA L sz) s.heap L107 (va_up f107 h (.inr (8, [.ref q101, .ref q107, .null, .null, .int (iI 0)]))) H locs := Y
  have S := tS_up (x := .inr (8, [.ref q101, .ref q107, .null, .null, .int (iI 0)])) S (fun h9 => h9.2.2 (List.mem_singleton.mpr rfl)) (fun h9 => absurd r111 h9)
  have e113 : (va_up f107 h (.inr (8, [.ref q101, .ref q107, .null, .null, .int (iI 0)]))) h = .inr (8, [.ref q101, .ref q107, .null, .null, .int (iI 0)]) := q_up
  generalize va_up f107 h (.inr (8, [.ref q101, .ref q107, .null, .null, .int (iI 0)])) = f112 at Y S e113
  refine lv_aload_n X.1 X.2.1 d_Se_init_21 rfl (lv_at hl 0 rfl) ?_
  refine lv_bipush (v := iI 32) X.1 X.2.1 d_Se_init_22 (by decide) ?_
  refine t_newI (cI := 2) (by decide) X Y S hA hF0 (N := 32) (mx := 32) (by omega) (by omega) (by decide) (Nat.le_of_ble_eq_true rfl) (Nat.le_of_ble_eq_true rfl) d_Se_init_24 (fun q114 κ114 L114 f114 H Y S s114 k114 => ?_)
  have k115 : κ114 q101 = (1, 1280) := tLe_k s114.2.2.1 k108
  have k116 : κ114 q107 = (4, 32) := tLe_k s114.2.2.1 k107
  have e117 : f114 h = .inr (8, [.ref q101, .ref q107, .null, .null, .int (iI 0)]) := (s114.2.2.2 _ ⟨m110, by rw [r111]; decide, by simp⟩).1.trans e113
  have m118 : h ∈ L114 := s114.2.1 _ m110
  have r119 : (κ114 h).1 = 0 := by rw [(s114.2.2.2 _ ⟨m110, by rw [r111]; decide, by simp⟩).2]; exact r111
  refine q_putF X.1 X.2.1 X.2.2.1 i_Se t_Se t_Se_ok n_Se X.2.2.2.1 X.2.2.2.2 Y m118 e117 rfl 2 (by decide) (X.2.2.1 _ lk_Se_19) (fun _ h9 => h9) rfl hin rfl (t_Se_ok 2 (by decide)) rfl rfl (Nat.le_of_ble_eq_true rfl) d_Se_init_26 (fun H locs Y => ?_)
  have Y : pH D cCl (pA L sz) s.heap L114 (va_up f114 h (.inr (8, [.ref q101, .ref q107, .ref q114, .null, .int (iI 0)]))) H locs := Y
  have S := tS_up (x := .inr (8, [.ref q101, .ref q107, .ref q114, .null, .int (iI 0)])) S (fun h9 => h9.2.2 (List.mem_singleton.mpr rfl)) (fun h9 => absurd r119 h9)
  have e121 : (va_up f114 h (.inr (8, [.ref q101, .ref q107, .ref q114, .null, .int (iI 0)]))) h = .inr (8, [.ref q101, .ref q107, .ref q114, .null, .int (iI 0)]) := q_up
  generalize va_up f114 h (.inr (8, [.ref q101, .ref q107, .ref q114, .null, .int (iI 0)])) = f120 at Y S e121
  refine lv_aload_n X.1 X.2.1 d_Se_init_29 rfl (lv_at hl 0 rfl) ?_
  refine lv_bipush (v := iI 32) X.1 X.2.1 d_Se_init_30 (by decide) ?_
  refine t_newI (cI := 2) (by decide) X Y S hA hF0 (N := 32) (mx := 32) (by omega) (by omega) (by decide) (Nat.le_of_ble_eq_true rfl) (Nat.le_of_ble_eq_true rfl) d_Se_init_32 (fun q122 κ122 L122 f122 H Y S s122 k122 => ?_)
  have k123 : κ122 q101 = (1, 1280) := tLe_k s122.2.2.1 k115
  have k124 : κ122 q107 = (4, 32) := tLe_k s122.2.2.1 k116
  have k125 : κ122 q114 = (2, 32) := tLe_k s122.2.2.1 k114
  have e126 : f122 h = .inr (8, [.ref q101, .ref q107, .ref q114, .null, .int (iI 0)]) := (s122.2.2.2 _ ⟨m118, by rw [r119]; decide, by simp⟩).1.trans e121
  have m127 : h ∈ L122 := s122.2.1 _ m118
  have r128 : (κ122 h).1 = 0 := by rw [(s122.2.2.2 _ ⟨m118, by rw [r119]; decide, by simp⟩).2]; exact r119
  refine q_putF X.1 X.2.1 X.2.2.1 i_Se t_Se t_Se_ok n_Se X.2.2.2.1 X.2.2.2.2 Y m127 e126 rfl 3 (by decide) (X.2.2.1 _ lk_Se_22) (fun _ h9 => h9) rfl hin rfl (t_Se_ok 3 (by decide)) rfl rfl (Nat.le_of_ble_eq_true rfl) d_Se_init_34 (fun H locs Y => ?_)
  have Y : pH D cCl (pA L sz) s.heap L122 (va_up f122 h (.inr (8, [.ref q101, .ref q107, .ref q114, .ref q122, .int (iI 0)]))) H locs := Y
  have S := tS_up (x := .inr (8, [.ref q101, .ref q107, .ref q114, .ref q122, .int (iI 0)])) S (fun h9 => h9.2.2 (List.mem_singleton.mpr rfl)) (fun h9 => absurd r128 h9)
  have e130 : (va_up f122 h (.inr (8, [.ref q101, .ref q107, .ref q114, .ref q122, .int (iI 0)]))) h = .inr (8, [.ref q101, .ref q107, .ref q114, .ref q122, .int (iI 0)]) := q_up
  generalize va_up f122 h (.inr (8, [.ref q101, .ref q107, .ref q114, .ref q122, .int (iI 0)])) = f129 at Y S e130
  have hle : tLe κ122 (va_up κ122 h (18, 0)) := tLe_raw r128
  have S := (tS_kind (k := (18, 0)) S m127 r128 r_h (fun h9 => h9.2.2 (List.mem_singleton.mpr rfl)) (by rw [e130]; exact ⟨_, rfl, okO_of ⟨⟨_, rfl, tLe_k hle k123⟩, ⟨_, rfl, tLe_k hle k124⟩, ⟨_, rfl, tLe_k hle k125⟩, ⟨_, rfl, tLe_k hle k122⟩, ⟨_, rfl, (show (0 : Int) ≤ 0 by omega), (show 0 ≤ (32 : Int) by omega)⟩, trivial⟩⟩)).1
  exact c_retv hQQ X Y hr hlk ⟨_, S, va_up_self _ _ _⟩ d_Se_init_37
set_option maxHeartbeats 4000000 in
set_option maxRecDepth 100000 in
theorem c_Pr_init (l : Launch) (D : va_G) (E : cE) (T : cT) (κ : tK) (L : List Nat) (f : pF) (sz : Nat) (h : Nat) (m_h : h ∈ L) (r_h : (κ h).1 = 0) (e_h : f h = .inr (7, [.null, .null, .int (iI 0), .int (iI 0), .int (iI 0), .null, .null, .null, .null, .int (iI 0), .int (iI 0), .int (iI 0), .int (iI 0)])) (hw : tW E T κ L f) : Met l y_Pr_init (k_Pr_init :: lw_tg) (kRm 2 81 7 1423) (va_Pc [.ref h] (kPre D E T L f sz)) (va_Qv (aPv E T [13, 17, 18] [h] κ L f (fun (k : tK) (g : pF) => k h = (17, 0))) (cPost D E (pA L sz)) (pA L sz)) 7 1423 (pA L sz) := by
  refine k_enter (own := R_Pr) (by decide) rfl (Nat.le_of_ble_eq_true rfl) (fun p e s m below meth c ls AV QQ H locs hQQ X Y hA hin hr hlk hml hl KS KR => ?_)
  have hl : lv_has ls 1 [(0, .ref h)] := hl
  have S : tS E T (tFr κ L [13, 17, 18] [h]) κ L f κ L f := tS_rf hw
  have hF0 : ∀ b, tFr κ L [13, 17, 18] [h] b → b ∈ L := fun b h9 => h9.1
  refine lv_aload_n X.1 X.2.1 d_Pr_init_0 rfl (lv_at hl 0 rfl) ?_
  refine W.objInit X.1 X.2.1 X.2.2.2.1 (X.2.2.1 _ ol_Pr) (X.2.2.1 _ o_inst) (X.2.2.1 _ o_code) rfl (by rw [hml]; exact hl.1) rfl d_Pr_init_1 (Nat.le_of_ble_eq_true rfl) (Nat.le_of_ble_eq_true rfl) ?_
  refine W.eq (g2 := F0 m 4 ls []) rfl ?_
  refine lv_aload_n X.1 X.2.1 d_Pr_init_4 rfl (lv_at hl 0 rfl) ?_
  refine t_new (ci := 3) X Y S hA hF0 i_By t_By t_By_ok ck_Pr_9 mk_By ini_By rfl (fs := [.null, .int (iI 0)]) (fun j hj => match j, hj with | 0, _ => rfl | 1, _ => rfl | n9 + 2, h9 => absurd (show n9 + 2 < 2 from h9) (by omega)) (Nat.le_of_ble_eq_true rfl) (Nat.le_of_ble_eq_true rfl) d_Pr_init_5 (fun q101 L101 f101 H Y S s101 nl101 m101 r101 e101 nz101 => ?_)
  have e102 : f101 h = .inr (7, [.null, .null, .int (iI 0), .int (iI 0), .int (iI 0), .null, .null, .null, .null, .int (iI 0), .int (iI 0), .int (iI 0), .int (iI 0)]) := (s101.2.2.2 _ ⟨m_h, by rw [r_h]; decide, by simp⟩).1.trans e_h
  have m103 : h ∈ L101 := s101.2.1 _ m_h
  have r104 : (κ h).1 = 0 := by rw [(s101.2.2.2 _ ⟨m_h, by rw [r_h]; decide, by simp⟩).2]; exact r_h
  refine lv_dup X.1 X.2.1 d_Pr_init_8 rfl ?_
  refine lv_bipush (v := iI 40) X.1 X.2.1 d_Pr_init_9 (by decide) ?_
  refine t_mk (x_runI (As := [.int (iI 40)]) (rest := [.ref q101, .ref h]) (n := 1) X hml hl.1 (c_By_init l D E T κ L101 f101 H.size q101 m101 r101 e101 40 (by omega) (by omega) S.1 40 40 (by omega) (by omega) (by decide)) (ok_k X Y hA KS KR) kl_Pr_By_init ks_By_init ki_By_init ini_By rfl ⟨rfl, rfl⟩ hd_By_init.2 ⟨Nat.le_of_ble_eq_true rfl, Nat.le_of_ble_eq_true rfl⟩ rfl (Nat.le_of_ble_eq_true rfl) d_Pr_init_11 ⟨Nat.le_of_ble_eq_true rfl, Nat.le_of_ble_eq_true rfl⟩) X Y hA S (by decide) nl101 (fun κ105 L105 f105 H locs Y S s105 p105 => ?_)
  have k105 := p105
  have e106 : f105 h = .inr (7, [.null, .null, .int (iI 0), .int (iI 0), .int (iI 0), .null, .null, .null, .null, .int (iI 0), .int (iI 0), .int (iI 0), .int (iI 0)]) := (s105.2.2.2 _ ⟨m103, by rw [r104]; decide, by simp only [List.mem_singleton]; exact (nz101 _ m_h)⟩).1.trans e102
  have m107 : h ∈ L105 := s105.2.1 _ m103
  have r108 : (κ105 h).1 = 0 := by rw [(s105.2.2.2 _ ⟨m103, by rw [r104]; decide, by simp only [List.mem_singleton]; exact (nz101 _ m_h)⟩).2]; exact r104
  refine q_putF X.1 X.2.1 X.2.2.1 i_Pr t_Pr t_Pr_ok n_Pr X.2.2.2.1 X.2.2.2.2 Y m107 e106 rfl 0 (by decide) (X.2.2.1 _ lk_Pr_14) (fun _ h9 => h9) rfl hin rfl (t_Pr_ok 0 (by decide)) rfl rfl (Nat.le_of_ble_eq_true rfl) d_Pr_init_14 (fun H locs Y => ?_)
  have Y : pH D cCl (pA L sz) s.heap L105 (va_up f105 h (.inr (7, [.ref q101, .null, .int (iI 0), .int (iI 0), .int (iI 0), .null, .null, .null, .null, .int (iI 0), .int (iI 0), .int (iI 0), .int (iI 0)]))) H locs := Y
  have S := tS_up (x := .inr (7, [.ref q101, .null, .int (iI 0), .int (iI 0), .int (iI 0), .null, .null, .null, .null, .int (iI 0), .int (iI 0), .int (iI 0), .int (iI 0)])) S (fun h9 => h9.2.2 (List.mem_singleton.mpr rfl)) (fun h9 => absurd r108 h9)
  have e110 : (va_up f105 h (.inr (7, [.ref q101, .null, .int (iI 0), .int (iI 0), .int (iI 0), .null, .null, .null, .null, .int (iI 0), .int (iI 0), .int (iI 0), .int (iI 0)]))) h = .inr (7, [.ref q101, .null, .int (iI 0), .int (iI 0), .int (iI 0), .null, .null, .null, .null, .int (iI 0), .int (iI 0), .int (iI 0), .int (iI 0)]) := q_up
  generalize va_up f105 h (.inr (7, [.ref q101, .null, .int (iI 0), .int (iI 0), .int (iI 0), .null, .null, .null, .null, .int (iI 0), .int (iI 0), .int (iI 0), .int (iI 0)])) = f109 at Y S e110
  refine lv_aload_n X.1 X.2.1 d_Pr_init_17 rfl (lv_at hl 0 rfl) ?_
  refine t_new (ci := 8) X Y S hA hF0 i_Se t_Se t_Se_ok ck_Pr_20 mk_Se ini_Se rfl (fs := [.null, .null, .null, .null, .int (iI 0)]) (fun j hj => match j, hj with | 0, _ => rfl | 1, _ => rfl | 2, _ => rfl | 3, _ => rfl | 4, _ => rfl | n9 + 5, h9 => absurd (show n9 + 5 < 5 from h9) (by omega)) (Nat.le_of_ble_eq_true rfl) (Nat.le_of_ble_eq_true rfl) d_Pr_init_18 (fun q111 L111 f111 H Y S s111 nl111 m111 r111 e111 nz111 => ?_)
  have k112 : κ105 q101 = (13, 40) := tLe_k s111.2.2.1 k105
  have e113 : f111 h = .inr (7, [.ref q101, .null, .int (iI 0), .int (iI 0), .int (iI 0), .null, .null, .null, .null, .int (iI 0), .int (iI 0), .int (iI 0), .int (iI 0)]) := (s111.2.2.2 _ ⟨m107, by rw [r108]; decide, by simp⟩).1.trans e110
  have m114 : h ∈ L111 := s111.2.1 _ m107
  have r115 : (κ105 h).1 = 0 := by rw [(s111.2.2.2 _ ⟨m107, by rw [r108]; decide, by simp⟩).2]; exact r108
  refine lv_dup X.1 X.2.1 d_Pr_init_21 rfl ?_
  refine t_mk (x_runIN (As := []) (rest := [.ref q111, .ref h]) (n := 0) X KR hml hl.1 (c_Se_init l D E T κ105 L111 f111 H.size q111 m111 r111 e111 S.1) (ok_k X Y hA KS KR) (by decide) ks_Se_init ki_Se_init ini_Se rfl ⟨rfl, rfl⟩ hd_Se_init.2 ⟨Nat.le_of_ble_eq_true rfl, Nat.le_of_ble_eq_true rfl⟩ rfl (Nat.le_of_ble_eq_true rfl) d_Pr_init_22 ⟨Nat.le_of_ble_eq_true rfl, Nat.le_of_ble_eq_true rfl⟩) X Y hA S (by decide) nl111 (fun κ116 L116 f116 H locs Y S s116 p116 => ?_)
  have k116 := p116
  have k117 : κ116 q101 = (13, 40) := tLe_k s116.2.2.1 k112
  have e118 : f116 h = .inr (7, [.ref q101, .null, .int (iI 0), .int (iI 0), .int (iI 0), .null, .null, .null, .null, .int (iI 0), .int (iI 0), .int (iI 0), .int (iI 0)]) := (s116.2.2.2 _ ⟨m114, by rw [r115]; decide, by simp only [List.mem_singleton]; exact (nz111 _ m107)⟩).1.trans e113
  have m119 : h ∈ L116 := s116.2.1 _ m114
  have r120 : (κ116 h).1 = 0 := by rw [(s116.2.2.2 _ ⟨m114, by rw [r115]; decide, by simp only [List.mem_singleton]; exact (nz111 _ m107)⟩).2]; exact r115
  refine q_putF X.1 X.2.1 X.2.2.1 i_Pr t_Pr t_Pr_ok n_Pr X.2.2.2.1 X.2.2.2.2 Y m119 e118 rfl 1 (by decide) (X.2.2.1 _ lk_Pr_23) (fun _ h9 => h9) rfl hin rfl (t_Pr_ok 1 (by decide)) rfl rfl (Nat.le_of_ble_eq_true rfl) d_Pr_init_25 (fun H locs Y => ?_)
  have Y : pH D cCl (pA L sz) s.heap L116 (va_up f116 h (.inr (7, [.ref q101, .ref q111, .int (iI 0), .int (iI 0), .int (iI 0), .null, .null, .null, .null, .int (iI 0), .int (iI 0), .int (iI 0), .int (iI 0)]))) H locs := Y
  have S := tS_up (x := .inr (7, [.ref q101, .ref q111, .int (iI 0), .int (iI 0), .int (iI 0), .null, .null, .null, .null, .int (iI 0), .int (iI 0), .int (iI 0), .int (iI 0)])) S (fun h9 => h9.2.2 (List.mem_singleton.mpr rfl)) (fun h9 => absurd r120 h9)
  have e122 : (va_up f116 h (.inr (7, [.ref q101, .ref q111, .int (iI 0), .int (iI 0), .int (iI 0), .null, .null, .null, .null, .int (iI 0), .int (iI 0), .int (iI 0), .int (iI 0)]))) h = .inr (7, [.ref q101, .ref q111, .int (iI 0), .int (iI 0), .int (iI 0), .null, .null, .null, .null, .int (iI 0), .int (iI 0), .int (iI 0), .int (iI 0)]) := q_up
  generalize va_up f116 h (.inr (7, [.ref q101, .ref q111, .int (iI 0), .int (iI 0), .int (iI 0), .null, .null, .null, .null, .int (iI 0), .int (iI 0), .int (iI 0), .int (iI 0)])) = f121 at Y S e122
  refine lv_aload_n X.1 X.2.1 d_Pr_init_28 rfl (lv_at hl 0 rfl) ?_
  refine k_getsN X Y KS KR (by decide) d_Pr_init_29 ?_
  refine q_put X.1 X.2.1 X.2.2.1 i_Pr t_Pr t_Pr_ok n_Pr X.2.2.2.1 X.2.2.2.2 Y m119 e122 rfl 5 (by decide) (X.2.2.1 _ lk_Pr_31) (fun _ h9 => h9) rfl (t_Pr_ok 5 (by decide)) rfl rfl (Nat.le_of_ble_eq_true rfl) d_Pr_init_32 (fun H locs Y => ?_)
  have Y : pH D cCl (pA L sz) s.heap L116 (va_up f121 h (.inr (7, [.ref q101, .ref q111, .int (iI 0), .int (iI 0), .int (iI 0), .ref ((T.1 0)), .null, .null, .null, .int (iI 0), .int (iI 0), .int (iI 0), .int (iI 0)]))) H locs := Y
  have S := tS_up (x := .inr (7, [.ref q101, .ref q111, .int (iI 0), .int (iI 0), .int (iI 0), .ref ((T.1 0)), .null, .null, .null, .int (iI 0), .int (iI 0), .int (iI 0), .int (iI 0)])) S (fun h9 => h9.2.2 (List.mem_singleton.mpr rfl)) (fun h9 => absurd r120 h9)
  have e124 : (va_up f121 h (.inr (7, [.ref q101, .ref q111, .int (iI 0), .int (iI 0), .int (iI 0), .ref ((T.1 0)), .null, .null, .null, .int (iI 0), .int (iI 0), .int (iI 0), .int (iI 0)]))) h = .inr (7, [.ref q101, .ref q111, .int (iI 0), .int (iI 0), .int (iI 0), .ref ((T.1 0)), .null, .null, .null, .int (iI 0), .int (iI 0), .int (iI 0), .int (iI 0)]) := q_up
  generalize va_up f121 h (.inr (7, [.ref q101, .ref q111, .int (iI 0), .int (iI 0), .int (iI 0), .ref ((T.1 0)), .null, .null, .null, .int (iI 0), .int (iI 0), .int (iI 0), .int (iI 0)])) = f123 at Y S e124
  refine lv_aload_n X.1 X.2.1 d_Pr_init_35 rfl (lv_at hl 0 rfl) ?_
  refine k_getsN X Y KS KR (by decide) d_Pr_init_36 ?_
  refine q_put X.1 X.2.1 X.2.2.1 i_Pr t_Pr t_Pr_ok n_Pr X.2.2.2.1 X.2.2.2.2 Y m119 e124 rfl 6 (by decide) (X.2.2.1 _ lk_Pr_34) (fun _ h9 => h9) rfl (t_Pr_ok 6 (by decide)) rfl rfl (Nat.le_of_ble_eq_true rfl) d_Pr_init_39 (fun H locs Y => ?_)
  have Y : pH D cCl (pA L sz) s.heap L116 (va_up f123 h (.inr (7, [.ref q101, .ref q111, .int (iI 0), .int (iI 0), .int (iI 0), .ref ((T.1 0)), .ref ((T.1 0)), .null, .null, .int (iI 0), .int (iI 0), .int (iI 0), .int (iI 0)]))) H locs := Y
  have S := tS_up (x := .inr (7, [.ref q101, .ref q111, .int (iI 0), .int (iI 0), .int (iI 0), .ref ((T.1 0)), .ref ((T.1 0)), .null, .null, .int (iI 0), .int (iI 0), .int (iI 0), .int (iI 0)])) S (fun h9 => h9.2.2 (List.mem_singleton.mpr rfl)) (fun h9 => absurd r120 h9)
  have e126 : (va_up f123 h (.inr (7, [.ref q101, .ref q111, .int (iI 0), .int (iI 0), .int (iI 0), .ref ((T.1 0)), .ref ((T.1 0)), .null, .null, .int (iI 0), .int (iI 0), .int (iI 0), .int (iI 0)]))) h = .inr (7, [.ref q101, .ref q111, .int (iI 0), .int (iI 0), .int (iI 0), .ref ((T.1 0)), .ref ((T.1 0)), .null, .null, .int (iI 0), .int (iI 0), .int (iI 0), .int (iI 0)]) := q_up
  generalize va_up f123 h (.inr (7, [.ref q101, .ref q111, .int (iI 0), .int (iI 0), .int (iI 0), .ref ((T.1 0)), .ref ((T.1 0)), .null, .null, .int (iI 0), .int (iI 0), .int (iI 0), .int (iI 0)])) = f125 at Y S e126
  refine lv_aload_n X.1 X.2.1 d_Pr_init_42 rfl (lv_at hl 0 rfl) ?_
  refine k_getsN X Y KS KR (by decide) d_Pr_init_43 ?_
  refine q_put X.1 X.2.1 X.2.2.1 i_Pr t_Pr t_Pr_ok n_Pr X.2.2.2.1 X.2.2.2.2 Y m119 e126 rfl 7 (by decide) (X.2.2.1 _ lk_Pr_37) (fun _ h9 => h9) rfl (t_Pr_ok 7 (by decide)) rfl rfl (Nat.le_of_ble_eq_true rfl) d_Pr_init_46 (fun H locs Y => ?_)
  have Y : pH D cCl (pA L sz) s.heap L116 (va_up f125 h (.inr (7, [.ref q101, .ref q111, .int (iI 0), .int (iI 0), .int (iI 0), .ref ((T.1 0)), .ref ((T.1 0)), .ref ((T.1 0)), .null, .int (iI 0), .int (iI 0), .int (iI 0), .int (iI 0)]))) H locs := Y
  have S := tS_up (x := .inr (7, [.ref q101, .ref q111, .int (iI 0), .int (iI 0), .int (iI 0), .ref ((T.1 0)), .ref ((T.1 0)), .ref ((T.1 0)), .null, .int (iI 0), .int (iI 0), .int (iI 0), .int (iI 0)])) S (fun h9 => h9.2.2 (List.mem_singleton.mpr rfl)) (fun h9 => absurd r120 h9)
  have e128 : (va_up f125 h (.inr (7, [.ref q101, .ref q111, .int (iI 0), .int (iI 0), .int (iI 0), .ref ((T.1 0)), .ref ((T.1 0)), .ref ((T.1 0)), .null, .int (iI 0), .int (iI 0), .int (iI 0), .int (iI 0)]))) h = .inr (7, [.ref q101, .ref q111, .int (iI 0), .int (iI 0), .int (iI 0), .ref ((T.1 0)), .ref ((T.1 0)), .ref ((T.1 0)), .null, .int (iI 0), .int (iI 0), .int (iI 0), .int (iI 0)]) := q_up
  generalize va_up f125 h (.inr (7, [.ref q101, .ref q111, .int (iI 0), .int (iI 0), .int (iI 0), .ref ((T.1 0)), .ref ((T.1 0)), .ref ((T.1 0)), .null, .int (iI 0), .int (iI 0), .int (iI 0), .int (iI 0)])) = f127 at Y S e128
  refine lv_aload_n X.1 X.2.1 d_Pr_init_49 rfl (lv_at hl 0 rfl) ?_
  refine k_getsN X Y KS KR (by decide) d_Pr_init_50 ?_
  refine q_put X.1 X.2.1 X.2.2.1 i_Pr t_Pr t_Pr_ok n_Pr X.2.2.2.1 X.2.2.2.2 Y m119 e128 rfl 8 (by decide) (X.2.2.1 _ lk_Pr_40) (fun _ h9 => h9) rfl (t_Pr_ok 8 (by decide)) rfl rfl (Nat.le_of_ble_eq_true rfl) d_Pr_init_53 (fun H locs Y => ?_)
  have Y : pH D cCl (pA L sz) s.heap L116 (va_up f127 h (.inr (7, [.ref q101, .ref q111, .int (iI 0), .int (iI 0), .int (iI 0), .ref ((T.1 0)), .ref ((T.1 0)), .ref ((T.1 0)), .ref ((T.1 0)), .int (iI 0), .int (iI 0), .int (iI 0), .int (iI 0)]))) H locs := Y
  have S := tS_up (x := .inr (7, [.ref q101, .ref q111, .int (iI 0), .int (iI 0), .int (iI 0), .ref ((T.1 0)), .ref ((T.1 0)), .ref ((T.1 0)), .ref ((T.1 0)), .int (iI 0), .int (iI 0), .int (iI 0), .int (iI 0)])) S (fun h9 => h9.2.2 (List.mem_singleton.mpr rfl)) (fun h9 => absurd r120 h9)
  have e130 : (va_up f127 h (.inr (7, [.ref q101, .ref q111, .int (iI 0), .int (iI 0), .int (iI 0), .ref ((T.1 0)), .ref ((T.1 0)), .ref ((T.1 0)), .ref ((T.1 0)), .int (iI 0), .int (iI 0), .int (iI 0), .int (iI 0)]))) h = .inr (7, [.ref q101, .ref q111, .int (iI 0), .int (iI 0), .int (iI 0), .ref ((T.1 0)), .ref ((T.1 0)), .ref ((T.1 0)), .ref ((T.1 0)), .int (iI 0), .int (iI 0), .int (iI 0), .int (iI 0)]) := q_up
  generalize va_up f127 h (.inr (7, [.ref q101, .ref q111, .int (iI 0), .int (iI 0), .int (iI 0), .ref ((T.1 0)), .ref ((T.1 0)), .ref ((T.1 0)), .ref ((T.1 0)), .int (iI 0), .int (iI 0), .int (iI 0), .int (iI 0)])) = f129 at Y S e130
  refine lv_aload_n X.1 X.2.1 d_Pr_init_56 rfl (lv_at hl 0 rfl) ?_
  refine lv_ldc (v := (36000)) X.1 X.2.1 X.2.2.2.1 (X.2.2.1 _ cn_Pr_43) d_Pr_init_57 ?_
  refine t_eq (y := iI 36000) (by decide) ?_
  refine q_put X.1 X.2.1 X.2.2.1 i_Pr t_Pr t_Pr_ok n_Pr X.2.2.2.1 X.2.2.2.2 Y m119 e130 rfl 9 (by decide) (X.2.2.1 _ lk_Pr_44) (fun _ h9 => h9) rfl (t_Pr_ok 9 (by decide)) rfl rfl (Nat.le_of_ble_eq_true rfl) d_Pr_init_59 (fun H locs Y => ?_)
  have Y : pH D cCl (pA L sz) s.heap L116 (va_up f129 h (.inr (7, [.ref q101, .ref q111, .int (iI 0), .int (iI 0), .int (iI 0), .ref ((T.1 0)), .ref ((T.1 0)), .ref ((T.1 0)), .ref ((T.1 0)), .int (iI 36000), .int (iI 0), .int (iI 0), .int (iI 0)]))) H locs := Y
  have S := tS_up (x := .inr (7, [.ref q101, .ref q111, .int (iI 0), .int (iI 0), .int (iI 0), .ref ((T.1 0)), .ref ((T.1 0)), .ref ((T.1 0)), .ref ((T.1 0)), .int (iI 36000), .int (iI 0), .int (iI 0), .int (iI 0)])) S (fun h9 => h9.2.2 (List.mem_singleton.mpr rfl)) (fun h9 => absurd r120 h9)
  have e132 : (va_up f129 h (.inr (7, [.ref q101, .ref q111, .int (iI 0), .int (iI 0), .int (iI 0), .ref ((T.1 0)), .ref ((T.1 0)), .ref ((T.1 0)), .ref ((T.1 0)), .int (iI 36000), .int (iI 0), .int (iI 0), .int (iI 0)]))) h = .inr (7, [.ref q101, .ref q111, .int (iI 0), .int (iI 0), .int (iI 0), .ref ((T.1 0)), .ref ((T.1 0)), .ref ((T.1 0)), .ref ((T.1 0)), .int (iI 36000), .int (iI 0), .int (iI 0), .int (iI 0)]) := q_up
  generalize va_up f129 h (.inr (7, [.ref q101, .ref q111, .int (iI 0), .int (iI 0), .int (iI 0), .ref ((T.1 0)), .ref ((T.1 0)), .ref ((T.1 0)), .ref ((T.1 0)), .int (iI 36000), .int (iI 0), .int (iI 0), .int (iI 0)])) = f131 at Y S e132
  refine lv_aload_n X.1 X.2.1 d_Pr_init_62 rfl (lv_at hl 0 rfl) ?_
  refine lv_ldc (v := (72000)) X.1 X.2.1 X.2.2.2.1 (X.2.2.1 _ cn_Pr_48) d_Pr_init_63 ?_
  refine t_eq (y := iI 72000) (by decide) ?_
  refine q_put X.1 X.2.1 X.2.2.1 i_Pr t_Pr t_Pr_ok n_Pr X.2.2.2.1 X.2.2.2.2 Y m119 e132 rfl 10 (by decide) (X.2.2.1 _ lk_Pr_49) (fun _ h9 => h9) rfl (t_Pr_ok 10 (by decide)) rfl rfl (Nat.le_of_ble_eq_true rfl) d_Pr_init_65 (fun H locs Y => ?_)
  have Y : pH D cCl (pA L sz) s.heap L116 (va_up f131 h (.inr (7, [.ref q101, .ref q111, .int (iI 0), .int (iI 0), .int (iI 0), .ref ((T.1 0)), .ref ((T.1 0)), .ref ((T.1 0)), .ref ((T.1 0)), .int (iI 36000), .int (iI 72000), .int (iI 0), .int (iI 0)]))) H locs := Y
  have S := tS_up (x := .inr (7, [.ref q101, .ref q111, .int (iI 0), .int (iI 0), .int (iI 0), .ref ((T.1 0)), .ref ((T.1 0)), .ref ((T.1 0)), .ref ((T.1 0)), .int (iI 36000), .int (iI 72000), .int (iI 0), .int (iI 0)])) S (fun h9 => h9.2.2 (List.mem_singleton.mpr rfl)) (fun h9 => absurd r120 h9)
  have e134 : (va_up f131 h (.inr (7, [.ref q101, .ref q111, .int (iI 0), .int (iI 0), .int (iI 0), .ref ((T.1 0)), .ref ((T.1 0)), .ref ((T.1 0)), .ref ((T.1 0)), .int (iI 36000), .int (iI 72000), .int (iI 0), .int (iI 0)]))) h = .inr (7, [.ref q101, .ref q111, .int (iI 0), .int (iI 0), .int (iI 0), .ref ((T.1 0)), .ref ((T.1 0)), .ref ((T.1 0)), .ref ((T.1 0)), .int (iI 36000), .int (iI 72000), .int (iI 0), .int (iI 0)]) := q_up
  generalize va_up f131 h (.inr (7, [.ref q101, .ref q111, .int (iI 0), .int (iI 0), .int (iI 0), .ref ((T.1 0)), .ref ((T.1 0)), .ref ((T.1 0)), .ref ((T.1 0)), .int (iI 36000), .int (iI 72000), .int (iI 0), .int (iI 0)])) = f133 at Y S e134
  refine lv_aload_n X.1 X.2.1 d_Pr_init_68 rfl (lv_at hl 0 rfl) ?_
  refine lv_bipush (v := iI 15) X.1 X.2.1 d_Pr_init_69 (by decide) ?_
  refine q_put X.1 X.2.1 X.2.2.1 i_Pr t_Pr t_Pr_ok n_Pr X.2.2.2.1 X.2.2.2.2 Y m119 e134 rfl 11 (by decide) (X.2.2.1 _ lk_Pr_52) (fun _ h9 => h9) rfl (t_Pr_ok 11 (by decide)) rfl rfl (Nat.le_of_ble_eq_true rfl) d_Pr_init_71 (fun H locs Y => ?_)
  have Y : pH D cCl (pA L sz) s.heap L116 (va_up f133 h (.inr (7, [.ref q101, .ref q111, .int (iI 0), .int (iI 0), .int (iI 0), .ref ((T.1 0)), .ref ((T.1 0)), .ref ((T.1 0)), .ref ((T.1 0)), .int (iI 36000), .int (iI 72000), .int (iI 15), .int (iI 0)]))) H locs := Y
  have S := tS_up (x := .inr (7, [.ref q101, .ref q111, .int (iI 0), .int (iI 0), .int (iI 0), .ref ((T.1 0)), .ref ((T.1 0)), .ref ((T.1 0)), .ref ((T.1 0)), .int (iI 36000), .int (iI 72000), .int (iI 15), .int (iI 0)])) S (fun h9 => h9.2.2 (List.mem_singleton.mpr rfl)) (fun h9 => absurd r120 h9)
  have e136 : (va_up f133 h (.inr (7, [.ref q101, .ref q111, .int (iI 0), .int (iI 0), .int (iI 0), .ref ((T.1 0)), .ref ((T.1 0)), .ref ((T.1 0)), .ref ((T.1 0)), .int (iI 36000), .int (iI 72000), .int (iI 15), .int (iI 0)]))) h = .inr (7, [.ref q101, .ref q111, .int (iI 0), .int (iI 0), .int (iI 0), .ref ((T.1 0)), .ref ((T.1 0)), .ref ((T.1 0)), .ref ((T.1 0)), .int (iI 36000), .int (iI 72000), .int (iI 15), .int (iI 0)]) := q_up
  generalize va_up f133 h (.inr (7, [.ref q101, .ref q111, .int (iI 0), .int (iI 0), .int (iI 0), .ref ((T.1 0)), .ref ((T.1 0)), .ref ((T.1 0)), .ref ((T.1 0)), .int (iI 36000), .int (iI 72000), .int (iI 15), .int (iI 0)])) = f135 at Y S e136
  have hle : tLe κ116 (va_up κ116 h (17, 0)) := tLe_raw r120
  have S := (tS_kind (k := (17, 0)) S m119 r120 r_h (fun h9 => h9.2.2 (List.mem_singleton.mpr rfl)) (by rw [e136]; exact ⟨_, rfl, okO_of ⟨⟨_, rfl, tLe_k hle k117⟩, ⟨_, rfl, tLe_k hle k116⟩, ⟨_, rfl, (show (0 : Int) ≤ 0 by omega), (show 0 ≤ (1 : Int) by omega)⟩, ⟨_, rfl, (show ((-2147483648) : Int) ≤ 0 by omega), (show 0 ≤ (2147483647 : Int) by omega)⟩, ⟨_, rfl, (show ((-2147483648) : Int) ≤ 0 by omega), (show 0 ≤ (2147483647 : Int) by omega)⟩, ⟨_, 0, rfl, tLe_key hle tKey_no⟩, ⟨_, 0, rfl, tLe_key hle tKey_no⟩, ⟨_, 0, rfl, tLe_key hle tKey_no⟩, ⟨_, 0, rfl, tLe_key hle tKey_no⟩, ⟨_, rfl, (show ((-2147483648) : Int) ≤ 36000 by omega), (show 36000 ≤ (2147483647 : Int) by omega)⟩, ⟨_, rfl, (show ((-2147483648) : Int) ≤ 72000 by omega), (show 72000 ≤ (2147483647 : Int) by omega)⟩, ⟨_, rfl, (show ((-2147483648) : Int) ≤ 15 by omega), (show 15 ≤ (2147483647 : Int) by omega)⟩, ⟨_, rfl, (show ((-2147483648) : Int) ≤ 0 by omega), (show 0 ≤ (2147483647 : Int) by omega)⟩, trivial⟩⟩)).1
  exact c_retv hQQ X Y hr hlk ⟨_, S, va_up_self _ _ _⟩ d_Pr_init_74
set_option maxHeartbeats 4000000 in
set_option maxRecDepth 100000 in
theorem c_Ti_init (l : Launch) (D : va_G) (E : cE) (T : cT) (κ : tK) (L : List Nat) (f : pF) (sz : Nat) (h : Nat) (m_h : h ∈ L) (r_h : (κ h).1 = 0) (e_h : f h = .inr (10, [.null, .null, .int (iI 0), .int (iI 0), .null, .int (iI 0), .int (iI 0), .int (iI 0), .int (iI 0), .int (iI 0)])) (hw : tW E T κ L f) : Met l y_Ti_init (k_Ti_init :: lw_tg) (kRm 2 81 4 44) (va_Pc [.ref h] (kPre D E T L f sz)) (va_Qv (aPv E T [13, 20] [h] κ L f (fun (k : tK) (g : pF) => k h = (20, 0))) (cPost D E (pA L sz)) (pA L sz)) 4 44 (pA L sz) := by
  refine k_enter (own := R_Ti) (by decide) rfl (Nat.le_of_ble_eq_true rfl) (fun p e s m below meth c ls AV QQ H locs hQQ X Y hA hin hr hlk hml hl KS KR => ?_)
  have hl : lv_has ls 1 [(0, .ref h)] := hl
  have S : tS E T (tFr κ L [13, 20] [h]) κ L f κ L f := tS_rf hw
  have hF0 : ∀ b, tFr κ L [13, 20] [h] b → b ∈ L := fun b h9 => h9.1
  refine lv_aload_n X.1 X.2.1 d_Ti_init_0 rfl (lv_at hl 0 rfl) ?_
  refine W.objInit X.1 X.2.1 X.2.2.2.1 (X.2.2.1 _ ol_Ti) (X.2.2.1 _ o_inst) (X.2.2.1 _ o_code) rfl (by rw [hml]; exact hl.1) rfl d_Ti_init_1 (Nat.le_of_ble_eq_true rfl) (Nat.le_of_ble_eq_true rfl) ?_
  refine W.eq (g2 := F0 m 4 ls []) rfl ?_
  refine lv_aload_n X.1 X.2.1 d_Ti_init_4 rfl (lv_at hl 0 rfl) ?_
  refine t_new (ci := 3) X Y S hA hF0 i_By t_By t_By_ok ck_Ti_9 mk_By ini_By rfl (fs := [.null, .int (iI 0)]) (fun j hj => match j, hj with | 0, _ => rfl | 1, _ => rfl | n9 + 2, h9 => absurd (show n9 + 2 < 2 from h9) (by omega)) (Nat.le_of_ble_eq_true rfl) (Nat.le_of_ble_eq_true rfl) d_Ti_init_5 (fun q101 L101 f101 H Y S s101 nl101 m101 r101 e101 nz101 => ?_)
  have e102 : f101 h = .inr (10, [.null, .null, .int (iI 0), .int (iI 0), .null, .int (iI 0), .int (iI 0), .int (iI 0), .int (iI 0), .int (iI 0)]) := (s101.2.2.2 _ ⟨m_h, by rw [r_h]; decide, by simp⟩).1.trans e_h
  have m103 : h ∈ L101 := s101.2.1 _ m_h
  have r104 : (κ h).1 = 0 := by rw [(s101.2.2.2 _ ⟨m_h, by rw [r_h]; decide, by simp⟩).2]; exact r_h
  refine lv_dup X.1 X.2.1 d_Ti_init_8 rfl ?_
  refine lv_iconst (v := iI 0) X.1 X.2.1 d_Ti_init_9 (by decide) ?_
  refine t_mk (x_runI (As := [.int (iI 0)]) (rest := [.ref q101, .ref h]) (n := 1) X hml hl.1 (c_By_init l D E T κ L101 f101 H.size q101 m101 r101 e101 0 (by omega) (by omega) S.1 0 0 (by omega) (by omega) (by decide)) (ok_k X Y hA KS KR) kl_Ti_By_init ks_By_init ki_By_init ini_By rfl ⟨rfl, rfl⟩ hd_By_init.2 ⟨Nat.le_of_ble_eq_true rfl, Nat.le_of_ble_eq_true rfl⟩ rfl (Nat.le_of_ble_eq_true rfl) d_Ti_init_10 ⟨Nat.le_of_ble_eq_true rfl, Nat.le_of_ble_eq_true rfl⟩) X Y hA S (by decide) nl101 (fun κ105 L105 f105 H locs Y S s105 p105 => ?_)
  have k105 := p105
  have e106 : f105 h = .inr (10, [.null, .null, .int (iI 0), .int (iI 0), .null, .int (iI 0), .int (iI 0), .int (iI 0), .int (iI 0), .int (iI 0)]) := (s105.2.2.2 _ ⟨m103, by rw [r104]; decide, by simp only [List.mem_singleton]; exact (nz101 _ m_h)⟩).1.trans e102
  have m107 : h ∈ L105 := s105.2.1 _ m103
  have r108 : (κ105 h).1 = 0 := by rw [(s105.2.2.2 _ ⟨m103, by rw [r104]; decide, by simp only [List.mem_singleton]; exact (nz101 _ m_h)⟩).2]; exact r104
  refine q_put X.1 X.2.1 X.2.2.1 i_Ti t_Ti t_Ti_ok n_Ti X.2.2.2.1 X.2.2.2.2 Y m107 e106 rfl 0 (by decide) (X.2.2.1 _ lk_Ti_14) (fun _ h9 => h9) rfl (t_Ti_ok 0 (by decide)) rfl rfl (Nat.le_of_ble_eq_true rfl) d_Ti_init_13 (fun H locs Y => ?_)
  have Y : pH D cCl (pA L sz) s.heap L105 (va_up f105 h (.inr (10, [.ref q101, .null, .int (iI 0), .int (iI 0), .null, .int (iI 0), .int (iI 0), .int (iI 0), .int (iI 0), .int (iI 0)]))) H locs := Y
  have S := tS_up (x := .inr (10, [.ref q101, .null, .int (iI 0), .int (iI 0), .null, .int (iI 0), .int (iI 0), .int (iI 0), .int (iI 0), .int (iI 0)])) S (fun h9 => h9.2.2 (List.mem_singleton.mpr rfl)) (fun h9 => absurd r108 h9)
  have e110 : (va_up f105 h (.inr (10, [.ref q101, .null, .int (iI 0), .int (iI 0), .null, .int (iI 0), .int (iI 0), .int (iI 0), .int (iI 0), .int (iI 0)]))) h = .inr (10, [.ref q101, .null, .int (iI 0), .int (iI 0), .null, .int (iI 0), .int (iI 0), .int (iI 0), .int (iI 0), .int (iI 0)]) := q_up
  generalize va_up f105 h (.inr (10, [.ref q101, .null, .int (iI 0), .int (iI 0), .null, .int (iI 0), .int (iI 0), .int (iI 0), .int (iI 0), .int (iI 0)])) = f109 at Y S e110
  refine lv_aload_n X.1 X.2.1 d_Ti_init_16 rfl (lv_at hl 0 rfl) ?_
  refine t_new (ci := 3) X Y S hA hF0 i_By t_By t_By_ok ck_Ti_9 mk_By ini_By rfl (fs := [.null, .int (iI 0)]) (fun j hj => match j, hj with | 0, _ => rfl | 1, _ => rfl | n9 + 2, h9 => absurd (show n9 + 2 < 2 from h9) (by omega)) (Nat.le_of_ble_eq_true rfl) (Nat.le_of_ble_eq_true rfl) d_Ti_init_17 (fun q111 L111 f111 H Y S s111 nl111 m111 r111 e111 nz111 => ?_)
  have k112 : κ105 q101 = (13, 0) := tLe_k s111.2.2.1 k105
  have e113 : f111 h = .inr (10, [.ref q101, .null, .int (iI 0), .int (iI 0), .null, .int (iI 0), .int (iI 0), .int (iI 0), .int (iI 0), .int (iI 0)]) := (s111.2.2.2 _ ⟨m107, by rw [r108]; decide, by simp⟩).1.trans e110
  have m114 : h ∈ L111 := s111.2.1 _ m107
  have r115 : (κ105 h).1 = 0 := by rw [(s111.2.2.2 _ ⟨m107, by rw [r108]; decide, by simp⟩).2]; exact r108
  refine lv_dup X.1 X.2.1 d_Ti_init_20 rfl ?_
  refine lv_bipush (v := iI 40) X.1 X.2.1 d_Ti_init_21 (by decide) ?_
  refine t_mk (x_runI (As := [.int (iI 40)]) (rest := [.ref q111, .ref h]) (n := 1) X hml hl.1 (c_By_init l D E T κ105 L111 f111 H.size q111 m111 r111 e111 40 (by omega) (by omega) S.1 40 40 (by omega) (by omega) (by decide)) (ok_k X Y hA KS KR) kl_Ti_By_init ks_By_init ki_By_init ini_By rfl ⟨rfl, rfl⟩ hd_By_init.2 ⟨Nat.le_of_ble_eq_true rfl, Nat.le_of_ble_eq_true rfl⟩ rfl (Nat.le_of_ble_eq_true rfl) d_Ti_init_23 ⟨Nat.le_of_ble_eq_true rfl, Nat.le_of_ble_eq_true rfl⟩) X Y hA S (by decide) nl111 (fun κ116 L116 f116 H locs Y S s116 p116 => ?_)
  have k116 := p116
  have k117 : κ116 q101 = (13, 0) := tLe_k s116.2.2.1 k112
  have e118 : f116 h = .inr (10, [.ref q101, .null, .int (iI 0), .int (iI 0), .null, .int (iI 0), .int (iI 0), .int (iI 0), .int (iI 0), .int (iI 0)]) := (s116.2.2.2 _ ⟨m114, by rw [r115]; decide, by simp only [List.mem_singleton]; exact (nz111 _ m107)⟩).1.trans e113
  have m119 : h ∈ L116 := s116.2.1 _ m114
  have r120 : (κ116 h).1 = 0 := by rw [(s116.2.2.2 _ ⟨m114, by rw [r115]; decide, by simp only [List.mem_singleton]; exact (nz111 _ m107)⟩).2]; exact r115
  refine q_putF X.1 X.2.1 X.2.2.1 i_Ti t_Ti t_Ti_ok n_Ti X.2.2.2.1 X.2.2.2.2 Y m119 e118 rfl 1 (by decide) (X.2.2.1 _ lk_Ti_20) (fun _ h9 => h9) rfl hin rfl (t_Ti_ok 1 (by decide)) rfl rfl (Nat.le_of_ble_eq_true rfl) d_Ti_init_26 (fun H locs Y => ?_)
  have Y : pH D cCl (pA L sz) s.heap L116 (va_up f116 h (.inr (10, [.ref q101, .ref q111, .int (iI 0), .int (iI 0), .null, .int (iI 0), .int (iI 0), .int (iI 0), .int (iI 0), .int (iI 0)]))) H locs := Y
  have S := tS_up (x := .inr (10, [.ref q101, .ref q111, .int (iI 0), .int (iI 0), .null, .int (iI 0), .int (iI 0), .int (iI 0), .int (iI 0), .int (iI 0)])) S (fun h9 => h9.2.2 (List.mem_singleton.mpr rfl)) (fun h9 => absurd r120 h9)
  have e122 : (va_up f116 h (.inr (10, [.ref q101, .ref q111, .int (iI 0), .int (iI 0), .null, .int (iI 0), .int (iI 0), .int (iI 0), .int (iI 0), .int (iI 0)]))) h = .inr (10, [.ref q101, .ref q111, .int (iI 0), .int (iI 0), .null, .int (iI 0), .int (iI 0), .int (iI 0), .int (iI 0), .int (iI 0)]) := q_up
  generalize va_up f116 h (.inr (10, [.ref q101, .ref q111, .int (iI 0), .int (iI 0), .null, .int (iI 0), .int (iI 0), .int (iI 0), .int (iI 0), .int (iI 0)])) = f121 at Y S e122
  refine lv_aload_n X.1 X.2.1 d_Ti_init_29 rfl (lv_at hl 0 rfl) ?_
  refine k_getsN X Y KS KR (by decide) d_Ti_init_30 ?_
  refine q_put X.1 X.2.1 X.2.2.1 i_Ti t_Ti t_Ti_ok n_Ti X.2.2.2.1 X.2.2.2.2 Y m119 e122 rfl 4 (by decide) (X.2.2.1 _ lk_Ti_27) (fun _ h9 => h9) rfl (t_Ti_ok 4 (by decide)) rfl rfl (Nat.le_of_ble_eq_true rfl) d_Ti_init_33 (fun H locs Y => ?_)
  have Y : pH D cCl (pA L sz) s.heap L116 (va_up f121 h (.inr (10, [.ref q101, .ref q111, .int (iI 0), .int (iI 0), .ref ((T.1 0)), .int (iI 0), .int (iI 0), .int (iI 0), .int (iI 0), .int (iI 0)]))) H locs := Y
  have S := tS_up (x := .inr (10, [.ref q101, .ref q111, .int (iI 0), .int (iI 0), .ref ((T.1 0)), .int (iI 0), .int (iI 0), .int (iI 0), .int (iI 0), .int (iI 0)])) S (fun h9 => h9.2.2 (List.mem_singleton.mpr rfl)) (fun h9 => absurd r120 h9)
  have e124 : (va_up f121 h (.inr (10, [.ref q101, .ref q111, .int (iI 0), .int (iI 0), .ref ((T.1 0)), .int (iI 0), .int (iI 0), .int (iI 0), .int (iI 0), .int (iI 0)]))) h = .inr (10, [.ref q101, .ref q111, .int (iI 0), .int (iI 0), .ref ((T.1 0)), .int (iI 0), .int (iI 0), .int (iI 0), .int (iI 0), .int (iI 0)]) := q_up
  generalize va_up f121 h (.inr (10, [.ref q101, .ref q111, .int (iI 0), .int (iI 0), .ref ((T.1 0)), .int (iI 0), .int (iI 0), .int (iI 0), .int (iI 0), .int (iI 0)])) = f123 at Y S e124
  have hle : tLe κ116 (va_up κ116 h (20, 0)) := tLe_raw r120
  have S := (tS_kind (k := (20, 0)) S m119 r120 r_h (fun h9 => h9.2.2 (List.mem_singleton.mpr rfl)) (by rw [e124]; exact ⟨_, rfl, okO_of ⟨⟨_, _, rfl, tLe_k hle k117, (show ((0 : Nat) : Int) ≤ 4000 by omega)⟩, ⟨_, rfl, tLe_k hle k116⟩, ⟨_, rfl, (show ((-2147483648) : Int) ≤ 0 by omega), (show 0 ≤ (2147483647 : Int) by omega)⟩, ⟨_, rfl, (show (0 : Int) ≤ 0 by omega), (show 0 ≤ (1 : Int) by omega)⟩, ⟨_, 0, rfl, tLe_key hle tKey_no⟩, ⟨_, rfl, (show ((-2147483648) : Int) ≤ 0 by omega), (show 0 ≤ (2147483647 : Int) by omega)⟩, ⟨_, rfl, (show ((-2147483648) : Int) ≤ 0 by omega), (show 0 ≤ (2147483647 : Int) by omega)⟩, ⟨_, rfl, (show ((-2147483648) : Int) ≤ 0 by omega), (show 0 ≤ (2147483647 : Int) by omega)⟩, ⟨_, rfl, (show ((-2147483648) : Int) ≤ 0 by omega), (show 0 ≤ (2147483647 : Int) by omega)⟩, ⟨_, rfl, (show ((-2147483648) : Int) ≤ 0 by omega), (show 0 ≤ (2147483647 : Int) by omega)⟩, trivial⟩⟩)).1
  exact c_retv hQQ X Y hr hlk ⟨_, S, va_up_self _ _ _⟩ d_Ti_init_36
set_option maxHeartbeats 4000000 in
set_option maxRecDepth 100000 in
theorem c_Ag_init (l : Launch) (D : va_G) (E : cE) (T : cT) (κ : tK) (L : List Nat) (f : pF) (sz : Nat) (h : Nat) (m_h : h ∈ L) (r_h : (κ h).1 = 0) (e_h : f h = .inr (2, [.null, .null, .int (iI 0), .int (iI 0), .null, .null, .null, .int (iI 0), .int (iI 0), .int (iI 0), .int (iI 0), .int (iI 0), .null, .null, .null, .int (iI 0), .int (iI 0), .long 0, .null, .long 0, .int (iI 0)])) (a1 : Nat) (k1 : κ a1 = (21, 0)) (hw : tW E T κ L f) : Met l y_Ag_init (k_Ag_init :: lw_tg) (kRm 3 101 47 566) (va_Pc [.ref h, .ref a1] (kPre D E T L f sz)) (va_Qv (aPv E T [12, 13, 20] [h] κ L f (fun (k : tK) (g : pF) => k h = (12, 0))) (cPost D E (pA L sz)) (pA L sz)) 47 566 (pA L sz) := by
  refine k_enter (own := R_Ag) (by decide) rfl (Nat.le_of_ble_eq_true rfl) (fun p e s m below meth c ls AV QQ H locs hQQ X Y hA hin hr hlk hml hl KS KR => ?_)
  have hl : lv_has ls 3 [(0, .ref h), (1, .ref a1)] := hl
  have S : tS E T (tFr κ L [12, 13, 20] [h]) κ L f κ L f := tS_rf hw
  have hF0 : ∀ b, tFr κ L [12, 13, 20] [h] b → b ∈ L := fun b h9 => h9.1
  refine lv_aload_n X.1 X.2.1 d_Ag_init_0 rfl (lv_at hl 0 rfl) ?_
  refine W.objInit X.1 X.2.1 X.2.2.2.1 (X.2.2.1 _ ol_Ag) (X.2.2.1 _ o_inst) (X.2.2.1 _ o_code) rfl (by rw [hml]; exact hl.1) rfl d_Ag_init_1 (Nat.le_of_ble_eq_true rfl) (Nat.le_of_ble_eq_true rfl) ?_
  refine W.eq (g2 := F0 m 4 ls []) rfl ?_
  refine lv_aload_n X.1 X.2.1 d_Ag_init_4 rfl (lv_at hl 0 rfl) ?_
  refine t_new (ci := 3) X Y S hA hF0 i_By t_By t_By_ok ck_Ag_9 mk_By ini_By rfl (fs := [.null, .int (iI 0)]) (fun j hj => match j, hj with | 0, _ => rfl | 1, _ => rfl | n9 + 2, h9 => absurd (show n9 + 2 < 2 from h9) (by omega)) (Nat.le_of_ble_eq_true rfl) (Nat.le_of_ble_eq_true rfl) d_Ag_init_5 (fun q101 L101 f101 H Y S s101 nl101 m101 r101 e101 nz101 => ?_)
  have k102 : κ a1 = (21, 0) := tLe_k s101.2.2.1 k1
  have e103 : f101 h = .inr (2, [.null, .null, .int (iI 0), .int (iI 0), .null, .null, .null, .int (iI 0), .int (iI 0), .int (iI 0), .int (iI 0), .int (iI 0), .null, .null, .null, .int (iI 0), .int (iI 0), .long 0, .null, .long 0, .int (iI 0)]) := (s101.2.2.2 _ ⟨m_h, by rw [r_h]; decide, by simp⟩).1.trans e_h
  have m104 : h ∈ L101 := s101.2.1 _ m_h
  have r105 : (κ h).1 = 0 := by rw [(s101.2.2.2 _ ⟨m_h, by rw [r_h]; decide, by simp⟩).2]; exact r_h
  refine lv_dup X.1 X.2.1 d_Ag_init_8 rfl ?_
  refine lv_bipush (v := iI 40) X.1 X.2.1 d_Ag_init_9 (by decide) ?_
  refine t_mk (x_runI (As := [.int (iI 40)]) (rest := [.ref q101, .ref h]) (n := 1) X hml hl.1 (c_By_init l D E T κ L101 f101 H.size q101 m101 r101 e101 40 (by omega) (by omega) S.1 40 40 (by omega) (by omega) (by decide)) (ok_k X Y hA KS KR) kl_Ag_By_init ks_By_init ki_By_init ini_By rfl ⟨rfl, rfl⟩ hd_By_init.2 ⟨Nat.le_of_ble_eq_true rfl, Nat.le_of_ble_eq_true rfl⟩ rfl (Nat.le_of_ble_eq_true rfl) d_Ag_init_11 ⟨Nat.le_of_ble_eq_true rfl, Nat.le_of_ble_eq_true rfl⟩) X Y hA S (by decide) nl101 (fun κ106 L106 f106 H locs Y S s106 p106 => ?_)
  have k106 := p106
  have k107 : κ106 a1 = (21, 0) := tLe_k s106.2.2.1 k102
  have e108 : f106 h = .inr (2, [.null, .null, .int (iI 0), .int (iI 0), .null, .null, .null, .int (iI 0), .int (iI 0), .int (iI 0), .int (iI 0), .int (iI 0), .null, .null, .null, .int (iI 0), .int (iI 0), .long 0, .null, .long 0, .int (iI 0)]) := (s106.2.2.2 _ ⟨m104, by rw [r105]; decide, by simp only [List.mem_singleton]; exact (nz101 _ m_h)⟩).1.trans e103
  have m109 : h ∈ L106 := s106.2.1 _ m104
  have r110 : (κ106 h).1 = 0 := by rw [(s106.2.2.2 _ ⟨m104, by rw [r105]; decide, by simp only [List.mem_singleton]; exact (nz101 _ m_h)⟩).2]; exact r105
  refine q_putF X.1 X.2.1 X.2.2.1 i_Ag t_Ag t_Ag_ok n_Ag X.2.2.2.1 X.2.2.2.2 Y m109 e108 rfl 4 (by decide) (X.2.2.1 _ lk_Ag_14) (fun _ h9 => h9) rfl hin rfl (t_Ag_ok 4 (by decide)) rfl rfl (Nat.le_of_ble_eq_true rfl) d_Ag_init_14 (fun H locs Y => ?_)
  have Y : pH D cCl (pA L sz) s.heap L106 (va_up f106 h (.inr (2, [.null, .null, .int (iI 0), .int (iI 0), .ref q101, .null, .null, .int (iI 0), .int (iI 0), .int (iI 0), .int (iI 0), .int (iI 0), .null, .null, .null, .int (iI 0), .int (iI 0), .long 0, .null, .long 0, .int (iI 0)]))) H locs := Y
  have S := tS_up (x := .inr (2, [.null, .null, .int (iI 0), .int (iI 0), .ref q101, .null, .null, .int (iI 0), .int (iI 0), .int (iI 0), .int (iI 0), .int (iI 0), .null, .null, .null, .int (iI 0), .int (iI 0), .long 0, .null, .long 0, .int (iI 0)])) S (fun h9 => h9.2.2 (List.mem_singleton.mpr rfl)) (fun h9 => absurd r110 h9)
  have e112 : (va_up f106 h (.inr (2, [.null, .null, .int (iI 0), .int (iI 0), .ref q101, .null, .null, .int (iI 0), .int (iI 0), .int (iI 0), .int (iI 0), .int (iI 0), .null, .null, .null, .int (iI 0), .int (iI 0), .long 0, .null, .long 0, .int (iI 0)]))) h = .inr (2, [.null, .null, .int (iI 0), .int (iI 0), .ref q101, .null, .null, .int (iI 0), .int (iI 0), .int (iI 0), .int (iI 0), .int (iI 0), .null, .null, .null, .int (iI 0), .int (iI 0), .long 0, .null, .long 0, .int (iI 0)]) := q_up
  generalize va_up f106 h (.inr (2, [.null, .null, .int (iI 0), .int (iI 0), .ref q101, .null, .null, .int (iI 0), .int (iI 0), .int (iI 0), .int (iI 0), .int (iI 0), .null, .null, .null, .int (iI 0), .int (iI 0), .long 0, .null, .long 0, .int (iI 0)])) = f111 at Y S e112
  refine lv_aload_n X.1 X.2.1 d_Ag_init_17 rfl (lv_at hl 0 rfl) ?_
  refine k_getsN X Y KS KR (by decide) d_Ag_init_18 ?_
  refine q_put X.1 X.2.1 X.2.2.1 i_Ag t_Ag t_Ag_ok n_Ag X.2.2.2.1 X.2.2.2.2 Y m109 e112 rfl 5 (by decide) (X.2.2.1 _ lk_Ag_24) (fun _ h9 => h9) rfl (t_Ag_ok 5 (by decide)) rfl rfl (Nat.le_of_ble_eq_true rfl) d_Ag_init_21 (fun H locs Y => ?_)
  have Y : pH D cCl (pA L sz) s.heap L106 (va_up f111 h (.inr (2, [.null, .null, .int (iI 0), .int (iI 0), .ref q101, .ref ((T.1 0)), .null, .int (iI 0), .int (iI 0), .int (iI 0), .int (iI 0), .int (iI 0), .null, .null, .null, .int (iI 0), .int (iI 0), .long 0, .null, .long 0, .int (iI 0)]))) H locs := Y
  have S := tS_up (x := .inr (2, [.null, .null, .int (iI 0), .int (iI 0), .ref q101, .ref ((T.1 0)), .null, .int (iI 0), .int (iI 0), .int (iI 0), .int (iI 0), .int (iI 0), .null, .null, .null, .int (iI 0), .int (iI 0), .long 0, .null, .long 0, .int (iI 0)])) S (fun h9 => h9.2.2 (List.mem_singleton.mpr rfl)) (fun h9 => absurd r110 h9)
  have e114 : (va_up f111 h (.inr (2, [.null, .null, .int (iI 0), .int (iI 0), .ref q101, .ref ((T.1 0)), .null, .int (iI 0), .int (iI 0), .int (iI 0), .int (iI 0), .int (iI 0), .null, .null, .null, .int (iI 0), .int (iI 0), .long 0, .null, .long 0, .int (iI 0)]))) h = .inr (2, [.null, .null, .int (iI 0), .int (iI 0), .ref q101, .ref ((T.1 0)), .null, .int (iI 0), .int (iI 0), .int (iI 0), .int (iI 0), .int (iI 0), .null, .null, .null, .int (iI 0), .int (iI 0), .long 0, .null, .long 0, .int (iI 0)]) := q_up
  generalize va_up f111 h (.inr (2, [.null, .null, .int (iI 0), .int (iI 0), .ref q101, .ref ((T.1 0)), .null, .int (iI 0), .int (iI 0), .int (iI 0), .int (iI 0), .int (iI 0), .null, .null, .null, .int (iI 0), .int (iI 0), .long 0, .null, .long 0, .int (iI 0)])) = f113 at Y S e114
  refine lv_aload_n X.1 X.2.1 d_Ag_init_24 rfl (lv_at hl 0 rfl) ?_
  refine k_getsN X Y KS KR (by decide) d_Ag_init_25 ?_
  refine q_put X.1 X.2.1 X.2.2.1 i_Ag t_Ag t_Ag_ok n_Ag X.2.2.2.1 X.2.2.2.2 Y m109 e114 rfl 6 (by decide) (X.2.2.1 _ lk_Ag_27) (fun _ h9 => h9) rfl (t_Ag_ok 6 (by decide)) rfl rfl (Nat.le_of_ble_eq_true rfl) d_Ag_init_28 (fun H locs Y => ?_)
  have Y : pH D cCl (pA L sz) s.heap L106 (va_up f113 h (.inr (2, [.null, .null, .int (iI 0), .int (iI 0), .ref q101, .ref ((T.1 0)), .ref ((T.1 0)), .int (iI 0), .int (iI 0), .int (iI 0), .int (iI 0), .int (iI 0), .null, .null, .null, .int (iI 0), .int (iI 0), .long 0, .null, .long 0, .int (iI 0)]))) H locs := Y
  have S := tS_up (x := .inr (2, [.null, .null, .int (iI 0), .int (iI 0), .ref q101, .ref ((T.1 0)), .ref ((T.1 0)), .int (iI 0), .int (iI 0), .int (iI 0), .int (iI 0), .int (iI 0), .null, .null, .null, .int (iI 0), .int (iI 0), .long 0, .null, .long 0, .int (iI 0)])) S (fun h9 => h9.2.2 (List.mem_singleton.mpr rfl)) (fun h9 => absurd r110 h9)
  have e116 : (va_up f113 h (.inr (2, [.null, .null, .int (iI 0), .int (iI 0), .ref q101, .ref ((T.1 0)), .ref ((T.1 0)), .int (iI 0), .int (iI 0), .int (iI 0), .int (iI 0), .int (iI 0), .null, .null, .null, .int (iI 0), .int (iI 0), .long 0, .null, .long 0, .int (iI 0)]))) h = .inr (2, [.null, .null, .int (iI 0), .int (iI 0), .ref q101, .ref ((T.1 0)), .ref ((T.1 0)), .int (iI 0), .int (iI 0), .int (iI 0), .int (iI 0), .int (iI 0), .null, .null, .null, .int (iI 0), .int (iI 0), .long 0, .null, .long 0, .int (iI 0)]) := q_up
  generalize va_up f113 h (.inr (2, [.null, .null, .int (iI 0), .int (iI 0), .ref q101, .ref ((T.1 0)), .ref ((T.1 0)), .int (iI 0), .int (iI 0), .int (iI 0), .int (iI 0), .int (iI 0), .null, .null, .null, .int (iI 0), .int (iI 0), .long 0, .null, .long 0, .int (iI 0)])) = f115 at Y S e116
  refine lv_aload_n X.1 X.2.1 d_Ag_init_31 rfl (lv_at hl 0 rfl) ?_
  refine t_new (ci := 3) X Y S hA hF0 i_By t_By t_By_ok ck_Ag_9 mk_By ini_By rfl (fs := [.null, .int (iI 0)]) (fun j hj => match j, hj with | 0, _ => rfl | 1, _ => rfl | n9 + 2, h9 => absurd (show n9 + 2 < 2 from h9) (by omega)) (Nat.le_of_ble_eq_true rfl) (Nat.le_of_ble_eq_true rfl) d_Ag_init_32 (fun q117 L117 f117 H Y S s117 nl117 m117 r117 e117 nz117 => ?_)
  have k118 : κ106 a1 = (21, 0) := tLe_k s117.2.2.1 k107
  have k119 : κ106 q101 = (13, 40) := tLe_k s117.2.2.1 k106
  have e120 : f117 h = .inr (2, [.null, .null, .int (iI 0), .int (iI 0), .ref q101, .ref ((T.1 0)), .ref ((T.1 0)), .int (iI 0), .int (iI 0), .int (iI 0), .int (iI 0), .int (iI 0), .null, .null, .null, .int (iI 0), .int (iI 0), .long 0, .null, .long 0, .int (iI 0)]) := (s117.2.2.2 _ ⟨m109, by rw [r110]; decide, by simp⟩).1.trans e116
  have m121 : h ∈ L117 := s117.2.1 _ m109
  have r122 : (κ106 h).1 = 0 := by rw [(s117.2.2.2 _ ⟨m109, by rw [r110]; decide, by simp⟩).2]; exact r110
  refine lv_dup X.1 X.2.1 d_Ag_init_35 rfl ?_
  refine lv_bipush (v := iI 40) X.1 X.2.1 d_Ag_init_36 (by decide) ?_
  refine t_mk (x_runI (As := [.int (iI 40)]) (rest := [.ref q117, .ref h]) (n := 1) X hml hl.1 (c_By_init l D E T κ106 L117 f117 H.size q117 m117 r117 e117 40 (by omega) (by omega) S.1 40 40 (by omega) (by omega) (by decide)) (ok_k X Y hA KS KR) kl_Ag_By_init ks_By_init ki_By_init ini_By rfl ⟨rfl, rfl⟩ hd_By_init.2 ⟨Nat.le_of_ble_eq_true rfl, Nat.le_of_ble_eq_true rfl⟩ rfl (Nat.le_of_ble_eq_true rfl) d_Ag_init_38 ⟨Nat.le_of_ble_eq_true rfl, Nat.le_of_ble_eq_true rfl⟩) X Y hA S (by decide) nl117 (fun κ123 L123 f123 H locs Y S s123 p123 => ?_)
  have k123 := p123
  have k124 : κ123 a1 = (21, 0) := tLe_k s123.2.2.1 k118
  have k125 : κ123 q101 = (13, 40) := tLe_k s123.2.2.1 k119
  have e126 : f123 h = .inr (2, [.null, .null, .int (iI 0), .int (iI 0), .ref q101, .ref ((T.1 0)), .ref ((T.1 0)), .int (iI 0), .int (iI 0), .int (iI 0), .int (iI 0), .int (iI 0), .null, .null, .null, .int (iI 0), .int (iI 0), .long 0, .null, .long 0, .int (iI 0)]) := (s123.2.2.2 _ ⟨m121, by rw [r122]; decide, by simp only [List.mem_singleton]; exact (nz117 _ m109)⟩).1.trans e120
  have m127 : h ∈ L123 := s123.2.1 _ m121
  have r128 : (κ123 h).1 = 0 := by rw [(s123.2.2.2 _ ⟨m121, by rw [r122]; decide, by simp only [List.mem_singleton]; exact (nz117 _ m109)⟩).2]; exact r122
  refine q_putF X.1 X.2.1 X.2.2.1 i_Ag t_Ag t_Ag_ok n_Ag X.2.2.2.1 X.2.2.2.2 Y m127 e126 rfl 12 (by decide) (X.2.2.1 _ lk_Ag_30) (fun _ h9 => h9) rfl hin rfl (t_Ag_ok 12 (by decide)) rfl rfl (Nat.le_of_ble_eq_true rfl) d_Ag_init_41 (fun H locs Y => ?_)
  have Y : pH D cCl (pA L sz) s.heap L123 (va_up f123 h (.inr (2, [.null, .null, .int (iI 0), .int (iI 0), .ref q101, .ref ((T.1 0)), .ref ((T.1 0)), .int (iI 0), .int (iI 0), .int (iI 0), .int (iI 0), .int (iI 0), .ref q117, .null, .null, .int (iI 0), .int (iI 0), .long 0, .null, .long 0, .int (iI 0)]))) H locs := Y
  have S := tS_up (x := .inr (2, [.null, .null, .int (iI 0), .int (iI 0), .ref q101, .ref ((T.1 0)), .ref ((T.1 0)), .int (iI 0), .int (iI 0), .int (iI 0), .int (iI 0), .int (iI 0), .ref q117, .null, .null, .int (iI 0), .int (iI 0), .long 0, .null, .long 0, .int (iI 0)])) S (fun h9 => h9.2.2 (List.mem_singleton.mpr rfl)) (fun h9 => absurd r128 h9)
  have e130 : (va_up f123 h (.inr (2, [.null, .null, .int (iI 0), .int (iI 0), .ref q101, .ref ((T.1 0)), .ref ((T.1 0)), .int (iI 0), .int (iI 0), .int (iI 0), .int (iI 0), .int (iI 0), .ref q117, .null, .null, .int (iI 0), .int (iI 0), .long 0, .null, .long 0, .int (iI 0)]))) h = .inr (2, [.null, .null, .int (iI 0), .int (iI 0), .ref q101, .ref ((T.1 0)), .ref ((T.1 0)), .int (iI 0), .int (iI 0), .int (iI 0), .int (iI 0), .int (iI 0), .ref q117, .null, .null, .int (iI 0), .int (iI 0), .long 0, .null, .long 0, .int (iI 0)]) := q_up
  generalize va_up f123 h (.inr (2, [.null, .null, .int (iI 0), .int (iI 0), .ref q101, .ref ((T.1 0)), .ref ((T.1 0)), .int (iI 0), .int (iI 0), .int (iI 0), .int (iI 0), .int (iI 0), .ref q117, .null, .null, .int (iI 0), .int (iI 0), .long 0, .null, .long 0, .int (iI 0)])) = f129 at Y S e130
  refine lv_aload_n X.1 X.2.1 d_Ag_init_44 rfl (lv_at hl 0 rfl) ?_
  refine t_new (ci := 3) X Y S hA hF0 i_By t_By t_By_ok ck_Ag_9 mk_By ini_By rfl (fs := [.null, .int (iI 0)]) (fun j hj => match j, hj with | 0, _ => rfl | 1, _ => rfl | n9 + 2, h9 => absurd (show n9 + 2 < 2 from h9) (by omega)) (Nat.le_of_ble_eq_true rfl) (Nat.le_of_ble_eq_true rfl) d_Ag_init_45 (fun q131 L131 f131 H Y S s131 nl131 m131 r131 e131 nz131 => ?_)
  have k132 : κ123 a1 = (21, 0) := tLe_k s131.2.2.1 k124
  have k133 : κ123 q101 = (13, 40) := tLe_k s131.2.2.1 k125
  have k134 : κ123 q117 = (13, 40) := tLe_k s131.2.2.1 k123
  have e135 : f131 h = .inr (2, [.null, .null, .int (iI 0), .int (iI 0), .ref q101, .ref ((T.1 0)), .ref ((T.1 0)), .int (iI 0), .int (iI 0), .int (iI 0), .int (iI 0), .int (iI 0), .ref q117, .null, .null, .int (iI 0), .int (iI 0), .long 0, .null, .long 0, .int (iI 0)]) := (s131.2.2.2 _ ⟨m127, by rw [r128]; decide, by simp⟩).1.trans e130
  have m136 : h ∈ L131 := s131.2.1 _ m127
  have r137 : (κ123 h).1 = 0 := by rw [(s131.2.2.2 _ ⟨m127, by rw [r128]; decide, by simp⟩).2]; exact r128
  refine lv_dup X.1 X.2.1 d_Ag_init_48 rfl ?_
  refine lv_bipush (v := iI 40) X.1 X.2.1 d_Ag_init_49 (by decide) ?_
  refine t_mk (x_runI (As := [.int (iI 40)]) (rest := [.ref q131, .ref h]) (n := 1) X hml hl.1 (c_By_init l D E T κ123 L131 f131 H.size q131 m131 r131 e131 40 (by omega) (by omega) S.1 40 40 (by omega) (by omega) (by decide)) (ok_k X Y hA KS KR) kl_Ag_By_init ks_By_init ki_By_init ini_By rfl ⟨rfl, rfl⟩ hd_By_init.2 ⟨Nat.le_of_ble_eq_true rfl, Nat.le_of_ble_eq_true rfl⟩ rfl (Nat.le_of_ble_eq_true rfl) d_Ag_init_51 ⟨Nat.le_of_ble_eq_true rfl, Nat.le_of_ble_eq_true rfl⟩) X Y hA S (by decide) nl131 (fun κ138 L138 f138 H locs Y S s138 p138 => ?_)
  have k138 := p138
  have k139 : κ138 a1 = (21, 0) := tLe_k s138.2.2.1 k132
  have k140 : κ138 q101 = (13, 40) := tLe_k s138.2.2.1 k133
  have k141 : κ138 q117 = (13, 40) := tLe_k s138.2.2.1 k134
  have e142 : f138 h = .inr (2, [.null, .null, .int (iI 0), .int (iI 0), .ref q101, .ref ((T.1 0)), .ref ((T.1 0)), .int (iI 0), .int (iI 0), .int (iI 0), .int (iI 0), .int (iI 0), .ref q117, .null, .null, .int (iI 0), .int (iI 0), .long 0, .null, .long 0, .int (iI 0)]) := (s138.2.2.2 _ ⟨m136, by rw [r137]; decide, by simp only [List.mem_singleton]; exact (nz131 _ m127)⟩).1.trans e135
  have m143 : h ∈ L138 := s138.2.1 _ m136
  have r144 : (κ138 h).1 = 0 := by rw [(s138.2.2.2 _ ⟨m136, by rw [r137]; decide, by simp only [List.mem_singleton]; exact (nz131 _ m127)⟩).2]; exact r137
  refine q_putF X.1 X.2.1 X.2.2.1 i_Ag t_Ag t_Ag_ok n_Ag X.2.2.2.1 X.2.2.2.2 Y m143 e142 rfl 13 (by decide) (X.2.2.1 _ lk_Ag_33) (fun _ h9 => h9) rfl hin rfl (t_Ag_ok 13 (by decide)) rfl rfl (Nat.le_of_ble_eq_true rfl) d_Ag_init_54 (fun H locs Y => ?_)
  have Y : pH D cCl (pA L sz) s.heap L138 (va_up f138 h (.inr (2, [.null, .null, .int (iI 0), .int (iI 0), .ref q101, .ref ((T.1 0)), .ref ((T.1 0)), .int (iI 0), .int (iI 0), .int (iI 0), .int (iI 0), .int (iI 0), .ref q117, .ref q131, .null, .int (iI 0), .int (iI 0), .long 0, .null, .long 0, .int (iI 0)]))) H locs := Y
  have S := tS_up (x := .inr (2, [.null, .null, .int (iI 0), .int (iI 0), .ref q101, .ref ((T.1 0)), .ref ((T.1 0)), .int (iI 0), .int (iI 0), .int (iI 0), .int (iI 0), .int (iI 0), .ref q117, .ref q131, .null, .int (iI 0), .int (iI 0), .long 0, .null, .long 0, .int (iI 0)])) S (fun h9 => h9.2.2 (List.mem_singleton.mpr rfl)) (fun h9 => absurd r144 h9)
  have e146 : (va_up f138 h (.inr (2, [.null, .null, .int (iI 0), .int (iI 0), .ref q101, .ref ((T.1 0)), .ref ((T.1 0)), .int (iI 0), .int (iI 0), .int (iI 0), .int (iI 0), .int (iI 0), .ref q117, .ref q131, .null, .int (iI 0), .int (iI 0), .long 0, .null, .long 0, .int (iI 0)]))) h = .inr (2, [.null, .null, .int (iI 0), .int (iI 0), .ref q101, .ref ((T.1 0)), .ref ((T.1 0)), .int (iI 0), .int (iI 0), .int (iI 0), .int (iI 0), .int (iI 0), .ref q117, .ref q131, .null, .int (iI 0), .int (iI 0), .long 0, .null, .long 0, .int (iI 0)]) := q_up
  generalize va_up f138 h (.inr (2, [.null, .null, .int (iI 0), .int (iI 0), .ref q101, .ref ((T.1 0)), .ref ((T.1 0)), .int (iI 0), .int (iI 0), .int (iI 0), .int (iI 0), .int (iI 0), .ref q117, .ref q131, .null, .int (iI 0), .int (iI 0), .long 0, .null, .long 0, .int (iI 0)])) = f145 at Y S e146
  refine lv_aload_n X.1 X.2.1 d_Ag_init_57 rfl (lv_at hl 0 rfl) ?_
  refine k_getsN X Y KS KR (by decide) d_Ag_init_58 ?_
  refine q_put X.1 X.2.1 X.2.2.1 i_Ag t_Ag t_Ag_ok n_Ag X.2.2.2.1 X.2.2.2.2 Y m143 e146 rfl 14 (by decide) (X.2.2.1 _ lk_Ag_36) (fun _ h9 => h9) rfl (t_Ag_ok 14 (by decide)) rfl rfl (Nat.le_of_ble_eq_true rfl) d_Ag_init_61 (fun H locs Y => ?_)
  have Y : pH D cCl (pA L sz) s.heap L138 (va_up f145 h (.inr (2, [.null, .null, .int (iI 0), .int (iI 0), .ref q101, .ref ((T.1 0)), .ref ((T.1 0)), .int (iI 0), .int (iI 0), .int (iI 0), .int (iI 0), .int (iI 0), .ref q117, .ref q131, .ref ((T.1 0)), .int (iI 0), .int (iI 0), .long 0, .null, .long 0, .int (iI 0)]))) H locs := Y
  have S := tS_up (x := .inr (2, [.null, .null, .int (iI 0), .int (iI 0), .ref q101, .ref ((T.1 0)), .ref ((T.1 0)), .int (iI 0), .int (iI 0), .int (iI 0), .int (iI 0), .int (iI 0), .ref q117, .ref q131, .ref ((T.1 0)), .int (iI 0), .int (iI 0), .long 0, .null, .long 0, .int (iI 0)])) S (fun h9 => h9.2.2 (List.mem_singleton.mpr rfl)) (fun h9 => absurd r144 h9)
  have e148 : (va_up f145 h (.inr (2, [.null, .null, .int (iI 0), .int (iI 0), .ref q101, .ref ((T.1 0)), .ref ((T.1 0)), .int (iI 0), .int (iI 0), .int (iI 0), .int (iI 0), .int (iI 0), .ref q117, .ref q131, .ref ((T.1 0)), .int (iI 0), .int (iI 0), .long 0, .null, .long 0, .int (iI 0)]))) h = .inr (2, [.null, .null, .int (iI 0), .int (iI 0), .ref q101, .ref ((T.1 0)), .ref ((T.1 0)), .int (iI 0), .int (iI 0), .int (iI 0), .int (iI 0), .int (iI 0), .ref q117, .ref q131, .ref ((T.1 0)), .int (iI 0), .int (iI 0), .long 0, .null, .long 0, .int (iI 0)]) := q_up
  generalize va_up f145 h (.inr (2, [.null, .null, .int (iI 0), .int (iI 0), .ref q101, .ref ((T.1 0)), .ref ((T.1 0)), .int (iI 0), .int (iI 0), .int (iI 0), .int (iI 0), .int (iI 0), .ref q117, .ref q131, .ref ((T.1 0)), .int (iI 0), .int (iI 0), .long 0, .null, .long 0, .int (iI 0)])) = f147 at Y S e148
  refine lv_aload_n X.1 X.2.1 d_Ag_init_64 rfl (lv_at hl 0 rfl) ?_
  refine k_getsN X Y KS KR (by decide) d_Ag_init_65 ?_
  refine q_put X.1 X.2.1 X.2.2.1 i_Ag t_Ag t_Ag_ok n_Ag X.2.2.2.1 X.2.2.2.2 Y m143 e148 rfl 18 (by decide) (X.2.2.1 _ lk_Ag_39) (fun _ h9 => h9) rfl (t_Ag_ok 18 (by decide)) rfl rfl (Nat.le_of_ble_eq_true rfl) d_Ag_init_68 (fun H locs Y => ?_)
  have Y : pH D cCl (pA L sz) s.heap L138 (va_up f147 h (.inr (2, [.null, .null, .int (iI 0), .int (iI 0), .ref q101, .ref ((T.1 0)), .ref ((T.1 0)), .int (iI 0), .int (iI 0), .int (iI 0), .int (iI 0), .int (iI 0), .ref q117, .ref q131, .ref ((T.1 0)), .int (iI 0), .int (iI 0), .long 0, .ref ((T.1 0)), .long 0, .int (iI 0)]))) H locs := Y
  have S := tS_up (x := .inr (2, [.null, .null, .int (iI 0), .int (iI 0), .ref q101, .ref ((T.1 0)), .ref ((T.1 0)), .int (iI 0), .int (iI 0), .int (iI 0), .int (iI 0), .int (iI 0), .ref q117, .ref q131, .ref ((T.1 0)), .int (iI 0), .int (iI 0), .long 0, .ref ((T.1 0)), .long 0, .int (iI 0)])) S (fun h9 => h9.2.2 (List.mem_singleton.mpr rfl)) (fun h9 => absurd r144 h9)
  have e150 : (va_up f147 h (.inr (2, [.null, .null, .int (iI 0), .int (iI 0), .ref q101, .ref ((T.1 0)), .ref ((T.1 0)), .int (iI 0), .int (iI 0), .int (iI 0), .int (iI 0), .int (iI 0), .ref q117, .ref q131, .ref ((T.1 0)), .int (iI 0), .int (iI 0), .long 0, .ref ((T.1 0)), .long 0, .int (iI 0)]))) h = .inr (2, [.null, .null, .int (iI 0), .int (iI 0), .ref q101, .ref ((T.1 0)), .ref ((T.1 0)), .int (iI 0), .int (iI 0), .int (iI 0), .int (iI 0), .int (iI 0), .ref q117, .ref q131, .ref ((T.1 0)), .int (iI 0), .int (iI 0), .long 0, .ref ((T.1 0)), .long 0, .int (iI 0)]) := q_up
  generalize va_up f147 h (.inr (2, [.null, .null, .int (iI 0), .int (iI 0), .ref q101, .ref ((T.1 0)), .ref ((T.1 0)), .int (iI 0), .int (iI 0), .int (iI 0), .int (iI 0), .int (iI 0), .ref q117, .ref q131, .ref ((T.1 0)), .int (iI 0), .int (iI 0), .long 0, .ref ((T.1 0)), .long 0, .int (iI 0)])) = f149 at Y S e150
  refine lv_aload_n X.1 X.2.1 d_Ag_init_71 rfl (lv_at hl 0 rfl) ?_
  refine lv_aload_n X.1 X.2.1 d_Ag_init_72 rfl (lv_at hl 1 rfl) ?_
  refine q_putF X.1 X.2.1 X.2.2.1 i_Ag t_Ag t_Ag_ok n_Ag X.2.2.2.1 X.2.2.2.2 Y m143 e150 rfl 0 (by decide) (X.2.2.1 _ lk_Ag_42) (fun _ h9 => h9) rfl hin rfl (t_Ag_ok 0 (by decide)) rfl rfl (Nat.le_of_ble_eq_true rfl) d_Ag_init_73 (fun H locs Y => ?_)
  have Y : pH D cCl (pA L sz) s.heap L138 (va_up f149 h (.inr (2, [.ref a1, .null, .int (iI 0), .int (iI 0), .ref q101, .ref ((T.1 0)), .ref ((T.1 0)), .int (iI 0), .int (iI 0), .int (iI 0), .int (iI 0), .int (iI 0), .ref q117, .ref q131, .ref ((T.1 0)), .int (iI 0), .int (iI 0), .long 0, .ref ((T.1 0)), .long 0, .int (iI 0)]))) H locs := Y
  have S := tS_up (x := .inr (2, [.ref a1, .null, .int (iI 0), .int (iI 0), .ref q101, .ref ((T.1 0)), .ref ((T.1 0)), .int (iI 0), .int (iI 0), .int (iI 0), .int (iI 0), .int (iI 0), .ref q117, .ref q131, .ref ((T.1 0)), .int (iI 0), .int (iI 0), .long 0, .ref ((T.1 0)), .long 0, .int (iI 0)])) S (fun h9 => h9.2.2 (List.mem_singleton.mpr rfl)) (fun h9 => absurd r144 h9)
  have e152 : (va_up f149 h (.inr (2, [.ref a1, .null, .int (iI 0), .int (iI 0), .ref q101, .ref ((T.1 0)), .ref ((T.1 0)), .int (iI 0), .int (iI 0), .int (iI 0), .int (iI 0), .int (iI 0), .ref q117, .ref q131, .ref ((T.1 0)), .int (iI 0), .int (iI 0), .long 0, .ref ((T.1 0)), .long 0, .int (iI 0)]))) h = .inr (2, [.ref a1, .null, .int (iI 0), .int (iI 0), .ref q101, .ref ((T.1 0)), .ref ((T.1 0)), .int (iI 0), .int (iI 0), .int (iI 0), .int (iI 0), .int (iI 0), .ref q117, .ref q131, .ref ((T.1 0)), .int (iI 0), .int (iI 0), .long 0, .ref ((T.1 0)), .long 0, .int (iI 0)]) := q_up
  generalize va_up f149 h (.inr (2, [.ref a1, .null, .int (iI 0), .int (iI 0), .ref q101, .ref ((T.1 0)), .ref ((T.1 0)), .int (iI 0), .int (iI 0), .int (iI 0), .int (iI 0), .int (iI 0), .ref q117, .ref q131, .ref ((T.1 0)), .int (iI 0), .int (iI 0), .long 0, .ref ((T.1 0)), .long 0, .int (iI 0)])) = f151 at Y S e152
  refine lv_aload_n X.1 X.2.1 d_Ag_init_76 rfl (lv_at hl 0 rfl) ?_
  refine lv_bipush (v := iI 8) X.1 X.2.1 d_Ag_init_77 (by decide) ?_
  refine t_anew X Y S hA hF0 ck_Ag_46 (KR.2.2.2 _ (by decide)) (t0 := 5) (c2 := 20) (N := 8) rfl (by omega) (by decide) (Nat.le_of_ble_eq_true rfl) (Nat.le_of_ble_eq_true rfl) d_Ag_init_79 (fun q153 L153 f153 H Y S s153 nl153 m153 r153 e153 nz153 => ?_)
  have k154 : κ138 a1 = (21, 0) := tLe_k s153.2.2.1 k139
  have k155 : κ138 q101 = (13, 40) := tLe_k s153.2.2.1 k140
  have k156 : κ138 q117 = (13, 40) := tLe_k s153.2.2.1 k141
  have k157 : κ138 q131 = (13, 40) := tLe_k s153.2.2.1 k138
  have e158 : f153 h = .inr (2, [.ref a1, .null, .int (iI 0), .int (iI 0), .ref q101, .ref ((T.1 0)), .ref ((T.1 0)), .int (iI 0), .int (iI 0), .int (iI 0), .int (iI 0), .int (iI 0), .ref q117, .ref q131, .ref ((T.1 0)), .int (iI 0), .int (iI 0), .long 0, .ref ((T.1 0)), .long 0, .int (iI 0)]) := (s153.2.2.2 _ ⟨m143, by rw [r144]; decide, by simp⟩).1.trans e152
  have m159 : h ∈ L153 := s153.2.1 _ m143
  have r160 : (κ138 h).1 = 0 := by rw [(s153.2.2.2 _ ⟨m143, by rw [r144]; decide, by simp⟩).2]; exact r144
  refine q_putF X.1 X.2.1 X.2.2.1 i_Ag t_Ag t_Ag_ok n_Ag X.2.2.2.1 X.2.2.2.2 Y m159 e158 rfl 1 (by decide) (X.2.2.1 _ lk_Ag_48) (fun _ h9 => h9) rfl hin rfl (t_Ag_ok 1 (by decide)) rfl rfl (Nat.le_of_ble_eq_true rfl) d_Ag_init_82 (fun H locs Y => ?_)
  have Y : pH D cCl (pA L sz) s.heap L153 (va_up f153 h (.inr (2, [.ref a1, .ref q153, .int (iI 0), .int (iI 0), .ref q101, .ref ((T.1 0)), .ref ((T.1 0)), .int (iI 0), .int (iI 0), .int (iI 0), .int (iI 0), .int (iI 0), .ref q117, .ref q131, .ref ((T.1 0)), .int (iI 0), .int (iI 0), .long 0, .ref ((T.1 0)), .long 0, .int (iI 0)]))) H locs := Y
  have S := tS_up (x := .inr (2, [.ref a1, .ref q153, .int (iI 0), .int (iI 0), .ref q101, .ref ((T.1 0)), .ref ((T.1 0)), .int (iI 0), .int (iI 0), .int (iI 0), .int (iI 0), .int (iI 0), .ref q117, .ref q131, .ref ((T.1 0)), .int (iI 0), .int (iI 0), .long 0, .ref ((T.1 0)), .long 0, .int (iI 0)])) S (fun h9 => h9.2.2 (List.mem_singleton.mpr rfl)) (fun h9 => absurd r160 h9)
  have e162 : (va_up f153 h (.inr (2, [.ref a1, .ref q153, .int (iI 0), .int (iI 0), .ref q101, .ref ((T.1 0)), .ref ((T.1 0)), .int (iI 0), .int (iI 0), .int (iI 0), .int (iI 0), .int (iI 0), .ref q117, .ref q131, .ref ((T.1 0)), .int (iI 0), .int (iI 0), .long 0, .ref ((T.1 0)), .long 0, .int (iI 0)]))) h = .inr (2, [.ref a1, .ref q153, .int (iI 0), .int (iI 0), .ref q101, .ref ((T.1 0)), .ref ((T.1 0)), .int (iI 0), .int (iI 0), .int (iI 0), .int (iI 0), .int (iI 0), .ref q117, .ref q131, .ref ((T.1 0)), .int (iI 0), .int (iI 0), .long 0, .ref ((T.1 0)), .long 0, .int (iI 0)]) := q_up
  have e163 : okP κ138 E.2.2.2.2.2 8 0 20 ((va_up f153 h (.inr (2, [.ref a1, .ref q153, .int (iI 0), .int (iI 0), .ref q101, .ref ((T.1 0)), .ref ((T.1 0)), .int (iI 0), .int (iI 0), .int (iI 0), .int (iI 0), .int (iI 0), .ref q117, .ref q131, .ref ((T.1 0)), .int (iI 0), .int (iI 0), .long 0, .ref ((T.1 0)), .long 0, .int (iI 0)]))) q153) := by rw [q_ne (nz153 _ m143).symm]; exact e153
  generalize va_up f153 h (.inr (2, [.ref a1, .ref q153, .int (iI 0), .int (iI 0), .ref q101, .ref ((T.1 0)), .ref ((T.1 0)), .int (iI 0), .int (iI 0), .int (iI 0), .int (iI 0), .int (iI 0), .ref q117, .ref q131, .ref ((T.1 0)), .int (iI 0), .int (iI 0), .long 0, .ref ((T.1 0)), .long 0, .int (iI 0)])) = f161 at Y S e162 e163
  refine lv_iconst (v := iI 0) X.1 X.2.1 d_Ag_init_85 (by decide) ?_
  refine lv_istore_n (lv' := [(2, .int (iI 0)), (0, .ref h), (1, .ref a1)]) X.1 X.2.1 d_Ag_init_86 rfl hl (by decide) rfl (fun ls hl => ?_)
  refine lv_iload_n X.1 X.2.1 d_Ag_init_87 rfl (lv_at hl 0 rfl) ?_
  refine lv_bipush (v := iI 8) X.1 X.2.1 d_Ag_init_88 (by decide) ?_
  refine z_icmp_ge (tgt := 112) X.1 X.2.1 d_Ag_init_90 (by decide) ⟨by omega, by omega⟩ ⟨by omega, by omega⟩ (fun h164 => False.elim (by omega)) (fun h164 => ?_)
  · refine lv_aload_n X.1 X.2.1 d_Ag_init_93 rfl (lv_at hl 1 rfl) ?_
    refine q_get X.1 X.2.1 X.2.2.1 i_Ag X.2.2.2.1 X.2.2.2.2 Y m159 e162 rfl 1 (by decide) (X.2.2.1 _ lk_Ag_48) (fun _ h9 => h9) rfl d_Ag_init_94 ?_
    refine lv_iload_n X.1 X.2.1 d_Ag_init_97 rfl (lv_at hl 0 rfl) ?_
    refine t_new (ci := 10) X Y S hA hF0 i_Ti t_Ti t_Ti_ok ck_Ag_46 mk_Ti ini_Ti rfl (fs := [.null, .null, .int (iI 0), .int (iI 0), .null, .int (iI 0), .int (iI 0), .int (iI 0), .int (iI 0), .int (iI 0)]) (fun j hj => match j, hj with | 0, _ => rfl | 1, _ => rfl | 2, _ => rfl | 3, _ => rfl | 4, _ => rfl | 5, _ => rfl | 6, _ => rfl | 7, _ => rfl | 8, _ => rfl | 9, _ => rfl | n9 + 10, h9 => absurd (show n9 + 10 < 10 from h9) (by omega)) (Nat.le_of_ble_eq_true rfl) (Nat.le_of_ble_eq_true rfl) d_Ag_init_98 (fun q165 L165 f165 H Y S s165 nl165 m165 r165 e165 nz165 => ?_)
    have k166 : κ138 a1 = (21, 0) := tLe_k s165.2.2.1 k154
    have k167 : κ138 q101 = (13, 40) := tLe_k s165.2.2.1 k155
    have k168 : κ138 q117 = (13, 40) := tLe_k s165.2.2.1 k156
    have k169 : κ138 q131 = (13, 40) := tLe_k s165.2.2.1 k157
    have e170 : f165 h = .inr (2, [.ref a1, .ref q153, .int (iI 0), .int (iI 0), .ref q101, .ref ((T.1 0)), .ref ((T.1 0)), .int (iI 0), .int (iI 0), .int (iI 0), .int (iI 0), .int (iI 0), .ref q117, .ref q131, .ref ((T.1 0)), .int (iI 0), .int (iI 0), .long 0, .ref ((T.1 0)), .long 0, .int (iI 0)]) := (s165.2.2.2 _ ⟨m159, by rw [r160]; decide, by simp⟩).1.trans e162
    have m171 : h ∈ L165 := s165.2.1 _ m159
    have r172 : (κ138 h).1 = 0 := by rw [(s165.2.2.2 _ ⟨m159, by rw [r160]; decide, by simp⟩).2]; exact r160
    have e173 : okP κ138 E.2.2.2.2.2 8 0 20 (f165 q153) := okP_le s165.2.2.1 (by rw [(s165.2.2.2 _ ⟨m153, by rw [r153]; decide, by simp⟩).1]; exact e163)
    have m174 : q153 ∈ L165 := s165.2.1 _ m153
    have r175 : (κ138 q153).1 = 0 := by rw [(s165.2.2.2 _ ⟨m153, by rw [r153]; decide, by simp⟩).2]; exact r153
    refine lv_dup X.1 X.2.1 d_Ag_init_101 rfl ?_
    refine t_mk (x_runIN (As := []) (rest := [.ref q165, .int (iI 0), .ref q153]) (n := 0) X KR hml hl.1 (c_Ti_init l D E T κ138 L165 f165 H.size q165 m165 r165 e165 S.1) (ok_k X Y hA KS KR) (by decide) ks_Ti_init ki_Ti_init ini_Ti rfl ⟨rfl, rfl⟩ hd_Ti_init.2 ⟨Nat.le_of_ble_eq_true rfl, Nat.le_of_ble_eq_true rfl⟩ rfl (Nat.le_of_ble_eq_true rfl) d_Ag_init_102 ⟨Nat.le_of_ble_eq_true rfl, Nat.le_of_ble_eq_true rfl⟩) X Y hA S (by decide) nl165 (fun κ176 L176 f176 H locs Y S s176 p176 => ?_)
    have k176 := p176
    have k177 : κ176 a1 = (21, 0) := tLe_k s176.2.2.1 k166
    have k178 : κ176 q101 = (13, 40) := tLe_k s176.2.2.1 k167
    have k179 : κ176 q117 = (13, 40) := tLe_k s176.2.2.1 k168
    have k180 : κ176 q131 = (13, 40) := tLe_k s176.2.2.1 k169
    have e181 : f176 h = .inr (2, [.ref a1, .ref q153, .int (iI 0), .int (iI 0), .ref q101, .ref ((T.1 0)), .ref ((T.1 0)), .int (iI 0), .int (iI 0), .int (iI 0), .int (iI 0), .int (iI 0), .ref q117, .ref q131, .ref ((T.1 0)), .int (iI 0), .int (iI 0), .long 0, .ref ((T.1 0)), .long 0, .int (iI 0)]) := (s176.2.2.2 _ ⟨m171, by rw [r172]; decide, by simp only [List.mem_singleton]; exact (nz165 _ m159)⟩).1.trans e170
    have m182 : h ∈ L176 := s176.2.1 _ m171
    have r183 : (κ176 h).1 = 0 := by rw [(s176.2.2.2 _ ⟨m171, by rw [r172]; decide, by simp only [List.mem_singleton]; exact (nz165 _ m159)⟩).2]; exact r172
    have e184 : okP κ176 E.2.2.2.2.2 8 0 20 (f176 q153) := okP_le s176.2.2.1 (by rw [(s176.2.2.2 _ ⟨m174, by rw [r175]; decide, by simp only [List.mem_singleton]; exact (nz165 _ m153)⟩).1]; exact e173)
    have m185 : q153 ∈ L176 := s176.2.1 _ m174
    have r186 : (κ176 q153).1 = 0 := by rw [(s176.2.2.2 _ ⟨m174, by rw [r175]; decide, by simp only [List.mem_singleton]; exact (nz165 _ m153)⟩).2]; exact r175
    refine t_aast (ci := 10) (r := (R_Ti, F_Ti, 10)) (t0 := 5) X Y S m185 r186 e184 rfl k176 rfl (by omega) (by decide) (by decide) (fun h9 => nl153 h9.1) d_Ag_init_105 (fun f187 H locs Y S w187 o187 => ?_)
    have e188 : f187 h = .inr (2, [.ref a1, .ref q153, .int (iI 0), .int (iI 0), .ref q101, .ref ((T.1 0)), .ref ((T.1 0)), .int (iI 0), .int (iI 0), .int (iI 0), .int (iI 0), .int (iI 0), .ref q117, .ref q131, .ref ((T.1 0)), .int (iI 0), .int (iI 0), .long 0, .ref ((T.1 0)), .long 0, .int (iI 0)]) := (w187 _ (nz153 _ m143)).trans e181
    refine lv_iinc (v := iI 1) (lv' := [(2, .int (iI 1)), (0, .ref h), (1, .ref a1)]) X.1 X.2.1 d_Ag_init_106 hl (k := 0) rfl (by decide) (by decide) rfl (fun ls hl => ?_)
    refine lv_goto (tgt := 87) X.1 X.2.1 d_Ag_init_109 (by decide) ?_
    refine lv_iload_n X.1 X.2.1 d_Ag_init_87 rfl (lv_at hl 0 rfl) ?_
    refine lv_bipush (v := iI 8) X.1 X.2.1 d_Ag_init_88 (by decide) ?_
    refine z_icmp_ge (tgt := 112) X.1 X.2.1 d_Ag_init_90 (by decide) ⟨by omega, by omega⟩ ⟨by omega, by omega⟩ (fun h189 => False.elim (by omega)) (fun h189 => ?_)
    · refine lv_aload_n X.1 X.2.1 d_Ag_init_93 rfl (lv_at hl 1 rfl) ?_
      refine q_get X.1 X.2.1 X.2.2.1 i_Ag X.2.2.2.1 X.2.2.2.2 Y m182 e188 rfl 1 (by decide) (X.2.2.1 _ lk_Ag_48) (fun _ h9 => h9) rfl d_Ag_init_94 ?_
      refine lv_iload_n X.1 X.2.1 d_Ag_init_97 rfl (lv_at hl 0 rfl) ?_
      refine t_new (ci := 10) X Y S hA hF0 i_Ti t_Ti t_Ti_ok ck_Ag_46 mk_Ti ini_Ti rfl (fs := [.null, .null, .int (iI 0), .int (iI 0), .null, .int (iI 0), .int (iI 0), .int (iI 0), .int (iI 0), .int (iI 0)]) (fun j hj => match j, hj with | 0, _ => rfl | 1, _ => rfl | 2, _ => rfl | 3, _ => rfl | 4, _ => rfl | 5, _ => rfl | 6, _ => rfl | 7, _ => rfl | 8, _ => rfl | 9, _ => rfl | n9 + 10, h9 => absurd (show n9 + 10 < 10 from h9) (by omega)) (Nat.le_of_ble_eq_true rfl) (Nat.le_of_ble_eq_true rfl) d_Ag_init_98 (fun q190 L190 f190 H Y S s190 nl190 m190 r190 e190 nz190 => ?_)
      have k191 : κ176 a1 = (21, 0) := tLe_k s190.2.2.1 k177
      have k192 : κ176 q101 = (13, 40) := tLe_k s190.2.2.1 k178
      have k193 : κ176 q117 = (13, 40) := tLe_k s190.2.2.1 k179
      have k194 : κ176 q131 = (13, 40) := tLe_k s190.2.2.1 k180
      have e195 : f190 h = .inr (2, [.ref a1, .ref q153, .int (iI 0), .int (iI 0), .ref q101, .ref ((T.1 0)), .ref ((T.1 0)), .int (iI 0), .int (iI 0), .int (iI 0), .int (iI 0), .int (iI 0), .ref q117, .ref q131, .ref ((T.1 0)), .int (iI 0), .int (iI 0), .long 0, .ref ((T.1 0)), .long 0, .int (iI 0)]) := (s190.2.2.2 _ ⟨m182, by rw [r183]; decide, by simp⟩).1.trans e188
      have m196 : h ∈ L190 := s190.2.1 _ m182
      have r197 : (κ176 h).1 = 0 := by rw [(s190.2.2.2 _ ⟨m182, by rw [r183]; decide, by simp⟩).2]; exact r183
      have e198 : okP κ176 E.2.2.2.2.2 8 1 20 (f190 q153) := okP_le s190.2.2.1 (by rw [(s190.2.2.2 _ ⟨m185, by rw [r186]; decide, by simp⟩).1]; exact o187)
      have m199 : q153 ∈ L190 := s190.2.1 _ m185
      have r200 : (κ176 q153).1 = 0 := by rw [(s190.2.2.2 _ ⟨m185, by rw [r186]; decide, by simp⟩).2]; exact r186
      refine lv_dup X.1 X.2.1 d_Ag_init_101 rfl ?_
      refine t_mk (x_runIN (As := []) (rest := [.ref q190, .int (iI 1), .ref q153]) (n := 0) X KR hml hl.1 (c_Ti_init l D E T κ176 L190 f190 H.size q190 m190 r190 e190 S.1) (ok_k X Y hA KS KR) (by decide) ks_Ti_init ki_Ti_init ini_Ti rfl ⟨rfl, rfl⟩ hd_Ti_init.2 ⟨Nat.le_of_ble_eq_true rfl, Nat.le_of_ble_eq_true rfl⟩ rfl (Nat.le_of_ble_eq_true rfl) d_Ag_init_102 ⟨Nat.le_of_ble_eq_true rfl, Nat.le_of_ble_eq_true rfl⟩) X Y hA S (by decide) nl190 (fun κ201 L201 f201 H locs Y S s201 p201 => ?_)
      have k201 := p201
      have k202 : κ201 a1 = (21, 0) := tLe_k s201.2.2.1 k191
      have k203 : κ201 q101 = (13, 40) := tLe_k s201.2.2.1 k192
      have k204 : κ201 q117 = (13, 40) := tLe_k s201.2.2.1 k193
      have k205 : κ201 q131 = (13, 40) := tLe_k s201.2.2.1 k194
      have e206 : f201 h = .inr (2, [.ref a1, .ref q153, .int (iI 0), .int (iI 0), .ref q101, .ref ((T.1 0)), .ref ((T.1 0)), .int (iI 0), .int (iI 0), .int (iI 0), .int (iI 0), .int (iI 0), .ref q117, .ref q131, .ref ((T.1 0)), .int (iI 0), .int (iI 0), .long 0, .ref ((T.1 0)), .long 0, .int (iI 0)]) := (s201.2.2.2 _ ⟨m196, by rw [r197]; decide, by simp only [List.mem_singleton]; exact (nz190 _ m182)⟩).1.trans e195
      have m207 : h ∈ L201 := s201.2.1 _ m196
      have r208 : (κ201 h).1 = 0 := by rw [(s201.2.2.2 _ ⟨m196, by rw [r197]; decide, by simp only [List.mem_singleton]; exact (nz190 _ m182)⟩).2]; exact r197
      have e209 : okP κ201 E.2.2.2.2.2 8 1 20 (f201 q153) := okP_le s201.2.2.1 (by rw [(s201.2.2.2 _ ⟨m199, by rw [r200]; decide, by simp only [List.mem_singleton]; exact (nz190 _ m185)⟩).1]; exact e198)
      have m210 : q153 ∈ L201 := s201.2.1 _ m199
      have r211 : (κ201 q153).1 = 0 := by rw [(s201.2.2.2 _ ⟨m199, by rw [r200]; decide, by simp only [List.mem_singleton]; exact (nz190 _ m185)⟩).2]; exact r200
      refine t_aast (ci := 10) (r := (R_Ti, F_Ti, 10)) (t0 := 5) X Y S m210 r211 e209 rfl k201 rfl (by omega) (by decide) (by decide) (fun h9 => nl153 h9.1) d_Ag_init_105 (fun f212 H locs Y S w212 o212 => ?_)
      have e213 : f212 h = .inr (2, [.ref a1, .ref q153, .int (iI 0), .int (iI 0), .ref q101, .ref ((T.1 0)), .ref ((T.1 0)), .int (iI 0), .int (iI 0), .int (iI 0), .int (iI 0), .int (iI 0), .ref q117, .ref q131, .ref ((T.1 0)), .int (iI 0), .int (iI 0), .long 0, .ref ((T.1 0)), .long 0, .int (iI 0)]) := (w212 _ (nz153 _ m143)).trans e206
      refine lv_iinc (v := iI 2) (lv' := [(2, .int (iI 2)), (0, .ref h), (1, .ref a1)]) X.1 X.2.1 d_Ag_init_106 hl (k := 0) rfl (by decide) (by decide) rfl (fun ls hl => ?_)
      refine lv_goto (tgt := 87) X.1 X.2.1 d_Ag_init_109 (by decide) ?_
      refine lv_iload_n X.1 X.2.1 d_Ag_init_87 rfl (lv_at hl 0 rfl) ?_
      refine lv_bipush (v := iI 8) X.1 X.2.1 d_Ag_init_88 (by decide) ?_
      refine z_icmp_ge (tgt := 112) X.1 X.2.1 d_Ag_init_90 (by decide) ⟨by omega, by omega⟩ ⟨by omega, by omega⟩ (fun h214 => False.elim (by omega)) (fun h214 => ?_)
      · refine lv_aload_n X.1 X.2.1 d_Ag_init_93 rfl (lv_at hl 1 rfl) ?_
        refine q_get X.1 X.2.1 X.2.2.1 i_Ag X.2.2.2.1 X.2.2.2.2 Y m207 e213 rfl 1 (by decide) (X.2.2.1 _ lk_Ag_48) (fun _ h9 => h9) rfl d_Ag_init_94 ?_
        refine lv_iload_n X.1 X.2.1 d_Ag_init_97 rfl (lv_at hl 0 rfl) ?_
        refine t_new (ci := 10) X Y S hA hF0 i_Ti t_Ti t_Ti_ok ck_Ag_46 mk_Ti ini_Ti rfl (fs := [.null, .null, .int (iI 0), .int (iI 0), .null, .int (iI 0), .int (iI 0), .int (iI 0), .int (iI 0), .int (iI 0)]) (fun j hj => match j, hj with | 0, _ => rfl | 1, _ => rfl | 2, _ => rfl | 3, _ => rfl | 4, _ => rfl | 5, _ => rfl | 6, _ => rfl | 7, _ => rfl | 8, _ => rfl | 9, _ => rfl | n9 + 10, h9 => absurd (show n9 + 10 < 10 from h9) (by omega)) (Nat.le_of_ble_eq_true rfl) (Nat.le_of_ble_eq_true rfl) d_Ag_init_98 (fun q215 L215 f215 H Y S s215 nl215 m215 r215 e215 nz215 => ?_)
        have k216 : κ201 a1 = (21, 0) := tLe_k s215.2.2.1 k202
        have k217 : κ201 q101 = (13, 40) := tLe_k s215.2.2.1 k203
        have k218 : κ201 q117 = (13, 40) := tLe_k s215.2.2.1 k204
        have k219 : κ201 q131 = (13, 40) := tLe_k s215.2.2.1 k205
        have e220 : f215 h = .inr (2, [.ref a1, .ref q153, .int (iI 0), .int (iI 0), .ref q101, .ref ((T.1 0)), .ref ((T.1 0)), .int (iI 0), .int (iI 0), .int (iI 0), .int (iI 0), .int (iI 0), .ref q117, .ref q131, .ref ((T.1 0)), .int (iI 0), .int (iI 0), .long 0, .ref ((T.1 0)), .long 0, .int (iI 0)]) := (s215.2.2.2 _ ⟨m207, by rw [r208]; decide, by simp⟩).1.trans e213
        have m221 : h ∈ L215 := s215.2.1 _ m207
        have r222 : (κ201 h).1 = 0 := by rw [(s215.2.2.2 _ ⟨m207, by rw [r208]; decide, by simp⟩).2]; exact r208
        have e223 : okP κ201 E.2.2.2.2.2 8 2 20 (f215 q153) := okP_le s215.2.2.1 (by rw [(s215.2.2.2 _ ⟨m210, by rw [r211]; decide, by simp⟩).1]; exact o212)
        have m224 : q153 ∈ L215 := s215.2.1 _ m210
        have r225 : (κ201 q153).1 = 0 := by rw [(s215.2.2.2 _ ⟨m210, by rw [r211]; decide, by simp⟩).2]; exact r211
        refine lv_dup X.1 X.2.1 d_Ag_init_101 rfl ?_
        refine t_mk (x_runIN (As := []) (rest := [.ref q215, .int (iI 2), .ref q153]) (n := 0) X KR hml hl.1 (c_Ti_init l D E T κ201 L215 f215 H.size q215 m215 r215 e215 S.1) (ok_k X Y hA KS KR) (by decide) ks_Ti_init ki_Ti_init ini_Ti rfl ⟨rfl, rfl⟩ hd_Ti_init.2 ⟨Nat.le_of_ble_eq_true rfl, Nat.le_of_ble_eq_true rfl⟩ rfl (Nat.le_of_ble_eq_true rfl) d_Ag_init_102 ⟨Nat.le_of_ble_eq_true rfl, Nat.le_of_ble_eq_true rfl⟩) X Y hA S (by decide) nl215 (fun κ226 L226 f226 H locs Y S s226 p226 => ?_)
        have k226 := p226
        have k227 : κ226 a1 = (21, 0) := tLe_k s226.2.2.1 k216
        have k228 : κ226 q101 = (13, 40) := tLe_k s226.2.2.1 k217
        have k229 : κ226 q117 = (13, 40) := tLe_k s226.2.2.1 k218
        have k230 : κ226 q131 = (13, 40) := tLe_k s226.2.2.1 k219
        have e231 : f226 h = .inr (2, [.ref a1, .ref q153, .int (iI 0), .int (iI 0), .ref q101, .ref ((T.1 0)), .ref ((T.1 0)), .int (iI 0), .int (iI 0), .int (iI 0), .int (iI 0), .int (iI 0), .ref q117, .ref q131, .ref ((T.1 0)), .int (iI 0), .int (iI 0), .long 0, .ref ((T.1 0)), .long 0, .int (iI 0)]) := (s226.2.2.2 _ ⟨m221, by rw [r222]; decide, by simp only [List.mem_singleton]; exact (nz215 _ m207)⟩).1.trans e220
        have m232 : h ∈ L226 := s226.2.1 _ m221
        have r233 : (κ226 h).1 = 0 := by rw [(s226.2.2.2 _ ⟨m221, by rw [r222]; decide, by simp only [List.mem_singleton]; exact (nz215 _ m207)⟩).2]; exact r222
        have e234 : okP κ226 E.2.2.2.2.2 8 2 20 (f226 q153) := okP_le s226.2.2.1 (by rw [(s226.2.2.2 _ ⟨m224, by rw [r225]; decide, by simp only [List.mem_singleton]; exact (nz215 _ m210)⟩).1]; exact e223)
        have m235 : q153 ∈ L226 := s226.2.1 _ m224
        have r236 : (κ226 q153).1 = 0 := by rw [(s226.2.2.2 _ ⟨m224, by rw [r225]; decide, by simp only [List.mem_singleton]; exact (nz215 _ m210)⟩).2]; exact r225
        refine t_aast (ci := 10) (r := (R_Ti, F_Ti, 10)) (t0 := 5) X Y S m235 r236 e234 rfl k226 rfl (by omega) (by decide) (by decide) (fun h9 => nl153 h9.1) d_Ag_init_105 (fun f237 H locs Y S w237 o237 => ?_)
        have e238 : f237 h = .inr (2, [.ref a1, .ref q153, .int (iI 0), .int (iI 0), .ref q101, .ref ((T.1 0)), .ref ((T.1 0)), .int (iI 0), .int (iI 0), .int (iI 0), .int (iI 0), .int (iI 0), .ref q117, .ref q131, .ref ((T.1 0)), .int (iI 0), .int (iI 0), .long 0, .ref ((T.1 0)), .long 0, .int (iI 0)]) := (w237 _ (nz153 _ m143)).trans e231
        refine lv_iinc (v := iI 3) (lv' := [(2, .int (iI 3)), (0, .ref h), (1, .ref a1)]) X.1 X.2.1 d_Ag_init_106 hl (k := 0) rfl (by decide) (by decide) rfl (fun ls hl => ?_)
        refine lv_goto (tgt := 87) X.1 X.2.1 d_Ag_init_109 (by decide) ?_
        refine lv_iload_n X.1 X.2.1 d_Ag_init_87 rfl (lv_at hl 0 rfl) ?_
        refine lv_bipush (v := iI 8) X.1 X.2.1 d_Ag_init_88 (by decide) ?_
        refine z_icmp_ge (tgt := 112) X.1 X.2.1 d_Ag_init_90 (by decide) ⟨by omega, by omega⟩ ⟨by omega, by omega⟩ (fun h239 => False.elim (by omega)) (fun h239 => ?_)
        · refine lv_aload_n X.1 X.2.1 d_Ag_init_93 rfl (lv_at hl 1 rfl) ?_
          refine q_get X.1 X.2.1 X.2.2.1 i_Ag X.2.2.2.1 X.2.2.2.2 Y m232 e238 rfl 1 (by decide) (X.2.2.1 _ lk_Ag_48) (fun _ h9 => h9) rfl d_Ag_init_94 ?_
          refine lv_iload_n X.1 X.2.1 d_Ag_init_97 rfl (lv_at hl 0 rfl) ?_
          refine t_new (ci := 10) X Y S hA hF0 i_Ti t_Ti t_Ti_ok ck_Ag_46 mk_Ti ini_Ti rfl (fs := [.null, .null, .int (iI 0), .int (iI 0), .null, .int (iI 0), .int (iI 0), .int (iI 0), .int (iI 0), .int (iI 0)]) (fun j hj => match j, hj with | 0, _ => rfl | 1, _ => rfl | 2, _ => rfl | 3, _ => rfl | 4, _ => rfl | 5, _ => rfl | 6, _ => rfl | 7, _ => rfl | 8, _ => rfl | 9, _ => rfl | n9 + 10, h9 => absurd (show n9 + 10 < 10 from h9) (by omega)) (Nat.le_of_ble_eq_true rfl) (Nat.le_of_ble_eq_true rfl) d_Ag_init_98 (fun q240 L240 f240 H Y S s240 nl240 m240 r240 e240 nz240 => ?_)
          have k241 : κ226 a1 = (21, 0) := tLe_k s240.2.2.1 k227
          have k242 : κ226 q101 = (13, 40) := tLe_k s240.2.2.1 k228
          have k243 : κ226 q117 = (13, 40) := tLe_k s240.2.2.1 k229
          have k244 : κ226 q131 = (13, 40) := tLe_k s240.2.2.1 k230
          have e245 : f240 h = .inr (2, [.ref a1, .ref q153, .int (iI 0), .int (iI 0), .ref q101, .ref ((T.1 0)), .ref ((T.1 0)), .int (iI 0), .int (iI 0), .int (iI 0), .int (iI 0), .int (iI 0), .ref q117, .ref q131, .ref ((T.1 0)), .int (iI 0), .int (iI 0), .long 0, .ref ((T.1 0)), .long 0, .int (iI 0)]) := (s240.2.2.2 _ ⟨m232, by rw [r233]; decide, by simp⟩).1.trans e238
          have m246 : h ∈ L240 := s240.2.1 _ m232
          have r247 : (κ226 h).1 = 0 := by rw [(s240.2.2.2 _ ⟨m232, by rw [r233]; decide, by simp⟩).2]; exact r233
          have e248 : okP κ226 E.2.2.2.2.2 8 3 20 (f240 q153) := okP_le s240.2.2.1 (by rw [(s240.2.2.2 _ ⟨m235, by rw [r236]; decide, by simp⟩).1]; exact o237)
          have m249 : q153 ∈ L240 := s240.2.1 _ m235
          have r250 : (κ226 q153).1 = 0 := by rw [(s240.2.2.2 _ ⟨m235, by rw [r236]; decide, by simp⟩).2]; exact r236
          refine lv_dup X.1 X.2.1 d_Ag_init_101 rfl ?_
          refine t_mk (x_runIN (As := []) (rest := [.ref q240, .int (iI 3), .ref q153]) (n := 0) X KR hml hl.1 (c_Ti_init l D E T κ226 L240 f240 H.size q240 m240 r240 e240 S.1) (ok_k X Y hA KS KR) (by decide) ks_Ti_init ki_Ti_init ini_Ti rfl ⟨rfl, rfl⟩ hd_Ti_init.2 ⟨Nat.le_of_ble_eq_true rfl, Nat.le_of_ble_eq_true rfl⟩ rfl (Nat.le_of_ble_eq_true rfl) d_Ag_init_102 ⟨Nat.le_of_ble_eq_true rfl, Nat.le_of_ble_eq_true rfl⟩) X Y hA S (by decide) nl240 (fun κ251 L251 f251 H locs Y S s251 p251 => ?_)
          have k251 := p251
          have k252 : κ251 a1 = (21, 0) := tLe_k s251.2.2.1 k241
          have k253 : κ251 q101 = (13, 40) := tLe_k s251.2.2.1 k242
          have k254 : κ251 q117 = (13, 40) := tLe_k s251.2.2.1 k243
          have k255 : κ251 q131 = (13, 40) := tLe_k s251.2.2.1 k244
          have e256 : f251 h = .inr (2, [.ref a1, .ref q153, .int (iI 0), .int (iI 0), .ref q101, .ref ((T.1 0)), .ref ((T.1 0)), .int (iI 0), .int (iI 0), .int (iI 0), .int (iI 0), .int (iI 0), .ref q117, .ref q131, .ref ((T.1 0)), .int (iI 0), .int (iI 0), .long 0, .ref ((T.1 0)), .long 0, .int (iI 0)]) := (s251.2.2.2 _ ⟨m246, by rw [r247]; decide, by simp only [List.mem_singleton]; exact (nz240 _ m232)⟩).1.trans e245
          have m257 : h ∈ L251 := s251.2.1 _ m246
          have r258 : (κ251 h).1 = 0 := by rw [(s251.2.2.2 _ ⟨m246, by rw [r247]; decide, by simp only [List.mem_singleton]; exact (nz240 _ m232)⟩).2]; exact r247
          have e259 : okP κ251 E.2.2.2.2.2 8 3 20 (f251 q153) := okP_le s251.2.2.1 (by rw [(s251.2.2.2 _ ⟨m249, by rw [r250]; decide, by simp only [List.mem_singleton]; exact (nz240 _ m235)⟩).1]; exact e248)
          have m260 : q153 ∈ L251 := s251.2.1 _ m249
          have r261 : (κ251 q153).1 = 0 := by rw [(s251.2.2.2 _ ⟨m249, by rw [r250]; decide, by simp only [List.mem_singleton]; exact (nz240 _ m235)⟩).2]; exact r250
          refine t_aast (ci := 10) (r := (R_Ti, F_Ti, 10)) (t0 := 5) X Y S m260 r261 e259 rfl k251 rfl (by omega) (by decide) (by decide) (fun h9 => nl153 h9.1) d_Ag_init_105 (fun f262 H locs Y S w262 o262 => ?_)
          have e263 : f262 h = .inr (2, [.ref a1, .ref q153, .int (iI 0), .int (iI 0), .ref q101, .ref ((T.1 0)), .ref ((T.1 0)), .int (iI 0), .int (iI 0), .int (iI 0), .int (iI 0), .int (iI 0), .ref q117, .ref q131, .ref ((T.1 0)), .int (iI 0), .int (iI 0), .long 0, .ref ((T.1 0)), .long 0, .int (iI 0)]) := (w262 _ (nz153 _ m143)).trans e256
          refine lv_iinc (v := iI 4) (lv' := [(2, .int (iI 4)), (0, .ref h), (1, .ref a1)]) X.1 X.2.1 d_Ag_init_106 hl (k := 0) rfl (by decide) (by decide) rfl (fun ls hl => ?_)
          refine lv_goto (tgt := 87) X.1 X.2.1 d_Ag_init_109 (by decide) ?_
          refine lv_iload_n X.1 X.2.1 d_Ag_init_87 rfl (lv_at hl 0 rfl) ?_
          refine lv_bipush (v := iI 8) X.1 X.2.1 d_Ag_init_88 (by decide) ?_
          refine z_icmp_ge (tgt := 112) X.1 X.2.1 d_Ag_init_90 (by decide) ⟨by omega, by omega⟩ ⟨by omega, by omega⟩ (fun h264 => False.elim (by omega)) (fun h264 => ?_)
          · refine lv_aload_n X.1 X.2.1 d_Ag_init_93 rfl (lv_at hl 1 rfl) ?_
            refine q_get X.1 X.2.1 X.2.2.1 i_Ag X.2.2.2.1 X.2.2.2.2 Y m257 e263 rfl 1 (by decide) (X.2.2.1 _ lk_Ag_48) (fun _ h9 => h9) rfl d_Ag_init_94 ?_
            refine lv_iload_n X.1 X.2.1 d_Ag_init_97 rfl (lv_at hl 0 rfl) ?_
            refine t_new (ci := 10) X Y S hA hF0 i_Ti t_Ti t_Ti_ok ck_Ag_46 mk_Ti ini_Ti rfl (fs := [.null, .null, .int (iI 0), .int (iI 0), .null, .int (iI 0), .int (iI 0), .int (iI 0), .int (iI 0), .int (iI 0)]) (fun j hj => match j, hj with | 0, _ => rfl | 1, _ => rfl | 2, _ => rfl | 3, _ => rfl | 4, _ => rfl | 5, _ => rfl | 6, _ => rfl | 7, _ => rfl | 8, _ => rfl | 9, _ => rfl | n9 + 10, h9 => absurd (show n9 + 10 < 10 from h9) (by omega)) (Nat.le_of_ble_eq_true rfl) (Nat.le_of_ble_eq_true rfl) d_Ag_init_98 (fun q265 L265 f265 H Y S s265 nl265 m265 r265 e265 nz265 => ?_)
            have k266 : κ251 a1 = (21, 0) := tLe_k s265.2.2.1 k252
            have k267 : κ251 q101 = (13, 40) := tLe_k s265.2.2.1 k253
            have k268 : κ251 q117 = (13, 40) := tLe_k s265.2.2.1 k254
            have k269 : κ251 q131 = (13, 40) := tLe_k s265.2.2.1 k255
            have e270 : f265 h = .inr (2, [.ref a1, .ref q153, .int (iI 0), .int (iI 0), .ref q101, .ref ((T.1 0)), .ref ((T.1 0)), .int (iI 0), .int (iI 0), .int (iI 0), .int (iI 0), .int (iI 0), .ref q117, .ref q131, .ref ((T.1 0)), .int (iI 0), .int (iI 0), .long 0, .ref ((T.1 0)), .long 0, .int (iI 0)]) := (s265.2.2.2 _ ⟨m257, by rw [r258]; decide, by simp⟩).1.trans e263
            have m271 : h ∈ L265 := s265.2.1 _ m257
            have r272 : (κ251 h).1 = 0 := by rw [(s265.2.2.2 _ ⟨m257, by rw [r258]; decide, by simp⟩).2]; exact r258
            have e273 : okP κ251 E.2.2.2.2.2 8 4 20 (f265 q153) := okP_le s265.2.2.1 (by rw [(s265.2.2.2 _ ⟨m260, by rw [r261]; decide, by simp⟩).1]; exact o262)
            have m274 : q153 ∈ L265 := s265.2.1 _ m260
            have r275 : (κ251 q153).1 = 0 := by rw [(s265.2.2.2 _ ⟨m260, by rw [r261]; decide, by simp⟩).2]; exact r261
            refine lv_dup X.1 X.2.1 d_Ag_init_101 rfl ?_
            refine t_mk (x_runIN (As := []) (rest := [.ref q265, .int (iI 4), .ref q153]) (n := 0) X KR hml hl.1 (c_Ti_init l D E T κ251 L265 f265 H.size q265 m265 r265 e265 S.1) (ok_k X Y hA KS KR) (by decide) ks_Ti_init ki_Ti_init ini_Ti rfl ⟨rfl, rfl⟩ hd_Ti_init.2 ⟨Nat.le_of_ble_eq_true rfl, Nat.le_of_ble_eq_true rfl⟩ rfl (Nat.le_of_ble_eq_true rfl) d_Ag_init_102 ⟨Nat.le_of_ble_eq_true rfl, Nat.le_of_ble_eq_true rfl⟩) X Y hA S (by decide) nl265 (fun κ276 L276 f276 H locs Y S s276 p276 => ?_)
            have k276 := p276
            have k277 : κ276 a1 = (21, 0) := tLe_k s276.2.2.1 k266
            have k278 : κ276 q101 = (13, 40) := tLe_k s276.2.2.1 k267
            have k279 : κ276 q117 = (13, 40) := tLe_k s276.2.2.1 k268
            have k280 : κ276 q131 = (13, 40) := tLe_k s276.2.2.1 k269
            have e281 : f276 h = .inr (2, [.ref a1, .ref q153, .int (iI 0), .int (iI 0), .ref q101, .ref ((T.1 0)), .ref ((T.1 0)), .int (iI 0), .int (iI 0), .int (iI 0), .int (iI 0), .int (iI 0), .ref q117, .ref q131, .ref ((T.1 0)), .int (iI 0), .int (iI 0), .long 0, .ref ((T.1 0)), .long 0, .int (iI 0)]) := (s276.2.2.2 _ ⟨m271, by rw [r272]; decide, by simp only [List.mem_singleton]; exact (nz265 _ m257)⟩).1.trans e270
            have m282 : h ∈ L276 := s276.2.1 _ m271
            have r283 : (κ276 h).1 = 0 := by rw [(s276.2.2.2 _ ⟨m271, by rw [r272]; decide, by simp only [List.mem_singleton]; exact (nz265 _ m257)⟩).2]; exact r272
            have e284 : okP κ276 E.2.2.2.2.2 8 4 20 (f276 q153) := okP_le s276.2.2.1 (by rw [(s276.2.2.2 _ ⟨m274, by rw [r275]; decide, by simp only [List.mem_singleton]; exact (nz265 _ m260)⟩).1]; exact e273)
            have m285 : q153 ∈ L276 := s276.2.1 _ m274
            have r286 : (κ276 q153).1 = 0 := by rw [(s276.2.2.2 _ ⟨m274, by rw [r275]; decide, by simp only [List.mem_singleton]; exact (nz265 _ m260)⟩).2]; exact r275
            refine t_aast (ci := 10) (r := (R_Ti, F_Ti, 10)) (t0 := 5) X Y S m285 r286 e284 rfl k276 rfl (by omega) (by decide) (by decide) (fun h9 => nl153 h9.1) d_Ag_init_105 (fun f287 H locs Y S w287 o287 => ?_)
            have e288 : f287 h = .inr (2, [.ref a1, .ref q153, .int (iI 0), .int (iI 0), .ref q101, .ref ((T.1 0)), .ref ((T.1 0)), .int (iI 0), .int (iI 0), .int (iI 0), .int (iI 0), .int (iI 0), .ref q117, .ref q131, .ref ((T.1 0)), .int (iI 0), .int (iI 0), .long 0, .ref ((T.1 0)), .long 0, .int (iI 0)]) := (w287 _ (nz153 _ m143)).trans e281
            refine lv_iinc (v := iI 5) (lv' := [(2, .int (iI 5)), (0, .ref h), (1, .ref a1)]) X.1 X.2.1 d_Ag_init_106 hl (k := 0) rfl (by decide) (by decide) rfl (fun ls hl => ?_)
            refine lv_goto (tgt := 87) X.1 X.2.1 d_Ag_init_109 (by decide) ?_
            refine lv_iload_n X.1 X.2.1 d_Ag_init_87 rfl (lv_at hl 0 rfl) ?_
            refine lv_bipush (v := iI 8) X.1 X.2.1 d_Ag_init_88 (by decide) ?_
            refine z_icmp_ge (tgt := 112) X.1 X.2.1 d_Ag_init_90 (by decide) ⟨by omega, by omega⟩ ⟨by omega, by omega⟩ (fun h289 => False.elim (by omega)) (fun h289 => ?_)
            · refine lv_aload_n X.1 X.2.1 d_Ag_init_93 rfl (lv_at hl 1 rfl) ?_
              refine q_get X.1 X.2.1 X.2.2.1 i_Ag X.2.2.2.1 X.2.2.2.2 Y m282 e288 rfl 1 (by decide) (X.2.2.1 _ lk_Ag_48) (fun _ h9 => h9) rfl d_Ag_init_94 ?_
              refine lv_iload_n X.1 X.2.1 d_Ag_init_97 rfl (lv_at hl 0 rfl) ?_
              refine t_new (ci := 10) X Y S hA hF0 i_Ti t_Ti t_Ti_ok ck_Ag_46 mk_Ti ini_Ti rfl (fs := [.null, .null, .int (iI 0), .int (iI 0), .null, .int (iI 0), .int (iI 0), .int (iI 0), .int (iI 0), .int (iI 0)]) (fun j hj => match j, hj with | 0, _ => rfl | 1, _ => rfl | 2, _ => rfl | 3, _ => rfl | 4, _ => rfl | 5, _ => rfl | 6, _ => rfl | 7, _ => rfl | 8, _ => rfl | 9, _ => rfl | n9 + 10, h9 => absurd (show n9 + 10 < 10 from h9) (by omega)) (Nat.le_of_ble_eq_true rfl) (Nat.le_of_ble_eq_true rfl) d_Ag_init_98 (fun q290 L290 f290 H Y S s290 nl290 m290 r290 e290 nz290 => ?_)
              have k291 : κ276 a1 = (21, 0) := tLe_k s290.2.2.1 k277
              have k292 : κ276 q101 = (13, 40) := tLe_k s290.2.2.1 k278
              have k293 : κ276 q117 = (13, 40) := tLe_k s290.2.2.1 k279
              have k294 : κ276 q131 = (13, 40) := tLe_k s290.2.2.1 k280
              have e295 : f290 h = .inr (2, [.ref a1, .ref q153, .int (iI 0), .int (iI 0), .ref q101, .ref ((T.1 0)), .ref ((T.1 0)), .int (iI 0), .int (iI 0), .int (iI 0), .int (iI 0), .int (iI 0), .ref q117, .ref q131, .ref ((T.1 0)), .int (iI 0), .int (iI 0), .long 0, .ref ((T.1 0)), .long 0, .int (iI 0)]) := (s290.2.2.2 _ ⟨m282, by rw [r283]; decide, by simp⟩).1.trans e288
              have m296 : h ∈ L290 := s290.2.1 _ m282
              have r297 : (κ276 h).1 = 0 := by rw [(s290.2.2.2 _ ⟨m282, by rw [r283]; decide, by simp⟩).2]; exact r283
              have e298 : okP κ276 E.2.2.2.2.2 8 5 20 (f290 q153) := okP_le s290.2.2.1 (by rw [(s290.2.2.2 _ ⟨m285, by rw [r286]; decide, by simp⟩).1]; exact o287)
              have m299 : q153 ∈ L290 := s290.2.1 _ m285
              have r300 : (κ276 q153).1 = 0 := by rw [(s290.2.2.2 _ ⟨m285, by rw [r286]; decide, by simp⟩).2]; exact r286
              refine lv_dup X.1 X.2.1 d_Ag_init_101 rfl ?_
              refine t_mk (x_runIN (As := []) (rest := [.ref q290, .int (iI 5), .ref q153]) (n := 0) X KR hml hl.1 (c_Ti_init l D E T κ276 L290 f290 H.size q290 m290 r290 e290 S.1) (ok_k X Y hA KS KR) (by decide) ks_Ti_init ki_Ti_init ini_Ti rfl ⟨rfl, rfl⟩ hd_Ti_init.2 ⟨Nat.le_of_ble_eq_true rfl, Nat.le_of_ble_eq_true rfl⟩ rfl (Nat.le_of_ble_eq_true rfl) d_Ag_init_102 ⟨Nat.le_of_ble_eq_true rfl, Nat.le_of_ble_eq_true rfl⟩) X Y hA S (by decide) nl290 (fun κ301 L301 f301 H locs Y S s301 p301 => ?_)
              have k301 := p301
              have k302 : κ301 a1 = (21, 0) := tLe_k s301.2.2.1 k291
              have k303 : κ301 q101 = (13, 40) := tLe_k s301.2.2.1 k292
              have k304 : κ301 q117 = (13, 40) := tLe_k s301.2.2.1 k293
              have k305 : κ301 q131 = (13, 40) := tLe_k s301.2.2.1 k294
              have e306 : f301 h = .inr (2, [.ref a1, .ref q153, .int (iI 0), .int (iI 0), .ref q101, .ref ((T.1 0)), .ref ((T.1 0)), .int (iI 0), .int (iI 0), .int (iI 0), .int (iI 0), .int (iI 0), .ref q117, .ref q131, .ref ((T.1 0)), .int (iI 0), .int (iI 0), .long 0, .ref ((T.1 0)), .long 0, .int (iI 0)]) := (s301.2.2.2 _ ⟨m296, by rw [r297]; decide, by simp only [List.mem_singleton]; exact (nz290 _ m282)⟩).1.trans e295
              have m307 : h ∈ L301 := s301.2.1 _ m296
              have r308 : (κ301 h).1 = 0 := by rw [(s301.2.2.2 _ ⟨m296, by rw [r297]; decide, by simp only [List.mem_singleton]; exact (nz290 _ m282)⟩).2]; exact r297
              have e309 : okP κ301 E.2.2.2.2.2 8 5 20 (f301 q153) := okP_le s301.2.2.1 (by rw [(s301.2.2.2 _ ⟨m299, by rw [r300]; decide, by simp only [List.mem_singleton]; exact (nz290 _ m285)⟩).1]; exact e298)
              have m310 : q153 ∈ L301 := s301.2.1 _ m299
              have r311 : (κ301 q153).1 = 0 := by rw [(s301.2.2.2 _ ⟨m299, by rw [r300]; decide, by simp only [List.mem_singleton]; exact (nz290 _ m285)⟩).2]; exact r300
              refine t_aast (ci := 10) (r := (R_Ti, F_Ti, 10)) (t0 := 5) X Y S m310 r311 e309 rfl k301 rfl (by omega) (by decide) (by decide) (fun h9 => nl153 h9.1) d_Ag_init_105 (fun f312 H locs Y S w312 o312 => ?_)
              have e313 : f312 h = .inr (2, [.ref a1, .ref q153, .int (iI 0), .int (iI 0), .ref q101, .ref ((T.1 0)), .ref ((T.1 0)), .int (iI 0), .int (iI 0), .int (iI 0), .int (iI 0), .int (iI 0), .ref q117, .ref q131, .ref ((T.1 0)), .int (iI 0), .int (iI 0), .long 0, .ref ((T.1 0)), .long 0, .int (iI 0)]) := (w312 _ (nz153 _ m143)).trans e306
              refine lv_iinc (v := iI 6) (lv' := [(2, .int (iI 6)), (0, .ref h), (1, .ref a1)]) X.1 X.2.1 d_Ag_init_106 hl (k := 0) rfl (by decide) (by decide) rfl (fun ls hl => ?_)
              refine lv_goto (tgt := 87) X.1 X.2.1 d_Ag_init_109 (by decide) ?_
              refine lv_iload_n X.1 X.2.1 d_Ag_init_87 rfl (lv_at hl 0 rfl) ?_
              refine lv_bipush (v := iI 8) X.1 X.2.1 d_Ag_init_88 (by decide) ?_
              refine z_icmp_ge (tgt := 112) X.1 X.2.1 d_Ag_init_90 (by decide) ⟨by omega, by omega⟩ ⟨by omega, by omega⟩ (fun h314 => False.elim (by omega)) (fun h314 => ?_)
              · refine lv_aload_n X.1 X.2.1 d_Ag_init_93 rfl (lv_at hl 1 rfl) ?_
                refine q_get X.1 X.2.1 X.2.2.1 i_Ag X.2.2.2.1 X.2.2.2.2 Y m307 e313 rfl 1 (by decide) (X.2.2.1 _ lk_Ag_48) (fun _ h9 => h9) rfl d_Ag_init_94 ?_
                refine lv_iload_n X.1 X.2.1 d_Ag_init_97 rfl (lv_at hl 0 rfl) ?_
                refine t_new (ci := 10) X Y S hA hF0 i_Ti t_Ti t_Ti_ok ck_Ag_46 mk_Ti ini_Ti rfl (fs := [.null, .null, .int (iI 0), .int (iI 0), .null, .int (iI 0), .int (iI 0), .int (iI 0), .int (iI 0), .int (iI 0)]) (fun j hj => match j, hj with | 0, _ => rfl | 1, _ => rfl | 2, _ => rfl | 3, _ => rfl | 4, _ => rfl | 5, _ => rfl | 6, _ => rfl | 7, _ => rfl | 8, _ => rfl | 9, _ => rfl | n9 + 10, h9 => absurd (show n9 + 10 < 10 from h9) (by omega)) (Nat.le_of_ble_eq_true rfl) (Nat.le_of_ble_eq_true rfl) d_Ag_init_98 (fun q315 L315 f315 H Y S s315 nl315 m315 r315 e315 nz315 => ?_)
                have k316 : κ301 a1 = (21, 0) := tLe_k s315.2.2.1 k302
                have k317 : κ301 q101 = (13, 40) := tLe_k s315.2.2.1 k303
                have k318 : κ301 q117 = (13, 40) := tLe_k s315.2.2.1 k304
                have k319 : κ301 q131 = (13, 40) := tLe_k s315.2.2.1 k305
                have e320 : f315 h = .inr (2, [.ref a1, .ref q153, .int (iI 0), .int (iI 0), .ref q101, .ref ((T.1 0)), .ref ((T.1 0)), .int (iI 0), .int (iI 0), .int (iI 0), .int (iI 0), .int (iI 0), .ref q117, .ref q131, .ref ((T.1 0)), .int (iI 0), .int (iI 0), .long 0, .ref ((T.1 0)), .long 0, .int (iI 0)]) := (s315.2.2.2 _ ⟨m307, by rw [r308]; decide, by simp⟩).1.trans e313
                have m321 : h ∈ L315 := s315.2.1 _ m307
                have r322 : (κ301 h).1 = 0 := by rw [(s315.2.2.2 _ ⟨m307, by rw [r308]; decide, by simp⟩).2]; exact r308
                have e323 : okP κ301 E.2.2.2.2.2 8 6 20 (f315 q153) := okP_le s315.2.2.1 (by rw [(s315.2.2.2 _ ⟨m310, by rw [r311]; decide, by simp⟩).1]; exact o312)
                have m324 : q153 ∈ L315 := s315.2.1 _ m310
                have r325 : (κ301 q153).1 = 0 := by rw [(s315.2.2.2 _ ⟨m310, by rw [r311]; decide, by simp⟩).2]; exact r311
                refine lv_dup X.1 X.2.1 d_Ag_init_101 rfl ?_
                refine t_mk (x_runIN (As := []) (rest := [.ref q315, .int (iI 6), .ref q153]) (n := 0) X KR hml hl.1 (c_Ti_init l D E T κ301 L315 f315 H.size q315 m315 r315 e315 S.1) (ok_k X Y hA KS KR) (by decide) ks_Ti_init ki_Ti_init ini_Ti rfl ⟨rfl, rfl⟩ hd_Ti_init.2 ⟨Nat.le_of_ble_eq_true rfl, Nat.le_of_ble_eq_true rfl⟩ rfl (Nat.le_of_ble_eq_true rfl) d_Ag_init_102 ⟨Nat.le_of_ble_eq_true rfl, Nat.le_of_ble_eq_true rfl⟩) X Y hA S (by decide) nl315 (fun κ326 L326 f326 H locs Y S s326 p326 => ?_)
                have k326 := p326
                have k327 : κ326 a1 = (21, 0) := tLe_k s326.2.2.1 k316
                have k328 : κ326 q101 = (13, 40) := tLe_k s326.2.2.1 k317
                have k329 : κ326 q117 = (13, 40) := tLe_k s326.2.2.1 k318
                have k330 : κ326 q131 = (13, 40) := tLe_k s326.2.2.1 k319
                have e331 : f326 h = .inr (2, [.ref a1, .ref q153, .int (iI 0), .int (iI 0), .ref q101, .ref ((T.1 0)), .ref ((T.1 0)), .int (iI 0), .int (iI 0), .int (iI 0), .int (iI 0), .int (iI 0), .ref q117, .ref q131, .ref ((T.1 0)), .int (iI 0), .int (iI 0), .long 0, .ref ((T.1 0)), .long 0, .int (iI 0)]) := (s326.2.2.2 _ ⟨m321, by rw [r322]; decide, by simp only [List.mem_singleton]; exact (nz315 _ m307)⟩).1.trans e320
                have m332 : h ∈ L326 := s326.2.1 _ m321
                have r333 : (κ326 h).1 = 0 := by rw [(s326.2.2.2 _ ⟨m321, by rw [r322]; decide, by simp only [List.mem_singleton]; exact (nz315 _ m307)⟩).2]; exact r322
                have e334 : okP κ326 E.2.2.2.2.2 8 6 20 (f326 q153) := okP_le s326.2.2.1 (by rw [(s326.2.2.2 _ ⟨m324, by rw [r325]; decide, by simp only [List.mem_singleton]; exact (nz315 _ m310)⟩).1]; exact e323)
                have m335 : q153 ∈ L326 := s326.2.1 _ m324
                have r336 : (κ326 q153).1 = 0 := by rw [(s326.2.2.2 _ ⟨m324, by rw [r325]; decide, by simp only [List.mem_singleton]; exact (nz315 _ m310)⟩).2]; exact r325
                refine t_aast (ci := 10) (r := (R_Ti, F_Ti, 10)) (t0 := 5) X Y S m335 r336 e334 rfl k326 rfl (by omega) (by decide) (by decide) (fun h9 => nl153 h9.1) d_Ag_init_105 (fun f337 H locs Y S w337 o337 => ?_)
                have e338 : f337 h = .inr (2, [.ref a1, .ref q153, .int (iI 0), .int (iI 0), .ref q101, .ref ((T.1 0)), .ref ((T.1 0)), .int (iI 0), .int (iI 0), .int (iI 0), .int (iI 0), .int (iI 0), .ref q117, .ref q131, .ref ((T.1 0)), .int (iI 0), .int (iI 0), .long 0, .ref ((T.1 0)), .long 0, .int (iI 0)]) := (w337 _ (nz153 _ m143)).trans e331
                refine lv_iinc (v := iI 7) (lv' := [(2, .int (iI 7)), (0, .ref h), (1, .ref a1)]) X.1 X.2.1 d_Ag_init_106 hl (k := 0) rfl (by decide) (by decide) rfl (fun ls hl => ?_)
                refine lv_goto (tgt := 87) X.1 X.2.1 d_Ag_init_109 (by decide) ?_
                refine lv_iload_n X.1 X.2.1 d_Ag_init_87 rfl (lv_at hl 0 rfl) ?_
                refine lv_bipush (v := iI 8) X.1 X.2.1 d_Ag_init_88 (by decide) ?_
                refine z_icmp_ge (tgt := 112) X.1 X.2.1 d_Ag_init_90 (by decide) ⟨by omega, by omega⟩ ⟨by omega, by omega⟩ (fun h339 => False.elim (by omega)) (fun h339 => ?_)
                · refine lv_aload_n X.1 X.2.1 d_Ag_init_93 rfl (lv_at hl 1 rfl) ?_
                  refine q_get X.1 X.2.1 X.2.2.1 i_Ag X.2.2.2.1 X.2.2.2.2 Y m332 e338 rfl 1 (by decide) (X.2.2.1 _ lk_Ag_48) (fun _ h9 => h9) rfl d_Ag_init_94 ?_
                  refine lv_iload_n X.1 X.2.1 d_Ag_init_97 rfl (lv_at hl 0 rfl) ?_
                  refine t_new (ci := 10) X Y S hA hF0 i_Ti t_Ti t_Ti_ok ck_Ag_46 mk_Ti ini_Ti rfl (fs := [.null, .null, .int (iI 0), .int (iI 0), .null, .int (iI 0), .int (iI 0), .int (iI 0), .int (iI 0), .int (iI 0)]) (fun j hj => match j, hj with | 0, _ => rfl | 1, _ => rfl | 2, _ => rfl | 3, _ => rfl | 4, _ => rfl | 5, _ => rfl | 6, _ => rfl | 7, _ => rfl | 8, _ => rfl | 9, _ => rfl | n9 + 10, h9 => absurd (show n9 + 10 < 10 from h9) (by omega)) (Nat.le_of_ble_eq_true rfl) (Nat.le_of_ble_eq_true rfl) d_Ag_init_98 (fun q340 L340 f340 H Y S s340 nl340 m340 r340 e340 nz340 => ?_)
                  have k341 : κ326 a1 = (21, 0) := tLe_k s340.2.2.1 k327
                  have k342 : κ326 q101 = (13, 40) := tLe_k s340.2.2.1 k328
                  have k343 : κ326 q117 = (13, 40) := tLe_k s340.2.2.1 k329
                  have k344 : κ326 q131 = (13, 40) := tLe_k s340.2.2.1 k330
                  have e345 : f340 h = .inr (2, [.ref a1, .ref q153, .int (iI 0), .int (iI 0), .ref q101, .ref ((T.1 0)), .ref ((T.1 0)), .int (iI 0), .int (iI 0), .int (iI 0), .int (iI 0), .int (iI 0), .ref q117, .ref q131, .ref ((T.1 0)), .int (iI 0), .int (iI 0), .long 0, .ref ((T.1 0)), .long 0, .int (iI 0)]) := (s340.2.2.2 _ ⟨m332, by rw [r333]; decide, by simp⟩).1.trans e338
                  have m346 : h ∈ L340 := s340.2.1 _ m332
                  have r347 : (κ326 h).1 = 0 := by rw [(s340.2.2.2 _ ⟨m332, by rw [r333]; decide, by simp⟩).2]; exact r333
                  have e348 : okP κ326 E.2.2.2.2.2 8 7 20 (f340 q153) := okP_le s340.2.2.1 (by rw [(s340.2.2.2 _ ⟨m335, by rw [r336]; decide, by simp⟩).1]; exact o337)
                  have m349 : q153 ∈ L340 := s340.2.1 _ m335
                  have r350 : (κ326 q153).1 = 0 := by rw [(s340.2.2.2 _ ⟨m335, by rw [r336]; decide, by simp⟩).2]; exact r336
                  refine lv_dup X.1 X.2.1 d_Ag_init_101 rfl ?_
                  refine t_mk (x_runIN (As := []) (rest := [.ref q340, .int (iI 7), .ref q153]) (n := 0) X KR hml hl.1 (c_Ti_init l D E T κ326 L340 f340 H.size q340 m340 r340 e340 S.1) (ok_k X Y hA KS KR) (by decide) ks_Ti_init ki_Ti_init ini_Ti rfl ⟨rfl, rfl⟩ hd_Ti_init.2 ⟨Nat.le_of_ble_eq_true rfl, Nat.le_of_ble_eq_true rfl⟩ rfl (Nat.le_of_ble_eq_true rfl) d_Ag_init_102 ⟨Nat.le_of_ble_eq_true rfl, Nat.le_of_ble_eq_true rfl⟩) X Y hA S (by decide) nl340 (fun κ351 L351 f351 H locs Y S s351 p351 => ?_)
                  have k351 := p351
                  have k352 : κ351 a1 = (21, 0) := tLe_k s351.2.2.1 k341
                  have k353 : κ351 q101 = (13, 40) := tLe_k s351.2.2.1 k342
                  have k354 : κ351 q117 = (13, 40) := tLe_k s351.2.2.1 k343
                  have k355 : κ351 q131 = (13, 40) := tLe_k s351.2.2.1 k344
                  have e356 : f351 h = .inr (2, [.ref a1, .ref q153, .int (iI 0), .int (iI 0), .ref q101, .ref ((T.1 0)), .ref ((T.1 0)), .int (iI 0), .int (iI 0), .int (iI 0), .int (iI 0), .int (iI 0), .ref q117, .ref q131, .ref ((T.1 0)), .int (iI 0), .int (iI 0), .long 0, .ref ((T.1 0)), .long 0, .int (iI 0)]) := (s351.2.2.2 _ ⟨m346, by rw [r347]; decide, by simp only [List.mem_singleton]; exact (nz340 _ m332)⟩).1.trans e345
                  have m357 : h ∈ L351 := s351.2.1 _ m346
                  have r358 : (κ351 h).1 = 0 := by rw [(s351.2.2.2 _ ⟨m346, by rw [r347]; decide, by simp only [List.mem_singleton]; exact (nz340 _ m332)⟩).2]; exact r347
                  have e359 : okP κ351 E.2.2.2.2.2 8 7 20 (f351 q153) := okP_le s351.2.2.1 (by rw [(s351.2.2.2 _ ⟨m349, by rw [r350]; decide, by simp only [List.mem_singleton]; exact (nz340 _ m335)⟩).1]; exact e348)
                  have m360 : q153 ∈ L351 := s351.2.1 _ m349
                  have r361 : (κ351 q153).1 = 0 := by rw [(s351.2.2.2 _ ⟨m349, by rw [r350]; decide, by simp only [List.mem_singleton]; exact (nz340 _ m335)⟩).2]; exact r350
                  refine t_aast (ci := 10) (r := (R_Ti, F_Ti, 10)) (t0 := 5) X Y S m360 r361 e359 rfl k351 rfl (by omega) (by decide) (by decide) (fun h9 => nl153 h9.1) d_Ag_init_105 (fun f362 H locs Y S w362 o362 => ?_)
                  have e363 : f362 h = .inr (2, [.ref a1, .ref q153, .int (iI 0), .int (iI 0), .ref q101, .ref ((T.1 0)), .ref ((T.1 0)), .int (iI 0), .int (iI 0), .int (iI 0), .int (iI 0), .int (iI 0), .ref q117, .ref q131, .ref ((T.1 0)), .int (iI 0), .int (iI 0), .long 0, .ref ((T.1 0)), .long 0, .int (iI 0)]) := (w362 _ (nz153 _ m143)).trans e356
                  refine lv_iinc (v := iI 8) (lv' := [(2, .int (iI 8)), (0, .ref h), (1, .ref a1)]) X.1 X.2.1 d_Ag_init_106 hl (k := 0) rfl (by decide) (by decide) rfl (fun ls hl => ?_)
                  refine lv_goto (tgt := 87) X.1 X.2.1 d_Ag_init_109 (by decide) ?_
                  refine lv_iload_n X.1 X.2.1 d_Ag_init_87 rfl (lv_at hl 0 rfl) ?_
                  refine lv_bipush (v := iI 8) X.1 X.2.1 d_Ag_init_88 (by decide) ?_
                  refine z_icmp_ge (tgt := 112) X.1 X.2.1 d_Ag_init_90 (by decide) ⟨by omega, by omega⟩ ⟨by omega, by omega⟩ (fun h364 => ?_) (fun h364 => False.elim (by omega))
                  · obtain ⟨S, s365⟩ := t_arrkind (c1 := 8) (n := 8) S m360 r361 nl153 hF0 (raw0_of hw nl153) (okP_le (tLe_raw r361) o362)
                    have k365 : (va_up κ351 q153 (8, 8)) q153 = (8, 8) := va_up_self _ _ _
                    generalize va_up κ351 q153 (8, 8) = κ365 at S s365 k365
                    have k366 : κ365 a1 = (21, 0) := tLe_k s365.2.2.1 k352
                    have k367 : κ365 q101 = (13, 40) := tLe_k s365.2.2.1 k353
                    have k368 : κ365 q117 = (13, 40) := tLe_k s365.2.2.1 k354
                    have k369 : κ365 q131 = (13, 40) := tLe_k s365.2.2.1 k355
                    have e370 : f362 h = .inr (2, [.ref a1, .ref q153, .int (iI 0), .int (iI 0), .ref q101, .ref ((T.1 0)), .ref ((T.1 0)), .int (iI 0), .int (iI 0), .int (iI 0), .int (iI 0), .int (iI 0), .ref q117, .ref q131, .ref ((T.1 0)), .int (iI 0), .int (iI 0), .long 0, .ref ((T.1 0)), .long 0, .int (iI 0)]) := (s365.2.2.2 _ ⟨m357, by rw [r358]; decide, by simp only [List.mem_singleton]; exact (nz153 _ m143)⟩).1.trans e363
                    have m371 : h ∈ L351 := s365.2.1 _ m357
                    have r372 : (κ365 h).1 = 0 := by rw [(s365.2.2.2 _ ⟨m357, by rw [r358]; decide, by simp only [List.mem_singleton]; exact (nz153 _ m143)⟩).2]; exact r358
                    have hle : tLe κ365 (va_up κ365 h (12, 0)) := tLe_raw r372
                    have S := (tS_kind (k := (12, 0)) S m371 r372 r_h (fun h9 => h9.2.2 (List.mem_singleton.mpr rfl)) (by rw [e370]; exact ⟨_, rfl, okO_of ⟨⟨_, rfl, tLe_k hle k366⟩, ⟨_, rfl, tLe_k hle k365⟩, ⟨_, rfl, (show (0 : Int) ≤ 0 by omega), (show 0 ≤ (1 : Int) by omega)⟩, ⟨_, rfl, (show ((-2147483648) : Int) ≤ 0 by omega), (show 0 ≤ (2147483647 : Int) by omega)⟩, ⟨_, rfl, tLe_k hle k367⟩, ⟨_, 0, rfl, tLe_key hle tKey_no⟩, ⟨_, 0, rfl, tLe_key hle tKey_no⟩, ⟨_, rfl, (show ((-2147483648) : Int) ≤ 0 by omega), (show 0 ≤ (2147483647 : Int) by omega)⟩, ⟨_, rfl, (show ((-2147483648) : Int) ≤ 0 by omega), (show 0 ≤ (2147483647 : Int) by omega)⟩, ⟨_, rfl, (show ((-2147483648) : Int) ≤ 0 by omega), (show 0 ≤ (2147483647 : Int) by omega)⟩, ⟨_, rfl, (show (0 : Int) ≤ 0 by omega), (show 0 ≤ (1 : Int) by omega)⟩, ⟨_, rfl, (show ((-2147483648) : Int) ≤ 0 by omega), (show 0 ≤ (2147483647 : Int) by omega)⟩, ⟨_, rfl, tLe_k hle k368⟩, ⟨_, rfl, tLe_k hle k369⟩, ⟨_, 0, rfl, tLe_key hle tKey_no⟩, ⟨_, rfl, (show ((-2147483648) : Int) ≤ 0 by omega), (show 0 ≤ (2147483647 : Int) by omega)⟩, ⟨_, rfl, (show ((-2147483648) : Int) ≤ 0 by omega), (show 0 ≤ (2147483647 : Int) by omega)⟩, ⟨_, rfl⟩, ⟨_, 0, rfl, tLe_key hle tKey_no⟩, ⟨_, rfl⟩, ⟨_, rfl, (show (0 : Int) ≤ 0 by omega), (show 0 ≤ (1 : Int) by omega)⟩, trivial⟩⟩)).1
                    exact c_retv hQQ X Y hr hlk ⟨_, S, va_up_self _ _ _⟩ d_Ag_init_112
set_option maxHeartbeats 4000000 in
set_option maxRecDepth 100000 in
theorem c_So_init (l : Launch) (D : va_G) (E : cE) (T : cT) (κ : tK) (L : List Nat) (f : pF) (sz : Nat) (h : Nat) (m_h : h ∈ L) (r_h : (κ h).1 = 0) (e_h : f h = .inr (9, [.null, .int (iI 0), .int (iI 0), .null, .null, .int (iI 0), .int (iI 0), .long 0, .null, .null, .null])) (a1 : Nat) (k1 : κ a1 = (21, 0)) (hw : tW E T κ L f) : Met l y_So_init (k_So_init :: lw_tg) (kRm 1 60 3 8) (va_Pc [.ref h, .ref a1] (kPre D E T L f sz)) (va_Qv (aPv E T [1, 19] [h] κ L f (fun (k : tK) (g : pF) => k h = (19, 0))) (cPost D E (pA L sz)) (pA L sz)) 3 8 (pA L sz) := by
  refine k_enter (own := R_So) (by decide) rfl (Nat.le_of_ble_eq_true rfl) (fun p e s m below meth c ls AV QQ H locs hQQ X Y hA hin hr hlk hml hl KS KR => ?_)
  have hl : lv_has ls 2 [(0, .ref h), (1, .ref a1)] := hl
  have S : tS E T (tFr κ L [1, 19] [h]) κ L f κ L f := tS_rf hw
  have hF0 : ∀ b, tFr κ L [1, 19] [h] b → b ∈ L := fun b h9 => h9.1
  refine lv_aload_n X.1 X.2.1 d_So_init_0 rfl (lv_at hl 0 rfl) ?_
  refine W.objInit X.1 X.2.1 X.2.2.2.1 (X.2.2.1 _ ol_So) (X.2.2.1 _ o_inst) (X.2.2.1 _ o_code) rfl (by rw [hml]; exact hl.1) rfl d_So_init_1 (Nat.le_of_ble_eq_true rfl) (Nat.le_of_ble_eq_true rfl) ?_
  refine W.eq (g2 := F0 m 4 ls []) rfl ?_
  refine lv_aload_n X.1 X.2.1 d_So_init_4 rfl (lv_at hl 0 rfl) ?_
  refine lv_iconst (v := iI (-1)) X.1 X.2.1 d_So_init_5 (by decide) ?_
  refine q_put X.1 X.2.1 X.2.2.1 i_So t_So t_So_ok n_So X.2.2.2.1 X.2.2.2.2 Y m_h e_h rfl 2 (by decide) (X.2.2.1 _ lk_So_9) (fun _ h9 => h9) rfl (t_So_ok 2 (by decide)) rfl rfl (Nat.le_of_ble_eq_true rfl) d_So_init_6 (fun H locs Y => ?_)
  have Y : pH D cCl (pA L sz) s.heap L (va_up f h (.inr (9, [.null, .int (iI 0), .int (iI ((-1))), .null, .null, .int (iI 0), .int (iI 0), .long 0, .null, .null, .null]))) H locs := Y
  have S := tS_up (x := .inr (9, [.null, .int (iI 0), .int (iI ((-1))), .null, .null, .int (iI 0), .int (iI 0), .long 0, .null, .null, .null])) S (fun h9 => h9.2.2 (List.mem_singleton.mpr rfl)) (fun h9 => absurd r_h h9)
  have e102 : (va_up f h (.inr (9, [.null, .int (iI 0), .int (iI ((-1))), .null, .null, .int (iI 0), .int (iI 0), .long 0, .null, .null, .null]))) h = .inr (9, [.null, .int (iI 0), .int (iI ((-1))), .null, .null, .int (iI 0), .int (iI 0), .long 0, .null, .null, .null]) := q_up
  generalize va_up f h (.inr (9, [.null, .int (iI 0), .int (iI ((-1))), .null, .null, .int (iI 0), .int (iI 0), .long 0, .null, .null, .null])) = f101 at Y S e102
  refine lv_aload_n X.1 X.2.1 d_So_init_9 rfl (lv_at hl 0 rfl) ?_
  refine k_getsN X Y KS KR (by decide) d_So_init_10 ?_
  refine q_put X.1 X.2.1 X.2.2.1 i_So t_So t_So_ok n_So X.2.2.2.1 X.2.2.2.2 Y m_h e102 rfl 3 (by decide) (X.2.2.1 _ lk_So_19) (fun _ h9 => h9) rfl (t_So_ok 3 (by decide)) rfl rfl (Nat.le_of_ble_eq_true rfl) d_So_init_13 (fun H locs Y => ?_)
  have Y : pH D cCl (pA L sz) s.heap L (va_up f101 h (.inr (9, [.null, .int (iI 0), .int (iI ((-1))), .ref ((T.1 0)), .null, .int (iI 0), .int (iI 0), .long 0, .null, .null, .null]))) H locs := Y
  have S := tS_up (x := .inr (9, [.null, .int (iI 0), .int (iI ((-1))), .ref ((T.1 0)), .null, .int (iI 0), .int (iI 0), .long 0, .null, .null, .null])) S (fun h9 => h9.2.2 (List.mem_singleton.mpr rfl)) (fun h9 => absurd r_h h9)
  have e104 : (va_up f101 h (.inr (9, [.null, .int (iI 0), .int (iI ((-1))), .ref ((T.1 0)), .null, .int (iI 0), .int (iI 0), .long 0, .null, .null, .null]))) h = .inr (9, [.null, .int (iI 0), .int (iI ((-1))), .ref ((T.1 0)), .null, .int (iI 0), .int (iI 0), .long 0, .null, .null, .null]) := q_up
  generalize va_up f101 h (.inr (9, [.null, .int (iI 0), .int (iI ((-1))), .ref ((T.1 0)), .null, .int (iI 0), .int (iI 0), .long 0, .null, .null, .null])) = f103 at Y S e104
  refine lv_aload_n X.1 X.2.1 d_So_init_16 rfl (lv_at hl 0 rfl) ?_
  refine k_getsN X Y KS KR (by decide) d_So_init_17 ?_
  refine q_put X.1 X.2.1 X.2.2.1 i_So t_So t_So_ok n_So X.2.2.2.1 X.2.2.2.2 Y m_h e104 rfl 4 (by decide) (X.2.2.1 _ lk_So_22) (fun _ h9 => h9) rfl (t_So_ok 4 (by decide)) rfl rfl (Nat.le_of_ble_eq_true rfl) d_So_init_20 (fun H locs Y => ?_)
  have Y : pH D cCl (pA L sz) s.heap L (va_up f103 h (.inr (9, [.null, .int (iI 0), .int (iI ((-1))), .ref ((T.1 0)), .ref ((T.1 0)), .int (iI 0), .int (iI 0), .long 0, .null, .null, .null]))) H locs := Y
  have S := tS_up (x := .inr (9, [.null, .int (iI 0), .int (iI ((-1))), .ref ((T.1 0)), .ref ((T.1 0)), .int (iI 0), .int (iI 0), .long 0, .null, .null, .null])) S (fun h9 => h9.2.2 (List.mem_singleton.mpr rfl)) (fun h9 => absurd r_h h9)
  have e106 : (va_up f103 h (.inr (9, [.null, .int (iI 0), .int (iI ((-1))), .ref ((T.1 0)), .ref ((T.1 0)), .int (iI 0), .int (iI 0), .long 0, .null, .null, .null]))) h = .inr (9, [.null, .int (iI 0), .int (iI ((-1))), .ref ((T.1 0)), .ref ((T.1 0)), .int (iI 0), .int (iI 0), .long 0, .null, .null, .null]) := q_up
  generalize va_up f103 h (.inr (9, [.null, .int (iI 0), .int (iI ((-1))), .ref ((T.1 0)), .ref ((T.1 0)), .int (iI 0), .int (iI 0), .long 0, .null, .null, .null])) = f105 at Y S e106
  refine lv_aload_n X.1 X.2.1 d_So_init_23 rfl (lv_at hl 0 rfl) ?_
  refine lv_iconst (v := iI 2) X.1 X.2.1 d_So_init_24 (by decide) ?_
  refine t_newI (cI := 2) (by decide) X Y S hA hF0 (N := 2) (mx := 2) (by omega) (by omega) (by decide) (Nat.le_of_ble_eq_true rfl) (Nat.le_of_ble_eq_true rfl) d_So_init_25 (fun q107 κ107 L107 f107 H Y S s107 k107 => ?_)
  have k108 : κ107 a1 = (21, 0) := tLe_k s107.2.2.1 k1
  have e109 : f107 h = .inr (9, [.null, .int (iI 0), .int (iI ((-1))), .ref ((T.1 0)), .ref ((T.1 0)), .int (iI 0), .int (iI 0), .long 0, .null, .null, .null]) := (s107.2.2.2 _ ⟨m_h, by rw [r_h]; decide, by simp⟩).1.trans e106
  have m110 : h ∈ L107 := s107.2.1 _ m_h
  have r111 : (κ107 h).1 = 0 := by rw [(s107.2.2.2 _ ⟨m_h, by rw [r_h]; decide, by simp⟩).2]; exact r_h
  refine q_putF X.1 X.2.1 X.2.2.1 i_So t_So t_So_ok n_So X.2.2.2.1 X.2.2.2.2 Y m110 e109 rfl 8 (by decide) (X.2.2.1 _ lk_So_25) (fun _ h9 => h9) rfl hin rfl (t_So_ok 8 (by decide)) rfl rfl (Nat.le_of_ble_eq_true rfl) d_So_init_27 (fun H locs Y => ?_)
  have Y : pH D cCl (pA L sz) s.heap L107 (va_up f107 h (.inr (9, [.null, .int (iI 0), .int (iI ((-1))), .ref ((T.1 0)), .ref ((T.1 0)), .int (iI 0), .int (iI 0), .long 0, .ref q107, .null, .null]))) H locs := Y
  have S := tS_up (x := .inr (9, [.null, .int (iI 0), .int (iI ((-1))), .ref ((T.1 0)), .ref ((T.1 0)), .int (iI 0), .int (iI 0), .long 0, .ref q107, .null, .null])) S (fun h9 => h9.2.2 (List.mem_singleton.mpr rfl)) (fun h9 => absurd r111 h9)
  have e113 : (va_up f107 h (.inr (9, [.null, .int (iI 0), .int (iI ((-1))), .ref ((T.1 0)), .ref ((T.1 0)), .int (iI 0), .int (iI 0), .long 0, .ref q107, .null, .null]))) h = .inr (9, [.null, .int (iI 0), .int (iI ((-1))), .ref ((T.1 0)), .ref ((T.1 0)), .int (iI 0), .int (iI 0), .long 0, .ref q107, .null, .null]) := q_up
  generalize va_up f107 h (.inr (9, [.null, .int (iI 0), .int (iI ((-1))), .ref ((T.1 0)), .ref ((T.1 0)), .int (iI 0), .int (iI 0), .long 0, .ref q107, .null, .null])) = f112 at Y S e113
  refine lv_aload_n X.1 X.2.1 d_So_init_30 rfl (lv_at hl 0 rfl) ?_
  refine lv_iconst (v := iI 2) X.1 X.2.1 d_So_init_31 (by decide) ?_
  refine t_newI (cI := 2) (by decide) X Y S hA hF0 (N := 2) (mx := 2) (by omega) (by omega) (by decide) (Nat.le_of_ble_eq_true rfl) (Nat.le_of_ble_eq_true rfl) d_So_init_32 (fun q114 κ114 L114 f114 H Y S s114 k114 => ?_)
  have k115 : κ114 a1 = (21, 0) := tLe_k s114.2.2.1 k108
  have k116 : κ114 q107 = (2, 2) := tLe_k s114.2.2.1 k107
  have e117 : f114 h = .inr (9, [.null, .int (iI 0), .int (iI ((-1))), .ref ((T.1 0)), .ref ((T.1 0)), .int (iI 0), .int (iI 0), .long 0, .ref q107, .null, .null]) := (s114.2.2.2 _ ⟨m110, by rw [r111]; decide, by simp⟩).1.trans e113
  have m118 : h ∈ L114 := s114.2.1 _ m110
  have r119 : (κ114 h).1 = 0 := by rw [(s114.2.2.2 _ ⟨m110, by rw [r111]; decide, by simp⟩).2]; exact r111
  refine q_putF X.1 X.2.1 X.2.2.1 i_So t_So t_So_ok n_So X.2.2.2.1 X.2.2.2.2 Y m118 e117 rfl 9 (by decide) (X.2.2.1 _ lk_So_29) (fun _ h9 => h9) rfl hin rfl (t_So_ok 9 (by decide)) rfl rfl (Nat.le_of_ble_eq_true rfl) d_So_init_34 (fun H locs Y => ?_)
  have Y : pH D cCl (pA L sz) s.heap L114 (va_up f114 h (.inr (9, [.null, .int (iI 0), .int (iI ((-1))), .ref ((T.1 0)), .ref ((T.1 0)), .int (iI 0), .int (iI 0), .long 0, .ref q107, .ref q114, .null]))) H locs := Y
  have S := tS_up (x := .inr (9, [.null, .int (iI 0), .int (iI ((-1))), .ref ((T.1 0)), .ref ((T.1 0)), .int (iI 0), .int (iI 0), .long 0, .ref q107, .ref q114, .null])) S (fun h9 => h9.2.2 (List.mem_singleton.mpr rfl)) (fun h9 => absurd r119 h9)
  have e121 : (va_up f114 h (.inr (9, [.null, .int (iI 0), .int (iI ((-1))), .ref ((T.1 0)), .ref ((T.1 0)), .int (iI 0), .int (iI 0), .long 0, .ref q107, .ref q114, .null]))) h = .inr (9, [.null, .int (iI 0), .int (iI ((-1))), .ref ((T.1 0)), .ref ((T.1 0)), .int (iI 0), .int (iI 0), .long 0, .ref q107, .ref q114, .null]) := q_up
  generalize va_up f114 h (.inr (9, [.null, .int (iI 0), .int (iI ((-1))), .ref ((T.1 0)), .ref ((T.1 0)), .int (iI 0), .int (iI 0), .long 0, .ref q107, .ref q114, .null])) = f120 at Y S e121
  refine lv_aload_n X.1 X.2.1 d_So_init_37 rfl (lv_at hl 0 rfl) ?_
  refine lv_iconst (v := iI 4) X.1 X.2.1 d_So_init_38 (by decide) ?_
  refine t_newB X Y S hA hF0 (N := 4) (mx := 4) (by omega) (by omega) (by decide) (Nat.le_of_ble_eq_true rfl) (Nat.le_of_ble_eq_true rfl) d_So_init_39 (fun q122 κ122 L122 f122 H Y S s122 k122 => ?_)
  have k123 : κ122 a1 = (21, 0) := tLe_k s122.2.2.1 k115
  have k124 : κ122 q107 = (2, 2) := tLe_k s122.2.2.1 k116
  have k125 : κ122 q114 = (2, 2) := tLe_k s122.2.2.1 k114
  have e126 : f122 h = .inr (9, [.null, .int (iI 0), .int (iI ((-1))), .ref ((T.1 0)), .ref ((T.1 0)), .int (iI 0), .int (iI 0), .long 0, .ref q107, .ref q114, .null]) := (s122.2.2.2 _ ⟨m118, by rw [r119]; decide, by simp⟩).1.trans e121
  have m127 : h ∈ L122 := s122.2.1 _ m118
  have r128 : (κ122 h).1 = 0 := by rw [(s122.2.2.2 _ ⟨m118, by rw [r119]; decide, by simp⟩).2]; exact r119
  refine q_putF X.1 X.2.1 X.2.2.1 i_So t_So t_So_ok n_So X.2.2.2.1 X.2.2.2.2 Y m127 e126 rfl 10 (by decide) (X.2.2.1 _ lk_So_32) (fun _ h9 => h9) rfl hin rfl (t_So_ok 10 (by decide)) rfl rfl (Nat.le_of_ble_eq_true rfl) d_So_init_41 (fun H locs Y => ?_)
  have Y : pH D cCl (pA L sz) s.heap L122 (va_up f122 h (.inr (9, [.null, .int (iI 0), .int (iI ((-1))), .ref ((T.1 0)), .ref ((T.1 0)), .int (iI 0), .int (iI 0), .long 0, .ref q107, .ref q114, .ref q122]))) H locs := Y
  have S := tS_up (x := .inr (9, [.null, .int (iI 0), .int (iI ((-1))), .ref ((T.1 0)), .ref ((T.1 0)), .int (iI 0), .int (iI 0), .long 0, .ref q107, .ref q114, .ref q122])) S (fun h9 => h9.2.2 (List.mem_singleton.mpr rfl)) (fun h9 => absurd r128 h9)
  have e130 : (va_up f122 h (.inr (9, [.null, .int (iI 0), .int (iI ((-1))), .ref ((T.1 0)), .ref ((T.1 0)), .int (iI 0), .int (iI 0), .long 0, .ref q107, .ref q114, .ref q122]))) h = .inr (9, [.null, .int (iI 0), .int (iI ((-1))), .ref ((T.1 0)), .ref ((T.1 0)), .int (iI 0), .int (iI 0), .long 0, .ref q107, .ref q114, .ref q122]) := q_up
  generalize va_up f122 h (.inr (9, [.null, .int (iI 0), .int (iI ((-1))), .ref ((T.1 0)), .ref ((T.1 0)), .int (iI 0), .int (iI 0), .long 0, .ref q107, .ref q114, .ref q122])) = f129 at Y S e130
  refine lv_aload_n X.1 X.2.1 d_So_init_44 rfl (lv_at hl 0 rfl) ?_
  refine lv_aload_n X.1 X.2.1 d_So_init_45 rfl (lv_at hl 1 rfl) ?_
  refine q_putF X.1 X.2.1 X.2.2.1 i_So t_So t_So_ok n_So X.2.2.2.1 X.2.2.2.2 Y m127 e130 rfl 0 (by decide) (X.2.2.1 _ lk_So_35) (fun _ h9 => h9) rfl hin rfl (t_So_ok 0 (by decide)) rfl rfl (Nat.le_of_ble_eq_true rfl) d_So_init_46 (fun H locs Y => ?_)
  have Y : pH D cCl (pA L sz) s.heap L122 (va_up f129 h (.inr (9, [.ref a1, .int (iI 0), .int (iI ((-1))), .ref ((T.1 0)), .ref ((T.1 0)), .int (iI 0), .int (iI 0), .long 0, .ref q107, .ref q114, .ref q122]))) H locs := Y
  have S := tS_up (x := .inr (9, [.ref a1, .int (iI 0), .int (iI ((-1))), .ref ((T.1 0)), .ref ((T.1 0)), .int (iI 0), .int (iI 0), .long 0, .ref q107, .ref q114, .ref q122])) S (fun h9 => h9.2.2 (List.mem_singleton.mpr rfl)) (fun h9 => absurd r128 h9)
  have e132 : (va_up f129 h (.inr (9, [.ref a1, .int (iI 0), .int (iI ((-1))), .ref ((T.1 0)), .ref ((T.1 0)), .int (iI 0), .int (iI 0), .long 0, .ref q107, .ref q114, .ref q122]))) h = .inr (9, [.ref a1, .int (iI 0), .int (iI ((-1))), .ref ((T.1 0)), .ref ((T.1 0)), .int (iI 0), .int (iI 0), .long 0, .ref q107, .ref q114, .ref q122]) := q_up
  generalize va_up f129 h (.inr (9, [.ref a1, .int (iI 0), .int (iI ((-1))), .ref ((T.1 0)), .ref ((T.1 0)), .int (iI 0), .int (iI 0), .long 0, .ref q107, .ref q114, .ref q122])) = f131 at Y S e132
  refine lv_aload_n X.1 X.2.1 d_So_init_49 rfl (lv_at hl 0 rfl) ?_
  refine q_get X.1 X.2.1 X.2.2.1 i_So X.2.2.2.1 X.2.2.2.2 Y m127 e132 rfl 10 (by decide) (X.2.2.1 _ lk_So_32) (fun _ h9 => h9) rfl d_So_init_50 ?_
  refine lv_iconst (v := iI 0) X.1 X.2.1 d_So_init_53 (by decide) ?_
  refine lv_bipush (v := iI 10) X.1 X.2.1 d_So_init_54 (by decide) ?_
  refine t_bast X Y S k122 (by omega) (by omega) (by omega) (nF_of S k122 (by decide)) d_So_init_56 (fun f133 H locs Y S w133 => ?_)
  have e134 : f133 h = .inr (9, [.ref a1, .int (iI 0), .int (iI ((-1))), .ref ((T.1 0)), .ref ((T.1 0)), .int (iI 0), .int (iI 0), .long 0, .ref q107, .ref q114, .ref q122]) := (w133 _ (kr_ne k122 r128 (by decide))).trans e132
  have hle : tLe κ122 (va_up κ122 h (19, 0)) := tLe_raw r128
  have S := (tS_kind (k := (19, 0)) S m127 r128 r_h (fun h9 => h9.2.2 (List.mem_singleton.mpr rfl)) (by rw [e134]; exact ⟨_, rfl, okO_of ⟨⟨_, rfl, tLe_k hle k123⟩, ⟨_, rfl, (show (0 : Int) ≤ 0 by omega), (show 0 ≤ (1 : Int) by omega)⟩, ⟨_, rfl, (show ((-1) : Int) ≤ (-1) by omega), (show (-1) ≤ (3 : Int) by omega)⟩, ⟨_, 0, rfl, tLe_key hle tKey_no⟩, ⟨_, 0, rfl, tLe_key hle tKey_no⟩, ⟨_, rfl, (show ((-2147483648) : Int) ≤ 0 by omega), (show 0 ≤ (2147483647 : Int) by omega)⟩, ⟨_, rfl, (show ((-2147483648) : Int) ≤ 0 by omega), (show 0 ≤ (2147483647 : Int) by omega)⟩, ⟨_, rfl⟩, ⟨_, rfl, tLe_k hle k124⟩, ⟨_, rfl, tLe_k hle k125⟩, ⟨_, rfl, tLe_k hle k122⟩, trivial⟩⟩)).1
  exact c_retv hQQ X Y hr hlk ⟨_, S, va_up_self _ _ _⟩ d_So_init_57
set_option maxHeartbeats 4000000 in
set_option maxRecDepth 100000 in
theorem c_Ga_init (l : Launch) (D : va_G) (E : cE) (T : cT) (κ : tK) (L : List Nat) (f : pF) (sz : Nat) (h : Nat) (m_h : h ∈ L) (r_h : (κ h).1 = 0) (e_h : f h = .inr (5, [.null, .null, .null, .null, .int (iI 0)])) (a1 : Nat) (k1 : κ a1 = (21, 0)) (hw : tW E T κ L f) : Met l y_Ga_init (k_Ga_init :: lw_tg) (kRm 2 81 4 8004) (va_Pc [.ref h, .ref a1] (kPre D E T L f sz)) (va_Qv (aPv E T [13, 15] [h] κ L f (fun (k : tK) (g : pF) => k h = (15, 0))) (cPost D E (pA L sz)) (pA L sz)) 4 8004 (pA L sz) := by
  refine k_enter (own := R_Ga) (by decide) rfl (Nat.le_of_ble_eq_true rfl) (fun p e s m below meth c ls AV QQ H locs hQQ X Y hA hin hr hlk hml hl KS KR => ?_)
  have hl : lv_has ls 2 [(0, .ref h), (1, .ref a1)] := hl
  have S : tS E T (tFr κ L [13, 15] [h]) κ L f κ L f := tS_rf hw
  have hF0 : ∀ b, tFr κ L [13, 15] [h] b → b ∈ L := fun b h9 => h9.1
  refine lv_aload_n X.1 X.2.1 d_Ga_init_0 rfl (lv_at hl 0 rfl) ?_
  refine W.objInit X.1 X.2.1 X.2.2.2.1 (X.2.2.1 _ ol_Ga) (X.2.2.1 _ o_inst) (X.2.2.1 _ o_code) rfl (by rw [hml]; exact hl.1) rfl d_Ga_init_1 (Nat.le_of_ble_eq_true rfl) (Nat.le_of_ble_eq_true rfl) ?_
  refine W.eq (g2 := F0 m 4 ls []) rfl ?_
  refine lv_aload_n X.1 X.2.1 d_Ga_init_4 rfl (lv_at hl 0 rfl) ?_
  refine t_new (ci := 3) X Y S hA hF0 i_By t_By t_By_ok ck_Ga_9 mk_By ini_By rfl (fs := [.null, .int (iI 0)]) (fun j hj => match j, hj with | 0, _ => rfl | 1, _ => rfl | n9 + 2, h9 => absurd (show n9 + 2 < 2 from h9) (by omega)) (Nat.le_of_ble_eq_true rfl) (Nat.le_of_ble_eq_true rfl) d_Ga_init_5 (fun q101 L101 f101 H Y S s101 nl101 m101 r101 e101 nz101 => ?_)
  have k102 : κ a1 = (21, 0) := tLe_k s101.2.2.1 k1
  have e103 : f101 h = .inr (5, [.null, .null, .null, .null, .int (iI 0)]) := (s101.2.2.2 _ ⟨m_h, by rw [r_h]; decide, by simp⟩).1.trans e_h
  have m104 : h ∈ L101 := s101.2.1 _ m_h
  have r105 : (κ h).1 = 0 := by rw [(s101.2.2.2 _ ⟨m_h, by rw [r_h]; decide, by simp⟩).2]; exact r_h
  refine lv_dup X.1 X.2.1 d_Ga_init_8 rfl ?_
  refine lv_sipush (v := iI 4000) X.1 X.2.1 d_Ga_init_9 (by decide) ?_
  refine t_mk (x_runI (As := [.int (iI 4000)]) (rest := [.ref q101, .ref h]) (n := 1) X hml hl.1 (c_By_init l D E T κ L101 f101 H.size q101 m101 r101 e101 4000 (by omega) (by omega) S.1 4000 4000 (by omega) (by omega) (by decide)) (ok_k X Y hA KS KR) kl_Ga_By_init ks_By_init ki_By_init ini_By rfl ⟨rfl, rfl⟩ hd_By_init.2 ⟨Nat.le_of_ble_eq_true rfl, Nat.le_of_ble_eq_true rfl⟩ rfl (Nat.le_of_ble_eq_true rfl) d_Ga_init_12 ⟨Nat.le_of_ble_eq_true rfl, Nat.le_of_ble_eq_true rfl⟩) X Y hA S (by decide) nl101 (fun κ106 L106 f106 H locs Y S s106 p106 => ?_)
  have k106 := p106
  have k107 : κ106 a1 = (21, 0) := tLe_k s106.2.2.1 k102
  have e108 : f106 h = .inr (5, [.null, .null, .null, .null, .int (iI 0)]) := (s106.2.2.2 _ ⟨m104, by rw [r105]; decide, by simp only [List.mem_singleton]; exact (nz101 _ m_h)⟩).1.trans e103
  have m109 : h ∈ L106 := s106.2.1 _ m104
  have r110 : (κ106 h).1 = 0 := by rw [(s106.2.2.2 _ ⟨m104, by rw [r105]; decide, by simp only [List.mem_singleton]; exact (nz101 _ m_h)⟩).2]; exact r105
  refine q_putF X.1 X.2.1 X.2.2.1 i_Ga t_Ga t_Ga_ok n_Ga X.2.2.2.1 X.2.2.2.2 Y m109 e108 rfl 1 (by decide) (X.2.2.1 _ lk_Ga_14) (fun _ h9 => h9) rfl hin rfl (t_Ga_ok 1 (by decide)) rfl rfl (Nat.le_of_ble_eq_true rfl) d_Ga_init_15 (fun H locs Y => ?_)
  have Y : pH D cCl (pA L sz) s.heap L106 (va_up f106 h (.inr (5, [.null, .ref q101, .null, .null, .int (iI 0)]))) H locs := Y
  have S := tS_up (x := .inr (5, [.null, .ref q101, .null, .null, .int (iI 0)])) S (fun h9 => h9.2.2 (List.mem_singleton.mpr rfl)) (fun h9 => absurd r110 h9)
  have e112 : (va_up f106 h (.inr (5, [.null, .ref q101, .null, .null, .int (iI 0)]))) h = .inr (5, [.null, .ref q101, .null, .null, .int (iI 0)]) := q_up
  generalize va_up f106 h (.inr (5, [.null, .ref q101, .null, .null, .int (iI 0)])) = f111 at Y S e112
  refine lv_aload_n X.1 X.2.1 d_Ga_init_18 rfl (lv_at hl 0 rfl) ?_
  refine t_new (ci := 3) X Y S hA hF0 i_By t_By t_By_ok ck_Ga_9 mk_By ini_By rfl (fs := [.null, .int (iI 0)]) (fun j hj => match j, hj with | 0, _ => rfl | 1, _ => rfl | n9 + 2, h9 => absurd (show n9 + 2 < 2 from h9) (by omega)) (Nat.le_of_ble_eq_true rfl) (Nat.le_of_ble_eq_true rfl) d_Ga_init_19 (fun q113 L113 f113 H Y S s113 nl113 m113 r113 e113 nz113 => ?_)
  have k114 : κ106 a1 = (21, 0) := tLe_k s113.2.2.1 k107
  have k115 : κ106 q101 = (13, 4000) := tLe_k s113.2.2.1 k106
  have e116 : f113 h = .inr (5, [.null, .ref q101, .null, .null, .int (iI 0)]) := (s113.2.2.2 _ ⟨m109, by rw [r110]; decide, by simp⟩).1.trans e112
  have m117 : h ∈ L113 := s113.2.1 _ m109
  have r118 : (κ106 h).1 = 0 := by rw [(s113.2.2.2 _ ⟨m109, by rw [r110]; decide, by simp⟩).2]; exact r110
  refine lv_dup X.1 X.2.1 d_Ga_init_22 rfl ?_
  refine lv_sipush (v := iI 4000) X.1 X.2.1 d_Ga_init_23 (by decide) ?_
  refine t_mk (x_runI (As := [.int (iI 4000)]) (rest := [.ref q113, .ref h]) (n := 1) X hml hl.1 (c_By_init l D E T κ106 L113 f113 H.size q113 m113 r113 e113 4000 (by omega) (by omega) S.1 4000 4000 (by omega) (by omega) (by decide)) (ok_k X Y hA KS KR) kl_Ga_By_init ks_By_init ki_By_init ini_By rfl ⟨rfl, rfl⟩ hd_By_init.2 ⟨Nat.le_of_ble_eq_true rfl, Nat.le_of_ble_eq_true rfl⟩ rfl (Nat.le_of_ble_eq_true rfl) d_Ga_init_26 ⟨Nat.le_of_ble_eq_true rfl, Nat.le_of_ble_eq_true rfl⟩) X Y hA S (by decide) nl113 (fun κ119 L119 f119 H locs Y S s119 p119 => ?_)
  have k119 := p119
  have k120 : κ119 a1 = (21, 0) := tLe_k s119.2.2.1 k114
  have k121 : κ119 q101 = (13, 4000) := tLe_k s119.2.2.1 k115
  have e122 : f119 h = .inr (5, [.null, .ref q101, .null, .null, .int (iI 0)]) := (s119.2.2.2 _ ⟨m117, by rw [r118]; decide, by simp only [List.mem_singleton]; exact (nz113 _ m109)⟩).1.trans e116
  have m123 : h ∈ L119 := s119.2.1 _ m117
  have r124 : (κ119 h).1 = 0 := by rw [(s119.2.2.2 _ ⟨m117, by rw [r118]; decide, by simp only [List.mem_singleton]; exact (nz113 _ m109)⟩).2]; exact r118
  refine q_putF X.1 X.2.1 X.2.2.1 i_Ga t_Ga t_Ga_ok n_Ga X.2.2.2.1 X.2.2.2.2 Y m123 e122 rfl 2 (by decide) (X.2.2.1 _ lk_Ga_20) (fun _ h9 => h9) rfl hin rfl (t_Ga_ok 2 (by decide)) rfl rfl (Nat.le_of_ble_eq_true rfl) d_Ga_init_29 (fun H locs Y => ?_)
  have Y : pH D cCl (pA L sz) s.heap L119 (va_up f119 h (.inr (5, [.null, .ref q101, .ref q113, .null, .int (iI 0)]))) H locs := Y
  have S := tS_up (x := .inr (5, [.null, .ref q101, .ref q113, .null, .int (iI 0)])) S (fun h9 => h9.2.2 (List.mem_singleton.mpr rfl)) (fun h9 => absurd r124 h9)
  have e126 : (va_up f119 h (.inr (5, [.null, .ref q101, .ref q113, .null, .int (iI 0)]))) h = .inr (5, [.null, .ref q101, .ref q113, .null, .int (iI 0)]) := q_up
  generalize va_up f119 h (.inr (5, [.null, .ref q101, .ref q113, .null, .int (iI 0)])) = f125 at Y S e126
  refine lv_aload_n X.1 X.2.1 d_Ga_init_32 rfl (lv_at hl 0 rfl) ?_
  refine k_getsN X Y KS KR (by decide) d_Ga_init_33 ?_
  refine q_put X.1 X.2.1 X.2.2.1 i_Ga t_Ga t_Ga_ok n_Ga X.2.2.2.1 X.2.2.2.2 Y m123 e126 rfl 3 (by decide) (X.2.2.1 _ lk_Ga_27) (fun _ h9 => h9) rfl (t_Ga_ok 3 (by decide)) rfl rfl (Nat.le_of_ble_eq_true rfl) d_Ga_init_36 (fun H locs Y => ?_)
  have Y : pH D cCl (pA L sz) s.heap L119 (va_up f125 h (.inr (5, [.null, .ref q101, .ref q113, .ref ((T.1 0)), .int (iI 0)]))) H locs := Y
  have S := tS_up (x := .inr (5, [.null, .ref q101, .ref q113, .ref ((T.1 0)), .int (iI 0)])) S (fun h9 => h9.2.2 (List.mem_singleton.mpr rfl)) (fun h9 => absurd r124 h9)
  have e128 : (va_up f125 h (.inr (5, [.null, .ref q101, .ref q113, .ref ((T.1 0)), .int (iI 0)]))) h = .inr (5, [.null, .ref q101, .ref q113, .ref ((T.1 0)), .int (iI 0)]) := q_up
  generalize va_up f125 h (.inr (5, [.null, .ref q101, .ref q113, .ref ((T.1 0)), .int (iI 0)])) = f127 at Y S e128
  refine lv_aload_n X.1 X.2.1 d_Ga_init_39 rfl (lv_at hl 0 rfl) ?_
  refine lv_bipush (v := iI 32) X.1 X.2.1 d_Ga_init_40 (by decide) ?_
  refine q_put X.1 X.2.1 X.2.2.1 i_Ga t_Ga t_Ga_ok n_Ga X.2.2.2.1 X.2.2.2.2 Y m123 e128 rfl 4 (by decide) (X.2.2.1 _ lk_Ga_30) (fun _ h9 => h9) rfl (t_Ga_ok 4 (by decide)) rfl rfl (Nat.le_of_ble_eq_true rfl) d_Ga_init_42 (fun H locs Y => ?_)
  have Y : pH D cCl (pA L sz) s.heap L119 (va_up f127 h (.inr (5, [.null, .ref q101, .ref q113, .ref ((T.1 0)), .int (iI 32)]))) H locs := Y
  have S := tS_up (x := .inr (5, [.null, .ref q101, .ref q113, .ref ((T.1 0)), .int (iI 32)])) S (fun h9 => h9.2.2 (List.mem_singleton.mpr rfl)) (fun h9 => absurd r124 h9)
  have e130 : (va_up f127 h (.inr (5, [.null, .ref q101, .ref q113, .ref ((T.1 0)), .int (iI 32)]))) h = .inr (5, [.null, .ref q101, .ref q113, .ref ((T.1 0)), .int (iI 32)]) := q_up
  generalize va_up f127 h (.inr (5, [.null, .ref q101, .ref q113, .ref ((T.1 0)), .int (iI 32)])) = f129 at Y S e130
  refine lv_aload_n X.1 X.2.1 d_Ga_init_45 rfl (lv_at hl 0 rfl) ?_
  refine lv_aload_n X.1 X.2.1 d_Ga_init_46 rfl (lv_at hl 1 rfl) ?_
  refine q_putF X.1 X.2.1 X.2.2.1 i_Ga t_Ga t_Ga_ok n_Ga X.2.2.2.1 X.2.2.2.2 Y m123 e130 rfl 0 (by decide) (X.2.2.1 _ lk_Ga_34) (fun _ h9 => h9) rfl hin rfl (t_Ga_ok 0 (by decide)) rfl rfl (Nat.le_of_ble_eq_true rfl) d_Ga_init_47 (fun H locs Y => ?_)
  have Y : pH D cCl (pA L sz) s.heap L119 (va_up f129 h (.inr (5, [.ref a1, .ref q101, .ref q113, .ref ((T.1 0)), .int (iI 32)]))) H locs := Y
  have S := tS_up (x := .inr (5, [.ref a1, .ref q101, .ref q113, .ref ((T.1 0)), .int (iI 32)])) S (fun h9 => h9.2.2 (List.mem_singleton.mpr rfl)) (fun h9 => absurd r124 h9)
  have e132 : (va_up f129 h (.inr (5, [.ref a1, .ref q101, .ref q113, .ref ((T.1 0)), .int (iI 32)]))) h = .inr (5, [.ref a1, .ref q101, .ref q113, .ref ((T.1 0)), .int (iI 32)]) := q_up
  generalize va_up f129 h (.inr (5, [.ref a1, .ref q101, .ref q113, .ref ((T.1 0)), .int (iI 32)])) = f131 at Y S e132
  have hle : tLe κ119 (va_up κ119 h (15, 0)) := tLe_raw r124
  have S := (tS_kind (k := (15, 0)) S m123 r124 r_h (fun h9 => h9.2.2 (List.mem_singleton.mpr rfl)) (by rw [e132]; exact ⟨_, rfl, okO_of ⟨⟨_, rfl, tLe_k hle k120⟩, ⟨_, rfl, tLe_k hle k121⟩, ⟨_, rfl, tLe_k hle k119⟩, ⟨_, 0, rfl, tLe_key hle tKey_no⟩, ⟨_, rfl, (show ((-2147483648) : Int) ≤ 32 by omega), (show 32 ≤ (2147483647 : Int) by omega)⟩, trivial⟩⟩)).1
  exact c_retv hQQ X Y hr hlk ⟨_, S, va_up_self _ _ _⟩ d_Ga_init_50
set_option maxHeartbeats 4000000 in
set_option maxRecDepth 100000 in
theorem c_Ce_init (l : Launch) (D : va_G) (E : cE) (T : cT) (κ : tK) (L : List Nat) (f : pF) (sz : Nat) (h : Nat) (m_h : h ∈ L) (r_h : (κ h).1 = 0) (e_h : f h = .inr (4, [.null, .null, .null, .null, .null, .null, .int (iI 0), .int (iI 0), .int (iI 0), .int (iI 0), .null, .null, .int (iI 0), .int (iI 0), .int (iI 0), .int (iI 0)])) (a1 : Nat) (k1 : κ a1 = (21, 0)) (a2 : Nat) (k2 : κ a2 = (15, 0)) (a3 : Nat) (k3 : κ a3 = (5, 12)) (a4 : Nat) (k4 : κ a4 = (13, 4000)) (a5 : Nat) (k5 : κ a5 = (13, 12288)) (hw : tW E T κ L f) : Met l y_Ce_init (k_Ce_init :: lw_tg) (kRm 2 80 5 1381) (va_Pc [.ref h, .ref a1, .ref a2, .ref a3, .ref a4, .ref a5] (kPre D E T L f sz)) (va_Qv (aPv E T [14, 18] [h] κ L f (fun (k : tK) (g : pF) => k h = (14, 0) ∧ gF g h 3 = .ref a4)) (cPost D E (pA L sz)) (pA L sz)) 5 1381 (pA L sz) := by
  refine k_enter (own := R_Ce) (by decide) rfl (Nat.le_of_ble_eq_true rfl) (fun p e s m below meth c ls AV QQ H locs hQQ X Y hA hin hr hlk hml hl KS KR => ?_)
  have hl : lv_has ls 6 [(0, .ref h), (1, .ref a1), (2, .ref a2), (3, .ref a3), (4, .ref a4), (5, .ref a5)] := hl
  have S : tS E T (tFr κ L [14, 18] [h]) κ L f κ L f := tS_rf hw
  have hF0 : ∀ b, tFr κ L [14, 18] [h] b → b ∈ L := fun b h9 => h9.1
  refine lv_aload_n X.1 X.2.1 d_Ce_init_0 rfl (lv_at hl 0 rfl) ?_
  refine W.objInit X.1 X.2.1 X.2.2.2.1 (X.2.2.1 _ ol_Ce) (X.2.2.1 _ o_inst) (X.2.2.1 _ o_code) rfl (by rw [hml]; exact hl.1) rfl d_Ce_init_1 (Nat.le_of_ble_eq_true rfl) (Nat.le_of_ble_eq_true rfl) ?_
  refine W.eq (g2 := F0 m 4 ls []) rfl ?_
  refine lv_aload_n X.1 X.2.1 d_Ce_init_4 rfl (lv_at hl 0 rfl) ?_
  refine t_new (ci := 8) X Y S hA hF0 i_Se t_Se t_Se_ok ck_Ce_9 mk_Se ini_Se rfl (fs := [.null, .null, .null, .null, .int (iI 0)]) (fun j hj => match j, hj with | 0, _ => rfl | 1, _ => rfl | 2, _ => rfl | 3, _ => rfl | 4, _ => rfl | n9 + 5, h9 => absurd (show n9 + 5 < 5 from h9) (by omega)) (Nat.le_of_ble_eq_true rfl) (Nat.le_of_ble_eq_true rfl) d_Ce_init_5 (fun q101 L101 f101 H Y S s101 nl101 m101 r101 e101 nz101 => ?_)
  have k102 : κ a1 = (21, 0) := tLe_k s101.2.2.1 k1
  have k103 : κ a2 = (15, 0) := tLe_k s101.2.2.1 k2
  have k104 : κ a3 = (5, 12) := tLe_k s101.2.2.1 k3
  have k105 : κ a4 = (13, 4000) := tLe_k s101.2.2.1 k4
  have k106 : κ a5 = (13, 12288) := tLe_k s101.2.2.1 k5
  have e107 : f101 h = .inr (4, [.null, .null, .null, .null, .null, .null, .int (iI 0), .int (iI 0), .int (iI 0), .int (iI 0), .null, .null, .int (iI 0), .int (iI 0), .int (iI 0), .int (iI 0)]) := (s101.2.2.2 _ ⟨m_h, by rw [r_h]; decide, by simp⟩).1.trans e_h
  have m108 : h ∈ L101 := s101.2.1 _ m_h
  have r109 : (κ h).1 = 0 := by rw [(s101.2.2.2 _ ⟨m_h, by rw [r_h]; decide, by simp⟩).2]; exact r_h
  refine lv_dup X.1 X.2.1 d_Ce_init_8 rfl ?_
  refine t_mk (x_runIN (As := []) (rest := [.ref q101, .ref h]) (n := 0) X KR hml hl.1 (c_Se_init l D E T κ L101 f101 H.size q101 m101 r101 e101 S.1) (ok_k X Y hA KS KR) (by decide) ks_Se_init ki_Se_init ini_Se rfl ⟨rfl, rfl⟩ hd_Se_init.2 ⟨Nat.le_of_ble_eq_true rfl, Nat.le_of_ble_eq_true rfl⟩ rfl (Nat.le_of_ble_eq_true rfl) d_Ce_init_9 ⟨Nat.le_of_ble_eq_true rfl, Nat.le_of_ble_eq_true rfl⟩) X Y hA S (by decide) nl101 (fun κ110 L110 f110 H locs Y S s110 p110 => ?_)
  have k110 := p110
  have k111 : κ110 a1 = (21, 0) := tLe_k s110.2.2.1 k102
  have k112 : κ110 a2 = (15, 0) := tLe_k s110.2.2.1 k103
  have k113 : κ110 a3 = (5, 12) := tLe_k s110.2.2.1 k104
  have k114 : κ110 a4 = (13, 4000) := tLe_k s110.2.2.1 k105
  have k115 : κ110 a5 = (13, 12288) := tLe_k s110.2.2.1 k106
  have e116 : f110 h = .inr (4, [.null, .null, .null, .null, .null, .null, .int (iI 0), .int (iI 0), .int (iI 0), .int (iI 0), .null, .null, .int (iI 0), .int (iI 0), .int (iI 0), .int (iI 0)]) := (s110.2.2.2 _ ⟨m108, by rw [r109]; decide, by simp only [List.mem_singleton]; exact (nz101 _ m_h)⟩).1.trans e107
  have m117 : h ∈ L110 := s110.2.1 _ m108
  have r118 : (κ110 h).1 = 0 := by rw [(s110.2.2.2 _ ⟨m108, by rw [r109]; decide, by simp only [List.mem_singleton]; exact (nz101 _ m_h)⟩).2]; exact r109
  refine q_putF X.1 X.2.1 X.2.2.1 i_Ce t_Ce t_Ce_ok n_Ce X.2.2.2.1 X.2.2.2.2 Y m117 e116 rfl 5 (by decide) (X.2.2.1 _ lk_Ce_12) (fun _ h9 => h9) rfl hin rfl (t_Ce_ok 5 (by decide)) rfl rfl (Nat.le_of_ble_eq_true rfl) d_Ce_init_12 (fun H locs Y => ?_)
  have Y : pH D cCl (pA L sz) s.heap L110 (va_up f110 h (.inr (4, [.null, .null, .null, .null, .null, .ref q101, .int (iI 0), .int (iI 0), .int (iI 0), .int (iI 0), .null, .null, .int (iI 0), .int (iI 0), .int (iI 0), .int (iI 0)]))) H locs := Y
  have S := tS_up (x := .inr (4, [.null, .null, .null, .null, .null, .ref q101, .int (iI 0), .int (iI 0), .int (iI 0), .int (iI 0), .null, .null, .int (iI 0), .int (iI 0), .int (iI 0), .int (iI 0)])) S (fun h9 => h9.2.2 (List.mem_singleton.mpr rfl)) (fun h9 => absurd r118 h9)
  have e120 : (va_up f110 h (.inr (4, [.null, .null, .null, .null, .null, .ref q101, .int (iI 0), .int (iI 0), .int (iI 0), .int (iI 0), .null, .null, .int (iI 0), .int (iI 0), .int (iI 0), .int (iI 0)]))) h = .inr (4, [.null, .null, .null, .null, .null, .ref q101, .int (iI 0), .int (iI 0), .int (iI 0), .int (iI 0), .null, .null, .int (iI 0), .int (iI 0), .int (iI 0), .int (iI 0)]) := q_up
  generalize va_up f110 h (.inr (4, [.null, .null, .null, .null, .null, .ref q101, .int (iI 0), .int (iI 0), .int (iI 0), .int (iI 0), .null, .null, .int (iI 0), .int (iI 0), .int (iI 0), .int (iI 0)])) = f119 at Y S e120
  refine lv_aload_n X.1 X.2.1 d_Ce_init_15 rfl (lv_at hl 0 rfl) ?_
  refine lv_aload_n X.1 X.2.1 d_Ce_init_16 rfl (lv_at hl 1 rfl) ?_
  refine q_putF X.1 X.2.1 X.2.2.1 i_Ce t_Ce t_Ce_ok n_Ce X.2.2.2.1 X.2.2.2.2 Y m117 e120 rfl 0 (by decide) (X.2.2.1 _ lk_Ce_18) (fun _ h9 => h9) rfl hin rfl (t_Ce_ok 0 (by decide)) rfl rfl (Nat.le_of_ble_eq_true rfl) d_Ce_init_17 (fun H locs Y => ?_)
  have Y : pH D cCl (pA L sz) s.heap L110 (va_up f119 h (.inr (4, [.ref a1, .null, .null, .null, .null, .ref q101, .int (iI 0), .int (iI 0), .int (iI 0), .int (iI 0), .null, .null, .int (iI 0), .int (iI 0), .int (iI 0), .int (iI 0)]))) H locs := Y
  have S := tS_up (x := .inr (4, [.ref a1, .null, .null, .null, .null, .ref q101, .int (iI 0), .int (iI 0), .int (iI 0), .int (iI 0), .null, .null, .int (iI 0), .int (iI 0), .int (iI 0), .int (iI 0)])) S (fun h9 => h9.2.2 (List.mem_singleton.mpr rfl)) (fun h9 => absurd r118 h9)
  have e122 : (va_up f119 h (.inr (4, [.ref a1, .null, .null, .null, .null, .ref q101, .int (iI 0), .int (iI 0), .int (iI 0), .int (iI 0), .null, .null, .int (iI 0), .int (iI 0), .int (iI 0), .int (iI 0)]))) h = .inr (4, [.ref a1, .null, .null, .null, .null, .ref q101, .int (iI 0), .int (iI 0), .int (iI 0), .int (iI 0), .null, .null, .int (iI 0), .int (iI 0), .int (iI 0), .int (iI 0)]) := q_up
  generalize va_up f119 h (.inr (4, [.ref a1, .null, .null, .null, .null, .ref q101, .int (iI 0), .int (iI 0), .int (iI 0), .int (iI 0), .null, .null, .int (iI 0), .int (iI 0), .int (iI 0), .int (iI 0)])) = f121 at Y S e122
  refine lv_aload_n X.1 X.2.1 d_Ce_init_20 rfl (lv_at hl 0 rfl) ?_
  refine lv_aload_n X.1 X.2.1 d_Ce_init_21 rfl (lv_at hl 2 rfl) ?_
  refine q_putF X.1 X.2.1 X.2.2.1 i_Ce t_Ce t_Ce_ok n_Ce X.2.2.2.1 X.2.2.2.2 Y m117 e122 rfl 1 (by decide) (X.2.2.1 _ lk_Ce_22) (fun _ h9 => h9) rfl hin rfl (t_Ce_ok 1 (by decide)) rfl rfl (Nat.le_of_ble_eq_true rfl) d_Ce_init_22 (fun H locs Y => ?_)
  have Y : pH D cCl (pA L sz) s.heap L110 (va_up f121 h (.inr (4, [.ref a1, .ref a2, .null, .null, .null, .ref q101, .int (iI 0), .int (iI 0), .int (iI 0), .int (iI 0), .null, .null, .int (iI 0), .int (iI 0), .int (iI 0), .int (iI 0)]))) H locs := Y
  have S := tS_up (x := .inr (4, [.ref a1, .ref a2, .null, .null, .null, .ref q101, .int (iI 0), .int (iI 0), .int (iI 0), .int (iI 0), .null, .null, .int (iI 0), .int (iI 0), .int (iI 0), .int (iI 0)])) S (fun h9 => h9.2.2 (List.mem_singleton.mpr rfl)) (fun h9 => absurd r118 h9)
  have e124 : (va_up f121 h (.inr (4, [.ref a1, .ref a2, .null, .null, .null, .ref q101, .int (iI 0), .int (iI 0), .int (iI 0), .int (iI 0), .null, .null, .int (iI 0), .int (iI 0), .int (iI 0), .int (iI 0)]))) h = .inr (4, [.ref a1, .ref a2, .null, .null, .null, .ref q101, .int (iI 0), .int (iI 0), .int (iI 0), .int (iI 0), .null, .null, .int (iI 0), .int (iI 0), .int (iI 0), .int (iI 0)]) := q_up
  generalize va_up f121 h (.inr (4, [.ref a1, .ref a2, .null, .null, .null, .ref q101, .int (iI 0), .int (iI 0), .int (iI 0), .int (iI 0), .null, .null, .int (iI 0), .int (iI 0), .int (iI 0), .int (iI 0)])) = f123 at Y S e124
  refine lv_aload_n X.1 X.2.1 d_Ce_init_25 rfl (lv_at hl 0 rfl) ?_
  refine lv_aload_n X.1 X.2.1 d_Ce_init_26 rfl (lv_at hl 3 rfl) ?_
  refine q_putF X.1 X.2.1 X.2.2.1 i_Ce t_Ce t_Ce_ok n_Ce X.2.2.2.1 X.2.2.2.2 Y m117 e124 rfl 2 (by decide) (X.2.2.1 _ lk_Ce_26) (fun _ h9 => h9) rfl hin rfl (t_Ce_ok 2 (by decide)) rfl rfl (Nat.le_of_ble_eq_true rfl) d_Ce_init_27 (fun H locs Y => ?_)
  have Y : pH D cCl (pA L sz) s.heap L110 (va_up f123 h (.inr (4, [.ref a1, .ref a2, .ref a3, .null, .null, .ref q101, .int (iI 0), .int (iI 0), .int (iI 0), .int (iI 0), .null, .null, .int (iI 0), .int (iI 0), .int (iI 0), .int (iI 0)]))) H locs := Y
  have S := tS_up (x := .inr (4, [.ref a1, .ref a2, .ref a3, .null, .null, .ref q101, .int (iI 0), .int (iI 0), .int (iI 0), .int (iI 0), .null, .null, .int (iI 0), .int (iI 0), .int (iI 0), .int (iI 0)])) S (fun h9 => h9.2.2 (List.mem_singleton.mpr rfl)) (fun h9 => absurd r118 h9)
  have e126 : (va_up f123 h (.inr (4, [.ref a1, .ref a2, .ref a3, .null, .null, .ref q101, .int (iI 0), .int (iI 0), .int (iI 0), .int (iI 0), .null, .null, .int (iI 0), .int (iI 0), .int (iI 0), .int (iI 0)]))) h = .inr (4, [.ref a1, .ref a2, .ref a3, .null, .null, .ref q101, .int (iI 0), .int (iI 0), .int (iI 0), .int (iI 0), .null, .null, .int (iI 0), .int (iI 0), .int (iI 0), .int (iI 0)]) := q_up
  generalize va_up f123 h (.inr (4, [.ref a1, .ref a2, .ref a3, .null, .null, .ref q101, .int (iI 0), .int (iI 0), .int (iI 0), .int (iI 0), .null, .null, .int (iI 0), .int (iI 0), .int (iI 0), .int (iI 0)])) = f125 at Y S e126
  refine lv_aload_n X.1 X.2.1 d_Ce_init_30 rfl (lv_at hl 0 rfl) ?_
  refine lv_aload X.1 X.2.1 d_Ce_init_31 (lv_at hl 4 rfl) ?_
  refine q_putF X.1 X.2.1 X.2.2.1 i_Ce t_Ce t_Ce_ok n_Ce X.2.2.2.1 X.2.2.2.2 Y m117 e126 rfl 3 (by decide) (X.2.2.1 _ lk_Ce_30) (fun _ h9 => h9) rfl hin rfl (t_Ce_ok 3 (by decide)) rfl rfl (Nat.le_of_ble_eq_true rfl) d_Ce_init_33 (fun H locs Y => ?_)
  have Y : pH D cCl (pA L sz) s.heap L110 (va_up f125 h (.inr (4, [.ref a1, .ref a2, .ref a3, .ref a4, .null, .ref q101, .int (iI 0), .int (iI 0), .int (iI 0), .int (iI 0), .null, .null, .int (iI 0), .int (iI 0), .int (iI 0), .int (iI 0)]))) H locs := Y
  have S := tS_up (x := .inr (4, [.ref a1, .ref a2, .ref a3, .ref a4, .null, .ref q101, .int (iI 0), .int (iI 0), .int (iI 0), .int (iI 0), .null, .null, .int (iI 0), .int (iI 0), .int (iI 0), .int (iI 0)])) S (fun h9 => h9.2.2 (List.mem_singleton.mpr rfl)) (fun h9 => absurd r118 h9)
  have e128 : (va_up f125 h (.inr (4, [.ref a1, .ref a2, .ref a3, .ref a4, .null, .ref q101, .int (iI 0), .int (iI 0), .int (iI 0), .int (iI 0), .null, .null, .int (iI 0), .int (iI 0), .int (iI 0), .int (iI 0)]))) h = .inr (4, [.ref a1, .ref a2, .ref a3, .ref a4, .null, .ref q101, .int (iI 0), .int (iI 0), .int (iI 0), .int (iI 0), .null, .null, .int (iI 0), .int (iI 0), .int (iI 0), .int (iI 0)]) := q_up
  generalize va_up f125 h (.inr (4, [.ref a1, .ref a2, .ref a3, .ref a4, .null, .ref q101, .int (iI 0), .int (iI 0), .int (iI 0), .int (iI 0), .null, .null, .int (iI 0), .int (iI 0), .int (iI 0), .int (iI 0)])) = f127 at Y S e128
  refine lv_aload_n X.1 X.2.1 d_Ce_init_36 rfl (lv_at hl 0 rfl) ?_
  refine lv_aload X.1 X.2.1 d_Ce_init_37 (lv_at hl 5 rfl) ?_
  refine q_putF X.1 X.2.1 X.2.2.1 i_Ce t_Ce t_Ce_ok n_Ce X.2.2.2.1 X.2.2.2.2 Y m117 e128 rfl 4 (by decide) (X.2.2.1 _ lk_Ce_34) (fun _ h9 => h9) rfl hin rfl (t_Ce_ok 4 (by decide)) rfl rfl (Nat.le_of_ble_eq_true rfl) d_Ce_init_39 (fun H locs Y => ?_)
  have Y : pH D cCl (pA L sz) s.heap L110 (va_up f127 h (.inr (4, [.ref a1, .ref a2, .ref a3, .ref a4, .ref a5, .ref q101, .int (iI 0), .int (iI 0), .int (iI 0), .int (iI 0), .null, .null, .int (iI 0), .int (iI 0), .int (iI 0), .int (iI 0)]))) H locs := Y
  have S := tS_up (x := .inr (4, [.ref a1, .ref a2, .ref a3, .ref a4, .ref a5, .ref q101, .int (iI 0), .int (iI 0), .int (iI 0), .int (iI 0), .null, .null, .int (iI 0), .int (iI 0), .int (iI 0), .int (iI 0)])) S (fun h9 => h9.2.2 (List.mem_singleton.mpr rfl)) (fun h9 => absurd r118 h9)
  have e130 : (va_up f127 h (.inr (4, [.ref a1, .ref a2, .ref a3, .ref a4, .ref a5, .ref q101, .int (iI 0), .int (iI 0), .int (iI 0), .int (iI 0), .null, .null, .int (iI 0), .int (iI 0), .int (iI 0), .int (iI 0)]))) h = .inr (4, [.ref a1, .ref a2, .ref a3, .ref a4, .ref a5, .ref q101, .int (iI 0), .int (iI 0), .int (iI 0), .int (iI 0), .null, .null, .int (iI 0), .int (iI 0), .int (iI 0), .int (iI 0)]) := q_up
  generalize va_up f127 h (.inr (4, [.ref a1, .ref a2, .ref a3, .ref a4, .ref a5, .ref q101, .int (iI 0), .int (iI 0), .int (iI 0), .int (iI 0), .null, .null, .int (iI 0), .int (iI 0), .int (iI 0), .int (iI 0)])) = f129 at Y S e130
  refine lv_aload_n X.1 X.2.1 d_Ce_init_42 rfl (lv_at hl 0 rfl) ?_
  refine lv_aload_n X.1 X.2.1 d_Ce_init_43 rfl (lv_at hl 3 rfl) ?_
  refine lv_iconst (v := iI 0) X.1 X.2.1 d_Ce_init_44 (by decide) ?_
  refine t_aald X Y S k113 (fun h9 => h9) (t0 := 2) rfl (by omega) (by omega) (by omega) d_Ce_init_45 (fun b131 e131 k131 => ?_)
  refine q_put X.1 X.2.1 X.2.2.1 i_Ce t_Ce t_Ce_ok n_Ce X.2.2.2.1 X.2.2.2.2 Y m117 e130 rfl 10 (by decide) (X.2.2.1 _ lk_Ce_37) (fun _ h9 => h9) rfl (t_Ce_ok 10 (by decide)) rfl rfl (Nat.le_of_ble_eq_true rfl) d_Ce_init_46 (fun H locs Y => ?_)
  have Y : pH D cCl (pA L sz) s.heap L110 (va_up f129 h (.inr (4, [.ref a1, .ref a2, .ref a3, .ref a4, .ref a5, .ref q101, .int (iI 0), .int (iI 0), .int (iI 0), .int (iI 0), .ref b131, .null, .int (iI 0), .int (iI 0), .int (iI 0), .int (iI 0)]))) H locs := Y
  have S := tS_up (x := .inr (4, [.ref a1, .ref a2, .ref a3, .ref a4, .ref a5, .ref q101, .int (iI 0), .int (iI 0), .int (iI 0), .int (iI 0), .ref b131, .null, .int (iI 0), .int (iI 0), .int (iI 0), .int (iI 0)])) S (fun h9 => h9.2.2 (List.mem_singleton.mpr rfl)) (fun h9 => absurd r118 h9)
  have e133 : (va_up f129 h (.inr (4, [.ref a1, .ref a2, .ref a3, .ref a4, .ref a5, .ref q101, .int (iI 0), .int (iI 0), .int (iI 0), .int (iI 0), .ref b131, .null, .int (iI 0), .int (iI 0), .int (iI 0), .int (iI 0)]))) h = .inr (4, [.ref a1, .ref a2, .ref a3, .ref a4, .ref a5, .ref q101, .int (iI 0), .int (iI 0), .int (iI 0), .int (iI 0), .ref b131, .null, .int (iI 0), .int (iI 0), .int (iI 0), .int (iI 0)]) := q_up
  generalize va_up f129 h (.inr (4, [.ref a1, .ref a2, .ref a3, .ref a4, .ref a5, .ref q101, .int (iI 0), .int (iI 0), .int (iI 0), .int (iI 0), .ref b131, .null, .int (iI 0), .int (iI 0), .int (iI 0), .int (iI 0)])) = f132 at Y S e133
  refine lv_aload_n X.1 X.2.1 d_Ce_init_49 rfl (lv_at hl 0 rfl) ?_
  refine lv_aload_n X.1 X.2.1 d_Ce_init_50 rfl (lv_at hl 3 rfl) ?_
  refine lv_iconst (v := iI 0) X.1 X.2.1 d_Ce_init_51 (by decide) ?_
  refine t_aald X Y S k113 (fun h9 => h9) (t0 := 2) rfl (by omega) (by omega) (by omega) d_Ce_init_52 (fun b134 e134 k134 => ?_)
  refine q_put X.1 X.2.1 X.2.2.1 i_Ce t_Ce t_Ce_ok n_Ce X.2.2.2.1 X.2.2.2.2 Y m117 e133 rfl 11 (by decide) (X.2.2.1 _ lk_Ce_41) (fun _ h9 => h9) rfl (t_Ce_ok 11 (by decide)) rfl rfl (Nat.le_of_ble_eq_true rfl) d_Ce_init_53 (fun H locs Y => ?_)
  have Y : pH D cCl (pA L sz) s.heap L110 (va_up f132 h (.inr (4, [.ref a1, .ref a2, .ref a3, .ref a4, .ref a5, .ref q101, .int (iI 0), .int (iI 0), .int (iI 0), .int (iI 0), .ref b131, .ref b134, .int (iI 0), .int (iI 0), .int (iI 0), .int (iI 0)]))) H locs := Y
  have S := tS_up (x := .inr (4, [.ref a1, .ref a2, .ref a3, .ref a4, .ref a5, .ref q101, .int (iI 0), .int (iI 0), .int (iI 0), .int (iI 0), .ref b131, .ref b134, .int (iI 0), .int (iI 0), .int (iI 0), .int (iI 0)])) S (fun h9 => h9.2.2 (List.mem_singleton.mpr rfl)) (fun h9 => absurd r118 h9)
  have e136 : (va_up f132 h (.inr (4, [.ref a1, .ref a2, .ref a3, .ref a4, .ref a5, .ref q101, .int (iI 0), .int (iI 0), .int (iI 0), .int (iI 0), .ref b131, .ref b134, .int (iI 0), .int (iI 0), .int (iI 0), .int (iI 0)]))) h = .inr (4, [.ref a1, .ref a2, .ref a3, .ref a4, .ref a5, .ref q101, .int (iI 0), .int (iI 0), .int (iI 0), .int (iI 0), .ref b131, .ref b134, .int (iI 0), .int (iI 0), .int (iI 0), .int (iI 0)]) := q_up
  generalize va_up f132 h (.inr (4, [.ref a1, .ref a2, .ref a3, .ref a4, .ref a5, .ref q101, .int (iI 0), .int (iI 0), .int (iI 0), .int (iI 0), .ref b131, .ref b134, .int (iI 0), .int (iI 0), .int (iI 0), .int (iI 0)])) = f135 at Y S e136
  have hle : tLe κ110 (va_up κ110 h (14, 0)) := tLe_raw r118
  have S := (tS_kind (k := (14, 0)) S m117 r118 r_h (fun h9 => h9.2.2 (List.mem_singleton.mpr rfl)) (by rw [e136]; exact ⟨_, rfl, okO_of ⟨⟨_, rfl, tLe_k hle k111⟩, ⟨_, rfl, tLe_k hle k112⟩, ⟨_, rfl, tLe_k hle k113⟩, ⟨_, rfl, tLe_k hle k114⟩, ⟨_, rfl, tLe_k hle k115⟩, ⟨_, rfl, tLe_k hle k110⟩, ⟨_, rfl, (show (0 : Int) ≤ 0 by omega), (show 0 ≤ (1 : Int) by omega)⟩, ⟨_, rfl, (show (0 : Int) ≤ 0 by omega), (show 0 ≤ (1 : Int) by omega)⟩, ⟨_, rfl, (show ((-1) : Int) ≤ 0 by omega), (show 0 ≤ (20200 : Int) by omega)⟩, ⟨_, rfl, (show ((-2147483648) : Int) ≤ 0 by omega), (show 0 ≤ (2147483647 : Int) by omega)⟩, ⟨_, rfl, tLe_k hle k131⟩, ⟨_, rfl, tLe_k hle k134⟩, ⟨_, rfl, (show ((-2147483648) : Int) ≤ 0 by omega), (show 0 ≤ (2147483647 : Int) by omega)⟩, ⟨_, rfl, (show ((-2147483648) : Int) ≤ 0 by omega), (show 0 ≤ (2147483647 : Int) by omega)⟩, ⟨_, rfl, (show ((-2147483648) : Int) ≤ 0 by omega), (show 0 ≤ (2147483647 : Int) by omega)⟩, ⟨_, rfl, (show ((-2147483648) : Int) ≤ 0 by omega), (show 0 ≤ (2147483647 : Int) by omega)⟩, trivial⟩⟩)).1
  exact c_retv hQQ X Y hr hlk ⟨_, S, ⟨va_up_self _ _ _, (show gF f135 h 3 = .ref a4 by unfold gF; rw [e136]; rfl)⟩⟩ d_Ce_init_56
set_option maxHeartbeats 4000000 in
set_option maxRecDepth 100000 in
theorem c_H_init (l : Launch) (D : va_G) (E : cE) (T : cT) (κ : tK) (L : List Nat) (f : pF) (sz : Nat) (h : Nat) (m_h : h ∈ L) (r_h : (κ h).1 = 0) (e_h : f h = .inr (0, [.null, .null, .null, .null, .null, .null, .null, .null, .null])) (hw : tW E T κ L f) : Met l y_H_init (k_H_init :: lw_tg) (kRm 8 205 367 53429) (va_Pc [.ref h] (kPre D E T L f sz)) (va_Qv (aPv E T [1, 2, 3, 4, 10, 11, 12, 13, 14, 15, 16, 17, 18, 19, 20, 21] [h] κ L f (fun (k : tK) (g : pF) => k h = (10, 0) ∧ (∃ cn tp : Nat, gF g h 6 = .ref cn ∧ gF g cn 3 = .ref tp ∧ gF g h 1 = .ref tp))) (cPost D E (pA L sz)) (pA L sz)) 367 53429 (pA L sz) := by
  refine k_enter (own := R_H) (by decide) rfl (Nat.le_of_ble_eq_true rfl) (fun p e s m below meth c ls AV QQ H locs hQQ X Y hA hin hr hlk hml hl KS KR => ?_)
  have hl : lv_has ls 2 [(0, .ref h)] := hl
  have S : tS E T (tFr κ L [1, 2, 3, 4, 10, 11, 12, 13, 14, 15, 16, 17, 18, 19, 20, 21] [h]) κ L f κ L f := tS_rf hw
  have hF0 : ∀ b, tFr κ L [1, 2, 3, 4, 10, 11, 12, 13, 14, 15, 16, 17, 18, 19, 20, 21] [h] b → b ∈ L := fun b h9 => h9.1
  refine lv_aload_n X.1 X.2.1 d_H_init_0 rfl (lv_at hl 0 rfl) ?_
  refine W.objInit X.1 X.2.1 X.2.2.2.1 (X.2.2.1 _ ol_H) (X.2.2.1 _ o_inst) (X.2.2.1 _ o_code) rfl (by rw [hml]; exact hl.1) rfl d_H_init_1 (Nat.le_of_ble_eq_true rfl) (Nat.le_of_ble_eq_true rfl) ?_
  refine W.eq (g2 := F0 m 4 ls []) rfl ?_
  refine lv_aload_n X.1 X.2.1 d_H_init_4 rfl (lv_at hl 0 rfl) ?_
  refine t_new (ci := 11) X Y S hA hF0 i_Va t_Va t_Va_ok ck_H_9 mk_Va ini_Va rfl (fs := [.int (iI 0), .null, .null, .null, .null, .null, .int (iI 0), .null, .int (iI 0), .int (iI 0), .null, .null, .null]) (fun j hj => match j, hj with | 0, _ => rfl | 1, _ => rfl | 2, _ => rfl | 3, _ => rfl | 4, _ => rfl | 5, _ => rfl | 6, _ => rfl | 7, _ => rfl | 8, _ => rfl | 9, _ => rfl | 10, _ => rfl | 11, _ => rfl | 12, _ => rfl | n9 + 13, h9 => absurd (show n9 + 13 < 13 from h9) (by omega)) (Nat.le_of_ble_eq_true rfl) (Nat.le_of_ble_eq_true rfl) d_H_init_5 (fun q101 L101 f101 H Y S s101 nl101 m101 r101 e101 nz101 => ?_)
  have e102 : f101 h = .inr (0, [.null, .null, .null, .null, .null, .null, .null, .null, .null]) := (s101.2.2.2 _ ⟨m_h, by rw [r_h]; decide, by simp⟩).1.trans e_h
  have m103 : h ∈ L101 := s101.2.1 _ m_h
  have r104 : (κ h).1 = 0 := by rw [(s101.2.2.2 _ ⟨m_h, by rw [r_h]; decide, by simp⟩).2]; exact r_h
  refine lv_dup X.1 X.2.1 d_H_init_8 rfl ?_
  refine t_mk (x_runIN (As := []) (rest := [.ref q101, .ref h]) (n := 0) X KR hml hl.1 (c_Va_init l D E T κ L101 f101 H.size q101 m101 r101 e101 S.1) (ok_k X Y hA KS KR) (by decide) ks_Va_init ki_Va_init ini_Va rfl ⟨rfl, rfl⟩ hd_Va_init.2 ⟨Nat.le_of_ble_eq_true rfl, Nat.le_of_ble_eq_true rfl⟩ rfl (Nat.le_of_ble_eq_true rfl) d_H_init_9 ⟨Nat.le_of_ble_eq_true rfl, Nat.le_of_ble_eq_true rfl⟩) X Y hA S (by decide) nl101 (fun κ105 L105 f105 H locs Y S s105 p105 => ?_)
  have k105 := p105
  have e106 : f105 h = .inr (0, [.null, .null, .null, .null, .null, .null, .null, .null, .null]) := (s105.2.2.2 _ ⟨m103, by rw [r104]; decide, by simp only [List.mem_singleton]; exact (nz101 _ m_h)⟩).1.trans e102
  have m107 : h ∈ L105 := s105.2.1 _ m103
  have r108 : (κ105 h).1 = 0 := by rw [(s105.2.2.2 _ ⟨m103, by rw [r104]; decide, by simp only [List.mem_singleton]; exact (nz101 _ m_h)⟩).2]; exact r104
  refine q_putF X.1 X.2.1 X.2.2.1 i_H t_H t_H_ok n_H X.2.2.2.1 X.2.2.2.2 Y m107 e106 rfl 0 (by decide) (X.2.2.1 _ lk_H_12) (fun _ h9 => h9) rfl hin rfl (t_H_ok 0 (by decide)) rfl rfl (Nat.le_of_ble_eq_true rfl) d_H_init_12 (fun H locs Y => ?_)
  have Y : pH D cCl (pA L sz) s.heap L105 (va_up f105 h (.inr (0, [.ref q101, .null, .null, .null, .null, .null, .null, .null, .null]))) H locs := Y
  have S := tS_up (x := .inr (0, [.ref q101, .null, .null, .null, .null, .null, .null, .null, .null])) S (fun h9 => h9.2.2 (List.mem_singleton.mpr rfl)) (fun h9 => absurd r108 h9)
  have e110 : (va_up f105 h (.inr (0, [.ref q101, .null, .null, .null, .null, .null, .null, .null, .null]))) h = .inr (0, [.ref q101, .null, .null, .null, .null, .null, .null, .null, .null]) := q_up
  generalize va_up f105 h (.inr (0, [.ref q101, .null, .null, .null, .null, .null, .null, .null, .null])) = f109 at Y S e110
  refine lv_aload_n X.1 X.2.1 d_H_init_15 rfl (lv_at hl 0 rfl) ?_
  refine t_new (ci := 3) X Y S hA hF0 i_By t_By t_By_ok ck_H_16 mk_By ini_By rfl (fs := [.null, .int (iI 0)]) (fun j hj => match j, hj with | 0, _ => rfl | 1, _ => rfl | n9 + 2, h9 => absurd (show n9 + 2 < 2 from h9) (by omega)) (Nat.le_of_ble_eq_true rfl) (Nat.le_of_ble_eq_true rfl) d_H_init_16 (fun q111 L111 f111 H Y S s111 nl111 m111 r111 e111 nz111 => ?_)
  have k112 : κ105 q101 = (21, 0) := tLe_k s111.2.2.1 k105
  have e113 : f111 h = .inr (0, [.ref q101, .null, .null, .null, .null, .null, .null, .null, .null]) := (s111.2.2.2 _ ⟨m107, by rw [r108]; decide, by simp⟩).1.trans e110
  have m114 : h ∈ L111 := s111.2.1 _ m107
  have r115 : (κ105 h).1 = 0 := by rw [(s111.2.2.2 _ ⟨m107, by rw [r108]; decide, by simp⟩).2]; exact r108
  refine lv_dup X.1 X.2.1 d_H_init_19 rfl ?_
  refine lv_sipush (v := iI 4000) X.1 X.2.1 d_H_init_20 (by decide) ?_
  refine t_mk (x_runI (As := [.int (iI 4000)]) (rest := [.ref q111, .ref h]) (n := 1) X hml hl.1 (c_By_init l D E T κ105 L111 f111 H.size q111 m111 r111 e111 4000 (by omega) (by omega) S.1 4000 4000 (by omega) (by omega) (by decide)) (ok_k X Y hA KS KR) kl_H_By_init ks_By_init ki_By_init ini_By rfl ⟨rfl, rfl⟩ hd_By_init.2 ⟨Nat.le_of_ble_eq_true rfl, Nat.le_of_ble_eq_true rfl⟩ rfl (Nat.le_of_ble_eq_true rfl) d_H_init_23 ⟨Nat.le_of_ble_eq_true rfl, Nat.le_of_ble_eq_true rfl⟩) X Y hA S (by decide) nl111 (fun κ116 L116 f116 H locs Y S s116 p116 => ?_)
  have k116 := p116
  have k117 : κ116 q101 = (21, 0) := tLe_k s116.2.2.1 k112
  have e118 : f116 h = .inr (0, [.ref q101, .null, .null, .null, .null, .null, .null, .null, .null]) := (s116.2.2.2 _ ⟨m114, by rw [r115]; decide, by simp only [List.mem_singleton]; exact (nz111 _ m107)⟩).1.trans e113
  have m119 : h ∈ L116 := s116.2.1 _ m114
  have r120 : (κ116 h).1 = 0 := by rw [(s116.2.2.2 _ ⟨m114, by rw [r115]; decide, by simp only [List.mem_singleton]; exact (nz111 _ m107)⟩).2]; exact r115
  refine q_putF X.1 X.2.1 X.2.2.1 i_H t_H t_H_ok n_H X.2.2.2.1 X.2.2.2.2 Y m119 e118 rfl 1 (by decide) (X.2.2.1 _ lk_H_21) (fun _ h9 => h9) rfl hin rfl (t_H_ok 1 (by decide)) rfl rfl (Nat.le_of_ble_eq_true rfl) d_H_init_26 (fun H locs Y => ?_)
  have Y : pH D cCl (pA L sz) s.heap L116 (va_up f116 h (.inr (0, [.ref q101, .ref q111, .null, .null, .null, .null, .null, .null, .null]))) H locs := Y
  have S := tS_up (x := .inr (0, [.ref q101, .ref q111, .null, .null, .null, .null, .null, .null, .null])) S (fun h9 => h9.2.2 (List.mem_singleton.mpr rfl)) (fun h9 => absurd r120 h9)
  have e122 : (va_up f116 h (.inr (0, [.ref q101, .ref q111, .null, .null, .null, .null, .null, .null, .null]))) h = .inr (0, [.ref q101, .ref q111, .null, .null, .null, .null, .null, .null, .null]) := q_up
  generalize va_up f116 h (.inr (0, [.ref q101, .ref q111, .null, .null, .null, .null, .null, .null, .null])) = f121 at Y S e122
  refine lv_aload_n X.1 X.2.1 d_H_init_29 rfl (lv_at hl 0 rfl) ?_
  refine t_new (ci := 3) X Y S hA hF0 i_By t_By t_By_ok ck_H_16 mk_By ini_By rfl (fs := [.null, .int (iI 0)]) (fun j hj => match j, hj with | 0, _ => rfl | 1, _ => rfl | n9 + 2, h9 => absurd (show n9 + 2 < 2 from h9) (by omega)) (Nat.le_of_ble_eq_true rfl) (Nat.le_of_ble_eq_true rfl) d_H_init_30 (fun q123 L123 f123 H Y S s123 nl123 m123 r123 e123 nz123 => ?_)
  have k124 : κ116 q101 = (21, 0) := tLe_k s123.2.2.1 k117
  have k125 : κ116 q111 = (13, 4000) := tLe_k s123.2.2.1 k116
  have e126 : f123 h = .inr (0, [.ref q101, .ref q111, .null, .null, .null, .null, .null, .null, .null]) := (s123.2.2.2 _ ⟨m119, by rw [r120]; decide, by simp⟩).1.trans e122
  have m127 : h ∈ L123 := s123.2.1 _ m119
  have r128 : (κ116 h).1 = 0 := by rw [(s123.2.2.2 _ ⟨m119, by rw [r120]; decide, by simp⟩).2]; exact r120
  refine lv_dup X.1 X.2.1 d_H_init_33 rfl ?_
  refine lv_sipush (v := iI 12288) X.1 X.2.1 d_H_init_34 (by decide) ?_
  refine t_mk (x_runI (As := [.int (iI 12288)]) (rest := [.ref q123, .ref h]) (n := 1) X hml hl.1 (c_By_init l D E T κ116 L123 f123 H.size q123 m123 r123 e123 12288 (by omega) (by omega) S.1 12288 12288 (by omega) (by omega) (by decide)) (ok_k X Y hA KS KR) kl_H_By_init ks_By_init ki_By_init ini_By rfl ⟨rfl, rfl⟩ hd_By_init.2 ⟨Nat.le_of_ble_eq_true rfl, Nat.le_of_ble_eq_true rfl⟩ rfl (Nat.le_of_ble_eq_true rfl) d_H_init_37 ⟨Nat.le_of_ble_eq_true rfl, Nat.le_of_ble_eq_true rfl⟩) X Y hA S (by decide) nl123 (fun κ129 L129 f129 H locs Y S s129 p129 => ?_)
  have k129 := p129
  have k130 : κ129 q101 = (21, 0) := tLe_k s129.2.2.1 k124
  have k131 : κ129 q111 = (13, 4000) := tLe_k s129.2.2.1 k125
  have e132 : f129 h = .inr (0, [.ref q101, .ref q111, .null, .null, .null, .null, .null, .null, .null]) := (s129.2.2.2 _ ⟨m127, by rw [r128]; decide, by simp only [List.mem_singleton]; exact (nz123 _ m119)⟩).1.trans e126
  have m133 : h ∈ L129 := s129.2.1 _ m127
  have r134 : (κ129 h).1 = 0 := by rw [(s129.2.2.2 _ ⟨m127, by rw [r128]; decide, by simp only [List.mem_singleton]; exact (nz123 _ m119)⟩).2]; exact r128
  refine q_putF X.1 X.2.1 X.2.2.1 i_H t_H t_H_ok n_H X.2.2.2.1 X.2.2.2.2 Y m133 e132 rfl 2 (by decide) (X.2.2.1 _ lk_H_25) (fun _ h9 => h9) rfl hin rfl (t_H_ok 2 (by decide)) rfl rfl (Nat.le_of_ble_eq_true rfl) d_H_init_40 (fun H locs Y => ?_)
  have Y : pH D cCl (pA L sz) s.heap L129 (va_up f129 h (.inr (0, [.ref q101, .ref q111, .ref q123, .null, .null, .null, .null, .null, .null]))) H locs := Y
  have S := tS_up (x := .inr (0, [.ref q101, .ref q111, .ref q123, .null, .null, .null, .null, .null, .null])) S (fun h9 => h9.2.2 (List.mem_singleton.mpr rfl)) (fun h9 => absurd r134 h9)
  have e136 : (va_up f129 h (.inr (0, [.ref q101, .ref q111, .ref q123, .null, .null, .null, .null, .null, .null]))) h = .inr (0, [.ref q101, .ref q111, .ref q123, .null, .null, .null, .null, .null, .null]) := q_up
  generalize va_up f129 h (.inr (0, [.ref q101, .ref q111, .ref q123, .null, .null, .null, .null, .null, .null])) = f135 at Y S e136
  refine lv_aload_n X.1 X.2.1 d_H_init_43 rfl (lv_at hl 0 rfl) ?_
  refine t_new (ci := 3) X Y S hA hF0 i_By t_By t_By_ok ck_H_16 mk_By ini_By rfl (fs := [.null, .int (iI 0)]) (fun j hj => match j, hj with | 0, _ => rfl | 1, _ => rfl | n9 + 2, h9 => absurd (show n9 + 2 < 2 from h9) (by omega)) (Nat.le_of_ble_eq_true rfl) (Nat.le_of_ble_eq_true rfl) d_H_init_44 (fun q137 L137 f137 H Y S s137 nl137 m137 r137 e137 nz137 => ?_)
  have k138 : κ129 q101 = (21, 0) := tLe_k s137.2.2.1 k130
  have k139 : κ129 q111 = (13, 4000) := tLe_k s137.2.2.1 k131
  have k140 : κ129 q123 = (13, 12288) := tLe_k s137.2.2.1 k129
  have e141 : f137 h = .inr (0, [.ref q101, .ref q111, .ref q123, .null, .null, .null, .null, .null, .null]) := (s137.2.2.2 _ ⟨m133, by rw [r134]; decide, by simp⟩).1.trans e136
  have m142 : h ∈ L137 := s137.2.1 _ m133
  have r143 : (κ129 h).1 = 0 := by rw [(s137.2.2.2 _ ⟨m133, by rw [r134]; decide, by simp⟩).2]; exact r134
  refine lv_dup X.1 X.2.1 d_H_init_47 rfl ?_
  refine lv_bipush (v := iI 40) X.1 X.2.1 d_H_init_48 (by decide) ?_
  refine t_mk (x_runI (As := [.int (iI 40)]) (rest := [.ref q137, .ref h]) (n := 1) X hml hl.1 (c_By_init l D E T κ129 L137 f137 H.size q137 m137 r137 e137 40 (by omega) (by omega) S.1 40 40 (by omega) (by omega) (by decide)) (ok_k X Y hA KS KR) kl_H_By_init ks_By_init ki_By_init ini_By rfl ⟨rfl, rfl⟩ hd_By_init.2 ⟨Nat.le_of_ble_eq_true rfl, Nat.le_of_ble_eq_true rfl⟩ rfl (Nat.le_of_ble_eq_true rfl) d_H_init_50 ⟨Nat.le_of_ble_eq_true rfl, Nat.le_of_ble_eq_true rfl⟩) X Y hA S (by decide) nl137 (fun κ144 L144 f144 H locs Y S s144 p144 => ?_)
  have k144 := p144
  have k145 : κ144 q101 = (21, 0) := tLe_k s144.2.2.1 k138
  have k146 : κ144 q111 = (13, 4000) := tLe_k s144.2.2.1 k139
  have k147 : κ144 q123 = (13, 12288) := tLe_k s144.2.2.1 k140
  have e148 : f144 h = .inr (0, [.ref q101, .ref q111, .ref q123, .null, .null, .null, .null, .null, .null]) := (s144.2.2.2 _ ⟨m142, by rw [r143]; decide, by simp only [List.mem_singleton]; exact (nz137 _ m133)⟩).1.trans e141
  have m149 : h ∈ L144 := s144.2.1 _ m142
  have r150 : (κ144 h).1 = 0 := by rw [(s144.2.2.2 _ ⟨m142, by rw [r143]; decide, by simp only [List.mem_singleton]; exact (nz137 _ m133)⟩).2]; exact r143
  refine q_putF X.1 X.2.1 X.2.2.1 i_H t_H t_H_ok n_H X.2.2.2.1 X.2.2.2.2 Y m149 e148 rfl 3 (by decide) (X.2.2.1 _ lk_H_28) (fun _ h9 => h9) rfl hin rfl (t_H_ok 3 (by decide)) rfl rfl (Nat.le_of_ble_eq_true rfl) d_H_init_53 (fun H locs Y => ?_)
  have Y : pH D cCl (pA L sz) s.heap L144 (va_up f144 h (.inr (0, [.ref q101, .ref q111, .ref q123, .ref q137, .null, .null, .null, .null, .null]))) H locs := Y
  have S := tS_up (x := .inr (0, [.ref q101, .ref q111, .ref q123, .ref q137, .null, .null, .null, .null, .null])) S (fun h9 => h9.2.2 (List.mem_singleton.mpr rfl)) (fun h9 => absurd r150 h9)
  have e152 : (va_up f144 h (.inr (0, [.ref q101, .ref q111, .ref q123, .ref q137, .null, .null, .null, .null, .null]))) h = .inr (0, [.ref q101, .ref q111, .ref q123, .ref q137, .null, .null, .null, .null, .null]) := q_up
  generalize va_up f144 h (.inr (0, [.ref q101, .ref q111, .ref q123, .ref q137, .null, .null, .null, .null, .null])) = f151 at Y S e152
  refine lv_aload_n X.1 X.2.1 d_H_init_56 rfl (lv_at hl 0 rfl) ?_
  refine t_new (ci := 5) X Y S hA hF0 i_Ga t_Ga t_Ga_ok ck_H_31 mk_Ga ini_Ga rfl (fs := [.null, .null, .null, .null, .int (iI 0)]) (fun j hj => match j, hj with | 0, _ => rfl | 1, _ => rfl | 2, _ => rfl | 3, _ => rfl | 4, _ => rfl | n9 + 5, h9 => absurd (show n9 + 5 < 5 from h9) (by omega)) (Nat.le_of_ble_eq_true rfl) (Nat.le_of_ble_eq_true rfl) d_H_init_57 (fun q153 L153 f153 H Y S s153 nl153 m153 r153 e153 nz153 => ?_)
  have k154 : κ144 q101 = (21, 0) := tLe_k s153.2.2.1 k145
  have k155 : κ144 q111 = (13, 4000) := tLe_k s153.2.2.1 k146
  have k156 : κ144 q123 = (13, 12288) := tLe_k s153.2.2.1 k147
  have k157 : κ144 q137 = (13, 40) := tLe_k s153.2.2.1 k144
  have e158 : f153 h = .inr (0, [.ref q101, .ref q111, .ref q123, .ref q137, .null, .null, .null, .null, .null]) := (s153.2.2.2 _ ⟨m149, by rw [r150]; decide, by simp⟩).1.trans e152
  have m159 : h ∈ L153 := s153.2.1 _ m149
  have r160 : (κ144 h).1 = 0 := by rw [(s153.2.2.2 _ ⟨m149, by rw [r150]; decide, by simp⟩).2]; exact r150
  refine lv_dup X.1 X.2.1 d_H_init_60 rfl ?_
  refine lv_aload_n X.1 X.2.1 d_H_init_61 rfl (lv_at hl 0 rfl) ?_
  refine q_get X.1 X.2.1 X.2.2.1 i_H X.2.2.2.1 X.2.2.2.2 Y m159 e158 rfl 0 (by decide) (X.2.2.1 _ lk_H_12) (fun _ h9 => h9) rfl d_H_init_62 ?_
  refine t_mk (x_runI (As := [.ref q101]) (rest := [.ref q153, .ref h]) (n := 1) X hml hl.1 (c_Ga_init l D E T κ144 L153 f153 H.size q153 m153 r153 e153 q101 k154 S.1) (ok_k X Y hA KS KR) kl_H_Ga_init ks_Ga_init ki_Ga_init ini_Ga rfl ⟨rfl, rfl⟩ hd_Ga_init.2 ⟨Nat.le_of_ble_eq_true rfl, Nat.le_of_ble_eq_true rfl⟩ rfl (Nat.le_of_ble_eq_true rfl) d_H_init_65 ⟨Nat.le_of_ble_eq_true rfl, Nat.le_of_ble_eq_true rfl⟩) X Y hA S (by decide) nl153 (fun κ161 L161 f161 H locs Y S s161 p161 => ?_)
  have k161 := p161
  have k162 : κ161 q101 = (21, 0) := tLe_k s161.2.2.1 k154
  have k163 : κ161 q111 = (13, 4000) := tLe_k s161.2.2.1 k155
  have k164 : κ161 q123 = (13, 12288) := tLe_k s161.2.2.1 k156
  have k165 : κ161 q137 = (13, 40) := tLe_k s161.2.2.1 k157
  have e166 : f161 h = .inr (0, [.ref q101, .ref q111, .ref q123, .ref q137, .null, .null, .null, .null, .null]) := (s161.2.2.2 _ ⟨m159, by rw [r160]; decide, by simp only [List.mem_singleton]; exact (nz153 _ m149)⟩).1.trans e158
  have m167 : h ∈ L161 := s161.2.1 _ m159
  have r168 : (κ161 h).1 = 0 := by rw [(s161.2.2.2 _ ⟨m159, by rw [r160]; decide, by simp only [List.mem_singleton]; exact (nz153 _ m149)⟩).2]; exact r160
  refine q_putF X.1 X.2.1 X.2.2.1 i_H t_H t_H_ok n_H X.2.2.2.1 X.2.2.2.2 Y m167 e166 rfl 5 (by decide) (X.2.2.1 _ lk_H_36) (fun _ h9 => h9) rfl hin rfl (t_H_ok 5 (by decide)) rfl rfl (Nat.le_of_ble_eq_true rfl) d_H_init_68 (fun H locs Y => ?_)
  have Y : pH D cCl (pA L sz) s.heap L161 (va_up f161 h (.inr (0, [.ref q101, .ref q111, .ref q123, .ref q137, .null, .ref q153, .null, .null, .null]))) H locs := Y
  have S := tS_up (x := .inr (0, [.ref q101, .ref q111, .ref q123, .ref q137, .null, .ref q153, .null, .null, .null])) S (fun h9 => h9.2.2 (List.mem_singleton.mpr rfl)) (fun h9 => absurd r168 h9)
  have e170 : (va_up f161 h (.inr (0, [.ref q101, .ref q111, .ref q123, .ref q137, .null, .ref q153, .null, .null, .null]))) h = .inr (0, [.ref q101, .ref q111, .ref q123, .ref q137, .null, .ref q153, .null, .null, .null]) := q_up
  generalize va_up f161 h (.inr (0, [.ref q101, .ref q111, .ref q123, .ref q137, .null, .ref q153, .null, .null, .null])) = f169 at Y S e170
  refine lv_aload_n X.1 X.2.1 d_H_init_71 rfl (lv_at hl 0 rfl) ?_
  refine lv_bipush (v := iI 12) X.1 X.2.1 d_H_init_72 (by decide) ?_
  refine t_anew X Y S hA hF0 ck_H_40 (KR.2.2.2 _ (by decide)) (t0 := 2) (c2 := 17) (N := 12) rfl (by omega) (by decide) (Nat.le_of_ble_eq_true rfl) (Nat.le_of_ble_eq_true rfl) d_H_init_74 (fun q171 L171 f171 H Y S s171 nl171 m171 r171 e171 nz171 => ?_)
  have k172 : κ161 q101 = (21, 0) := tLe_k s171.2.2.1 k162
  have k173 : κ161 q111 = (13, 4000) := tLe_k s171.2.2.1 k163
  have k174 : κ161 q123 = (13, 12288) := tLe_k s171.2.2.1 k164
  have k175 : κ161 q137 = (13, 40) := tLe_k s171.2.2.1 k165
  have k176 : κ161 q153 = (15, 0) := tLe_k s171.2.2.1 k161
  have e177 : f171 h = .inr (0, [.ref q101, .ref q111, .ref q123, .ref q137, .null, .ref q153, .null, .null, .null]) := (s171.2.2.2 _ ⟨m167, by rw [r168]; decide, by simp⟩).1.trans e170
  have m178 : h ∈ L171 := s171.2.1 _ m167
  have r179 : (κ161 h).1 = 0 := by rw [(s171.2.2.2 _ ⟨m167, by rw [r168]; decide, by simp⟩).2]; exact r168
  refine q_putF X.1 X.2.1 X.2.2.1 i_H t_H t_H_ok n_H X.2.2.2.1 X.2.2.2.2 Y m178 e177 rfl 4 (by decide) (X.2.2.1 _ lk_H_42) (fun _ h9 => h9) rfl hin rfl (t_H_ok 4 (by decide)) rfl rfl (Nat.le_of_ble_eq_true rfl) d_H_init_77 (fun H locs Y => ?_)
  have Y : pH D cCl (pA L sz) s.heap L171 (va_up f171 h (.inr (0, [.ref q101, .ref q111, .ref q123, .ref q137, .ref q171, .ref q153, .null, .null, .null]))) H locs := Y
  have S := tS_up (x := .inr (0, [.ref q101, .ref q111, .ref q123, .ref q137, .ref q171, .ref q153, .null, .null, .null])) S (fun h9 => h9.2.2 (List.mem_singleton.mpr rfl)) (fun h9 => absurd r179 h9)
  have e181 : (va_up f171 h (.inr (0, [.ref q101, .ref q111, .ref q123, .ref q137, .ref q171, .ref q153, .null, .null, .null]))) h = .inr (0, [.ref q101, .ref q111, .ref q123, .ref q137, .ref q171, .ref q153, .null, .null, .null]) := q_up
  have e182 : okP κ161 E.2.2.1 12 0 17 ((va_up f171 h (.inr (0, [.ref q101, .ref q111, .ref q123, .ref q137, .ref q171, .ref q153, .null, .null, .null]))) q171) := by rw [q_ne (nz171 _ m167).symm]; exact e171
  generalize va_up f171 h (.inr (0, [.ref q101, .ref q111, .ref q123, .ref q137, .ref q171, .ref q153, .null, .null, .null])) = f180 at Y S e181 e182
  refine lv_iconst (v := iI 0) X.1 X.2.1 d_H_init_80 (by decide) ?_
  refine lv_istore_n (lv' := [(1, .int (iI 0)), (0, .ref h)]) X.1 X.2.1 d_H_init_81 rfl hl (by decide) rfl (fun ls hl => ?_)
  refine lv_iload_n X.1 X.2.1 d_H_init_82 rfl (lv_at hl 0 rfl) ?_
  refine lv_bipush (v := iI 12) X.1 X.2.1 d_H_init_83 (by decide) ?_
  refine z_icmp_ge (tgt := 107) X.1 X.2.1 d_H_init_85 (by decide) ⟨by omega, by omega⟩ ⟨by omega, by omega⟩ (fun h183 => False.elim (by omega)) (fun h183 => ?_)
  · refine lv_aload_n X.1 X.2.1 d_H_init_88 rfl (lv_at hl 1 rfl) ?_
    refine q_get X.1 X.2.1 X.2.2.1 i_H X.2.2.2.1 X.2.2.2.2 Y m178 e181 rfl 4 (by decide) (X.2.2.1 _ lk_H_42) (fun _ h9 => h9) rfl d_H_init_89 ?_
    refine lv_iload_n X.1 X.2.1 d_H_init_92 rfl (lv_at hl 0 rfl) ?_
    refine t_new (ci := 7) X Y S hA hF0 i_Pr t_Pr t_Pr_ok ck_H_40 mk_Pr ini_Pr rfl (fs := [.null, .null, .int (iI 0), .int (iI 0), .int (iI 0), .null, .null, .null, .null, .int (iI 0), .int (iI 0), .int (iI 0), .int (iI 0)]) (fun j hj => match j, hj with | 0, _ => rfl | 1, _ => rfl | 2, _ => rfl | 3, _ => rfl | 4, _ => rfl | 5, _ => rfl | 6, _ => rfl | 7, _ => rfl | 8, _ => rfl | 9, _ => rfl | 10, _ => rfl | 11, _ => rfl | 12, _ => rfl | n9 + 13, h9 => absurd (show n9 + 13 < 13 from h9) (by omega)) (Nat.le_of_ble_eq_true rfl) (Nat.le_of_ble_eq_true rfl) d_H_init_93 (fun q184 L184 f184 H Y S s184 nl184 m184 r184 e184 nz184 => ?_)
    have k185 : κ161 q101 = (21, 0) := tLe_k s184.2.2.1 k172
    have k186 : κ161 q111 = (13, 4000) := tLe_k s184.2.2.1 k173
    have k187 : κ161 q123 = (13, 12288) := tLe_k s184.2.2.1 k174
    have k188 : κ161 q137 = (13, 40) := tLe_k s184.2.2.1 k175
    have k189 : κ161 q153 = (15, 0) := tLe_k s184.2.2.1 k176
    have e190 : f184 h = .inr (0, [.ref q101, .ref q111, .ref q123, .ref q137, .ref q171, .ref q153, .null, .null, .null]) := (s184.2.2.2 _ ⟨m178, by rw [r179]; decide, by simp⟩).1.trans e181
    have m191 : h ∈ L184 := s184.2.1 _ m178
    have r192 : (κ161 h).1 = 0 := by rw [(s184.2.2.2 _ ⟨m178, by rw [r179]; decide, by simp⟩).2]; exact r179
    have e193 : okP κ161 E.2.2.1 12 0 17 (f184 q171) := okP_le s184.2.2.1 (by rw [(s184.2.2.2 _ ⟨m171, by rw [r171]; decide, by simp⟩).1]; exact e182)
    have m194 : q171 ∈ L184 := s184.2.1 _ m171
    have r195 : (κ161 q171).1 = 0 := by rw [(s184.2.2.2 _ ⟨m171, by rw [r171]; decide, by simp⟩).2]; exact r171
    refine lv_dup X.1 X.2.1 d_H_init_96 rfl ?_
    refine t_mk (x_runIN (As := []) (rest := [.ref q184, .int (iI 0), .ref q171]) (n := 0) X KR hml hl.1 (c_Pr_init l D E T κ161 L184 f184 H.size q184 m184 r184 e184 S.1) (ok_k X Y hA KS KR) (by decide) ks_Pr_init ki_Pr_init ini_Pr rfl ⟨rfl, rfl⟩ hd_Pr_init.2 ⟨Nat.le_of_ble_eq_true rfl, Nat.le_of_ble_eq_true rfl⟩ rfl (Nat.le_of_ble_eq_true rfl) d_H_init_97 ⟨Nat.le_of_ble_eq_true rfl, Nat.le_of_ble_eq_true rfl⟩) X Y hA S (by decide) nl184 (fun κ196 L196 f196 H locs Y S s196 p196 => ?_)
    have k196 := p196
    have k197 : κ196 q101 = (21, 0) := tLe_k s196.2.2.1 k185
    have k198 : κ196 q111 = (13, 4000) := tLe_k s196.2.2.1 k186
    have k199 : κ196 q123 = (13, 12288) := tLe_k s196.2.2.1 k187
    have k200 : κ196 q137 = (13, 40) := tLe_k s196.2.2.1 k188
    have k201 : κ196 q153 = (15, 0) := tLe_k s196.2.2.1 k189
    have e202 : f196 h = .inr (0, [.ref q101, .ref q111, .ref q123, .ref q137, .ref q171, .ref q153, .null, .null, .null]) := (s196.2.2.2 _ ⟨m191, by rw [r192]; decide, by simp only [List.mem_singleton]; exact (nz184 _ m178)⟩).1.trans e190
    have m203 : h ∈ L196 := s196.2.1 _ m191
    have r204 : (κ196 h).1 = 0 := by rw [(s196.2.2.2 _ ⟨m191, by rw [r192]; decide, by simp only [List.mem_singleton]; exact (nz184 _ m178)⟩).2]; exact r192
    have e205 : okP κ196 E.2.2.1 12 0 17 (f196 q171) := okP_le s196.2.2.1 (by rw [(s196.2.2.2 _ ⟨m194, by rw [r195]; decide, by simp only [List.mem_singleton]; exact (nz184 _ m171)⟩).1]; exact e193)
    have m206 : q171 ∈ L196 := s196.2.1 _ m194
    have r207 : (κ196 q171).1 = 0 := by rw [(s196.2.2.2 _ ⟨m194, by rw [r195]; decide, by simp only [List.mem_singleton]; exact (nz184 _ m171)⟩).2]; exact r195
    refine t_aast (ci := 7) (r := (R_Pr, F_Pr, 13)) (t0 := 2) X Y S m206 r207 e205 rfl k196 rfl (by omega) (by decide) (by decide) (fun h9 => nl171 h9.1) d_H_init_100 (fun f208 H locs Y S w208 o208 => ?_)
    have e209 : f208 h = .inr (0, [.ref q101, .ref q111, .ref q123, .ref q137, .ref q171, .ref q153, .null, .null, .null]) := (w208 _ (nz171 _ m167)).trans e202
    refine lv_iinc (v := iI 1) (lv' := [(1, .int (iI 1)), (0, .ref h)]) X.1 X.2.1 d_H_init_101 hl (k := 0) rfl (by decide) (by decide) rfl (fun ls hl => ?_)
    refine lv_goto (tgt := 82) X.1 X.2.1 d_H_init_104 (by decide) ?_
    refine lv_iload_n X.1 X.2.1 d_H_init_82 rfl (lv_at hl 0 rfl) ?_
    refine lv_bipush (v := iI 12) X.1 X.2.1 d_H_init_83 (by decide) ?_
    refine z_icmp_ge (tgt := 107) X.1 X.2.1 d_H_init_85 (by decide) ⟨by omega, by omega⟩ ⟨by omega, by omega⟩ (fun h210 => False.elim (by omega)) (fun h210 => ?_)
    · refine lv_aload_n X.1 X.2.1 d_H_init_88 rfl (lv_at hl 1 rfl) ?_
      refine q_get X.1 X.2.1 X.2.2.1 i_H X.2.2.2.1 X.2.2.2.2 Y m203 e209 rfl 4 (by decide) (X.2.2.1 _ lk_H_42) (fun _ h9 => h9) rfl d_H_init_89 ?_
      refine lv_iload_n X.1 X.2.1 d_H_init_92 rfl (lv_at hl 0 rfl) ?_
      refine t_new (ci := 7) X Y S hA hF0 i_Pr t_Pr t_Pr_ok ck_H_40 mk_Pr ini_Pr rfl (fs := [.null, .null, .int (iI 0), .int (iI 0), .int (iI 0), .null, .null, .null, .null, .int (iI 0), .int (iI 0), .int (iI 0), .int (iI 0)]) (fun j hj => match j, hj with | 0, _ => rfl | 1, _ => rfl | 2, _ => rfl | 3, _ => rfl | 4, _ => rfl | 5, _ => rfl | 6, _ => rfl | 7, _ => rfl | 8, _ => rfl | 9, _ => rfl | 10, _ => rfl | 11, _ => rfl | 12, _ => rfl | n9 + 13, h9 => absurd (show n9 + 13 < 13 from h9) (by omega)) (Nat.le_of_ble_eq_true rfl) (Nat.le_of_ble_eq_true rfl) d_H_init_93 (fun q211 L211 f211 H Y S s211 nl211 m211 r211 e211 nz211 => ?_)
      have k212 : κ196 q101 = (21, 0) := tLe_k s211.2.2.1 k197
      have k213 : κ196 q111 = (13, 4000) := tLe_k s211.2.2.1 k198
      have k214 : κ196 q123 = (13, 12288) := tLe_k s211.2.2.1 k199
      have k215 : κ196 q137 = (13, 40) := tLe_k s211.2.2.1 k200
      have k216 : κ196 q153 = (15, 0) := tLe_k s211.2.2.1 k201
      have e217 : f211 h = .inr (0, [.ref q101, .ref q111, .ref q123, .ref q137, .ref q171, .ref q153, .null, .null, .null]) := (s211.2.2.2 _ ⟨m203, by rw [r204]; decide, by simp⟩).1.trans e209
      have m218 : h ∈ L211 := s211.2.1 _ m203
      have r219 : (κ196 h).1 = 0 := by rw [(s211.2.2.2 _ ⟨m203, by rw [r204]; decide, by simp⟩).2]; exact r204
      have e220 : okP κ196 E.2.2.1 12 1 17 (f211 q171) := okP_le s211.2.2.1 (by rw [(s211.2.2.2 _ ⟨m206, by rw [r207]; decide, by simp⟩).1]; exact o208)
      have m221 : q171 ∈ L211 := s211.2.1 _ m206
      have r222 : (κ196 q171).1 = 0 := by rw [(s211.2.2.2 _ ⟨m206, by rw [r207]; decide, by simp⟩).2]; exact r207
      refine lv_dup X.1 X.2.1 d_H_init_96 rfl ?_
      refine t_mk (x_runIN (As := []) (rest := [.ref q211, .int (iI 1), .ref q171]) (n := 0) X KR hml hl.1 (c_Pr_init l D E T κ196 L211 f211 H.size q211 m211 r211 e211 S.1) (ok_k X Y hA KS KR) (by decide) ks_Pr_init ki_Pr_init ini_Pr rfl ⟨rfl, rfl⟩ hd_Pr_init.2 ⟨Nat.le_of_ble_eq_true rfl, Nat.le_of_ble_eq_true rfl⟩ rfl (Nat.le_of_ble_eq_true rfl) d_H_init_97 ⟨Nat.le_of_ble_eq_true rfl, Nat.le_of_ble_eq_true rfl⟩) X Y hA S (by decide) nl211 (fun κ223 L223 f223 H locs Y S s223 p223 => ?_)
      have k223 := p223
      have k224 : κ223 q101 = (21, 0) := tLe_k s223.2.2.1 k212
      have k225 : κ223 q111 = (13, 4000) := tLe_k s223.2.2.1 k213
      have k226 : κ223 q123 = (13, 12288) := tLe_k s223.2.2.1 k214
      have k227 : κ223 q137 = (13, 40) := tLe_k s223.2.2.1 k215
      have k228 : κ223 q153 = (15, 0) := tLe_k s223.2.2.1 k216
      have e229 : f223 h = .inr (0, [.ref q101, .ref q111, .ref q123, .ref q137, .ref q171, .ref q153, .null, .null, .null]) := (s223.2.2.2 _ ⟨m218, by rw [r219]; decide, by simp only [List.mem_singleton]; exact (nz211 _ m203)⟩).1.trans e217
      have m230 : h ∈ L223 := s223.2.1 _ m218
      have r231 : (κ223 h).1 = 0 := by rw [(s223.2.2.2 _ ⟨m218, by rw [r219]; decide, by simp only [List.mem_singleton]; exact (nz211 _ m203)⟩).2]; exact r219
      have e232 : okP κ223 E.2.2.1 12 1 17 (f223 q171) := okP_le s223.2.2.1 (by rw [(s223.2.2.2 _ ⟨m221, by rw [r222]; decide, by simp only [List.mem_singleton]; exact (nz211 _ m206)⟩).1]; exact e220)
      have m233 : q171 ∈ L223 := s223.2.1 _ m221
      have r234 : (κ223 q171).1 = 0 := by rw [(s223.2.2.2 _ ⟨m221, by rw [r222]; decide, by simp only [List.mem_singleton]; exact (nz211 _ m206)⟩).2]; exact r222
      refine t_aast (ci := 7) (r := (R_Pr, F_Pr, 13)) (t0 := 2) X Y S m233 r234 e232 rfl k223 rfl (by omega) (by decide) (by decide) (fun h9 => nl171 h9.1) d_H_init_100 (fun f235 H locs Y S w235 o235 => ?_)
      have e236 : f235 h = .inr (0, [.ref q101, .ref q111, .ref q123, .ref q137, .ref q171, .ref q153, .null, .null, .null]) := (w235 _ (nz171 _ m167)).trans e229
      refine lv_iinc (v := iI 2) (lv' := [(1, .int (iI 2)), (0, .ref h)]) X.1 X.2.1 d_H_init_101 hl (k := 0) rfl (by decide) (by decide) rfl (fun ls hl => ?_)
      refine lv_goto (tgt := 82) X.1 X.2.1 d_H_init_104 (by decide) ?_
      refine lv_iload_n X.1 X.2.1 d_H_init_82 rfl (lv_at hl 0 rfl) ?_
      refine lv_bipush (v := iI 12) X.1 X.2.1 d_H_init_83 (by decide) ?_
      refine z_icmp_ge (tgt := 107) X.1 X.2.1 d_H_init_85 (by decide) ⟨by omega, by omega⟩ ⟨by omega, by omega⟩ (fun h237 => False.elim (by omega)) (fun h237 => ?_)
      · refine lv_aload_n X.1 X.2.1 d_H_init_88 rfl (lv_at hl 1 rfl) ?_
        refine q_get X.1 X.2.1 X.2.2.1 i_H X.2.2.2.1 X.2.2.2.2 Y m230 e236 rfl 4 (by decide) (X.2.2.1 _ lk_H_42) (fun _ h9 => h9) rfl d_H_init_89 ?_
        refine lv_iload_n X.1 X.2.1 d_H_init_92 rfl (lv_at hl 0 rfl) ?_
        refine t_new (ci := 7) X Y S hA hF0 i_Pr t_Pr t_Pr_ok ck_H_40 mk_Pr ini_Pr rfl (fs := [.null, .null, .int (iI 0), .int (iI 0), .int (iI 0), .null, .null, .null, .null, .int (iI 0), .int (iI 0), .int (iI 0), .int (iI 0)]) (fun j hj => match j, hj with | 0, _ => rfl | 1, _ => rfl | 2, _ => rfl | 3, _ => rfl | 4, _ => rfl | 5, _ => rfl | 6, _ => rfl | 7, _ => rfl | 8, _ => rfl | 9, _ => rfl | 10, _ => rfl | 11, _ => rfl | 12, _ => rfl | n9 + 13, h9 => absurd (show n9 + 13 < 13 from h9) (by omega)) (Nat.le_of_ble_eq_true rfl) (Nat.le_of_ble_eq_true rfl) d_H_init_93 (fun q238 L238 f238 H Y S s238 nl238 m238 r238 e238 nz238 => ?_)
        have k239 : κ223 q101 = (21, 0) := tLe_k s238.2.2.1 k224
        have k240 : κ223 q111 = (13, 4000) := tLe_k s238.2.2.1 k225
        have k241 : κ223 q123 = (13, 12288) := tLe_k s238.2.2.1 k226
        have k242 : κ223 q137 = (13, 40) := tLe_k s238.2.2.1 k227
        have k243 : κ223 q153 = (15, 0) := tLe_k s238.2.2.1 k228
        have e244 : f238 h = .inr (0, [.ref q101, .ref q111, .ref q123, .ref q137, .ref q171, .ref q153, .null, .null, .null]) := (s238.2.2.2 _ ⟨m230, by rw [r231]; decide, by simp⟩).1.trans e236
        have m245 : h ∈ L238 := s238.2.1 _ m230
        have r246 : (κ223 h).1 = 0 := by rw [(s238.2.2.2 _ ⟨m230, by rw [r231]; decide, by simp⟩).2]; exact r231
        have e247 : okP κ223 E.2.2.1 12 2 17 (f238 q171) := okP_le s238.2.2.1 (by rw [(s238.2.2.2 _ ⟨m233, by rw [r234]; decide, by simp⟩).1]; exact o235)
        have m248 : q171 ∈ L238 := s238.2.1 _ m233
        have r249 : (κ223 q171).1 = 0 := by rw [(s238.2.2.2 _ ⟨m233, by rw [r234]; decide, by simp⟩).2]; exact r234
        refine lv_dup X.1 X.2.1 d_H_init_96 rfl ?_
        refine t_mk (x_runIN (As := []) (rest := [.ref q238, .int (iI 2), .ref q171]) (n := 0) X KR hml hl.1 (c_Pr_init l D E T κ223 L238 f238 H.size q238 m238 r238 e238 S.1) (ok_k X Y hA KS KR) (by decide) ks_Pr_init ki_Pr_init ini_Pr rfl ⟨rfl, rfl⟩ hd_Pr_init.2 ⟨Nat.le_of_ble_eq_true rfl, Nat.le_of_ble_eq_true rfl⟩ rfl (Nat.le_of_ble_eq_true rfl) d_H_init_97 ⟨Nat.le_of_ble_eq_true rfl, Nat.le_of_ble_eq_true rfl⟩) X Y hA S (by decide) nl238 (fun κ250 L250 f250 H locs Y S s250 p250 => ?_)
        have k250 := p250
        have k251 : κ250 q101 = (21, 0) := tLe_k s250.2.2.1 k239
        have k252 : κ250 q111 = (13, 4000) := tLe_k s250.2.2.1 k240
        have k253 : κ250 q123 = (13, 12288) := tLe_k s250.2.2.1 k241
        have k254 : κ250 q137 = (13, 40) := tLe_k s250.2.2.1 k242
        have k255 : κ250 q153 = (15, 0) := tLe_k s250.2.2.1 k243
        have e256 : f250 h = .inr (0, [.ref q101, .ref q111, .ref q123, .ref q137, .ref q171, .ref q153, .null, .null, .null]) := (s250.2.2.2 _ ⟨m245, by rw [r246]; decide, by simp only [List.mem_singleton]; exact (nz238 _ m230)⟩).1.trans e244
        have m257 : h ∈ L250 := s250.2.1 _ m245
        have r258 : (κ250 h).1 = 0 := by rw [(s250.2.2.2 _ ⟨m245, by rw [r246]; decide, by simp only [List.mem_singleton]; exact (nz238 _ m230)⟩).2]; exact r246
        have e259 : okP κ250 E.2.2.1 12 2 17 (f250 q171) := okP_le s250.2.2.1 (by rw [(s250.2.2.2 _ ⟨m248, by rw [r249]; decide, by simp only [List.mem_singleton]; exact (nz238 _ m233)⟩).1]; exact e247)
        have m260 : q171 ∈ L250 := s250.2.1 _ m248
        have r261 : (κ250 q171).1 = 0 := by rw [(s250.2.2.2 _ ⟨m248, by rw [r249]; decide, by simp only [List.mem_singleton]; exact (nz238 _ m233)⟩).2]; exact r249
        refine t_aast (ci := 7) (r := (R_Pr, F_Pr, 13)) (t0 := 2) X Y S m260 r261 e259 rfl k250 rfl (by omega) (by decide) (by decide) (fun h9 => nl171 h9.1) d_H_init_100 (fun f262 H locs Y S w262 o262 => ?_)
        have e263 : f262 h = .inr (0, [.ref q101, .ref q111, .ref q123, .ref q137, .ref q171, .ref q153, .null, .null, .null]) := (w262 _ (nz171 _ m167)).trans e256
        refine lv_iinc (v := iI 3) (lv' := [(1, .int (iI 3)), (0, .ref h)]) X.1 X.2.1 d_H_init_101 hl (k := 0) rfl (by decide) (by decide) rfl (fun ls hl => ?_)
        refine lv_goto (tgt := 82) X.1 X.2.1 d_H_init_104 (by decide) ?_
        refine lv_iload_n X.1 X.2.1 d_H_init_82 rfl (lv_at hl 0 rfl) ?_
        refine lv_bipush (v := iI 12) X.1 X.2.1 d_H_init_83 (by decide) ?_
        refine z_icmp_ge (tgt := 107) X.1 X.2.1 d_H_init_85 (by decide) ⟨by omega, by omega⟩ ⟨by omega, by omega⟩ (fun h264 => False.elim (by omega)) (fun h264 => ?_)
        · refine lv_aload_n X.1 X.2.1 d_H_init_88 rfl (lv_at hl 1 rfl) ?_
          refine q_get X.1 X.2.1 X.2.2.1 i_H X.2.2.2.1 X.2.2.2.2 Y m257 e263 rfl 4 (by decide) (X.2.2.1 _ lk_H_42) (fun _ h9 => h9) rfl d_H_init_89 ?_
          refine lv_iload_n X.1 X.2.1 d_H_init_92 rfl (lv_at hl 0 rfl) ?_
          refine t_new (ci := 7) X Y S hA hF0 i_Pr t_Pr t_Pr_ok ck_H_40 mk_Pr ini_Pr rfl (fs := [.null, .null, .int (iI 0), .int (iI 0), .int (iI 0), .null, .null, .null, .null, .int (iI 0), .int (iI 0), .int (iI 0), .int (iI 0)]) (fun j hj => match j, hj with | 0, _ => rfl | 1, _ => rfl | 2, _ => rfl | 3, _ => rfl | 4, _ => rfl | 5, _ => rfl | 6, _ => rfl | 7, _ => rfl | 8, _ => rfl | 9, _ => rfl | 10, _ => rfl | 11, _ => rfl | 12, _ => rfl | n9 + 13, h9 => absurd (show n9 + 13 < 13 from h9) (by omega)) (Nat.le_of_ble_eq_true rfl) (Nat.le_of_ble_eq_true rfl) d_H_init_93 (fun q265 L265 f265 H Y S s265 nl265 m265 r265 e265 nz265 => ?_)
          have k266 : κ250 q101 = (21, 0) := tLe_k s265.2.2.1 k251
          have k267 : κ250 q111 = (13, 4000) := tLe_k s265.2.2.1 k252
          have k268 : κ250 q123 = (13, 12288) := tLe_k s265.2.2.1 k253
          have k269 : κ250 q137 = (13, 40) := tLe_k s265.2.2.1 k254
          have k270 : κ250 q153 = (15, 0) := tLe_k s265.2.2.1 k255
          have e271 : f265 h = .inr (0, [.ref q101, .ref q111, .ref q123, .ref q137, .ref q171, .ref q153, .null, .null, .null]) := (s265.2.2.2 _ ⟨m257, by rw [r258]; decide, by simp⟩).1.trans e263
          have m272 : h ∈ L265 := s265.2.1 _ m257
          have r273 : (κ250 h).1 = 0 := by rw [(s265.2.2.2 _ ⟨m257, by rw [r258]; decide, by simp⟩).2]; exact r258
          have e274 : okP κ250 E.2.2.1 12 3 17 (f265 q171) := okP_le s265.2.2.1 (by rw [(s265.2.2.2 _ ⟨m260, by rw [r261]; decide, by simp⟩).1]; exact o262)
          have m275 : q171 ∈ L265 := s265.2.1 _ m260
          have r276 : (κ250 q171).1 = 0 := by rw [(s265.2.2.2 _ ⟨m260, by rw [r261]; decide, by simp⟩).2]; exact r261
          refine lv_dup X.1 X.2.1 d_H_init_96 rfl ?_
          refine t_mk (x_runIN (As := []) (rest := [.ref q265, .int (iI 3), .ref q171]) (n := 0) X KR hml hl.1 (c_Pr_init l D E T κ250 L265 f265 H.size q265 m265 r265 e265 S.1) (ok_k X Y hA KS KR) (by decide) ks_Pr_init ki_Pr_init ini_Pr rfl ⟨rfl, rfl⟩ hd_Pr_init.2 ⟨Nat.le_of_ble_eq_true rfl, Nat.le_of_ble_eq_true rfl⟩ rfl (Nat.le_of_ble_eq_true rfl) d_H_init_97 ⟨Nat.le_of_ble_eq_true rfl, Nat.le_of_ble_eq_true rfl⟩) X Y hA S (by decide) nl265 (fun κ277 L277 f277 H locs Y S s277 p277 => ?_)
          have k277 := p277
          have k278 : κ277 q101 = (21, 0) := tLe_k s277.2.2.1 k266
          have k279 : κ277 q111 = (13, 4000) := tLe_k s277.2.2.1 k267
          have k280 : κ277 q123 = (13, 12288) := tLe_k s277.2.2.1 k268
          have k281 : κ277 q137 = (13, 40) := tLe_k s277.2.2.1 k269
          have k282 : κ277 q153 = (15, 0) := tLe_k s277.2.2.1 k270
          have e283 : f277 h = .inr (0, [.ref q101, .ref q111, .ref q123, .ref q137, .ref q171, .ref q153, .null, .null, .null]) := (s277.2.2.2 _ ⟨m272, by rw [r273]; decide, by simp only [List.mem_singleton]; exact (nz265 _ m257)⟩).1.trans e271
          have m284 : h ∈ L277 := s277.2.1 _ m272
          have r285 : (κ277 h).1 = 0 := by rw [(s277.2.2.2 _ ⟨m272, by rw [r273]; decide, by simp only [List.mem_singleton]; exact (nz265 _ m257)⟩).2]; exact r273
          have e286 : okP κ277 E.2.2.1 12 3 17 (f277 q171) := okP_le s277.2.2.1 (by rw [(s277.2.2.2 _ ⟨m275, by rw [r276]; decide, by simp only [List.mem_singleton]; exact (nz265 _ m260)⟩).1]; exact e274)
          have m287 : q171 ∈ L277 := s277.2.1 _ m275
          have r288 : (κ277 q171).1 = 0 := by rw [(s277.2.2.2 _ ⟨m275, by rw [r276]; decide, by simp only [List.mem_singleton]; exact (nz265 _ m260)⟩).2]; exact r276
          refine t_aast (ci := 7) (r := (R_Pr, F_Pr, 13)) (t0 := 2) X Y S m287 r288 e286 rfl k277 rfl (by omega) (by decide) (by decide) (fun h9 => nl171 h9.1) d_H_init_100 (fun f289 H locs Y S w289 o289 => ?_)
          have e290 : f289 h = .inr (0, [.ref q101, .ref q111, .ref q123, .ref q137, .ref q171, .ref q153, .null, .null, .null]) := (w289 _ (nz171 _ m167)).trans e283
          refine lv_iinc (v := iI 4) (lv' := [(1, .int (iI 4)), (0, .ref h)]) X.1 X.2.1 d_H_init_101 hl (k := 0) rfl (by decide) (by decide) rfl (fun ls hl => ?_)
          refine lv_goto (tgt := 82) X.1 X.2.1 d_H_init_104 (by decide) ?_
          refine lv_iload_n X.1 X.2.1 d_H_init_82 rfl (lv_at hl 0 rfl) ?_
          refine lv_bipush (v := iI 12) X.1 X.2.1 d_H_init_83 (by decide) ?_
          refine z_icmp_ge (tgt := 107) X.1 X.2.1 d_H_init_85 (by decide) ⟨by omega, by omega⟩ ⟨by omega, by omega⟩ (fun h291 => False.elim (by omega)) (fun h291 => ?_)
          · refine lv_aload_n X.1 X.2.1 d_H_init_88 rfl (lv_at hl 1 rfl) ?_
            refine q_get X.1 X.2.1 X.2.2.1 i_H X.2.2.2.1 X.2.2.2.2 Y m284 e290 rfl 4 (by decide) (X.2.2.1 _ lk_H_42) (fun _ h9 => h9) rfl d_H_init_89 ?_
            refine lv_iload_n X.1 X.2.1 d_H_init_92 rfl (lv_at hl 0 rfl) ?_
            refine t_new (ci := 7) X Y S hA hF0 i_Pr t_Pr t_Pr_ok ck_H_40 mk_Pr ini_Pr rfl (fs := [.null, .null, .int (iI 0), .int (iI 0), .int (iI 0), .null, .null, .null, .null, .int (iI 0), .int (iI 0), .int (iI 0), .int (iI 0)]) (fun j hj => match j, hj with | 0, _ => rfl | 1, _ => rfl | 2, _ => rfl | 3, _ => rfl | 4, _ => rfl | 5, _ => rfl | 6, _ => rfl | 7, _ => rfl | 8, _ => rfl | 9, _ => rfl | 10, _ => rfl | 11, _ => rfl | 12, _ => rfl | n9 + 13, h9 => absurd (show n9 + 13 < 13 from h9) (by omega)) (Nat.le_of_ble_eq_true rfl) (Nat.le_of_ble_eq_true rfl) d_H_init_93 (fun q292 L292 f292 H Y S s292 nl292 m292 r292 e292 nz292 => ?_)
            have k293 : κ277 q101 = (21, 0) := tLe_k s292.2.2.1 k278
            have k294 : κ277 q111 = (13, 4000) := tLe_k s292.2.2.1 k279
            have k295 : κ277 q123 = (13, 12288) := tLe_k s292.2.2.1 k280
            have k296 : κ277 q137 = (13, 40) := tLe_k s292.2.2.1 k281
            have k297 : κ277 q153 = (15, 0) := tLe_k s292.2.2.1 k282
            have e298 : f292 h = .inr (0, [.ref q101, .ref q111, .ref q123, .ref q137, .ref q171, .ref q153, .null, .null, .null]) := (s292.2.2.2 _ ⟨m284, by rw [r285]; decide, by simp⟩).1.trans e290
            have m299 : h ∈ L292 := s292.2.1 _ m284
            have r300 : (κ277 h).1 = 0 := by rw [(s292.2.2.2 _ ⟨m284, by rw [r285]; decide, by simp⟩).2]; exact r285
            have e301 : okP κ277 E.2.2.1 12 4 17 (f292 q171) := okP_le s292.2.2.1 (by rw [(s292.2.2.2 _ ⟨m287, by rw [r288]; decide, by simp⟩).1]; exact o289)
            have m302 : q171 ∈ L292 := s292.2.1 _ m287
            have r303 : (κ277 q171).1 = 0 := by rw [(s292.2.2.2 _ ⟨m287, by rw [r288]; decide, by simp⟩).2]; exact r288
            refine lv_dup X.1 X.2.1 d_H_init_96 rfl ?_
            refine t_mk (x_runIN (As := []) (rest := [.ref q292, .int (iI 4), .ref q171]) (n := 0) X KR hml hl.1 (c_Pr_init l D E T κ277 L292 f292 H.size q292 m292 r292 e292 S.1) (ok_k X Y hA KS KR) (by decide) ks_Pr_init ki_Pr_init ini_Pr rfl ⟨rfl, rfl⟩ hd_Pr_init.2 ⟨Nat.le_of_ble_eq_true rfl, Nat.le_of_ble_eq_true rfl⟩ rfl (Nat.le_of_ble_eq_true rfl) d_H_init_97 ⟨Nat.le_of_ble_eq_true rfl, Nat.le_of_ble_eq_true rfl⟩) X Y hA S (by decide) nl292 (fun κ304 L304 f304 H locs Y S s304 p304 => ?_)
            have k304 := p304
            have k305 : κ304 q101 = (21, 0) := tLe_k s304.2.2.1 k293
            have k306 : κ304 q111 = (13, 4000) := tLe_k s304.2.2.1 k294
            have k307 : κ304 q123 = (13, 12288) := tLe_k s304.2.2.1 k295
            have k308 : κ304 q137 = (13, 40) := tLe_k s304.2.2.1 k296
            have k309 : κ304 q153 = (15, 0) := tLe_k s304.2.2.1 k297
            have e310 : f304 h = .inr (0, [.ref q101, .ref q111, .ref q123, .ref q137, .ref q171, .ref q153, .null, .null, .null]) := (s304.2.2.2 _ ⟨m299, by rw [r300]; decide, by simp only [List.mem_singleton]; exact (nz292 _ m284)⟩).1.trans e298
            have m311 : h ∈ L304 := s304.2.1 _ m299
            have r312 : (κ304 h).1 = 0 := by rw [(s304.2.2.2 _ ⟨m299, by rw [r300]; decide, by simp only [List.mem_singleton]; exact (nz292 _ m284)⟩).2]; exact r300
            have e313 : okP κ304 E.2.2.1 12 4 17 (f304 q171) := okP_le s304.2.2.1 (by rw [(s304.2.2.2 _ ⟨m302, by rw [r303]; decide, by simp only [List.mem_singleton]; exact (nz292 _ m287)⟩).1]; exact e301)
            have m314 : q171 ∈ L304 := s304.2.1 _ m302
            have r315 : (κ304 q171).1 = 0 := by rw [(s304.2.2.2 _ ⟨m302, by rw [r303]; decide, by simp only [List.mem_singleton]; exact (nz292 _ m287)⟩).2]; exact r303
            refine t_aast (ci := 7) (r := (R_Pr, F_Pr, 13)) (t0 := 2) X Y S m314 r315 e313 rfl k304 rfl (by omega) (by decide) (by decide) (fun h9 => nl171 h9.1) d_H_init_100 (fun f316 H locs Y S w316 o316 => ?_)
            have e317 : f316 h = .inr (0, [.ref q101, .ref q111, .ref q123, .ref q137, .ref q171, .ref q153, .null, .null, .null]) := (w316 _ (nz171 _ m167)).trans e310
            refine lv_iinc (v := iI 5) (lv' := [(1, .int (iI 5)), (0, .ref h)]) X.1 X.2.1 d_H_init_101 hl (k := 0) rfl (by decide) (by decide) rfl (fun ls hl => ?_)
            refine lv_goto (tgt := 82) X.1 X.2.1 d_H_init_104 (by decide) ?_
            refine lv_iload_n X.1 X.2.1 d_H_init_82 rfl (lv_at hl 0 rfl) ?_
            refine lv_bipush (v := iI 12) X.1 X.2.1 d_H_init_83 (by decide) ?_
            refine z_icmp_ge (tgt := 107) X.1 X.2.1 d_H_init_85 (by decide) ⟨by omega, by omega⟩ ⟨by omega, by omega⟩ (fun h318 => False.elim (by omega)) (fun h318 => ?_)
            · refine lv_aload_n X.1 X.2.1 d_H_init_88 rfl (lv_at hl 1 rfl) ?_
              refine q_get X.1 X.2.1 X.2.2.1 i_H X.2.2.2.1 X.2.2.2.2 Y m311 e317 rfl 4 (by decide) (X.2.2.1 _ lk_H_42) (fun _ h9 => h9) rfl d_H_init_89 ?_
              refine lv_iload_n X.1 X.2.1 d_H_init_92 rfl (lv_at hl 0 rfl) ?_
              refine t_new (ci := 7) X Y S hA hF0 i_Pr t_Pr t_Pr_ok ck_H_40 mk_Pr ini_Pr rfl (fs := [.null, .null, .int (iI 0), .int (iI 0), .int (iI 0), .null, .null, .null, .null, .int (iI 0), .int (iI 0), .int (iI 0), .int (iI 0)]) (fun j hj => match j, hj with | 0, _ => rfl | 1, _ => rfl | 2, _ => rfl | 3, _ => rfl | 4, _ => rfl | 5, _ => rfl | 6, _ => rfl | 7, _ => rfl | 8, _ => rfl | 9, _ => rfl | 10, _ => rfl | 11, _ => rfl | 12, _ => rfl | n9 + 13, h9 => absurd (show n9 + 13 < 13 from h9) (by omega)) (Nat.le_of_ble_eq_true rfl) (Nat.le_of_ble_eq_true rfl) d_H_init_93 (fun q319 L319 f319 H Y S s319 nl319 m319 r319 e319 nz319 => ?_)
              have k320 : κ304 q101 = (21, 0) := tLe_k s319.2.2.1 k305
              have k321 : κ304 q111 = (13, 4000) := tLe_k s319.2.2.1 k306
              have k322 : κ304 q123 = (13, 12288) := tLe_k s319.2.2.1 k307
              have k323 : κ304 q137 = (13, 40) := tLe_k s319.2.2.1 k308
              have k324 : κ304 q153 = (15, 0) := tLe_k s319.2.2.1 k309
              have e325 : f319 h = .inr (0, [.ref q101, .ref q111, .ref q123, .ref q137, .ref q171, .ref q153, .null, .null, .null]) := (s319.2.2.2 _ ⟨m311, by rw [r312]; decide, by simp⟩).1.trans e317
              have m326 : h ∈ L319 := s319.2.1 _ m311
              have r327 : (κ304 h).1 = 0 := by rw [(s319.2.2.2 _ ⟨m311, by rw [r312]; decide, by simp⟩).2]; exact r312
              have e328 : okP κ304 E.2.2.1 12 5 17 (f319 q171) := okP_le s319.2.2.1 (by rw [(s319.2.2.2 _ ⟨m314, by rw [r315]; decide, by simp⟩).1]; exact o316)
              have m329 : q171 ∈ L319 := s319.2.1 _ m314
              have r330 : (κ304 q171).1 = 0 := by rw [(s319.2.2.2 _ ⟨m314, by rw [r315]; decide, by simp⟩).2]; exact r315
              refine lv_dup X.1 X.2.1 d_H_init_96 rfl ?_
              refine t_mk (x_runIN (As := []) (rest := [.ref q319, .int (iI 5), .ref q171]) (n := 0) X KR hml hl.1 (c_Pr_init l D E T κ304 L319 f319 H.size q319 m319 r319 e319 S.1) (ok_k X Y hA KS KR) (by decide) ks_Pr_init ki_Pr_init ini_Pr rfl ⟨rfl, rfl⟩ hd_Pr_init.2 ⟨Nat.le_of_ble_eq_true rfl, Nat.le_of_ble_eq_true rfl⟩ rfl (Nat.le_of_ble_eq_true rfl) d_H_init_97 ⟨Nat.le_of_ble_eq_true rfl, Nat.le_of_ble_eq_true rfl⟩) X Y hA S (by decide) nl319 (fun κ331 L331 f331 H locs Y S s331 p331 => ?_)
              have k331 := p331
              have k332 : κ331 q101 = (21, 0) := tLe_k s331.2.2.1 k320
              have k333 : κ331 q111 = (13, 4000) := tLe_k s331.2.2.1 k321
              have k334 : κ331 q123 = (13, 12288) := tLe_k s331.2.2.1 k322
              have k335 : κ331 q137 = (13, 40) := tLe_k s331.2.2.1 k323
              have k336 : κ331 q153 = (15, 0) := tLe_k s331.2.2.1 k324
              have e337 : f331 h = .inr (0, [.ref q101, .ref q111, .ref q123, .ref q137, .ref q171, .ref q153, .null, .null, .null]) := (s331.2.2.2 _ ⟨m326, by rw [r327]; decide, by simp only [List.mem_singleton]; exact (nz319 _ m311)⟩).1.trans e325
              have m338 : h ∈ L331 := s331.2.1 _ m326
              have r339 : (κ331 h).1 = 0 := by rw [(s331.2.2.2 _ ⟨m326, by rw [r327]; decide, by simp only [List.mem_singleton]; exact (nz319 _ m311)⟩).2]; exact r327
              have e340 : okP κ331 E.2.2.1 12 5 17 (f331 q171) := okP_le s331.2.2.1 (by rw [(s331.2.2.2 _ ⟨m329, by rw [r330]; decide, by simp only [List.mem_singleton]; exact (nz319 _ m314)⟩).1]; exact e328)
              have m341 : q171 ∈ L331 := s331.2.1 _ m329
              have r342 : (κ331 q171).1 = 0 := by rw [(s331.2.2.2 _ ⟨m329, by rw [r330]; decide, by simp only [List.mem_singleton]; exact (nz319 _ m314)⟩).2]; exact r330
              refine t_aast (ci := 7) (r := (R_Pr, F_Pr, 13)) (t0 := 2) X Y S m341 r342 e340 rfl k331 rfl (by omega) (by decide) (by decide) (fun h9 => nl171 h9.1) d_H_init_100 (fun f343 H locs Y S w343 o343 => ?_)
              have e344 : f343 h = .inr (0, [.ref q101, .ref q111, .ref q123, .ref q137, .ref q171, .ref q153, .null, .null, .null]) := (w343 _ (nz171 _ m167)).trans e337
              refine lv_iinc (v := iI 6) (lv' := [(1, .int (iI 6)), (0, .ref h)]) X.1 X.2.1 d_H_init_101 hl (k := 0) rfl (by decide) (by decide) rfl (fun ls hl => ?_)
              refine lv_goto (tgt := 82) X.1 X.2.1 d_H_init_104 (by decide) ?_
              refine lv_iload_n X.1 X.2.1 d_H_init_82 rfl (lv_at hl 0 rfl) ?_
              refine lv_bipush (v := iI 12) X.1 X.2.1 d_H_init_83 (by decide) ?_
              refine z_icmp_ge (tgt := 107) X.1 X.2.1 d_H_init_85 (by decide) ⟨by omega, by omega⟩ ⟨by omega, by omega⟩ (fun h345 => False.elim (by omega)) (fun h345 => ?_)
              · refine lv_aload_n X.1 X.2.1 d_H_init_88 rfl (lv_at hl 1 rfl) ?_
                refine q_get X.1 X.2.1 X.2.2.1 i_H X.2.2.2.1 X.2.2.2.2 Y m338 e344 rfl 4 (by decide) (X.2.2.1 _ lk_H_42) (fun _ h9 => h9) rfl d_H_init_89 ?_
                refine lv_iload_n X.1 X.2.1 d_H_init_92 rfl (lv_at hl 0 rfl) ?_
                refine t_new (ci := 7) X Y S hA hF0 i_Pr t_Pr t_Pr_ok ck_H_40 mk_Pr ini_Pr rfl (fs := [.null, .null, .int (iI 0), .int (iI 0), .int (iI 0), .null, .null, .null, .null, .int (iI 0), .int (iI 0), .int (iI 0), .int (iI 0)]) (fun j hj => match j, hj with | 0, _ => rfl | 1, _ => rfl | 2, _ => rfl | 3, _ => rfl | 4, _ => rfl | 5, _ => rfl | 6, _ => rfl | 7, _ => rfl | 8, _ => rfl | 9, _ => rfl | 10, _ => rfl | 11, _ => rfl | 12, _ => rfl | n9 + 13, h9 => absurd (show n9 + 13 < 13 from h9) (by omega)) (Nat.le_of_ble_eq_true rfl) (Nat.le_of_ble_eq_true rfl) d_H_init_93 (fun q346 L346 f346 H Y S s346 nl346 m346 r346 e346 nz346 => ?_)
                have k347 : κ331 q101 = (21, 0) := tLe_k s346.2.2.1 k332
                have k348 : κ331 q111 = (13, 4000) := tLe_k s346.2.2.1 k333
                have k349 : κ331 q123 = (13, 12288) := tLe_k s346.2.2.1 k334
                have k350 : κ331 q137 = (13, 40) := tLe_k s346.2.2.1 k335
                have k351 : κ331 q153 = (15, 0) := tLe_k s346.2.2.1 k336
                have e352 : f346 h = .inr (0, [.ref q101, .ref q111, .ref q123, .ref q137, .ref q171, .ref q153, .null, .null, .null]) := (s346.2.2.2 _ ⟨m338, by rw [r339]; decide, by simp⟩).1.trans e344
                have m353 : h ∈ L346 := s346.2.1 _ m338
                have r354 : (κ331 h).1 = 0 := by rw [(s346.2.2.2 _ ⟨m338, by rw [r339]; decide, by simp⟩).2]; exact r339
                have e355 : okP κ331 E.2.2.1 12 6 17 (f346 q171) := okP_le s346.2.2.1 (by rw [(s346.2.2.2 _ ⟨m341, by rw [r342]; decide, by simp⟩).1]; exact o343)
                have m356 : q171 ∈ L346 := s346.2.1 _ m341
                have r357 : (κ331 q171).1 = 0 := by rw [(s346.2.2.2 _ ⟨m341, by rw [r342]; decide, by simp⟩).2]; exact r342
                refine lv_dup X.1 X.2.1 d_H_init_96 rfl ?_
                refine t_mk (x_runIN (As := []) (rest := [.ref q346, .int (iI 6), .ref q171]) (n := 0) X KR hml hl.1 (c_Pr_init l D E T κ331 L346 f346 H.size q346 m346 r346 e346 S.1) (ok_k X Y hA KS KR) (by decide) ks_Pr_init ki_Pr_init ini_Pr rfl ⟨rfl, rfl⟩ hd_Pr_init.2 ⟨Nat.le_of_ble_eq_true rfl, Nat.le_of_ble_eq_true rfl⟩ rfl (Nat.le_of_ble_eq_true rfl) d_H_init_97 ⟨Nat.le_of_ble_eq_true rfl, Nat.le_of_ble_eq_true rfl⟩) X Y hA S (by decide) nl346 (fun κ358 L358 f358 H locs Y S s358 p358 => ?_)
                have k358 := p358
                have k359 : κ358 q101 = (21, 0) := tLe_k s358.2.2.1 k347
                have k360 : κ358 q111 = (13, 4000) := tLe_k s358.2.2.1 k348
                have k361 : κ358 q123 = (13, 12288) := tLe_k s358.2.2.1 k349
                have k362 : κ358 q137 = (13, 40) := tLe_k s358.2.2.1 k350
                have k363 : κ358 q153 = (15, 0) := tLe_k s358.2.2.1 k351
                have e364 : f358 h = .inr (0, [.ref q101, .ref q111, .ref q123, .ref q137, .ref q171, .ref q153, .null, .null, .null]) := (s358.2.2.2 _ ⟨m353, by rw [r354]; decide, by simp only [List.mem_singleton]; exact (nz346 _ m338)⟩).1.trans e352
                have m365 : h ∈ L358 := s358.2.1 _ m353
                have r366 : (κ358 h).1 = 0 := by rw [(s358.2.2.2 _ ⟨m353, by rw [r354]; decide, by simp only [List.mem_singleton]; exact (nz346 _ m338)⟩).2]; exact r354
                have e367 : okP κ358 E.2.2.1 12 6 17 (f358 q171) := okP_le s358.2.2.1 (by rw [(s358.2.2.2 _ ⟨m356, by rw [r357]; decide, by simp only [List.mem_singleton]; exact (nz346 _ m341)⟩).1]; exact e355)
                have m368 : q171 ∈ L358 := s358.2.1 _ m356
                have r369 : (κ358 q171).1 = 0 := by rw [(s358.2.2.2 _ ⟨m356, by rw [r357]; decide, by simp only [List.mem_singleton]; exact (nz346 _ m341)⟩).2]; exact r357
                refine t_aast (ci := 7) (r := (R_Pr, F_Pr, 13)) (t0 := 2) X Y S m368 r369 e367 rfl k358 rfl (by omega) (by decide) (by decide) (fun h9 => nl171 h9.1) d_H_init_100 (fun f370 H locs Y S w370 o370 => ?_)
                have e371 : f370 h = .inr (0, [.ref q101, .ref q111, .ref q123, .ref q137, .ref q171, .ref q153, .null, .null, .null]) := (w370 _ (nz171 _ m167)).trans e364
                refine lv_iinc (v := iI 7) (lv' := [(1, .int (iI 7)), (0, .ref h)]) X.1 X.2.1 d_H_init_101 hl (k := 0) rfl (by decide) (by decide) rfl (fun ls hl => ?_)
                refine lv_goto (tgt := 82) X.1 X.2.1 d_H_init_104 (by decide) ?_
                refine lv_iload_n X.1 X.2.1 d_H_init_82 rfl (lv_at hl 0 rfl) ?_
                refine lv_bipush (v := iI 12) X.1 X.2.1 d_H_init_83 (by decide) ?_
                refine z_icmp_ge (tgt := 107) X.1 X.2.1 d_H_init_85 (by decide) ⟨by omega, by omega⟩ ⟨by omega, by omega⟩ (fun h372 => False.elim (by omega)) (fun h372 => ?_)
                · refine lv_aload_n X.1 X.2.1 d_H_init_88 rfl (lv_at hl 1 rfl) ?_
                  refine q_get X.1 X.2.1 X.2.2.1 i_H X.2.2.2.1 X.2.2.2.2 Y m365 e371 rfl 4 (by decide) (X.2.2.1 _ lk_H_42) (fun _ h9 => h9) rfl d_H_init_89 ?_
                  refine lv_iload_n X.1 X.2.1 d_H_init_92 rfl (lv_at hl 0 rfl) ?_
                  refine t_new (ci := 7) X Y S hA hF0 i_Pr t_Pr t_Pr_ok ck_H_40 mk_Pr ini_Pr rfl (fs := [.null, .null, .int (iI 0), .int (iI 0), .int (iI 0), .null, .null, .null, .null, .int (iI 0), .int (iI 0), .int (iI 0), .int (iI 0)]) (fun j hj => match j, hj with | 0, _ => rfl | 1, _ => rfl | 2, _ => rfl | 3, _ => rfl | 4, _ => rfl | 5, _ => rfl | 6, _ => rfl | 7, _ => rfl | 8, _ => rfl | 9, _ => rfl | 10, _ => rfl | 11, _ => rfl | 12, _ => rfl | n9 + 13, h9 => absurd (show n9 + 13 < 13 from h9) (by omega)) (Nat.le_of_ble_eq_true rfl) (Nat.le_of_ble_eq_true rfl) d_H_init_93 (fun q373 L373 f373 H Y S s373 nl373 m373 r373 e373 nz373 => ?_)
                  have k374 : κ358 q101 = (21, 0) := tLe_k s373.2.2.1 k359
                  have k375 : κ358 q111 = (13, 4000) := tLe_k s373.2.2.1 k360
                  have k376 : κ358 q123 = (13, 12288) := tLe_k s373.2.2.1 k361
                  have k377 : κ358 q137 = (13, 40) := tLe_k s373.2.2.1 k362
                  have k378 : κ358 q153 = (15, 0) := tLe_k s373.2.2.1 k363
                  have e379 : f373 h = .inr (0, [.ref q101, .ref q111, .ref q123, .ref q137, .ref q171, .ref q153, .null, .null, .null]) := (s373.2.2.2 _ ⟨m365, by rw [r366]; decide, by simp⟩).1.trans e371
                  have m380 : h ∈ L373 := s373.2.1 _ m365
                  have r381 : (κ358 h).1 = 0 := by rw [(s373.2.2.2 _ ⟨m365, by rw [r366]; decide, by simp⟩).2]; exact r366
                  have e382 : okP κ358 E.2.2.1 12 7 17 (f373 q171) := okP_le s373.2.2.1 (by rw [(s373.2.2.2 _ ⟨m368, by rw [r369]; decide, by simp⟩).1]; exact o370)
                  have m383 : q171 ∈ L373 := s373.2.1 _ m368
                  have r384 : (κ358 q171).1 = 0 := by rw [(s373.2.2.2 _ ⟨m368, by rw [r369]; decide, by simp⟩).2]; exact r369
                  refine lv_dup X.1 X.2.1 d_H_init_96 rfl ?_
                  refine t_mk (x_runIN (As := []) (rest := [.ref q373, .int (iI 7), .ref q171]) (n := 0) X KR hml hl.1 (c_Pr_init l D E T κ358 L373 f373 H.size q373 m373 r373 e373 S.1) (ok_k X Y hA KS KR) (by decide) ks_Pr_init ki_Pr_init ini_Pr rfl ⟨rfl, rfl⟩ hd_Pr_init.2 ⟨Nat.le_of_ble_eq_true rfl, Nat.le_of_ble_eq_true rfl⟩ rfl (Nat.le_of_ble_eq_true rfl) d_H_init_97 ⟨Nat.le_of_ble_eq_true rfl, Nat.le_of_ble_eq_true rfl⟩) X Y hA S (by decide) nl373 (fun κ385 L385 f385 H locs Y S s385 p385 => ?_)
                  have k385 := p385
                  have k386 : κ385 q101 = (21, 0) := tLe_k s385.2.2.1 k374
                  have k387 : κ385 q111 = (13, 4000) := tLe_k s385.2.2.1 k375
                  have k388 : κ385 q123 = (13, 12288) := tLe_k s385.2.2.1 k376
                  have k389 : κ385 q137 = (13, 40) := tLe_k s385.2.2.1 k377
                  have k390 : κ385 q153 = (15, 0) := tLe_k s385.2.2.1 k378
                  have e391 : f385 h = .inr (0, [.ref q101, .ref q111, .ref q123, .ref q137, .ref q171, .ref q153, .null, .null, .null]) := (s385.2.2.2 _ ⟨m380, by rw [r381]; decide, by simp only [List.mem_singleton]; exact (nz373 _ m365)⟩).1.trans e379
                  have m392 : h ∈ L385 := s385.2.1 _ m380
                  have r393 : (κ385 h).1 = 0 := by rw [(s385.2.2.2 _ ⟨m380, by rw [r381]; decide, by simp only [List.mem_singleton]; exact (nz373 _ m365)⟩).2]; exact r381
                  have e394 : okP κ385 E.2.2.1 12 7 17 (f385 q171) := okP_le s385.2.2.1 (by rw [(s385.2.2.2 _ ⟨m383, by rw [r384]; decide, by simp only [List.mem_singleton]; exact (nz373 _ m368)⟩).1]; exact e382)
                  have m395 : q171 ∈ L385 := s385.2.1 _ m383
                  have r396 : (κ385 q171).1 = 0 := by rw [(s385.2.2.2 _ ⟨m383, by rw [r384]; decide, by simp only [List.mem_singleton]; exact (nz373 _ m368)⟩).2]; exact r384
                  refine t_aast (ci := 7) (r := (R_Pr, F_Pr, 13)) (t0 := 2) X Y S m395 r396 e394 rfl k385 rfl (by omega) (by decide) (by decide) (fun h9 => nl171 h9.1) d_H_init_100 (fun f397 H locs Y S w397 o397 => ?_)
                  have e398 : f397 h = .inr (0, [.ref q101, .ref q111, .ref q123, .ref q137, .ref q171, .ref q153, .null, .null, .null]) := (w397 _ (nz171 _ m167)).trans e391
                  refine lv_iinc (v := iI 8) (lv' := [(1, .int (iI 8)), (0, .ref h)]) X.1 X.2.1 d_H_init_101 hl (k := 0) rfl (by decide) (by decide) rfl (fun ls hl => ?_)
                  refine lv_goto (tgt := 82) X.1 X.2.1 d_H_init_104 (by decide) ?_
                  refine lv_iload_n X.1 X.2.1 d_H_init_82 rfl (lv_at hl 0 rfl) ?_
                  refine lv_bipush (v := iI 12) X.1 X.2.1 d_H_init_83 (by decide) ?_
                  refine z_icmp_ge (tgt := 107) X.1 X.2.1 d_H_init_85 (by decide) ⟨by omega, by omega⟩ ⟨by omega, by omega⟩ (fun h399 => False.elim (by omega)) (fun h399 => ?_)
                  · refine lv_aload_n X.1 X.2.1 d_H_init_88 rfl (lv_at hl 1 rfl) ?_
                    refine q_get X.1 X.2.1 X.2.2.1 i_H X.2.2.2.1 X.2.2.2.2 Y m392 e398 rfl 4 (by decide) (X.2.2.1 _ lk_H_42) (fun _ h9 => h9) rfl d_H_init_89 ?_
                    refine lv_iload_n X.1 X.2.1 d_H_init_92 rfl (lv_at hl 0 rfl) ?_
                    refine t_new (ci := 7) X Y S hA hF0 i_Pr t_Pr t_Pr_ok ck_H_40 mk_Pr ini_Pr rfl (fs := [.null, .null, .int (iI 0), .int (iI 0), .int (iI 0), .null, .null, .null, .null, .int (iI 0), .int (iI 0), .int (iI 0), .int (iI 0)]) (fun j hj => match j, hj with | 0, _ => rfl | 1, _ => rfl | 2, _ => rfl | 3, _ => rfl | 4, _ => rfl | 5, _ => rfl | 6, _ => rfl | 7, _ => rfl | 8, _ => rfl | 9, _ => rfl | 10, _ => rfl | 11, _ => rfl | 12, _ => rfl | n9 + 13, h9 => absurd (show n9 + 13 < 13 from h9) (by omega)) (Nat.le_of_ble_eq_true rfl) (Nat.le_of_ble_eq_true rfl) d_H_init_93 (fun q400 L400 f400 H Y S s400 nl400 m400 r400 e400 nz400 => ?_)
                    have k401 : κ385 q101 = (21, 0) := tLe_k s400.2.2.1 k386
                    have k402 : κ385 q111 = (13, 4000) := tLe_k s400.2.2.1 k387
                    have k403 : κ385 q123 = (13, 12288) := tLe_k s400.2.2.1 k388
                    have k404 : κ385 q137 = (13, 40) := tLe_k s400.2.2.1 k389
                    have k405 : κ385 q153 = (15, 0) := tLe_k s400.2.2.1 k390
                    have e406 : f400 h = .inr (0, [.ref q101, .ref q111, .ref q123, .ref q137, .ref q171, .ref q153, .null, .null, .null]) := (s400.2.2.2 _ ⟨m392, by rw [r393]; decide, by simp⟩).1.trans e398
                    have m407 : h ∈ L400 := s400.2.1 _ m392
                    have r408 : (κ385 h).1 = 0 := by rw [(s400.2.2.2 _ ⟨m392, by rw [r393]; decide, by simp⟩).2]; exact r393
                    have e409 : okP κ385 E.2.2.1 12 8 17 (f400 q171) := okP_le s400.2.2.1 (by rw [(s400.2.2.2 _ ⟨m395, by rw [r396]; decide, by simp⟩).1]; exact o397)
                    have m410 : q171 ∈ L400 := s400.2.1 _ m395
                    have r411 : (κ385 q171).1 = 0 := by rw [(s400.2.2.2 _ ⟨m395, by rw [r396]; decide, by simp⟩).2]; exact r396
                    refine lv_dup X.1 X.2.1 d_H_init_96 rfl ?_
                    refine t_mk (x_runIN (As := []) (rest := [.ref q400, .int (iI 8), .ref q171]) (n := 0) X KR hml hl.1 (c_Pr_init l D E T κ385 L400 f400 H.size q400 m400 r400 e400 S.1) (ok_k X Y hA KS KR) (by decide) ks_Pr_init ki_Pr_init ini_Pr rfl ⟨rfl, rfl⟩ hd_Pr_init.2 ⟨Nat.le_of_ble_eq_true rfl, Nat.le_of_ble_eq_true rfl⟩ rfl (Nat.le_of_ble_eq_true rfl) d_H_init_97 ⟨Nat.le_of_ble_eq_true rfl, Nat.le_of_ble_eq_true rfl⟩) X Y hA S (by decide) nl400 (fun κ412 L412 f412 H locs Y S s412 p412 => ?_)
                    have k412 := p412
                    have k413 : κ412 q101 = (21, 0) := tLe_k s412.2.2.1 k401
                    have k414 : κ412 q111 = (13, 4000) := tLe_k s412.2.2.1 k402
                    have k415 : κ412 q123 = (13, 12288) := tLe_k s412.2.2.1 k403
                    have k416 : κ412 q137 = (13, 40) := tLe_k s412.2.2.1 k404
                    have k417 : κ412 q153 = (15, 0) := tLe_k s412.2.2.1 k405
                    have e418 : f412 h = .inr (0, [.ref q101, .ref q111, .ref q123, .ref q137, .ref q171, .ref q153, .null, .null, .null]) := (s412.2.2.2 _ ⟨m407, by rw [r408]; decide, by simp only [List.mem_singleton]; exact (nz400 _ m392)⟩).1.trans e406
                    have m419 : h ∈ L412 := s412.2.1 _ m407
                    have r420 : (κ412 h).1 = 0 := by rw [(s412.2.2.2 _ ⟨m407, by rw [r408]; decide, by simp only [List.mem_singleton]; exact (nz400 _ m392)⟩).2]; exact r408
                    have e421 : okP κ412 E.2.2.1 12 8 17 (f412 q171) := okP_le s412.2.2.1 (by rw [(s412.2.2.2 _ ⟨m410, by rw [r411]; decide, by simp only [List.mem_singleton]; exact (nz400 _ m395)⟩).1]; exact e409)
                    have m422 : q171 ∈ L412 := s412.2.1 _ m410
                    have r423 : (κ412 q171).1 = 0 := by rw [(s412.2.2.2 _ ⟨m410, by rw [r411]; decide, by simp only [List.mem_singleton]; exact (nz400 _ m395)⟩).2]; exact r411
                    refine t_aast (ci := 7) (r := (R_Pr, F_Pr, 13)) (t0 := 2) X Y S m422 r423 e421 rfl k412 rfl (by omega) (by decide) (by decide) (fun h9 => nl171 h9.1) d_H_init_100 (fun f424 H locs Y S w424 o424 => ?_)
                    have e425 : f424 h = .inr (0, [.ref q101, .ref q111, .ref q123, .ref q137, .ref q171, .ref q153, .null, .null, .null]) := (w424 _ (nz171 _ m167)).trans e418
                    refine lv_iinc (v := iI 9) (lv' := [(1, .int (iI 9)), (0, .ref h)]) X.1 X.2.1 d_H_init_101 hl (k := 0) rfl (by decide) (by decide) rfl (fun ls hl => ?_)
                    refine lv_goto (tgt := 82) X.1 X.2.1 d_H_init_104 (by decide) ?_
                    refine lv_iload_n X.1 X.2.1 d_H_init_82 rfl (lv_at hl 0 rfl) ?_
                    refine lv_bipush (v := iI 12) X.1 X.2.1 d_H_init_83 (by decide) ?_
                    refine z_icmp_ge (tgt := 107) X.1 X.2.1 d_H_init_85 (by decide) ⟨by omega, by omega⟩ ⟨by omega, by omega⟩ (fun h426 => False.elim (by omega)) (fun h426 => ?_)
                    · refine lv_aload_n X.1 X.2.1 d_H_init_88 rfl (lv_at hl 1 rfl) ?_
                      refine q_get X.1 X.2.1 X.2.2.1 i_H X.2.2.2.1 X.2.2.2.2 Y m419 e425 rfl 4 (by decide) (X.2.2.1 _ lk_H_42) (fun _ h9 => h9) rfl d_H_init_89 ?_
                      refine lv_iload_n X.1 X.2.1 d_H_init_92 rfl (lv_at hl 0 rfl) ?_
                      refine t_new (ci := 7) X Y S hA hF0 i_Pr t_Pr t_Pr_ok ck_H_40 mk_Pr ini_Pr rfl (fs := [.null, .null, .int (iI 0), .int (iI 0), .int (iI 0), .null, .null, .null, .null, .int (iI 0), .int (iI 0), .int (iI 0), .int (iI 0)]) (fun j hj => match j, hj with | 0, _ => rfl | 1, _ => rfl | 2, _ => rfl | 3, _ => rfl | 4, _ => rfl | 5, _ => rfl | 6, _ => rfl | 7, _ => rfl | 8, _ => rfl | 9, _ => rfl | 10, _ => rfl | 11, _ => rfl | 12, _ => rfl | n9 + 13, h9 => absurd (show n9 + 13 < 13 from h9) (by omega)) (Nat.le_of_ble_eq_true rfl) (Nat.le_of_ble_eq_true rfl) d_H_init_93 (fun q427 L427 f427 H Y S s427 nl427 m427 r427 e427 nz427 => ?_)
                      have k428 : κ412 q101 = (21, 0) := tLe_k s427.2.2.1 k413
                      have k429 : κ412 q111 = (13, 4000) := tLe_k s427.2.2.1 k414
                      have k430 : κ412 q123 = (13, 12288) := tLe_k s427.2.2.1 k415
                      have k431 : κ412 q137 = (13, 40) := tLe_k s427.2.2.1 k416
                      have k432 : κ412 q153 = (15, 0) := tLe_k s427.2.2.1 k417
                      have e433 : f427 h = .inr (0, [.ref q101, .ref q111, .ref q123, .ref q137, .ref q171, .ref q153, .null, .null, .null]) := (s427.2.2.2 _ ⟨m419, by rw [r420]; decide, by simp⟩).1.trans e425
                      have m434 : h ∈ L427 := s427.2.1 _ m419
                      have r435 : (κ412 h).1 = 0 := by rw [(s427.2.2.2 _ ⟨m419, by rw [r420]; decide, by simp⟩).2]; exact r420
                      have e436 : okP κ412 E.2.2.1 12 9 17 (f427 q171) := okP_le s427.2.2.1 (by rw [(s427.2.2.2 _ ⟨m422, by rw [r423]; decide, by simp⟩).1]; exact o424)
                      have m437 : q171 ∈ L427 := s427.2.1 _ m422
                      have r438 : (κ412 q171).1 = 0 := by rw [(s427.2.2.2 _ ⟨m422, by rw [r423]; decide, by simp⟩).2]; exact r423
                      refine lv_dup X.1 X.2.1 d_H_init_96 rfl ?_
                      refine t_mk (x_runIN (As := []) (rest := [.ref q427, .int (iI 9), .ref q171]) (n := 0) X KR hml hl.1 (c_Pr_init l D E T κ412 L427 f427 H.size q427 m427 r427 e427 S.1) (ok_k X Y hA KS KR) (by decide) ks_Pr_init ki_Pr_init ini_Pr rfl ⟨rfl, rfl⟩ hd_Pr_init.2 ⟨Nat.le_of_ble_eq_true rfl, Nat.le_of_ble_eq_true rfl⟩ rfl (Nat.le_of_ble_eq_true rfl) d_H_init_97 ⟨Nat.le_of_ble_eq_true rfl, Nat.le_of_ble_eq_true rfl⟩) X Y hA S (by decide) nl427 (fun κ439 L439 f439 H locs Y S s439 p439 => ?_)
                      have k439 := p439
                      have k440 : κ439 q101 = (21, 0) := tLe_k s439.2.2.1 k428
                      have k441 : κ439 q111 = (13, 4000) := tLe_k s439.2.2.1 k429
                      have k442 : κ439 q123 = (13, 12288) := tLe_k s439.2.2.1 k430
                      have k443 : κ439 q137 = (13, 40) := tLe_k s439.2.2.1 k431
                      have k444 : κ439 q153 = (15, 0) := tLe_k s439.2.2.1 k432
                      have e445 : f439 h = .inr (0, [.ref q101, .ref q111, .ref q123, .ref q137, .ref q171, .ref q153, .null, .null, .null]) := (s439.2.2.2 _ ⟨m434, by rw [r435]; decide, by simp only [List.mem_singleton]; exact (nz427 _ m419)⟩).1.trans e433
                      have m446 : h ∈ L439 := s439.2.1 _ m434
                      have r447 : (κ439 h).1 = 0 := by rw [(s439.2.2.2 _ ⟨m434, by rw [r435]; decide, by simp only [List.mem_singleton]; exact (nz427 _ m419)⟩).2]; exact r435
                      have e448 : okP κ439 E.2.2.1 12 9 17 (f439 q171) := okP_le s439.2.2.1 (by rw [(s439.2.2.2 _ ⟨m437, by rw [r438]; decide, by simp only [List.mem_singleton]; exact (nz427 _ m422)⟩).1]; exact e436)
                      have m449 : q171 ∈ L439 := s439.2.1 _ m437
                      have r450 : (κ439 q171).1 = 0 := by rw [(s439.2.2.2 _ ⟨m437, by rw [r438]; decide, by simp only [List.mem_singleton]; exact (nz427 _ m422)⟩).2]; exact r438
                      refine t_aast (ci := 7) (r := (R_Pr, F_Pr, 13)) (t0 := 2) X Y S m449 r450 e448 rfl k439 rfl (by omega) (by decide) (by decide) (fun h9 => nl171 h9.1) d_H_init_100 (fun f451 H locs Y S w451 o451 => ?_)
                      have e452 : f451 h = .inr (0, [.ref q101, .ref q111, .ref q123, .ref q137, .ref q171, .ref q153, .null, .null, .null]) := (w451 _ (nz171 _ m167)).trans e445
                      refine lv_iinc (v := iI 10) (lv' := [(1, .int (iI 10)), (0, .ref h)]) X.1 X.2.1 d_H_init_101 hl (k := 0) rfl (by decide) (by decide) rfl (fun ls hl => ?_)
                      refine lv_goto (tgt := 82) X.1 X.2.1 d_H_init_104 (by decide) ?_
                      refine lv_iload_n X.1 X.2.1 d_H_init_82 rfl (lv_at hl 0 rfl) ?_
                      refine lv_bipush (v := iI 12) X.1 X.2.1 d_H_init_83 (by decide) ?_
                      refine z_icmp_ge (tgt := 107) X.1 X.2.1 d_H_init_85 (by decide) ⟨by omega, by omega⟩ ⟨by omega, by omega⟩ (fun h453 => False.elim (by omega)) (fun h453 => ?_)
                      · refine lv_aload_n X.1 X.2.1 d_H_init_88 rfl (lv_at hl 1 rfl) ?_
                        refine q_get X.1 X.2.1 X.2.2.1 i_H X.2.2.2.1 X.2.2.2.2 Y m446 e452 rfl 4 (by decide) (X.2.2.1 _ lk_H_42) (fun _ h9 => h9) rfl d_H_init_89 ?_
                        refine lv_iload_n X.1 X.2.1 d_H_init_92 rfl (lv_at hl 0 rfl) ?_
                        refine t_new (ci := 7) X Y S hA hF0 i_Pr t_Pr t_Pr_ok ck_H_40 mk_Pr ini_Pr rfl (fs := [.null, .null, .int (iI 0), .int (iI 0), .int (iI 0), .null, .null, .null, .null, .int (iI 0), .int (iI 0), .int (iI 0), .int (iI 0)]) (fun j hj => match j, hj with | 0, _ => rfl | 1, _ => rfl | 2, _ => rfl | 3, _ => rfl | 4, _ => rfl | 5, _ => rfl | 6, _ => rfl | 7, _ => rfl | 8, _ => rfl | 9, _ => rfl | 10, _ => rfl | 11, _ => rfl | 12, _ => rfl | n9 + 13, h9 => absurd (show n9 + 13 < 13 from h9) (by omega)) (Nat.le_of_ble_eq_true rfl) (Nat.le_of_ble_eq_true rfl) d_H_init_93 (fun q454 L454 f454 H Y S s454 nl454 m454 r454 e454 nz454 => ?_)
                        have k455 : κ439 q101 = (21, 0) := tLe_k s454.2.2.1 k440
                        have k456 : κ439 q111 = (13, 4000) := tLe_k s454.2.2.1 k441
                        have k457 : κ439 q123 = (13, 12288) := tLe_k s454.2.2.1 k442
                        have k458 : κ439 q137 = (13, 40) := tLe_k s454.2.2.1 k443
                        have k459 : κ439 q153 = (15, 0) := tLe_k s454.2.2.1 k444
                        have e460 : f454 h = .inr (0, [.ref q101, .ref q111, .ref q123, .ref q137, .ref q171, .ref q153, .null, .null, .null]) := (s454.2.2.2 _ ⟨m446, by rw [r447]; decide, by simp⟩).1.trans e452
                        have m461 : h ∈ L454 := s454.2.1 _ m446
                        have r462 : (κ439 h).1 = 0 := by rw [(s454.2.2.2 _ ⟨m446, by rw [r447]; decide, by simp⟩).2]; exact r447
                        have e463 : okP κ439 E.2.2.1 12 10 17 (f454 q171) := okP_le s454.2.2.1 (by rw [(s454.2.2.2 _ ⟨m449, by rw [r450]; decide, by simp⟩).1]; exact o451)
                        have m464 : q171 ∈ L454 := s454.2.1 _ m449
                        have r465 : (κ439 q171).1 = 0 := by rw [(s454.2.2.2 _ ⟨m449, by rw [r450]; decide, by simp⟩).2]; exact r450
                        refine lv_dup X.1 X.2.1 d_H_init_96 rfl ?_
                        refine t_mk (x_runIN (As := []) (rest := [.ref q454, .int (iI 10), .ref q171]) (n := 0) X KR hml hl.1 (c_Pr_init l D E T κ439 L454 f454 H.size q454 m454 r454 e454 S.1) (ok_k X Y hA KS KR) (by decide) ks_Pr_init ki_Pr_init ini_Pr rfl ⟨rfl, rfl⟩ hd_Pr_init.2 ⟨Nat.le_of_ble_eq_true rfl, Nat.le_of_ble_eq_true rfl⟩ rfl (Nat.le_of_ble_eq_true rfl) d_H_init_97 ⟨Nat.le_of_ble_eq_true rfl, Nat.le_of_ble_eq_true rfl⟩) X Y hA S (by decide) nl454 (fun κ466 L466 f466 H locs Y S s466 p466 => ?_)
                        have k466 := p466
                        have k467 : κ466 q101 = (21, 0) := tLe_k s466.2.2.1 k455
                        have k468 : κ466 q111 = (13, 4000) := tLe_k s466.2.2.1 k456
                        have k469 : κ466 q123 = (13, 12288) := tLe_k s466.2.2.1 k457
                        have k470 : κ466 q137 = (13, 40) := tLe_k s466.2.2.1 k458
                        have k471 : κ466 q153 = (15, 0) := tLe_k s466.2.2.1 k459
                        have e472 : f466 h = .inr (0, [.ref q101, .ref q111, .ref q123, .ref q137, .ref q171, .ref q153, .null, .null, .null]) := (s466.2.2.2 _ ⟨m461, by rw [r462]; decide, by simp only [List.mem_singleton]; exact (nz454 _ m446)⟩).1.trans e460
                        have m473 : h ∈ L466 := s466.2.1 _ m461
                        have r474 : (κ466 h).1 = 0 := by rw [(s466.2.2.2 _ ⟨m461, by rw [r462]; decide, by simp only [List.mem_singleton]; exact (nz454 _ m446)⟩).2]; exact r462
                        have e475 : okP κ466 E.2.2.1 12 10 17 (f466 q171) := okP_le s466.2.2.1 (by rw [(s466.2.2.2 _ ⟨m464, by rw [r465]; decide, by simp only [List.mem_singleton]; exact (nz454 _ m449)⟩).1]; exact e463)
                        have m476 : q171 ∈ L466 := s466.2.1 _ m464
                        have r477 : (κ466 q171).1 = 0 := by rw [(s466.2.2.2 _ ⟨m464, by rw [r465]; decide, by simp only [List.mem_singleton]; exact (nz454 _ m449)⟩).2]; exact r465
                        refine t_aast (ci := 7) (r := (R_Pr, F_Pr, 13)) (t0 := 2) X Y S m476 r477 e475 rfl k466 rfl (by omega) (by decide) (by decide) (fun h9 => nl171 h9.1) d_H_init_100 (fun f478 H locs Y S w478 o478 => ?_)
                        have e479 : f478 h = .inr (0, [.ref q101, .ref q111, .ref q123, .ref q137, .ref q171, .ref q153, .null, .null, .null]) := (w478 _ (nz171 _ m167)).trans e472
                        refine lv_iinc (v := iI 11) (lv' := [(1, .int (iI 11)), (0, .ref h)]) X.1 X.2.1 d_H_init_101 hl (k := 0) rfl (by decide) (by decide) rfl (fun ls hl => ?_)
                        refine lv_goto (tgt := 82) X.1 X.2.1 d_H_init_104 (by decide) ?_
                        refine lv_iload_n X.1 X.2.1 d_H_init_82 rfl (lv_at hl 0 rfl) ?_
                        refine lv_bipush (v := iI 12) X.1 X.2.1 d_H_init_83 (by decide) ?_
                        refine z_icmp_ge (tgt := 107) X.1 X.2.1 d_H_init_85 (by decide) ⟨by omega, by omega⟩ ⟨by omega, by omega⟩ (fun h480 => False.elim (by omega)) (fun h480 => ?_)
                        · refine lv_aload_n X.1 X.2.1 d_H_init_88 rfl (lv_at hl 1 rfl) ?_
                          refine q_get X.1 X.2.1 X.2.2.1 i_H X.2.2.2.1 X.2.2.2.2 Y m473 e479 rfl 4 (by decide) (X.2.2.1 _ lk_H_42) (fun _ h9 => h9) rfl d_H_init_89 ?_
                          refine lv_iload_n X.1 X.2.1 d_H_init_92 rfl (lv_at hl 0 rfl) ?_
                          refine t_new (ci := 7) X Y S hA hF0 i_Pr t_Pr t_Pr_ok ck_H_40 mk_Pr ini_Pr rfl (fs := [.null, .null, .int (iI 0), .int (iI 0), .int (iI 0), .null, .null, .null, .null, .int (iI 0), .int (iI 0), .int (iI 0), .int (iI 0)]) (fun j hj => match j, hj with | 0, _ => rfl | 1, _ => rfl | 2, _ => rfl | 3, _ => rfl | 4, _ => rfl | 5, _ => rfl | 6, _ => rfl | 7, _ => rfl | 8, _ => rfl | 9, _ => rfl | 10, _ => rfl | 11, _ => rfl | 12, _ => rfl | n9 + 13, h9 => absurd (show n9 + 13 < 13 from h9) (by omega)) (Nat.le_of_ble_eq_true rfl) (Nat.le_of_ble_eq_true rfl) d_H_init_93 (fun q481 L481 f481 H Y S s481 nl481 m481 r481 e481 nz481 => ?_)
                          have k482 : κ466 q101 = (21, 0) := tLe_k s481.2.2.1 k467
                          have k483 : κ466 q111 = (13, 4000) := tLe_k s481.2.2.1 k468
                          have k484 : κ466 q123 = (13, 12288) := tLe_k s481.2.2.1 k469
                          have k485 : κ466 q137 = (13, 40) := tLe_k s481.2.2.1 k470
                          have k486 : κ466 q153 = (15, 0) := tLe_k s481.2.2.1 k471
                          have e487 : f481 h = .inr (0, [.ref q101, .ref q111, .ref q123, .ref q137, .ref q171, .ref q153, .null, .null, .null]) := (s481.2.2.2 _ ⟨m473, by rw [r474]; decide, by simp⟩).1.trans e479
                          have m488 : h ∈ L481 := s481.2.1 _ m473
                          have r489 : (κ466 h).1 = 0 := by rw [(s481.2.2.2 _ ⟨m473, by rw [r474]; decide, by simp⟩).2]; exact r474
                          have e490 : okP κ466 E.2.2.1 12 11 17 (f481 q171) := okP_le s481.2.2.1 (by rw [(s481.2.2.2 _ ⟨m476, by rw [r477]; decide, by simp⟩).1]; exact o478)
                          have m491 : q171 ∈ L481 := s481.2.1 _ m476
                          have r492 : (κ466 q171).1 = 0 := by rw [(s481.2.2.2 _ ⟨m476, by rw [r477]; decide, by simp⟩).2]; exact r477
                          refine lv_dup X.1 X.2.1 d_H_init_96 rfl ?_
                          refine t_mk (x_runIN (As := []) (rest := [.ref q481, .int (iI 11), .ref q171]) (n := 0) X KR hml hl.1 (c_Pr_init l D E T κ466 L481 f481 H.size q481 m481 r481 e481 S.1) (ok_k X Y hA KS KR) (by decide) ks_Pr_init ki_Pr_init ini_Pr rfl ⟨rfl, rfl⟩ hd_Pr_init.2 ⟨Nat.le_of_ble_eq_true rfl, Nat.le_of_ble_eq_true rfl⟩ rfl (Nat.le_of_ble_eq_true rfl) d_H_init_97 ⟨Nat.le_of_ble_eq_true rfl, Nat.le_of_ble_eq_true rfl⟩) X Y hA S (by decide) nl481 (fun κ493 L493 f493 H locs Y S s493 p493 => ?_)
                          have k493 := p493
                          have k494 : κ493 q101 = (21, 0) := tLe_k s493.2.2.1 k482
                          have k495 : κ493 q111 = (13, 4000) := tLe_k s493.2.2.1 k483
                          have k496 : κ493 q123 = (13, 12288) := tLe_k s493.2.2.1 k484
                          have k497 : κ493 q137 = (13, 40) := tLe_k s493.2.2.1 k485
                          have k498 : κ493 q153 = (15, 0) := tLe_k s493.2.2.1 k486
                          have e499 : f493 h = .inr (0, [.ref q101, .ref q111, .ref q123, .ref q137, .ref q171, .ref q153, .null, .null, .null]) := (s493.2.2.2 _ ⟨m488, by rw [r489]; decide, by simp only [List.mem_singleton]; exact (nz481 _ m473)⟩).1.trans e487
                          have m500 : h ∈ L493 := s493.2.1 _ m488
                          have r501 : (κ493 h).1 = 0 := by rw [(s493.2.2.2 _ ⟨m488, by rw [r489]; decide, by simp only [List.mem_singleton]; exact (nz481 _ m473)⟩).2]; exact r489
                          have e502 : okP κ493 E.2.2.1 12 11 17 (f493 q171) := okP_le s493.2.2.1 (by rw [(s493.2.2.2 _ ⟨m491, by rw [r492]; decide, by simp only [List.mem_singleton]; exact (nz481 _ m476)⟩).1]; exact e490)
                          have m503 : q171 ∈ L493 := s493.2.1 _ m491
                          have r504 : (κ493 q171).1 = 0 := by rw [(s493.2.2.2 _ ⟨m491, by rw [r492]; decide, by simp only [List.mem_singleton]; exact (nz481 _ m476)⟩).2]; exact r492
                          refine t_aast (ci := 7) (r := (R_Pr, F_Pr, 13)) (t0 := 2) X Y S m503 r504 e502 rfl k493 rfl (by omega) (by decide) (by decide) (fun h9 => nl171 h9.1) d_H_init_100 (fun f505 H locs Y S w505 o505 => ?_)
                          have e506 : f505 h = .inr (0, [.ref q101, .ref q111, .ref q123, .ref q137, .ref q171, .ref q153, .null, .null, .null]) := (w505 _ (nz171 _ m167)).trans e499
                          refine lv_iinc (v := iI 12) (lv' := [(1, .int (iI 12)), (0, .ref h)]) X.1 X.2.1 d_H_init_101 hl (k := 0) rfl (by decide) (by decide) rfl (fun ls hl => ?_)
                          refine lv_goto (tgt := 82) X.1 X.2.1 d_H_init_104 (by decide) ?_
                          refine lv_iload_n X.1 X.2.1 d_H_init_82 rfl (lv_at hl 0 rfl) ?_
                          refine lv_bipush (v := iI 12) X.1 X.2.1 d_H_init_83 (by decide) ?_
                          refine z_icmp_ge (tgt := 107) X.1 X.2.1 d_H_init_85 (by decide) ⟨by omega, by omega⟩ ⟨by omega, by omega⟩ (fun h507 => ?_) (fun h507 => False.elim (by omega))
                          · refine lv_aload_n X.1 X.2.1 d_H_init_107 rfl (lv_at hl 1 rfl) ?_
                            refine lv_iconst (v := iI 4) X.1 X.2.1 d_H_init_108 (by decide) ?_
                            refine t_anew X Y S hA hF0 ck_H_47 (KR.2.2.2 _ (by decide)) (t0 := 3) (c2 := 12) (N := 4) rfl (by omega) (by decide) (Nat.le_of_ble_eq_true rfl) (Nat.le_of_ble_eq_true rfl) d_H_init_109 (fun q508 L508 f508 H Y S s508 nl508 m508 r508 e508 nz508 => ?_)
                            have k509 : κ493 q101 = (21, 0) := tLe_k s508.2.2.1 k494
                            have k510 : κ493 q111 = (13, 4000) := tLe_k s508.2.2.1 k495
                            have k511 : κ493 q123 = (13, 12288) := tLe_k s508.2.2.1 k496
                            have k512 : κ493 q137 = (13, 40) := tLe_k s508.2.2.1 k497
                            have k513 : κ493 q153 = (15, 0) := tLe_k s508.2.2.1 k498
                            have e514 : f508 h = .inr (0, [.ref q101, .ref q111, .ref q123, .ref q137, .ref q171, .ref q153, .null, .null, .null]) := (s508.2.2.2 _ ⟨m500, by rw [r501]; decide, by simp⟩).1.trans e506
                            have m515 : h ∈ L508 := s508.2.1 _ m500
                            have r516 : (κ493 h).1 = 0 := by rw [(s508.2.2.2 _ ⟨m500, by rw [r501]; decide, by simp⟩).2]; exact r501
                            have e517 : okP κ493 E.2.2.1 12 12 17 (f508 q171) := okP_le s508.2.2.1 (by rw [(s508.2.2.2 _ ⟨m503, by rw [r504]; decide, by simp⟩).1]; exact o505)
                            have m518 : q171 ∈ L508 := s508.2.1 _ m503
                            have r519 : (κ493 q171).1 = 0 := by rw [(s508.2.2.2 _ ⟨m503, by rw [r504]; decide, by simp⟩).2]; exact r504
                            refine q_putF X.1 X.2.1 X.2.2.1 i_H t_H t_H_ok n_H X.2.2.2.1 X.2.2.2.2 Y m515 e514 rfl 7 (by decide) (X.2.2.1 _ lk_H_49) (fun _ h9 => h9) rfl hin rfl (t_H_ok 7 (by decide)) rfl rfl (Nat.le_of_ble_eq_true rfl) d_H_init_112 (fun H locs Y => ?_)
                            have Y : pH D cCl (pA L sz) s.heap L508 (va_up f508 h (.inr (0, [.ref q101, .ref q111, .ref q123, .ref q137, .ref q171, .ref q153, .null, .ref q508, .null]))) H locs := Y
                            have S := tS_up (x := .inr (0, [.ref q101, .ref q111, .ref q123, .ref q137, .ref q171, .ref q153, .null, .ref q508, .null])) S (fun h9 => h9.2.2 (List.mem_singleton.mpr rfl)) (fun h9 => absurd r516 h9)
                            have e521 : (va_up f508 h (.inr (0, [.ref q101, .ref q111, .ref q123, .ref q137, .ref q171, .ref q153, .null, .ref q508, .null]))) h = .inr (0, [.ref q101, .ref q111, .ref q123, .ref q137, .ref q171, .ref q153, .null, .ref q508, .null]) := q_up
                            have e522 : okP κ493 E.2.2.1 12 12 17 ((va_up f508 h (.inr (0, [.ref q101, .ref q111, .ref q123, .ref q137, .ref q171, .ref q153, .null, .ref q508, .null]))) q171) := by rw [q_ne (nz171 _ m167).symm]; exact e517
                            have e523 : okP κ493 E.2.2.2.1 4 0 12 ((va_up f508 h (.inr (0, [.ref q101, .ref q111, .ref q123, .ref q137, .ref q171, .ref q153, .null, .ref q508, .null]))) q508) := by rw [q_ne (nz508 _ m500).symm]; exact e508
                            generalize va_up f508 h (.inr (0, [.ref q101, .ref q111, .ref q123, .ref q137, .ref q171, .ref q153, .null, .ref q508, .null])) = f520 at Y S e521 e522 e523
                            refine lv_iconst (v := iI 0) X.1 X.2.1 d_H_init_115 (by decide) ?_
                            refine lv_istore_n (lv' := [(1, .int (iI 0)), (0, .ref h)]) X.1 X.2.1 d_H_init_116 rfl hl (by decide) rfl (fun ls hl => ?_)
                            refine lv_iload_n X.1 X.2.1 d_H_init_117 rfl (lv_at hl 0 rfl) ?_
                            refine lv_iconst (v := iI 4) X.1 X.2.1 d_H_init_118 (by decide) ?_
                            refine z_icmp_ge (tgt := 145) X.1 X.2.1 d_H_init_119 (by decide) ⟨by omega, by omega⟩ ⟨by omega, by omega⟩ (fun h524 => False.elim (by omega)) (fun h524 => ?_)
                            · refine lv_aload_n X.1 X.2.1 d_H_init_122 rfl (lv_at hl 1 rfl) ?_
                              refine q_get X.1 X.2.1 X.2.2.1 i_H X.2.2.2.1 X.2.2.2.2 Y m515 e521 rfl 7 (by decide) (X.2.2.1 _ lk_H_49) (fun _ h9 => h9) rfl d_H_init_123 ?_
                              refine lv_iload_n X.1 X.2.1 d_H_init_126 rfl (lv_at hl 0 rfl) ?_
                              refine t_new (ci := 2) X Y S hA hF0 i_Ag t_Ag t_Ag_ok ck_H_47 mk_Ag ini_Ag rfl (fs := [.null, .null, .int (iI 0), .int (iI 0), .null, .null, .null, .int (iI 0), .int (iI 0), .int (iI 0), .int (iI 0), .int (iI 0), .null, .null, .null, .int (iI 0), .int (iI 0), .long 0, .null, .long 0, .int (iI 0)]) (fun j hj => match j, hj with | 0, _ => rfl | 1, _ => rfl | 2, _ => rfl | 3, _ => rfl | 4, _ => rfl | 5, _ => rfl | 6, _ => rfl | 7, _ => rfl | 8, _ => rfl | 9, _ => rfl | 10, _ => rfl | 11, _ => rfl | 12, _ => rfl | 13, _ => rfl | 14, _ => rfl | 15, _ => rfl | 16, _ => rfl | 17, _ => rfl | 18, _ => rfl | 19, _ => rfl | 20, _ => rfl | n9 + 21, h9 => absurd (show n9 + 21 < 21 from h9) (by omega)) (Nat.le_of_ble_eq_true rfl) (Nat.le_of_ble_eq_true rfl) d_H_init_127 (fun q525 L525 f525 H Y S s525 nl525 m525 r525 e525 nz525 => ?_)
                              have k526 : κ493 q101 = (21, 0) := tLe_k s525.2.2.1 k509
                              have k527 : κ493 q111 = (13, 4000) := tLe_k s525.2.2.1 k510
                              have k528 : κ493 q123 = (13, 12288) := tLe_k s525.2.2.1 k511
                              have k529 : κ493 q137 = (13, 40) := tLe_k s525.2.2.1 k512
                              have k530 : κ493 q153 = (15, 0) := tLe_k s525.2.2.1 k513
                              have e531 : f525 h = .inr (0, [.ref q101, .ref q111, .ref q123, .ref q137, .ref q171, .ref q153, .null, .ref q508, .null]) := (s525.2.2.2 _ ⟨m515, by rw [r516]; decide, by simp⟩).1.trans e521
                              have m532 : h ∈ L525 := s525.2.1 _ m515
                              have r533 : (κ493 h).1 = 0 := by rw [(s525.2.2.2 _ ⟨m515, by rw [r516]; decide, by simp⟩).2]; exact r516
                              have e534 : okP κ493 E.2.2.1 12 12 17 (f525 q171) := okP_le s525.2.2.1 (by rw [(s525.2.2.2 _ ⟨m518, by rw [r519]; decide, by simp⟩).1]; exact e522)
                              have m535 : q171 ∈ L525 := s525.2.1 _ m518
                              have r536 : (κ493 q171).1 = 0 := by rw [(s525.2.2.2 _ ⟨m518, by rw [r519]; decide, by simp⟩).2]; exact r519
                              have e537 : okP κ493 E.2.2.2.1 4 0 12 (f525 q508) := okP_le s525.2.2.1 (by rw [(s525.2.2.2 _ ⟨m508, by rw [r508]; decide, by simp⟩).1]; exact e523)
                              have m538 : q508 ∈ L525 := s525.2.1 _ m508
                              have r539 : (κ493 q508).1 = 0 := by rw [(s525.2.2.2 _ ⟨m508, by rw [r508]; decide, by simp⟩).2]; exact r508
                              refine lv_dup X.1 X.2.1 d_H_init_130 rfl ?_
                              refine lv_aload_n X.1 X.2.1 d_H_init_131 rfl (lv_at hl 1 rfl) ?_
                              refine q_get X.1 X.2.1 X.2.2.1 i_H X.2.2.2.1 X.2.2.2.2 Y m532 e531 rfl 0 (by decide) (X.2.2.1 _ lk_H_12) (fun _ h9 => h9) rfl d_H_init_132 ?_
                              obtain ⟨S, s540⟩ := t_arrkind (c1 := 5) (n := 12) S m535 r536 nl171 hF0 (raw0_of hw nl171) (okP_le (tLe_raw r536) e534)
                              have k540 : (va_up κ493 q171 (5, 12)) q171 = (5, 12) := va_up_self _ _ _
                              generalize va_up κ493 q171 (5, 12) = κ540 at S s540 k540
                              have k541 : κ540 q101 = (21, 0) := tLe_k s540.2.2.1 k526
                              have k542 : κ540 q111 = (13, 4000) := tLe_k s540.2.2.1 k527
                              have k543 : κ540 q123 = (13, 12288) := tLe_k s540.2.2.1 k528
                              have k544 : κ540 q137 = (13, 40) := tLe_k s540.2.2.1 k529
                              have k545 : κ540 q153 = (15, 0) := tLe_k s540.2.2.1 k530
                              have e546 : f525 h = .inr (0, [.ref q101, .ref q111, .ref q123, .ref q137, .ref q171, .ref q153, .null, .ref q508, .null]) := (s540.2.2.2 _ ⟨m532, by rw [r533]; decide, by simp only [List.mem_singleton]; exact (nz171 _ m167)⟩).1.trans e531
                              have m547 : h ∈ L525 := s540.2.1 _ m532
                              have r548 : (κ540 h).1 = 0 := by rw [(s540.2.2.2 _ ⟨m532, by rw [r533]; decide, by simp only [List.mem_singleton]; exact (nz171 _ m167)⟩).2]; exact r533
                              have e549 : okP κ540 E.2.2.2.1 4 0 12 (f525 q508) := okP_le s540.2.2.1 (by rw [(s540.2.2.2 _ ⟨m538, by rw [r539]; decide, by simp only [List.mem_singleton]; exact (nz508 _ m503).symm⟩).1]; exact e537)
                              have m550 : q508 ∈ L525 := s540.2.1 _ m538
                              have r551 : (κ540 q508).1 = 0 := by rw [(s540.2.2.2 _ ⟨m538, by rw [r539]; decide, by simp only [List.mem_singleton]; exact (nz508 _ m503).symm⟩).2]; exact r539
                              have e552 : f525 q525 = .inr (2, [.null, .null, .int (iI 0), .int (iI 0), .null, .null, .null, .int (iI 0), .int (iI 0), .int (iI 0), .int (iI 0), .int (iI 0), .null, .null, .null, .int (iI 0), .int (iI 0), .long 0, .null, .long 0, .int (iI 0)]) := (s540.2.2.2 _ ⟨m525, by rw [r525]; decide, by simp only [List.mem_singleton]; exact (nz525 _ m518).symm⟩).1.trans e525
                              have m553 : q525 ∈ L525 := s540.2.1 _ m525
                              have r554 : (κ540 q525).1 = 0 := by rw [(s540.2.2.2 _ ⟨m525, by rw [r525]; decide, by simp only [List.mem_singleton]; exact (nz525 _ m518).symm⟩).2]; exact r525
                              refine t_mk (x_runI (As := [.ref q101]) (rest := [.ref q525, .int (iI 0), .ref q508]) (n := 1) X hml hl.1 (c_Ag_init l D E T κ540 L525 f525 H.size q525 m553 r554 e552 q101 k541 S.1) (ok_k X Y hA KS KR) kl_H_Ag_init ks_Ag_init ki_Ag_init ini_Ag rfl ⟨rfl, rfl⟩ hd_Ag_init.2 ⟨Nat.le_of_ble_eq_true rfl, Nat.le_of_ble_eq_true rfl⟩ rfl (Nat.le_of_ble_eq_true rfl) d_H_init_135 ⟨Nat.le_of_ble_eq_true rfl, Nat.le_of_ble_eq_true rfl⟩) X Y hA S (by decide) nl525 (fun κ555 L555 f555 H locs Y S s555 p555 => ?_)
                              have k555 := p555
                              have k556 : κ555 q101 = (21, 0) := tLe_k s555.2.2.1 k541
                              have k557 : κ555 q111 = (13, 4000) := tLe_k s555.2.2.1 k542
                              have k558 : κ555 q123 = (13, 12288) := tLe_k s555.2.2.1 k543
                              have k559 : κ555 q137 = (13, 40) := tLe_k s555.2.2.1 k544
                              have k560 : κ555 q171 = (5, 12) := tLe_k s555.2.2.1 k540
                              have k561 : κ555 q153 = (15, 0) := tLe_k s555.2.2.1 k545
                              have e562 : f555 h = .inr (0, [.ref q101, .ref q111, .ref q123, .ref q137, .ref q171, .ref q153, .null, .ref q508, .null]) := (s555.2.2.2 _ ⟨m547, by rw [r548]; decide, by simp only [List.mem_singleton]; exact (nz525 _ m515)⟩).1.trans e546
                              have m563 : h ∈ L555 := s555.2.1 _ m547
                              have r564 : (κ555 h).1 = 0 := by rw [(s555.2.2.2 _ ⟨m547, by rw [r548]; decide, by simp only [List.mem_singleton]; exact (nz525 _ m515)⟩).2]; exact r548
                              have e565 : okP κ555 E.2.2.2.1 4 0 12 (f555 q508) := okP_le s555.2.2.1 (by rw [(s555.2.2.2 _ ⟨m550, by rw [r551]; decide, by simp only [List.mem_singleton]; exact (nz525 _ m508)⟩).1]; exact e549)
                              have m566 : q508 ∈ L555 := s555.2.1 _ m550
                              have r567 : (κ555 q508).1 = 0 := by rw [(s555.2.2.2 _ ⟨m550, by rw [r551]; decide, by simp only [List.mem_singleton]; exact (nz525 _ m508)⟩).2]; exact r551
                              refine t_aast (ci := 2) (r := (R_Ag, F_Ag, 21)) (t0 := 3) X Y S m566 r567 e565 rfl k555 rfl (by omega) (by decide) (by decide) (fun h9 => nl508 h9.1) d_H_init_138 (fun f568 H locs Y S w568 o568 => ?_)
                              have e569 : f568 h = .inr (0, [.ref q101, .ref q111, .ref q123, .ref q137, .ref q171, .ref q153, .null, .ref q508, .null]) := (w568 _ (nz508 _ m500)).trans e562
                              refine lv_iinc (v := iI 1) (lv' := [(1, .int (iI 1)), (0, .ref h)]) X.1 X.2.1 d_H_init_139 hl (k := 0) rfl (by decide) (by decide) rfl (fun ls hl => ?_)
                              refine lv_goto (tgt := 117) X.1 X.2.1 d_H_init_142 (by decide) ?_
                              refine lv_iload_n X.1 X.2.1 d_H_init_117 rfl (lv_at hl 0 rfl) ?_
                              refine lv_iconst (v := iI 4) X.1 X.2.1 d_H_init_118 (by decide) ?_
                              refine z_icmp_ge (tgt := 145) X.1 X.2.1 d_H_init_119 (by decide) ⟨by omega, by omega⟩ ⟨by omega, by omega⟩ (fun h570 => False.elim (by omega)) (fun h570 => ?_)
                              · refine lv_aload_n X.1 X.2.1 d_H_init_122 rfl (lv_at hl 1 rfl) ?_
                                refine q_get X.1 X.2.1 X.2.2.1 i_H X.2.2.2.1 X.2.2.2.2 Y m563 e569 rfl 7 (by decide) (X.2.2.1 _ lk_H_49) (fun _ h9 => h9) rfl d_H_init_123 ?_
                                refine lv_iload_n X.1 X.2.1 d_H_init_126 rfl (lv_at hl 0 rfl) ?_
                                refine t_new (ci := 2) X Y S hA hF0 i_Ag t_Ag t_Ag_ok ck_H_47 mk_Ag ini_Ag rfl (fs := [.null, .null, .int (iI 0), .int (iI 0), .null, .null, .null, .int (iI 0), .int (iI 0), .int (iI 0), .int (iI 0), .int (iI 0), .null, .null, .null, .int (iI 0), .int (iI 0), .long 0, .null, .long 0, .int (iI 0)]) (fun j hj => match j, hj with | 0, _ => rfl | 1, _ => rfl | 2, _ => rfl | 3, _ => rfl | 4, _ => rfl | 5, _ => rfl | 6, _ => rfl | 7, _ => rfl | 8, _ => rfl | 9, _ => rfl | 10, _ => rfl | 11, _ => rfl | 12, _ => rfl | 13, _ => rfl | 14, _ => rfl | 15, _ => rfl | 16, _ => rfl | 17, _ => rfl | 18, _ => rfl | 19, _ => rfl | 20, _ => rfl | n9 + 21, h9 => absurd (show n9 + 21 < 21 from h9) (by omega)) (Nat.le_of_ble_eq_true rfl) (Nat.le_of_ble_eq_true rfl) d_H_init_127 (fun q571 L571 f571 H Y S s571 nl571 m571 r571 e571 nz571 => ?_)
                                have k572 : κ555 q101 = (21, 0) := tLe_k s571.2.2.1 k556
                                have k573 : κ555 q111 = (13, 4000) := tLe_k s571.2.2.1 k557
                                have k574 : κ555 q123 = (13, 12288) := tLe_k s571.2.2.1 k558
                                have k575 : κ555 q137 = (13, 40) := tLe_k s571.2.2.1 k559
                                have k576 : κ555 q171 = (5, 12) := tLe_k s571.2.2.1 k560
                                have k577 : κ555 q153 = (15, 0) := tLe_k s571.2.2.1 k561
                                have e578 : f571 h = .inr (0, [.ref q101, .ref q111, .ref q123, .ref q137, .ref q171, .ref q153, .null, .ref q508, .null]) := (s571.2.2.2 _ ⟨m563, by rw [r564]; decide, by simp⟩).1.trans e569
                                have m579 : h ∈ L571 := s571.2.1 _ m563
                                have r580 : (κ555 h).1 = 0 := by rw [(s571.2.2.2 _ ⟨m563, by rw [r564]; decide, by simp⟩).2]; exact r564
                                have e581 : okP κ555 E.2.2.2.1 4 1 12 (f571 q508) := okP_le s571.2.2.1 (by rw [(s571.2.2.2 _ ⟨m566, by rw [r567]; decide, by simp⟩).1]; exact o568)
                                have m582 : q508 ∈ L571 := s571.2.1 _ m566
                                have r583 : (κ555 q508).1 = 0 := by rw [(s571.2.2.2 _ ⟨m566, by rw [r567]; decide, by simp⟩).2]; exact r567
                                refine lv_dup X.1 X.2.1 d_H_init_130 rfl ?_
                                refine lv_aload_n X.1 X.2.1 d_H_init_131 rfl (lv_at hl 1 rfl) ?_
                                refine q_get X.1 X.2.1 X.2.2.1 i_H X.2.2.2.1 X.2.2.2.2 Y m579 e578 rfl 0 (by decide) (X.2.2.1 _ lk_H_12) (fun _ h9 => h9) rfl d_H_init_132 ?_
                                refine t_mk (x_runI (As := [.ref q101]) (rest := [.ref q571, .int (iI 1), .ref q508]) (n := 1) X hml hl.1 (c_Ag_init l D E T κ555 L571 f571 H.size q571 m571 r571 e571 q101 k572 S.1) (ok_k X Y hA KS KR) kl_H_Ag_init ks_Ag_init ki_Ag_init ini_Ag rfl ⟨rfl, rfl⟩ hd_Ag_init.2 ⟨Nat.le_of_ble_eq_true rfl, Nat.le_of_ble_eq_true rfl⟩ rfl (Nat.le_of_ble_eq_true rfl) d_H_init_135 ⟨Nat.le_of_ble_eq_true rfl, Nat.le_of_ble_eq_true rfl⟩) X Y hA S (by decide) nl571 (fun κ584 L584 f584 H locs Y S s584 p584 => ?_)
                                have k584 := p584
                                have k585 : κ584 q101 = (21, 0) := tLe_k s584.2.2.1 k572
                                have k586 : κ584 q111 = (13, 4000) := tLe_k s584.2.2.1 k573
                                have k587 : κ584 q123 = (13, 12288) := tLe_k s584.2.2.1 k574
                                have k588 : κ584 q137 = (13, 40) := tLe_k s584.2.2.1 k575
                                have k589 : κ584 q171 = (5, 12) := tLe_k s584.2.2.1 k576
                                have k590 : κ584 q153 = (15, 0) := tLe_k s584.2.2.1 k577
                                have e591 : f584 h = .inr (0, [.ref q101, .ref q111, .ref q123, .ref q137, .ref q171, .ref q153, .null, .ref q508, .null]) := (s584.2.2.2 _ ⟨m579, by rw [r580]; decide, by simp only [List.mem_singleton]; exact (nz571 _ m563)⟩).1.trans e578
                                have m592 : h ∈ L584 := s584.2.1 _ m579
                                have r593 : (κ584 h).1 = 0 := by rw [(s584.2.2.2 _ ⟨m579, by rw [r580]; decide, by simp only [List.mem_singleton]; exact (nz571 _ m563)⟩).2]; exact r580
                                have e594 : okP κ584 E.2.2.2.1 4 1 12 (f584 q508) := okP_le s584.2.2.1 (by rw [(s584.2.2.2 _ ⟨m582, by rw [r583]; decide, by simp only [List.mem_singleton]; exact (nz571 _ m566)⟩).1]; exact e581)
                                have m595 : q508 ∈ L584 := s584.2.1 _ m582
                                have r596 : (κ584 q508).1 = 0 := by rw [(s584.2.2.2 _ ⟨m582, by rw [r583]; decide, by simp only [List.mem_singleton]; exact (nz571 _ m566)⟩).2]; exact r583
                                refine t_aast (ci := 2) (r := (R_Ag, F_Ag, 21)) (t0 := 3) X Y S m595 r596 e594 rfl k584 rfl (by omega) (by decide) (by decide) (fun h9 => nl508 h9.1) d_H_init_138 (fun f597 H locs Y S w597 o597 => ?_)
                                have e598 : f597 h = .inr (0, [.ref q101, .ref q111, .ref q123, .ref q137, .ref q171, .ref q153, .null, .ref q508, .null]) := (w597 _ (nz508 _ m500)).trans e591
                                refine lv_iinc (v := iI 2) (lv' := [(1, .int (iI 2)), (0, .ref h)]) X.1 X.2.1 d_H_init_139 hl (k := 0) rfl (by decide) (by decide) rfl (fun ls hl => ?_)
                                refine lv_goto (tgt := 117) X.1 X.2.1 d_H_init_142 (by decide) ?_
                                refine lv_iload_n X.1 X.2.1 d_H_init_117 rfl (lv_at hl 0 rfl) ?_
                                refine lv_iconst (v := iI 4) X.1 X.2.1 d_H_init_118 (by decide) ?_
                                refine z_icmp_ge (tgt := 145) X.1 X.2.1 d_H_init_119 (by decide) ⟨by omega, by omega⟩ ⟨by omega, by omega⟩ (fun h599 => False.elim (by omega)) (fun h599 => ?_)
                                · refine lv_aload_n X.1 X.2.1 d_H_init_122 rfl (lv_at hl 1 rfl) ?_
                                  refine q_get X.1 X.2.1 X.2.2.1 i_H X.2.2.2.1 X.2.2.2.2 Y m592 e598 rfl 7 (by decide) (X.2.2.1 _ lk_H_49) (fun _ h9 => h9) rfl d_H_init_123 ?_
                                  refine lv_iload_n X.1 X.2.1 d_H_init_126 rfl (lv_at hl 0 rfl) ?_
                                  refine t_new (ci := 2) X Y S hA hF0 i_Ag t_Ag t_Ag_ok ck_H_47 mk_Ag ini_Ag rfl (fs := [.null, .null, .int (iI 0), .int (iI 0), .null, .null, .null, .int (iI 0), .int (iI 0), .int (iI 0), .int (iI 0), .int (iI 0), .null, .null, .null, .int (iI 0), .int (iI 0), .long 0, .null, .long 0, .int (iI 0)]) (fun j hj => match j, hj with | 0, _ => rfl | 1, _ => rfl | 2, _ => rfl | 3, _ => rfl | 4, _ => rfl | 5, _ => rfl | 6, _ => rfl | 7, _ => rfl | 8, _ => rfl | 9, _ => rfl | 10, _ => rfl | 11, _ => rfl | 12, _ => rfl | 13, _ => rfl | 14, _ => rfl | 15, _ => rfl | 16, _ => rfl | 17, _ => rfl | 18, _ => rfl | 19, _ => rfl | 20, _ => rfl | n9 + 21, h9 => absurd (show n9 + 21 < 21 from h9) (by omega)) (Nat.le_of_ble_eq_true rfl) (Nat.le_of_ble_eq_true rfl) d_H_init_127 (fun q600 L600 f600 H Y S s600 nl600 m600 r600 e600 nz600 => ?_)
                                  have k601 : κ584 q101 = (21, 0) := tLe_k s600.2.2.1 k585
                                  have k602 : κ584 q111 = (13, 4000) := tLe_k s600.2.2.1 k586
                                  have k603 : κ584 q123 = (13, 12288) := tLe_k s600.2.2.1 k587
                                  have k604 : κ584 q137 = (13, 40) := tLe_k s600.2.2.1 k588
                                  have k605 : κ584 q171 = (5, 12) := tLe_k s600.2.2.1 k589
                                  have k606 : κ584 q153 = (15, 0) := tLe_k s600.2.2.1 k590
                                  have e607 : f600 h = .inr (0, [.ref q101, .ref q111, .ref q123, .ref q137, .ref q171, .ref q153, .null, .ref q508, .null]) := (s600.2.2.2 _ ⟨m592, by rw [r593]; decide, by simp⟩).1.trans e598
                                  have m608 : h ∈ L600 := s600.2.1 _ m592
                                  have r609 : (κ584 h).1 = 0 := by rw [(s600.2.2.2 _ ⟨m592, by rw [r593]; decide, by simp⟩).2]; exact r593
                                  have e610 : okP κ584 E.2.2.2.1 4 2 12 (f600 q508) := okP_le s600.2.2.1 (by rw [(s600.2.2.2 _ ⟨m595, by rw [r596]; decide, by simp⟩).1]; exact o597)
                                  have m611 : q508 ∈ L600 := s600.2.1 _ m595
                                  have r612 : (κ584 q508).1 = 0 := by rw [(s600.2.2.2 _ ⟨m595, by rw [r596]; decide, by simp⟩).2]; exact r596
                                  refine lv_dup X.1 X.2.1 d_H_init_130 rfl ?_
                                  refine lv_aload_n X.1 X.2.1 d_H_init_131 rfl (lv_at hl 1 rfl) ?_
                                  refine q_get X.1 X.2.1 X.2.2.1 i_H X.2.2.2.1 X.2.2.2.2 Y m608 e607 rfl 0 (by decide) (X.2.2.1 _ lk_H_12) (fun _ h9 => h9) rfl d_H_init_132 ?_
                                  refine t_mk (x_runI (As := [.ref q101]) (rest := [.ref q600, .int (iI 2), .ref q508]) (n := 1) X hml hl.1 (c_Ag_init l D E T κ584 L600 f600 H.size q600 m600 r600 e600 q101 k601 S.1) (ok_k X Y hA KS KR) kl_H_Ag_init ks_Ag_init ki_Ag_init ini_Ag rfl ⟨rfl, rfl⟩ hd_Ag_init.2 ⟨Nat.le_of_ble_eq_true rfl, Nat.le_of_ble_eq_true rfl⟩ rfl (Nat.le_of_ble_eq_true rfl) d_H_init_135 ⟨Nat.le_of_ble_eq_true rfl, Nat.le_of_ble_eq_true rfl⟩) X Y hA S (by decide) nl600 (fun κ613 L613 f613 H locs Y S s613 p613 => ?_)
                                  have k613 := p613
                                  have k614 : κ613 q101 = (21, 0) := tLe_k s613.2.2.1 k601
                                  have k615 : κ613 q111 = (13, 4000) := tLe_k s613.2.2.1 k602
                                  have k616 : κ613 q123 = (13, 12288) := tLe_k s613.2.2.1 k603
                                  have k617 : κ613 q137 = (13, 40) := tLe_k s613.2.2.1 k604
                                  have k618 : κ613 q171 = (5, 12) := tLe_k s613.2.2.1 k605
                                  have k619 : κ613 q153 = (15, 0) := tLe_k s613.2.2.1 k606
                                  have e620 : f613 h = .inr (0, [.ref q101, .ref q111, .ref q123, .ref q137, .ref q171, .ref q153, .null, .ref q508, .null]) := (s613.2.2.2 _ ⟨m608, by rw [r609]; decide, by simp only [List.mem_singleton]; exact (nz600 _ m592)⟩).1.trans e607
                                  have m621 : h ∈ L613 := s613.2.1 _ m608
                                  have r622 : (κ613 h).1 = 0 := by rw [(s613.2.2.2 _ ⟨m608, by rw [r609]; decide, by simp only [List.mem_singleton]; exact (nz600 _ m592)⟩).2]; exact r609
                                  have e623 : okP κ613 E.2.2.2.1 4 2 12 (f613 q508) := okP_le s613.2.2.1 (by rw [(s613.2.2.2 _ ⟨m611, by rw [r612]; decide, by simp only [List.mem_singleton]; exact (nz600 _ m595)⟩).1]; exact e610)
                                  have m624 : q508 ∈ L613 := s613.2.1 _ m611
                                  have r625 : (κ613 q508).1 = 0 := by rw [(s613.2.2.2 _ ⟨m611, by rw [r612]; decide, by simp only [List.mem_singleton]; exact (nz600 _ m595)⟩).2]; exact r612
                                  refine t_aast (ci := 2) (r := (R_Ag, F_Ag, 21)) (t0 := 3) X Y S m624 r625 e623 rfl k613 rfl (by omega) (by decide) (by decide) (fun h9 => nl508 h9.1) d_H_init_138 (fun f626 H locs Y S w626 o626 => ?_)
                                  have e627 : f626 h = .inr (0, [.ref q101, .ref q111, .ref q123, .ref q137, .ref q171, .ref q153, .null, .ref q508, .null]) := (w626 _ (nz508 _ m500)).trans e620
                                  refine lv_iinc (v := iI 3) (lv' := [(1, .int (iI 3)), (0, .ref h)]) X.1 X.2.1 d_H_init_139 hl (k := 0) rfl (by decide) (by decide) rfl (fun ls hl => ?_)
                                  refine lv_goto (tgt := 117) X.1 X.2.1 d_H_init_142 (by decide) ?_
                                  refine lv_iload_n X.1 X.2.1 d_H_init_117 rfl (lv_at hl 0 rfl) ?_
                                  refine lv_iconst (v := iI 4) X.1 X.2.1 d_H_init_118 (by decide) ?_
                                  refine z_icmp_ge (tgt := 145) X.1 X.2.1 d_H_init_119 (by decide) ⟨by omega, by omega⟩ ⟨by omega, by omega⟩ (fun h628 => False.elim (by omega)) (fun h628 => ?_)
                                  · refine lv_aload_n X.1 X.2.1 d_H_init_122 rfl (lv_at hl 1 rfl) ?_
                                    refine q_get X.1 X.2.1 X.2.2.1 i_H X.2.2.2.1 X.2.2.2.2 Y m621 e627 rfl 7 (by decide) (X.2.2.1 _ lk_H_49) (fun _ h9 => h9) rfl d_H_init_123 ?_
                                    refine lv_iload_n X.1 X.2.1 d_H_init_126 rfl (lv_at hl 0 rfl) ?_
                                    refine t_new (ci := 2) X Y S hA hF0 i_Ag t_Ag t_Ag_ok ck_H_47 mk_Ag ini_Ag rfl (fs := [.null, .null, .int (iI 0), .int (iI 0), .null, .null, .null, .int (iI 0), .int (iI 0), .int (iI 0), .int (iI 0), .int (iI 0), .null, .null, .null, .int (iI 0), .int (iI 0), .long 0, .null, .long 0, .int (iI 0)]) (fun j hj => match j, hj with | 0, _ => rfl | 1, _ => rfl | 2, _ => rfl | 3, _ => rfl | 4, _ => rfl | 5, _ => rfl | 6, _ => rfl | 7, _ => rfl | 8, _ => rfl | 9, _ => rfl | 10, _ => rfl | 11, _ => rfl | 12, _ => rfl | 13, _ => rfl | 14, _ => rfl | 15, _ => rfl | 16, _ => rfl | 17, _ => rfl | 18, _ => rfl | 19, _ => rfl | 20, _ => rfl | n9 + 21, h9 => absurd (show n9 + 21 < 21 from h9) (by omega)) (Nat.le_of_ble_eq_true rfl) (Nat.le_of_ble_eq_true rfl) d_H_init_127 (fun q629 L629 f629 H Y S s629 nl629 m629 r629 e629 nz629 => ?_)
                                    have k630 : κ613 q101 = (21, 0) := tLe_k s629.2.2.1 k614
                                    have k631 : κ613 q111 = (13, 4000) := tLe_k s629.2.2.1 k615
                                    have k632 : κ613 q123 = (13, 12288) := tLe_k s629.2.2.1 k616
                                    have k633 : κ613 q137 = (13, 40) := tLe_k s629.2.2.1 k617
                                    have k634 : κ613 q171 = (5, 12) := tLe_k s629.2.2.1 k618
                                    have k635 : κ613 q153 = (15, 0) := tLe_k s629.2.2.1 k619
                                    have e636 : f629 h = .inr (0, [.ref q101, .ref q111, .ref q123, .ref q137, .ref q171, .ref q153, .null, .ref q508, .null]) := (s629.2.2.2 _ ⟨m621, by rw [r622]; decide, by simp⟩).1.trans e627
                                    have m637 : h ∈ L629 := s629.2.1 _ m621
                                    have r638 : (κ613 h).1 = 0 := by rw [(s629.2.2.2 _ ⟨m621, by rw [r622]; decide, by simp⟩).2]; exact r622
                                    have e639 : okP κ613 E.2.2.2.1 4 3 12 (f629 q508) := okP_le s629.2.2.1 (by rw [(s629.2.2.2 _ ⟨m624, by rw [r625]; decide, by simp⟩).1]; exact o626)
                                    have m640 : q508 ∈ L629 := s629.2.1 _ m624
                                    have r641 : (κ613 q508).1 = 0 := by rw [(s629.2.2.2 _ ⟨m624, by rw [r625]; decide, by simp⟩).2]; exact r625
                                    refine lv_dup X.1 X.2.1 d_H_init_130 rfl ?_
                                    refine lv_aload_n X.1 X.2.1 d_H_init_131 rfl (lv_at hl 1 rfl) ?_
                                    refine q_get X.1 X.2.1 X.2.2.1 i_H X.2.2.2.1 X.2.2.2.2 Y m637 e636 rfl 0 (by decide) (X.2.2.1 _ lk_H_12) (fun _ h9 => h9) rfl d_H_init_132 ?_
                                    refine t_mk (x_runI (As := [.ref q101]) (rest := [.ref q629, .int (iI 3), .ref q508]) (n := 1) X hml hl.1 (c_Ag_init l D E T κ613 L629 f629 H.size q629 m629 r629 e629 q101 k630 S.1) (ok_k X Y hA KS KR) kl_H_Ag_init ks_Ag_init ki_Ag_init ini_Ag rfl ⟨rfl, rfl⟩ hd_Ag_init.2 ⟨Nat.le_of_ble_eq_true rfl, Nat.le_of_ble_eq_true rfl⟩ rfl (Nat.le_of_ble_eq_true rfl) d_H_init_135 ⟨Nat.le_of_ble_eq_true rfl, Nat.le_of_ble_eq_true rfl⟩) X Y hA S (by decide) nl629 (fun κ642 L642 f642 H locs Y S s642 p642 => ?_)
                                    have k642 := p642
                                    have k643 : κ642 q101 = (21, 0) := tLe_k s642.2.2.1 k630
                                    have k644 : κ642 q111 = (13, 4000) := tLe_k s642.2.2.1 k631
                                    have k645 : κ642 q123 = (13, 12288) := tLe_k s642.2.2.1 k632
                                    have k646 : κ642 q137 = (13, 40) := tLe_k s642.2.2.1 k633
                                    have k647 : κ642 q171 = (5, 12) := tLe_k s642.2.2.1 k634
                                    have k648 : κ642 q153 = (15, 0) := tLe_k s642.2.2.1 k635
                                    have e649 : f642 h = .inr (0, [.ref q101, .ref q111, .ref q123, .ref q137, .ref q171, .ref q153, .null, .ref q508, .null]) := (s642.2.2.2 _ ⟨m637, by rw [r638]; decide, by simp only [List.mem_singleton]; exact (nz629 _ m621)⟩).1.trans e636
                                    have m650 : h ∈ L642 := s642.2.1 _ m637
                                    have r651 : (κ642 h).1 = 0 := by rw [(s642.2.2.2 _ ⟨m637, by rw [r638]; decide, by simp only [List.mem_singleton]; exact (nz629 _ m621)⟩).2]; exact r638
                                    have e652 : okP κ642 E.2.2.2.1 4 3 12 (f642 q508) := okP_le s642.2.2.1 (by rw [(s642.2.2.2 _ ⟨m640, by rw [r641]; decide, by simp only [List.mem_singleton]; exact (nz629 _ m624)⟩).1]; exact e639)
                                    have m653 : q508 ∈ L642 := s642.2.1 _ m640
                                    have r654 : (κ642 q508).1 = 0 := by rw [(s642.2.2.2 _ ⟨m640, by rw [r641]; decide, by simp only [List.mem_singleton]; exact (nz629 _ m624)⟩).2]; exact r641
                                    refine t_aast (ci := 2) (r := (R_Ag, F_Ag, 21)) (t0 := 3) X Y S m653 r654 e652 rfl k642 rfl (by omega) (by decide) (by decide) (fun h9 => nl508 h9.1) d_H_init_138 (fun f655 H locs Y S w655 o655 => ?_)
                                    have e656 : f655 h = .inr (0, [.ref q101, .ref q111, .ref q123, .ref q137, .ref q171, .ref q153, .null, .ref q508, .null]) := (w655 _ (nz508 _ m500)).trans e649
                                    refine lv_iinc (v := iI 4) (lv' := [(1, .int (iI 4)), (0, .ref h)]) X.1 X.2.1 d_H_init_139 hl (k := 0) rfl (by decide) (by decide) rfl (fun ls hl => ?_)
                                    refine lv_goto (tgt := 117) X.1 X.2.1 d_H_init_142 (by decide) ?_
                                    refine lv_iload_n X.1 X.2.1 d_H_init_117 rfl (lv_at hl 0 rfl) ?_
                                    refine lv_iconst (v := iI 4) X.1 X.2.1 d_H_init_118 (by decide) ?_
                                    refine z_icmp_ge (tgt := 145) X.1 X.2.1 d_H_init_119 (by decide) ⟨by omega, by omega⟩ ⟨by omega, by omega⟩ (fun h657 => ?_) (fun h657 => False.elim (by omega))
                                    · refine lv_aload_n X.1 X.2.1 d_H_init_145 rfl (lv_at hl 1 rfl) ?_
                                      refine lv_bipush (v := iI 8) X.1 X.2.1 d_H_init_146 (by decide) ?_
                                      refine t_anew X Y S hA hF0 ck_H_54 (KR.2.2.2 _ (by decide)) (t0 := 4) (c2 := 19) (N := 8) rfl (by omega) (by decide) (Nat.le_of_ble_eq_true rfl) (Nat.le_of_ble_eq_true rfl) d_H_init_148 (fun q658 L658 f658 H Y S s658 nl658 m658 r658 e658 nz658 => ?_)
                                      have k659 : κ642 q101 = (21, 0) := tLe_k s658.2.2.1 k643
                                      have k660 : κ642 q111 = (13, 4000) := tLe_k s658.2.2.1 k644
                                      have k661 : κ642 q123 = (13, 12288) := tLe_k s658.2.2.1 k645
                                      have k662 : κ642 q137 = (13, 40) := tLe_k s658.2.2.1 k646
                                      have k663 : κ642 q171 = (5, 12) := tLe_k s658.2.2.1 k647
                                      have k664 : κ642 q153 = (15, 0) := tLe_k s658.2.2.1 k648
                                      have e665 : f658 h = .inr (0, [.ref q101, .ref q111, .ref q123, .ref q137, .ref q171, .ref q153, .null, .ref q508, .null]) := (s658.2.2.2 _ ⟨m650, by rw [r651]; decide, by simp⟩).1.trans e656
                                      have m666 : h ∈ L658 := s658.2.1 _ m650
                                      have r667 : (κ642 h).1 = 0 := by rw [(s658.2.2.2 _ ⟨m650, by rw [r651]; decide, by simp⟩).2]; exact r651
                                      have e668 : okP κ642 E.2.2.2.1 4 4 12 (f658 q508) := okP_le s658.2.2.1 (by rw [(s658.2.2.2 _ ⟨m653, by rw [r654]; decide, by simp⟩).1]; exact o655)
                                      have m669 : q508 ∈ L658 := s658.2.1 _ m653
                                      have r670 : (κ642 q508).1 = 0 := by rw [(s658.2.2.2 _ ⟨m653, by rw [r654]; decide, by simp⟩).2]; exact r654
                                      refine q_putF X.1 X.2.1 X.2.2.1 i_H t_H t_H_ok n_H X.2.2.2.1 X.2.2.2.2 Y m666 e665 rfl 8 (by decide) (X.2.2.1 _ lk_H_56) (fun _ h9 => h9) rfl hin rfl (t_H_ok 8 (by decide)) rfl rfl (Nat.le_of_ble_eq_true rfl) d_H_init_151 (fun H locs Y => ?_)
                                      have Y : pH D cCl (pA L sz) s.heap L658 (va_up f658 h (.inr (0, [.ref q101, .ref q111, .ref q123, .ref q137, .ref q171, .ref q153, .null, .ref q508, .ref q658]))) H locs := Y
                                      have S := tS_up (x := .inr (0, [.ref q101, .ref q111, .ref q123, .ref q137, .ref q171, .ref q153, .null, .ref q508, .ref q658])) S (fun h9 => h9.2.2 (List.mem_singleton.mpr rfl)) (fun h9 => absurd r667 h9)
                                      have e672 : (va_up f658 h (.inr (0, [.ref q101, .ref q111, .ref q123, .ref q137, .ref q171, .ref q153, .null, .ref q508, .ref q658]))) h = .inr (0, [.ref q101, .ref q111, .ref q123, .ref q137, .ref q171, .ref q153, .null, .ref q508, .ref q658]) := q_up
                                      have e673 : okP κ642 E.2.2.2.1 4 4 12 ((va_up f658 h (.inr (0, [.ref q101, .ref q111, .ref q123, .ref q137, .ref q171, .ref q153, .null, .ref q508, .ref q658]))) q508) := by rw [q_ne (nz508 _ m500).symm]; exact e668
                                      have e674 : okP κ642 E.2.2.2.2.1 8 0 19 ((va_up f658 h (.inr (0, [.ref q101, .ref q111, .ref q123, .ref q137, .ref q171, .ref q153, .null, .ref q508, .ref q658]))) q658) := by rw [q_ne (nz658 _ m650).symm]; exact e658
                                      generalize va_up f658 h (.inr (0, [.ref q101, .ref q111, .ref q123, .ref q137, .ref q171, .ref q153, .null, .ref q508, .ref q658])) = f671 at Y S e672 e673 e674
                                      refine lv_iconst (v := iI 0) X.1 X.2.1 d_H_init_154 (by decide) ?_
                                      refine lv_istore_n (lv' := [(1, .int (iI 0)), (0, .ref h)]) X.1 X.2.1 d_H_init_155 rfl hl (by decide) rfl (fun ls hl => ?_)
                                      refine lv_iload_n X.1 X.2.1 d_H_init_156 rfl (lv_at hl 0 rfl) ?_
                                      refine lv_bipush (v := iI 8) X.1 X.2.1 d_H_init_157 (by decide) ?_
                                      refine z_icmp_ge (tgt := 185) X.1 X.2.1 d_H_init_159 (by decide) ⟨by omega, by omega⟩ ⟨by omega, by omega⟩ (fun h675 => False.elim (by omega)) (fun h675 => ?_)
                                      · refine lv_aload_n X.1 X.2.1 d_H_init_162 rfl (lv_at hl 1 rfl) ?_
                                        refine q_get X.1 X.2.1 X.2.2.1 i_H X.2.2.2.1 X.2.2.2.2 Y m666 e672 rfl 8 (by decide) (X.2.2.1 _ lk_H_56) (fun _ h9 => h9) rfl d_H_init_163 ?_
                                        refine lv_iload_n X.1 X.2.1 d_H_init_166 rfl (lv_at hl 0 rfl) ?_
                                        refine t_new (ci := 9) X Y S hA hF0 i_So t_So t_So_ok ck_H_54 mk_So ini_So rfl (fs := [.null, .int (iI 0), .int (iI 0), .null, .null, .int (iI 0), .int (iI 0), .long 0, .null, .null, .null]) (fun j hj => match j, hj with | 0, _ => rfl | 1, _ => rfl | 2, _ => rfl | 3, _ => rfl | 4, _ => rfl | 5, _ => rfl | 6, _ => rfl | 7, _ => rfl | 8, _ => rfl | 9, _ => rfl | 10, _ => rfl | n9 + 11, h9 => absurd (show n9 + 11 < 11 from h9) (by omega)) (Nat.le_of_ble_eq_true rfl) (Nat.le_of_ble_eq_true rfl) d_H_init_167 (fun q676 L676 f676 H Y S s676 nl676 m676 r676 e676 nz676 => ?_)
                                        have k677 : κ642 q101 = (21, 0) := tLe_k s676.2.2.1 k659
                                        have k678 : κ642 q111 = (13, 4000) := tLe_k s676.2.2.1 k660
                                        have k679 : κ642 q123 = (13, 12288) := tLe_k s676.2.2.1 k661
                                        have k680 : κ642 q137 = (13, 40) := tLe_k s676.2.2.1 k662
                                        have k681 : κ642 q171 = (5, 12) := tLe_k s676.2.2.1 k663
                                        have k682 : κ642 q153 = (15, 0) := tLe_k s676.2.2.1 k664
                                        have e683 : f676 h = .inr (0, [.ref q101, .ref q111, .ref q123, .ref q137, .ref q171, .ref q153, .null, .ref q508, .ref q658]) := (s676.2.2.2 _ ⟨m666, by rw [r667]; decide, by simp⟩).1.trans e672
                                        have m684 : h ∈ L676 := s676.2.1 _ m666
                                        have r685 : (κ642 h).1 = 0 := by rw [(s676.2.2.2 _ ⟨m666, by rw [r667]; decide, by simp⟩).2]; exact r667
                                        have e686 : okP κ642 E.2.2.2.1 4 4 12 (f676 q508) := okP_le s676.2.2.1 (by rw [(s676.2.2.2 _ ⟨m669, by rw [r670]; decide, by simp⟩).1]; exact e673)
                                        have m687 : q508 ∈ L676 := s676.2.1 _ m669
                                        have r688 : (κ642 q508).1 = 0 := by rw [(s676.2.2.2 _ ⟨m669, by rw [r670]; decide, by simp⟩).2]; exact r670
                                        have e689 : okP κ642 E.2.2.2.2.1 8 0 19 (f676 q658) := okP_le s676.2.2.1 (by rw [(s676.2.2.2 _ ⟨m658, by rw [r658]; decide, by simp⟩).1]; exact e674)
                                        have m690 : q658 ∈ L676 := s676.2.1 _ m658
                                        have r691 : (κ642 q658).1 = 0 := by rw [(s676.2.2.2 _ ⟨m658, by rw [r658]; decide, by simp⟩).2]; exact r658
                                        refine lv_dup X.1 X.2.1 d_H_init_170 rfl ?_
                                        refine lv_aload_n X.1 X.2.1 d_H_init_171 rfl (lv_at hl 1 rfl) ?_
                                        refine q_get X.1 X.2.1 X.2.2.1 i_H X.2.2.2.1 X.2.2.2.2 Y m684 e683 rfl 0 (by decide) (X.2.2.1 _ lk_H_12) (fun _ h9 => h9) rfl d_H_init_172 ?_
                                        obtain ⟨S, s692⟩ := t_arrkind (c1 := 6) (n := 4) S m687 r688 nl508 hF0 (raw0_of hw nl508) (okP_le (tLe_raw r688) e686)
                                        have k692 : (va_up κ642 q508 (6, 4)) q508 = (6, 4) := va_up_self _ _ _
                                        generalize va_up κ642 q508 (6, 4) = κ692 at S s692 k692
                                        have k693 : κ692 q101 = (21, 0) := tLe_k s692.2.2.1 k677
                                        have k694 : κ692 q111 = (13, 4000) := tLe_k s692.2.2.1 k678
                                        have k695 : κ692 q123 = (13, 12288) := tLe_k s692.2.2.1 k679
                                        have k696 : κ692 q137 = (13, 40) := tLe_k s692.2.2.1 k680
                                        have k697 : κ692 q171 = (5, 12) := tLe_k s692.2.2.1 k681
                                        have k698 : κ692 q153 = (15, 0) := tLe_k s692.2.2.1 k682
                                        have e699 : f676 h = .inr (0, [.ref q101, .ref q111, .ref q123, .ref q137, .ref q171, .ref q153, .null, .ref q508, .ref q658]) := (s692.2.2.2 _ ⟨m684, by rw [r685]; decide, by simp only [List.mem_singleton]; exact (nz508 _ m500)⟩).1.trans e683
                                        have m700 : h ∈ L676 := s692.2.1 _ m684
                                        have r701 : (κ692 h).1 = 0 := by rw [(s692.2.2.2 _ ⟨m684, by rw [r685]; decide, by simp only [List.mem_singleton]; exact (nz508 _ m500)⟩).2]; exact r685
                                        have e702 : okP κ692 E.2.2.2.2.1 8 0 19 (f676 q658) := okP_le s692.2.2.1 (by rw [(s692.2.2.2 _ ⟨m690, by rw [r691]; decide, by simp only [List.mem_singleton]; exact (nz658 _ m653).symm⟩).1]; exact e689)
                                        have m703 : q658 ∈ L676 := s692.2.1 _ m690
                                        have r704 : (κ692 q658).1 = 0 := by rw [(s692.2.2.2 _ ⟨m690, by rw [r691]; decide, by simp only [List.mem_singleton]; exact (nz658 _ m653).symm⟩).2]; exact r691
                                        have e705 : f676 q676 = .inr (9, [.null, .int (iI 0), .int (iI 0), .null, .null, .int (iI 0), .int (iI 0), .long 0, .null, .null, .null]) := (s692.2.2.2 _ ⟨m676, by rw [r676]; decide, by simp only [List.mem_singleton]; exact (nz676 _ m669).symm⟩).1.trans e676
                                        have m706 : q676 ∈ L676 := s692.2.1 _ m676
                                        have r707 : (κ692 q676).1 = 0 := by rw [(s692.2.2.2 _ ⟨m676, by rw [r676]; decide, by simp only [List.mem_singleton]; exact (nz676 _ m669).symm⟩).2]; exact r676
                                        refine t_mk (x_runI (As := [.ref q101]) (rest := [.ref q676, .int (iI 0), .ref q658]) (n := 1) X hml hl.1 (c_So_init l D E T κ692 L676 f676 H.size q676 m706 r707 e705 q101 k693 S.1) (ok_k X Y hA KS KR) kl_H_So_init ks_So_init ki_So_init ini_So rfl ⟨rfl, rfl⟩ hd_So_init.2 ⟨Nat.le_of_ble_eq_true rfl, Nat.le_of_ble_eq_true rfl⟩ rfl (Nat.le_of_ble_eq_true rfl) d_H_init_175 ⟨Nat.le_of_ble_eq_true rfl, Nat.le_of_ble_eq_true rfl⟩) X Y hA S (by decide) nl676 (fun κ708 L708 f708 H locs Y S s708 p708 => ?_)
                                        have k708 := p708
                                        have k709 : κ708 q101 = (21, 0) := tLe_k s708.2.2.1 k693
                                        have k710 : κ708 q111 = (13, 4000) := tLe_k s708.2.2.1 k694
                                        have k711 : κ708 q123 = (13, 12288) := tLe_k s708.2.2.1 k695
                                        have k712 : κ708 q137 = (13, 40) := tLe_k s708.2.2.1 k696
                                        have k713 : κ708 q171 = (5, 12) := tLe_k s708.2.2.1 k697
                                        have k714 : κ708 q153 = (15, 0) := tLe_k s708.2.2.1 k698
                                        have k715 : κ708 q508 = (6, 4) := tLe_k s708.2.2.1 k692
                                        have e716 : f708 h = .inr (0, [.ref q101, .ref q111, .ref q123, .ref q137, .ref q171, .ref q153, .null, .ref q508, .ref q658]) := (s708.2.2.2 _ ⟨m700, by rw [r701]; decide, by simp only [List.mem_singleton]; exact (nz676 _ m666)⟩).1.trans e699
                                        have m717 : h ∈ L708 := s708.2.1 _ m700
                                        have r718 : (κ708 h).1 = 0 := by rw [(s708.2.2.2 _ ⟨m700, by rw [r701]; decide, by simp only [List.mem_singleton]; exact (nz676 _ m666)⟩).2]; exact r701
                                        have e719 : okP κ708 E.2.2.2.2.1 8 0 19 (f708 q658) := okP_le s708.2.2.1 (by rw [(s708.2.2.2 _ ⟨m703, by rw [r704]; decide, by simp only [List.mem_singleton]; exact (nz676 _ m658)⟩).1]; exact e702)
                                        have m720 : q658 ∈ L708 := s708.2.1 _ m703
                                        have r721 : (κ708 q658).1 = 0 := by rw [(s708.2.2.2 _ ⟨m703, by rw [r704]; decide, by simp only [List.mem_singleton]; exact (nz676 _ m658)⟩).2]; exact r704
                                        refine t_aast (ci := 9) (r := (R_So, F_So, 11)) (t0 := 4) X Y S m720 r721 e719 rfl k708 rfl (by omega) (by decide) (by decide) (fun h9 => nl658 h9.1) d_H_init_178 (fun f722 H locs Y S w722 o722 => ?_)
                                        have e723 : f722 h = .inr (0, [.ref q101, .ref q111, .ref q123, .ref q137, .ref q171, .ref q153, .null, .ref q508, .ref q658]) := (w722 _ (nz658 _ m650)).trans e716
                                        refine lv_iinc (v := iI 1) (lv' := [(1, .int (iI 1)), (0, .ref h)]) X.1 X.2.1 d_H_init_179 hl (k := 0) rfl (by decide) (by decide) rfl (fun ls hl => ?_)
                                        refine lv_goto (tgt := 156) X.1 X.2.1 d_H_init_182 (by decide) ?_
                                        refine lv_iload_n X.1 X.2.1 d_H_init_156 rfl (lv_at hl 0 rfl) ?_
                                        refine lv_bipush (v := iI 8) X.1 X.2.1 d_H_init_157 (by decide) ?_
                                        refine z_icmp_ge (tgt := 185) X.1 X.2.1 d_H_init_159 (by decide) ⟨by omega, by omega⟩ ⟨by omega, by omega⟩ (fun h724 => False.elim (by omega)) (fun h724 => ?_)
                                        · refine lv_aload_n X.1 X.2.1 d_H_init_162 rfl (lv_at hl 1 rfl) ?_
                                          refine q_get X.1 X.2.1 X.2.2.1 i_H X.2.2.2.1 X.2.2.2.2 Y m717 e723 rfl 8 (by decide) (X.2.2.1 _ lk_H_56) (fun _ h9 => h9) rfl d_H_init_163 ?_
                                          refine lv_iload_n X.1 X.2.1 d_H_init_166 rfl (lv_at hl 0 rfl) ?_
                                          refine t_new (ci := 9) X Y S hA hF0 i_So t_So t_So_ok ck_H_54 mk_So ini_So rfl (fs := [.null, .int (iI 0), .int (iI 0), .null, .null, .int (iI 0), .int (iI 0), .long 0, .null, .null, .null]) (fun j hj => match j, hj with | 0, _ => rfl | 1, _ => rfl | 2, _ => rfl | 3, _ => rfl | 4, _ => rfl | 5, _ => rfl | 6, _ => rfl | 7, _ => rfl | 8, _ => rfl | 9, _ => rfl | 10, _ => rfl | n9 + 11, h9 => absurd (show n9 + 11 < 11 from h9) (by omega)) (Nat.le_of_ble_eq_true rfl) (Nat.le_of_ble_eq_true rfl) d_H_init_167 (fun q725 L725 f725 H Y S s725 nl725 m725 r725 e725 nz725 => ?_)
                                          have k726 : κ708 q101 = (21, 0) := tLe_k s725.2.2.1 k709
                                          have k727 : κ708 q111 = (13, 4000) := tLe_k s725.2.2.1 k710
                                          have k728 : κ708 q123 = (13, 12288) := tLe_k s725.2.2.1 k711
                                          have k729 : κ708 q137 = (13, 40) := tLe_k s725.2.2.1 k712
                                          have k730 : κ708 q171 = (5, 12) := tLe_k s725.2.2.1 k713
                                          have k731 : κ708 q153 = (15, 0) := tLe_k s725.2.2.1 k714
                                          have k732 : κ708 q508 = (6, 4) := tLe_k s725.2.2.1 k715
                                          have e733 : f725 h = .inr (0, [.ref q101, .ref q111, .ref q123, .ref q137, .ref q171, .ref q153, .null, .ref q508, .ref q658]) := (s725.2.2.2 _ ⟨m717, by rw [r718]; decide, by simp⟩).1.trans e723
                                          have m734 : h ∈ L725 := s725.2.1 _ m717
                                          have r735 : (κ708 h).1 = 0 := by rw [(s725.2.2.2 _ ⟨m717, by rw [r718]; decide, by simp⟩).2]; exact r718
                                          have e736 : okP κ708 E.2.2.2.2.1 8 1 19 (f725 q658) := okP_le s725.2.2.1 (by rw [(s725.2.2.2 _ ⟨m720, by rw [r721]; decide, by simp⟩).1]; exact o722)
                                          have m737 : q658 ∈ L725 := s725.2.1 _ m720
                                          have r738 : (κ708 q658).1 = 0 := by rw [(s725.2.2.2 _ ⟨m720, by rw [r721]; decide, by simp⟩).2]; exact r721
                                          refine lv_dup X.1 X.2.1 d_H_init_170 rfl ?_
                                          refine lv_aload_n X.1 X.2.1 d_H_init_171 rfl (lv_at hl 1 rfl) ?_
                                          refine q_get X.1 X.2.1 X.2.2.1 i_H X.2.2.2.1 X.2.2.2.2 Y m734 e733 rfl 0 (by decide) (X.2.2.1 _ lk_H_12) (fun _ h9 => h9) rfl d_H_init_172 ?_
                                          refine t_mk (x_runI (As := [.ref q101]) (rest := [.ref q725, .int (iI 1), .ref q658]) (n := 1) X hml hl.1 (c_So_init l D E T κ708 L725 f725 H.size q725 m725 r725 e725 q101 k726 S.1) (ok_k X Y hA KS KR) kl_H_So_init ks_So_init ki_So_init ini_So rfl ⟨rfl, rfl⟩ hd_So_init.2 ⟨Nat.le_of_ble_eq_true rfl, Nat.le_of_ble_eq_true rfl⟩ rfl (Nat.le_of_ble_eq_true rfl) d_H_init_175 ⟨Nat.le_of_ble_eq_true rfl, Nat.le_of_ble_eq_true rfl⟩) X Y hA S (by decide) nl725 (fun κ739 L739 f739 H locs Y S s739 p739 => ?_)
                                          have k739 := p739
                                          have k740 : κ739 q101 = (21, 0) := tLe_k s739.2.2.1 k726
                                          have k741 : κ739 q111 = (13, 4000) := tLe_k s739.2.2.1 k727
                                          have k742 : κ739 q123 = (13, 12288) := tLe_k s739.2.2.1 k728
                                          have k743 : κ739 q137 = (13, 40) := tLe_k s739.2.2.1 k729
                                          have k744 : κ739 q171 = (5, 12) := tLe_k s739.2.2.1 k730
                                          have k745 : κ739 q153 = (15, 0) := tLe_k s739.2.2.1 k731
                                          have k746 : κ739 q508 = (6, 4) := tLe_k s739.2.2.1 k732
                                          have e747 : f739 h = .inr (0, [.ref q101, .ref q111, .ref q123, .ref q137, .ref q171, .ref q153, .null, .ref q508, .ref q658]) := (s739.2.2.2 _ ⟨m734, by rw [r735]; decide, by simp only [List.mem_singleton]; exact (nz725 _ m717)⟩).1.trans e733
                                          have m748 : h ∈ L739 := s739.2.1 _ m734
                                          have r749 : (κ739 h).1 = 0 := by rw [(s739.2.2.2 _ ⟨m734, by rw [r735]; decide, by simp only [List.mem_singleton]; exact (nz725 _ m717)⟩).2]; exact r735
                                          have e750 : okP κ739 E.2.2.2.2.1 8 1 19 (f739 q658) := okP_le s739.2.2.1 (by rw [(s739.2.2.2 _ ⟨m737, by rw [r738]; decide, by simp only [List.mem_singleton]; exact (nz725 _ m720)⟩).1]; exact e736)
                                          have m751 : q658 ∈ L739 := s739.2.1 _ m737
                                          have r752 : (κ739 q658).1 = 0 := by rw [(s739.2.2.2 _ ⟨m737, by rw [r738]; decide, by simp only [List.mem_singleton]; exact (nz725 _ m720)⟩).2]; exact r738
                                          refine t_aast (ci := 9) (r := (R_So, F_So, 11)) (t0 := 4) X Y S m751 r752 e750 rfl k739 rfl (by omega) (by decide) (by decide) (fun h9 => nl658 h9.1) d_H_init_178 (fun f753 H locs Y S w753 o753 => ?_)
                                          have e754 : f753 h = .inr (0, [.ref q101, .ref q111, .ref q123, .ref q137, .ref q171, .ref q153, .null, .ref q508, .ref q658]) := (w753 _ (nz658 _ m650)).trans e747
                                          refine lv_iinc (v := iI 2) (lv' := [(1, .int (iI 2)), (0, .ref h)]) X.1 X.2.1 d_H_init_179 hl (k := 0) rfl (by decide) (by decide) rfl (fun ls hl => ?_)
                                          refine lv_goto (tgt := 156) X.1 X.2.1 d_H_init_182 (by decide) ?_
                                          refine lv_iload_n X.1 X.2.1 d_H_init_156 rfl (lv_at hl 0 rfl) ?_
                                          refine lv_bipush (v := iI 8) X.1 X.2.1 d_H_init_157 (by decide) ?_
                                          refine z_icmp_ge (tgt := 185) X.1 X.2.1 d_H_init_159 (by decide) ⟨by omega, by omega⟩ ⟨by omega, by omega⟩ (fun h755 => False.elim (by omega)) (fun h755 => ?_)
                                          · refine lv_aload_n X.1 X.2.1 d_H_init_162 rfl (lv_at hl 1 rfl) ?_
                                            refine q_get X.1 X.2.1 X.2.2.1 i_H X.2.2.2.1 X.2.2.2.2 Y m748 e754 rfl 8 (by decide) (X.2.2.1 _ lk_H_56) (fun _ h9 => h9) rfl d_H_init_163 ?_
                                            refine lv_iload_n X.1 X.2.1 d_H_init_166 rfl (lv_at hl 0 rfl) ?_
                                            refine t_new (ci := 9) X Y S hA hF0 i_So t_So t_So_ok ck_H_54 mk_So ini_So rfl (fs := [.null, .int (iI 0), .int (iI 0), .null, .null, .int (iI 0), .int (iI 0), .long 0, .null, .null, .null]) (fun j hj => match j, hj with | 0, _ => rfl | 1, _ => rfl | 2, _ => rfl | 3, _ => rfl | 4, _ => rfl | 5, _ => rfl | 6, _ => rfl | 7, _ => rfl | 8, _ => rfl | 9, _ => rfl | 10, _ => rfl | n9 + 11, h9 => absurd (show n9 + 11 < 11 from h9) (by omega)) (Nat.le_of_ble_eq_true rfl) (Nat.le_of_ble_eq_true rfl) d_H_init_167 (fun q756 L756 f756 H Y S s756 nl756 m756 r756 e756 nz756 => ?_)
                                            have k757 : κ739 q101 = (21, 0) := tLe_k s756.2.2.1 k740
                                            have k758 : κ739 q111 = (13, 4000) := tLe_k s756.2.2.1 k741
                                            have k759 : κ739 q123 = (13, 12288) := tLe_k s756.2.2.1 k742
                                            have k760 : κ739 q137 = (13, 40) := tLe_k s756.2.2.1 k743
                                            have k761 : κ739 q171 = (5, 12) := tLe_k s756.2.2.1 k744
                                            have k762 : κ739 q153 = (15, 0) := tLe_k s756.2.2.1 k745
                                            have k763 : κ739 q508 = (6, 4) := tLe_k s756.2.2.1 k746
                                            have e764 : f756 h = .inr (0, [.ref q101, .ref q111, .ref q123, .ref q137, .ref q171, .ref q153, .null, .ref q508, .ref q658]) := (s756.2.2.2 _ ⟨m748, by rw [r749]; decide, by simp⟩).1.trans e754
                                            have m765 : h ∈ L756 := s756.2.1 _ m748
                                            have r766 : (κ739 h).1 = 0 := by rw [(s756.2.2.2 _ ⟨m748, by rw [r749]; decide, by simp⟩).2]; exact r749
                                            have e767 : okP κ739 E.2.2.2.2.1 8 2 19 (f756 q658) := okP_le s756.2.2.1 (by rw [(s756.2.2.2 _ ⟨m751, by rw [r752]; decide, by simp⟩).1]; exact o753)
                                            have m768 : q658 ∈ L756 := s756.2.1 _ m751
                                            have r769 : (κ739 q658).1 = 0 := by rw [(s756.2.2.2 _ ⟨m751, by rw [r752]; decide, by simp⟩).2]; exact r752
                                            refine lv_dup X.1 X.2.1 d_H_init_170 rfl ?_
                                            refine lv_aload_n X.1 X.2.1 d_H_init_171 rfl (lv_at hl 1 rfl) ?_
                                            refine q_get X.1 X.2.1 X.2.2.1 i_H X.2.2.2.1 X.2.2.2.2 Y m765 e764 rfl 0 (by decide) (X.2.2.1 _ lk_H_12) (fun _ h9 => h9) rfl d_H_init_172 ?_
                                            refine t_mk (x_runI (As := [.ref q101]) (rest := [.ref q756, .int (iI 2), .ref q658]) (n := 1) X hml hl.1 (c_So_init l D E T κ739 L756 f756 H.size q756 m756 r756 e756 q101 k757 S.1) (ok_k X Y hA KS KR) kl_H_So_init ks_So_init ki_So_init ini_So rfl ⟨rfl, rfl⟩ hd_So_init.2 ⟨Nat.le_of_ble_eq_true rfl, Nat.le_of_ble_eq_true rfl⟩ rfl (Nat.le_of_ble_eq_true rfl) d_H_init_175 ⟨Nat.le_of_ble_eq_true rfl, Nat.le_of_ble_eq_true rfl⟩) X Y hA S (by decide) nl756 (fun κ770 L770 f770 H locs Y S s770 p770 => ?_)
                                            have k770 := p770
                                            have k771 : κ770 q101 = (21, 0) := tLe_k s770.2.2.1 k757
                                            have k772 : κ770 q111 = (13, 4000) := tLe_k s770.2.2.1 k758
                                            have k773 : κ770 q123 = (13, 12288) := tLe_k s770.2.2.1 k759
                                            have k774 : κ770 q137 = (13, 40) := tLe_k s770.2.2.1 k760
                                            have k775 : κ770 q171 = (5, 12) := tLe_k s770.2.2.1 k761
                                            have k776 : κ770 q153 = (15, 0) := tLe_k s770.2.2.1 k762
                                            have k777 : κ770 q508 = (6, 4) := tLe_k s770.2.2.1 k763
                                            have e778 : f770 h = .inr (0, [.ref q101, .ref q111, .ref q123, .ref q137, .ref q171, .ref q153, .null, .ref q508, .ref q658]) := (s770.2.2.2 _ ⟨m765, by rw [r766]; decide, by simp only [List.mem_singleton]; exact (nz756 _ m748)⟩).1.trans e764
                                            have m779 : h ∈ L770 := s770.2.1 _ m765
                                            have r780 : (κ770 h).1 = 0 := by rw [(s770.2.2.2 _ ⟨m765, by rw [r766]; decide, by simp only [List.mem_singleton]; exact (nz756 _ m748)⟩).2]; exact r766
                                            have e781 : okP κ770 E.2.2.2.2.1 8 2 19 (f770 q658) := okP_le s770.2.2.1 (by rw [(s770.2.2.2 _ ⟨m768, by rw [r769]; decide, by simp only [List.mem_singleton]; exact (nz756 _ m751)⟩).1]; exact e767)
                                            have m782 : q658 ∈ L770 := s770.2.1 _ m768
                                            have r783 : (κ770 q658).1 = 0 := by rw [(s770.2.2.2 _ ⟨m768, by rw [r769]; decide, by simp only [List.mem_singleton]; exact (nz756 _ m751)⟩).2]; exact r769
                                            refine t_aast (ci := 9) (r := (R_So, F_So, 11)) (t0 := 4) X Y S m782 r783 e781 rfl k770 rfl (by omega) (by decide) (by decide) (fun h9 => nl658 h9.1) d_H_init_178 (fun f784 H locs Y S w784 o784 => ?_)
                                            have e785 : f784 h = .inr (0, [.ref q101, .ref q111, .ref q123, .ref q137, .ref q171, .ref q153, .null, .ref q508, .ref q658]) := (w784 _ (nz658 _ m650)).trans e778
                                            refine lv_iinc (v := iI 3) (lv' := [(1, .int (iI 3)), (0, .ref h)]) X.1 X.2.1 d_H_init_179 hl (k := 0) rfl (by decide) (by decide) rfl (fun ls hl => ?_)
                                            refine lv_goto (tgt := 156) X.1 X.2.1 d_H_init_182 (by decide) ?_
                                            refine lv_iload_n X.1 X.2.1 d_H_init_156 rfl (lv_at hl 0 rfl) ?_
                                            refine lv_bipush (v := iI 8) X.1 X.2.1 d_H_init_157 (by decide) ?_
                                            refine z_icmp_ge (tgt := 185) X.1 X.2.1 d_H_init_159 (by decide) ⟨by omega, by omega⟩ ⟨by omega, by omega⟩ (fun h786 => False.elim (by omega)) (fun h786 => ?_)
                                            · refine lv_aload_n X.1 X.2.1 d_H_init_162 rfl (lv_at hl 1 rfl) ?_
                                              refine q_get X.1 X.2.1 X.2.2.1 i_H X.2.2.2.1 X.2.2.2.2 Y m779 e785 rfl 8 (by decide) (X.2.2.1 _ lk_H_56) (fun _ h9 => h9) rfl d_H_init_163 ?_
                                              refine lv_iload_n X.1 X.2.1 d_H_init_166 rfl (lv_at hl 0 rfl) ?_
                                              refine t_new (ci := 9) X Y S hA hF0 i_So t_So t_So_ok ck_H_54 mk_So ini_So rfl (fs := [.null, .int (iI 0), .int (iI 0), .null, .null, .int (iI 0), .int (iI 0), .long 0, .null, .null, .null]) (fun j hj => match j, hj with | 0, _ => rfl | 1, _ => rfl | 2, _ => rfl | 3, _ => rfl | 4, _ => rfl | 5, _ => rfl | 6, _ => rfl | 7, _ => rfl | 8, _ => rfl | 9, _ => rfl | 10, _ => rfl | n9 + 11, h9 => absurd (show n9 + 11 < 11 from h9) (by omega)) (Nat.le_of_ble_eq_true rfl) (Nat.le_of_ble_eq_true rfl) d_H_init_167 (fun q787 L787 f787 H Y S s787 nl787 m787 r787 e787 nz787 => ?_)
                                              have k788 : κ770 q101 = (21, 0) := tLe_k s787.2.2.1 k771
                                              have k789 : κ770 q111 = (13, 4000) := tLe_k s787.2.2.1 k772
                                              have k790 : κ770 q123 = (13, 12288) := tLe_k s787.2.2.1 k773
                                              have k791 : κ770 q137 = (13, 40) := tLe_k s787.2.2.1 k774
                                              have k792 : κ770 q171 = (5, 12) := tLe_k s787.2.2.1 k775
                                              have k793 : κ770 q153 = (15, 0) := tLe_k s787.2.2.1 k776
                                              have k794 : κ770 q508 = (6, 4) := tLe_k s787.2.2.1 k777
                                              have e795 : f787 h = .inr (0, [.ref q101, .ref q111, .ref q123, .ref q137, .ref q171, .ref q153, .null, .ref q508, .ref q658]) := (s787.2.2.2 _ ⟨m779, by rw [r780]; decide, by simp⟩).1.trans e785
                                              have m796 : h ∈ L787 := s787.2.1 _ m779
                                              have r797 : (κ770 h).1 = 0 := by rw [(s787.2.2.2 _ ⟨m779, by rw [r780]; decide, by simp⟩).2]; exact r780
                                              have e798 : okP κ770 E.2.2.2.2.1 8 3 19 (f787 q658) := okP_le s787.2.2.1 (by rw [(s787.2.2.2 _ ⟨m782, by rw [r783]; decide, by simp⟩).1]; exact o784)
                                              have m799 : q658 ∈ L787 := s787.2.1 _ m782
                                              have r800 : (κ770 q658).1 = 0 := by rw [(s787.2.2.2 _ ⟨m782, by rw [r783]; decide, by simp⟩).2]; exact r783
                                              refine lv_dup X.1 X.2.1 d_H_init_170 rfl ?_
                                              refine lv_aload_n X.1 X.2.1 d_H_init_171 rfl (lv_at hl 1 rfl) ?_
                                              refine q_get X.1 X.2.1 X.2.2.1 i_H X.2.2.2.1 X.2.2.2.2 Y m796 e795 rfl 0 (by decide) (X.2.2.1 _ lk_H_12) (fun _ h9 => h9) rfl d_H_init_172 ?_
                                              refine t_mk (x_runI (As := [.ref q101]) (rest := [.ref q787, .int (iI 3), .ref q658]) (n := 1) X hml hl.1 (c_So_init l D E T κ770 L787 f787 H.size q787 m787 r787 e787 q101 k788 S.1) (ok_k X Y hA KS KR) kl_H_So_init ks_So_init ki_So_init ini_So rfl ⟨rfl, rfl⟩ hd_So_init.2 ⟨Nat.le_of_ble_eq_true rfl, Nat.le_of_ble_eq_true rfl⟩ rfl (Nat.le_of_ble_eq_true rfl) d_H_init_175 ⟨Nat.le_of_ble_eq_true rfl, Nat.le_of_ble_eq_true rfl⟩) X Y hA S (by decide) nl787 (fun κ801 L801 f801 H locs Y S s801 p801 => ?_)
                                              have k801 := p801
                                              have k802 : κ801 q101 = (21, 0) := tLe_k s801.2.2.1 k788
                                              have k803 : κ801 q111 = (13, 4000) := tLe_k s801.2.2.1 k789
                                              have k804 : κ801 q123 = (13, 12288) := tLe_k s801.2.2.1 k790
                                              have k805 : κ801 q137 = (13, 40) := tLe_k s801.2.2.1 k791
                                              have k806 : κ801 q171 = (5, 12) := tLe_k s801.2.2.1 k792
                                              have k807 : κ801 q153 = (15, 0) := tLe_k s801.2.2.1 k793
                                              have k808 : κ801 q508 = (6, 4) := tLe_k s801.2.2.1 k794
                                              have e809 : f801 h = .inr (0, [.ref q101, .ref q111, .ref q123, .ref q137, .ref q171, .ref q153, .null, .ref q508, .ref q658]) := (s801.2.2.2 _ ⟨m796, by rw [r797]; decide, by simp only [List.mem_singleton]; exact (nz787 _ m779)⟩).1.trans e795
                                              have m810 : h ∈ L801 := s801.2.1 _ m796
                                              have r811 : (κ801 h).1 = 0 := by rw [(s801.2.2.2 _ ⟨m796, by rw [r797]; decide, by simp only [List.mem_singleton]; exact (nz787 _ m779)⟩).2]; exact r797
                                              have e812 : okP κ801 E.2.2.2.2.1 8 3 19 (f801 q658) := okP_le s801.2.2.1 (by rw [(s801.2.2.2 _ ⟨m799, by rw [r800]; decide, by simp only [List.mem_singleton]; exact (nz787 _ m782)⟩).1]; exact e798)
                                              have m813 : q658 ∈ L801 := s801.2.1 _ m799
                                              have r814 : (κ801 q658).1 = 0 := by rw [(s801.2.2.2 _ ⟨m799, by rw [r800]; decide, by simp only [List.mem_singleton]; exact (nz787 _ m782)⟩).2]; exact r800
                                              refine t_aast (ci := 9) (r := (R_So, F_So, 11)) (t0 := 4) X Y S m813 r814 e812 rfl k801 rfl (by omega) (by decide) (by decide) (fun h9 => nl658 h9.1) d_H_init_178 (fun f815 H locs Y S w815 o815 => ?_)
                                              have e816 : f815 h = .inr (0, [.ref q101, .ref q111, .ref q123, .ref q137, .ref q171, .ref q153, .null, .ref q508, .ref q658]) := (w815 _ (nz658 _ m650)).trans e809
                                              refine lv_iinc (v := iI 4) (lv' := [(1, .int (iI 4)), (0, .ref h)]) X.1 X.2.1 d_H_init_179 hl (k := 0) rfl (by decide) (by decide) rfl (fun ls hl => ?_)
                                              refine lv_goto (tgt := 156) X.1 X.2.1 d_H_init_182 (by decide) ?_
                                              refine lv_iload_n X.1 X.2.1 d_H_init_156 rfl (lv_at hl 0 rfl) ?_
                                              refine lv_bipush (v := iI 8) X.1 X.2.1 d_H_init_157 (by decide) ?_
                                              refine z_icmp_ge (tgt := 185) X.1 X.2.1 d_H_init_159 (by decide) ⟨by omega, by omega⟩ ⟨by omega, by omega⟩ (fun h817 => False.elim (by omega)) (fun h817 => ?_)
                                              · refine lv_aload_n X.1 X.2.1 d_H_init_162 rfl (lv_at hl 1 rfl) ?_
                                                refine q_get X.1 X.2.1 X.2.2.1 i_H X.2.2.2.1 X.2.2.2.2 Y m810 e816 rfl 8 (by decide) (X.2.2.1 _ lk_H_56) (fun _ h9 => h9) rfl d_H_init_163 ?_
                                                refine lv_iload_n X.1 X.2.1 d_H_init_166 rfl (lv_at hl 0 rfl) ?_
                                                refine t_new (ci := 9) X Y S hA hF0 i_So t_So t_So_ok ck_H_54 mk_So ini_So rfl (fs := [.null, .int (iI 0), .int (iI 0), .null, .null, .int (iI 0), .int (iI 0), .long 0, .null, .null, .null]) (fun j hj => match j, hj with | 0, _ => rfl | 1, _ => rfl | 2, _ => rfl | 3, _ => rfl | 4, _ => rfl | 5, _ => rfl | 6, _ => rfl | 7, _ => rfl | 8, _ => rfl | 9, _ => rfl | 10, _ => rfl | n9 + 11, h9 => absurd (show n9 + 11 < 11 from h9) (by omega)) (Nat.le_of_ble_eq_true rfl) (Nat.le_of_ble_eq_true rfl) d_H_init_167 (fun q818 L818 f818 H Y S s818 nl818 m818 r818 e818 nz818 => ?_)
                                                have k819 : κ801 q101 = (21, 0) := tLe_k s818.2.2.1 k802
                                                have k820 : κ801 q111 = (13, 4000) := tLe_k s818.2.2.1 k803
                                                have k821 : κ801 q123 = (13, 12288) := tLe_k s818.2.2.1 k804
                                                have k822 : κ801 q137 = (13, 40) := tLe_k s818.2.2.1 k805
                                                have k823 : κ801 q171 = (5, 12) := tLe_k s818.2.2.1 k806
                                                have k824 : κ801 q153 = (15, 0) := tLe_k s818.2.2.1 k807
                                                have k825 : κ801 q508 = (6, 4) := tLe_k s818.2.2.1 k808
                                                have e826 : f818 h = .inr (0, [.ref q101, .ref q111, .ref q123, .ref q137, .ref q171, .ref q153, .null, .ref q508, .ref q658]) := (s818.2.2.2 _ ⟨m810, by rw [r811]; decide, by simp⟩).1.trans e816
                                                have m827 : h ∈ L818 := s818.2.1 _ m810
                                                have r828 : (κ801 h).1 = 0 := by rw [(s818.2.2.2 _ ⟨m810, by rw [r811]; decide, by simp⟩).2]; exact r811
                                                have e829 : okP κ801 E.2.2.2.2.1 8 4 19 (f818 q658) := okP_le s818.2.2.1 (by rw [(s818.2.2.2 _ ⟨m813, by rw [r814]; decide, by simp⟩).1]; exact o815)
                                                have m830 : q658 ∈ L818 := s818.2.1 _ m813
                                                have r831 : (κ801 q658).1 = 0 := by rw [(s818.2.2.2 _ ⟨m813, by rw [r814]; decide, by simp⟩).2]; exact r814
                                                refine lv_dup X.1 X.2.1 d_H_init_170 rfl ?_
                                                refine lv_aload_n X.1 X.2.1 d_H_init_171 rfl (lv_at hl 1 rfl) ?_
                                                refine q_get X.1 X.2.1 X.2.2.1 i_H X.2.2.2.1 X.2.2.2.2 Y m827 e826 rfl 0 (by decide) (X.2.2.1 _ lk_H_12) (fun _ h9 => h9) rfl d_H_init_172 ?_
                                                refine t_mk (x_runI (As := [.ref q101]) (rest := [.ref q818, .int (iI 4), .ref q658]) (n := 1) X hml hl.1 (c_So_init l D E T κ801 L818 f818 H.size q818 m818 r818 e818 q101 k819 S.1) (ok_k X Y hA KS KR) kl_H_So_init ks_So_init ki_So_init ini_So rfl ⟨rfl, rfl⟩ hd_So_init.2 ⟨Nat.le_of_ble_eq_true rfl, Nat.le_of_ble_eq_true rfl⟩ rfl (Nat.le_of_ble_eq_true rfl) d_H_init_175 ⟨Nat.le_of_ble_eq_true rfl, Nat.le_of_ble_eq_true rfl⟩) X Y hA S (by decide) nl818 (fun κ832 L832 f832 H locs Y S s832 p832 => ?_)
                                                have k832 := p832
                                                have k833 : κ832 q101 = (21, 0) := tLe_k s832.2.2.1 k819
                                                have k834 : κ832 q111 = (13, 4000) := tLe_k s832.2.2.1 k820
                                                have k835 : κ832 q123 = (13, 12288) := tLe_k s832.2.2.1 k821
                                                have k836 : κ832 q137 = (13, 40) := tLe_k s832.2.2.1 k822
                                                have k837 : κ832 q171 = (5, 12) := tLe_k s832.2.2.1 k823
                                                have k838 : κ832 q153 = (15, 0) := tLe_k s832.2.2.1 k824
                                                have k839 : κ832 q508 = (6, 4) := tLe_k s832.2.2.1 k825
                                                have e840 : f832 h = .inr (0, [.ref q101, .ref q111, .ref q123, .ref q137, .ref q171, .ref q153, .null, .ref q508, .ref q658]) := (s832.2.2.2 _ ⟨m827, by rw [r828]; decide, by simp only [List.mem_singleton]; exact (nz818 _ m810)⟩).1.trans e826
                                                have m841 : h ∈ L832 := s832.2.1 _ m827
                                                have r842 : (κ832 h).1 = 0 := by rw [(s832.2.2.2 _ ⟨m827, by rw [r828]; decide, by simp only [List.mem_singleton]; exact (nz818 _ m810)⟩).2]; exact r828
                                                have e843 : okP κ832 E.2.2.2.2.1 8 4 19 (f832 q658) := okP_le s832.2.2.1 (by rw [(s832.2.2.2 _ ⟨m830, by rw [r831]; decide, by simp only [List.mem_singleton]; exact (nz818 _ m813)⟩).1]; exact e829)
                                                have m844 : q658 ∈ L832 := s832.2.1 _ m830
                                                have r845 : (κ832 q658).1 = 0 := by rw [(s832.2.2.2 _ ⟨m830, by rw [r831]; decide, by simp only [List.mem_singleton]; exact (nz818 _ m813)⟩).2]; exact r831
                                                refine t_aast (ci := 9) (r := (R_So, F_So, 11)) (t0 := 4) X Y S m844 r845 e843 rfl k832 rfl (by omega) (by decide) (by decide) (fun h9 => nl658 h9.1) d_H_init_178 (fun f846 H locs Y S w846 o846 => ?_)
                                                have e847 : f846 h = .inr (0, [.ref q101, .ref q111, .ref q123, .ref q137, .ref q171, .ref q153, .null, .ref q508, .ref q658]) := (w846 _ (nz658 _ m650)).trans e840
                                                refine lv_iinc (v := iI 5) (lv' := [(1, .int (iI 5)), (0, .ref h)]) X.1 X.2.1 d_H_init_179 hl (k := 0) rfl (by decide) (by decide) rfl (fun ls hl => ?_)
                                                refine lv_goto (tgt := 156) X.1 X.2.1 d_H_init_182 (by decide) ?_
                                                refine lv_iload_n X.1 X.2.1 d_H_init_156 rfl (lv_at hl 0 rfl) ?_
                                                refine lv_bipush (v := iI 8) X.1 X.2.1 d_H_init_157 (by decide) ?_
                                                refine z_icmp_ge (tgt := 185) X.1 X.2.1 d_H_init_159 (by decide) ⟨by omega, by omega⟩ ⟨by omega, by omega⟩ (fun h848 => False.elim (by omega)) (fun h848 => ?_)
                                                · refine lv_aload_n X.1 X.2.1 d_H_init_162 rfl (lv_at hl 1 rfl) ?_
                                                  refine q_get X.1 X.2.1 X.2.2.1 i_H X.2.2.2.1 X.2.2.2.2 Y m841 e847 rfl 8 (by decide) (X.2.2.1 _ lk_H_56) (fun _ h9 => h9) rfl d_H_init_163 ?_
                                                  refine lv_iload_n X.1 X.2.1 d_H_init_166 rfl (lv_at hl 0 rfl) ?_
                                                  refine t_new (ci := 9) X Y S hA hF0 i_So t_So t_So_ok ck_H_54 mk_So ini_So rfl (fs := [.null, .int (iI 0), .int (iI 0), .null, .null, .int (iI 0), .int (iI 0), .long 0, .null, .null, .null]) (fun j hj => match j, hj with | 0, _ => rfl | 1, _ => rfl | 2, _ => rfl | 3, _ => rfl | 4, _ => rfl | 5, _ => rfl | 6, _ => rfl | 7, _ => rfl | 8, _ => rfl | 9, _ => rfl | 10, _ => rfl | n9 + 11, h9 => absurd (show n9 + 11 < 11 from h9) (by omega)) (Nat.le_of_ble_eq_true rfl) (Nat.le_of_ble_eq_true rfl) d_H_init_167 (fun q849 L849 f849 H Y S s849 nl849 m849 r849 e849 nz849 => ?_)
                                                  have k850 : κ832 q101 = (21, 0) := tLe_k s849.2.2.1 k833
                                                  have k851 : κ832 q111 = (13, 4000) := tLe_k s849.2.2.1 k834
                                                  have k852 : κ832 q123 = (13, 12288) := tLe_k s849.2.2.1 k835
                                                  have k853 : κ832 q137 = (13, 40) := tLe_k s849.2.2.1 k836
                                                  have k854 : κ832 q171 = (5, 12) := tLe_k s849.2.2.1 k837
                                                  have k855 : κ832 q153 = (15, 0) := tLe_k s849.2.2.1 k838
                                                  have k856 : κ832 q508 = (6, 4) := tLe_k s849.2.2.1 k839
                                                  have e857 : f849 h = .inr (0, [.ref q101, .ref q111, .ref q123, .ref q137, .ref q171, .ref q153, .null, .ref q508, .ref q658]) := (s849.2.2.2 _ ⟨m841, by rw [r842]; decide, by simp⟩).1.trans e847
                                                  have m858 : h ∈ L849 := s849.2.1 _ m841
                                                  have r859 : (κ832 h).1 = 0 := by rw [(s849.2.2.2 _ ⟨m841, by rw [r842]; decide, by simp⟩).2]; exact r842
                                                  have e860 : okP κ832 E.2.2.2.2.1 8 5 19 (f849 q658) := okP_le s849.2.2.1 (by rw [(s849.2.2.2 _ ⟨m844, by rw [r845]; decide, by simp⟩).1]; exact o846)
                                                  have m861 : q658 ∈ L849 := s849.2.1 _ m844
                                                  have r862 : (κ832 q658).1 = 0 := by rw [(s849.2.2.2 _ ⟨m844, by rw [r845]; decide, by simp⟩).2]; exact r845
                                                  refine lv_dup X.1 X.2.1 d_H_init_170 rfl ?_
                                                  refine lv_aload_n X.1 X.2.1 d_H_init_171 rfl (lv_at hl 1 rfl) ?_
                                                  refine q_get X.1 X.2.1 X.2.2.1 i_H X.2.2.2.1 X.2.2.2.2 Y m858 e857 rfl 0 (by decide) (X.2.2.1 _ lk_H_12) (fun _ h9 => h9) rfl d_H_init_172 ?_
                                                  refine t_mk (x_runI (As := [.ref q101]) (rest := [.ref q849, .int (iI 5), .ref q658]) (n := 1) X hml hl.1 (c_So_init l D E T κ832 L849 f849 H.size q849 m849 r849 e849 q101 k850 S.1) (ok_k X Y hA KS KR) kl_H_So_init ks_So_init ki_So_init ini_So rfl ⟨rfl, rfl⟩ hd_So_init.2 ⟨Nat.le_of_ble_eq_true rfl, Nat.le_of_ble_eq_true rfl⟩ rfl (Nat.le_of_ble_eq_true rfl) d_H_init_175 ⟨Nat.le_of_ble_eq_true rfl, Nat.le_of_ble_eq_true rfl⟩) X Y hA S (by decide) nl849 (fun κ863 L863 f863 H locs Y S s863 p863 => ?_)
                                                  have k863 := p863
                                                  have k864 : κ863 q101 = (21, 0) := tLe_k s863.2.2.1 k850
                                                  have k865 : κ863 q111 = (13, 4000) := tLe_k s863.2.2.1 k851
                                                  have k866 : κ863 q123 = (13, 12288) := tLe_k s863.2.2.1 k852
                                                  have k867 : κ863 q137 = (13, 40) := tLe_k s863.2.2.1 k853
                                                  have k868 : κ863 q171 = (5, 12) := tLe_k s863.2.2.1 k854
                                                  have k869 : κ863 q153 = (15, 0) := tLe_k s863.2.2.1 k855
                                                  have k870 : κ863 q508 = (6, 4) := tLe_k s863.2.2.1 k856
                                                  have e871 : f863 h = .inr (0, [.ref q101, .ref q111, .ref q123, .ref q137, .ref q171, .ref q153, .null, .ref q508, .ref q658]) := (s863.2.2.2 _ ⟨m858, by rw [r859]; decide, by simp only [List.mem_singleton]; exact (nz849 _ m841)⟩).1.trans e857
                                                  have m872 : h ∈ L863 := s863.2.1 _ m858
                                                  have r873 : (κ863 h).1 = 0 := by rw [(s863.2.2.2 _ ⟨m858, by rw [r859]; decide, by simp only [List.mem_singleton]; exact (nz849 _ m841)⟩).2]; exact r859
                                                  have e874 : okP κ863 E.2.2.2.2.1 8 5 19 (f863 q658) := okP_le s863.2.2.1 (by rw [(s863.2.2.2 _ ⟨m861, by rw [r862]; decide, by simp only [List.mem_singleton]; exact (nz849 _ m844)⟩).1]; exact e860)
                                                  have m875 : q658 ∈ L863 := s863.2.1 _ m861
                                                  have r876 : (κ863 q658).1 = 0 := by rw [(s863.2.2.2 _ ⟨m861, by rw [r862]; decide, by simp only [List.mem_singleton]; exact (nz849 _ m844)⟩).2]; exact r862
                                                  refine t_aast (ci := 9) (r := (R_So, F_So, 11)) (t0 := 4) X Y S m875 r876 e874 rfl k863 rfl (by omega) (by decide) (by decide) (fun h9 => nl658 h9.1) d_H_init_178 (fun f877 H locs Y S w877 o877 => ?_)
                                                  have e878 : f877 h = .inr (0, [.ref q101, .ref q111, .ref q123, .ref q137, .ref q171, .ref q153, .null, .ref q508, .ref q658]) := (w877 _ (nz658 _ m650)).trans e871
                                                  refine lv_iinc (v := iI 6) (lv' := [(1, .int (iI 6)), (0, .ref h)]) X.1 X.2.1 d_H_init_179 hl (k := 0) rfl (by decide) (by decide) rfl (fun ls hl => ?_)
                                                  refine lv_goto (tgt := 156) X.1 X.2.1 d_H_init_182 (by decide) ?_
                                                  refine lv_iload_n X.1 X.2.1 d_H_init_156 rfl (lv_at hl 0 rfl) ?_
                                                  refine lv_bipush (v := iI 8) X.1 X.2.1 d_H_init_157 (by decide) ?_
                                                  refine z_icmp_ge (tgt := 185) X.1 X.2.1 d_H_init_159 (by decide) ⟨by omega, by omega⟩ ⟨by omega, by omega⟩ (fun h879 => False.elim (by omega)) (fun h879 => ?_)
                                                  · refine lv_aload_n X.1 X.2.1 d_H_init_162 rfl (lv_at hl 1 rfl) ?_
                                                    refine q_get X.1 X.2.1 X.2.2.1 i_H X.2.2.2.1 X.2.2.2.2 Y m872 e878 rfl 8 (by decide) (X.2.2.1 _ lk_H_56) (fun _ h9 => h9) rfl d_H_init_163 ?_
                                                    refine lv_iload_n X.1 X.2.1 d_H_init_166 rfl (lv_at hl 0 rfl) ?_
                                                    refine t_new (ci := 9) X Y S hA hF0 i_So t_So t_So_ok ck_H_54 mk_So ini_So rfl (fs := [.null, .int (iI 0), .int (iI 0), .null, .null, .int (iI 0), .int (iI 0), .long 0, .null, .null, .null]) (fun j hj => match j, hj with | 0, _ => rfl | 1, _ => rfl | 2, _ => rfl | 3, _ => rfl | 4, _ => rfl | 5, _ => rfl | 6, _ => rfl | 7, _ => rfl | 8, _ => rfl | 9, _ => rfl | 10, _ => rfl | n9 + 11, h9 => absurd (show n9 + 11 < 11 from h9) (by omega)) (Nat.le_of_ble_eq_true rfl) (Nat.le_of_ble_eq_true rfl) d_H_init_167 (fun q880 L880 f880 H Y S s880 nl880 m880 r880 e880 nz880 => ?_)
                                                    have k881 : κ863 q101 = (21, 0) := tLe_k s880.2.2.1 k864
                                                    have k882 : κ863 q111 = (13, 4000) := tLe_k s880.2.2.1 k865
                                                    have k883 : κ863 q123 = (13, 12288) := tLe_k s880.2.2.1 k866
                                                    have k884 : κ863 q137 = (13, 40) := tLe_k s880.2.2.1 k867
                                                    have k885 : κ863 q171 = (5, 12) := tLe_k s880.2.2.1 k868
                                                    have k886 : κ863 q153 = (15, 0) := tLe_k s880.2.2.1 k869
                                                    have k887 : κ863 q508 = (6, 4) := tLe_k s880.2.2.1 k870
                                                    have e888 : f880 h = .inr (0, [.ref q101, .ref q111, .ref q123, .ref q137, .ref q171, .ref q153, .null, .ref q508, .ref q658]) := (s880.2.2.2 _ ⟨m872, by rw [r873]; decide, by simp⟩).1.trans e878
                                                    have m889 : h ∈ L880 := s880.2.1 _ m872
                                                    have r890 : (κ863 h).1 = 0 := by rw [(s880.2.2.2 _ ⟨m872, by rw [r873]; decide, by simp⟩).2]; exact r873
                                                    have e891 : okP κ863 E.2.2.2.2.1 8 6 19 (f880 q658) := okP_le s880.2.2.1 (by rw [(s880.2.2.2 _ ⟨m875, by rw [r876]; decide, by simp⟩).1]; exact o877)
                                                    have m892 : q658 ∈ L880 := s880.2.1 _ m875
                                                    have r893 : (κ863 q658).1 = 0 := by rw [(s880.2.2.2 _ ⟨m875, by rw [r876]; decide, by simp⟩).2]; exact r876
                                                    refine lv_dup X.1 X.2.1 d_H_init_170 rfl ?_
                                                    refine lv_aload_n X.1 X.2.1 d_H_init_171 rfl (lv_at hl 1 rfl) ?_
                                                    refine q_get X.1 X.2.1 X.2.2.1 i_H X.2.2.2.1 X.2.2.2.2 Y m889 e888 rfl 0 (by decide) (X.2.2.1 _ lk_H_12) (fun _ h9 => h9) rfl d_H_init_172 ?_
                                                    refine t_mk (x_runI (As := [.ref q101]) (rest := [.ref q880, .int (iI 6), .ref q658]) (n := 1) X hml hl.1 (c_So_init l D E T κ863 L880 f880 H.size q880 m880 r880 e880 q101 k881 S.1) (ok_k X Y hA KS KR) kl_H_So_init ks_So_init ki_So_init ini_So rfl ⟨rfl, rfl⟩ hd_So_init.2 ⟨Nat.le_of_ble_eq_true rfl, Nat.le_of_ble_eq_true rfl⟩ rfl (Nat.le_of_ble_eq_true rfl) d_H_init_175 ⟨Nat.le_of_ble_eq_true rfl, Nat.le_of_ble_eq_true rfl⟩) X Y hA S (by decide) nl880 (fun κ894 L894 f894 H locs Y S s894 p894 => ?_)
                                                    have k894 := p894
                                                    have k895 : κ894 q101 = (21, 0) := tLe_k s894.2.2.1 k881
                                                    have k896 : κ894 q111 = (13, 4000) := tLe_k s894.2.2.1 k882
                                                    have k897 : κ894 q123 = (13, 12288) := tLe_k s894.2.2.1 k883
                                                    have k898 : κ894 q137 = (13, 40) := tLe_k s894.2.2.1 k884
                                                    have k899 : κ894 q171 = (5, 12) := tLe_k s894.2.2.1 k885
                                                    have k900 : κ894 q153 = (15, 0) := tLe_k s894.2.2.1 k886
                                                    have k901 : κ894 q508 = (6, 4) := tLe_k s894.2.2.1 k887
                                                    have e902 : f894 h = .inr (0, [.ref q101, .ref q111, .ref q123, .ref q137, .ref q171, .ref q153, .null, .ref q508, .ref q658]) := (s894.2.2.2 _ ⟨m889, by rw [r890]; decide, by simp only [List.mem_singleton]; exact (nz880 _ m872)⟩).1.trans e888
                                                    have m903 : h ∈ L894 := s894.2.1 _ m889
                                                    have r904 : (κ894 h).1 = 0 := by rw [(s894.2.2.2 _ ⟨m889, by rw [r890]; decide, by simp only [List.mem_singleton]; exact (nz880 _ m872)⟩).2]; exact r890
                                                    have e905 : okP κ894 E.2.2.2.2.1 8 6 19 (f894 q658) := okP_le s894.2.2.1 (by rw [(s894.2.2.2 _ ⟨m892, by rw [r893]; decide, by simp only [List.mem_singleton]; exact (nz880 _ m875)⟩).1]; exact e891)
                                                    have m906 : q658 ∈ L894 := s894.2.1 _ m892
                                                    have r907 : (κ894 q658).1 = 0 := by rw [(s894.2.2.2 _ ⟨m892, by rw [r893]; decide, by simp only [List.mem_singleton]; exact (nz880 _ m875)⟩).2]; exact r893
                                                    refine t_aast (ci := 9) (r := (R_So, F_So, 11)) (t0 := 4) X Y S m906 r907 e905 rfl k894 rfl (by omega) (by decide) (by decide) (fun h9 => nl658 h9.1) d_H_init_178 (fun f908 H locs Y S w908 o908 => ?_)
                                                    have e909 : f908 h = .inr (0, [.ref q101, .ref q111, .ref q123, .ref q137, .ref q171, .ref q153, .null, .ref q508, .ref q658]) := (w908 _ (nz658 _ m650)).trans e902
                                                    refine lv_iinc (v := iI 7) (lv' := [(1, .int (iI 7)), (0, .ref h)]) X.1 X.2.1 d_H_init_179 hl (k := 0) rfl (by decide) (by decide) rfl (fun ls hl => ?_)
                                                    refine lv_goto (tgt := 156) X.1 X.2.1 d_H_init_182 (by decide) ?_
                                                    refine lv_iload_n X.1 X.2.1 d_H_init_156 rfl (lv_at hl 0 rfl) ?_
                                                    refine lv_bipush (v := iI 8) X.1 X.2.1 d_H_init_157 (by decide) ?_
                                                    refine z_icmp_ge (tgt := 185) X.1 X.2.1 d_H_init_159 (by decide) ⟨by omega, by omega⟩ ⟨by omega, by omega⟩ (fun h910 => False.elim (by omega)) (fun h910 => ?_)
                                                    · refine lv_aload_n X.1 X.2.1 d_H_init_162 rfl (lv_at hl 1 rfl) ?_
                                                      refine q_get X.1 X.2.1 X.2.2.1 i_H X.2.2.2.1 X.2.2.2.2 Y m903 e909 rfl 8 (by decide) (X.2.2.1 _ lk_H_56) (fun _ h9 => h9) rfl d_H_init_163 ?_
                                                      refine lv_iload_n X.1 X.2.1 d_H_init_166 rfl (lv_at hl 0 rfl) ?_
                                                      refine t_new (ci := 9) X Y S hA hF0 i_So t_So t_So_ok ck_H_54 mk_So ini_So rfl (fs := [.null, .int (iI 0), .int (iI 0), .null, .null, .int (iI 0), .int (iI 0), .long 0, .null, .null, .null]) (fun j hj => match j, hj with | 0, _ => rfl | 1, _ => rfl | 2, _ => rfl | 3, _ => rfl | 4, _ => rfl | 5, _ => rfl | 6, _ => rfl | 7, _ => rfl | 8, _ => rfl | 9, _ => rfl | 10, _ => rfl | n9 + 11, h9 => absurd (show n9 + 11 < 11 from h9) (by omega)) (Nat.le_of_ble_eq_true rfl) (Nat.le_of_ble_eq_true rfl) d_H_init_167 (fun q911 L911 f911 H Y S s911 nl911 m911 r911 e911 nz911 => ?_)
                                                      have k912 : κ894 q101 = (21, 0) := tLe_k s911.2.2.1 k895
                                                      have k913 : κ894 q111 = (13, 4000) := tLe_k s911.2.2.1 k896
                                                      have k914 : κ894 q123 = (13, 12288) := tLe_k s911.2.2.1 k897
                                                      have k915 : κ894 q137 = (13, 40) := tLe_k s911.2.2.1 k898
                                                      have k916 : κ894 q171 = (5, 12) := tLe_k s911.2.2.1 k899
                                                      have k917 : κ894 q153 = (15, 0) := tLe_k s911.2.2.1 k900
                                                      have k918 : κ894 q508 = (6, 4) := tLe_k s911.2.2.1 k901
                                                      have e919 : f911 h = .inr (0, [.ref q101, .ref q111, .ref q123, .ref q137, .ref q171, .ref q153, .null, .ref q508, .ref q658]) := (s911.2.2.2 _ ⟨m903, by rw [r904]; decide, by simp⟩).1.trans e909
                                                      have m920 : h ∈ L911 := s911.2.1 _ m903
                                                      have r921 : (κ894 h).1 = 0 := by rw [(s911.2.2.2 _ ⟨m903, by rw [r904]; decide, by simp⟩).2]; exact r904
                                                      have e922 : okP κ894 E.2.2.2.2.1 8 7 19 (f911 q658) := okP_le s911.2.2.1 (by rw [(s911.2.2.2 _ ⟨m906, by rw [r907]; decide, by simp⟩).1]; exact o908)
                                                      have m923 : q658 ∈ L911 := s911.2.1 _ m906
                                                      have r924 : (κ894 q658).1 = 0 := by rw [(s911.2.2.2 _ ⟨m906, by rw [r907]; decide, by simp⟩).2]; exact r907
                                                      refine lv_dup X.1 X.2.1 d_H_init_170 rfl ?_
                                                      refine lv_aload_n X.1 X.2.1 d_H_init_171 rfl (lv_at hl 1 rfl) ?_
                                                      refine q_get X.1 X.2.1 X.2.2.1 i_H X.2.2.2.1 X.2.2.2.2 Y m920 e919 rfl 0 (by decide) (X.2.2.1 _ lk_H_12) (fun _ h9 => h9) rfl d_H_init_172 ?_
                                                      refine t_mk (x_runI (As := [.ref q101]) (rest := [.ref q911, .int (iI 7), .ref q658]) (n := 1) X hml hl.1 (c_So_init l D E T κ894 L911 f911 H.size q911 m911 r911 e911 q101 k912 S.1) (ok_k X Y hA KS KR) kl_H_So_init ks_So_init ki_So_init ini_So rfl ⟨rfl, rfl⟩ hd_So_init.2 ⟨Nat.le_of_ble_eq_true rfl, Nat.le_of_ble_eq_true rfl⟩ rfl (Nat.le_of_ble_eq_true rfl) d_H_init_175 ⟨Nat.le_of_ble_eq_true rfl, Nat.le_of_ble_eq_true rfl⟩) X Y hA S (by decide) nl911 (fun κ925 L925 f925 H locs Y S s925 p925 => ?_)
                                                      have k925 := p925
                                                      have k926 : κ925 q101 = (21, 0) := tLe_k s925.2.2.1 k912
                                                      have k927 : κ925 q111 = (13, 4000) := tLe_k s925.2.2.1 k913
                                                      have k928 : κ925 q123 = (13, 12288) := tLe_k s925.2.2.1 k914
                                                      have k929 : κ925 q137 = (13, 40) := tLe_k s925.2.2.1 k915
                                                      have k930 : κ925 q171 = (5, 12) := tLe_k s925.2.2.1 k916
                                                      have k931 : κ925 q153 = (15, 0) := tLe_k s925.2.2.1 k917
                                                      have k932 : κ925 q508 = (6, 4) := tLe_k s925.2.2.1 k918
                                                      have e933 : f925 h = .inr (0, [.ref q101, .ref q111, .ref q123, .ref q137, .ref q171, .ref q153, .null, .ref q508, .ref q658]) := (s925.2.2.2 _ ⟨m920, by rw [r921]; decide, by simp only [List.mem_singleton]; exact (nz911 _ m903)⟩).1.trans e919
                                                      have m934 : h ∈ L925 := s925.2.1 _ m920
                                                      have r935 : (κ925 h).1 = 0 := by rw [(s925.2.2.2 _ ⟨m920, by rw [r921]; decide, by simp only [List.mem_singleton]; exact (nz911 _ m903)⟩).2]; exact r921
                                                      have e936 : okP κ925 E.2.2.2.2.1 8 7 19 (f925 q658) := okP_le s925.2.2.1 (by rw [(s925.2.2.2 _ ⟨m923, by rw [r924]; decide, by simp only [List.mem_singleton]; exact (nz911 _ m906)⟩).1]; exact e922)
                                                      have m937 : q658 ∈ L925 := s925.2.1 _ m923
                                                      have r938 : (κ925 q658).1 = 0 := by rw [(s925.2.2.2 _ ⟨m923, by rw [r924]; decide, by simp only [List.mem_singleton]; exact (nz911 _ m906)⟩).2]; exact r924
                                                      refine t_aast (ci := 9) (r := (R_So, F_So, 11)) (t0 := 4) X Y S m937 r938 e936 rfl k925 rfl (by omega) (by decide) (by decide) (fun h9 => nl658 h9.1) d_H_init_178 (fun f939 H locs Y S w939 o939 => ?_)
                                                      have e940 : f939 h = .inr (0, [.ref q101, .ref q111, .ref q123, .ref q137, .ref q171, .ref q153, .null, .ref q508, .ref q658]) := (w939 _ (nz658 _ m650)).trans e933
                                                      refine lv_iinc (v := iI 8) (lv' := [(1, .int (iI 8)), (0, .ref h)]) X.1 X.2.1 d_H_init_179 hl (k := 0) rfl (by decide) (by decide) rfl (fun ls hl => ?_)
                                                      refine lv_goto (tgt := 156) X.1 X.2.1 d_H_init_182 (by decide) ?_
                                                      refine lv_iload_n X.1 X.2.1 d_H_init_156 rfl (lv_at hl 0 rfl) ?_
                                                      refine lv_bipush (v := iI 8) X.1 X.2.1 d_H_init_157 (by decide) ?_
                                                      refine z_icmp_ge (tgt := 185) X.1 X.2.1 d_H_init_159 (by decide) ⟨by omega, by omega⟩ ⟨by omega, by omega⟩ (fun h941 => ?_) (fun h941 => False.elim (by omega))
                                                      · refine lv_aload_n X.1 X.2.1 d_H_init_185 rfl (lv_at hl 1 rfl) ?_
                                                        refine q_get X.1 X.2.1 X.2.2.1 i_H X.2.2.2.1 X.2.2.2.2 Y m934 e940 rfl 3 (by decide) (X.2.2.1 _ lk_H_28) (fun _ h9 => h9) rfl d_H_init_186 ?_
                                                        obtain ⟨S, s942⟩ := t_arrkind (c1 := 7) (n := 8) S m937 r938 nl658 hF0 (raw0_of hw nl658) (okP_le (tLe_raw r938) o939)
                                                        have k942 : (va_up κ925 q658 (7, 8)) q658 = (7, 8) := va_up_self _ _ _
                                                        generalize va_up κ925 q658 (7, 8) = κ942 at S s942 k942
                                                        have k943 : κ942 q137 = (13, 40) := tLe_k s942.2.2.1 k929
                                                        have k944 : κ942 q101 = (21, 0) := tLe_k s942.2.2.1 k926
                                                        have k945 : κ942 q111 = (13, 4000) := tLe_k s942.2.2.1 k927
                                                        have k946 : κ942 q123 = (13, 12288) := tLe_k s942.2.2.1 k928
                                                        have k947 : κ942 q171 = (5, 12) := tLe_k s942.2.2.1 k930
                                                        have k948 : κ942 q153 = (15, 0) := tLe_k s942.2.2.1 k931
                                                        have k949 : κ942 q508 = (6, 4) := tLe_k s942.2.2.1 k932
                                                        have e950 : f939 h = .inr (0, [.ref q101, .ref q111, .ref q123, .ref q137, .ref q171, .ref q153, .null, .ref q508, .ref q658]) := (s942.2.2.2 _ ⟨m934, by rw [r935]; decide, by simp only [List.mem_singleton]; exact (nz658 _ m650)⟩).1.trans e940
                                                        have m951 : h ∈ L925 := s942.2.1 _ m934
                                                        have r952 : (κ942 h).1 = 0 := by rw [(s942.2.2.2 _ ⟨m934, by rw [r935]; decide, by simp only [List.mem_singleton]; exact (nz658 _ m650)⟩).2]; exact r935
                                                        refine t_nv (x_runS (As := [.ref q137]) (rest := []) (n := 1) X hml hl.1 (c_H_putCentreName l D E T κ942 L925 f939 H.size q137 40 k943 (by omega) S.1) (ok_k X Y hA KS KR) kl_H_H_putCentreName ks_H_putCentreName ki_H_putCentreName ini_H ⟨rfl, rfl⟩ hd_H_putCentreName.2 ⟨Nat.le_of_ble_eq_true rfl, Nat.le_of_ble_eq_true rfl⟩ rfl (Nat.le_of_ble_eq_true rfl) d_H_init_189 ⟨Nat.le_of_ble_eq_true rfl, Nat.le_of_ble_eq_true rfl⟩) X Y hA S (by decide) (fun f953 H locs Y S s953 p953 => ?_)
                                                        have e954 : f953 h = .inr (0, [.ref q101, .ref q111, .ref q123, .ref q137, .ref q171, .ref q153, .null, .ref q508, .ref q658]) := ((s953.2.2.2 _ ⟨m951, by rw [r952]; decide, by simp⟩).1).trans e950
                                                        refine lv_aload_n X.1 X.2.1 d_H_init_192 rfl (lv_at hl 1 rfl) ?_
                                                        refine q_get X.1 X.2.1 X.2.2.1 i_H X.2.2.2.1 X.2.2.2.2 Y m951 e954 rfl 4 (by decide) (X.2.2.1 _ lk_H_42) (fun _ h9 => h9) rfl d_H_init_193 ?_
                                                        refine lv_iconst (v := iI 0) X.1 X.2.1 d_H_init_196 (by decide) ?_
                                                        refine t_aald X Y S k947 (fun h9 => h9) (t0 := 2) rfl (by omega) (by omega) (by omega) d_H_init_197 (fun b955 e955 k955 => ?_)
                                                        refine lv_aload_n X.1 X.2.1 d_H_init_198 rfl (lv_at hl 1 rfl) ?_
                                                        refine q_get X.1 X.2.1 X.2.2.1 i_H X.2.2.2.1 X.2.2.2.2 Y m951 e954 rfl 3 (by decide) (X.2.2.1 _ lk_H_28) (fun _ h9 => h9) rfl d_H_init_199 ?_
                                                        refine t_nv (t_runV (As := [.ref q137]) (rest := []) (n := 1) X Y S k955 hml hl.1 (c_Pr_begin l D E T κ942 L925 f953 H.size b955 k955 q137 40 k943 (by omega) S.1) (ok_k X Y hA KS KR) rfl kl_H_Pr_begin ks_Pr_begin kx_Pr_begin ki_Pr_begin ini_Pr ⟨rfl, rfl⟩ hd_Pr_begin ⟨Nat.le_of_ble_eq_true rfl, Nat.le_of_ble_eq_true rfl⟩ rfl (Nat.le_of_ble_eq_true rfl) d_H_init_202 ⟨Nat.le_of_ble_eq_true rfl, Nat.le_of_ble_eq_true rfl⟩) X Y hA S (by decide) (fun f956 H locs Y S s956 p956 => ?_)
                                                        have e957 : f956 h = .inr (0, [.ref q101, .ref q111, .ref q123, .ref q137, .ref q171, .ref q153, .null, .ref q508, .ref q658]) := ((s956.2.2.2 _ ⟨m951, by rw [r952]; decide, by simp⟩).1).trans e954
                                                        refine lv_aload_n X.1 X.2.1 d_H_init_205 rfl (lv_at hl 1 rfl) ?_
                                                        refine q_get X.1 X.2.1 X.2.2.1 i_H X.2.2.2.1 X.2.2.2.2 Y m951 e957 rfl 4 (by decide) (X.2.2.1 _ lk_H_42) (fun _ h9 => h9) rfl d_H_init_206 ?_
                                                        refine lv_iconst (v := iI 0) X.1 X.2.1 d_H_init_209 (by decide) ?_
                                                        refine t_aald X Y S k947 (fun h9 => h9) (t0 := 2) rfl (by omega) (by omega) (by omega) d_H_init_210 (fun b958 e958 k958 => ?_)
                                                        refine lv_aload_n X.1 X.2.1 d_H_init_211 rfl (lv_at hl 1 rfl) ?_
                                                        refine q_get X.1 X.2.1 X.2.2.1 i_H X.2.2.2.1 X.2.2.2.2 Y m951 e957 rfl 0 (by decide) (X.2.2.1 _ lk_H_12) (fun _ h9 => h9) rfl d_H_init_212 ?_
                                                        refine lv_aload_n X.1 X.2.1 d_H_init_215 rfl (lv_at hl 1 rfl) ?_
                                                        refine q_get X.1 X.2.1 X.2.2.1 i_H X.2.2.2.1 X.2.2.2.2 Y m951 e957 rfl 1 (by decide) (X.2.2.1 _ lk_H_21) (fun _ h9 => h9) rfl d_H_init_216 ?_
                                                        refine lv_iconst (v := iI 0) X.1 X.2.1 d_H_init_219 (by decide) ?_
                                                        refine lv_iconst (v := iI 1) X.1 X.2.1 d_H_init_220 (by decide) ?_
                                                        refine t_av (t_runV (As := [.ref q101, .ref q111, .int (iI 0), .int (iI 1)]) (rest := []) (n := 4) X Y S k958 hml hl.1 (c_Pr_rekey l D E T κ942 L925 f956 H.size b958 k958 q101 k944 q111 4000 k945 (by omega) 0 (by omega) (by omega) 1 (by omega) (by omega) S.1) (ok_k X Y hA KS KR) rfl kl_H_Pr_rekey ks_Pr_rekey kx_Pr_rekey ki_Pr_rekey ini_Pr ⟨rfl, rfl⟩ hd_Pr_rekey ⟨Nat.le_of_ble_eq_true rfl, Nat.le_of_ble_eq_true rfl⟩ rfl (Nat.le_of_ble_eq_true rfl) d_H_init_221 ⟨Nat.le_of_ble_eq_true rfl, Nat.le_of_ble_eq_true rfl⟩) X Y hA S (by decide) (fun κ959 L959 f959 H locs Y S s959 p959 => ?_)
                                                        have k960 : κ959 q101 = (21, 0) := tLe_k s959.2.2.1 k944
                                                        have k961 : κ959 q111 = (13, 4000) := tLe_k s959.2.2.1 k945
                                                        have k962 : κ959 q123 = (13, 12288) := tLe_k s959.2.2.1 k946
                                                        have k963 : κ959 q137 = (13, 40) := tLe_k s959.2.2.1 k943
                                                        have k964 : κ959 q171 = (5, 12) := tLe_k s959.2.2.1 k947
                                                        have k965 : κ959 q153 = (15, 0) := tLe_k s959.2.2.1 k948
                                                        have k966 : κ959 q508 = (6, 4) := tLe_k s959.2.2.1 k949
                                                        have k967 : κ959 q658 = (7, 8) := tLe_k s959.2.2.1 k942
                                                        have e968 : f959 h = .inr (0, [.ref q101, .ref q111, .ref q123, .ref q137, .ref q171, .ref q153, .null, .ref q508, .ref q658]) := (s959.2.2.2 _ ⟨m951, by rw [r952]; decide, by simp⟩).1.trans e957
                                                        have m969 : h ∈ L959 := s959.2.1 _ m951
                                                        have r970 : (κ959 h).1 = 0 := by rw [(s959.2.2.2 _ ⟨m951, by rw [r952]; decide, by simp⟩).2]; exact r952
                                                        refine lv_aload_n X.1 X.2.1 d_H_init_224 rfl (lv_at hl 1 rfl) ?_
                                                        refine t_new (ci := 4) X Y S hA hF0 i_Ce t_Ce t_Ce_ok ck_H_72 mk_Ce ini_Ce rfl (fs := [.null, .null, .null, .null, .null, .null, .int (iI 0), .int (iI 0), .int (iI 0), .int (iI 0), .null, .null, .int (iI 0), .int (iI 0), .int (iI 0), .int (iI 0)]) (fun j hj => match j, hj with | 0, _ => rfl | 1, _ => rfl | 2, _ => rfl | 3, _ => rfl | 4, _ => rfl | 5, _ => rfl | 6, _ => rfl | 7, _ => rfl | 8, _ => rfl | 9, _ => rfl | 10, _ => rfl | 11, _ => rfl | 12, _ => rfl | 13, _ => rfl | 14, _ => rfl | 15, _ => rfl | n9 + 16, h9 => absurd (show n9 + 16 < 16 from h9) (by omega)) (Nat.le_of_ble_eq_true rfl) (Nat.le_of_ble_eq_true rfl) d_H_init_225 (fun q971 L971 f971 H Y S s971 nl971 m971 r971 e971 nz971 => ?_)
                                                        have k972 : κ959 q101 = (21, 0) := tLe_k s971.2.2.1 k960
                                                        have k973 : κ959 q111 = (13, 4000) := tLe_k s971.2.2.1 k961
                                                        have k974 : κ959 q123 = (13, 12288) := tLe_k s971.2.2.1 k962
                                                        have k975 : κ959 q137 = (13, 40) := tLe_k s971.2.2.1 k963
                                                        have k976 : κ959 q171 = (5, 12) := tLe_k s971.2.2.1 k964
                                                        have k977 : κ959 q153 = (15, 0) := tLe_k s971.2.2.1 k965
                                                        have k978 : κ959 q508 = (6, 4) := tLe_k s971.2.2.1 k966
                                                        have k979 : κ959 q658 = (7, 8) := tLe_k s971.2.2.1 k967
                                                        have e980 : f971 h = .inr (0, [.ref q101, .ref q111, .ref q123, .ref q137, .ref q171, .ref q153, .null, .ref q508, .ref q658]) := (s971.2.2.2 _ ⟨m969, by rw [r970]; decide, by simp⟩).1.trans e968
                                                        have m981 : h ∈ L971 := s971.2.1 _ m969
                                                        have r982 : (κ959 h).1 = 0 := by rw [(s971.2.2.2 _ ⟨m969, by rw [r970]; decide, by simp⟩).2]; exact r970
                                                        refine lv_dup X.1 X.2.1 d_H_init_228 rfl ?_
                                                        refine lv_aload_n X.1 X.2.1 d_H_init_229 rfl (lv_at hl 1 rfl) ?_
                                                        refine q_get X.1 X.2.1 X.2.2.1 i_H X.2.2.2.1 X.2.2.2.2 Y m981 e980 rfl 0 (by decide) (X.2.2.1 _ lk_H_12) (fun _ h9 => h9) rfl d_H_init_230 ?_
                                                        refine lv_aload_n X.1 X.2.1 d_H_init_233 rfl (lv_at hl 1 rfl) ?_
                                                        refine q_get X.1 X.2.1 X.2.2.1 i_H X.2.2.2.1 X.2.2.2.2 Y m981 e980 rfl 5 (by decide) (X.2.2.1 _ lk_H_36) (fun _ h9 => h9) rfl d_H_init_234 ?_
                                                        refine lv_aload_n X.1 X.2.1 d_H_init_237 rfl (lv_at hl 1 rfl) ?_
                                                        refine q_get X.1 X.2.1 X.2.2.1 i_H X.2.2.2.1 X.2.2.2.2 Y m981 e980 rfl 4 (by decide) (X.2.2.1 _ lk_H_42) (fun _ h9 => h9) rfl d_H_init_238 ?_
                                                        refine lv_aload_n X.1 X.2.1 d_H_init_241 rfl (lv_at hl 1 rfl) ?_
                                                        refine q_get X.1 X.2.1 X.2.2.1 i_H X.2.2.2.1 X.2.2.2.2 Y m981 e980 rfl 1 (by decide) (X.2.2.1 _ lk_H_21) (fun _ h9 => h9) rfl d_H_init_242 ?_
                                                        refine lv_aload_n X.1 X.2.1 d_H_init_245 rfl (lv_at hl 1 rfl) ?_
                                                        refine q_get X.1 X.2.1 X.2.2.1 i_H X.2.2.2.1 X.2.2.2.2 Y m981 e980 rfl 2 (by decide) (X.2.2.1 _ lk_H_25) (fun _ h9 => h9) rfl d_H_init_246 ?_
                                                        refine t_mk (x_runI (As := [.ref q101, .ref q153, .ref q171, .ref q111, .ref q123]) (rest := [.ref q971, .ref h]) (n := 5) X hml hl.1 (c_Ce_init l D E T κ959 L971 f971 H.size q971 m971 r971 e971 q101 k972 q153 k977 q171 k976 q111 k973 q123 k974 S.1) (ok_k X Y hA KS KR) kl_H_Ce_init ks_Ce_init ki_Ce_init ini_Ce rfl ⟨rfl, rfl⟩ hd_Ce_init.2 ⟨Nat.le_of_ble_eq_true rfl, Nat.le_of_ble_eq_true rfl⟩ rfl (Nat.le_of_ble_eq_true rfl) d_H_init_249 ⟨Nat.le_of_ble_eq_true rfl, Nat.le_of_ble_eq_true rfl⟩) X Y hA S (by decide) nl971 (fun κ983 L983 f983 H locs Y S s983 p983 => ?_)
                                                        obtain ⟨k983, x983⟩ := p983
                                                        have k984 : κ983 q101 = (21, 0) := tLe_k s983.2.2.1 k972
                                                        have k985 : κ983 q111 = (13, 4000) := tLe_k s983.2.2.1 k973
                                                        have k986 : κ983 q123 = (13, 12288) := tLe_k s983.2.2.1 k974
                                                        have k987 : κ983 q137 = (13, 40) := tLe_k s983.2.2.1 k975
                                                        have k988 : κ983 q171 = (5, 12) := tLe_k s983.2.2.1 k976
                                                        have k989 : κ983 q153 = (15, 0) := tLe_k s983.2.2.1 k977
                                                        have k990 : κ983 q508 = (6, 4) := tLe_k s983.2.2.1 k978
                                                        have k991 : κ983 q658 = (7, 8) := tLe_k s983.2.2.1 k979
                                                        have e992 : f983 h = .inr (0, [.ref q101, .ref q111, .ref q123, .ref q137, .ref q171, .ref q153, .null, .ref q508, .ref q658]) := (s983.2.2.2 _ ⟨m981, by rw [r982]; decide, by simp only [List.mem_singleton]; exact (nz971 _ m969)⟩).1.trans e980
                                                        have m993 : h ∈ L983 := s983.2.1 _ m981
                                                        have r994 : (κ983 h).1 = 0 := by rw [(s983.2.2.2 _ ⟨m981, by rw [r982]; decide, by simp only [List.mem_singleton]; exact (nz971 _ m969)⟩).2]; exact r982
                                                        refine q_putF X.1 X.2.1 X.2.2.1 i_H t_H t_H_ok n_H X.2.2.2.1 X.2.2.2.2 Y m993 e992 rfl 6 (by decide) (X.2.2.1 _ lk_H_77) (fun _ h9 => h9) rfl hin rfl (t_H_ok 6 (by decide)) rfl rfl (Nat.le_of_ble_eq_true rfl) d_H_init_252 (fun H locs Y => ?_)
                                                        have Y : pH D cCl (pA L sz) s.heap L983 (va_up f983 h (.inr (0, [.ref q101, .ref q111, .ref q123, .ref q137, .ref q171, .ref q153, .ref q971, .ref q508, .ref q658]))) H locs := Y
                                                        have S := tS_up (x := .inr (0, [.ref q101, .ref q111, .ref q123, .ref q137, .ref q171, .ref q153, .ref q971, .ref q508, .ref q658])) S (fun h9 => h9.2.2 (List.mem_singleton.mpr rfl)) (fun h9 => absurd r994 h9)
                                                        have e996 : (va_up f983 h (.inr (0, [.ref q101, .ref q111, .ref q123, .ref q137, .ref q171, .ref q153, .ref q971, .ref q508, .ref q658]))) h = .inr (0, [.ref q101, .ref q111, .ref q123, .ref q137, .ref q171, .ref q153, .ref q971, .ref q508, .ref q658]) := q_up
                                                        have e997 : gF (va_up f983 h (.inr (0, [.ref q101, .ref q111, .ref q123, .ref q137, .ref q171, .ref q153, .ref q971, .ref q508, .ref q658]))) q971 3 = .ref q111 := (gF_same (q_ne (kr_ne k983 r994 (by decide)).symm) 3).trans x983
                                                        generalize va_up f983 h (.inr (0, [.ref q101, .ref q111, .ref q123, .ref q137, .ref q171, .ref q153, .ref q971, .ref q508, .ref q658])) = f995 at Y S e996 e997
                                                        have hle : tLe κ983 (va_up κ983 h (10, 0)) := tLe_raw r994
                                                        have S := (tS_kind (k := (10, 0)) S m993 r994 r_h (fun h9 => h9.2.2 (List.mem_singleton.mpr rfl)) (by rw [e996]; exact ⟨_, rfl, okO_of ⟨⟨_, rfl, tLe_k hle k984⟩, ⟨_, rfl, tLe_k hle k985⟩, ⟨_, rfl, tLe_k hle k986⟩, ⟨_, rfl, tLe_k hle k987⟩, ⟨_, rfl, tLe_k hle k988⟩, ⟨_, rfl, tLe_k hle k989⟩, ⟨_, rfl, tLe_k hle k983⟩, ⟨_, rfl, tLe_k hle k990⟩, ⟨_, rfl, tLe_k hle k991⟩, trivial⟩⟩)).1
                                                        exact c_retv hQQ X Y hr hlk ⟨_, S, ⟨va_up_self _ _ _, ⟨q971, q111, (show gF f995 h 6 = .ref q971 by unfold gF; rw [e996]; rfl), e997, (show gF f995 h 1 = .ref q111 by unfold gF; rw [e996]; rfl)⟩⟩⟩ d_H_init_255
