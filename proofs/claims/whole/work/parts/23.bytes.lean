/-! Bytes: one cell and its row. -/
def q_t (x : va_E) : Nat := match x with
  | .inl _ => 1000
  | .inr o => o.1
theorem q_tag {f : pF} {a b : Nat} {x y : va_E} (ea : f a = x) (eb : f b = y) (h : q_t x ≠ q_t y) : a ≠ b := fun e => h (by rw [← ea, ← eb, e])
abbrev b_By_clear : ByteArray := prog_4_method_2_code
def y_By_clear : MethodName := ⟨R_By, "clear", "()V"⟩
abbrev k_By_clear : Cond := .code y_By_clear b_By_clear 1 none
theorem ki_By_clear : k_By_clear ∈ lw_tg := in_t 475 (by decide +kernel)
theorem ks_By_clear : Cond.instanceMethod y_By_clear ∈ lw_tg := in_t 473 (by decide +kernel)
theorem kx_By_clear : Cond.selects R_By y_By_clear y_By_clear ∈ lw_tg := in_t 474 (by decide +kernel)
theorem kl_H_By_clear : Cond.methodLink R_H 88 y_By_clear ∈ lw_tg := in_t 472 (by decide +kernel)
theorem kl_Va_By_clear : Cond.methodLink R_Va 106 y_By_clear ∈ lw_tg := in_t 569 (by decide +kernel)
theorem kl_Ce_By_clear : Cond.methodLink R_Ce 265 y_By_clear ∈ lw_tg := in_t 1233 (by decide +kernel)
theorem kl_Ag_By_clear : Cond.methodLink R_Ag 140 y_By_clear ∈ lw_tg := in_t 1423 (by decide +kernel)
theorem kl_Ti_By_clear : Cond.methodLink R_Ti 67 y_By_clear ∈ lw_tg := in_t 1515 (by decide +kernel)
theorem kl_So_By_clear : Cond.methodLink R_So 94 y_By_clear ∈ lw_tg := in_t 1594 (by decide +kernel)
theorem hd_By_clear : y_By_clear.cls = R_By ∧ y_By_clear.cls ≠ "java/lang/invoke/MethodHandle" ∧ y_By_clear.cls ≠ "java/lang/invoke/VarHandle" ∧ (parseMethodDescriptor y_By_clear.desc).map (fun d => d.parameters.length) = some 0 := by decide +kernel
theorem d_By_clear_0 : decode b_By_clear 0 = .ok (.aload_n 0, 1) := by decide +kernel
theorem d_By_clear_1 : decode b_By_clear 1 = .ok (.iconst 0, 1) := by decide +kernel
theorem d_By_clear_2 : decode b_By_clear 2 = .ok (.putfield 21, 3) := by decide +kernel
theorem lk_By_21 : Cond.fieldLink R_By 21 R_By (F_By 1).2.1 (F_By 1).2.2.1 ∈ lw_tg := in_t 49 (by decide +kernel)
theorem d_By_clear_5 : decode b_By_clear 5 = .ok (.return_, 1) := by decide +kernel
abbrev b_By_at : ByteArray := prog_4_method_3_code
def y_By_at : MethodName := ⟨R_By, "at", "(I)I"⟩
abbrev k_By_at : Cond := .code y_By_at b_By_at 2 (some .int)
theorem ki_By_at : k_By_at ∈ lw_tg := in_t 761 (by decide +kernel)
theorem ks_By_at : Cond.instanceMethod y_By_at ∈ lw_tg := in_t 759 (by decide +kernel)
theorem kx_By_at : Cond.selects R_By y_By_at y_By_at ∈ lw_tg := in_t 760 (by decide +kernel)
theorem kl_H_By_at : Cond.methodLink R_H 105 y_By_at ∈ lw_tg := in_t 758 (by decide +kernel)
theorem kl_By_By_at : Cond.methodLink R_By 123 y_By_at ∈ lw_tg := in_t 799 (by decide +kernel)
theorem kl_Ce_By_at : Cond.methodLink R_Ce 61 y_By_at ∈ lw_tg := in_t 842 (by decide +kernel)
theorem kl_Va_By_at : Cond.methodLink R_Va 210 y_By_at ∈ lw_tg := in_t 1046 (by decide +kernel)
theorem kl_Se_By_at : Cond.methodLink R_Se 39 y_By_at ∈ lw_tg := in_t 1092 (by decide +kernel)
theorem kl_Ag_By_at : Cond.methodLink R_Ag 239 y_By_at ∈ lw_tg := in_t 1483 (by decide +kernel)
theorem kl_So_By_at : Cond.methodLink R_So 219 y_By_at ∈ lw_tg := in_t 1677 (by decide +kernel)
theorem hd_By_at : y_By_at.cls = R_By ∧ y_By_at.cls ≠ "java/lang/invoke/MethodHandle" ∧ y_By_at.cls ≠ "java/lang/invoke/VarHandle" ∧ (parseMethodDescriptor y_By_at.desc).map (fun d => d.parameters.length) = some 1 := by decide +kernel
theorem d_By_at_0 : decode b_By_at 0 = .ok (.iload_n 1, 1) := by decide +kernel
theorem d_By_at_1 : decode b_By_at 1 = .ok (.ifCond .lt 24, 3) := by decide +kernel
theorem d_By_at_4 : decode b_By_at 4 = .ok (.iload_n 1, 1) := by decide +kernel
theorem d_By_at_5 : decode b_By_at 5 = .ok (.aload_n 0, 1) := by decide +kernel
theorem d_By_at_6 : decode b_By_at 6 = .ok (.getfield 21, 3) := by decide +kernel
theorem d_By_at_9 : decode b_By_at 9 = .ok (.if_icmp .ge 16, 3) := by decide +kernel
theorem d_By_at_12 : decode b_By_at 12 = .ok (.aload_n 0, 1) := by decide +kernel
theorem d_By_at_13 : decode b_By_at 13 = .ok (.getfield 15, 3) := by decide +kernel
theorem lk_By_15 : Cond.fieldLink R_By 15 R_By (F_By 0).2.1 (F_By 0).2.2.1 ∈ lw_tg := in_t 44 (by decide +kernel)
theorem d_By_at_16 : decode b_By_at 16 = .ok (.iload_n 1, 1) := by decide +kernel
theorem d_By_at_17 : decode b_By_at 17 = .ok (.baload, 1) := by decide +kernel
theorem d_By_at_18 : decode b_By_at 18 = .ok (.sipush 255, 3) := by decide +kernel
theorem d_By_at_21 : decode b_By_at 21 = .ok (.iand, 1) := by decide +kernel
theorem d_By_at_22 : decode b_By_at 22 = .ok (.goto 4, 3) := by decide +kernel
theorem d_By_at_25 : decode b_By_at 25 = .ok (.iconst (-1), 1) := by decide +kernel
theorem d_By_at_26 : decode b_By_at 26 = .ok (.ireturn, 1) := by decide +kernel
abbrev b_By_put : ByteArray := prog_4_method_4_code
def y_By_put : MethodName := ⟨R_By, "put", "(I)V"⟩
abbrev k_By_put : Cond := .code y_By_put b_By_put 2 none
theorem ki_By_put : k_By_put ∈ lw_tg := in_t 540 (by decide +kernel)
theorem ks_By_put : Cond.instanceMethod y_By_put ∈ lw_tg := in_t 538 (by decide +kernel)
theorem kx_By_put : Cond.selects R_By y_By_put y_By_put ∈ lw_tg := in_t 539 (by decide +kernel)
theorem kl_By_By_put : Cond.methodLink R_By 25 y_By_put ∈ lw_tg := in_t 537 (by decide +kernel)
theorem kl_Va_By_put : Cond.methodLink R_Va 180 y_By_put ∈ lw_tg := in_t 1327 (by decide +kernel)
theorem hd_By_put : y_By_put.cls = R_By ∧ y_By_put.cls ≠ "java/lang/invoke/MethodHandle" ∧ y_By_put.cls ≠ "java/lang/invoke/VarHandle" ∧ (parseMethodDescriptor y_By_put.desc).map (fun d => d.parameters.length) = some 1 := by decide +kernel
theorem d_By_put_0 : decode b_By_put 0 = .ok (.aload_n 0, 1) := by decide +kernel
theorem d_By_put_1 : decode b_By_put 1 = .ok (.getfield 21, 3) := by decide +kernel
theorem d_By_put_4 : decode b_By_put 4 = .ok (.aload_n 0, 1) := by decide +kernel
theorem d_By_put_5 : decode b_By_put 5 = .ok (.getfield 15, 3) := by decide +kernel
theorem d_By_put_8 : decode b_By_put 8 = .ok (.arraylength, 1) := by decide +kernel
theorem d_By_put_9 : decode b_By_put 9 = .ok (.if_icmp .ge 24, 3) := by decide +kernel
theorem d_By_put_12 : decode b_By_put 12 = .ok (.aload_n 0, 1) := by decide +kernel
theorem d_By_put_13 : decode b_By_put 13 = .ok (.getfield 15, 3) := by decide +kernel
theorem d_By_put_16 : decode b_By_put 16 = .ok (.aload_n 0, 1) := by decide +kernel
theorem d_By_put_17 : decode b_By_put 17 = .ok (.getfield 21, 3) := by decide +kernel
theorem d_By_put_20 : decode b_By_put 20 = .ok (.iload_n 1, 1) := by decide +kernel
theorem d_By_put_21 : decode b_By_put 21 = .ok (.i2b, 1) := by decide +kernel
theorem d_By_put_22 : decode b_By_put 22 = .ok (.bastore, 1) := by decide +kernel
theorem d_By_put_23 : decode b_By_put 23 = .ok (.aload_n 0, 1) := by decide +kernel
theorem d_By_put_24 : decode b_By_put 24 = .ok (.dup, 1) := by decide +kernel
theorem d_By_put_25 : decode b_By_put 25 = .ok (.getfield 21, 3) := by decide +kernel
theorem d_By_put_28 : decode b_By_put 28 = .ok (.iconst 1, 1) := by decide +kernel
theorem d_By_put_29 : decode b_By_put 29 = .ok (.iadd, 1) := by decide +kernel
theorem d_By_put_30 : decode b_By_put 30 = .ok (.putfield 21, 3) := by decide +kernel
theorem d_By_put_33 : decode b_By_put 33 = .ok (.return_, 1) := by decide +kernel
abbrev b_By_putWord : ByteArray := prog_4_method_5_code
def y_By_putWord : MethodName := ⟨R_By, "putWord", "(I)V"⟩
abbrev k_By_putWord : Cond := .code y_By_putWord b_By_putWord 2 none
theorem ki_By_putWord : k_By_putWord ∈ lw_tg := in_t 609 (by decide +kernel)
theorem ks_By_putWord : Cond.instanceMethod y_By_putWord ∈ lw_tg := in_t 607 (by decide +kernel)
theorem kx_By_putWord : Cond.selects R_By y_By_putWord y_By_putWord ∈ lw_tg := in_t 608 (by decide +kernel)
theorem kl_Va_By_putWord : Cond.methodLink R_Va 109 y_By_putWord ∈ lw_tg := in_t 606 (by decide +kernel)
theorem kl_H_By_putWord : Cond.methodLink R_H 85 y_By_putWord ∈ lw_tg := in_t 743 (by decide +kernel)
theorem kl_Ce_By_putWord : Cond.methodLink R_Ce 360 y_By_putWord ∈ lw_tg := in_t 1260 (by decide +kernel)
theorem kl_By_By_putWord : Cond.methodLink R_By 74 y_By_putWord ∈ lw_tg := in_t 1286 (by decide +kernel)
theorem hd_By_putWord : y_By_putWord.cls = R_By ∧ y_By_putWord.cls ≠ "java/lang/invoke/MethodHandle" ∧ y_By_putWord.cls ≠ "java/lang/invoke/VarHandle" ∧ (parseMethodDescriptor y_By_putWord.desc).map (fun d => d.parameters.length) = some 1 := by decide +kernel
theorem d_By_putWord_0 : decode b_By_putWord 0 = .ok (.aload_n 0, 1) := by decide +kernel
theorem d_By_putWord_1 : decode b_By_putWord 1 = .ok (.iload_n 1, 1) := by decide +kernel
theorem d_By_putWord_2 : decode b_By_putWord 2 = .ok (.bipush 24, 2) := by decide +kernel
theorem d_By_putWord_4 : decode b_By_putWord 4 = .ok (.ishr, 1) := by decide +kernel
theorem d_By_putWord_5 : decode b_By_putWord 5 = .ok (.invokevirtual 25, 3) := by decide +kernel
theorem d_By_putWord_8 : decode b_By_putWord 8 = .ok (.aload_n 0, 1) := by decide +kernel
theorem d_By_putWord_9 : decode b_By_putWord 9 = .ok (.iload_n 1, 1) := by decide +kernel
theorem d_By_putWord_10 : decode b_By_putWord 10 = .ok (.bipush 16, 2) := by decide +kernel
theorem d_By_putWord_12 : decode b_By_putWord 12 = .ok (.ishr, 1) := by decide +kernel
theorem d_By_putWord_13 : decode b_By_putWord 13 = .ok (.invokevirtual 25, 3) := by decide +kernel
theorem d_By_putWord_16 : decode b_By_putWord 16 = .ok (.aload_n 0, 1) := by decide +kernel
theorem d_By_putWord_17 : decode b_By_putWord 17 = .ok (.iload_n 1, 1) := by decide +kernel
theorem d_By_putWord_18 : decode b_By_putWord 18 = .ok (.bipush 8, 2) := by decide +kernel
theorem d_By_putWord_20 : decode b_By_putWord 20 = .ok (.ishr, 1) := by decide +kernel
theorem d_By_putWord_21 : decode b_By_putWord 21 = .ok (.invokevirtual 25, 3) := by decide +kernel
theorem d_By_putWord_24 : decode b_By_putWord 24 = .ok (.aload_n 0, 1) := by decide +kernel
theorem d_By_putWord_25 : decode b_By_putWord 25 = .ok (.iload_n 1, 1) := by decide +kernel
theorem d_By_putWord_26 : decode b_By_putWord 26 = .ok (.invokevirtual 25, 3) := by decide +kernel
theorem d_By_putWord_29 : decode b_By_putWord 29 = .ok (.return_, 1) := by decide +kernel
abbrev b_By_open : ByteArray := prog_4_method_9_code
def y_By_open : MethodName := ⟨R_By, "open", "(I)I"⟩
abbrev k_By_open : Cond := .code y_By_open b_By_open 2 (some .int)
theorem ki_By_open : k_By_open ∈ lw_tg := in_t 484 (by decide +kernel)
theorem ks_By_open : Cond.instanceMethod y_By_open ∈ lw_tg := in_t 482 (by decide +kernel)
theorem kx_By_open : Cond.selects R_By y_By_open y_By_open ∈ lw_tg := in_t 483 (by decide +kernel)
theorem kl_By_By_open : Cond.methodLink R_By 39 y_By_open ∈ lw_tg := in_t 481 (by decide +kernel)
theorem kl_Ce_By_open : Cond.methodLink R_Ce 268 y_By_open ∈ lw_tg := in_t 1234 (by decide +kernel)
theorem kl_Va_By_open : Cond.methodLink R_Va 166 y_By_open ∈ lw_tg := in_t 1324 (by decide +kernel)
theorem kl_Ag_By_open : Cond.methodLink R_Ag 143 y_By_open ∈ lw_tg := in_t 1424 (by decide +kernel)
theorem kl_H_By_open : Cond.methodLink R_H 330 y_By_open ∈ lw_tg := in_t 1571 (by decide +kernel)
theorem kl_So_By_open : Cond.methodLink R_So 97 y_By_open ∈ lw_tg := in_t 1595 (by decide +kernel)
theorem kl_Ti_By_open : Cond.methodLink R_Ti 93 y_By_open ∈ lw_tg := in_t 1717 (by decide +kernel)
theorem hd_By_open : y_By_open.cls = R_By ∧ y_By_open.cls ≠ "java/lang/invoke/MethodHandle" ∧ y_By_open.cls ≠ "java/lang/invoke/VarHandle" ∧ (parseMethodDescriptor y_By_open.desc).map (fun d => d.parameters.length) = some 1 := by decide +kernel
theorem d_By_open_0 : decode b_By_open 0 = .ok (.aload_n 0, 1) := by decide +kernel
theorem d_By_open_1 : decode b_By_open 1 = .ok (.getfield 21, 3) := by decide +kernel
theorem d_By_open_4 : decode b_By_open 4 = .ok (.aload_n 0, 1) := by decide +kernel
theorem d_By_open_5 : decode b_By_open 5 = .ok (.getfield 15, 3) := by decide +kernel
theorem d_By_open_8 : decode b_By_open 8 = .ok (.arraylength, 1) := by decide +kernel
theorem d_By_open_9 : decode b_By_open 9 = .ok (.iconst 1, 1) := by decide +kernel
theorem d_By_open_10 : decode b_By_open 10 = .ok (.isub, 1) := by decide +kernel
theorem d_By_open_11 : decode b_By_open 11 = .ok (.if_icmp .ge 24, 3) := by decide +kernel
theorem d_By_open_14 : decode b_By_open 14 = .ok (.aload_n 0, 1) := by decide +kernel
theorem d_By_open_15 : decode b_By_open 15 = .ok (.getfield 15, 3) := by decide +kernel
theorem d_By_open_18 : decode b_By_open 18 = .ok (.aload_n 0, 1) := by decide +kernel
theorem d_By_open_19 : decode b_By_open 19 = .ok (.getfield 21, 3) := by decide +kernel
theorem d_By_open_22 : decode b_By_open 22 = .ok (.iload_n 1, 1) := by decide +kernel
theorem d_By_open_23 : decode b_By_open 23 = .ok (.i2b, 1) := by decide +kernel
theorem d_By_open_24 : decode b_By_open 24 = .ok (.bastore, 1) := by decide +kernel
theorem d_By_open_25 : decode b_By_open 25 = .ok (.aload_n 0, 1) := by decide +kernel
theorem d_By_open_26 : decode b_By_open 26 = .ok (.dup, 1) := by decide +kernel
theorem d_By_open_27 : decode b_By_open 27 = .ok (.getfield 21, 3) := by decide +kernel
theorem d_By_open_30 : decode b_By_open 30 = .ok (.iconst 2, 1) := by decide +kernel
theorem d_By_open_31 : decode b_By_open 31 = .ok (.iadd, 1) := by decide +kernel
theorem d_By_open_32 : decode b_By_open 32 = .ok (.putfield 21, 3) := by decide +kernel
theorem d_By_open_35 : decode b_By_open 35 = .ok (.aload_n 0, 1) := by decide +kernel
theorem d_By_open_36 : decode b_By_open 36 = .ok (.getfield 21, 3) := by decide +kernel
theorem d_By_open_39 : decode b_By_open 39 = .ok (.ireturn, 1) := by decide +kernel
abbrev b_By_openField : ByteArray := prog_4_method_11_code
def y_By_openField : MethodName := ⟨R_By, "openField", "(I)I"⟩
abbrev k_By_openField : Cond := .code y_By_openField b_By_openField 2 (some .int)
theorem ki_By_openField : k_By_openField ∈ lw_tg := in_t 1242 (by decide +kernel)
theorem ks_By_openField : Cond.instanceMethod y_By_openField ∈ lw_tg := in_t 1240 (by decide +kernel)
theorem kx_By_openField : Cond.selects R_By y_By_openField y_By_openField ∈ lw_tg := in_t 1241 (by decide +kernel)
theorem kl_By_By_openField : Cond.methodLink R_By 46 y_By_openField ∈ lw_tg := in_t 1239 (by decide +kernel)
theorem kl_Ce_By_openField : Cond.methodLink R_Ce 275 y_By_openField ∈ lw_tg := in_t 1248 (by decide +kernel)
theorem kl_Va_By_openField : Cond.methodLink R_Va 177 y_By_openField ∈ lw_tg := in_t 1326 (by decide +kernel)
theorem kl_Ag_By_openField : Cond.methodLink R_Ag 169 y_By_openField ∈ lw_tg := in_t 1438 (by decide +kernel)
theorem kl_So_By_openField : Cond.methodLink R_So 116 y_By_openField ∈ lw_tg := in_t 1601 (by decide +kernel)
theorem hd_By_openField : y_By_openField.cls = R_By ∧ y_By_openField.cls ≠ "java/lang/invoke/MethodHandle" ∧ y_By_openField.cls ≠ "java/lang/invoke/VarHandle" ∧ (parseMethodDescriptor y_By_openField.desc).map (fun d => d.parameters.length) = some 1 := by decide +kernel
theorem d_By_openField_0 : decode b_By_openField 0 = .ok (.aload_n 0, 1) := by decide +kernel
theorem d_By_openField_1 : decode b_By_openField 1 = .ok (.sipush 160, 3) := by decide +kernel
theorem d_By_openField_4 : decode b_By_openField 4 = .ok (.iload_n 1, 1) := by decide +kernel
theorem d_By_openField_5 : decode b_By_openField 5 = .ok (.iadd, 1) := by decide +kernel
theorem d_By_openField_6 : decode b_By_openField 6 = .ok (.invokevirtual 39, 3) := by decide +kernel
theorem d_By_openField_9 : decode b_By_openField 9 = .ok (.ireturn, 1) := by decide +kernel
set_option maxHeartbeats 4000000 in
set_option maxRecDepth 100000 in
theorem c_By_clear (l : Launch) (D : va_G) (E : cE) (L : List Nat) (f : pF) (sz : Nat) (b r N n : Nat) (g : Nat → Int32) (hb : b ∈ L) (eb : f b = .inr (3, [.ref r, .int (nI n)])) (hr0 : r ∈ L) (er : f r = .inl (E.1, N, .inl g)) (hn : n ≤ N) (hN : N < 100000) : Met l y_By_clear (k_By_clear :: lw_tg) (mR 0 0) (va_Pc [.ref b] (cPre D E L f sz)) (va_Qv (fun (u : cU) => u.1 = L ∧ (∀ x, x ≠ b → x ≠ r → u.2 x = f x) ∧ ∃ (n2 : Nat) (g2 : Nat → Int32), n2 ≤ N ∧ n2 = 0 ∧ u.2 b = .inr (3, [.ref r, .int (nI n2)]) ∧ u.2 r = .inl (E.1, N, .inl g2)) (cPost D E (pA L sz)) (pA L sz)) 0 0 (pA L sz) := by
  refine c_enter (own := R_By) (by decide) rfl (Nat.le_of_ble_eq_true rfl) ⟨rfl, rfl⟩ (fun p e s m below meth c ls AV QQ H locs hQQ X Y hA hin hr hlk hml hl => ?_)
  have hl : lv_has ls 1 [(0, .ref b)] := hl
  refine lv_aload_n X.1 X.2.1 d_By_clear_0 rfl (lv_at hl 0 rfl) ?_
  refine lv_iconst (v := (nI 0)) X.1 X.2.1 d_By_clear_1 (by decide) ?_
  refine q_put X.1 X.2.1 X.2.2.1 i_By t_By t_By_ok n_By X.2.2.2.1 X.2.2.2.2 Y hb eb rfl 1 (by decide) (X.2.2.1 _ lk_By_21) (fun _ h9 => h9) rfl (t_By_ok 1 (by decide)) rfl rfl (Nat.le_of_ble_eq_true rfl) d_By_clear_2 (fun H locs Y => ?_)
  have e2 : (va_up f b (.inr (3, [.ref r, .int (nI 0)]))) b = .inr (3, [.ref r, .int (nI 0)]) := q_up
  have e3 : (va_up f b (.inr (3, [.ref r, .int (nI 0)]))) r = .inl (E.1, N, .inl g) := (q_ne (q_tag er eb (show (1000 : Nat) ≠ 3 by decide))).trans er
  have hF4 : ∀ x, x ≠ b → x ≠ r → (va_up f b (.inr (3, [.ref r, .int (nI 0)]))) x = f x := fun x h0 h1 => (q_ne h0).trans rfl
  have Y : pH D cCl (pA L sz) s.heap L (va_up f b (.inr (3, [.ref r, .int (nI 0)]))) H locs := Y
  generalize (va_up f b (.inr (3, [.ref r, .int (nI 0)]))) = f1 at Y e2 e3 hF4
  exact c_retv hQQ X Y hr hlk ⟨rfl, hF4, 0, g, (by omega), (by omega), e2, e3⟩ d_By_clear_5
set_option maxHeartbeats 4000000 in
set_option maxRecDepth 100000 in
theorem c_By_at (l : Launch) (D : va_G) (E : cE) (L : List Nat) (f : pF) (sz : Nat) (a1 : Int32) (b r N n : Nat) (g : Nat → Int32) (hb : b ∈ L) (eb : f b = .inr (3, [.ref r, .int (nI n)])) (hr0 : r ∈ L) (er : f r = .inl (E.1, N, .inl g)) (hn : n ≤ N) (hN : N < 100000) : Met l y_By_at (k_By_at :: lw_tg) (mR 0 0) (va_Pc [.ref b, .int a1] (cPre D E L f sz)) (va_Qi (fun (r0 : Int32) (u : cU) => u.1 = L ∧ (∀ x, x ≠ b → x ≠ r → u.2 x = f x) ∧ ∃ (n2 : Nat) (g2 : Nat → Int32), n2 ≤ N ∧ n2 = n ∧ u.2 b = .inr (3, [.ref r, .int (nI n2)]) ∧ u.2 r = .inl (E.1, N, .inl g2) ∧ ((n = 0 → r0 = (-1)) ∧ (r0 = (-1) ∨ ∃ k, k < 256 ∧ r0 = nI k))) (cPost D E (pA L sz)) (pA L sz)) 0 0 (pA L sz) := by
  refine c_enter (own := R_By) (by decide) rfl (Nat.le_of_ble_eq_true rfl) ⟨rfl, rfl⟩ (fun p e s m below meth c ls AV QQ H locs hQQ X Y hA hin hr hlk hml hl => ?_)
  have hl : lv_has ls 2 [(0, .ref b), (1, .int a1)] := hl
  refine lv_iload_n X.1 X.2.1 d_By_at_0 rfl (lv_at hl 1 rfl) ?_
  refine lv_if_lt (tgt := 25) X.1 X.2.1 d_By_at_1 (by decide) (fun c1 => ?_) (fun c1 => ?_)
  · skip
    refine lv_iconst (v := (-1)) X.1 X.2.1 d_By_at_25 (by decide) ?_
    exact c_reti hQQ X Y hr hlk ⟨rfl, (fun _ _ _ => rfl), n, g, (by omega), (by omega), eb, er, ⟨fun _ => rfl, Or.inl rfl⟩⟩ d_By_at_26
  · skip
    refine lv_iload_n X.1 X.2.1 d_By_at_4 rfl (lv_at hl 1 rfl) ?_
    refine lv_aload_n X.1 X.2.1 d_By_at_5 rfl (lv_at hl 0 rfl) ?_
    refine q_get X.1 X.2.1 X.2.2.1 i_By X.2.2.2.1 X.2.2.2.2 Y hb eb rfl 1 (by decide) (X.2.2.1 _ lk_By_21) (fun _ h9 => h9) rfl d_By_at_6 ?_
    refine lv_icmp_ge (tgt := 25) X.1 X.2.1 d_By_at_9 (by decide) (fun c2 => ?_) (fun c2 => ?_)
    · skip
      refine lv_iconst (v := (-1)) X.1 X.2.1 d_By_at_25 (by decide) ?_
      exact c_reti hQQ X Y hr hlk ⟨rfl, (fun _ _ _ => rfl), n, g, (by omega), (by omega), eb, er, ⟨fun _ => rfl, Or.inl rfl⟩⟩ d_By_at_26
    · skip
      refine lv_aload_n X.1 X.2.1 d_By_at_12 rfl (lv_at hl 0 rfl) ?_
      refine q_get X.1 X.2.1 X.2.2.1 i_By X.2.2.2.1 X.2.2.2.2 Y hb eb rfl 0 (by decide) (X.2.2.1 _ lk_By_15) (fun _ h9 => h9) rfl d_By_at_13 ?_
      refine lv_iload_n X.1 X.2.1 d_By_at_16 rfl (lv_at hl 1 rfl) ?_
      obtain ⟨n3, hn3, en3⟩ := ((pk_ix a1 (n := n) (by omega)).resolve_left c1).resolve_left c2
      refine t_eq en3 ?_
      refine q_bald X.1 X.2.1 X.2.2.2.2 Y 0 hr0 er rfl (vp_in_nI (by omega) (by omega)) d_By_at_17 ?_
      refine t_any (fun v4 => ?_)
      refine lv_sipush (v := (nI 255)) X.1 X.2.1 d_By_at_18 (by decide) ?_
      refine lv_iand X.1 X.2.1 d_By_at_21 ?_
      obtain ⟨j5, hj5, ej5⟩ := pk_andE v4 (m := nI 255) 8 (by decide)
      refine t_eq ej5 ?_
      have hj5 : j5 < 256 := hj5
      refine lv_goto (tgt := 26) X.1 X.2.1 d_By_at_22 (by decide) ?_
      exact c_reti hQQ X Y hr hlk ⟨rfl, (fun _ _ _ => rfl), n, g, (by omega), (by omega), eb, er, ⟨fun h9 => absurd h9 (by omega), Or.inr ⟨j5, by omega, rfl⟩⟩⟩ d_By_at_26
set_option maxHeartbeats 4000000 in
set_option maxRecDepth 100000 in
theorem c_By_put (l : Launch) (D : va_G) (E : cE) (L : List Nat) (f : pF) (sz : Nat) (a1 : Int32) (b r N n : Nat) (g : Nat → Int32) (hb : b ∈ L) (eb : f b = .inr (3, [.ref r, .int (nI n)])) (hr0 : r ∈ L) (er : f r = .inl (E.1, N, .inl g)) (hn : n ≤ N) (hN : N < 100000) : Met l y_By_put (k_By_put :: lw_tg) (mR 0 0) (va_Pc [.ref b, .int a1] (cPre D E L f sz)) (va_Qv (fun (u : cU) => u.1 = L ∧ (∀ x, x ≠ b → x ≠ r → u.2 x = f x) ∧ ∃ (n2 : Nat) (g2 : Nat → Int32), n2 ≤ N ∧ n ≤ n2 ∧ n2 ≤ n + 1 ∧ u.2 b = .inr (3, [.ref r, .int (nI n2)]) ∧ u.2 r = .inl (E.1, N, .inl g2)) (cPost D E (pA L sz)) (pA L sz)) 0 0 (pA L sz) := by
  refine c_enter (own := R_By) (by decide) rfl (Nat.le_of_ble_eq_true rfl) ⟨rfl, rfl⟩ (fun p e s m below meth c ls AV QQ H locs hQQ X Y hA hin hr hlk hml hl => ?_)
  have hl : lv_has ls 2 [(0, .ref b), (1, .int a1)] := hl
  refine lv_aload_n X.1 X.2.1 d_By_put_0 rfl (lv_at hl 0 rfl) ?_
  refine q_get X.1 X.2.1 X.2.2.1 i_By X.2.2.2.1 X.2.2.2.2 Y hb eb rfl 1 (by decide) (X.2.2.1 _ lk_By_21) (fun _ h9 => h9) rfl d_By_put_1 ?_
  refine lv_aload_n X.1 X.2.1 d_By_put_4 rfl (lv_at hl 0 rfl) ?_
  refine q_get X.1 X.2.1 X.2.2.1 i_By X.2.2.2.1 X.2.2.2.2 Y hb eb rfl 0 (by decide) (X.2.2.1 _ lk_By_15) (fun _ h9 => h9) rfl d_By_put_5 ?_
  refine q_alen X.1 X.2.1 X.2.2.2.2 Y 0 hr0 er rfl (v := nI (N)) rfl d_By_put_8 ?_
  refine lv_icmp_ge (tgt := 33) X.1 X.2.1 d_By_put_9 (by decide) (fun c1 => ?_) (fun c1 => ?_)
  · skip
    rw [nI_leI (by omega) (by omega)] at c1
    exact c_retv hQQ X Y hr hlk ⟨rfl, (fun _ _ _ => rfl), n, g, (by omega), (by omega), (by omega), eb, er⟩ d_By_put_33
  · skip
    rw [nI_leI (by omega) (by omega)] at c1
    refine lv_aload_n X.1 X.2.1 d_By_put_12 rfl (lv_at hl 0 rfl) ?_
    refine q_get X.1 X.2.1 X.2.2.1 i_By X.2.2.2.1 X.2.2.2.2 Y hb eb rfl 0 (by decide) (X.2.2.1 _ lk_By_15) (fun _ h9 => h9) rfl d_By_put_13 ?_
    refine lv_aload_n X.1 X.2.1 d_By_put_16 rfl (lv_at hl 0 rfl) ?_
    refine q_get X.1 X.2.1 X.2.2.1 i_By X.2.2.2.1 X.2.2.2.2 Y hb eb rfl 1 (by decide) (X.2.2.1 _ lk_By_21) (fun _ h9 => h9) rfl d_By_put_17 ?_
    refine lv_iload_n X.1 X.2.1 d_By_put_20 rfl (lv_at hl 1 rfl) ?_
    obtain ⟨v2, ev2⟩ : ∃ z : Int32, (a1 : Int32).toInt8.toInt32 = z := ⟨_, rfl⟩
    refine lv_i2b (v := v2) X.1 X.2.1 d_By_put_21 ev2 ?_
    refine q_bast X.1 X.2.1 X.2.2.2.2 Y 0 hr0 er rfl (vp_in_nI (by omega) (by omega)) d_By_put_22 (fun H locs Y => ?_)
    generalize (upd g ((nI n)).toNatClampNeg (vp_nar .byte v2)) = g3 at Y
    have e5 : (va_up f r (.inl (E.1, N, .inl g3))) r = .inl (E.1, N, .inl g3) := q_up
    have e6 : (va_up f r (.inl (E.1, N, .inl g3))) b = .inr (3, [.ref r, .int (nI n)]) := (q_ne (q_tag eb er (show (3 : Nat) ≠ 1000 by decide))).trans eb
    have hF7 : ∀ x, x ≠ b → x ≠ r → (va_up f r (.inl (E.1, N, .inl g3))) x = f x := fun x h0 h1 => (q_ne h1).trans rfl
    have Y : pH D cCl (pA L sz) s.heap L (va_up f r (.inl (E.1, N, .inl g3))) H locs := Y
    generalize (va_up f r (.inl (E.1, N, .inl g3))) = f4 at Y e5 e6 hF7
    refine lv_aload_n X.1 X.2.1 d_By_put_23 rfl (lv_at hl 0 rfl) ?_
    refine lv_dup X.1 X.2.1 d_By_put_24 rfl ?_
    refine q_get X.1 X.2.1 X.2.2.1 i_By X.2.2.2.1 X.2.2.2.2 Y hb e6 rfl 1 (by decide) (X.2.2.1 _ lk_By_21) (fun _ h9 => h9) rfl d_By_put_25 ?_
    refine lv_iconst (v := (nI 1)) X.1 X.2.1 d_By_put_28 (by decide) ?_
    refine lv_iadd X.1 X.2.1 d_By_put_29 ?_
    refine t_eq (y := nI (n + 1)) (nI_add _ _) ?_
    refine q_put X.1 X.2.1 X.2.2.1 i_By t_By t_By_ok n_By X.2.2.2.1 X.2.2.2.2 Y hb e6 rfl 1 (by decide) (X.2.2.1 _ lk_By_21) (fun _ h9 => h9) rfl (t_By_ok 1 (by decide)) rfl rfl (Nat.le_of_ble_eq_true rfl) d_By_put_30 (fun H locs Y => ?_)
    have e9 : (va_up f4 b (.inr (3, [.ref r, .int (nI (n + 1))]))) b = .inr (3, [.ref r, .int (nI (n + 1))]) := q_up
    have e10 : (va_up f4 b (.inr (3, [.ref r, .int (nI (n + 1))]))) r = .inl (E.1, N, .inl g3) := (q_ne (q_tag e5 e6 (show (1000 : Nat) ≠ 3 by decide))).trans e5
    have hF11 : ∀ x, x ≠ b → x ≠ r → (va_up f4 b (.inr (3, [.ref r, .int (nI (n + 1))]))) x = f x := fun x h0 h1 => (q_ne h0).trans (hF7 x h0 h1)
    have Y : pH D cCl (pA L sz) s.heap L (va_up f4 b (.inr (3, [.ref r, .int (nI (n + 1))]))) H locs := Y
    generalize (va_up f4 b (.inr (3, [.ref r, .int (nI (n + 1))]))) = f8 at Y e9 e10 hF11
    exact c_retv hQQ X Y hr hlk ⟨rfl, hF11, n + 1, g3, (by omega), (by omega), (by omega), e9, e10⟩ d_By_put_33
set_option maxHeartbeats 4000000 in
set_option maxRecDepth 100000 in
theorem c_By_putWord (l : Launch) (D : va_G) (E : cE) (L : List Nat) (f : pF) (sz : Nat) (a1 : Int32) (b r N n : Nat) (g : Nat → Int32) (hb : b ∈ L) (eb : f b = .inr (3, [.ref r, .int (nI n)])) (hr0 : r ∈ L) (er : f r = .inl (E.1, N, .inl g)) (hn : n ≤ N) (hN : N < 100000) : Met l y_By_putWord (k_By_putWord :: lw_tg) (mR 1 21) (va_Pc [.ref b, .int a1] (cPre D E L f sz)) (va_Qv (fun (u : cU) => u.1 = L ∧ (∀ x, x ≠ b → x ≠ r → u.2 x = f x) ∧ ∃ (n2 : Nat) (g2 : Nat → Int32), n2 ≤ N ∧ n ≤ n2 ∧ n2 ≤ n + 4 ∧ u.2 b = .inr (3, [.ref r, .int (nI n2)]) ∧ u.2 r = .inl (E.1, N, .inl g2)) (cPost D E (pA L sz)) (pA L sz)) 0 0 (pA L sz) := by
  refine c_enter (own := R_By) (by decide) rfl (Nat.le_of_ble_eq_true rfl) ⟨rfl, rfl⟩ (fun p e s m below meth c ls AV QQ H locs hQQ X Y hA hin hr hlk hml hl => ?_)
  have hl : lv_has ls 2 [(0, .ref b), (1, .int a1)] := hl
  refine lv_aload_n X.1 X.2.1 d_By_putWord_0 rfl (lv_at hl 0 rfl) ?_
  refine lv_iload_n X.1 X.2.1 d_By_putWord_1 rfl (lv_at hl 1 rfl) ?_
  refine lv_bipush (v := (nI 24)) X.1 X.2.1 d_By_putWord_2 (by decide) ?_
  refine lv_ishr X.1 X.2.1 d_By_putWord_4 ?_
  refine t_any (fun v1 => ?_)
  refine c_callv (As := [.int v1]) (rest := []) (n := 1) X Y hA hml hl.1 (c_By_put l D E L f H.size v1 b r (N) (n) g hb eb hr0 er (by omega) (by omega)) hb eb rfl kl_By_By_put ks_By_put kx_By_put ki_By_put ini_By ⟨rfl, rfl⟩ hd_By_put ⟨by decide, by decide⟩ rfl (Nat.le_of_ble_eq_true rfl) d_By_putWord_5 ⟨Nat.le_refl _, Nat.le_refl _⟩ (fun u H locs hp Y => ?_)
  obtain ⟨L3, f2⟩ := u
  obtain ⟨eL13, hF4, n5, g6, h8, h9, h10, e11, e12⟩ := hp
  dsimp only at eL13 hF4 e11 e12 Y
  rw [eL13] at Y
  have hF15 : ∀ x, x ≠ b → x ≠ r → f2 x = f x := fun x h0 h1 => (hF4 x h0 h1).trans rfl
  refine lv_aload_n X.1 X.2.1 d_By_putWord_8 rfl (lv_at hl 0 rfl) ?_
  refine lv_iload_n X.1 X.2.1 d_By_putWord_9 rfl (lv_at hl 1 rfl) ?_
  refine lv_bipush (v := (nI 16)) X.1 X.2.1 d_By_putWord_10 (by decide) ?_
  refine lv_ishr X.1 X.2.1 d_By_putWord_12 ?_
  refine t_any (fun v16 => ?_)
  refine c_callv (As := [.int v16]) (rest := []) (n := 1) X Y hA hml hl.1 (c_By_put l D E L f2 H.size v16 b r (N) (n5) g6 hb e11 hr0 e12 (by omega) (by omega)) hb e11 rfl kl_By_By_put ks_By_put kx_By_put ki_By_put ini_By ⟨rfl, rfl⟩ hd_By_put ⟨by decide, by decide⟩ rfl (Nat.le_of_ble_eq_true rfl) d_By_putWord_13 ⟨Nat.le_refl _, Nat.le_refl _⟩ (fun u H locs hp Y => ?_)
  obtain ⟨L18, f17⟩ := u
  obtain ⟨eL28, hF19, n20, g21, h23, h24, h25, e26, e27⟩ := hp
  dsimp only at eL28 hF19 e26 e27 Y
  rw [eL28] at Y
  have hF30 : ∀ x, x ≠ b → x ≠ r → f17 x = f x := fun x h0 h1 => (hF19 x h0 h1).trans (hF15 x h0 h1)
  refine lv_aload_n X.1 X.2.1 d_By_putWord_16 rfl (lv_at hl 0 rfl) ?_
  refine lv_iload_n X.1 X.2.1 d_By_putWord_17 rfl (lv_at hl 1 rfl) ?_
  refine lv_bipush (v := (nI 8)) X.1 X.2.1 d_By_putWord_18 (by decide) ?_
  refine lv_ishr X.1 X.2.1 d_By_putWord_20 ?_
  refine t_any (fun v31 => ?_)
  refine c_callv (As := [.int v31]) (rest := []) (n := 1) X Y hA hml hl.1 (c_By_put l D E L f17 H.size v31 b r (N) (n20) g21 hb e26 hr0 e27 (by omega) (by omega)) hb e26 rfl kl_By_By_put ks_By_put kx_By_put ki_By_put ini_By ⟨rfl, rfl⟩ hd_By_put ⟨by decide, by decide⟩ rfl (Nat.le_of_ble_eq_true rfl) d_By_putWord_21 ⟨Nat.le_refl _, Nat.le_refl _⟩ (fun u H locs hp Y => ?_)
  obtain ⟨L33, f32⟩ := u
  obtain ⟨eL43, hF34, n35, g36, h38, h39, h40, e41, e42⟩ := hp
  dsimp only at eL43 hF34 e41 e42 Y
  rw [eL43] at Y
  have hF45 : ∀ x, x ≠ b → x ≠ r → f32 x = f x := fun x h0 h1 => (hF34 x h0 h1).trans (hF30 x h0 h1)
  refine lv_aload_n X.1 X.2.1 d_By_putWord_24 rfl (lv_at hl 0 rfl) ?_
  refine lv_iload_n X.1 X.2.1 d_By_putWord_25 rfl (lv_at hl 1 rfl) ?_
  refine c_callv (As := [.int a1]) (rest := []) (n := 1) X Y hA hml hl.1 (c_By_put l D E L f32 H.size a1 b r (N) (n35) g36 hb e41 hr0 e42 (by omega) (by omega)) hb e41 rfl kl_By_By_put ks_By_put kx_By_put ki_By_put ini_By ⟨rfl, rfl⟩ hd_By_put ⟨by decide, by decide⟩ rfl (Nat.le_of_ble_eq_true rfl) d_By_putWord_26 ⟨Nat.le_refl _, Nat.le_refl _⟩ (fun u H locs hp Y => ?_)
  obtain ⟨L47, f46⟩ := u
  obtain ⟨eL57, hF48, n49, g50, h52, h53, h54, e55, e56⟩ := hp
  dsimp only at eL57 hF48 e55 e56 Y
  rw [eL57] at Y
  have hF59 : ∀ x, x ≠ b → x ≠ r → f46 x = f x := fun x h0 h1 => (hF48 x h0 h1).trans (hF45 x h0 h1)
  exact c_retv hQQ X Y hr hlk ⟨rfl, hF59, n49, g50, (by omega), (by omega), (by omega), e55, e56⟩ d_By_putWord_29
set_option maxHeartbeats 4000000 in
set_option maxRecDepth 100000 in
theorem c_By_open (l : Launch) (D : va_G) (E : cE) (L : List Nat) (f : pF) (sz : Nat) (a1 : Int32) (b r N n : Nat) (g : Nat → Int32) (hb : b ∈ L) (eb : f b = .inr (3, [.ref r, .int (nI n)])) (hr0 : r ∈ L) (er : f r = .inl (E.1, N, .inl g)) (hn : n ≤ N) (hN : N < 100000) : Met l y_By_open (k_By_open :: lw_tg) (mR 0 0) (va_Pc [.ref b, .int a1] (cPre D E L f sz)) (va_Qi (fun (r0 : Int32) (u : cU) => u.1 = L ∧ (∀ x, x ≠ b → x ≠ r → u.2 x = f x) ∧ ∃ (n2 : Nat) (g2 : Nat → Int32), n2 ≤ N ∧ n ≤ n2 ∧ n2 ≤ n + 2 ∧ u.2 b = .inr (3, [.ref r, .int (nI n2)]) ∧ u.2 r = .inl (E.1, N, .inl g2) ∧ (r0 = nI n2)) (cPost D E (pA L sz)) (pA L sz)) 0 0 (pA L sz) := by
  refine c_enter (own := R_By) (by decide) rfl (Nat.le_of_ble_eq_true rfl) ⟨rfl, rfl⟩ (fun p e s m below meth c ls AV QQ H locs hQQ X Y hA hin hr hlk hml hl => ?_)
  have hl : lv_has ls 2 [(0, .ref b), (1, .int a1)] := hl
  refine lv_aload_n X.1 X.2.1 d_By_open_0 rfl (lv_at hl 0 rfl) ?_
  refine q_get X.1 X.2.1 X.2.2.1 i_By X.2.2.2.1 X.2.2.2.2 Y hb eb rfl 1 (by decide) (X.2.2.1 _ lk_By_21) (fun _ h9 => h9) rfl d_By_open_1 ?_
  refine lv_aload_n X.1 X.2.1 d_By_open_4 rfl (lv_at hl 0 rfl) ?_
  refine q_get X.1 X.2.1 X.2.2.1 i_By X.2.2.2.1 X.2.2.2.2 Y hb eb rfl 0 (by decide) (X.2.2.1 _ lk_By_15) (fun _ h9 => h9) rfl d_By_open_5 ?_
  refine q_alen X.1 X.2.1 X.2.2.2.2 Y 0 hr0 er rfl (v := nI (N)) rfl d_By_open_8 ?_
  refine lv_iconst (v := (nI 1)) X.1 X.2.1 d_By_open_9 (by decide) ?_
  refine lv_isub X.1 X.2.1 d_By_open_10 ?_
  refine t_eq (m1_s N) ?_
  refine lv_icmp_ge (tgt := 35) X.1 X.2.1 d_By_open_11 (by decide) (fun c1 => ?_) (fun c1 => ?_)
  · skip
    refine lv_aload_n X.1 X.2.1 d_By_open_35 rfl (lv_at hl 0 rfl) ?_
    refine q_get X.1 X.2.1 X.2.2.1 i_By X.2.2.2.1 X.2.2.2.2 Y hb eb rfl 1 (by decide) (X.2.2.1 _ lk_By_21) (fun _ h9 => h9) rfl d_By_open_36 ?_
    exact c_reti hQQ X Y hr hlk ⟨rfl, (fun _ _ _ => rfl), n, g, (by omega), (by omega), (by omega), eb, er, rfl⟩ d_By_open_39
  · skip
    have hNs : n + 2 ≤ N := by
      rcases Nat.eq_zero_or_pos N with h9 | h9
      · exact absurd (by rw [h9, show n = 0 by omega]; decide) c1
      · rw [show N = N - 1 + 1 by omega, pk_m1, nI_leI (by omega) (by omega)] at c1
        omega
    refine lv_aload_n X.1 X.2.1 d_By_open_14 rfl (lv_at hl 0 rfl) ?_
    refine q_get X.1 X.2.1 X.2.2.1 i_By X.2.2.2.1 X.2.2.2.2 Y hb eb rfl 0 (by decide) (X.2.2.1 _ lk_By_15) (fun _ h9 => h9) rfl d_By_open_15 ?_
    refine lv_aload_n X.1 X.2.1 d_By_open_18 rfl (lv_at hl 0 rfl) ?_
    refine q_get X.1 X.2.1 X.2.2.1 i_By X.2.2.2.1 X.2.2.2.2 Y hb eb rfl 1 (by decide) (X.2.2.1 _ lk_By_21) (fun _ h9 => h9) rfl d_By_open_19 ?_
    refine lv_iload_n X.1 X.2.1 d_By_open_22 rfl (lv_at hl 1 rfl) ?_
    obtain ⟨v2, ev2⟩ : ∃ z : Int32, (a1 : Int32).toInt8.toInt32 = z := ⟨_, rfl⟩
    refine lv_i2b (v := v2) X.1 X.2.1 d_By_open_23 ev2 ?_
    refine q_bast X.1 X.2.1 X.2.2.2.2 Y 0 hr0 er rfl (vp_in_nI (by omega) (by omega)) d_By_open_24 (fun H locs Y => ?_)
    generalize (upd g ((nI n)).toNatClampNeg (vp_nar .byte v2)) = g3 at Y
    have e5 : (va_up f r (.inl (E.1, N, .inl g3))) r = .inl (E.1, N, .inl g3) := q_up
    have e6 : (va_up f r (.inl (E.1, N, .inl g3))) b = .inr (3, [.ref r, .int (nI n)]) := (q_ne (q_tag eb er (show (3 : Nat) ≠ 1000 by decide))).trans eb
    have hF7 : ∀ x, x ≠ b → x ≠ r → (va_up f r (.inl (E.1, N, .inl g3))) x = f x := fun x h0 h1 => (q_ne h1).trans rfl
    have Y : pH D cCl (pA L sz) s.heap L (va_up f r (.inl (E.1, N, .inl g3))) H locs := Y
    generalize (va_up f r (.inl (E.1, N, .inl g3))) = f4 at Y e5 e6 hF7
    refine lv_aload_n X.1 X.2.1 d_By_open_25 rfl (lv_at hl 0 rfl) ?_
    refine lv_dup X.1 X.2.1 d_By_open_26 rfl ?_
    refine q_get X.1 X.2.1 X.2.2.1 i_By X.2.2.2.1 X.2.2.2.2 Y hb e6 rfl 1 (by decide) (X.2.2.1 _ lk_By_21) (fun _ h9 => h9) rfl d_By_open_27 ?_
    refine lv_iconst (v := (nI 2)) X.1 X.2.1 d_By_open_30 (by decide) ?_
    refine lv_iadd X.1 X.2.1 d_By_open_31 ?_
    refine t_eq (y := nI (n + 2)) (nI_add _ _) ?_
    refine q_put X.1 X.2.1 X.2.2.1 i_By t_By t_By_ok n_By X.2.2.2.1 X.2.2.2.2 Y hb e6 rfl 1 (by decide) (X.2.2.1 _ lk_By_21) (fun _ h9 => h9) rfl (t_By_ok 1 (by decide)) rfl rfl (Nat.le_of_ble_eq_true rfl) d_By_open_32 (fun H locs Y => ?_)
    have e9 : (va_up f4 b (.inr (3, [.ref r, .int (nI (n + 2))]))) b = .inr (3, [.ref r, .int (nI (n + 2))]) := q_up
    have e10 : (va_up f4 b (.inr (3, [.ref r, .int (nI (n + 2))]))) r = .inl (E.1, N, .inl g3) := (q_ne (q_tag e5 e6 (show (1000 : Nat) ≠ 3 by decide))).trans e5
    have hF11 : ∀ x, x ≠ b → x ≠ r → (va_up f4 b (.inr (3, [.ref r, .int (nI (n + 2))]))) x = f x := fun x h0 h1 => (q_ne h0).trans (hF7 x h0 h1)
    have Y : pH D cCl (pA L sz) s.heap L (va_up f4 b (.inr (3, [.ref r, .int (nI (n + 2))]))) H locs := Y
    generalize (va_up f4 b (.inr (3, [.ref r, .int (nI (n + 2))]))) = f8 at Y e9 e10 hF11
    refine lv_aload_n X.1 X.2.1 d_By_open_35 rfl (lv_at hl 0 rfl) ?_
    refine q_get X.1 X.2.1 X.2.2.1 i_By X.2.2.2.1 X.2.2.2.2 Y hb e9 rfl 1 (by decide) (X.2.2.1 _ lk_By_21) (fun _ h9 => h9) rfl d_By_open_36 ?_
    exact c_reti hQQ X Y hr hlk ⟨rfl, hF11, n + 2, g3, (by omega), (by omega), (by omega), e9, e10, rfl⟩ d_By_open_39
set_option maxHeartbeats 4000000 in
set_option maxRecDepth 100000 in
theorem c_By_openField (l : Launch) (D : va_G) (E : cE) (L : List Nat) (f : pF) (sz : Nat) (a1 : Int32) (b r N n : Nat) (g : Nat → Int32) (hb : b ∈ L) (eb : f b = .inr (3, [.ref r, .int (nI n)])) (hr0 : r ∈ L) (er : f r = .inl (E.1, N, .inl g)) (hn : n ≤ N) (hN : N < 100000) : Met l y_By_openField (k_By_openField :: lw_tg) (mR 1 21) (va_Pc [.ref b, .int a1] (cPre D E L f sz)) (va_Qi (fun (r0 : Int32) (u : cU) => u.1 = L ∧ (∀ x, x ≠ b → x ≠ r → u.2 x = f x) ∧ ∃ (n2 : Nat) (g2 : Nat → Int32), n2 ≤ N ∧ n ≤ n2 ∧ n2 ≤ n + 2 ∧ u.2 b = .inr (3, [.ref r, .int (nI n2)]) ∧ u.2 r = .inl (E.1, N, .inl g2) ∧ (r0 = nI n2)) (cPost D E (pA L sz)) (pA L sz)) 0 0 (pA L sz) := by
  refine c_enter (own := R_By) (by decide) rfl (Nat.le_of_ble_eq_true rfl) ⟨rfl, rfl⟩ (fun p e s m below meth c ls AV QQ H locs hQQ X Y hA hin hr hlk hml hl => ?_)
  have hl : lv_has ls 2 [(0, .ref b), (1, .int a1)] := hl
  refine lv_aload_n X.1 X.2.1 d_By_openField_0 rfl (lv_at hl 0 rfl) ?_
  refine lv_sipush (v := (nI 160)) X.1 X.2.1 d_By_openField_1 (by decide) ?_
  refine lv_iload_n X.1 X.2.1 d_By_openField_4 rfl (lv_at hl 1 rfl) ?_
  refine lv_iadd X.1 X.2.1 d_By_openField_5 ?_
  refine t_any (fun v1 => ?_)
  refine c_calli (As := [.int v1]) (rest := []) (n := 1) X Y hA hml hl.1 (c_By_open l D E L f H.size v1 b r (N) (n) g hb eb hr0 er (by omega) (by omega)) hb eb rfl kl_By_By_open ks_By_open kx_By_open ki_By_open ini_By ⟨rfl, rfl⟩ hd_By_open ⟨by decide, by decide⟩ rfl (Nat.le_of_ble_eq_true rfl) d_By_openField_6 ⟨Nat.le_refl _, Nat.le_refl _⟩ (fun r7 u H locs hp Y => ?_)
  obtain ⟨L3, f2⟩ := u
  obtain ⟨eL13, hF4, n5, g6, h8, h9, h10, e11, e12, pr14⟩ := hp
  dsimp only at eL13 hF4 e11 e12 Y pr14
  rw [eL13] at Y
  have hF15 : ∀ x, x ≠ b → x ≠ r → f2 x = f x := fun x h0 h1 => (hF4 x h0 h1).trans rfl
  refine t_eq pr14 ?_
  exact c_reti hQQ X Y hr hlk ⟨rfl, hF15, n5, g6, (by omega), (by omega), (by omega), e11, e12, rfl⟩ d_By_openField_9
