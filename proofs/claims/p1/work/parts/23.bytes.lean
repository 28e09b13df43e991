/-! Bytes: one cell and its row. -/
def q_t (x : va_E) : Nat := match x with
  | .inl _ => 1000
  | .inr o => o.1
theorem q_tag {f : pF} {a b : Nat} {x y : va_E} (ea : f a = x) (eb : f b = y) (h : q_t x ≠ q_t y) : a ≠ b := fun e => h (by rw [← ea, ← eb, e])
def fB (g : Nat → Int32) : Prop := ∀ i, fits .byte (.int (g i)) = true
theorem fB_upd {g : Nat → Int32} {k : Nat} {x : Int32} (h : fB g) : fB (upd g k (vp_nar .byte x)) := fun i => by
  by_cases e : i = k
  · rw [e, pk_us]; exact pk_fb x
  · rw [pk_un e]; exact h i
theorem fB_cpy {u g : Nat → Int32} {a b n : Nat} (hu : fB u) (hg : fB g) : fB (va_cpy u g a b n) := fun i => by
  unfold va_cpy
  split
  · exact hu _
  · exact hg _
theorem le_sub {M k2 k3 : Nat} (hM : M < 2 ^ 31) (h2 : k2 < 2 ^ 31) (h3 : k3 < 2 ^ 31) (h : ¬ nI M - nI k2 < nI k3) : k2 + k3 ≤ M := by
  rw [Int32.lt_iff_toInt_lt, Int32.toInt_sub, nI_toInt hM, nI_toInt h2, nI_toInt h3] at h
  dsimp only [Int.bmod] at h
  split at h <;> omega
theorem kn_copy : Cond.native arraycopyName ∈ lw_tg := in_t 547 (by decide +kernel)
theorem ks_copy : Cond.static arraycopyName ∈ lw_tg := in_t 546 (by decide +kernel)
theorem ini_Sys : Cond.initialized "java/lang/System" ∈ lw_tg := in_t 17 (by decide +kernel)
theorem kl_By_copy : Cond.methodLink R_By 29 arraycopyName ∈ lw_tg := in_t 545 (by decide +kernel)
theorem kl_Ha_copy : Cond.methodLink R_Ha 33 arraycopyName ∈ lw_tg := in_t 605 (by decide +kernel)
theorem kl_Va_copy : Cond.methodLink R_Va 89 arraycopyName ∈ lw_tg := in_t 630 (by decide +kernel)
theorem kl_Ae_copy : Cond.methodLink R_Ae 42 arraycopyName ∈ lw_tg := in_t 1029 (by decide +kernel)
theorem kl_Se_copy : Cond.methodLink R_Se 29 arraycopyName ∈ lw_tg := in_t 1083 (by decide +kernel)
section QCOPY
variable {p : Program} {l : Launch} {e : Env} {R : Room} {s : State} {m : MethodId} {args : Array Value} {below : List Frame} {meth : Method} {c : Code} {H : Heap} {locs : List Loc} {cells slots : Nat} {Q : State → Prop} {cc : ByteArray} {pc : Nat} {ls : Array Slot} {rest : List Value} {D : va_G} {cl : List vw_C} {tys : List (ClassId × FieldType)} {A : Nat → Prop} {H0 : Heap} {L : List Nat} {f : pF} {a a0 : Nat}
theorem q_copy (hexec : p.tables.exec = Jvm.exec) (hb : c.code = cc) (hml : c.maxLocals = ls.size) {own : String} {index : Nat} (hown : s.vm.findClass own = some m.cls) (hlink : (Cond.methodLink own index arraycopyName).before args s = true) (hnat : (Cond.native arraycopyName).before args s = true) (hstat : (Cond.static arraycopyName).before args s = true) (hini : (Cond.initialized "java/lang/System").before args s = true) (hK : va_K D cl tys s) (Y : pH D cl A H0 L f H locs) (t0 : Nat) {c0 : ClassId} {n0 n1 k1 k2 k3 : Nat} {u g : Nat → Int32} {ty : FieldType} (ha0 : a0 ∈ L) (e0 : f a0 = .inl (c0, n0, .inl u)) (ha : a ∈ L) (ea : f a = .inl (c0, n1, .inl g)) (ht : tys[t0]? = some (c0, ty)) (hprim : refKind ty = false) (b1 : k2 + k3 ≤ n0) (b2 : k1 + k3 ≤ n1) (hn0 : n0 < 2 ^ 31) (hn1 : n1 < 2 ^ 31) (hfit : ∀ i, fits ty (.int (u i)) = true) (hframes : 1 ≤ R.frames) (hlocals : (rest.map fun v => v.category).sum + (nativeFrameWords "java/lang/System" "arraycopy" 5 + 11) ≤ R.locals) (hdg : decode cc pc = .ok (.invokestatic index, 3))
    (kk : ∀ (H1 : Heap) (locs1 : List Loc), pH D cl A H0 L (va_up f a (.inl (c0, n1, .inl (va_cpy u g k2 k1 k3)))) H1 locs1 → W p l e R s m args below meth c H1 locs1 cells slots Q (F0 m (pc + 3) ls rest)) : W p l e R s m args below meth c H locs cells slots Q (F0 m pc ls (.int (nI k3) :: .int (nI k1) :: .ref a :: .int (nI k2) :: .ref a0 :: rest)) := by
  obtain ⟨j0, hj0⟩ := q_at (f := f) ha0
  obtain ⟨j, hj⟩ := q_at (f := f) ha
  have hj2 := hj
  rw [e0] at hj0
  rw [ea] at hj2
  refine va_copyi hexec hb hml hown hlink hnat hstat hini hK Y.1 Y.2.1 Y.2.2 j0 j t0 t0 hj0 hj2 ht ht hprim (nI_pos (by omega)) (nI_pos (by omega)) (nI_pos (by omega)) (by rw [nI_clamp (by omega), nI_clamp (by omega)]; exact b1) (by rw [nI_clamp (by omega), nI_clamp (by omega)]; exact b2) (fun i _ => hfit _) hframes hlocals hdg (fun H1 locs1 hP hD hS => ?_)
  rw [nI_clamp (by omega), nI_clamp (by omega), nI_clamp (by omega), q_set Y.2.1 ha hj] at hP hD
  exact kk H1 locs1 ⟨hP, hD, hS⟩
end QCOPY
abbrev b_By_clear : ByteArray := prog_4_method_2_code
def y_By_clear : MethodName := ⟨R_By, "clear", "()V"⟩
abbrev k_By_clear : Cond := .code y_By_clear b_By_clear 1 none
theorem ki_By_clear : k_By_clear ∈ lw_tg := in_t 475 (by decide +kernel)
theorem ks_By_clear : Cond.instanceMethod y_By_clear ∈ lw_tg := in_t 473 (by decide +kernel)
theorem kx_By_clear : Cond.selects R_By y_By_clear y_By_clear ∈ lw_tg := in_t 474 (by decide +kernel)
theorem kl_H_By_clear : Cond.methodLink R_H 88 y_By_clear ∈ lw_tg := in_t 472 (by decide +kernel)
theorem kl_Va_By_clear : Cond.methodLink R_Va 106 y_By_clear ∈ lw_tg := in_t 569 (by decide +kernel)
theorem kl_Ce_By_clear : Cond.methodLink R_Ce 265 y_By_clear ∈ lw_tg := in_t 1233 (by decide +kernel)
theorem kl_Ag_By_clear : Cond.methodLink R_Ag 140 y_By_clear ∈ lw_tg := in_t 1423 (by decide +kernel)
theorem kl_Ti_By_clear : Cond.methodLink R_Ti 67 y_By_clear ∈ lw_tg := in_t 1515 (by decide +kernel)
theorem kl_So_By_clear : Cond.methodLink R_So 94 y_By_clear ∈ lw_tg := in_t 1594 (by decide +kernel)
theorem hd_By_clear : y_By_clear.cls = R_By ∧ y_By_clear.cls ≠ "java/lang/invoke/MethodHandle" ∧ y_By_clear.cls ≠ "java/lang/invoke/VarHandle" ∧ (parseMethodDescriptor y_By_clear.desc).map (fun d => d.parameters.length) = some 0 := by decide +kernel
theorem d_By_clear_0 : decode b_By_clear 0 = .ok (.aload_n 0, 1) := by decide +kernel
theorem d_By_clear_1 : decode b_By_clear 1 = .ok (.iconst 0, 1) := by decide +kernel
theorem d_By_clear_2 : decode b_By_clear 2 = .ok (.putfield 21, 3) := by decide +kernel
theorem lk_By_21 : Cond.fieldLink R_By 21 R_By (F_By 1).2.1 (F_By 1).2.2.1 ∈ lw_tg := in_t 49 (by decide +kernel)
theorem d_By_clear_5 : decode b_By_clear 5 = .ok (.return_, 1) := by decide +kernel
abbrev b_By_at : ByteArray := prog_4_method_3_code
def y_By_at : MethodName := ⟨R_By, "at", "(I)I"⟩
abbrev k_By_at : Cond := .code y_By_at b_By_at 2 (some .int)
theorem ki_By_at : k_By_at ∈ lw_tg := in_t 761 (by decide +kernel)
theorem ks_By_at : Cond.instanceMethod y_By_at ∈ lw_tg := in_t 759 (by decide +kernel)
theorem kx_By_at : Cond.selects R_By y_By_at y_By_at ∈ lw_tg := in_t 760 (by decide +kernel)
theorem kl_H_By_at : Cond.methodLink R_H 105 y_By_at ∈ lw_tg := in_t 758 (by decide +kernel)
theorem kl_By_By_at : Cond.methodLink R_By 123 y_By_at ∈ lw_tg := in_t 799 (by decide +kernel)
theorem kl_Ce_By_at : Cond.methodLink R_Ce 61 y_By_at ∈ lw_tg := in_t 842 (by decide +kernel)
theorem kl_Va_By_at : Cond.methodLink R_Va 210 y_By_at ∈ lw_tg := in_t 1046 (by decide +kernel)
theorem kl_Se_By_at : Cond.methodLink R_Se 39 y_By_at ∈ lw_tg := in_t 1092 (by decide +kernel)
theorem kl_Ag_By_at : Cond.methodLink R_Ag 239 y_By_at ∈ lw_tg := in_t 1483 (by decide +kernel)
theorem kl_So_By_at : Cond.methodLink R_So 219 y_By_at ∈ lw_tg := in_t 1677 (by decide +kernel)
theorem hd_By_at : y_By_at.cls = R_By ∧ y_By_at.cls ≠ "java/lang/invoke/MethodHandle" ∧ y_By_at.cls ≠ "java/lang/invoke/VarHandle" ∧ (parseMethodDescriptor y_By_at.desc).map (fun d => d.parameters.length) = some 1 := by decide +kernel
theorem d_By_at_0 : decode b_By_at 0 = .ok (.iload_n 1, 1) := by decide +kernel
theorem d_By_at_1 : decode b_By_at 1 = .ok (.ifCond .lt 24, 3) := by decide +kernel
theorem d_By_at_4 : decode b_By_at 4 = .ok (.iload_n 1, 1) := by decide +kernel
theorem d_By_at_5 : decode b_By_at 5 = .ok (.aload_n 0, 1) := by decide +kernel
theorem d_By_at_6 : decode b_By_at 6 = .ok (.getfield 21, 3) := by decide +kernel
theorem d_By_at_9 : decode b_By_at 9 = .ok (.if_icmp .ge 16, 3) := by decide +kernel
theorem d_By_at_12 : decode b_By_at 12 = .ok (.aload_n 0, 1) := by decide +kernel
theorem d_By_at_13 : decode b_By_at 13 = .ok (.getfield 15, 3) := by decide +kernel
theorem lk_By_15 : Cond.fieldLink R_By 15 R_By (F_By 0).2.1 (F_By 0).2.2.1 ∈ lw_tg := in_t 44 (by decide +kernel)
theorem d_By_at_16 : decode b_By_at 16 = .ok (.iload_n 1, 1) := by decide +kernel
theorem d_By_at_17 : decode b_By_at 17 = .ok (.baload, 1) := by decide +kernel
theorem d_By_at_18 : decode b_By_at 18 = .ok (.sipush 255, 3) := by decide +kernel
theorem d_By_at_21 : decode b_By_at 21 = .ok (.iand, 1) := by decide +kernel
theorem d_By_at_22 : decode b_By_at 22 = .ok (.goto 4, 3) := by decide +kernel
theorem d_By_at_25 : decode b_By_at 25 = .ok (.iconst (-1), 1) := by decide +kernel
theorem d_By_at_26 : decode b_By_at 26 = .ok (.ireturn, 1) := by decide +kernel
abbrev b_By_put : ByteArray := prog_4_method_4_code
def y_By_put : MethodName := ⟨R_By, "put", "(I)V"⟩
abbrev k_By_put : Cond := .code y_By_put b_By_put 2 none
theorem ki_By_put : k_By_put ∈ lw_tg := in_t 540 (by decide +kernel)
theorem ks_By_put : Cond.instanceMethod y_By_put ∈ lw_tg := in_t 538 (by decide +kernel)
theorem kx_By_put : Cond.selects R_By y_By_put y_By_put ∈ lw_tg := in_t 539 (by decide +kernel)
theorem kl_By_By_put : Cond.methodLink R_By 25 y_By_put ∈ lw_tg := in_t 537 (by decide +kernel)
theorem kl_Va_By_put : Cond.methodLink R_Va 180 y_By_put ∈ lw_tg := in_t 1327 (by decide +kernel)
theorem hd_By_put : y_By_put.cls = R_By ∧ y_By_put.cls ≠ "java/lang/invoke/MethodHandle" ∧ y_By_put.cls ≠ "java/lang/invoke/VarHandle" ∧ (parseMethodDescriptor y_By_put.desc).map (fun d => d.parameters.length) = some 1 := by decide +kernel
theorem d_By_put_0 : decode b_By_put 0 = .ok (.aload_n 0, 1) := by decide +kernel
theorem d_By_put_1 : decode b_By_put 1 = .ok (.getfield 21, 3) := by decide +kernel
theorem d_By_put_4 : decode b_By_put 4 = .ok (.aload_n 0, 1) := by decide +kernel
theorem d_By_put_5 : decode b_By_put 5 = .ok (.getfield 15, 3) := by decide +kernel
theorem d_By_put_8 : decode b_By_put 8 = .ok (.arraylength, 1) := by decide +kernel
theorem d_By_put_9 : decode b_By_put 9 = .ok (.if_icmp .ge 24, 3) := by decide +kernel
theorem d_By_put_12 : decode b_By_put 12 = .ok (.aload_n 0, 1) := by decide +kernel
theorem d_By_put_13 : decode b_By_put 13 = .ok (.getfield 15, 3) := by decide +kernel
theorem d_By_put_16 : decode b_By_put 16 = .ok (.aload_n 0, 1) := by decide +kernel
theorem d_By_put_17 : decode b_By_put 17 = .ok (.getfield 21, 3) := by decide +kernel
theorem d_By_put_20 : decode b_By_put 20 = .ok (.iload_n 1, 1) := by decide +kernel
theorem d_By_put_21 : decode b_By_put 21 = .ok (.i2b, 1) := by decide +kernel
theorem d_By_put_22 : decode b_By_put 22 = .ok (.bastore, 1) := by decide +kernel
theorem d_By_put_23 : decode b_By_put 23 = .ok (.aload_n 0, 1) := by decide +kernel
theorem d_By_put_24 : decode b_By_put 24 = .ok (.dup, 1) := by decide +kernel
theorem d_By_put_25 : decode b_By_put 25 = .ok (.getfield 21, 3) := by decide +kernel
theorem d_By_put_28 : decode b_By_put 28 = .ok (.iconst 1, 1) := by decide +kernel
theorem d_By_put_29 : decode b_By_put 29 = .ok (.iadd, 1) := by decide +kernel
theorem d_By_put_30 : decode b_By_put 30 = .ok (.putfield 21, 3) := by decide +kernel
theorem d_By_put_33 : decode b_By_put 33 = .ok (.return_, 1) := by decide +kernel
abbrev b_By_putWord : ByteArray := prog_4_method_5_code
def y_By_putWord : MethodName := ⟨R_By, "putWord", "(I)V"⟩
abbrev k_By_putWord : Cond := .code y_By_putWord b_By_putWord 2 none
theorem ki_By_putWord : k_By_putWord ∈ lw_tg := in_t 609 (by decide +kernel)
theorem ks_By_putWord : Cond.instanceMethod y_By_putWord ∈ lw_tg := in_t 607 (by decide +kernel)
theorem kx_By_putWord : Cond.selects R_By y_By_putWord y_By_putWord ∈ lw_tg := in_t 608 (by decide +kernel)
theorem kl_Va_By_putWord : Cond.methodLink R_Va 109 y_By_putWord ∈ lw_tg := in_t 606 (by decide +kernel)
theorem kl_H_By_putWord : Cond.methodLink R_H 85 y_By_putWord ∈ lw_tg := in_t 743 (by decide +kernel)
theorem kl_Ce_By_putWord : Cond.methodLink R_Ce 360 y_By_putWord ∈ lw_tg := in_t 1260 (by decide +kernel)
theorem kl_By_By_putWord : Cond.methodLink R_By 74 y_By_putWord ∈ lw_tg := in_t 1286 (by decide +kernel)
theorem hd_By_putWord : y_By_putWord.cls = R_By ∧ y_By_putWord.cls ≠ "java/lang/invoke/MethodHandle" ∧ y_By_putWord.cls ≠ "java/lang/invoke/VarHandle" ∧ (parseMethodDescriptor y_By_putWord.desc).map (fun d => d.parameters.length) = some 1 := by decide +kernel
theorem d_By_putWord_0 : decode b_By_putWord 0 = .ok (.aload_n 0, 1) := by decide +kernel
theorem d_By_putWord_1 : decode b_By_putWord 1 = .ok (.iload_n 1, 1) := by decide +kernel
theorem d_By_putWord_2 : decode b_By_putWord 2 = .ok (.bipush 24, 2) := by decide +kernel
theorem d_By_putWord_4 : decode b_By_putWord 4 = .ok (.ishr, 1) := by decide +kernel
theorem d_By_putWord_5 : decode b_By_putWord 5 = .ok (.invokevirtual 25, 3) := by decide +kernel
theorem d_By_putWord_8 : decode b_By_putWord 8 = .ok (.aload_n 0, 1) := by decide +kernel
theorem d_By_putWord_9 : decode b_By_putWord 9 = .ok (.iload_n 1, 1) := by decide +kernel
theorem d_By_putWord_10 : decode b_By_putWord 10 = .ok (.bipush 16, 2) := by decide +kernel
theorem d_By_putWord_12 : decode b_By_putWord 12 = .ok (.ishr, 1) := by decide +kernel
theorem d_By_putWord_13 : decode b_By_putWord 13 = .ok (.invokevirtual 25, 3) := by decide +kernel
theorem d_By_putWord_16 : decode b_By_putWord 16 = .ok (.aload_n 0, 1) := by decide +kernel
theorem d_By_putWord_17 : decode b_By_putWord 17 = .ok (.iload_n 1, 1) := by decide +kernel
theorem d_By_putWord_18 : decode b_By_putWord 18 = .ok (.bipush 8, 2) := by decide +kernel
theorem d_By_putWord_20 : decode b_By_putWord 20 = .ok (.ishr, 1) := by decide +kernel
theorem d_By_putWord_21 : decode b_By_putWord 21 = .ok (.invokevirtual 25, 3) := by decide +kernel
theorem d_By_putWord_24 : decode b_By_putWord 24 = .ok (.aload_n 0, 1) := by decide +kernel
theorem d_By_putWord_25 : decode b_By_putWord 25 = .ok (.iload_n 1, 1) := by decide +kernel
theorem d_By_putWord_26 : decode b_By_putWord 26 = .ok (.invokevirtual 25, 3) := by decide +kernel
theorem d_By_putWord_29 : decode b_By_putWord 29 = .ok (.return_, 1) := by decide +kernel
abbrev b_By_open : ByteArray := prog_4_method_9_code
def y_By_open : MethodName := ⟨R_By, "open", "(I)I"⟩
abbrev k_By_open : Cond := .code y_By_open b_By_open 2 (some .int)
theorem ki_By_open : k_By_open ∈ lw_tg := in_t 484 (by decide +kernel)
theorem ks_By_open : Cond.instanceMethod y_By_open ∈ lw_tg := in_t 482 (by decide +kernel)
theorem kx_By_open : Cond.selects R_By y_By_open y_By_open ∈ lw_tg := in_t 483 (by decide +kernel)
theorem kl_By_By_open : Cond.methodLink R_By 39 y_By_open ∈ lw_tg := in_t 481 (by decide +kernel)
theorem kl_Ce_By_open : Cond.methodLink R_Ce 268 y_By_open ∈ lw_tg := in_t 1234 (by decide +kernel)
theorem kl_Va_By_open : Cond.methodLink R_Va 166 y_By_open ∈ lw_tg := in_t 1324 (by decide +kernel)
theorem kl_Ag_By_open : Cond.methodLink R_Ag 143 y_By_open ∈ lw_tg := in_t 1424 (by decide +kernel)
theorem kl_H_By_open : Cond.methodLink R_H 330 y_By_open ∈ lw_tg := in_t 1571 (by decide +kernel)
theorem kl_So_By_open : Cond.methodLink R_So 97 y_By_open ∈ lw_tg := in_t 1595 (by decide +kernel)
theorem kl_Ti_By_open : Cond.methodLink R_Ti 93 y_By_open ∈ lw_tg := in_t 1717 (by decide +kernel)
theorem hd_By_open : y_By_open.cls = R_By ∧ y_By_open.cls ≠ "java/lang/invoke/MethodHandle" ∧ y_By_open.cls ≠ "java/lang/invoke/VarHandle" ∧ (parseMethodDescriptor y_By_open.desc).map (fun d => d.parameters.length) = some 1 := by decide +kernel
theorem d_By_open_0 : decode b_By_open 0 = .ok (.aload_n 0, 1) := by decide +kernel
theorem d_By_open_1 : decode b_By_open 1 = .ok (.getfield 21, 3) := by decide +kernel
theorem d_By_open_4 : decode b_By_open 4 = .ok (.aload_n 0, 1) := by decide +kernel
theorem d_By_open_5 : decode b_By_open 5 = .ok (.getfield 15, 3) := by decide +kernel
theorem d_By_open_8 : decode b_By_open 8 = .ok (.arraylength, 1) := by decide +kernel
theorem d_By_open_9 : decode b_By_open 9 = .ok (.iconst 1, 1) := by decide +kernel
theorem d_By_open_10 : decode b_By_open 10 = .ok (.isub, 1) := by decide +kernel
theorem d_By_open_11 : decode b_By_open 11 = .ok (.if_icmp .ge 24, 3) := by decide +kernel
theorem d_By_open_14 : decode b_By_open 14 = .ok (.aload_n 0, 1) := by decide +kernel
theorem d_By_open_15 : decode b_By_open 15 = .ok (.getfield 15, 3) := by decide +kernel
theorem d_By_open_18 : decode b_By_open 18 = .ok (.aload_n 0, 1) := by decide +kernel
theorem d_By_open_19 : decode b_By_open 19 = .ok (.getfield 21, 3) := by decide +kernel
theorem d_By_open_22 : decode b_By_open 22 = .ok (.iload_n 1, 1) := by decide +kernel
theorem d_By_open_23 : decode b_By_open 23 = .ok (.i2b, 1) := by decide +kernel
theorem d_By_open_24 : decode b_By_open 24 = .ok (.bastore, 1) := by decide +kernel
theorem d_By_open_25 : decode b_By_open 25 = .ok (.aload_n 0, 1) := by decide +kernel
theorem d_By_open_26 : decode b_By_open 26 = .ok (.dup, 1) := by decide +kernel
theorem d_By_open_27 : decode b_By_open 27 = .ok (.getfield 21, 3) := by decide +kernel
theorem d_By_open_30 : decode b_By_open 30 = .ok (.iconst 2, 1) := by decide +kernel
theorem d_By_open_31 : decode b_By_open 31 = .ok (.iadd, 1) := by decide +kernel
theorem d_By_open_32 : decode b_By_open 32 = .ok (.putfield 21, 3) := by decide +kernel
theorem d_By_open_35 : decode b_By_open 35 = .ok (.aload_n 0, 1) := by decide +kernel
theorem d_By_open_36 : decode b_By_open 36 = .ok (.getfield 21, 3) := by decide +kernel
theorem d_By_open_39 : decode b_By_open 39 = .ok (.ireturn, 1) := by decide +kernel
abbrev b_By_openField : ByteArray := prog_4_method_11_code
def y_By_openField : MethodName := ⟨R_By, "openField", "(I)I"⟩
abbrev k_By_openField : Cond := .code y_By_openField b_By_openField 2 (some .int)
theorem ki_By_openField : k_By_openField ∈ lw_tg := in_t 1242 (by decide +kernel)
theorem ks_By_openField : Cond.instanceMethod y_By_openField ∈ lw_tg := in_t 1240 (by decide +kernel)
theorem kx_By_openField : Cond.selects R_By y_By_openField y_By_openField ∈ lw_tg := in_t 1241 (by decide +kernel)
theorem kl_By_By_openField : Cond.methodLink R_By 46 y_By_openField ∈ lw_tg := in_t 1239 (by decide +kernel)
theorem kl_Ce_By_openField : Cond.methodLink R_Ce 275 y_By_openField ∈ lw_tg := in_t 1248 (by decide +kernel)
theorem kl_Va_By_openField : Cond.methodLink R_Va 177 y_By_openField ∈ lw_tg := in_t 1326 (by decide +kernel)
theorem kl_Ag_By_openField : Cond.methodLink R_Ag 169 y_By_openField ∈ lw_tg := in_t 1438 (by decide +kernel)
theorem kl_So_By_openField : Cond.methodLink R_So 116 y_By_openField ∈ lw_tg := in_t 1601 (by decide +kernel)
theorem hd_By_openField : y_By_openField.cls = R_By ∧ y_By_openField.cls ≠ "java/lang/invoke/MethodHandle" ∧ y_By_openField.cls ≠ "java/lang/invoke/VarHandle" ∧ (parseMethodDescriptor y_By_openField.desc).map (fun d => d.parameters.length) = some 1 := by decide +kernel
theorem d_By_openField_0 : decode b_By_openField 0 = .ok (.aload_n 0, 1) := by decide +kernel
theorem d_By_openField_1 : decode b_By_openField 1 = .ok (.sipush 160, 3) := by decide +kernel
theorem d_By_openField_4 : decode b_By_openField 4 = .ok (.iload_n 1, 1) := by decide +kernel
theorem d_By_openField_5 : decode b_By_openField 5 = .ok (.iadd, 1) := by decide +kernel
theorem d_By_openField_6 : decode b_By_openField 6 = .ok (.invokevirtual 39, 3) := by decide +kernel
theorem d_By_openField_9 : decode b_By_openField 9 = .ok (.ireturn, 1) := by decide +kernel
abbrev b_By_append : ByteArray := prog_4_method_6_code
def y_By_append : MethodName := ⟨R_By, "append", "([BII)V"⟩
abbrev k_By_append : Cond := .code y_By_append b_By_append 4 none
theorem ki_By_append : k_By_append ∈ lw_tg := in_t 560 (by decide +kernel)
theorem ks_By_append : Cond.instanceMethod y_By_append ∈ lw_tg := in_t 558 (by decide +kernel)
theorem kx_By_append : Cond.selects R_By y_By_append y_By_append ∈ lw_tg := in_t 559 (by decide +kernel)
theorem kl_By_By_append : Cond.methodLink R_By 35 y_By_append ∈ lw_tg := in_t 557 (by decide +kernel)
theorem kl_Va_By_append : Cond.methodLink R_Va 138 y_By_append ∈ lw_tg := in_t 583 (by decide +kernel)
theorem kl_H_By_append : Cond.methodLink R_H 101 y_By_append ∈ lw_tg := in_t 753 (by decide +kernel)
theorem kl_Ti_By_append : Cond.methodLink R_Ti 79 y_By_append ∈ lw_tg := in_t 1516 (by decide +kernel)
theorem kl_So_By_append : Cond.methodLink R_So 213 y_By_append ∈ lw_tg := in_t 1678 (by decide +kernel)
theorem hd_By_append : y_By_append.cls = R_By ∧ y_By_append.cls ≠ "java/lang/invoke/MethodHandle" ∧ y_By_append.cls ≠ "java/lang/invoke/VarHandle" ∧ (parseMethodDescriptor y_By_append.desc).map (fun d => d.parameters.length) = some 3 := by decide +kernel
theorem d_By_append_0 : decode b_By_append 0 = .ok (.iload_n 2, 1) := by decide +kernel
theorem d_By_append_1 : decode b_By_append 1 = .ok (.ifCond .lt 29, 3) := by decide +kernel
theorem d_By_append_4 : decode b_By_append 4 = .ok (.iload_n 3, 1) := by decide +kernel
theorem d_By_append_5 : decode b_By_append 5 = .ok (.ifCond .lt 25, 3) := by decide +kernel
theorem d_By_append_8 : decode b_By_append 8 = .ok (.iload_n 3, 1) := by decide +kernel
theorem d_By_append_9 : decode b_By_append 9 = .ok (.aload_n 1, 1) := by decide +kernel
theorem d_By_append_10 : decode b_By_append 10 = .ok (.arraylength, 1) := by decide +kernel
theorem d_By_append_11 : decode b_By_append 11 = .ok (.iload_n 2, 1) := by decide +kernel
theorem d_By_append_12 : decode b_By_append 12 = .ok (.isub, 1) := by decide +kernel
theorem d_By_append_13 : decode b_By_append 13 = .ok (.if_icmp .gt 17, 3) := by decide +kernel
theorem d_By_append_16 : decode b_By_append 16 = .ok (.iload_n 3, 1) := by decide +kernel
theorem d_By_append_17 : decode b_By_append 17 = .ok (.aload_n 0, 1) := by decide +kernel
theorem d_By_append_18 : decode b_By_append 18 = .ok (.getfield 15, 3) := by decide +kernel
theorem d_By_append_21 : decode b_By_append 21 = .ok (.arraylength, 1) := by decide +kernel
theorem d_By_append_22 : decode b_By_append 22 = .ok (.aload_n 0, 1) := by decide +kernel
theorem d_By_append_23 : decode b_By_append 23 = .ok (.getfield 21, 3) := by decide +kernel
theorem d_By_append_26 : decode b_By_append 26 = .ok (.isub, 1) := by decide +kernel
theorem d_By_append_27 : decode b_By_append 27 = .ok (.if_icmp .le 4, 3) := by decide +kernel
theorem d_By_append_30 : decode b_By_append 30 = .ok (.return_, 1) := by decide +kernel
theorem d_By_append_31 : decode b_By_append 31 = .ok (.aload_n 1, 1) := by decide +kernel
theorem d_By_append_32 : decode b_By_append 32 = .ok (.iload_n 2, 1) := by decide +kernel
theorem d_By_append_33 : decode b_By_append 33 = .ok (.aload_n 0, 1) := by decide +kernel
theorem d_By_append_34 : decode b_By_append 34 = .ok (.getfield 15, 3) := by decide +kernel
theorem d_By_append_37 : decode b_By_append 37 = .ok (.aload_n 0, 1) := by decide +kernel
theorem d_By_append_38 : decode b_By_append 38 = .ok (.getfield 21, 3) := by decide +kernel
theorem d_By_append_41 : decode b_By_append 41 = .ok (.iload_n 3, 1) := by decide +kernel
theorem d_By_append_42 : decode b_By_append 42 = .ok (.invokestatic 29, 3) := by decide +kernel
theorem d_By_append_45 : decode b_By_append 45 = .ok (.aload_n 0, 1) := by decide +kernel
theorem d_By_append_46 : decode b_By_append 46 = .ok (.dup, 1) := by decide +kernel
theorem d_By_append_47 : decode b_By_append 47 = .ok (.getfield 21, 3) := by decide +kernel
theorem d_By_append_50 : decode b_By_append 50 = .ok (.iload_n 3, 1) := by decide +kernel
theorem d_By_append_51 : decode b_By_append 51 = .ok (.iadd, 1) := by decide +kernel
theorem d_By_append_52 : decode b_By_append 52 = .ok (.putfield 21, 3) := by decide +kernel
theorem d_By_append_55 : decode b_By_append 55 = .ok (.return_, 1) := by decide +kernel
abbrev b_By_copyOf : ByteArray := prog_4_method_7_code
def y_By_copyOf : MethodName := ⟨R_By, "copyOf", "(LRealmHouse$Bytes;)V"⟩
abbrev k_By_copyOf : Cond := .code y_By_copyOf b_By_copyOf 2 none
theorem ki_By_copyOf : k_By_copyOf ∈ lw_tg := in_t 556 (by decide +kernel)
theorem ks_By_copyOf : Cond.instanceMethod y_By_copyOf ∈ lw_tg := in_t 554 (by decide +kernel)
theorem kx_By_copyOf : Cond.selects R_By y_By_copyOf y_By_copyOf ∈ lw_tg := in_t 555 (by decide +kernel)
theorem kl_Pr_By_copyOf : Cond.methodLink R_Pr 70 y_By_copyOf ∈ lw_tg := in_t 553 (by decide +kernel)
theorem kl_Ag_By_copyOf : Cond.methodLink R_Ag 53 y_By_copyOf ∈ lw_tg := in_t 1372 (by decide +kernel)
theorem hd_By_copyOf : y_By_copyOf.cls = R_By ∧ y_By_copyOf.cls ≠ "java/lang/invoke/MethodHandle" ∧ y_By_copyOf.cls ≠ "java/lang/invoke/VarHandle" ∧ (parseMethodDescriptor y_By_copyOf.desc).map (fun d => d.parameters.length) = some 1 := by decide +kernel
theorem d_By_copyOf_0 : decode b_By_copyOf 0 = .ok (.aload_n 0, 1) := by decide +kernel
theorem d_By_copyOf_1 : decode b_By_copyOf 1 = .ok (.iconst 0, 1) := by decide +kernel
theorem d_By_copyOf_2 : decode b_By_copyOf 2 = .ok (.putfield 21, 3) := by decide +kernel
theorem d_By_copyOf_5 : decode b_By_copyOf 5 = .ok (.aload_n 0, 1) := by decide +kernel
theorem d_By_copyOf_6 : decode b_By_copyOf 6 = .ok (.aload_n 1, 1) := by decide +kernel
theorem d_By_copyOf_7 : decode b_By_copyOf 7 = .ok (.getfield 15, 3) := by decide +kernel
theorem d_By_copyOf_10 : decode b_By_copyOf 10 = .ok (.iconst 0, 1) := by decide +kernel
theorem d_By_copyOf_11 : decode b_By_copyOf 11 = .ok (.aload_n 1, 1) := by decide +kernel
theorem d_By_copyOf_12 : decode b_By_copyOf 12 = .ok (.getfield 21, 3) := by decide +kernel
theorem d_By_copyOf_15 : decode b_By_copyOf 15 = .ok (.invokevirtual 35, 3) := by decide +kernel
theorem d_By_copyOf_18 : decode b_By_copyOf 18 = .ok (.return_, 1) := by decide +kernel
abbrev b_By_close : ByteArray := prog_4_method_10_code
def y_By_close : MethodName := ⟨R_By, "close", "(I)V"⟩
abbrev k_By_close : Cond := .code y_By_close b_By_close 4 none
theorem ki_By_close : k_By_close ∈ lw_tg := in_t 544 (by decide +kernel)
theorem ks_By_close : Cond.instanceMethod y_By_close ∈ lw_tg := in_t 542 (by decide +kernel)
theorem kx_By_close : Cond.selects R_By y_By_close y_By_close ∈ lw_tg := in_t 543 (by decide +kernel)
theorem kl_By_By_close : Cond.methodLink R_By 43 y_By_close ∈ lw_tg := in_t 541 (by decide +kernel)
theorem kl_Ce_By_close : Cond.methodLink R_Ce 281 y_By_close ∈ lw_tg := in_t 1259 (by decide +kernel)
theorem kl_Va_By_close : Cond.methodLink R_Va 193 y_By_close ∈ lw_tg := in_t 1333 (by decide +kernel)
theorem kl_Ag_By_close : Cond.methodLink R_Ag 176 y_By_close ∈ lw_tg := in_t 1440 (by decide +kernel)
theorem kl_H_By_close : Cond.methodLink R_H 347 y_By_close ∈ lw_tg := in_t 1575 (by decide +kernel)
theorem kl_So_By_close : Cond.methodLink R_So 108 y_By_close ∈ lw_tg := in_t 1598 (by decide +kernel)
theorem kl_Ti_By_close : Cond.methodLink R_Ti 118 y_By_close ∈ lw_tg := in_t 1724 (by decide +kernel)
theorem hd_By_close : y_By_close.cls = R_By ∧ y_By_close.cls ≠ "java/lang/invoke/MethodHandle" ∧ y_By_close.cls ≠ "java/lang/invoke/VarHandle" ∧ (parseMethodDescriptor y_By_close.desc).map (fun d => d.parameters.length) = some 1 := by decide +kernel
theorem d_By_close_0 : decode b_By_close 0 = .ok (.aload_n 0, 1) := by decide +kernel
theorem d_By_close_1 : decode b_By_close 1 = .ok (.getfield 21, 3) := by decide +kernel
theorem d_By_close_4 : decode b_By_close 4 = .ok (.iload_n 1, 1) := by decide +kernel
theorem d_By_close_5 : decode b_By_close 5 = .ok (.isub, 1) := by decide +kernel
theorem d_By_close_6 : decode b_By_close 6 = .ok (.istore_n 2, 1) := by decide +kernel
theorem d_By_close_7 : decode b_By_close 7 = .ok (.iload_n 2, 1) := by decide +kernel
theorem d_By_close_8 : decode b_By_close 8 = .ok (.sipush 128, 3) := by decide +kernel
theorem d_By_close_11 : decode b_By_close 11 = .ok (.if_icmp .ge 7, 3) := by decide +kernel
theorem d_By_close_14 : decode b_By_close 14 = .ok (.iconst 0, 1) := by decide +kernel
theorem d_By_close_15 : decode b_By_close 15 = .ok (.goto 15, 3) := by decide +kernel
theorem d_By_close_18 : decode b_By_close 18 = .ok (.iload_n 2, 1) := by decide +kernel
theorem d_By_close_19 : decode b_By_close 19 = .ok (.sipush 256, 3) := by decide +kernel
theorem d_By_close_22 : decode b_By_close 22 = .ok (.if_icmp .ge 7, 3) := by decide +kernel
theorem d_By_close_25 : decode b_By_close 25 = .ok (.iconst 1, 1) := by decide +kernel
theorem d_By_close_26 : decode b_By_close 26 = .ok (.goto 4, 3) := by decide +kernel
theorem d_By_close_29 : decode b_By_close 29 = .ok (.iconst 2, 1) := by decide +kernel
theorem d_By_close_30 : decode b_By_close 30 = .ok (.istore_n 3, 1) := by decide +kernel
theorem d_By_close_31 : decode b_By_close 31 = .ok (.iload_n 1, 1) := by decide +kernel
theorem d_By_close_32 : decode b_By_close 32 = .ok (.iconst 1, 1) := by decide +kernel
theorem d_By_close_33 : decode b_By_close 33 = .ok (.if_icmp .lt 21, 3) := by decide +kernel
theorem d_By_close_36 : decode b_By_close 36 = .ok (.iload_n 2, 1) := by decide +kernel
theorem d_By_close_37 : decode b_By_close 37 = .ok (.ifCond .lt 17, 3) := by decide +kernel
theorem d_By_close_40 : decode b_By_close 40 = .ok (.iload_n 3, 1) := by decide +kernel
theorem d_By_close_41 : decode b_By_close 41 = .ok (.aload_n 0, 1) := by decide +kernel
theorem d_By_close_42 : decode b_By_close 42 = .ok (.getfield 15, 3) := by decide +kernel
theorem d_By_close_45 : decode b_By_close 45 = .ok (.arraylength, 1) := by decide +kernel
theorem d_By_close_46 : decode b_By_close 46 = .ok (.aload_n 0, 1) := by decide +kernel
theorem d_By_close_47 : decode b_By_close 47 = .ok (.getfield 21, 3) := by decide +kernel
theorem d_By_close_50 : decode b_By_close 50 = .ok (.isub, 1) := by decide +kernel
theorem d_By_close_51 : decode b_By_close 51 = .ok (.if_icmp .le 4, 3) := by decide +kernel
theorem d_By_close_54 : decode b_By_close 54 = .ok (.return_, 1) := by decide +kernel
theorem d_By_close_55 : decode b_By_close 55 = .ok (.iload_n 3, 1) := by decide +kernel
theorem d_By_close_56 : decode b_By_close 56 = .ok (.ifCond .ne 14, 3) := by decide +kernel
theorem d_By_close_59 : decode b_By_close 59 = .ok (.aload_n 0, 1) := by decide +kernel
theorem d_By_close_60 : decode b_By_close 60 = .ok (.getfield 15, 3) := by decide +kernel
theorem d_By_close_63 : decode b_By_close 63 = .ok (.iload_n 1, 1) := by decide +kernel
theorem d_By_close_64 : decode b_By_close 64 = .ok (.iconst 1, 1) := by decide +kernel
theorem d_By_close_65 : decode b_By_close 65 = .ok (.isub, 1) := by decide +kernel
theorem d_By_close_66 : decode b_By_close 66 = .ok (.iload_n 2, 1) := by decide +kernel
theorem d_By_close_67 : decode b_By_close 67 = .ok (.i2b, 1) := by decide +kernel
theorem d_By_close_68 : decode b_By_close 68 = .ok (.bastore, 1) := by decide +kernel
theorem d_By_close_69 : decode b_By_close 69 = .ok (.return_, 1) := by decide +kernel
theorem d_By_close_70 : decode b_By_close 70 = .ok (.aload_n 0, 1) := by decide +kernel
theorem d_By_close_71 : decode b_By_close 71 = .ok (.getfield 15, 3) := by decide +kernel
theorem d_By_close_74 : decode b_By_close 74 = .ok (.iload_n 1, 1) := by decide +kernel
theorem d_By_close_75 : decode b_By_close 75 = .ok (.aload_n 0, 1) := by decide +kernel
theorem d_By_close_76 : decode b_By_close 76 = .ok (.getfield 15, 3) := by decide +kernel
theorem d_By_close_79 : decode b_By_close 79 = .ok (.iload_n 1, 1) := by decide +kernel
theorem d_By_close_80 : decode b_By_close 80 = .ok (.iload_n 3, 1) := by decide +kernel
theorem d_By_close_81 : decode b_By_close 81 = .ok (.iadd, 1) := by decide +kernel
theorem d_By_close_82 : decode b_By_close 82 = .ok (.iload_n 2, 1) := by decide +kernel
theorem d_By_close_83 : decode b_By_close 83 = .ok (.invokestatic 29, 3) := by decide +kernel
theorem d_By_close_86 : decode b_By_close 86 = .ok (.aload_n 0, 1) := by decide +kernel
theorem d_By_close_87 : decode b_By_close 87 = .ok (.getfield 15, 3) := by decide +kernel
theorem d_By_close_90 : decode b_By_close 90 = .ok (.iload_n 1, 1) := by decide +kernel
theorem d_By_close_91 : decode b_By_close 91 = .ok (.iconst 1, 1) := by decide +kernel
theorem d_By_close_92 : decode b_By_close 92 = .ok (.isub, 1) := by decide +kernel
theorem d_By_close_93 : decode b_By_close 93 = .ok (.sipush 128, 3) := by decide +kernel
theorem d_By_close_96 : decode b_By_close 96 = .ok (.iload_n 3, 1) := by decide +kernel
theorem d_By_close_97 : decode b_By_close 97 = .ok (.iadd, 1) := by decide +kernel
theorem d_By_close_98 : decode b_By_close 98 = .ok (.i2b, 1) := by decide +kernel
theorem d_By_close_99 : decode b_By_close 99 = .ok (.bastore, 1) := by decide +kernel
theorem d_By_close_100 : decode b_By_close 100 = .ok (.iload_n 3, 1) := by decide +kernel
theorem d_By_close_101 : decode b_By_close 101 = .ok (.iconst 2, 1) := by decide +kernel
theorem d_By_close_102 : decode b_By_close 102 = .ok (.if_icmp .ne 14, 3) := by decide +kernel
theorem d_By_close_105 : decode b_By_close 105 = .ok (.aload_n 0, 1) := by decide +kernel
theorem d_By_close_106 : decode b_By_close 106 = .ok (.getfield 15, 3) := by decide +kernel
theorem d_By_close_109 : decode b_By_close 109 = .ok (.iload_n 1, 1) := by decide +kernel
theorem d_By_close_110 : decode b_By_close 110 = .ok (.iload_n 2, 1) := by decide +kernel
theorem d_By_close_111 : decode b_By_close 111 = .ok (.bipush 8, 2) := by decide +kernel
theorem d_By_close_113 : decode b_By_close 113 = .ok (.ishr, 1) := by decide +kernel
theorem d_By_close_114 : decode b_By_close 114 = .ok (.i2b, 1) := by decide +kernel
theorem d_By_close_115 : decode b_By_close 115 = .ok (.bastore, 1) := by decide +kernel
theorem d_By_close_116 : decode b_By_close 116 = .ok (.aload_n 0, 1) := by decide +kernel
theorem d_By_close_117 : decode b_By_close 117 = .ok (.getfield 15, 3) := by decide +kernel
theorem d_By_close_120 : decode b_By_close 120 = .ok (.iload_n 1, 1) := by decide +kernel
theorem d_By_close_121 : decode b_By_close 121 = .ok (.iload_n 3, 1) := by decide +kernel
theorem d_By_close_122 : decode b_By_close 122 = .ok (.iadd, 1) := by decide +kernel
theorem d_By_close_123 : decode b_By_close 123 = .ok (.iconst 1, 1) := by decide +kernel
theorem d_By_close_124 : decode b_By_close 124 = .ok (.isub, 1) := by decide +kernel
theorem d_By_close_125 : decode b_By_close 125 = .ok (.iload_n 2, 1) := by decide +kernel
theorem d_By_close_126 : decode b_By_close 126 = .ok (.i2b, 1) := by decide +kernel
theorem d_By_close_127 : decode b_By_close 127 = .ok (.bastore, 1) := by decide +kernel
theorem d_By_close_128 : decode b_By_close 128 = .ok (.aload_n 0, 1) := by decide +kernel
theorem d_By_close_129 : decode b_By_close 129 = .ok (.dup, 1) := by decide +kernel
theorem d_By_close_130 : decode b_By_close 130 = .ok (.getfield 21, 3) := by decide +kernel
theorem d_By_close_133 : decode b_By_close 133 = .ok (.iload_n 3, 1) := by decide +kernel
theorem d_By_close_134 : decode b_By_close 134 = .ok (.iadd, 1) := by decide +kernel
theorem d_By_close_135 : decode b_By_close 135 = .ok (.putfield 21, 3) := by decide +kernel
theorem d_By_close_138 : decode b_By_close 138 = .ok (.return_, 1) := by decide +kernel
abbrev b_By_putValue : ByteArray := prog_4_method_12_code
def y_By_putValue : MethodName := ⟨R_By, "putValue", "(I[BII)V"⟩
abbrev k_By_putValue : Cond := .code y_By_putValue b_By_putValue 6 none
theorem ki_By_putValue : k_By_putValue ∈ lw_tg := in_t 790 (by decide +kernel)
theorem ks_By_putValue : Cond.instanceMethod y_By_putValue ∈ lw_tg := in_t 788 (by decide +kernel)
theorem kx_By_putValue : Cond.selects R_By y_By_putValue y_By_putValue ∈ lw_tg := in_t 789 (by decide +kernel)
theorem kl_H_By_putValue : Cond.methodLink R_H 318 y_By_putValue ∈ lw_tg := in_t 787 (by decide +kernel)
theorem kl_By_By_putValue : Cond.methodLink R_By 77 y_By_putValue ∈ lw_tg := in_t 1301 (by decide +kernel)
theorem kl_So_By_putValue : Cond.methodLink R_So 232 y_By_putValue ∈ lw_tg := in_t 1726 (by decide +kernel)
theorem hd_By_putValue : y_By_putValue.cls = R_By ∧ y_By_putValue.cls ≠ "java/lang/invoke/MethodHandle" ∧ y_By_putValue.cls ≠ "java/lang/invoke/VarHandle" ∧ (parseMethodDescriptor y_By_putValue.desc).map (fun d => d.parameters.length) = some 4 := by decide +kernel
theorem d_By_putValue_0 : decode b_By_putValue 0 = .ok (.aload_n 0, 1) := by decide +kernel
theorem d_By_putValue_1 : decode b_By_putValue 1 = .ok (.iload_n 1, 1) := by decide +kernel
theorem d_By_putValue_2 : decode b_By_putValue 2 = .ok (.invokevirtual 39, 3) := by decide +kernel
theorem d_By_putValue_5 : decode b_By_putValue 5 = .ok (.istore 5, 2) := by decide +kernel
theorem d_By_putValue_7 : decode b_By_putValue 7 = .ok (.aload_n 0, 1) := by decide +kernel
theorem d_By_putValue_8 : decode b_By_putValue 8 = .ok (.aload_n 2, 1) := by decide +kernel
theorem d_By_putValue_9 : decode b_By_putValue 9 = .ok (.iload_n 3, 1) := by decide +kernel
theorem d_By_putValue_10 : decode b_By_putValue 10 = .ok (.iload 4, 2) := by decide +kernel
theorem d_By_putValue_12 : decode b_By_putValue 12 = .ok (.invokevirtual 35, 3) := by decide +kernel
theorem d_By_putValue_15 : decode b_By_putValue 15 = .ok (.aload_n 0, 1) := by decide +kernel
theorem d_By_putValue_16 : decode b_By_putValue 16 = .ok (.iload 5, 2) := by decide +kernel
theorem d_By_putValue_18 : decode b_By_putValue 18 = .ok (.invokevirtual 43, 3) := by decide +kernel
theorem d_By_putValue_21 : decode b_By_putValue 21 = .ok (.return_, 1) := by decide +kernel
set_option maxHeartbeats 4000000 in
set_option maxRecDepth 100000 in
theorem c_By_clear (l : Launch) (D : va_G) (E : cE) (L : List Nat) (f : pF) (sz : Nat) (b r N n : Nat) (g : Nat → Int32) (hb : b ∈ L) (eb : f b = .inr (3, [.ref r, .int (nI n)])) (hr0 : r ∈ L) (er : f r = .inl (E.1, N, .inl g)) (hn : n ≤ N) (hN : N < 100000) (hg : fB g) : Met l y_By_clear (k_By_clear :: lw_tg) (mR 0 0) (va_Pc [.ref b] (cPre D E L f sz)) (va_Qv (fun (u : cU) => u.1 = L ∧ (∀ x, x ≠ b → x ≠ r → u.2 x = f x) ∧ ∃ (n2 : Nat) (g2 : Nat → Int32), n2 ≤ N ∧ fB g2 ∧ n2 = 0 ∧ u.2 b = .inr (3, [.ref r, .int (nI n2)]) ∧ u.2 r = .inl (E.1, N, .inl g2)) (cPost D E (pA L sz)) (pA L sz)) 0 0 (pA L sz) := by
  refine c_enter (own := R_By) (by decide) rfl (Nat.le_of_ble_eq_true rfl) ⟨rfl, rfl⟩ (fun p e s m below meth c ls AV QQ H locs hQQ X Y hA hin hr hlk hml hl => ?_)
  have hl : lv_has ls 1 [(0, .ref b)] := hl
  refine lv_aload_n X.1 X.2.1 d_By_clear_0 rfl (lv_at hl 0 rfl) ?_
  refine lv_iconst (v := (nI 0)) X.1 X.2.1 d_By_clear_1 (by decide) ?_
  refine q_put X.1 X.2.1 X.2.2.1 i_By t_By t_By_ok n_By X.2.2.2.1 X.2.2.2.2 Y hb eb rfl 1 (by decide) (X.2.2.1 _ lk_By_21) (fun _ h9 => h9) rfl (t_By_ok 1 (by decide)) rfl rfl (Nat.le_of_ble_eq_true rfl) d_By_clear_2 (fun H locs Y => ?_)
  have e2 : (va_up f b (.inr (3, [.ref r, .int (nI 0)]))) b = .inr (3, [.ref r, .int (nI 0)]) := q_up
  have e3 : (va_up f b (.inr (3, [.ref r, .int (nI 0)]))) r = .inl (E.1, N, .inl g) := (q_ne (q_tag er eb (show (1000 : Nat) ≠ 3 by decide))).trans er
  have hF4 : ∀ x, x ≠ b → x ≠ r → (va_up f b (.inr (3, [.ref r, .int (nI 0)]))) x = f x := fun x h0 h1 => (q_ne h0).trans rfl
  have Y : pH D cCl (pA L sz) s.heap L (va_up f b (.inr (3, [.ref r, .int (nI 0)]))) H locs := Y
  generalize (va_up f b (.inr (3, [.ref r, .int (nI 0)]))) = f1 at Y e2 e3 hF4
  exact c_retv hQQ X Y hr hlk ⟨rfl, hF4, 0, g, (by omega), hg, (by omega), e2, e3⟩ d_By_clear_5
set_option maxHeartbeats 4000000 in
set_option maxRecDepth 100000 in
theorem c_By_at (l : Launch) (D : va_G) (E : cE) (L : List Nat) (f : pF) (sz : Nat) (a1 : Int32) (b r N n : Nat) (g : Nat → Int32) (hb : b ∈ L) (eb : f b = .inr (3, [.ref r, .int (nI n)])) (hr0 : r ∈ L) (er : f r = .inl (E.1, N, .inl g)) (hn : n ≤ N) (hN : N < 100000) (hg : fB g) : Met l y_By_at (k_By_at :: lw_tg) (mR 0 0) (va_Pc [.ref b, .int a1] (cPre D E L f sz)) (va_Qi (fun (r0 : Int32) (u : cU) => u.1 = L ∧ (∀ x, x ≠ b → x ≠ r → u.2 x = f x) ∧ ∃ (n2 : Nat) (g2 : Nat → Int32), n2 ≤ N ∧ fB g2 ∧ n2 = n ∧ u.2 b = .inr (3, [.ref r, .int (nI n2)]) ∧ u.2 r = .inl (E.1, N, .inl g2) ∧ ((n = 0 → r0 = (-1)) ∧ (r0 = (-1) ∨ ∃ k, k < 256 ∧ r0 = nI k))) (cPost D E (pA L sz)) (pA L sz)) 0 0 (pA L sz) := by
  refine c_enter (own := R_By) (by decide) rfl (Nat.le_of_ble_eq_true rfl) ⟨rfl, rfl⟩ (fun p e s m below meth c ls AV QQ H locs hQQ X Y hA hin hr hlk hml hl => ?_)
  have hl : lv_has ls 2 [(0, .ref b), (1, .int a1)] := hl
  refine lv_iload_n X.1 X.2.1 d_By_at_0 rfl (lv_at hl 1 rfl) ?_
  refine lv_if_lt (tgt := 25) X.1 X.2.1 d_By_at_1 (by decide) (fun c1 => ?_) (fun c1 => ?_)
  · skip
    refine lv_iconst (v := (-1)) X.1 X.2.1 d_By_at_25 (by decide) ?_
    exact c_reti hQQ X Y hr hlk ⟨rfl, (fun _ _ _ => rfl), n, g, (by omega), hg, (by omega), eb, er, ⟨fun _ => rfl, Or.inl rfl⟩⟩ d_By_at_26
  · skip
    refine lv_iload_n X.1 X.2.1 d_By_at_4 rfl (lv_at hl 1 rfl) ?_
    refine lv_aload_n X.1 X.2.1 d_By_at_5 rfl (lv_at hl 0 rfl) ?_
    refine q_get X.1 X.2.1 X.2.2.1 i_By X.2.2.2.1 X.2.2.2.2 Y hb eb rfl 1 (by decide) (X.2.2.1 _ lk_By_21) (fun _ h9 => h9) rfl d_By_at_6 ?_
    refine lv_icmp_ge (tgt := 25) X.1 X.2.1 d_By_at_9 (by decide) (fun c2 => ?_) (fun c2 => ?_)
    · skip
      refine lv_iconst (v := (-1)) X.1 X.2.1 d_By_at_25 (by decide) ?_
      exact c_reti hQQ X Y hr hlk ⟨rfl, (fun _ _ _ => rfl), n, g, (by omega), hg, (by omega), eb, er, ⟨fun _ => rfl, Or.inl rfl⟩⟩ d_By_at_26
    · skip
      refine lv_aload_n X.1 X.2.1 d_By_at_12 rfl (lv_at hl 0 rfl) ?_
      refine q_get X.1 X.2.1 X.2.2.1 i_By X.2.2.2.1 X.2.2.2.2 Y hb eb rfl 0 (by decide) (X.2.2.1 _ lk_By_15) (fun _ h9 => h9) rfl d_By_at_13 ?_
      refine lv_iload_n X.1 X.2.1 d_By_at_16 rfl (lv_at hl 1 rfl) ?_
      obtain ⟨n3, hn3, en3⟩ := ((pk_ix a1 (n := n) (by omega)).resolve_left c1).resolve_left c2
      refine t_eq en3 ?_
      refine q_bald X.1 X.2.1 X.2.2.2.2 Y 0 hr0 er rfl (vp_in_nI (by omega) (by omega)) d_By_at_17 ?_
      refine t_any (fun v4 => ?_)
      refine lv_sipush (v := (nI 255)) X.1 X.2.1 d_By_at_18 (by decide) ?_
      refine lv_iand X.1 X.2.1 d_By_at_21 ?_
      obtain ⟨j5, hj5, ej5⟩ := pk_andE v4 (m := nI 255) 8 (by decide)
      refine t_eq ej5 ?_
      have hj5 : j5 < 256 := hj5
      refine lv_goto (tgt := 26) X.1 X.2.1 d_By_at_22 (by decide) ?_
      exact c_reti hQQ X Y hr hlk ⟨rfl, (fun _ _ _ => rfl), n, g, (by omega), hg, (by omega), eb, er, ⟨fun h9 => absurd h9 (by omega), Or.inr ⟨j5, by omega, rfl⟩⟩⟩ d_By_at_26
set_option maxHeartbeats 4000000 in
set_option maxRecDepth 100000 in
theorem c_By_put (l : Launch) (D : va_G) (E : cE) (L : List Nat) (f : pF) (sz : Nat) (a1 : Int32) (b r N n : Nat) (g : Nat → Int32) (hb : b ∈ L) (eb : f b = .inr (3, [.ref r, .int (nI n)])) (hr0 : r ∈ L) (er : f r = .inl (E.1, N, .inl g)) (hn : n ≤ N) (hN : N < 100000) (hg : fB g) : Met l y_By_put (k_By_put :: lw_tg) (mR 0 0) (va_Pc [.ref b, .int a1] (cPre D E L f sz)) (va_Qv (fun (u : cU) => u.1 = L ∧ (∀ x, x ≠ b → x ≠ r → u.2 x = f x) ∧ ∃ (n2 : Nat) (g2 : Nat → Int32), n2 ≤ N ∧ fB g2 ∧ n ≤ n2 ∧ n2 ≤ n + 1 ∧ u.2 b = .inr (3, [.ref r, .int (nI n2)]) ∧ u.2 r = .inl (E.1, N, .inl g2)) (cPost D E (pA L sz)) (pA L sz)) 0 0 (pA L sz) := by
  refine c_enter (own := R_By) (by decide) rfl (Nat.le_of_ble_eq_true rfl) ⟨rfl, rfl⟩ (fun p e s m below meth c ls AV QQ H locs hQQ X Y hA hin hr hlk hml hl => ?_)
  have hl : lv_has ls 2 [(0, .ref b), (1, .int a1)] := hl
  refine lv_aload_n X.1 X.2.1 d_By_put_0 rfl (lv_at hl 0 rfl) ?_
  refine q_get X.1 X.2.1 X.2.2.1 i_By X.2.2.2.1 X.2.2.2.2 Y hb eb rfl 1 (by decide) (X.2.2.1 _ lk_By_21) (fun _ h9 => h9) rfl d_By_put_1 ?_
  refine lv_aload_n X.1 X.2.1 d_By_put_4 rfl (lv_at hl 0 rfl) ?_
  refine q_get X.1 X.2.1 X.2.2.1 i_By X.2.2.2.1 X.2.2.2.2 Y hb eb rfl 0 (by decide) (X.2.2.1 _ lk_By_15) (fun _ h9 => h9) rfl d_By_put_5 ?_
  refine q_alen X.1 X.2.1 X.2.2.2.2 Y 0 hr0 er rfl (v := nI (N)) rfl d_By_put_8 ?_
  refine lv_icmp_ge (tgt := 33) X.1 X.2.1 d_By_put_9 (by decide) (fun c1 => ?_) (fun c1 => ?_)
  · skip
    rw [nI_leI (by omega) (by omega)] at c1
    exact c_retv hQQ X Y hr hlk ⟨rfl, (fun _ _ _ => rfl), n, g, (by omega), hg, (by omega), (by omega), eb, er⟩ d_By_put_33
  · skip
    rw [nI_leI (by omega) (by omega)] at c1
    refine lv_aload_n X.1 X.2.1 d_By_put_12 rfl (lv_at hl 0 rfl) ?_
    refine q_get X.1 X.2.1 X.2.2.1 i_By X.2.2.2.1 X.2.2.2.2 Y hb eb rfl 0 (by decide) (X.2.2.1 _ lk_By_15) (fun _ h9 => h9) rfl d_By_put_13 ?_
    refine lv_aload_n X.1 X.2.1 d_By_put_16 rfl (lv_at hl 0 rfl) ?_
    refine q_get X.1 X.2.1 X.2.2.1 i_By X.2.2.2.1 X.2.2.2.2 Y hb eb rfl 1 (by decide) (X.2.2.1 _ lk_By_21) (fun _ h9 => h9) rfl d_By_put_17 ?_
    refine lv_iload_n X.1 X.2.1 d_By_put_20 rfl (lv_at hl 1 rfl) ?_
    obtain ⟨v2, ev2⟩ : ∃ z : Int32, (a1 : Int32).toInt8.toInt32 = z := ⟨_, rfl⟩
    refine lv_i2b (v := v2) X.1 X.2.1 d_By_put_21 ev2 ?_
    refine q_bast X.1 X.2.1 X.2.2.2.2 Y 0 hr0 er rfl (vp_in_nI (by omega) (by omega)) d_By_put_22 (fun H locs Y => ?_)
    have hg4 : fB (upd g ((nI n)).toNatClampNeg (vp_nar .byte v2)) := fB_upd hg
    generalize (upd g ((nI n)).toNatClampNeg (vp_nar .byte v2)) = g3 at Y hg4
    have e6 : (va_up f r (.inl (E.1, N, .inl g3))) r = .inl (E.1, N, .inl g3) := q_up
    have e7 : (va_up f r (.inl (E.1, N, .inl g3))) b = .inr (3, [.ref r, .int (nI n)]) := (q_ne (q_tag eb er (show (3 : Nat) ≠ 1000 by decide))).trans eb
    have hF8 : ∀ x, x ≠ b → x ≠ r → (va_up f r (.inl (E.1, N, .inl g3))) x = f x := fun x h0 h1 => (q_ne h1).trans rfl
    have Y : pH D cCl (pA L sz) s.heap L (va_up f r (.inl (E.1, N, .inl g3))) H locs := Y
    generalize (va_up f r (.inl (E.1, N, .inl g3))) = f5 at Y e6 e7 hF8
    refine lv_aload_n X.1 X.2.1 d_By_put_23 rfl (lv_at hl 0 rfl) ?_
    refine lv_dup X.1 X.2.1 d_By_put_24 rfl ?_
    refine q_get X.1 X.2.1 X.2.2.1 i_By X.2.2.2.1 X.2.2.2.2 Y hb e7 rfl 1 (by decide) (X.2.2.1 _ lk_By_21) (fun _ h9 => h9) rfl d_By_put_25 ?_
    refine lv_iconst (v := (nI 1)) X.1 X.2.1 d_By_put_28 (by decide) ?_
    refine lv_iadd X.1 X.2.1 d_By_put_29 ?_
    refine t_eq (y := nI (n + 1)) (nI_add _ _) ?_
    refine q_put X.1 X.2.1 X.2.2.1 i_By t_By t_By_ok n_By X.2.2.2.1 X.2.2.2.2 Y hb e7 rfl 1 (by decide) (X.2.2.1 _ lk_By_21) (fun _ h9 => h9) rfl (t_By_ok 1 (by decide)) rfl rfl (Nat.le_of_ble_eq_true rfl) d_By_put_30 (fun H locs Y => ?_)
    have e10 : (va_up f5 b (.inr (3, [.ref r, .int (nI (n + 1))]))) b = .inr (3, [.ref r, .int (nI (n + 1))]) := q_up
    have e11 : (va_up f5 b (.inr (3, [.ref r, .int (nI (n + 1))]))) r = .inl (E.1, N, .inl g3) := (q_ne (q_tag e6 e7 (show (1000 : Nat) ≠ 3 by decide))).trans e6
    have hF12 : ∀ x, x ≠ b → x ≠ r → (va_up f5 b (.inr (3, [.ref r, .int (nI (n + 1))]))) x = f x := fun x h0 h1 => (q_ne h0).trans (hF8 x h0 h1)
    have Y : pH D cCl (pA L sz) s.heap L (va_up f5 b (.inr (3, [.ref r, .int (nI (n + 1))]))) H locs := Y
    generalize (va_up f5 b (.inr (3, [.ref r, .int (nI (n + 1))]))) = f9 at Y e10 e11 hF12
    exact c_retv hQQ X Y hr hlk ⟨rfl, hF12, n + 1, g3, (by omega), hg4, (by omega), (by omega), e10, e11⟩ d_By_put_33
set_option maxHeartbeats 4000000 in
set_option maxRecDepth 100000 in
theorem c_By_putWord (l : Launch) (D : va_G) (E : cE) (L : List Nat) (f : pF) (sz : Nat) (a1 : Int32) (b r N n : Nat) (g : Nat → Int32) (hb : b ∈ L) (eb : f b = .inr (3, [.ref r, .int (nI n)])) (hr0 : r ∈ L) (er : f r = .inl (E.1, N, .inl g)) (hn : n ≤ N) (hN : N < 100000) (hg : fB g) : Met l y_By_putWord (k_By_putWord :: lw_tg) (mR 1 21) (va_Pc [.ref b, .int a1] (cPre D E L f sz)) (va_Qv (fun (u : cU) => u.1 = L ∧ (∀ x, x ≠ b → x ≠ r → u.2 x = f x) ∧ ∃ (n2 : Nat) (g2 : Nat → Int32), n2 ≤ N ∧ fB g2 ∧ n ≤ n2 ∧ n2 ≤ n + 4 ∧ u.2 b = .inr (3, [.ref r, .int (nI n2)]) ∧ u.2 r = .inl (E.1, N, .inl g2)) (cPost D E (pA L sz)) (pA L sz)) 0 0 (pA L sz) := by
  refine c_enter (own := R_By) (by decide) rfl (Nat.le_of_ble_eq_true rfl) ⟨rfl, rfl⟩ (fun p e s m below meth c ls AV QQ H locs hQQ X Y hA hin hr hlk hml hl => ?_)
  have hl : lv_has ls 2 [(0, .ref b), (1, .int a1)] := hl
  refine lv_aload_n X.1 X.2.1 d_By_putWord_0 rfl (lv_at hl 0 rfl) ?_
  refine lv_iload_n X.1 X.2.1 d_By_putWord_1 rfl (lv_at hl 1 rfl) ?_
  refine lv_bipush (v := (nI 24)) X.1 X.2.1 d_By_putWord_2 (by decide) ?_
  refine lv_ishr X.1 X.2.1 d_By_putWord_4 ?_
  refine t_any (fun v1 => ?_)
  refine c_callv (As := [.int v1]) (rest := []) (n := 1) X Y hA hml hl.1 (c_By_put l D E L f H.size v1 b r (N) (n) g hb eb hr0 er (by omega) (by omega) hg) hb eb rfl kl_By_By_put ks_By_put kx_By_put ki_By_put ini_By ⟨rfl, rfl⟩ hd_By_put ⟨by decide, by decide⟩ rfl (Nat.le_of_ble_eq_true rfl) d_By_putWord_5 ⟨Nat.le_refl _, Nat.le_refl _⟩ (fun u H locs hp Y => ?_)
  obtain ⟨L3, f2⟩ := u
  obtain ⟨eL14, hF4, n5, g6, h8, h9, h10, h11, e12, e13⟩ := hp
  dsimp only at eL14 hF4 e12 e13 Y
  rw [eL14] at Y
  have hF16 : ∀ x, x ≠ b → x ≠ r → f2 x = f x := fun x h0 h1 => (hF4 x h0 h1).trans rfl
  refine lv_aload_n X.1 X.2.1 d_By_putWord_8 rfl (lv_at hl 0 rfl) ?_
  refine lv_iload_n X.1 X.2.1 d_By_putWord_9 rfl (lv_at hl 1 rfl) ?_
  refine lv_bipush (v := (nI 16)) X.1 X.2.1 d_By_putWord_10 (by decide) ?_
  refine lv_ishr X.1 X.2.1 d_By_putWord_12 ?_
  refine t_any (fun v17 => ?_)
  refine c_callv (As := [.int v17]) (rest := []) (n := 1) X Y hA hml hl.1 (c_By_put l D E L f2 H.size v17 b r (N) (n5) g6 hb e12 hr0 e13 (by omega) (by omega) h9) hb e12 rfl kl_By_By_put ks_By_put kx_By_put ki_By_put ini_By ⟨rfl, rfl⟩ hd_By_put ⟨by decide, by decide⟩ rfl (Nat.le_of_ble_eq_true rfl) d_By_putWord_13 ⟨Nat.le_refl _, Nat.le_refl _⟩ (fun u H locs hp Y => ?_)
  obtain ⟨L19, f18⟩ := u
  obtain ⟨eL30, hF20, n21, g22, h24, h25, h26, h27, e28, e29⟩ := hp
  dsimp only at eL30 hF20 e28 e29 Y
  rw [eL30] at Y
  have hF32 : ∀ x, x ≠ b → x ≠ r → f18 x = f x := fun x h0 h1 => (hF20 x h0 h1).trans (hF16 x h0 h1)
  refine lv_aload_n X.1 X.2.1 d_By_putWord_16 rfl (lv_at hl 0 rfl) ?_
  refine lv_iload_n X.1 X.2.1 d_By_putWord_17 rfl (lv_at hl 1 rfl) ?_
  refine lv_bipush (v := (nI 8)) X.1 X.2.1 d_By_putWord_18 (by decide) ?_
  refine lv_ishr X.1 X.2.1 d_By_putWord_20 ?_
  refine t_any (fun v33 => ?_)
  refine c_callv (As := [.int v33]) (rest := []) (n := 1) X Y hA hml hl.1 (c_By_put l D E L f18 H.size v33 b r (N) (n21) g22 hb e28 hr0 e29 (by omega) (by omega) h25) hb e28 rfl kl_By_By_put ks_By_put kx_By_put ki_By_put ini_By ⟨rfl, rfl⟩ hd_By_put ⟨by decide, by decide⟩ rfl (Nat.le_of_ble_eq_true rfl) d_By_putWord_21 ⟨Nat.le_refl _, Nat.le_refl _⟩ (fun u H locs hp Y => ?_)
  obtain ⟨L35, f34⟩ := u
  obtain ⟨eL46, hF36, n37, g38, h40, h41, h42, h43, e44, e45⟩ := hp
  dsimp only at eL46 hF36 e44 e45 Y
  rw [eL46] at Y
  have hF48 : ∀ x, x ≠ b → x ≠ r → f34 x = f x := fun x h0 h1 => (hF36 x h0 h1).trans (hF32 x h0 h1)
  refine lv_aload_n X.1 X.2.1 d_By_putWord_24 rfl (lv_at hl 0 rfl) ?_
  refine lv_iload_n X.1 X.2.1 d_By_putWord_25 rfl (lv_at hl 1 rfl) ?_
  refine c_callv (As := [.int a1]) (rest := []) (n := 1) X Y hA hml hl.1 (c_By_put l D E L f34 H.size a1 b r (N) (n37) g38 hb e44 hr0 e45 (by omega) (by omega) h41) hb e44 rfl kl_By_By_put ks_By_put kx_By_put ki_By_put ini_By ⟨rfl, rfl⟩ hd_By_put ⟨by decide, by decide⟩ rfl (Nat.le_of_ble_eq_true rfl) d_By_putWord_26 ⟨Nat.le_refl _, Nat.le_refl _⟩ (fun u H locs hp Y => ?_)
  obtain ⟨L50, f49⟩ := u
  obtain ⟨eL61, hF51, n52, g53, h55, h56, h57, h58, e59, e60⟩ := hp
  dsimp only at eL61 hF51 e59 e60 Y
  rw [eL61] at Y
  have hF63 : ∀ x, x ≠ b → x ≠ r → f49 x = f x := fun x h0 h1 => (hF51 x h0 h1).trans (hF48 x h0 h1)
  exact c_retv hQQ X Y hr hlk ⟨rfl, hF63, n52, g53, (by omega), h56, (by omega), (by omega), e59, e60⟩ d_By_putWord_29
set_option maxHeartbeats 4000000 in
set_option maxRecDepth 100000 in
theorem c_By_open (l : Launch) (D : va_G) (E : cE) (L : List Nat) (f : pF) (sz : Nat) (a1 : Int32) (b r N n : Nat) (g : Nat → Int32) (hb : b ∈ L) (eb : f b = .inr (3, [.ref r, .int (nI n)])) (hr0 : r ∈ L) (er : f r = .inl (E.1, N, .inl g)) (hn : n ≤ N) (hN : N < 100000) (hg : fB g) : Met l y_By_open (k_By_open :: lw_tg) (mR 0 0) (va_Pc [.ref b, .int a1] (cPre D E L f sz)) (va_Qi (fun (r0 : Int32) (u : cU) => u.1 = L ∧ (∀ x, x ≠ b → x ≠ r → u.2 x = f x) ∧ ∃ (n2 : Nat) (g2 : Nat → Int32), n2 ≤ N ∧ fB g2 ∧ n ≤ n2 ∧ n2 ≤ n + 2 ∧ u.2 b = .inr (3, [.ref r, .int (nI n2)]) ∧ u.2 r = .inl (E.1, N, .inl g2) ∧ (r0 = nI n2)) (cPost D E (pA L sz)) (pA L sz)) 0 0 (pA L sz) := by
  refine c_enter (own := R_By) (by decide) rfl (Nat.le_of_ble_eq_true rfl) ⟨rfl, rfl⟩ (fun p e s m below meth c ls AV QQ H locs hQQ X Y hA hin hr hlk hml hl => ?_)
  have hl : lv_has ls 2 [(0, .ref b), (1, .int a1)] := hl
  refine lv_aload_n X.1 X.2.1 d_By_open_0 rfl (lv_at hl 0 rfl) ?_
  refine q_get X.1 X.2.1 X.2.2.1 i_By X.2.2.2.1 X.2.2.2.2 Y hb eb rfl 1 (by decide) (X.2.2.1 _ lk_By_21) (fun _ h9 => h9) rfl d_By_open_1 ?_
  refine lv_aload_n X.1 X.2.1 d_By_open_4 rfl (lv_at hl 0 rfl) ?_
  refine q_get X.1 X.2.1 X.2.2.1 i_By X.2.2.2.1 X.2.2.2.2 Y hb eb rfl 0 (by decide) (X.2.2.1 _ lk_By_15) (fun _ h9 => h9) rfl d_By_open_5 ?_
  refine q_alen X.1 X.2.1 X.2.2.2.2 Y 0 hr0 er rfl (v := nI (N)) rfl d_By_open_8 ?_
  refine lv_iconst (v := (nI 1)) X.1 X.2.1 d_By_open_9 (by decide) ?_
  refine lv_isub X.1 X.2.1 d_By_open_10 ?_
  refine t_eq (m1_s N) ?_
  refine lv_icmp_ge (tgt := 35) X.1 X.2.1 d_By_open_11 (by decide) (fun c1 => ?_) (fun c1 => ?_)
  · skip
    refine lv_aload_n X.1 X.2.1 d_By_open_35 rfl (lv_at hl 0 rfl) ?_
    refine q_get X.1 X.2.1 X.2.2.1 i_By X.2.2.2.1 X.2.2.2.2 Y hb eb rfl 1 (by decide) (X.2.2.1 _ lk_By_21) (fun _ h9 => h9) rfl d_By_open_36 ?_
    exact c_reti hQQ X Y hr hlk ⟨rfl, (fun _ _ _ => rfl), n, g, (by omega), hg, (by omega), (by omega), eb, er, rfl⟩ d_By_open_39
  · skip
    have hNs : n + 2 ≤ N := by
      rcases Nat.eq_zero_or_pos N with h9 | h9
      · exact absurd (by rw [h9, show n = 0 by omega]; decide) c1
      · rw [show N = N - 1 + 1 by omega, pk_m1, nI_leI (by omega) (by omega)] at c1
        omega
    refine lv_aload_n X.1 X.2.1 d_By_open_14 rfl (lv_at hl 0 rfl) ?_
    refine q_get X.1 X.2.1 X.2.2.1 i_By X.2.2.2.1 X.2.2.2.2 Y hb eb rfl 0 (by decide) (X.2.2.1 _ lk_By_15) (fun _ h9 => h9) rfl d_By_open_15 ?_
    refine lv_aload_n X.1 X.2.1 d_By_open_18 rfl (lv_at hl 0 rfl) ?_
    refine q_get X.1 X.2.1 X.2.2.1 i_By X.2.2.2.1 X.2.2.2.2 Y hb eb rfl 1 (by decide) (X.2.2.1 _ lk_By_21) (fun _ h9 => h9) rfl d_By_open_19 ?_
    refine lv_iload_n X.1 X.2.1 d_By_open_22 rfl (lv_at hl 1 rfl) ?_
    obtain ⟨v2, ev2⟩ : ∃ z : Int32, (a1 : Int32).toInt8.toInt32 = z := ⟨_, rfl⟩
    refine lv_i2b (v := v2) X.1 X.2.1 d_By_open_23 ev2 ?_
    refine q_bast X.1 X.2.1 X.2.2.2.2 Y 0 hr0 er rfl (vp_in_nI (by omega) (by omega)) d_By_open_24 (fun H locs Y => ?_)
    have hg4 : fB (upd g ((nI n)).toNatClampNeg (vp_nar .byte v2)) := fB_upd hg
    generalize (upd g ((nI n)).toNatClampNeg (vp_nar .byte v2)) = g3 at Y hg4
    have e6 : (va_up f r (.inl (E.1, N, .inl g3))) r = .inl (E.1, N, .inl g3) := q_up
    have e7 : (va_up f r (.inl (E.1, N, .inl g3))) b = .inr (3, [.ref r, .int (nI n)]) := (q_ne (q_tag eb er (show (3 : Nat) ≠ 1000 by decide))).trans eb
    have hF8 : ∀ x, x ≠ b → x ≠ r → (va_up f r (.inl (E.1, N, .inl g3))) x = f x := fun x h0 h1 => (q_ne h1).trans rfl
    have Y : pH D cCl (pA L sz) s.heap L (va_up f r (.inl (E.1, N, .inl g3))) H locs := Y
    generalize (va_up f r (.inl (E.1, N, .inl g3))) = f5 at Y e6 e7 hF8
    refine lv_aload_n X.1 X.2.1 d_By_open_25 rfl (lv_at hl 0 rfl) ?_
    refine lv_dup X.1 X.2.1 d_By_open_26 rfl ?_
    refine q_get X.1 X.2.1 X.2.2.1 i_By X.2.2.2.1 X.2.2.2.2 Y hb e7 rfl 1 (by decide) (X.2.2.1 _ lk_By_21) (fun _ h9 => h9) rfl d_By_open_27 ?_
    refine lv_iconst (v := (nI 2)) X.1 X.2.1 d_By_open_30 (by decide) ?_
    refine lv_iadd X.1 X.2.1 d_By_open_31 ?_
    refine t_eq (y := nI (n + 2)) (nI_add _ _) ?_
    refine q_put X.1 X.2.1 X.2.2.1 i_By t_By t_By_ok n_By X.2.2.2.1 X.2.2.2.2 Y hb e7 rfl 1 (by decide) (X.2.2.1 _ lk_By_21) (fun _ h9 => h9) rfl (t_By_ok 1 (by decide)) rfl rfl (Nat.le_of_ble_eq_true rfl) d_By_open_32 (fun H locs Y => ?_)
    have e10 : (va_up f5 b (.inr (3, [.ref r, .int (nI (n + 2))]))) b = .inr (3, [.ref r, .int (nI (n + 2))]) := q_up
    have e11 : (va_up f5 b (.inr (3, [.ref r, .int (nI (n + 2))]))) r = .inl (E.1, N, .inl g3) := (q_ne (q_tag e6 e7 (show (1000 : Nat) ≠ 3 by decide))).trans e6
    have hF12 : ∀ x, x ≠ b → x ≠ r → (va_up f5 b (.inr (3, [.ref r, .int (nI (n + 2))]))) x = f x := fun x h0 h1 => (q_ne h0).trans (hF8 x h0 h1)
    have Y : pH D cCl (pA L sz) s.heap L (va_up f5 b (.inr (3, [.ref r, .int (nI (n + 2))]))) H locs := Y
    generalize (va_up f5 b (.inr (3, [.ref r, .int (nI (n + 2))]))) = f9 at Y e10 e11 hF12
    refine lv_aload_n X.1 X.2.1 d_By_open_35 rfl (lv_at hl 0 rfl) ?_
    refine q_get X.1 X.2.1 X.2.2.1 i_By X.2.2.2.1 X.2.2.2.2 Y hb e10 rfl 1 (by decide) (X.2.2.1 _ lk_By_21) (fun _ h9 => h9) rfl d_By_open_36 ?_
    exact c_reti hQQ X Y hr hlk ⟨rfl, hF12, n + 2, g3, (by omega), hg4, (by omega), (by omega), e10, e11, rfl⟩ d_By_open_39
set_option maxHeartbeats 4000000 in
set_option maxRecDepth 100000 in
theorem c_By_openField (l : Launch) (D : va_G) (E : cE) (L : List Nat) (f : pF) (sz : Nat) (a1 : Int32) (b r N n : Nat) (g : Nat → Int32) (hb : b ∈ L) (eb : f b = .inr (3, [.ref r, .int (nI n)])) (hr0 : r ∈ L) (er : f r = .inl (E.1, N, .inl g)) (hn : n ≤ N) (hN : N < 100000) (hg : fB g) : Met l y_By_openField (k_By_openField :: lw_tg) (mR 1 21) (va_Pc [.ref b, .int a1] (cPre D E L f sz)) (va_Qi (fun (r0 : Int32) (u : cU) => u.1 = L ∧ (∀ x, x ≠ b → x ≠ r → u.2 x = f x) ∧ ∃ (n2 : Nat) (g2 : Nat → Int32), n2 ≤ N ∧ fB g2 ∧ n ≤ n2 ∧ n2 ≤ n + 2 ∧ u.2 b = .inr (3, [.ref r, .int (nI n2)]) ∧ u.2 r = .inl (E.1, N, .inl g2) ∧ (r0 = nI n2)) (cPost D E (pA L sz)) (pA L sz)) 0 0 (pA L sz) := by
  refine c_enter (own := R_By) (by decide) rfl (Nat.le_of_ble_eq_true rfl) ⟨rfl, rfl⟩ (fun p e s m below meth c ls AV QQ H locs hQQ X Y hA hin hr hlk hml hl => ?_)
  have hl : lv_has ls 2 [(0, .ref b), (1, .int a1)] := hl
  refine lv_aload_n X.1 X.2.1 d_By_openField_0 rfl (lv_at hl 0 rfl) ?_
  refine lv_sipush (v := (nI 160)) X.1 X.2.1 d_By_openField_1 (by decide) ?_
  refine lv_iload_n X.1 X.2.1 d_By_openField_4 rfl (lv_at hl 1 rfl) ?_
  refine lv_iadd X.1 X.2.1 d_By_openField_5 ?_
  refine t_any (fun v1 => ?_)
  refine c_calli (As := [.int v1]) (rest := []) (n := 1) X Y hA hml hl.1 (c_By_open l D E L f H.size v1 b r (N) (n) g hb eb hr0 er (by omega) (by omega) hg) hb eb rfl kl_By_By_open ks_By_open kx_By_open ki_By_open ini_By ⟨rfl, rfl⟩ hd_By_open ⟨by decide, by decide⟩ rfl (Nat.le_of_ble_eq_true rfl) d_By_openField_6 ⟨Nat.le_refl _, Nat.le_refl _⟩ (fun r7 u H locs hp Y => ?_)
  obtain ⟨L3, f2⟩ := u
  obtain ⟨eL14, hF4, n5, g6, h8, h9, h10, h11, e12, e13, pr15⟩ := hp
  dsimp only at eL14 hF4 e12 e13 Y pr15
  rw [eL14] at Y
  have hF16 : ∀ x, x ≠ b → x ≠ r → f2 x = f x := fun x h0 h1 => (hF4 x h0 h1).trans rfl
  refine t_eq pr15 ?_
  exact c_reti hQQ X Y hr hlk ⟨rfl, hF16, n5, g6, (by omega), h9, (by omega), (by omega), e12, e13, rfl⟩ d_By_openField_9
set_option maxHeartbeats 4000000 in
set_option maxRecDepth 100000 in
theorem c_By_append (l : Launch) (D : va_G) (E : cE) (L : List Nat) (f : pF) (sz : Nat) (a2 a3 : Int32) (b r N n : Nat) (g : Nat → Int32) (hb : b ∈ L) (eb : f b = .inr (3, [.ref r, .int (nI n)])) (hr0 : r ∈ L) (er : f r = .inl (E.1, N, .inl g)) (hn : n ≤ N) (hN : N < 100000) (hg : fB g) (c0 M : Nat) (gc : Nat → Int32) (hc0 : c0 ∈ L) (ec : f c0 = .inl (E.1, M, .inl gc)) (hgc : fB gc) (hM : M < 100000) (hcr : c0 ≠ r) : Met l y_By_append (k_By_append :: lw_tg) (mR 1 60) (va_Pc [.ref b, .ref c0, .int a2, .int a3] (cPre D E L f sz)) (va_Qv (fun (u : cU) => u.1 = L ∧ (∀ x, x ≠ b → x ≠ r → u.2 x = f x) ∧ ∃ (n2 : Nat) (g2 : Nat → Int32), n2 ≤ N ∧ fB g2 ∧ n ≤ n2 ∧ u.2 b = .inr (3, [.ref r, .int (nI n2)]) ∧ u.2 r = .inl (E.1, N, .inl g2)) (cPost D E (pA L sz)) (pA L sz)) 0 0 (pA L sz) := by
  refine c_enter (own := R_By) (by decide) rfl (Nat.le_of_ble_eq_true rfl) ⟨rfl, rfl⟩ (fun p e s m below meth c ls AV QQ H locs hQQ X Y hA hin hr hlk hml hl => ?_)
  have hl : lv_has ls 4 [(0, .ref b), (1, .ref c0), (2, .int a2), (3, .int a3)] := hl
  refine lv_iload_n X.1 X.2.1 d_By_append_0 rfl (lv_at hl 2 rfl) ?_
  refine lv_if_lt (tgt := 30) X.1 X.2.1 d_By_append_1 (by decide) (fun c1 => ?_) (fun c1 => ?_)
  · skip
    exact c_retv hQQ X Y hr hlk ⟨rfl, (fun _ _ _ => rfl), n, g, (by omega), hg, (by omega), eb, er⟩ d_By_append_30
  · skip
    refine lv_iload_n X.1 X.2.1 d_By_append_4 rfl (lv_at hl 3 rfl) ?_
    refine lv_if_lt (tgt := 30) X.1 X.2.1 d_By_append_5 (by decide) (fun c2 => ?_) (fun c2 => ?_)
    · skip
      exact c_retv hQQ X Y hr hlk ⟨rfl, (fun _ _ _ => rfl), n, g, (by omega), hg, (by omega), eb, er⟩ d_By_append_30
    · skip
      obtain ⟨k2, hk2, ek2⟩ := nI_of c1
      obtain ⟨k3, hk3, ek3⟩ := nI_of c2
      refine lv_iload_n X.1 X.2.1 d_By_append_8 rfl (lv_at hl 3 rfl) ?_
      refine t_eq ek3 ?_
      refine lv_aload_n X.1 X.2.1 d_By_append_9 rfl (lv_at hl 1 rfl) ?_
      refine q_alen X.1 X.2.1 X.2.2.2.2 Y 0 hc0 ec rfl (v := nI (M)) rfl d_By_append_10 ?_
      refine lv_iload_n X.1 X.2.1 d_By_append_11 rfl (lv_at hl 2 rfl) ?_
      refine t_eq ek2 ?_
      refine lv_isub X.1 X.2.1 d_By_append_12 ?_
      refine lv_icmp_gt (tgt := 30) X.1 X.2.1 d_By_append_13 (by decide) (fun c3 => ?_) (fun c3 => ?_)
      · skip
        exact c_retv hQQ X Y hr hlk ⟨rfl, (fun _ _ _ => rfl), n, g, (by omega), hg, (by omega), eb, er⟩ d_By_append_30
      · skip
        have hle : k2 + k3 ≤ M := le_sub (by omega) hk2 hk3 c3
        refine lv_iload_n X.1 X.2.1 d_By_append_16 rfl (lv_at hl 3 rfl) ?_
        refine t_eq ek3 ?_
        refine lv_aload_n X.1 X.2.1 d_By_append_17 rfl (lv_at hl 0 rfl) ?_
        refine q_get X.1 X.2.1 X.2.2.1 i_By X.2.2.2.1 X.2.2.2.2 Y hb eb rfl 0 (by decide) (X.2.2.1 _ lk_By_15) (fun _ h9 => h9) rfl d_By_append_18 ?_
        refine q_alen X.1 X.2.1 X.2.2.2.2 Y 0 hr0 er rfl (v := nI (N)) rfl d_By_append_21 ?_
        refine lv_aload_n X.1 X.2.1 d_By_append_22 rfl (lv_at hl 0 rfl) ?_
        refine q_get X.1 X.2.1 X.2.2.1 i_By X.2.2.2.1 X.2.2.2.2 Y hb eb rfl 1 (by decide) (X.2.2.1 _ lk_By_21) (fun _ h9 => h9) rfl d_By_append_23 ?_
        refine lv_isub X.1 X.2.1 d_By_append_26 ?_
        refine t_eq (y := nI (N - (n))) (pk_sub (by omega)) ?_
        refine lv_icmp_le (tgt := 31) X.1 X.2.1 d_By_append_27 (by decide) (fun c4 => ?_) (fun c4 => ?_)
        · skip
          rw [nI_leI (by omega) (by omega)] at c4
          refine lv_aload_n X.1 X.2.1 d_By_append_31 rfl (lv_at hl 1 rfl) ?_
          refine lv_iload_n X.1 X.2.1 d_By_append_32 rfl (lv_at hl 2 rfl) ?_
          refine t_eq ek2 ?_
          refine lv_aload_n X.1 X.2.1 d_By_append_33 rfl (lv_at hl 0 rfl) ?_
          refine q_get X.1 X.2.1 X.2.2.1 i_By X.2.2.2.1 X.2.2.2.2 Y hb eb rfl 0 (by decide) (X.2.2.1 _ lk_By_15) (fun _ h9 => h9) rfl d_By_append_34 ?_
          refine lv_aload_n X.1 X.2.1 d_By_append_37 rfl (lv_at hl 0 rfl) ?_
          refine q_get X.1 X.2.1 X.2.2.1 i_By X.2.2.2.1 X.2.2.2.2 Y hb eb rfl 1 (by decide) (X.2.2.1 _ lk_By_21) (fun _ h9 => h9) rfl d_By_append_38 ?_
          refine lv_iload_n X.1 X.2.1 d_By_append_41 rfl (lv_at hl 3 rfl) ?_
          refine t_eq ek3 ?_
          refine q_copy X.1 X.2.1 (hml.trans hl.1.symm) X.2.2.2.1 (X.2.2.1 _ kl_By_copy) (X.2.2.1 _ kn_copy) (X.2.2.1 _ ks_copy) (X.2.2.1 _ ini_Sys) X.2.2.2.2 Y 0 hc0 ec hr0 er rfl rfl (show k2 + k3 ≤ M by omega) (show n + k3 ≤ N by omega) (by omega) (by omega) hgc (Nat.le_of_ble_eq_true rfl) (Nat.le_of_ble_eq_true rfl) d_By_append_42 (fun H locs Y => ?_)
          have hg6 : fB (va_cpy gc g (k2) (n) (k3)) := fB_cpy hgc hg
          generalize (va_cpy gc g (k2) (n) (k3)) = g5 at Y hg6
          have e8 : (va_up f r (.inl (E.1, N, .inl g5))) r = .inl (E.1, N, .inl g5) := q_up
          have e9 : (va_up f r (.inl (E.1, N, .inl g5))) b = .inr (3, [.ref r, .int (nI n)]) := (q_ne (q_tag eb er (show (3 : Nat) ≠ 1000 by decide))).trans eb
          have e10 : (va_up f r (.inl (E.1, N, .inl g5))) c0 = .inl (E.1, M, .inl gc) := (q_ne hcr).trans ec
          have hF11 : ∀ x, x ≠ b → x ≠ r → (va_up f r (.inl (E.1, N, .inl g5))) x = f x := fun x h0 h1 => (q_ne h1).trans rfl
          have Y : pH D cCl (pA L sz) s.heap L (va_up f r (.inl (E.1, N, .inl g5))) H locs := Y
          generalize (va_up f r (.inl (E.1, N, .inl g5))) = f7 at Y e8 e9 e10 hF11
          refine lv_aload_n X.1 X.2.1 d_By_append_45 rfl (lv_at hl 0 rfl) ?_
          refine lv_dup X.1 X.2.1 d_By_append_46 rfl ?_
          refine q_get X.1 X.2.1 X.2.2.1 i_By X.2.2.2.1 X.2.2.2.2 Y hb e9 rfl 1 (by decide) (X.2.2.1 _ lk_By_21) (fun _ h9 => h9) rfl d_By_append_47 ?_
          refine lv_iload_n X.1 X.2.1 d_By_append_50 rfl (lv_at hl 3 rfl) ?_
          refine t_eq ek3 ?_
          refine lv_iadd X.1 X.2.1 d_By_append_51 ?_
          refine t_eq (y := nI (n + k3)) (nI_add _ _) ?_
          refine q_put X.1 X.2.1 X.2.2.1 i_By t_By t_By_ok n_By X.2.2.2.1 X.2.2.2.2 Y hb e9 rfl 1 (by decide) (X.2.2.1 _ lk_By_21) (fun _ h9 => h9) rfl (t_By_ok 1 (by decide)) rfl rfl (Nat.le_of_ble_eq_true rfl) d_By_append_52 (fun H locs Y => ?_)
          have e13 : (va_up f7 b (.inr (3, [.ref r, .int (nI (n + k3))]))) b = .inr (3, [.ref r, .int (nI (n + k3))]) := q_up
          have e14 : (va_up f7 b (.inr (3, [.ref r, .int (nI (n + k3))]))) r = .inl (E.1, N, .inl g5) := (q_ne (q_tag e8 e9 (show (1000 : Nat) ≠ 3 by decide))).trans e8
          have e15 : (va_up f7 b (.inr (3, [.ref r, .int (nI (n + k3))]))) c0 = .inl (E.1, M, .inl gc) := (q_ne (q_tag e10 e9 (show (1000 : Nat) ≠ 3 by decide))).trans e10
          have hF16 : ∀ x, x ≠ b → x ≠ r → (va_up f7 b (.inr (3, [.ref r, .int (nI (n + k3))]))) x = f x := fun x h0 h1 => (q_ne h0).trans (hF11 x h0 h1)
          have Y : pH D cCl (pA L sz) s.heap L (va_up f7 b (.inr (3, [.ref r, .int (nI (n + k3))]))) H locs := Y
          generalize (va_up f7 b (.inr (3, [.ref r, .int (nI (n + k3))]))) = f12 at Y e13 e14 e15 hF16
          exact c_retv hQQ X Y hr hlk ⟨rfl, hF16, n + k3, g5, (by omega), hg6, (by omega), e13, e14⟩ d_By_append_55
        · skip
          rw [nI_leI (by omega) (by omega)] at c4
          exact c_retv hQQ X Y hr hlk ⟨rfl, (fun _ _ _ => rfl), n, g, (by omega), hg, (by omega), eb, er⟩ d_By_append_30
set_option maxHeartbeats 4000000 in
set_option maxRecDepth 100000 in
theorem c_By_close (l : Launch) (D : va_G) (E : cE) (L : List Nat) (f : pF) (sz : Nat) (a1 : Int32) (b r N n : Nat) (g : Nat → Int32) (hb : b ∈ L) (eb : f b = .inr (3, [.ref r, .int (nI n)])) (hr0 : r ∈ L) (er : f r = .inl (E.1, N, .inl g)) (hn : n ≤ N) (hN : N < 100000) (hg : fB g) : Met l y_By_close (k_By_close :: lw_tg) (mR 1 60) (va_Pc [.ref b, .int a1] (cPre D E L f sz)) (va_Qv (fun (u : cU) => u.1 = L ∧ (∀ x, x ≠ b → x ≠ r → u.2 x = f x) ∧ ∃ (n2 : Nat) (g2 : Nat → Int32), n2 ≤ N ∧ fB g2 ∧ n ≤ n2 ∧ n2 ≤ n + 2 ∧ u.2 b = .inr (3, [.ref r, .int (nI n2)]) ∧ u.2 r = .inl (E.1, N, .inl g2)) (cPost D E (pA L sz)) (pA L sz)) 0 0 (pA L sz) := by
  refine c_enter (own := R_By) (by decide) rfl (Nat.le_of_ble_eq_true rfl) ⟨rfl, rfl⟩ (fun p e s m below meth c ls AV QQ H locs hQQ X Y hA hin hr hlk hml hl => ?_)
  have hl : lv_has ls 4 [(0, .ref b), (1, .int a1)] := hl
  refine lv_aload_n X.1 X.2.1 d_By_close_0 rfl (lv_at hl 0 rfl) ?_
  refine q_get X.1 X.2.1 X.2.2.1 i_By X.2.2.2.1 X.2.2.2.2 Y hb eb rfl 1 (by decide) (X.2.2.1 _ lk_By_21) (fun _ h9 => h9) rfl d_By_close_1 ?_
  refine lv_iload_n X.1 X.2.1 d_By_close_4 rfl (lv_at hl 1 rfl) ?_
  refine lv_isub X.1 X.2.1 d_By_close_5 ?_
  refine lv_istore_n (lv' := [(2, .int (nI n - a1)), (0, .ref b), (1, .int a1)]) X.1 X.2.1 d_By_close_6 rfl hl (by decide) rfl (fun ls hl => ?_)
  refine lv_iload_n X.1 X.2.1 d_By_close_7 rfl (lv_at hl 0 rfl) ?_
  refine lv_sipush (v := (nI 128)) X.1 X.2.1 d_By_close_8 (by decide) ?_
  refine lv_icmp_ge (tgt := 18) X.1 X.2.1 d_By_close_11 (by decide) (fun c1 => ?_) (fun c1 => ?_)
  · skip
    refine lv_iload_n X.1 X.2.1 d_By_close_18 rfl (lv_at hl 0 rfl) ?_
    refine lv_sipush (v := (nI 256)) X.1 X.2.1 d_By_close_19 (by decide) ?_
    refine lv_icmp_ge (tgt := 29) X.1 X.2.1 d_By_close_22 (by decide) (fun c2 => ?_) (fun c2 => ?_)
    · skip
      refine lv_iconst (v := (nI 2)) X.1 X.2.1 d_By_close_29 (by decide) ?_
      refine lv_istore_n (lv' := [(3, .int (nI 2)), (2, .int (nI n - a1)), (0, .ref b), (1, .int a1)]) X.1 X.2.1 d_By_close_30 rfl hl (by decide) rfl (fun ls hl => ?_)
      refine lv_iload_n X.1 X.2.1 d_By_close_31 rfl (lv_at hl 3 rfl) ?_
      refine lv_iconst (v := (nI 1)) X.1 X.2.1 d_By_close_32 (by decide) ?_
      refine lv_icmp_lt (tgt := 54) X.1 X.2.1 d_By_close_33 (by decide) (fun c3 => ?_) (fun c3 => ?_)
      · skip
        exact c_retv hQQ X Y hr hlk ⟨rfl, (fun _ _ _ => rfl), n, g, (by omega), hg, (by omega), (by omega), eb, er⟩ d_By_close_54
      · skip
        refine lv_iload_n X.1 X.2.1 d_By_close_36 rfl (lv_at hl 1 rfl) ?_
        refine lv_if_lt (tgt := 54) X.1 X.2.1 d_By_close_37 (by decide) (fun c4 => ?_) (fun c4 => ?_)
        · skip
          exact c_retv hQQ X Y hr hlk ⟨rfl, (fun _ _ _ => rfl), n, g, (by omega), hg, (by omega), (by omega), eb, er⟩ d_By_close_54
        · skip
          obtain ⟨k1, hk1, ek1⟩ := nI_of (show ¬ a1 < 0 from fun h9 => c3 (Int32.lt_of_lt_of_le h9 (by decide)))
          have hk1p : 1 ≤ k1 := by rw [ek1, nI_ltI (by omega) (by omega)] at c3; omega
          have hk1n : k1 ≤ n := by have h9 := le_sub (M := n) (k2 := k1) (k3 := 0) (by omega) hk1 (by omega) (by rw [← ek1]; exact c4); omega
          have ek2 : nI n - a1 = nI (n - k1) := by rw [ek1]; exact pk_sub hk1n
          refine lv_iload_n X.1 X.2.1 d_By_close_40 rfl (lv_at hl 0 rfl) ?_
          refine lv_aload_n X.1 X.2.1 d_By_close_41 rfl (lv_at hl 2 rfl) ?_
          refine q_get X.1 X.2.1 X.2.2.1 i_By X.2.2.2.1 X.2.2.2.2 Y hb eb rfl 0 (by decide) (X.2.2.1 _ lk_By_15) (fun _ h9 => h9) rfl d_By_close_42 ?_
          refine q_alen X.1 X.2.1 X.2.2.2.2 Y 0 hr0 er rfl (v := nI (N)) rfl d_By_close_45 ?_
          refine lv_aload_n X.1 X.2.1 d_By_close_46 rfl (lv_at hl 2 rfl) ?_
          refine q_get X.1 X.2.1 X.2.2.1 i_By X.2.2.2.1 X.2.2.2.2 Y hb eb rfl 1 (by decide) (X.2.2.1 _ lk_By_21) (fun _ h9 => h9) rfl d_By_close_47 ?_
          refine lv_isub X.1 X.2.1 d_By_close_50 ?_
          refine t_eq (y := nI (N - (n))) (pk_sub (by omega)) ?_
          refine lv_icmp_le (tgt := 55) X.1 X.2.1 d_By_close_51 (by decide) (fun c5 => ?_) (fun c5 => ?_)
          · skip
            rw [nI_leI (by omega) (by omega)] at c5
            refine lv_iload_n X.1 X.2.1 d_By_close_55 rfl (lv_at hl 0 rfl) ?_
            refine lv_if_ne (tgt := 70) X.1 X.2.1 d_By_close_56 (by decide) (fun c6 => ?_) (fun c6 => absurd c6 ?_)
            rotate_left
            · (rw [← nI_0, nI_eq (by omega) (by omega)] <;> omega)
            rw [← nI_0] at c6
            rw [nI_eq (by omega) (by omega)] at c6
            refine lv_aload_n X.1 X.2.1 d_By_close_70 rfl (lv_at hl 2 rfl) ?_
            refine q_get X.1 X.2.1 X.2.2.1 i_By X.2.2.2.1 X.2.2.2.2 Y hb eb rfl 0 (by decide) (X.2.2.1 _ lk_By_15) (fun _ h9 => h9) rfl d_By_close_71 ?_
            refine lv_iload_n X.1 X.2.1 d_By_close_74 rfl (lv_at hl 3 rfl) ?_
            refine t_eq ek1 ?_
            refine lv_aload_n X.1 X.2.1 d_By_close_75 rfl (lv_at hl 2 rfl) ?_
            refine q_get X.1 X.2.1 X.2.2.1 i_By X.2.2.2.1 X.2.2.2.2 Y hb eb rfl 0 (by decide) (X.2.2.1 _ lk_By_15) (fun _ h9 => h9) rfl d_By_close_76 ?_
            refine lv_iload_n X.1 X.2.1 d_By_close_79 rfl (lv_at hl 3 rfl) ?_
            refine t_eq ek1 ?_
            refine lv_iload_n X.1 X.2.1 d_By_close_80 rfl (lv_at hl 0 rfl) ?_
            refine lv_iadd X.1 X.2.1 d_By_close_81 ?_
            refine t_eq (y := nI (k1 + 2)) (nI_add _ _) ?_
            refine lv_iload_n X.1 X.2.1 d_By_close_82 rfl (lv_at hl 1 rfl) ?_
            refine t_eq ek2 ?_
            refine q_copy X.1 X.2.1 (hml.trans hl.1.symm) X.2.2.2.1 (X.2.2.1 _ kl_By_copy) (X.2.2.1 _ kn_copy) (X.2.2.1 _ ks_copy) (X.2.2.1 _ ini_Sys) X.2.2.2.2 Y 0 hr0 er hr0 er rfl rfl (show k1 + (n - k1) ≤ N by omega) (show k1 + 2 + (n - k1) ≤ N by omega) (by omega) (by omega) hg (Nat.le_of_ble_eq_true rfl) (Nat.le_of_ble_eq_true rfl) d_By_close_83 (fun H locs Y => ?_)
            have hg8 : fB (va_cpy g g (k1) (k1 + 2) ((n - k1))) := fB_cpy hg hg
            generalize (va_cpy g g (k1) (k1 + 2) ((n - k1))) = g7 at Y hg8
            have e10 : (va_up f r (.inl (E.1, N, .inl g7))) r = .inl (E.1, N, .inl g7) := q_up
            have e11 : (va_up f r (.inl (E.1, N, .inl g7))) b = .inr (3, [.ref r, .int (nI n)]) := (q_ne (q_tag eb er (show (3 : Nat) ≠ 1000 by decide))).trans eb
            have hF12 : ∀ x, x ≠ b → x ≠ r → (va_up f r (.inl (E.1, N, .inl g7))) x = f x := fun x h0 h1 => (q_ne h1).trans rfl
            have Y : pH D cCl (pA L sz) s.heap L (va_up f r (.inl (E.1, N, .inl g7))) H locs := Y
            generalize (va_up f r (.inl (E.1, N, .inl g7))) = f9 at Y e10 e11 hF12
            refine lv_aload_n X.1 X.2.1 d_By_close_86 rfl (lv_at hl 2 rfl) ?_
            refine q_get X.1 X.2.1 X.2.2.1 i_By X.2.2.2.1 X.2.2.2.2 Y hb e11 rfl 0 (by decide) (X.2.2.1 _ lk_By_15) (fun _ h9 => h9) rfl d_By_close_87 ?_
            refine lv_iload_n X.1 X.2.1 d_By_close_90 rfl (lv_at hl 3 rfl) ?_
            refine t_eq ek1 ?_
            refine lv_iconst (v := (nI 1)) X.1 X.2.1 d_By_close_91 (by decide) ?_
            refine lv_isub X.1 X.2.1 d_By_close_92 ?_
            refine t_eq (y := nI (k1 - (1))) (pk_sub (by omega)) ?_
            refine lv_sipush (v := (nI 128)) X.1 X.2.1 d_By_close_93 (by decide) ?_
            refine lv_iload_n X.1 X.2.1 d_By_close_96 rfl (lv_at hl 0 rfl) ?_
            refine lv_iadd X.1 X.2.1 d_By_close_97 ?_
            refine t_eq (y := nI 130) (by decide) ?_
            obtain ⟨v13, ev13⟩ : ∃ z : Int32, ((nI 130) : Int32).toInt8.toInt32 = z := ⟨_, rfl⟩
            refine lv_i2b (v := v13) X.1 X.2.1 d_By_close_98 ev13 ?_
            refine q_bast X.1 X.2.1 X.2.2.2.2 Y 0 hr0 e10 rfl (vp_in_nI (by omega) (by omega)) d_By_close_99 (fun H locs Y => ?_)
            have hg15 : fB (upd g7 ((nI (k1 - (1)))).toNatClampNeg (vp_nar .byte v13)) := fB_upd hg8
            generalize (upd g7 ((nI (k1 - (1)))).toNatClampNeg (vp_nar .byte v13)) = g14 at Y hg15
            have e17 : (va_up f9 r (.inl (E.1, N, .inl g14))) r = .inl (E.1, N, .inl g14) := q_up
            have e18 : (va_up f9 r (.inl (E.1, N, .inl g14))) b = .inr (3, [.ref r, .int (nI n)]) := (q_ne (q_tag e11 e10 (show (3 : Nat) ≠ 1000 by decide))).trans e11
            have hF19 : ∀ x, x ≠ b → x ≠ r → (va_up f9 r (.inl (E.1, N, .inl g14))) x = f x := fun x h0 h1 => (q_ne h1).trans (hF12 x h0 h1)
            have Y : pH D cCl (pA L sz) s.heap L (va_up f9 r (.inl (E.1, N, .inl g14))) H locs := Y
            generalize (va_up f9 r (.inl (E.1, N, .inl g14))) = f16 at Y e17 e18 hF19
            refine lv_iload_n X.1 X.2.1 d_By_close_100 rfl (lv_at hl 0 rfl) ?_
            refine lv_iconst (v := (nI 2)) X.1 X.2.1 d_By_close_101 (by decide) ?_
            refine lv_icmp_ne (tgt := 116) X.1 X.2.1 d_By_close_102 (by decide) (fun c20 => absurd c20 ?_) (fun c20 => ?_)
            · (rw [nI_eq (by omega) (by omega)] <;> omega)
            rw [nI_eq (by omega) (by omega)] at c20
            refine lv_aload_n X.1 X.2.1 d_By_close_105 rfl (lv_at hl 2 rfl) ?_
            refine q_get X.1 X.2.1 X.2.2.1 i_By X.2.2.2.1 X.2.2.2.2 Y hb e18 rfl 0 (by decide) (X.2.2.1 _ lk_By_15) (fun _ h9 => h9) rfl d_By_close_106 ?_
            refine lv_iload_n X.1 X.2.1 d_By_close_109 rfl (lv_at hl 3 rfl) ?_
            refine t_eq ek1 ?_
            refine lv_iload_n X.1 X.2.1 d_By_close_110 rfl (lv_at hl 1 rfl) ?_
            refine t_eq ek2 ?_
            refine lv_bipush (v := (nI 8)) X.1 X.2.1 d_By_close_111 (by decide) ?_
            refine lv_ishr X.1 X.2.1 d_By_close_113 ?_
            refine t_any (fun v21 => ?_)
            obtain ⟨v22, ev22⟩ : ∃ z : Int32, (v21 : Int32).toInt8.toInt32 = z := ⟨_, rfl⟩
            refine lv_i2b (v := v22) X.1 X.2.1 d_By_close_114 ev22 ?_
            refine q_bast X.1 X.2.1 X.2.2.2.2 Y 0 hr0 e17 rfl (vp_in_nI (by omega) (by omega)) d_By_close_115 (fun H locs Y => ?_)
            have hg24 : fB (upd g14 ((nI k1)).toNatClampNeg (vp_nar .byte v22)) := fB_upd hg15
            generalize (upd g14 ((nI k1)).toNatClampNeg (vp_nar .byte v22)) = g23 at Y hg24
            have e26 : (va_up f16 r (.inl (E.1, N, .inl g23))) r = .inl (E.1, N, .inl g23) := q_up
            have e27 : (va_up f16 r (.inl (E.1, N, .inl g23))) b = .inr (3, [.ref r, .int (nI n)]) := (q_ne (q_tag e18 e17 (show (3 : Nat) ≠ 1000 by decide))).trans e18
            have hF28 : ∀ x, x ≠ b → x ≠ r → (va_up f16 r (.inl (E.1, N, .inl g23))) x = f x := fun x h0 h1 => (q_ne h1).trans (hF19 x h0 h1)
            have Y : pH D cCl (pA L sz) s.heap L (va_up f16 r (.inl (E.1, N, .inl g23))) H locs := Y
            generalize (va_up f16 r (.inl (E.1, N, .inl g23))) = f25 at Y e26 e27 hF28
            refine lv_aload_n X.1 X.2.1 d_By_close_116 rfl (lv_at hl 2 rfl) ?_
            refine q_get X.1 X.2.1 X.2.2.1 i_By X.2.2.2.1 X.2.2.2.2 Y hb e27 rfl 0 (by decide) (X.2.2.1 _ lk_By_15) (fun _ h9 => h9) rfl d_By_close_117 ?_
            refine lv_iload_n X.1 X.2.1 d_By_close_120 rfl (lv_at hl 3 rfl) ?_
            refine t_eq ek1 ?_
            refine lv_iload_n X.1 X.2.1 d_By_close_121 rfl (lv_at hl 0 rfl) ?_
            refine lv_iadd X.1 X.2.1 d_By_close_122 ?_
            refine t_eq (y := nI (k1 + 2)) (nI_add _ _) ?_
            refine lv_iconst (v := (nI 1)) X.1 X.2.1 d_By_close_123 (by decide) ?_
            refine lv_isub X.1 X.2.1 d_By_close_124 ?_
            refine t_eq (y := nI (k1 + 2 - (1))) (pk_sub (by omega)) ?_
            refine lv_iload_n X.1 X.2.1 d_By_close_125 rfl (lv_at hl 1 rfl) ?_
            refine t_eq ek2 ?_
            obtain ⟨v29, ev29⟩ : ∃ z : Int32, ((nI (n - k1)) : Int32).toInt8.toInt32 = z := ⟨_, rfl⟩
            refine lv_i2b (v := v29) X.1 X.2.1 d_By_close_126 ev29 ?_
            refine q_bast X.1 X.2.1 X.2.2.2.2 Y 0 hr0 e26 rfl (vp_in_nI (by omega) (by omega)) d_By_close_127 (fun H locs Y => ?_)
            have hg31 : fB (upd g23 ((nI (k1 + 2 - (1)))).toNatClampNeg (vp_nar .byte v29)) := fB_upd hg24
            generalize (upd g23 ((nI (k1 + 2 - (1)))).toNatClampNeg (vp_nar .byte v29)) = g30 at Y hg31
            have e33 : (va_up f25 r (.inl (E.1, N, .inl g30))) r = .inl (E.1, N, .inl g30) := q_up
            have e34 : (va_up f25 r (.inl (E.1, N, .inl g30))) b = .inr (3, [.ref r, .int (nI n)]) := (q_ne (q_tag e27 e26 (show (3 : Nat) ≠ 1000 by decide))).trans e27
            have hF35 : ∀ x, x ≠ b → x ≠ r → (va_up f25 r (.inl (E.1, N, .inl g30))) x = f x := fun x h0 h1 => (q_ne h1).trans (hF28 x h0 h1)
            have Y : pH D cCl (pA L sz) s.heap L (va_up f25 r (.inl (E.1, N, .inl g30))) H locs := Y
            generalize (va_up f25 r (.inl (E.1, N, .inl g30))) = f32 at Y e33 e34 hF35
            refine lv_aload_n X.1 X.2.1 d_By_close_128 rfl (lv_at hl 2 rfl) ?_
            refine lv_dup X.1 X.2.1 d_By_close_129 rfl ?_
            refine q_get X.1 X.2.1 X.2.2.1 i_By X.2.2.2.1 X.2.2.2.2 Y hb e34 rfl 1 (by decide) (X.2.2.1 _ lk_By_21) (fun _ h9 => h9) rfl d_By_close_130 ?_
            refine lv_iload_n X.1 X.2.1 d_By_close_133 rfl (lv_at hl 0 rfl) ?_
            refine lv_iadd X.1 X.2.1 d_By_close_134 ?_
            refine t_eq (y := nI (n + 2)) (nI_add _ _) ?_
            refine q_put X.1 X.2.1 X.2.2.1 i_By t_By t_By_ok n_By X.2.2.2.1 X.2.2.2.2 Y hb e34 rfl 1 (by decide) (X.2.2.1 _ lk_By_21) (fun _ h9 => h9) rfl (t_By_ok 1 (by decide)) rfl rfl (Nat.le_of_ble_eq_true rfl) d_By_close_135 (fun H locs Y => ?_)
            have e37 : (va_up f32 b (.inr (3, [.ref r, .int (nI (n + 2))]))) b = .inr (3, [.ref r, .int (nI (n + 2))]) := q_up
            have e38 : (va_up f32 b (.inr (3, [.ref r, .int (nI (n + 2))]))) r = .inl (E.1, N, .inl g30) := (q_ne (q_tag e33 e34 (show (1000 : Nat) ≠ 3 by decide))).trans e33
            have hF39 : ∀ x, x ≠ b → x ≠ r → (va_up f32 b (.inr (3, [.ref r, .int (nI (n + 2))]))) x = f x := fun x h0 h1 => (q_ne h0).trans (hF35 x h0 h1)
            have Y : pH D cCl (pA L sz) s.heap L (va_up f32 b (.inr (3, [.ref r, .int (nI (n + 2))]))) H locs := Y
            generalize (va_up f32 b (.inr (3, [.ref r, .int (nI (n + 2))]))) = f36 at Y e37 e38 hF39
            exact c_retv hQQ X Y hr hlk ⟨rfl, hF39, n + 2, g30, (by omega), hg31, (by omega), (by omega), e37, e38⟩ d_By_close_138
          · skip
            rw [nI_leI (by omega) (by omega)] at c5
            exact c_retv hQQ X Y hr hlk ⟨rfl, (fun _ _ _ => rfl), n, g, (by omega), hg, (by omega), (by omega), eb, er⟩ d_By_close_54
    · skip
      refine lv_iconst (v := (nI 1)) X.1 X.2.1 d_By_close_25 (by decide) ?_
      refine lv_goto (tgt := 30) X.1 X.2.1 d_By_close_26 (by decide) ?_
      refine lv_istore_n (lv' := [(3, .int (nI 1)), (2, .int (nI n - a1)), (0, .ref b), (1, .int a1)]) X.1 X.2.1 d_By_close_30 rfl hl (by decide) rfl (fun ls hl => ?_)
      refine lv_iload_n X.1 X.2.1 d_By_close_31 rfl (lv_at hl 3 rfl) ?_
      refine lv_iconst (v := (nI 1)) X.1 X.2.1 d_By_close_32 (by decide) ?_
      refine lv_icmp_lt (tgt := 54) X.1 X.2.1 d_By_close_33 (by decide) (fun c40 => ?_) (fun c40 => ?_)
      · skip
        exact c_retv hQQ X Y hr hlk ⟨rfl, (fun _ _ _ => rfl), n, g, (by omega), hg, (by omega), (by omega), eb, er⟩ d_By_close_54
      · skip
        refine lv_iload_n X.1 X.2.1 d_By_close_36 rfl (lv_at hl 1 rfl) ?_
        refine lv_if_lt (tgt := 54) X.1 X.2.1 d_By_close_37 (by decide) (fun c41 => ?_) (fun c41 => ?_)
        · skip
          exact c_retv hQQ X Y hr hlk ⟨rfl, (fun _ _ _ => rfl), n, g, (by omega), hg, (by omega), (by omega), eb, er⟩ d_By_close_54
        · skip
          obtain ⟨k1, hk1, ek1⟩ := nI_of (show ¬ a1 < 0 from fun h9 => c40 (Int32.lt_of_lt_of_le h9 (by decide)))
          have hk1p : 1 ≤ k1 := by rw [ek1, nI_ltI (by omega) (by omega)] at c40; omega
          have hk1n : k1 ≤ n := by have h9 := le_sub (M := n) (k2 := k1) (k3 := 0) (by omega) hk1 (by omega) (by rw [← ek1]; exact c41); omega
          have ek2 : nI n - a1 = nI (n - k1) := by rw [ek1]; exact pk_sub hk1n
          refine lv_iload_n X.1 X.2.1 d_By_close_40 rfl (lv_at hl 0 rfl) ?_
          refine lv_aload_n X.1 X.2.1 d_By_close_41 rfl (lv_at hl 2 rfl) ?_
          refine q_get X.1 X.2.1 X.2.2.1 i_By X.2.2.2.1 X.2.2.2.2 Y hb eb rfl 0 (by decide) (X.2.2.1 _ lk_By_15) (fun _ h9 => h9) rfl d_By_close_42 ?_
          refine q_alen X.1 X.2.1 X.2.2.2.2 Y 0 hr0 er rfl (v := nI (N)) rfl d_By_close_45 ?_
          refine lv_aload_n X.1 X.2.1 d_By_close_46 rfl (lv_at hl 2 rfl) ?_
          refine q_get X.1 X.2.1 X.2.2.1 i_By X.2.2.2.1 X.2.2.2.2 Y hb eb rfl 1 (by decide) (X.2.2.1 _ lk_By_21) (fun _ h9 => h9) rfl d_By_close_47 ?_
          refine lv_isub X.1 X.2.1 d_By_close_50 ?_
          refine t_eq (y := nI (N - (n))) (pk_sub (by omega)) ?_
          refine lv_icmp_le (tgt := 55) X.1 X.2.1 d_By_close_51 (by decide) (fun c42 => ?_) (fun c42 => ?_)
          · skip
            rw [nI_leI (by omega) (by omega)] at c42
            refine lv_iload_n X.1 X.2.1 d_By_close_55 rfl (lv_at hl 0 rfl) ?_
            refine lv_if_ne (tgt := 70) X.1 X.2.1 d_By_close_56 (by decide) (fun c43 => ?_) (fun c43 => absurd c43 ?_)
            rotate_left
            · (rw [← nI_0, nI_eq (by omega) (by omega)] <;> omega)
            rw [← nI_0] at c43
            rw [nI_eq (by omega) (by omega)] at c43
            refine lv_aload_n X.1 X.2.1 d_By_close_70 rfl (lv_at hl 2 rfl) ?_
            refine q_get X.1 X.2.1 X.2.2.1 i_By X.2.2.2.1 X.2.2.2.2 Y hb eb rfl 0 (by decide) (X.2.2.1 _ lk_By_15) (fun _ h9 => h9) rfl d_By_close_71 ?_
            refine lv_iload_n X.1 X.2.1 d_By_close_74 rfl (lv_at hl 3 rfl) ?_
            refine t_eq ek1 ?_
            refine lv_aload_n X.1 X.2.1 d_By_close_75 rfl (lv_at hl 2 rfl) ?_
            refine q_get X.1 X.2.1 X.2.2.1 i_By X.2.2.2.1 X.2.2.2.2 Y hb eb rfl 0 (by decide) (X.2.2.1 _ lk_By_15) (fun _ h9 => h9) rfl d_By_close_76 ?_
            refine lv_iload_n X.1 X.2.1 d_By_close_79 rfl (lv_at hl 3 rfl) ?_
            refine t_eq ek1 ?_
            refine lv_iload_n X.1 X.2.1 d_By_close_80 rfl (lv_at hl 0 rfl) ?_
            refine lv_iadd X.1 X.2.1 d_By_close_81 ?_
            refine t_eq (y := nI (k1 + 1)) (nI_add _ _) ?_
            refine lv_iload_n X.1 X.2.1 d_By_close_82 rfl (lv_at hl 1 rfl) ?_
            refine t_eq ek2 ?_
            refine q_copy X.1 X.2.1 (hml.trans hl.1.symm) X.2.2.2.1 (X.2.2.1 _ kl_By_copy) (X.2.2.1 _ kn_copy) (X.2.2.1 _ ks_copy) (X.2.2.1 _ ini_Sys) X.2.2.2.2 Y 0 hr0 er hr0 er rfl rfl (show k1 + (n - k1) ≤ N by omega) (show k1 + 1 + (n - k1) ≤ N by omega) (by omega) (by omega) hg (Nat.le_of_ble_eq_true rfl) (Nat.le_of_ble_eq_true rfl) d_By_close_83 (fun H locs Y => ?_)
            have hg45 : fB (va_cpy g g (k1) (k1 + 1) ((n - k1))) := fB_cpy hg hg
            generalize (va_cpy g g (k1) (k1 + 1) ((n - k1))) = g44 at Y hg45
            have e47 : (va_up f r (.inl (E.1, N, .inl g44))) r = .inl (E.1, N, .inl g44) := q_up
            have e48 : (va_up f r (.inl (E.1, N, .inl g44))) b = .inr (3, [.ref r, .int (nI n)]) := (q_ne (q_tag eb er (show (3 : Nat) ≠ 1000 by decide))).trans eb
            have hF49 : ∀ x, x ≠ b → x ≠ r → (va_up f r (.inl (E.1, N, .inl g44))) x = f x := fun x h0 h1 => (q_ne h1).trans rfl
            have Y : pH D cCl (pA L sz) s.heap L (va_up f r (.inl (E.1, N, .inl g44))) H locs := Y
            generalize (va_up f r (.inl (E.1, N, .inl g44))) = f46 at Y e47 e48 hF49
            refine lv_aload_n X.1 X.2.1 d_By_close_86 rfl (lv_at hl 2 rfl) ?_
            refine q_get X.1 X.2.1 X.2.2.1 i_By X.2.2.2.1 X.2.2.2.2 Y hb e48 rfl 0 (by decide) (X.2.2.1 _ lk_By_15) (fun _ h9 => h9) rfl d_By_close_87 ?_
            refine lv_iload_n X.1 X.2.1 d_By_close_90 rfl (lv_at hl 3 rfl) ?_
            refine t_eq ek1 ?_
            refine lv_iconst (v := (nI 1)) X.1 X.2.1 d_By_close_91 (by decide) ?_
            refine lv_isub X.1 X.2.1 d_By_close_92 ?_
            refine t_eq (y := nI (k1 - (1))) (pk_sub (by omega)) ?_
            refine lv_sipush (v := (nI 128)) X.1 X.2.1 d_By_close_93 (by decide) ?_
            refine lv_iload_n X.1 X.2.1 d_By_close_96 rfl (lv_at hl 0 rfl) ?_
            refine lv_iadd X.1 X.2.1 d_By_close_97 ?_
            refine t_eq (y := nI 129) (by decide) ?_
            obtain ⟨v50, ev50⟩ : ∃ z : Int32, ((nI 129) : Int32).toInt8.toInt32 = z := ⟨_, rfl⟩
            refine lv_i2b (v := v50) X.1 X.2.1 d_By_close_98 ev50 ?_
            refine q_bast X.1 X.2.1 X.2.2.2.2 Y 0 hr0 e47 rfl (vp_in_nI (by omega) (by omega)) d_By_close_99 (fun H locs Y => ?_)
            have hg52 : fB (upd g44 ((nI (k1 - (1)))).toNatClampNeg (vp_nar .byte v50)) := fB_upd hg45
            generalize (upd g44 ((nI (k1 - (1)))).toNatClampNeg (vp_nar .byte v50)) = g51 at Y hg52
            have e54 : (va_up f46 r (.inl (E.1, N, .inl g51))) r = .inl (E.1, N, .inl g51) := q_up
            have e55 : (va_up f46 r (.inl (E.1, N, .inl g51))) b = .inr (3, [.ref r, .int (nI n)]) := (q_ne (q_tag e48 e47 (show (3 : Nat) ≠ 1000 by decide))).trans e48
            have hF56 : ∀ x, x ≠ b → x ≠ r → (va_up f46 r (.inl (E.1, N, .inl g51))) x = f x := fun x h0 h1 => (q_ne h1).trans (hF49 x h0 h1)
            have Y : pH D cCl (pA L sz) s.heap L (va_up f46 r (.inl (E.1, N, .inl g51))) H locs := Y
            generalize (va_up f46 r (.inl (E.1, N, .inl g51))) = f53 at Y e54 e55 hF56
            refine lv_iload_n X.1 X.2.1 d_By_close_100 rfl (lv_at hl 0 rfl) ?_
            refine lv_iconst (v := (nI 2)) X.1 X.2.1 d_By_close_101 (by decide) ?_
            refine lv_icmp_ne (tgt := 116) X.1 X.2.1 d_By_close_102 (by decide) (fun c57 => ?_) (fun c57 => absurd c57 ?_)
            rotate_left
            · (rw [nI_eq (by omega) (by omega)] <;> omega)
            rw [nI_eq (by omega) (by omega)] at c57
            refine lv_aload_n X.1 X.2.1 d_By_close_116 rfl (lv_at hl 2 rfl) ?_
            refine q_get X.1 X.2.1 X.2.2.1 i_By X.2.2.2.1 X.2.2.2.2 Y hb e55 rfl 0 (by decide) (X.2.2.1 _ lk_By_15) (fun _ h9 => h9) rfl d_By_close_117 ?_
            refine lv_iload_n X.1 X.2.1 d_By_close_120 rfl (lv_at hl 3 rfl) ?_
            refine t_eq ek1 ?_
            refine lv_iload_n X.1 X.2.1 d_By_close_121 rfl (lv_at hl 0 rfl) ?_
            refine lv_iadd X.1 X.2.1 d_By_close_122 ?_
            refine t_eq (y := nI (k1 + 1)) (nI_add _ _) ?_
            refine lv_iconst (v := (nI 1)) X.1 X.2.1 d_By_close_123 (by decide) ?_
            refine lv_isub X.1 X.2.1 d_By_close_124 ?_
            refine t_eq (y := nI (k1 + 1 - (1))) (pk_sub (by omega)) ?_
            refine lv_iload_n X.1 X.2.1 d_By_close_125 rfl (lv_at hl 1 rfl) ?_
            refine t_eq ek2 ?_
            obtain ⟨v58, ev58⟩ : ∃ z : Int32, ((nI (n - k1)) : Int32).toInt8.toInt32 = z := ⟨_, rfl⟩
            refine lv_i2b (v := v58) X.1 X.2.1 d_By_close_126 ev58 ?_
            refine q_bast X.1 X.2.1 X.2.2.2.2 Y 0 hr0 e54 rfl (vp_in_nI (by omega) (by omega)) d_By_close_127 (fun H locs Y => ?_)
            have hg60 : fB (upd g51 ((nI (k1 + 1 - (1)))).toNatClampNeg (vp_nar .byte v58)) := fB_upd hg52
            generalize (upd g51 ((nI (k1 + 1 - (1)))).toNatClampNeg (vp_nar .byte v58)) = g59 at Y hg60
            have e62 : (va_up f53 r (.inl (E.1, N, .inl g59))) r = .inl (E.1, N, .inl g59) := q_up
            have e63 : (va_up f53 r (.inl (E.1, N, .inl g59))) b = .inr (3, [.ref r, .int (nI n)]) := (q_ne (q_tag e55 e54 (show (3 : Nat) ≠ 1000 by decide))).trans e55
            have hF64 : ∀ x, x ≠ b → x ≠ r → (va_up f53 r (.inl (E.1, N, .inl g59))) x = f x := fun x h0 h1 => (q_ne h1).trans (hF56 x h0 h1)
            have Y : pH D cCl (pA L sz) s.heap L (va_up f53 r (.inl (E.1, N, .inl g59))) H locs := Y
            generalize (va_up f53 r (.inl (E.1, N, .inl g59))) = f61 at Y e62 e63 hF64
            refine lv_aload_n X.1 X.2.1 d_By_close_128 rfl (lv_at hl 2 rfl) ?_
            refine lv_dup X.1 X.2.1 d_By_close_129 rfl ?_
            refine q_get X.1 X.2.1 X.2.2.1 i_By X.2.2.2.1 X.2.2.2.2 Y hb e63 rfl 1 (by decide) (X.2.2.1 _ lk_By_21) (fun _ h9 => h9) rfl d_By_close_130 ?_
            refine lv_iload_n X.1 X.2.1 d_By_close_133 rfl (lv_at hl 0 rfl) ?_
            refine lv_iadd X.1 X.2.1 d_By_close_134 ?_
            refine t_eq (y := nI (n + 1)) (nI_add _ _) ?_
            refine q_put X.1 X.2.1 X.2.2.1 i_By t_By t_By_ok n_By X.2.2.2.1 X.2.2.2.2 Y hb e63 rfl 1 (by decide) (X.2.2.1 _ lk_By_21) (fun _ h9 => h9) rfl (t_By_ok 1 (by decide)) rfl rfl (Nat.le_of_ble_eq_true rfl) d_By_close_135 (fun H locs Y => ?_)
            have e66 : (va_up f61 b (.inr (3, [.ref r, .int (nI (n + 1))]))) b = .inr (3, [.ref r, .int (nI (n + 1))]) := q_up
            have e67 : (va_up f61 b (.inr (3, [.ref r, .int (nI (n + 1))]))) r = .inl (E.1, N, .inl g59) := (q_ne (q_tag e62 e63 (show (1000 : Nat) ≠ 3 by decide))).trans e62
            have hF68 : ∀ x, x ≠ b → x ≠ r → (va_up f61 b (.inr (3, [.ref r, .int (nI (n + 1))]))) x = f x := fun x h0 h1 => (q_ne h0).trans (hF64 x h0 h1)
            have Y : pH D cCl (pA L sz) s.heap L (va_up f61 b (.inr (3, [.ref r, .int (nI (n + 1))]))) H locs := Y
            generalize (va_up f61 b (.inr (3, [.ref r, .int (nI (n + 1))]))) = f65 at Y e66 e67 hF68
            exact c_retv hQQ X Y hr hlk ⟨rfl, hF68, n + 1, g59, (by omega), hg60, (by omega), (by omega), e66, e67⟩ d_By_close_138
          · skip
            rw [nI_leI (by omega) (by omega)] at c42
            exact c_retv hQQ X Y hr hlk ⟨rfl, (fun _ _ _ => rfl), n, g, (by omega), hg, (by omega), (by omega), eb, er⟩ d_By_close_54
  · skip
    refine lv_iconst (v := (nI 0)) X.1 X.2.1 d_By_close_14 (by decide) ?_
    refine lv_goto (tgt := 30) X.1 X.2.1 d_By_close_15 (by decide) ?_
    refine lv_istore_n (lv' := [(3, .int (nI 0)), (2, .int (nI n - a1)), (0, .ref b), (1, .int a1)]) X.1 X.2.1 d_By_close_30 rfl hl (by decide) rfl (fun ls hl => ?_)
    refine lv_iload_n X.1 X.2.1 d_By_close_31 rfl (lv_at hl 3 rfl) ?_
    refine lv_iconst (v := (nI 1)) X.1 X.2.1 d_By_close_32 (by decide) ?_
    refine lv_icmp_lt (tgt := 54) X.1 X.2.1 d_By_close_33 (by decide) (fun c69 => ?_) (fun c69 => ?_)
    · skip
      exact c_retv hQQ X Y hr hlk ⟨rfl, (fun _ _ _ => rfl), n, g, (by omega), hg, (by omega), (by omega), eb, er⟩ d_By_close_54
    · skip
      refine lv_iload_n X.1 X.2.1 d_By_close_36 rfl (lv_at hl 1 rfl) ?_
      refine lv_if_lt (tgt := 54) X.1 X.2.1 d_By_close_37 (by decide) (fun c70 => ?_) (fun c70 => ?_)
      · skip
        exact c_retv hQQ X Y hr hlk ⟨rfl, (fun _ _ _ => rfl), n, g, (by omega), hg, (by omega), (by omega), eb, er⟩ d_By_close_54
      · skip
        obtain ⟨k1, hk1, ek1⟩ := nI_of (show ¬ a1 < 0 from fun h9 => c69 (Int32.lt_of_lt_of_le h9 (by decide)))
        have hk1p : 1 ≤ k1 := by rw [ek1, nI_ltI (by omega) (by omega)] at c69; omega
        have hk1n : k1 ≤ n := by have h9 := le_sub (M := n) (k2 := k1) (k3 := 0) (by omega) hk1 (by omega) (by rw [← ek1]; exact c70); omega
        have ek2 : nI n - a1 = nI (n - k1) := by rw [ek1]; exact pk_sub hk1n
        refine lv_iload_n X.1 X.2.1 d_By_close_40 rfl (lv_at hl 0 rfl) ?_
        refine lv_aload_n X.1 X.2.1 d_By_close_41 rfl (lv_at hl 2 rfl) ?_
        refine q_get X.1 X.2.1 X.2.2.1 i_By X.2.2.2.1 X.2.2.2.2 Y hb eb rfl 0 (by decide) (X.2.2.1 _ lk_By_15) (fun _ h9 => h9) rfl d_By_close_42 ?_
        refine q_alen X.1 X.2.1 X.2.2.2.2 Y 0 hr0 er rfl (v := nI (N)) rfl d_By_close_45 ?_
        refine lv_aload_n X.1 X.2.1 d_By_close_46 rfl (lv_at hl 2 rfl) ?_
        refine q_get X.1 X.2.1 X.2.2.1 i_By X.2.2.2.1 X.2.2.2.2 Y hb eb rfl 1 (by decide) (X.2.2.1 _ lk_By_21) (fun _ h9 => h9) rfl d_By_close_47 ?_
        refine lv_isub X.1 X.2.1 d_By_close_50 ?_
        refine t_eq (y := nI (N - (n))) (pk_sub (by omega)) ?_
        refine lv_icmp_le (tgt := 55) X.1 X.2.1 d_By_close_51 (by decide) (fun c71 => ?_) (fun c71 => ?_)
        · skip
          rw [nI_leI (by omega) (by omega)] at c71
          refine lv_iload_n X.1 X.2.1 d_By_close_55 rfl (lv_at hl 0 rfl) ?_
          refine lv_if_ne (tgt := 70) X.1 X.2.1 d_By_close_56 (by decide) (fun c72 => absurd c72 ?_) (fun c72 => ?_)
          · (rw [← nI_0, nI_eq (by omega) (by omega)] <;> omega)
          rw [← nI_0] at c72
          rw [nI_eq (by omega) (by omega)] at c72
          refine lv_aload_n X.1 X.2.1 d_By_close_59 rfl (lv_at hl 2 rfl) ?_
          refine q_get X.1 X.2.1 X.2.2.1 i_By X.2.2.2.1 X.2.2.2.2 Y hb eb rfl 0 (by decide) (X.2.2.1 _ lk_By_15) (fun _ h9 => h9) rfl d_By_close_60 ?_
          refine lv_iload_n X.1 X.2.1 d_By_close_63 rfl (lv_at hl 3 rfl) ?_
          refine t_eq ek1 ?_
          refine lv_iconst (v := (nI 1)) X.1 X.2.1 d_By_close_64 (by decide) ?_
          refine lv_isub X.1 X.2.1 d_By_close_65 ?_
          refine t_eq (y := nI (k1 - (1))) (pk_sub (by omega)) ?_
          refine lv_iload_n X.1 X.2.1 d_By_close_66 rfl (lv_at hl 1 rfl) ?_
          refine t_eq ek2 ?_
          obtain ⟨v73, ev73⟩ : ∃ z : Int32, ((nI (n - k1)) : Int32).toInt8.toInt32 = z := ⟨_, rfl⟩
          refine lv_i2b (v := v73) X.1 X.2.1 d_By_close_67 ev73 ?_
          refine q_bast X.1 X.2.1 X.2.2.2.2 Y 0 hr0 er rfl (vp_in_nI (by omega) (by omega)) d_By_close_68 (fun H locs Y => ?_)
          have hg75 : fB (upd g ((nI (k1 - (1)))).toNatClampNeg (vp_nar .byte v73)) := fB_upd hg
          generalize (upd g ((nI (k1 - (1)))).toNatClampNeg (vp_nar .byte v73)) = g74 at Y hg75
          have e77 : (va_up f r (.inl (E.1, N, .inl g74))) r = .inl (E.1, N, .inl g74) := q_up
          have e78 : (va_up f r (.inl (E.1, N, .inl g74))) b = .inr (3, [.ref r, .int (nI n)]) := (q_ne (q_tag eb er (show (3 : Nat) ≠ 1000 by decide))).trans eb
          have hF79 : ∀ x, x ≠ b → x ≠ r → (va_up f r (.inl (E.1, N, .inl g74))) x = f x := fun x h0 h1 => (q_ne h1).trans rfl
          have Y : pH D cCl (pA L sz) s.heap L (va_up f r (.inl (E.1, N, .inl g74))) H locs := Y
          generalize (va_up f r (.inl (E.1, N, .inl g74))) = f76 at Y e77 e78 hF79
          exact c_retv hQQ X Y hr hlk ⟨rfl, hF79, n, g74, (by omega), hg75, (by omega), (by omega), e78, e77⟩ d_By_close_69
        · skip
          rw [nI_leI (by omega) (by omega)] at c71
          exact c_retv hQQ X Y hr hlk ⟨rfl, (fun _ _ _ => rfl), n, g, (by omega), hg, (by omega), (by omega), eb, er⟩ d_By_close_54
set_option maxHeartbeats 4000000 in
set_option maxRecDepth 100000 in
theorem c_By_putValue (l : Launch) (D : va_G) (E : cE) (L : List Nat) (f : pF) (sz : Nat) (a1 a3 a4 : Int32) (b r N n : Nat) (g : Nat → Int32) (hb : b ∈ L) (eb : f b = .inr (3, [.ref r, .int (nI n)])) (hr0 : r ∈ L) (er : f r = .inl (E.1, N, .inl g)) (hn : n ≤ N) (hN : N < 100000) (hg : fB g) (c0 M : Nat) (gc : Nat → Int32) (hc0 : c0 ∈ L) (ec : f c0 = .inl (E.1, M, .inl gc)) (hgc : fB gc) (hM : M < 100000) (hcr : c0 ≠ r) : Met l y_By_putValue (k_By_putValue :: lw_tg) (mR 2 83) (va_Pc [.ref b, .int a1, .ref c0, .int a3, .int a4] (cPre D E L f sz)) (va_Qv (fun (u : cU) => u.1 = L ∧ (∀ x, x ≠ b → x ≠ r → u.2 x = f x) ∧ ∃ (n2 : Nat) (g2 : Nat → Int32), n2 ≤ N ∧ fB g2 ∧ n ≤ n2 ∧ u.2 b = .inr (3, [.ref r, .int (nI n2)]) ∧ u.2 r = .inl (E.1, N, .inl g2)) (cPost D E (pA L sz)) (pA L sz)) 0 0 (pA L sz) := by
  refine c_enter (own := R_By) (by decide) rfl (Nat.le_of_ble_eq_true rfl) ⟨rfl, rfl⟩ (fun p e s m below meth c ls AV QQ H locs hQQ X Y hA hin hr hlk hml hl => ?_)
  have hl : lv_has ls 6 [(0, .ref b), (1, .int a1), (2, .ref c0), (3, .int a3), (4, .int a4)] := hl
  refine lv_aload_n X.1 X.2.1 d_By_putValue_0 rfl (lv_at hl 0 rfl) ?_
  refine lv_iload_n X.1 X.2.1 d_By_putValue_1 rfl (lv_at hl 1 rfl) ?_
  refine c_calli (As := [.int a1]) (rest := []) (n := 1) X Y hA hml hl.1 (c_By_open l D E L f H.size a1 b r (N) (n) g hb eb hr0 er (by omega) (by omega) hg) hb eb rfl kl_By_By_open ks_By_open kx_By_open ki_By_open ini_By ⟨rfl, rfl⟩ hd_By_open ⟨by decide, by decide⟩ rfl (Nat.le_of_ble_eq_true rfl) d_By_putValue_2 ⟨Nat.le_refl _, Nat.le_refl _⟩ (fun r6 u H locs hp Y => ?_)
  obtain ⟨L2, f1⟩ := u
  obtain ⟨eL13, hF3, n4, g5, h7, h8, h9, h10, e11, e12, pr14⟩ := hp
  dsimp only at eL13 hF3 e11 e12 Y pr14
  rw [eL13] at Y
  have e15 : f1 c0 = .inl (E.1, M, .inl gc) := (hF3 c0 (q_tag ec eb (show (1000 : Nat) ≠ 3 by decide)) hcr).trans ec
  have hF16 : ∀ x, x ≠ b → x ≠ r → f1 x = f x := fun x h0 h1 => (hF3 x h0 h1).trans rfl
  refine lv_istore (lv' := [(5, .int r6), (0, .ref b), (1, .int a1), (2, .ref c0), (3, .int a3), (4, .int a4)]) X.1 X.2.1 d_By_putValue_5 hl (by decide) rfl (fun ls hl => ?_)
  refine lv_aload_n X.1 X.2.1 d_By_putValue_7 rfl (lv_at hl 1 rfl) ?_
  refine lv_aload_n X.1 X.2.1 d_By_putValue_8 rfl (lv_at hl 3 rfl) ?_
  refine lv_iload_n X.1 X.2.1 d_By_putValue_9 rfl (lv_at hl 4 rfl) ?_
  refine lv_iload X.1 X.2.1 d_By_putValue_10 (lv_at hl 5 rfl) ?_
  refine c_callv (As := [.ref c0, .int a3, .int a4]) (rest := []) (n := 3) X Y hA hml hl.1 (c_By_append l D E L f1 H.size a3 a4 b r (N) (n4) g5 hb e11 hr0 e12 (by omega) (by omega) h8 c0 (M) gc hc0 e15 hgc (by omega) hcr) hb e11 rfl kl_By_By_append ks_By_append kx_By_append ki_By_append ini_By ⟨rfl, rfl⟩ hd_By_append ⟨by decide, by decide⟩ rfl (Nat.le_of_ble_eq_true rfl) d_By_putValue_12 ⟨Nat.le_refl _, Nat.le_refl _⟩ (fun u H locs hp Y => ?_)
  obtain ⟨L18, f17⟩ := u
  obtain ⟨eL28, hF19, n20, g21, h23, h24, h25, e26, e27⟩ := hp
  dsimp only at eL28 hF19 e26 e27 Y
  rw [eL28] at Y
  have e30 : f17 c0 = .inl (E.1, M, .inl gc) := (hF19 c0 (q_tag e15 e11 (show (1000 : Nat) ≠ 3 by decide)) hcr).trans e15
  have hF31 : ∀ x, x ≠ b → x ≠ r → f17 x = f x := fun x h0 h1 => (hF19 x h0 h1).trans (hF16 x h0 h1)
  refine lv_aload_n X.1 X.2.1 d_By_putValue_15 rfl (lv_at hl 1 rfl) ?_
  refine lv_iload X.1 X.2.1 d_By_putValue_16 (lv_at hl 0 rfl) ?_
  refine c_callv (As := [.int r6]) (rest := []) (n := 1) X Y hA hml hl.1 (c_By_close l D E L f17 H.size r6 b r (N) (n20) g21 hb e26 hr0 e27 (by omega) (by omega) h24) hb e26 rfl kl_By_By_close ks_By_close kx_By_close ki_By_close ini_By ⟨rfl, rfl⟩ hd_By_close ⟨by decide, by decide⟩ rfl (Nat.le_of_ble_eq_true rfl) d_By_putValue_18 ⟨Nat.le_refl _, Nat.le_refl _⟩ (fun u H locs hp Y => ?_)
  obtain ⟨L33, f32⟩ := u
  obtain ⟨eL44, hF34, n35, g36, h38, h39, h40, h41, e42, e43⟩ := hp
  dsimp only at eL44 hF34 e42 e43 Y
  rw [eL44] at Y
  have e46 : f32 c0 = .inl (E.1, M, .inl gc) := (hF34 c0 (q_tag e30 e26 (show (1000 : Nat) ≠ 3 by decide)) hcr).trans e30
  have hF47 : ∀ x, x ≠ b → x ≠ r → f32 x = f x := fun x h0 h1 => (hF34 x h0 h1).trans (hF31 x h0 h1)
  exact c_retv hQQ X Y hr hlk ⟨rfl, hF47, n35, g36, (by omega), h39, (by omega), e42, e43⟩ d_By_putValue_21
