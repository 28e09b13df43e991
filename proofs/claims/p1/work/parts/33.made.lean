/-! Families of cells of which little is kept: the principals beside the first, the agents, the sessions. -/
def wP (ci ti lo hi P0 : Nat) (f : pF) (L : List Nat) (g : Nat → Option Nat) : Prop := ∀ j, lo ≤ j → j < hi → ∃ (a : Nat) (vs : List Value), g j = some a ∧ a ∈ L ∧ a ≠ P0 ∧ f a = .inr (ci, vs) ∧ vs[ti]? = some (.int (nI 0))
theorem q_tn {f : pF} {x b ci : Nat} {y : va_E} (ht : q_t (f x) = ci) (eb : f b = y) (h : q_t y ≠ ci) : x ≠ b := fun e => h (by rw [← eb, ← e]; exact ht)
theorem wP_keep {ci ti lo hi P0 : Nat} {f f2 : pF} {L L2 : List Nat} {g : Nat → Option Nat} (h : wP ci ti lo hi P0 f L g) (hL : ∀ x, x ∈ L → x ∈ L2) (hf : ∀ x, x ∈ L → x ≠ P0 → q_t (f x) = ci → f2 x = f x) : wP ci ti lo hi P0 f2 L2 g := by
  intro j h1 h2
  obtain ⟨a, vs, e1, e2, e3, e4, e5⟩ := h j h1 h2
  exact ⟨a, vs, e1, hL a e2, e3, (hf a e2 e3 (by rw [e4]; rfl)).trans e4, e5⟩
theorem wP_push {ci ti lo i P0 q : Nat} {f : pF} {L : List Nat} {g : Nat → Option Nat} {vs : List Value} (h : wP ci ti lo i P0 f L g) (hq : q ∈ L) (hne : q ≠ P0) (ef : f q = .inr (ci, vs)) (hv : vs[ti]? = some (.int (nI 0))) : wP ci ti lo (i + 1) P0 f L (va_up g i (some q)) := by
  intro j h1 h2
  by_cases hj : j = i
  · subst hj
    exact ⟨q, vs, va_up_self _ _ _, hq, hne, ef, hv⟩
  · obtain ⟨a, ws, e1, e2, e3, e4, e5⟩ := h j h1 (by omega)
    exact ⟨a, ws, (va_up_ne _ _ hj).trans e1, e2, e3, e4, e5⟩
section TRF
variable {p : Program} {l : Launch} {e : Env} {R : Room} {s : State} {m : MethodId} {args : Array Value} {below : List Frame} {meth : Method} {c : Code} {H : Heap} {locs : List Loc} {cells slots : Nat} {Q : State → Prop} {cc : ByteArray} {pc : Nat} {ls : Array Slot} {rest : List Value} {D : va_G} {E : cE} {T : cT} {own : String}
theorem t_rf {o : Option Nat} {a : Nat} (h : o = some a) (kk : W p l e R s m args below meth c H locs cells slots Q (F0 m pc ls (.ref a :: rest))) : W p l e R s m args below meth c H locs cells slots Q (F0 m pc ls (va_rf o :: rest)) := by
  rw [h]
  exact kk
theorem k_ldcSW {i : Nat} (X : cX own p c cc args s m D E) (KR : kR T s) (hi : i < nY) {ix : Nat} (hix : (yG i).1 = own ∧ (yG i).2.1 = ix) (hdg : decode cc pc = .ok (.ldc_w ix, 3)) (k : W p l e R s m args below meth c H locs cells slots Q (F0 m (pc + 3) ls (.ref (T.2.1 i) :: rest))) : W p l e R s m args below meth c H locs cells slots Q (F0 m pc ls rest) := by
  intro T' hT XX
  obtain ⟨t, a1, b1⟩ := k T' hT XX
  have hz := KR.1 i hi
  rw [hix.1, hix.2] at hz
  exact ⟨t, XX.ldcStringW X.1 X.2.2.2.1 (text := (yG i).2.2) (a := T.2.1 i) hz.1 hz.2 (g := F0 m pc ls rest) rfl (by rw [X.2.1]; exact hdg) t a1, b1⟩
end TRF
abbrev b_Se_init : ByteArray := prog_9_method_1_code
def y_Se_init : MethodName := ⟨R_Se, "<init>", "()V"⟩
abbrev k_Se_init : Cond := .code y_Se_init b_Se_init 1 none
theorem ki_Se_init : k_Se_init ∈ lw_tg := in_t 223 (by decide +kernel)
theorem ks_Se_init : Cond.instanceMethod y_Se_init ∈ lw_tg := in_t 222 (by decide +kernel)
theorem hd_Se_init : y_Se_init.cls = R_Se ∧ y_Se_init.cls ≠ "java/lang/invoke/MethodHandle" ∧ y_Se_init.cls ≠ "java/lang/invoke/VarHandle" ∧ (parseMethodDescriptor y_Se_init.desc).map (fun d => d.parameters.length) = some 0 := by decide +kernel
theorem d_Se_init_0 : decode b_Se_init 0 = .ok (.aload_n 0, 1) := by decide +kernel
theorem d_Se_init_1 : decode b_Se_init 1 = .ok (.invokespecial 3, 3) := by decide +kernel
theorem d_Se_init_4 : decode b_Se_init 4 = .ok (.aload_n 0, 1) := by decide +kernel
theorem d_Se_init_5 : decode b_Se_init 5 = .ok (.sipush 1280, 3) := by decide +kernel
theorem d_Se_init_8 : decode b_Se_init 8 = .ok (.newarray .byte, 2) := by decide +kernel
theorem d_Se_init_10 : decode b_Se_init 10 = .ok (.putfield 9, 3) := by decide +kernel
theorem lk_Se_9 : Cond.fieldLink R_Se 9 R_Se (F_Se 0).2.1 (F_Se 0).2.2.1 ∈ lw_tg := in_t 225 (by decide +kernel)
theorem d_Se_init_13 : decode b_Se_init 13 = .ok (.aload_n 0, 1) := by decide +kernel
theorem d_Se_init_14 : decode b_Se_init 14 = .ok (.bipush 32, 2) := by decide +kernel
theorem d_Se_init_16 : decode b_Se_init 16 = .ok (.newarray .int, 2) := by decide +kernel
theorem d_Se_init_18 : decode b_Se_init 18 = .ok (.putfield 15, 3) := by decide +kernel
theorem lk_Se_15 : Cond.fieldLink R_Se 15 R_Se (F_Se 1).2.1 (F_Se 1).2.2.1 ∈ lw_tg := in_t 226 (by decide +kernel)
theorem d_Se_init_21 : decode b_Se_init 21 = .ok (.aload_n 0, 1) := by decide +kernel
theorem d_Se_init_22 : decode b_Se_init 22 = .ok (.bipush 32, 2) := by decide +kernel
theorem d_Se_init_24 : decode b_Se_init 24 = .ok (.newarray .int, 2) := by decide +kernel
theorem d_Se_init_26 : decode b_Se_init 26 = .ok (.putfield 19, 3) := by decide +kernel
theorem lk_Se_19 : Cond.fieldLink R_Se 19 R_Se (F_Se 2).2.1 (F_Se 2).2.2.1 ∈ lw_tg := in_t 227 (by decide +kernel)
theorem d_Se_init_29 : decode b_Se_init 29 = .ok (.aload_n 0, 1) := by decide +kernel
theorem d_Se_init_30 : decode b_Se_init 30 = .ok (.bipush 32, 2) := by decide +kernel
theorem d_Se_init_32 : decode b_Se_init 32 = .ok (.newarray .int, 2) := by decide +kernel
theorem d_Se_init_34 : decode b_Se_init 34 = .ok (.putfield 22, 3) := by decide +kernel
theorem lk_Se_22 : Cond.fieldLink R_Se 22 R_Se (F_Se 3).2.1 (F_Se 3).2.2.1 ∈ lw_tg := in_t 228 (by decide +kernel)
theorem d_Se_init_37 : decode b_Se_init 37 = .ok (.return_, 1) := by decide +kernel
theorem ol_Se : Cond.methodLink R_Se 3 Lib.objectInit ∈ lw_tg := in_t 224 (by decide +kernel)
abbrev b_Pr_init : ByteArray := prog_8_method_1_code
def y_Pr_init : MethodName := ⟨R_Pr, "<init>", "()V"⟩
abbrev k_Pr_init : Cond := .code y_Pr_init b_Pr_init 1 none
theorem ki_Pr_init : k_Pr_init ∈ lw_tg := in_t 215 (by decide +kernel)
theorem ks_Pr_init : Cond.instanceMethod y_Pr_init ∈ lw_tg := in_t 214 (by decide +kernel)
theorem hd_Pr_init : y_Pr_init.cls = R_Pr ∧ y_Pr_init.cls ≠ "java/lang/invoke/MethodHandle" ∧ y_Pr_init.cls ≠ "java/lang/invoke/VarHandle" ∧ (parseMethodDescriptor y_Pr_init.desc).map (fun d => d.parameters.length) = some 0 := by decide +kernel
theorem d_Pr_init_0 : decode b_Pr_init 0 = .ok (.aload_n 0, 1) := by decide +kernel
theorem d_Pr_init_1 : decode b_Pr_init 1 = .ok (.invokespecial 3, 3) := by decide +kernel
theorem d_Pr_init_4 : decode b_Pr_init 4 = .ok (.aload_n 0, 1) := by decide +kernel
theorem d_Pr_init_5 : decode b_Pr_init 5 = .ok (.new 9, 3) := by decide +kernel
theorem d_Pr_init_8 : decode b_Pr_init 8 = .ok (.dup, 1) := by decide +kernel
theorem d_Pr_init_9 : decode b_Pr_init 9 = .ok (.bipush 40, 2) := by decide +kernel
theorem d_Pr_init_11 : decode b_Pr_init 11 = .ok (.invokespecial 11, 3) := by decide +kernel
theorem d_Pr_init_14 : decode b_Pr_init 14 = .ok (.putfield 14, 3) := by decide +kernel
theorem lk_Pr_14 : Cond.fieldLink R_Pr 14 R_Pr (F_Pr 0).2.1 (F_Pr 0).2.2.1 ∈ lw_tg := in_t 244 (by decide +kernel)
theorem d_Pr_init_17 : decode b_Pr_init 17 = .ok (.aload_n 0, 1) := by decide +kernel
theorem d_Pr_init_18 : decode b_Pr_init 18 = .ok (.new 20, 3) := by decide +kernel
theorem d_Pr_init_21 : decode b_Pr_init 21 = .ok (.dup, 1) := by decide +kernel
theorem d_Pr_init_22 : decode b_Pr_init 22 = .ok (.invokespecial 22, 3) := by decide +kernel
theorem d_Pr_init_25 : decode b_Pr_init 25 = .ok (.putfield 23, 3) := by decide +kernel
theorem lk_Pr_23 : Cond.fieldLink R_Pr 23 R_Pr (F_Pr 1).2.1 (F_Pr 1).2.2.1 ∈ lw_tg := in_t 248 (by decide +kernel)
theorem d_Pr_init_28 : decode b_Pr_init 28 = .ok (.aload_n 0, 1) := by decide +kernel
theorem d_Pr_init_29 : decode b_Pr_init 29 = .ok (.getstatic 27, 3) := by decide +kernel
theorem d_Pr_init_32 : decode b_Pr_init 32 = .ok (.putfield 31, 3) := by decide +kernel
theorem lk_Pr_31 : Cond.fieldLink R_Pr 31 R_Pr (F_Pr 5).2.1 (F_Pr 5).2.2.1 ∈ lw_tg := in_t 258 (by decide +kernel)
theorem d_Pr_init_35 : decode b_Pr_init 35 = .ok (.aload_n 0, 1) := by decide +kernel
theorem d_Pr_init_36 : decode b_Pr_init 36 = .ok (.getstatic 27, 3) := by decide +kernel
theorem d_Pr_init_39 : decode b_Pr_init 39 = .ok (.putfield 34, 3) := by decide +kernel
theorem lk_Pr_34 : Cond.fieldLink R_Pr 34 R_Pr (F_Pr 6).2.1 (F_Pr 6).2.2.1 ∈ lw_tg := in_t 259 (by decide +kernel)
theorem d_Pr_init_42 : decode b_Pr_init 42 = .ok (.aload_n 0, 1) := by decide +kernel
theorem d_Pr_init_43 : decode b_Pr_init 43 = .ok (.getstatic 27, 3) := by decide +kernel
theorem d_Pr_init_46 : decode b_Pr_init 46 = .ok (.putfield 37, 3) := by decide +kernel
theorem lk_Pr_37 : Cond.fieldLink R_Pr 37 R_Pr (F_Pr 7).2.1 (F_Pr 7).2.2.1 ∈ lw_tg := in_t 260 (by decide +kernel)
theorem d_Pr_init_49 : decode b_Pr_init 49 = .ok (.aload_n 0, 1) := by decide +kernel
theorem d_Pr_init_50 : decode b_Pr_init 50 = .ok (.getstatic 27, 3) := by decide +kernel
theorem d_Pr_init_53 : decode b_Pr_init 53 = .ok (.putfield 40, 3) := by decide +kernel
theorem lk_Pr_40 : Cond.fieldLink R_Pr 40 R_Pr (F_Pr 8).2.1 (F_Pr 8).2.2.1 ∈ lw_tg := in_t 261 (by decide +kernel)
theorem d_Pr_init_56 : decode b_Pr_init 56 = .ok (.aload_n 0, 1) := by decide +kernel
theorem d_Pr_init_57 : decode b_Pr_init 57 = .ok (.ldc 43, 2) := by decide +kernel
theorem cn_Pr_43 : Cond.constant R_Pr 43 (36000) ∈ lw_tg := in_t 242 (by decide +kernel)
theorem d_Pr_init_59 : decode b_Pr_init 59 = .ok (.putfield 44, 3) := by decide +kernel
theorem lk_Pr_44 : Cond.fieldLink R_Pr 44 R_Pr (F_Pr 9).2.1 (F_Pr 9).2.2.1 ∈ lw_tg := in_t 262 (by decide +kernel)
theorem d_Pr_init_62 : decode b_Pr_init 62 = .ok (.aload_n 0, 1) := by decide +kernel
theorem d_Pr_init_63 : decode b_Pr_init 63 = .ok (.ldc 48, 2) := by decide +kernel
theorem cn_Pr_48 : Cond.constant R_Pr 48 (72000) ∈ lw_tg := in_t 243 (by decide +kernel)
theorem d_Pr_init_65 : decode b_Pr_init 65 = .ok (.putfield 49, 3) := by decide +kernel
theorem lk_Pr_49 : Cond.fieldLink R_Pr 49 R_Pr (F_Pr 10).2.1 (F_Pr 10).2.2.1 ∈ lw_tg := in_t 264 (by decide +kernel)
theorem d_Pr_init_68 : decode b_Pr_init 68 = .ok (.aload_n 0, 1) := by decide +kernel
theorem d_Pr_init_69 : decode b_Pr_init 69 = .ok (.bipush 15, 2) := by decide +kernel
theorem d_Pr_init_71 : decode b_Pr_init 71 = .ok (.putfield 52, 3) := by decide +kernel
theorem lk_Pr_52 : Cond.fieldLink R_Pr 52 R_Pr (F_Pr 11).2.1 (F_Pr 11).2.2.1 ∈ lw_tg := in_t 266 (by decide +kernel)
theorem d_Pr_init_74 : decode b_Pr_init 74 = .ok (.return_, 1) := by decide +kernel
abbrev b_Pr_begin : ByteArray := prog_8_method_4_code
def y_Pr_begin : MethodName := ⟨R_Pr, "begin", "(LRealmHouse$Bytes;)V"⟩
abbrev k_Pr_begin : Cond := .code y_Pr_begin b_Pr_begin 2 none
theorem ki_Pr_begin : k_Pr_begin ∈ lw_tg := in_t 552 (by decide +kernel)
theorem ks_Pr_begin : Cond.instanceMethod y_Pr_begin ∈ lw_tg := in_t 550 (by decide +kernel)
theorem kx_Pr_begin : Cond.selects R_Pr y_Pr_begin y_Pr_begin ∈ lw_tg := in_t 551 (by decide +kernel)
theorem kl_H_Pr_begin : Cond.methodLink R_H 65 y_Pr_begin ∈ lw_tg := in_t 549 (by decide +kernel)
theorem hd_Pr_begin : y_Pr_begin.cls = R_Pr ∧ y_Pr_begin.cls ≠ "java/lang/invoke/MethodHandle" ∧ y_Pr_begin.cls ≠ "java/lang/invoke/VarHandle" ∧ (parseMethodDescriptor y_Pr_begin.desc).map (fun d => d.parameters.length) = some 1 := by decide +kernel
theorem d_Pr_begin_0 : decode b_Pr_begin 0 = .ok (.aload_n 0, 1) := by decide +kernel
theorem d_Pr_begin_1 : decode b_Pr_begin 1 = .ok (.getfield 14, 3) := by decide +kernel
theorem d_Pr_begin_4 : decode b_Pr_begin 4 = .ok (.aload_n 1, 1) := by decide +kernel
theorem d_Pr_begin_5 : decode b_Pr_begin 5 = .ok (.invokevirtual 70, 3) := by decide +kernel
theorem d_Pr_begin_8 : decode b_Pr_begin 8 = .ok (.aload_n 0, 1) := by decide +kernel
theorem d_Pr_begin_9 : decode b_Pr_begin 9 = .ok (.iconst 1, 1) := by decide +kernel
theorem d_Pr_begin_10 : decode b_Pr_begin 10 = .ok (.putfield 55, 3) := by decide +kernel
theorem lk_Pr_55 : Cond.fieldLink R_Pr 55 R_Pr (F_Pr 2).2.1 (F_Pr 2).2.2.1 ∈ lw_tg := in_t 250 (by decide +kernel)
theorem d_Pr_begin_13 : decode b_Pr_begin 13 = .ok (.return_, 1) := by decide +kernel
abbrev b_Pr_rekey : ByteArray := prog_8_method_5_code
def y_Pr_rekey : MethodName := ⟨R_Pr, "rekey", "(LRealmHouse$Vault;LRealmHouse$Bytes;II)V"⟩
abbrev k_Pr_rekey : Cond := .code y_Pr_rekey b_Pr_rekey 5 none
theorem ki_Pr_rekey : k_Pr_rekey ∈ lw_tg := in_t 564 (by decide +kernel)
theorem ks_Pr_rekey : Cond.instanceMethod y_Pr_rekey ∈ lw_tg := in_t 562 (by decide +kernel)
theorem kx_Pr_rekey : Cond.selects R_Pr y_Pr_rekey y_Pr_rekey ∈ lw_tg := in_t 563 (by decide +kernel)
theorem kl_H_Pr_rekey : Cond.methodLink R_H 68 y_Pr_rekey ∈ lw_tg := in_t 561 (by decide +kernel)
theorem hd_Pr_rekey : y_Pr_rekey.cls = R_Pr ∧ y_Pr_rekey.cls ≠ "java/lang/invoke/MethodHandle" ∧ y_Pr_rekey.cls ≠ "java/lang/invoke/VarHandle" ∧ (parseMethodDescriptor y_Pr_rekey.desc).map (fun d => d.parameters.length) = some 4 := by decide +kernel
theorem d_Pr_rekey_0 : decode b_Pr_rekey 0 = .ok (.aload_n 0, 1) := by decide +kernel
theorem d_Pr_rekey_1 : decode b_Pr_rekey 1 = .ok (.aload_n 0, 1) := by decide +kernel
theorem d_Pr_rekey_2 : decode b_Pr_rekey 2 = .ok (.getfield 31, 3) := by decide +kernel
theorem d_Pr_rekey_5 : decode b_Pr_rekey 5 = .ok (.putfield 37, 3) := by decide +kernel
theorem d_Pr_rekey_8 : decode b_Pr_rekey 8 = .ok (.aload_n 0, 1) := by decide +kernel
theorem d_Pr_rekey_9 : decode b_Pr_rekey 9 = .ok (.aload_n 0, 1) := by decide +kernel
theorem d_Pr_rekey_10 : decode b_Pr_rekey 10 = .ok (.getfield 34, 3) := by decide +kernel
theorem d_Pr_rekey_13 : decode b_Pr_rekey 13 = .ok (.putfield 40, 3) := by decide +kernel
theorem d_Pr_rekey_16 : decode b_Pr_rekey 16 = .ok (.aload_n 0, 1) := by decide +kernel
theorem d_Pr_rekey_17 : decode b_Pr_rekey 17 = .ok (.aload_n 1, 1) := by decide +kernel
theorem d_Pr_rekey_18 : decode b_Pr_rekey 18 = .ok (.bipush 18, 2) := by decide +kernel
theorem d_Pr_rekey_20 : decode b_Pr_rekey 20 = .ok (.aload_n 0, 1) := by decide +kernel
theorem d_Pr_rekey_21 : decode b_Pr_rekey 21 = .ok (.getfield 14, 3) := by decide +kernel
theorem d_Pr_rekey_24 : decode b_Pr_rekey 24 = .ok (.aload_n 2, 1) := by decide +kernel
theorem d_Pr_rekey_25 : decode b_Pr_rekey 25 = .ok (.iload_n 3, 1) := by decide +kernel
theorem d_Pr_rekey_26 : decode b_Pr_rekey 26 = .ok (.iload 4, 2) := by decide +kernel
theorem d_Pr_rekey_28 : decode b_Pr_rekey 28 = .ok (.invokevirtual 74, 3) := by decide +kernel
theorem d_Pr_rekey_31 : decode b_Pr_rekey 31 = .ok (.putfield 31, 3) := by decide +kernel
theorem d_Pr_rekey_34 : decode b_Pr_rekey 34 = .ok (.aload_n 0, 1) := by decide +kernel
theorem d_Pr_rekey_35 : decode b_Pr_rekey 35 = .ok (.aload_n 1, 1) := by decide +kernel
theorem d_Pr_rekey_36 : decode b_Pr_rekey 36 = .ok (.bipush 17, 2) := by decide +kernel
theorem d_Pr_rekey_38 : decode b_Pr_rekey 38 = .ok (.aload_n 0, 1) := by decide +kernel
theorem d_Pr_rekey_39 : decode b_Pr_rekey 39 = .ok (.getfield 14, 3) := by decide +kernel
theorem d_Pr_rekey_42 : decode b_Pr_rekey 42 = .ok (.aload_n 2, 1) := by decide +kernel
theorem d_Pr_rekey_43 : decode b_Pr_rekey 43 = .ok (.iload_n 3, 1) := by decide +kernel
theorem d_Pr_rekey_44 : decode b_Pr_rekey 44 = .ok (.iload 4, 2) := by decide +kernel
theorem d_Pr_rekey_46 : decode b_Pr_rekey 46 = .ok (.invokevirtual 74, 3) := by decide +kernel
theorem d_Pr_rekey_49 : decode b_Pr_rekey 49 = .ok (.putfield 34, 3) := by decide +kernel
theorem d_Pr_rekey_52 : decode b_Pr_rekey 52 = .ok (.aload_n 0, 1) := by decide +kernel
theorem d_Pr_rekey_53 : decode b_Pr_rekey 53 = .ok (.iload 4, 2) := by decide +kernel
theorem d_Pr_rekey_55 : decode b_Pr_rekey 55 = .ok (.putfield 80, 3) := by decide +kernel
theorem lk_Pr_80 : Cond.fieldLink R_Pr 80 R_Pr (F_Pr 4).2.1 (F_Pr 4).2.2.1 ∈ lw_tg := in_t 256 (by decide +kernel)
theorem d_Pr_rekey_58 : decode b_Pr_rekey 58 = .ok (.aload_n 0, 1) := by decide +kernel
theorem d_Pr_rekey_59 : decode b_Pr_rekey 59 = .ok (.dup, 1) := by decide +kernel
theorem d_Pr_rekey_60 : decode b_Pr_rekey 60 = .ok (.getfield 83, 3) := by decide +kernel
theorem lk_Pr_83 : Cond.fieldLink R_Pr 83 R_Pr (F_Pr 3).2.1 (F_Pr 3).2.2.1 ∈ lw_tg := in_t 253 (by decide +kernel)
theorem d_Pr_rekey_63 : decode b_Pr_rekey 63 = .ok (.iconst 1, 1) := by decide +kernel
theorem d_Pr_rekey_64 : decode b_Pr_rekey 64 = .ok (.iadd, 1) := by decide +kernel
theorem d_Pr_rekey_65 : decode b_Pr_rekey 65 = .ok (.putfield 83, 3) := by decide +kernel
theorem d_Pr_rekey_68 : decode b_Pr_rekey 68 = .ok (.return_, 1) := by decide +kernel
abbrev b_Pr_rule : ByteArray := prog_8_method_6_code
def y_Pr_rule : MethodName := ⟨R_Pr, "rule", "(II)Z"⟩
abbrev k_Pr_rule : Cond := .code y_Pr_rule b_Pr_rule 3 (some .boolean)
theorem ki_Pr_rule : k_Pr_rule ∈ lw_tg := in_t 825 (by decide +kernel)
theorem ks_Pr_rule : Cond.instanceMethod y_Pr_rule ∈ lw_tg := in_t 823 (by decide +kernel)
theorem kx_Pr_rule : Cond.selects R_Pr y_Pr_rule y_Pr_rule ∈ lw_tg := in_t 824 (by decide +kernel)
theorem kl_H_Pr_rule : Cond.methodLink R_H 141 y_Pr_rule ∈ lw_tg := in_t 822 (by decide +kernel)
theorem hd_Pr_rule : y_Pr_rule.cls = R_Pr ∧ y_Pr_rule.cls ≠ "java/lang/invoke/MethodHandle" ∧ y_Pr_rule.cls ≠ "java/lang/invoke/VarHandle" ∧ (parseMethodDescriptor y_Pr_rule.desc).map (fun d => d.parameters.length) = some 2 := by decide +kernel
theorem d_Pr_rule_0 : decode b_Pr_rule 0 = .ok (.iload_n 1, 1) := by decide +kernel
theorem d_Pr_rule_1 : decode b_Pr_rule 1 = .ok (.ifCond .lt 26, 3) := by decide +kernel
theorem d_Pr_rule_4 : decode b_Pr_rule 4 = .ok (.iload_n 1, 1) := by decide +kernel
theorem d_Pr_rule_5 : decode b_Pr_rule 5 = .ok (.iconst 3, 1) := by decide +kernel
theorem d_Pr_rule_6 : decode b_Pr_rule 6 = .ok (.if_icmp .gt 21, 3) := by decide +kernel
theorem d_Pr_rule_9 : decode b_Pr_rule 9 = .ok (.iload_n 2, 1) := by decide +kernel
theorem d_Pr_rule_10 : decode b_Pr_rule 10 = .ok (.getstatic 86, 3) := by decide +kernel
theorem d_Pr_rule_13 : decode b_Pr_rule 13 = .ok (.iload_n 1, 1) := by decide +kernel
theorem d_Pr_rule_14 : decode b_Pr_rule 14 = .ok (.iaload, 1) := by decide +kernel
theorem d_Pr_rule_15 : decode b_Pr_rule 15 = .ok (.if_icmp .lt 12, 3) := by decide +kernel
theorem d_Pr_rule_18 : decode b_Pr_rule 18 = .ok (.iload_n 2, 1) := by decide +kernel
theorem d_Pr_rule_19 : decode b_Pr_rule 19 = .ok (.getstatic 90, 3) := by decide +kernel
theorem d_Pr_rule_22 : decode b_Pr_rule 22 = .ok (.iload_n 1, 1) := by decide +kernel
theorem d_Pr_rule_23 : decode b_Pr_rule 23 = .ok (.iaload, 1) := by decide +kernel
theorem d_Pr_rule_24 : decode b_Pr_rule 24 = .ok (.if_icmp .le 5, 3) := by decide +kernel
theorem d_Pr_rule_27 : decode b_Pr_rule 27 = .ok (.iconst 0, 1) := by decide +kernel
theorem d_Pr_rule_28 : decode b_Pr_rule 28 = .ok (.ireturn, 1) := by decide +kernel
theorem d_Pr_rule_29 : decode b_Pr_rule 29 = .ok (.iload_n 1, 1) := by decide +kernel
theorem d_Pr_rule_30 : decode b_Pr_rule 30 = .ok (.tableswitch 50 0 2 #[26, 34, 42], 26) := by decide +kernel
theorem d_Pr_rule_56 : decode b_Pr_rule 56 = .ok (.aload_n 0, 1) := by decide +kernel
theorem d_Pr_rule_57 : decode b_Pr_rule 57 = .ok (.iload_n 2, 1) := by decide +kernel
theorem d_Pr_rule_58 : decode b_Pr_rule 58 = .ok (.putfield 44, 3) := by decide +kernel
theorem d_Pr_rule_61 : decode b_Pr_rule 61 = .ok (.goto 24, 3) := by decide +kernel
theorem d_Pr_rule_64 : decode b_Pr_rule 64 = .ok (.aload_n 0, 1) := by decide +kernel
theorem d_Pr_rule_65 : decode b_Pr_rule 65 = .ok (.iload_n 2, 1) := by decide +kernel
theorem d_Pr_rule_66 : decode b_Pr_rule 66 = .ok (.putfield 49, 3) := by decide +kernel
theorem d_Pr_rule_69 : decode b_Pr_rule 69 = .ok (.goto 16, 3) := by decide +kernel
theorem d_Pr_rule_72 : decode b_Pr_rule 72 = .ok (.aload_n 0, 1) := by decide +kernel
theorem d_Pr_rule_73 : decode b_Pr_rule 73 = .ok (.iload_n 2, 1) := by decide +kernel
theorem d_Pr_rule_74 : decode b_Pr_rule 74 = .ok (.putfield 52, 3) := by decide +kernel
theorem d_Pr_rule_77 : decode b_Pr_rule 77 = .ok (.goto 8, 3) := by decide +kernel
theorem d_Pr_rule_80 : decode b_Pr_rule 80 = .ok (.aload_n 0, 1) := by decide +kernel
theorem d_Pr_rule_81 : decode b_Pr_rule 81 = .ok (.iload_n 2, 1) := by decide +kernel
theorem d_Pr_rule_82 : decode b_Pr_rule 82 = .ok (.putfield 93, 3) := by decide +kernel
theorem lk_Pr_93 : Cond.fieldLink R_Pr 93 R_Pr (F_Pr 12).2.1 (F_Pr 12).2.2.1 ∈ lw_tg := in_t 267 (by decide +kernel)
theorem d_Pr_rule_85 : decode b_Pr_rule 85 = .ok (.iconst 1, 1) := by decide +kernel
theorem d_Pr_rule_86 : decode b_Pr_rule 86 = .ok (.ireturn, 1) := by decide +kernel
theorem ol_Pr : Cond.methodLink R_Pr 3 Lib.objectInit ∈ lw_tg := in_t 216 (by decide +kernel)
theorem ck_Pr_9 : Cond.classLink R_Pr 9 R_By ∈ lw_tg := in_t 217 (by decide +kernel)
theorem ck_Pr_20 : Cond.classLink R_Pr 20 R_Se ∈ lw_tg := in_t 219 (by decide +kernel)
theorem sk_Pr_86 : Cond.fieldLink R_Pr 86 (sG 4).1 (sG 4).2.1 (sG 4).2.2.1 ∈ lw_tg := in_t 826 (by decide +kernel)
theorem sk_Pr_90 : Cond.fieldLink R_Pr 90 (sG 5).1 (sG 5).2.1 (sG 5).2.2.1 ∈ lw_tg := in_t 828 (by decide +kernel)
abbrev b_Ti_init : ByteArray := prog_11_method_1_code
def y_Ti_init : MethodName := ⟨R_Ti, "<init>", "()V"⟩
abbrev k_Ti_init : Cond := .code y_Ti_init b_Ti_init 1 none
theorem ki_Ti_init : k_Ti_init ∈ lw_tg := in_t 310 (by decide +kernel)
theorem ks_Ti_init : Cond.instanceMethod y_Ti_init ∈ lw_tg := in_t 309 (by decide +kernel)
theorem hd_Ti_init : y_Ti_init.cls = R_Ti ∧ y_Ti_init.cls ≠ "java/lang/invoke/MethodHandle" ∧ y_Ti_init.cls ≠ "java/lang/invoke/VarHandle" ∧ (parseMethodDescriptor y_Ti_init.desc).map (fun d => d.parameters.length) = some 0 := by decide +kernel
theorem d_Ti_init_0 : decode b_Ti_init 0 = .ok (.aload_n 0, 1) := by decide +kernel
theorem d_Ti_init_1 : decode b_Ti_init 1 = .ok (.invokespecial 3, 3) := by decide +kernel
theorem d_Ti_init_4 : decode b_Ti_init 4 = .ok (.aload_n 0, 1) := by decide +kernel
theorem d_Ti_init_5 : decode b_Ti_init 5 = .ok (.new 9, 3) := by decide +kernel
theorem d_Ti_init_8 : decode b_Ti_init 8 = .ok (.dup, 1) := by decide +kernel
theorem d_Ti_init_9 : decode b_Ti_init 9 = .ok (.iconst 0, 1) := by decide +kernel
theorem d_Ti_init_10 : decode b_Ti_init 10 = .ok (.invokespecial 11, 3) := by decide +kernel
theorem d_Ti_init_13 : decode b_Ti_init 13 = .ok (.putfield 14, 3) := by decide +kernel
theorem lk_Ti_14 : Cond.fieldLink R_Ti 14 R_Ti (F_Ti 0).2.1 (F_Ti 0).2.2.1 ∈ lw_tg := in_t 315 (by decide +kernel)
theorem d_Ti_init_16 : decode b_Ti_init 16 = .ok (.aload_n 0, 1) := by decide +kernel
theorem d_Ti_init_17 : decode b_Ti_init 17 = .ok (.new 9, 3) := by decide +kernel
theorem d_Ti_init_20 : decode b_Ti_init 20 = .ok (.dup, 1) := by decide +kernel
theorem d_Ti_init_21 : decode b_Ti_init 21 = .ok (.bipush 40, 2) := by decide +kernel
theorem d_Ti_init_23 : decode b_Ti_init 23 = .ok (.invokespecial 11, 3) := by decide +kernel
theorem d_Ti_init_26 : decode b_Ti_init 26 = .ok (.putfield 20, 3) := by decide +kernel
theorem lk_Ti_20 : Cond.fieldLink R_Ti 20 R_Ti (F_Ti 1).2.1 (F_Ti 1).2.2.1 ∈ lw_tg := in_t 318 (by decide +kernel)
theorem d_Ti_init_29 : decode b_Ti_init 29 = .ok (.aload_n 0, 1) := by decide +kernel
theorem d_Ti_init_30 : decode b_Ti_init 30 = .ok (.getstatic 23, 3) := by decide +kernel
theorem d_Ti_init_33 : decode b_Ti_init 33 = .ok (.putfield 27, 3) := by decide +kernel
theorem lk_Ti_27 : Cond.fieldLink R_Ti 27 R_Ti (F_Ti 4).2.1 (F_Ti 4).2.2.1 ∈ lw_tg := in_t 325 (by decide +kernel)
theorem d_Ti_init_36 : decode b_Ti_init 36 = .ok (.return_, 1) := by decide +kernel
theorem ol_Ti : Cond.methodLink R_Ti 3 Lib.objectInit ∈ lw_tg := in_t 311 (by decide +kernel)
theorem ck_Ti_9 : Cond.classLink R_Ti 9 R_By ∈ lw_tg := in_t 312 (by decide +kernel)
abbrev b_Ag_init : ByteArray := prog_3_method_1_code
def y_Ag_init : MethodName := ⟨R_Ag, "<init>", "(LRealmHouse$Vault;)V"⟩
abbrev k_Ag_init : Cond := .code y_Ag_init b_Ag_init 3 none
theorem ki_Ag_init : k_Ag_init ∈ lw_tg := in_t 300 (by decide +kernel)
theorem ks_Ag_init : Cond.instanceMethod y_Ag_init ∈ lw_tg := in_t 299 (by decide +kernel)
theorem kl_H_Ag_init : Cond.methodLink R_H 53 y_Ag_init ∈ lw_tg := in_t 298 (by decide +kernel)
theorem hd_Ag_init : y_Ag_init.cls = R_Ag ∧ y_Ag_init.cls ≠ "java/lang/invoke/MethodHandle" ∧ y_Ag_init.cls ≠ "java/lang/invoke/VarHandle" ∧ (parseMethodDescriptor y_Ag_init.desc).map (fun d => d.parameters.length) = some 1 := by decide +kernel
theorem d_Ag_init_0 : decode b_Ag_init 0 = .ok (.aload_n 0, 1) := by decide +kernel
theorem d_Ag_init_1 : decode b_Ag_init 1 = .ok (.invokespecial 3, 3) := by decide +kernel
theorem d_Ag_init_4 : decode b_Ag_init 4 = .ok (.aload_n 0, 1) := by decide +kernel
theorem d_Ag_init_5 : decode b_Ag_init 5 = .ok (.new 9, 3) := by decide +kernel
theorem d_Ag_init_8 : decode b_Ag_init 8 = .ok (.dup, 1) := by decide +kernel
theorem d_Ag_init_9 : decode b_Ag_init 9 = .ok (.bipush 40, 2) := by decide +kernel
theorem d_Ag_init_11 : decode b_Ag_init 11 = .ok (.invokespecial 11, 3) := by decide +kernel
theorem d_Ag_init_14 : decode b_Ag_init 14 = .ok (.putfield 14, 3) := by decide +kernel
theorem lk_Ag_14 : Cond.fieldLink R_Ag 14 R_Ag (F_Ag 4).2.1 (F_Ag 4).2.2.1 ∈ lw_tg := in_t 360 (by decide +kernel)
theorem d_Ag_init_17 : decode b_Ag_init 17 = .ok (.aload_n 0, 1) := by decide +kernel
theorem d_Ag_init_18 : decode b_Ag_init 18 = .ok (.getstatic 20, 3) := by decide +kernel
theorem d_Ag_init_21 : decode b_Ag_init 21 = .ok (.putfield 24, 3) := by decide +kernel
theorem lk_Ag_24 : Cond.fieldLink R_Ag 24 R_Ag (F_Ag 5).2.1 (F_Ag 5).2.2.1 ∈ lw_tg := in_t 361 (by decide +kernel)
theorem d_Ag_init_24 : decode b_Ag_init 24 = .ok (.aload_n 0, 1) := by decide +kernel
theorem d_Ag_init_25 : decode b_Ag_init 25 = .ok (.getstatic 20, 3) := by decide +kernel
theorem d_Ag_init_28 : decode b_Ag_init 28 = .ok (.putfield 27, 3) := by decide +kernel
theorem lk_Ag_27 : Cond.fieldLink R_Ag 27 R_Ag (F_Ag 6).2.1 (F_Ag 6).2.2.1 ∈ lw_tg := in_t 362 (by decide +kernel)
theorem d_Ag_init_31 : decode b_Ag_init 31 = .ok (.aload_n 0, 1) := by decide +kernel
theorem d_Ag_init_32 : decode b_Ag_init 32 = .ok (.new 9, 3) := by decide +kernel
theorem d_Ag_init_35 : decode b_Ag_init 35 = .ok (.dup, 1) := by decide +kernel
theorem d_Ag_init_36 : decode b_Ag_init 36 = .ok (.bipush 40, 2) := by decide +kernel
theorem d_Ag_init_38 : decode b_Ag_init 38 = .ok (.invokespecial 11, 3) := by decide +kernel
theorem d_Ag_init_41 : decode b_Ag_init 41 = .ok (.putfield 30, 3) := by decide +kernel
theorem lk_Ag_30 : Cond.fieldLink R_Ag 30 R_Ag (F_Ag 12).2.1 (F_Ag 12).2.2.1 ∈ lw_tg := in_t 368 (by decide +kernel)
theorem d_Ag_init_44 : decode b_Ag_init 44 = .ok (.aload_n 0, 1) := by decide +kernel
theorem d_Ag_init_45 : decode b_Ag_init 45 = .ok (.new 9, 3) := by decide +kernel
theorem d_Ag_init_48 : decode b_Ag_init 48 = .ok (.dup, 1) := by decide +kernel
theorem d_Ag_init_49 : decode b_Ag_init 49 = .ok (.bipush 40, 2) := by decide +kernel
theorem d_Ag_init_51 : decode b_Ag_init 51 = .ok (.invokespecial 11, 3) := by decide +kernel
theorem d_Ag_init_54 : decode b_Ag_init 54 = .ok (.putfield 33, 3) := by decide +kernel
theorem lk_Ag_33 : Cond.fieldLink R_Ag 33 R_Ag (F_Ag 13).2.1 (F_Ag 13).2.2.1 ∈ lw_tg := in_t 369 (by decide +kernel)
theorem d_Ag_init_57 : decode b_Ag_init 57 = .ok (.aload_n 0, 1) := by decide +kernel
theorem d_Ag_init_58 : decode b_Ag_init 58 = .ok (.getstatic 20, 3) := by decide +kernel
theorem d_Ag_init_61 : decode b_Ag_init 61 = .ok (.putfield 36, 3) := by decide +kernel
theorem lk_Ag_36 : Cond.fieldLink R_Ag 36 R_Ag (F_Ag 14).2.1 (F_Ag 14).2.2.1 ∈ lw_tg := in_t 370 (by decide +kernel)
theorem d_Ag_init_64 : decode b_Ag_init 64 = .ok (.aload_n 0, 1) := by decide +kernel
theorem d_Ag_init_65 : decode b_Ag_init 65 = .ok (.getstatic 20, 3) := by decide +kernel
theorem d_Ag_init_68 : decode b_Ag_init 68 = .ok (.putfield 39, 3) := by decide +kernel
theorem lk_Ag_39 : Cond.fieldLink R_Ag 39 R_Ag (F_Ag 18).2.1 (F_Ag 18).2.2.1 ∈ lw_tg := in_t 377 (by decide +kernel)
theorem d_Ag_init_71 : decode b_Ag_init 71 = .ok (.aload_n 0, 1) := by decide +kernel
theorem d_Ag_init_72 : decode b_Ag_init 72 = .ok (.aload_n 1, 1) := by decide +kernel
theorem d_Ag_init_73 : decode b_Ag_init 73 = .ok (.putfield 42, 3) := by decide +kernel
theorem lk_Ag_42 : Cond.fieldLink R_Ag 42 R_Ag (F_Ag 0).2.1 (F_Ag 0).2.2.1 ∈ lw_tg := in_t 353 (by decide +kernel)
theorem d_Ag_init_76 : decode b_Ag_init 76 = .ok (.aload_n 0, 1) := by decide +kernel
theorem d_Ag_init_77 : decode b_Ag_init 77 = .ok (.bipush 8, 2) := by decide +kernel
theorem d_Ag_init_79 : decode b_Ag_init 79 = .ok (.anewarray 46, 3) := by decide +kernel
theorem d_Ag_init_82 : decode b_Ag_init 82 = .ok (.putfield 48, 3) := by decide +kernel
theorem lk_Ag_48 : Cond.fieldLink R_Ag 48 R_Ag (F_Ag 1).2.1 (F_Ag 1).2.2.1 ∈ lw_tg := in_t 354 (by decide +kernel)
theorem d_Ag_init_85 : decode b_Ag_init 85 = .ok (.iconst 0, 1) := by decide +kernel
theorem d_Ag_init_86 : decode b_Ag_init 86 = .ok (.istore_n 2, 1) := by decide +kernel
theorem d_Ag_init_87 : decode b_Ag_init 87 = .ok (.iload_n 2, 1) := by decide +kernel
theorem d_Ag_init_88 : decode b_Ag_init 88 = .ok (.bipush 8, 2) := by decide +kernel
theorem d_Ag_init_90 : decode b_Ag_init 90 = .ok (.if_icmp .ge 22, 3) := by decide +kernel
theorem d_Ag_init_93 : decode b_Ag_init 93 = .ok (.aload_n 0, 1) := by decide +kernel
theorem d_Ag_init_94 : decode b_Ag_init 94 = .ok (.getfield 48, 3) := by decide +kernel
theorem d_Ag_init_97 : decode b_Ag_init 97 = .ok (.iload_n 2, 1) := by decide +kernel
theorem d_Ag_init_98 : decode b_Ag_init 98 = .ok (.new 46, 3) := by decide +kernel
theorem d_Ag_init_101 : decode b_Ag_init 101 = .ok (.dup, 1) := by decide +kernel
theorem d_Ag_init_102 : decode b_Ag_init 102 = .ok (.invokespecial 52, 3) := by decide +kernel
theorem d_Ag_init_105 : decode b_Ag_init 105 = .ok (.aastore, 1) := by decide +kernel
theorem d_Ag_init_106 : decode b_Ag_init 106 = .ok (.iinc 2 1, 3) := by decide +kernel
theorem d_Ag_init_109 : decode b_Ag_init 109 = .ok (.goto (-22), 3) := by decide +kernel
theorem d_Ag_init_112 : decode b_Ag_init 112 = .ok (.return_, 1) := by decide +kernel
theorem ol_Ag : Cond.methodLink R_Ag 3 Lib.objectInit ∈ lw_tg := in_t 301 (by decide +kernel)
theorem ck_Ag_9 : Cond.classLink R_Ag 9 R_By ∈ lw_tg := in_t 302 (by decide +kernel)
theorem ck_Ag_46 : Cond.classLink R_Ag 46 R_Ti ∈ lw_tg := in_t 305 (by decide +kernel)
abbrev b_So_init : ByteArray := prog_10_method_1_code
def y_So_init : MethodName := ⟨R_So, "<init>", "(LRealmHouse$Vault;)V"⟩
abbrev k_So_init : Cond := .code y_So_init b_So_init 2 none
theorem ki_So_init : k_So_init ∈ lw_tg := in_t 430 (by decide +kernel)
theorem ks_So_init : Cond.instanceMethod y_So_init ∈ lw_tg := in_t 429 (by decide +kernel)
theorem kl_H_So_init : Cond.methodLink R_H 60 y_So_init ∈ lw_tg := in_t 428 (by decide +kernel)
theorem hd_So_init : y_So_init.cls = R_So ∧ y_So_init.cls ≠ "java/lang/invoke/MethodHandle" ∧ y_So_init.cls ≠ "java/lang/invoke/VarHandle" ∧ (parseMethodDescriptor y_So_init.desc).map (fun d => d.parameters.length) = some 1 := by decide +kernel
theorem d_So_init_0 : decode b_So_init 0 = .ok (.aload_n 0, 1) := by decide +kernel
theorem d_So_init_1 : decode b_So_init 1 = .ok (.invokespecial 3, 3) := by decide +kernel
theorem d_So_init_4 : decode b_So_init 4 = .ok (.aload_n 0, 1) := by decide +kernel
theorem d_So_init_5 : decode b_So_init 5 = .ok (.iconst (-1), 1) := by decide +kernel
theorem d_So_init_6 : decode b_So_init 6 = .ok (.putfield 9, 3) := by decide +kernel
theorem lk_So_9 : Cond.fieldLink R_So 9 R_So (F_So 2).2.1 (F_So 2).2.2.1 ∈ lw_tg := in_t 436 (by decide +kernel)
theorem d_So_init_9 : decode b_So_init 9 = .ok (.aload_n 0, 1) := by decide +kernel
theorem d_So_init_10 : decode b_So_init 10 = .ok (.getstatic 15, 3) := by decide +kernel
theorem d_So_init_13 : decode b_So_init 13 = .ok (.putfield 19, 3) := by decide +kernel
theorem lk_So_19 : Cond.fieldLink R_So 19 R_So (F_So 3).2.1 (F_So 3).2.2.1 ∈ lw_tg := in_t 438 (by decide +kernel)
theorem d_So_init_16 : decode b_So_init 16 = .ok (.aload_n 0, 1) := by decide +kernel
theorem d_So_init_17 : decode b_So_init 17 = .ok (.getstatic 15, 3) := by decide +kernel
theorem d_So_init_20 : decode b_So_init 20 = .ok (.putfield 22, 3) := by decide +kernel
theorem lk_So_22 : Cond.fieldLink R_So 22 R_So (F_So 4).2.1 (F_So 4).2.2.1 ∈ lw_tg := in_t 439 (by decide +kernel)
theorem d_So_init_23 : decode b_So_init 23 = .ok (.aload_n 0, 1) := by decide +kernel
theorem d_So_init_24 : decode b_So_init 24 = .ok (.iconst 2, 1) := by decide +kernel
theorem d_So_init_25 : decode b_So_init 25 = .ok (.newarray .int, 2) := by decide +kernel
theorem d_So_init_27 : decode b_So_init 27 = .ok (.putfield 25, 3) := by decide +kernel
theorem lk_So_25 : Cond.fieldLink R_So 25 R_So (F_So 8).2.1 (F_So 8).2.2.1 ∈ lw_tg := in_t 443 (by decide +kernel)
theorem d_So_init_30 : decode b_So_init 30 = .ok (.aload_n 0, 1) := by decide +kernel
theorem d_So_init_31 : decode b_So_init 31 = .ok (.iconst 2, 1) := by decide +kernel
theorem d_So_init_32 : decode b_So_init 32 = .ok (.newarray .int, 2) := by decide +kernel
theorem d_So_init_34 : decode b_So_init 34 = .ok (.putfield 29, 3) := by decide +kernel
theorem lk_So_29 : Cond.fieldLink R_So 29 R_So (F_So 9).2.1 (F_So 9).2.2.1 ∈ lw_tg := in_t 444 (by decide +kernel)
theorem d_So_init_37 : decode b_So_init 37 = .ok (.aload_n 0, 1) := by decide +kernel
theorem d_So_init_38 : decode b_So_init 38 = .ok (.iconst 4, 1) := by decide +kernel
theorem d_So_init_39 : decode b_So_init 39 = .ok (.newarray .byte, 2) := by decide +kernel
theorem d_So_init_41 : decode b_So_init 41 = .ok (.putfield 32, 3) := by decide +kernel
theorem lk_So_32 : Cond.fieldLink R_So 32 R_So (F_So 10).2.1 (F_So 10).2.2.1 ∈ lw_tg := in_t 445 (by decide +kernel)
theorem d_So_init_44 : decode b_So_init 44 = .ok (.aload_n 0, 1) := by decide +kernel
theorem d_So_init_45 : decode b_So_init 45 = .ok (.aload_n 1, 1) := by decide +kernel
theorem d_So_init_46 : decode b_So_init 46 = .ok (.putfield 35, 3) := by decide +kernel
theorem lk_So_35 : Cond.fieldLink R_So 35 R_So (F_So 0).2.1 (F_So 0).2.2.1 ∈ lw_tg := in_t 433 (by decide +kernel)
theorem d_So_init_49 : decode b_So_init 49 = .ok (.aload_n 0, 1) := by decide +kernel
theorem d_So_init_50 : decode b_So_init 50 = .ok (.getfield 32, 3) := by decide +kernel
theorem d_So_init_53 : decode b_So_init 53 = .ok (.iconst 0, 1) := by decide +kernel
theorem d_So_init_54 : decode b_So_init 54 = .ok (.bipush 10, 2) := by decide +kernel
theorem d_So_init_56 : decode b_So_init 56 = .ok (.bastore, 1) := by decide +kernel
theorem d_So_init_57 : decode b_So_init 57 = .ok (.return_, 1) := by decide +kernel
theorem ol_So : Cond.methodLink R_So 3 Lib.objectInit ∈ lw_tg := in_t 431 (by decide +kernel)
abbrev b_Ga_init : ByteArray := prog_6_method_1_code
def y_Ga_init : MethodName := ⟨R_Ga, "<init>", "(LRealmHouse$Vault;)V"⟩
abbrev k_Ga_init : Cond := .code y_Ga_init b_Ga_init 2 none
theorem ki_Ga_init : k_Ga_init ∈ lw_tg := in_t 182 (by decide +kernel)
theorem ks_Ga_init : Cond.instanceMethod y_Ga_init ∈ lw_tg := in_t 181 (by decide +kernel)
theorem kl_H_Ga_init : Cond.methodLink R_H 33 y_Ga_init ∈ lw_tg := in_t 180 (by decide +kernel)
theorem hd_Ga_init : y_Ga_init.cls = R_Ga ∧ y_Ga_init.cls ≠ "java/lang/invoke/MethodHandle" ∧ y_Ga_init.cls ≠ "java/lang/invoke/VarHandle" ∧ (parseMethodDescriptor y_Ga_init.desc).map (fun d => d.parameters.length) = some 1 := by decide +kernel
theorem d_Ga_init_0 : decode b_Ga_init 0 = .ok (.aload_n 0, 1) := by decide +kernel
theorem d_Ga_init_1 : decode b_Ga_init 1 = .ok (.invokespecial 3, 3) := by decide +kernel
theorem d_Ga_init_4 : decode b_Ga_init 4 = .ok (.aload_n 0, 1) := by decide +kernel
theorem d_Ga_init_5 : decode b_Ga_init 5 = .ok (.new 9, 3) := by decide +kernel
theorem d_Ga_init_8 : decode b_Ga_init 8 = .ok (.dup, 1) := by decide +kernel
theorem d_Ga_init_9 : decode b_Ga_init 9 = .ok (.sipush 4000, 3) := by decide +kernel
theorem d_Ga_init_12 : decode b_Ga_init 12 = .ok (.invokespecial 11, 3) := by decide +kernel
theorem d_Ga_init_15 : decode b_Ga_init 15 = .ok (.putfield 14, 3) := by decide +kernel
theorem lk_Ga_14 : Cond.fieldLink R_Ga 14 R_Ga (F_Ga 1).2.1 (F_Ga 1).2.2.1 ∈ lw_tg := in_t 189 (by decide +kernel)
theorem d_Ga_init_18 : decode b_Ga_init 18 = .ok (.aload_n 0, 1) := by decide +kernel
theorem d_Ga_init_19 : decode b_Ga_init 19 = .ok (.new 9, 3) := by decide +kernel
theorem d_Ga_init_22 : decode b_Ga_init 22 = .ok (.dup, 1) := by decide +kernel
theorem d_Ga_init_23 : decode b_Ga_init 23 = .ok (.sipush 4000, 3) := by decide +kernel
theorem d_Ga_init_26 : decode b_Ga_init 26 = .ok (.invokespecial 11, 3) := by decide +kernel
theorem d_Ga_init_29 : decode b_Ga_init 29 = .ok (.putfield 20, 3) := by decide +kernel
theorem lk_Ga_20 : Cond.fieldLink R_Ga 20 R_Ga (F_Ga 2).2.1 (F_Ga 2).2.2.1 ∈ lw_tg := in_t 191 (by decide +kernel)
theorem d_Ga_init_32 : decode b_Ga_init 32 = .ok (.aload_n 0, 1) := by decide +kernel
theorem d_Ga_init_33 : decode b_Ga_init 33 = .ok (.getstatic 23, 3) := by decide +kernel
theorem d_Ga_init_36 : decode b_Ga_init 36 = .ok (.putfield 27, 3) := by decide +kernel
theorem lk_Ga_27 : Cond.fieldLink R_Ga 27 R_Ga (F_Ga 3).2.1 (F_Ga 3).2.2.1 ∈ lw_tg := in_t 194 (by decide +kernel)
theorem d_Ga_init_39 : decode b_Ga_init 39 = .ok (.aload_n 0, 1) := by decide +kernel
theorem d_Ga_init_40 : decode b_Ga_init 40 = .ok (.bipush 32, 2) := by decide +kernel
theorem d_Ga_init_42 : decode b_Ga_init 42 = .ok (.putfield 30, 3) := by decide +kernel
theorem lk_Ga_30 : Cond.fieldLink R_Ga 30 R_Ga (F_Ga 4).2.1 (F_Ga 4).2.2.1 ∈ lw_tg := in_t 197 (by decide +kernel)
theorem d_Ga_init_45 : decode b_Ga_init 45 = .ok (.aload_n 0, 1) := by decide +kernel
theorem d_Ga_init_46 : decode b_Ga_init 46 = .ok (.aload_n 1, 1) := by decide +kernel
theorem d_Ga_init_47 : decode b_Ga_init 47 = .ok (.putfield 34, 3) := by decide +kernel
theorem lk_Ga_34 : Cond.fieldLink R_Ga 34 R_Ga (F_Ga 0).2.1 (F_Ga 0).2.2.1 ∈ lw_tg := in_t 188 (by decide +kernel)
theorem d_Ga_init_50 : decode b_Ga_init 50 = .ok (.return_, 1) := by decide +kernel
theorem ol_Ga : Cond.methodLink R_Ga 3 Lib.objectInit ∈ lw_tg := in_t 183 (by decide +kernel)
theorem ck_Ga_9 : Cond.classLink R_Ga 9 R_By ∈ lw_tg := in_t 184 (by decide +kernel)
set_option maxHeartbeats 4000000 in
set_option maxRecDepth 100000 in
theorem c_Se_init (l : Launch) (D : va_G) (E : cE) (T : cT) (L : List Nat) (f : pF) (sz : Nat) (o : Nat) (m_o : o ∈ L) (e_o : f o = .inr (8, [.null, .null, .null, .null, .int (nI 0)])) : Met l y_Se_init (k_Se_init :: lw_tg) (kRm 1 20 4 (1376)) (va_Pc [.ref o] (kPre D E T L f sz)) (va_Qv (fun (u : cU) => (∀ x, x ∈ L → x ∈ u.1) ∧ (∀ x, x ∈ L → x ≠ o → u.2 x = f x) ∧ ∃ (o1 o2 o3 o4 : Nat), u.2 o = .inr (8, [.ref o1, .ref o2, .ref o3, .ref o4, .int (nI 0)])) (cPost D E (pA L sz)) (pA L sz)) 4 (1376) (pA L sz) := by
  refine k_enter (own := R_Se) (by decide) rfl (Nat.le_of_ble_eq_true rfl) (fun p e s m below meth c ls AV QQ H locs hQQ X Y hA hin hr hlk hml hl KS KR => ?_)
  have hl : lv_has ls 1 [(0, .ref o)] := hl
  refine lv_aload_n X.1 X.2.1 d_Se_init_0 rfl (lv_at hl 0 rfl) ?_
  refine W.objInit X.1 X.2.1 X.2.2.2.1 (X.2.2.1 _ ol_Se) (X.2.2.1 _ o_inst) (X.2.2.1 _ o_code) rfl (by rw [hml]; exact hl.1) rfl d_Se_init_1 (Nat.le_of_ble_eq_true rfl) (Nat.le_of_ble_eq_true rfl) ?_
  refine W.eq (g2 := F0 m 4 ls []) rfl ?_
  refine lv_aload_n X.1 X.2.1 d_Se_init_4 rfl (lv_at hl 0 rfl) ?_
  refine lv_sipush (v := (nI 1280)) X.1 X.2.1 d_Se_init_5 (by decide) ?_
  refine q_newa X.1 X.2.1 (atype := .byte) (ty := .byte) rfl ra_byte (X.2.2.1 _ ar_byte) X.2.2.2.2 0 (cE := E.1) rfl Y hA (N := (1280)) (a0 := (1280, .inl (fun _ => 0))) (fun cA => vz_byte cA (1280)) (nI_pos (by omega)) (nI_clamp (by omega)) (by decide) (show 0 + 1 ≤ 4 by omega) (show 0 + (1280) ≤ (1376) by omega) d_Se_init_8 (fun q1 H hqq1 Y => ?_)
  have Y : pH D cCl (pA L sz) s.heap (L ++ [q1]) (va_up f q1 (.inl (E.1, 1280, .inl (fun _ => 0)))) H locs := Y
  have e8 : (va_up f q1 (.inl (E.1, 1280, .inl (fun _ => 0)))) q1 = .inl (E.1, 1280, .inl (fun _ => 0)) := q_up
  have e9 : (va_up f q1 (.inl (E.1, 1280, .inl (fun _ => 0)))) o = .inr (8, [.null, .null, .null, .null, .int (nI 0)]) := (q_ne (ne_mem hqq1 m_o)).trans e_o
  have nl6 : q1 ∉ L := fun h9 => hqq1 h9
  have hF10 : ∀ x, x ∈ L → x ≠ o → (va_up f q1 (.inl (E.1, 1280, .inl (fun _ => 0)))) x = f x := fun x hx h0 => (q_ne (ne_mem nl6 hx)).trans rfl
  generalize (va_up f q1 (.inl (E.1, 1280, .inl (fun _ => 0)))) = f7 at Y e8 e9 hF10
  have s4 : ∀ x, x ∈ L → x ∈ L ++ [q1] := fun x hx => List.mem_append_left _ hx
  have m11 : o ∈ L ++ [q1] := List.mem_append_left _ m_o
  have m5 : q1 ∈ L ++ [q1] := List.mem_append_right _ (List.mem_singleton.mpr rfl)
  generalize L ++ [q1] = L2 at Y s4 m11 m5
  refine q_putF X.1 X.2.1 X.2.2.1 i_Se t_Se t_Se_ok n_Se X.2.2.2.1 X.2.2.2.2 Y m11 e9 rfl 0 (by decide) (X.2.2.1 _ lk_Se_9) (fun _ h9 => h9) rfl hin rfl (t_Se_ok 0 (by decide)) rfl rfl (Nat.le_of_ble_eq_true rfl) d_Se_init_10 (fun H locs Y => ?_)
  have e13 : (va_up f7 o (.inr (8, [.ref q1, .null, .null, .null, .int (nI 0)]))) o = .inr (8, [.ref q1, .null, .null, .null, .int (nI 0)]) := q_up
  have e14 : (va_up f7 o (.inr (8, [.ref q1, .null, .null, .null, .int (nI 0)]))) q1 = .inl (E.1, 1280, .inl (fun _ => 0)) := (q_ne (q_tag e8 e9 (show (1000 : Nat) ≠ 8 by decide))).trans e8
  have hF15 : ∀ x, x ∈ L → x ≠ o → (va_up f7 o (.inr (8, [.ref q1, .null, .null, .null, .int (nI 0)]))) x = f x := fun x hx h0 => (q_ne h0).trans (hF10 x hx h0)
  have Y : pH D cCl (pA L sz) s.heap L2 (va_up f7 o (.inr (8, [.ref q1, .null, .null, .null, .int (nI 0)]))) H locs := Y
  generalize (va_up f7 o (.inr (8, [.ref q1, .null, .null, .null, .int (nI 0)]))) = f12 at Y e13 e14 hF15
  refine lv_aload_n X.1 X.2.1 d_Se_init_13 rfl (lv_at hl 0 rfl) ?_
  refine lv_bipush (v := (nI 32)) X.1 X.2.1 d_Se_init_14 (by decide) ?_
  refine q_newa X.1 X.2.1 (atype := .int) (ty := .int) rfl ra_int (X.2.2.1 _ ar_int) X.2.2.2.2 1 (cE := E.2.1) rfl Y hA (N := (32)) (a0 := (32, .inl (fun _ => 0))) (fun cA => vz_int cA (32)) (nI_pos (by omega)) (nI_clamp (by omega)) (by decide) (show 1 + 1 ≤ 4 by omega) (show 1280 + (32) ≤ (1376) by omega) d_Se_init_16 (fun q16 H hqq16 Y => ?_)
  have Y : pH D cCl (pA L sz) s.heap (L2 ++ [q16]) (va_up f12 q16 (.inl (E.2.1, 32, .inl (fun _ => 0)))) H locs := Y
  have e23 : (va_up f12 q16 (.inl (E.2.1, 32, .inl (fun _ => 0)))) q16 = .inl (E.2.1, 32, .inl (fun _ => 0)) := q_up
  have e24 : (va_up f12 q16 (.inl (E.2.1, 32, .inl (fun _ => 0)))) o = .inr (8, [.ref q1, .null, .null, .null, .int (nI 0)]) := (q_ne (ne_mem hqq16 m11)).trans e13
  have e25 : (va_up f12 q16 (.inl (E.2.1, 32, .inl (fun _ => 0)))) q1 = .inl (E.1, 1280, .inl (fun _ => 0)) := (q_ne (ne_mem hqq16 m5)).trans e14
  have nl21 : q16 ∉ L := fun h9 => hqq16 (s4 _ h9)
  have hF26 : ∀ x, x ∈ L → x ≠ o → (va_up f12 q16 (.inl (E.2.1, 32, .inl (fun _ => 0)))) x = f x := fun x hx h0 => (q_ne (ne_mem nl21 hx)).trans (hF15 x hx h0)
  generalize (va_up f12 q16 (.inl (E.2.1, 32, .inl (fun _ => 0)))) = f22 at Y e23 e24 e25 hF26
  have s19 : ∀ x, x ∈ L → x ∈ L2 ++ [q16] := fun x hx => List.mem_append_left _ (s4 x hx)
  have m27 : o ∈ L2 ++ [q16] := List.mem_append_left _ m11
  have m28 : q1 ∈ L2 ++ [q16] := List.mem_append_left _ m5
  have m20 : q16 ∈ L2 ++ [q16] := List.mem_append_right _ (List.mem_singleton.mpr rfl)
  generalize L2 ++ [q16] = L17 at Y s19 m27 m28 m20
  refine q_putF X.1 X.2.1 X.2.2.1 i_Se t_Se t_Se_ok n_Se X.2.2.2.1 X.2.2.2.2 Y m27 e24 rfl 1 (by decide) (X.2.2.1 _ lk_Se_15) (fun _ h9 => h9) rfl hin rfl (t_Se_ok 1 (by decide)) rfl rfl (Nat.le_of_ble_eq_true rfl) d_Se_init_18 (fun H locs Y => ?_)
  have e30 : (va_up f22 o (.inr (8, [.ref q1, .ref q16, .null, .null, .int (nI 0)]))) o = .inr (8, [.ref q1, .ref q16, .null, .null, .int (nI 0)]) := q_up
  have e31 : (va_up f22 o (.inr (8, [.ref q1, .ref q16, .null, .null, .int (nI 0)]))) q1 = .inl (E.1, 1280, .inl (fun _ => 0)) := (q_ne (q_tag e25 e24 (show (1000 : Nat) ≠ 8 by decide))).trans e25
  have e32 : (va_up f22 o (.inr (8, [.ref q1, .ref q16, .null, .null, .int (nI 0)]))) q16 = .inl (E.2.1, 32, .inl (fun _ => 0)) := (q_ne (q_tag e23 e24 (show (1000 : Nat) ≠ 8 by decide))).trans e23
  have hF33 : ∀ x, x ∈ L → x ≠ o → (va_up f22 o (.inr (8, [.ref q1, .ref q16, .null, .null, .int (nI 0)]))) x = f x := fun x hx h0 => (q_ne h0).trans (hF26 x hx h0)
  have Y : pH D cCl (pA L sz) s.heap L17 (va_up f22 o (.inr (8, [.ref q1, .ref q16, .null, .null, .int (nI 0)]))) H locs := Y
  generalize (va_up f22 o (.inr (8, [.ref q1, .ref q16, .null, .null, .int (nI 0)]))) = f29 at Y e30 e31 e32 hF33
  refine lv_aload_n X.1 X.2.1 d_Se_init_21 rfl (lv_at hl 0 rfl) ?_
  refine lv_bipush (v := (nI 32)) X.1 X.2.1 d_Se_init_22 (by decide) ?_
  refine q_newa X.1 X.2.1 (atype := .int) (ty := .int) rfl ra_int (X.2.2.1 _ ar_int) X.2.2.2.2 1 (cE := E.2.1) rfl Y hA (N := (32)) (a0 := (32, .inl (fun _ => 0))) (fun cA => vz_int cA (32)) (nI_pos (by omega)) (nI_clamp (by omega)) (by decide) (show 2 + 1 ≤ 4 by omega) (show 1312 + (32) ≤ (1376) by omega) d_Se_init_24 (fun q34 H hqq34 Y => ?_)
  have Y : pH D cCl (pA L sz) s.heap (L17 ++ [q34]) (va_up f29 q34 (.inl (E.2.1, 32, .inl (fun _ => 0)))) H locs := Y
  have e41 : (va_up f29 q34 (.inl (E.2.1, 32, .inl (fun _ => 0)))) q34 = .inl (E.2.1, 32, .inl (fun _ => 0)) := q_up
  have e42 : (va_up f29 q34 (.inl (E.2.1, 32, .inl (fun _ => 0)))) o = .inr (8, [.ref q1, .ref q16, .null, .null, .int (nI 0)]) := (q_ne (ne_mem hqq34 m27)).trans e30
  have e43 : (va_up f29 q34 (.inl (E.2.1, 32, .inl (fun _ => 0)))) q1 = .inl (E.1, 1280, .inl (fun _ => 0)) := (q_ne (ne_mem hqq34 m28)).trans e31
  have e44 : (va_up f29 q34 (.inl (E.2.1, 32, .inl (fun _ => 0)))) q16 = .inl (E.2.1, 32, .inl (fun _ => 0)) := (q_ne (ne_mem hqq34 m20)).trans e32
  have nl39 : q34 ∉ L := fun h9 => hqq34 (s19 _ h9)
  have hF45 : ∀ x, x ∈ L → x ≠ o → (va_up f29 q34 (.inl (E.2.1, 32, .inl (fun _ => 0)))) x = f x := fun x hx h0 => (q_ne (ne_mem nl39 hx)).trans (hF33 x hx h0)
  generalize (va_up f29 q34 (.inl (E.2.1, 32, .inl (fun _ => 0)))) = f40 at Y e41 e42 e43 e44 hF45
  have s37 : ∀ x, x ∈ L → x ∈ L17 ++ [q34] := fun x hx => List.mem_append_left _ (s19 x hx)
  have m46 : o ∈ L17 ++ [q34] := List.mem_append_left _ m27
  have m47 : q1 ∈ L17 ++ [q34] := List.mem_append_left _ m28
  have m48 : q16 ∈ L17 ++ [q34] := List.mem_append_left _ m20
  have m38 : q34 ∈ L17 ++ [q34] := List.mem_append_right _ (List.mem_singleton.mpr rfl)
  generalize L17 ++ [q34] = L35 at Y s37 m46 m47 m48 m38
  refine q_putF X.1 X.2.1 X.2.2.1 i_Se t_Se t_Se_ok n_Se X.2.2.2.1 X.2.2.2.2 Y m46 e42 rfl 2 (by decide) (X.2.2.1 _ lk_Se_19) (fun _ h9 => h9) rfl hin rfl (t_Se_ok 2 (by decide)) rfl rfl (Nat.le_of_ble_eq_true rfl) d_Se_init_26 (fun H locs Y => ?_)
  have e50 : (va_up f40 o (.inr (8, [.ref q1, .ref q16, .ref q34, .null, .int (nI 0)]))) o = .inr (8, [.ref q1, .ref q16, .ref q34, .null, .int (nI 0)]) := q_up
  have e51 : (va_up f40 o (.inr (8, [.ref q1, .ref q16, .ref q34, .null, .int (nI 0)]))) q1 = .inl (E.1, 1280, .inl (fun _ => 0)) := (q_ne (q_tag e43 e42 (show (1000 : Nat) ≠ 8 by decide))).trans e43
  have e52 : (va_up f40 o (.inr (8, [.ref q1, .ref q16, .ref q34, .null, .int (nI 0)]))) q16 = .inl (E.2.1, 32, .inl (fun _ => 0)) := (q_ne (q_tag e44 e42 (show (1000 : Nat) ≠ 8 by decide))).trans e44
  have e53 : (va_up f40 o (.inr (8, [.ref q1, .ref q16, .ref q34, .null, .int (nI 0)]))) q34 = .inl (E.2.1, 32, .inl (fun _ => 0)) := (q_ne (q_tag e41 e42 (show (1000 : Nat) ≠ 8 by decide))).trans e41
  have hF54 : ∀ x, x ∈ L → x ≠ o → (va_up f40 o (.inr (8, [.ref q1, .ref q16, .ref q34, .null, .int (nI 0)]))) x = f x := fun x hx h0 => (q_ne h0).trans (hF45 x hx h0)
  have Y : pH D cCl (pA L sz) s.heap L35 (va_up f40 o (.inr (8, [.ref q1, .ref q16, .ref q34, .null, .int (nI 0)]))) H locs := Y
  generalize (va_up f40 o (.inr (8, [.ref q1, .ref q16, .ref q34, .null, .int (nI 0)]))) = f49 at Y e50 e51 e52 e53 hF54
  refine lv_aload_n X.1 X.2.1 d_Se_init_29 rfl (lv_at hl 0 rfl) ?_
  refine lv_bipush (v := (nI 32)) X.1 X.2.1 d_Se_init_30 (by decide) ?_
  refine q_newa X.1 X.2.1 (atype := .int) (ty := .int) rfl ra_int (X.2.2.1 _ ar_int) X.2.2.2.2 1 (cE := E.2.1) rfl Y hA (N := (32)) (a0 := (32, .inl (fun _ => 0))) (fun cA => vz_int cA (32)) (nI_pos (by omega)) (nI_clamp (by omega)) (by decide) (show 3 + 1 ≤ 4 by omega) (show 1344 + (32) ≤ (1376) by omega) d_Se_init_32 (fun q55 H hqq55 Y => ?_)
  have Y : pH D cCl (pA L sz) s.heap (L35 ++ [q55]) (va_up f49 q55 (.inl (E.2.1, 32, .inl (fun _ => 0)))) H locs := Y
  have e62 : (va_up f49 q55 (.inl (E.2.1, 32, .inl (fun _ => 0)))) q55 = .inl (E.2.1, 32, .inl (fun _ => 0)) := q_up
  have e63 : (va_up f49 q55 (.inl (E.2.1, 32, .inl (fun _ => 0)))) o = .inr (8, [.ref q1, .ref q16, .ref q34, .null, .int (nI 0)]) := (q_ne (ne_mem hqq55 m46)).trans e50
  have e64 : (va_up f49 q55 (.inl (E.2.1, 32, .inl (fun _ => 0)))) q1 = .inl (E.1, 1280, .inl (fun _ => 0)) := (q_ne (ne_mem hqq55 m47)).trans e51
  have e65 : (va_up f49 q55 (.inl (E.2.1, 32, .inl (fun _ => 0)))) q16 = .inl (E.2.1, 32, .inl (fun _ => 0)) := (q_ne (ne_mem hqq55 m48)).trans e52
  have e66 : (va_up f49 q55 (.inl (E.2.1, 32, .inl (fun _ => 0)))) q34 = .inl (E.2.1, 32, .inl (fun _ => 0)) := (q_ne (ne_mem hqq55 m38)).trans e53
  have nl60 : q55 ∉ L := fun h9 => hqq55 (s37 _ h9)
  have hF67 : ∀ x, x ∈ L → x ≠ o → (va_up f49 q55 (.inl (E.2.1, 32, .inl (fun _ => 0)))) x = f x := fun x hx h0 => (q_ne (ne_mem nl60 hx)).trans (hF54 x hx h0)
  generalize (va_up f49 q55 (.inl (E.2.1, 32, .inl (fun _ => 0)))) = f61 at Y e62 e63 e64 e65 e66 hF67
  have s58 : ∀ x, x ∈ L → x ∈ L35 ++ [q55] := fun x hx => List.mem_append_left _ (s37 x hx)
  have m68 : o ∈ L35 ++ [q55] := List.mem_append_left _ m46
  have m69 : q1 ∈ L35 ++ [q55] := List.mem_append_left _ m47
  have m70 : q16 ∈ L35 ++ [q55] := List.mem_append_left _ m48
  have m71 : q34 ∈ L35 ++ [q55] := List.mem_append_left _ m38
  have m59 : q55 ∈ L35 ++ [q55] := List.mem_append_right _ (List.mem_singleton.mpr rfl)
  generalize L35 ++ [q55] = L56 at Y s58 m68 m69 m70 m71 m59
  refine q_putF X.1 X.2.1 X.2.2.1 i_Se t_Se t_Se_ok n_Se X.2.2.2.1 X.2.2.2.2 Y m68 e63 rfl 3 (by decide) (X.2.2.1 _ lk_Se_22) (fun _ h9 => h9) rfl hin rfl (t_Se_ok 3 (by decide)) rfl rfl (Nat.le_of_ble_eq_true rfl) d_Se_init_34 (fun H locs Y => ?_)
  have e73 : (va_up f61 o (.inr (8, [.ref q1, .ref q16, .ref q34, .ref q55, .int (nI 0)]))) o = .inr (8, [.ref q1, .ref q16, .ref q34, .ref q55, .int (nI 0)]) := q_up
  have e74 : (va_up f61 o (.inr (8, [.ref q1, .ref q16, .ref q34, .ref q55, .int (nI 0)]))) q1 = .inl (E.1, 1280, .inl (fun _ => 0)) := (q_ne (q_tag e64 e63 (show (1000 : Nat) ≠ 8 by decide))).trans e64
  have e75 : (va_up f61 o (.inr (8, [.ref q1, .ref q16, .ref q34, .ref q55, .int (nI 0)]))) q16 = .inl (E.2.1, 32, .inl (fun _ => 0)) := (q_ne (q_tag e65 e63 (show (1000 : Nat) ≠ 8 by decide))).trans e65
  have e76 : (va_up f61 o (.inr (8, [.ref q1, .ref q16, .ref q34, .ref q55, .int (nI 0)]))) q34 = .inl (E.2.1, 32, .inl (fun _ => 0)) := (q_ne (q_tag e66 e63 (show (1000 : Nat) ≠ 8 by decide))).trans e66
  have e77 : (va_up f61 o (.inr (8, [.ref q1, .ref q16, .ref q34, .ref q55, .int (nI 0)]))) q55 = .inl (E.2.1, 32, .inl (fun _ => 0)) := (q_ne (q_tag e62 e63 (show (1000 : Nat) ≠ 8 by decide))).trans e62
  have hF78 : ∀ x, x ∈ L → x ≠ o → (va_up f61 o (.inr (8, [.ref q1, .ref q16, .ref q34, .ref q55, .int (nI 0)]))) x = f x := fun x hx h0 => (q_ne h0).trans (hF67 x hx h0)
  have Y : pH D cCl (pA L sz) s.heap L56 (va_up f61 o (.inr (8, [.ref q1, .ref q16, .ref q34, .ref q55, .int (nI 0)]))) H locs := Y
  generalize (va_up f61 o (.inr (8, [.ref q1, .ref q16, .ref q34, .ref q55, .int (nI 0)]))) = f72 at Y e73 e74 e75 e76 e77 hF78
  refine W.cs (cells' := 4) (slots' := 1376) (by omega) (by omega) ?_
  exact c_retv hQQ X Y hr hlk ⟨s58, hF78, q1, q16, q34, q55, e73⟩ d_Se_init_37
set_option maxHeartbeats 4000000 in
set_option maxRecDepth 100000 in
theorem c_Pr_init (l : Launch) (D : va_G) (E : cE) (T : cT) (L : List Nat) (f : pF) (sz : Nat) (o : Nat) (m_o : o ∈ L) (e_o : f o = .inr (7, [.null, .null, .int (nI 0), .int (nI 0), .int (nI 0), .null, .null, .null, .null, .int (nI 0), .int (nI 0), .int (nI 0), .int (nI 0)])) : Met l y_Pr_init (k_Pr_init :: lw_tg) (kRm 2 41 7 (1423)) (va_Pc [.ref o] (kPre D E T L f sz)) (va_Qv (fun (u : cU) => (∀ x, x ∈ L → x ∈ u.1) ∧ (∀ x, x ∈ L → x ≠ o → u.2 x = f x) ∧ ∃ (b r sno : Nat) (k_r : Nat → Int32), b ∈ u.1 ∧ b ∉ L ∧ r ∈ u.1 ∧ r ∉ L ∧ fB k_r ∧ u.2 o = .inr (7, [.ref b, .ref sno, .int (nI 0), .int (nI 0), .int (nI 0), .ref (T.1 0), .ref (T.1 0), .ref (T.1 0), .ref (T.1 0), .int (nI 36000), .int (nI 72000), .int (nI 15), .int (nI 0)]) ∧ u.2 b = .inr (3, [.ref r, .int (nI 0)]) ∧ u.2 r = .inl (E.1, 40, .inl k_r)) (cPost D E (pA L sz)) (pA L sz)) 7 (1423) (pA L sz) := by
  refine k_enter (own := R_Pr) (by decide) rfl (Nat.le_of_ble_eq_true rfl) (fun p e s m below meth c ls AV QQ H locs hQQ X Y hA hin hr hlk hml hl KS KR => ?_)
  have hl : lv_has ls 1 [(0, .ref o)] := hl
  refine lv_aload_n X.1 X.2.1 d_Pr_init_0 rfl (lv_at hl 0 rfl) ?_
  refine W.objInit X.1 X.2.1 X.2.2.2.1 (X.2.2.1 _ ol_Pr) (X.2.2.1 _ o_inst) (X.2.2.1 _ o_code) rfl (by rw [hml]; exact hl.1) rfl d_Pr_init_1 (Nat.le_of_ble_eq_true rfl) (Nat.le_of_ble_eq_true rfl) ?_
  refine W.eq (g2 := F0 m 4 ls []) rfl ?_
  refine lv_aload_n X.1 X.2.1 d_Pr_init_4 rfl (lv_at hl 0 rfl) ?_
  refine q_new X.1 X.2.1 X.2.2.1 i_By t_By t_By_ok X.2.2.2.1 (X.2.2.1 _ ck_Pr_9) (X.2.2.1 _ mk_By) (X.2.2.1 _ ini_By) X.2.2.2.2 Y hA (ci := 3) rfl (fs := [.null, .int (nI 0)]) (fun j hj => match j, hj with | 0, _ => rfl | 1, _ => rfl | n9 + 2, h9 => absurd (show n9 + 2 < 2 from h9) (by omega)) (show 0 + 1 ≤ 7 by omega) (show 0 + 2 ≤ (1423) by omega) d_Pr_init_5 (fun q1 H hqq1 Y => ?_)
  have Y : pH D cCl (pA L sz) s.heap (L ++ [q1]) (va_up f q1 (.inr (3, [.null, .int (nI 0)]))) H locs := Y
  have e8 : (va_up f q1 (.inr (3, [.null, .int (nI 0)]))) q1 = .inr (3, [.null, .int (nI 0)]) := q_up
  have e9 : (va_up f q1 (.inr (3, [.null, .int (nI 0)]))) o = .inr (7, [.null, .null, .int (nI 0), .int (nI 0), .int (nI 0), .null, .null, .null, .null, .int (nI 0), .int (nI 0), .int (nI 0), .int (nI 0)]) := (q_ne (ne_mem hqq1 m_o)).trans e_o
  have nl6 : q1 ∉ L := fun h9 => hqq1 h9
  have hF10 : ∀ x, x ∈ L → x ≠ o → (va_up f q1 (.inr (3, [.null, .int (nI 0)]))) x = f x := fun x hx h0 => (q_ne (ne_mem nl6 hx)).trans rfl
  generalize (va_up f q1 (.inr (3, [.null, .int (nI 0)]))) = f7 at Y e8 e9 hF10
  have s4 : ∀ x, x ∈ L → x ∈ L ++ [q1] := fun x hx => List.mem_append_left _ hx
  have m11 : o ∈ L ++ [q1] := List.mem_append_left _ m_o
  have m5 : q1 ∈ L ++ [q1] := List.mem_append_right _ (List.mem_singleton.mpr rfl)
  generalize L ++ [q1] = L2 at Y s4 m11 m5
  refine lv_dup X.1 X.2.1 d_Pr_init_8 rfl ?_
  refine lv_bipush (v := (nI 40)) X.1 X.2.1 d_Pr_init_9 (by decide) ?_
  refine x_v (x_runI (As := [.int (nI 40)]) (rest := [.ref q1, .ref o]) (n := 1) X hml hl.1 (c_By_init l D E T L2 f7 H.size (40) q1 m5 e8 (by omega)) (ok_k X Y hA KS KR) kl_Pr_By_init ks_By_init ki_By_init ini_By rfl ⟨rfl, rfl⟩ hd_By_init.2 ⟨by decide, by decide⟩ rfl (Nat.le_of_ble_eq_true rfl) d_Pr_init_11 ⟨(show 1 + 1 ≤ 7 by omega), (show 2 + (40) ≤ (1423) by omega)⟩) X Y hA (fun u H locs hp Y => ?_)
  obtain ⟨L14, f13⟩ := u
  obtain ⟨eL16, hF15, q18, g19, m20, nl21, hg22, e23, e24⟩ := hp
  dsimp only at eL16 hF15 m20 e23 e24 Y
  have e25 : f13 o = .inr (7, [.null, .null, .int (nI 0), .int (nI 0), .int (nI 0), .null, .null, .null, .null, .int (nI 0), .int (nI 0), .int (nI 0), .int (nI 0)]) := (hF15 o m11 (q_tag e9 e8 (show (7 : Nat) ≠ 3 by decide))).trans e9
  have hF26 : ∀ x, x ∈ L → x ≠ o → f13 x = f x := fun x hx h0 => (hF15 x (s4 x hx) (ne_mem nl6 hx)).trans (hF10 x hx h0)
  have s27 : ∀ x, x ∈ L → x ∈ L14 := fun x hx => eL16 x (s4 x hx)
  have nl28 : q18 ∉ L := fun h9 => nl21 (s4 _ h9)
  have m29 : o ∈ L14 := eL16 _ m11
  have m30 : q1 ∈ L14 := eL16 _ m5
  refine q_putF X.1 X.2.1 X.2.2.1 i_Pr t_Pr t_Pr_ok n_Pr X.2.2.2.1 X.2.2.2.2 Y m29 e25 rfl 0 (by decide) (X.2.2.1 _ lk_Pr_14) (fun _ h9 => h9) rfl hin rfl (t_Pr_ok 0 (by decide)) rfl rfl (Nat.le_of_ble_eq_true rfl) d_Pr_init_14 (fun H locs Y => ?_)
  have e32 : (va_up f13 o (.inr (7, [.ref q1, .null, .int (nI 0), .int (nI 0), .int (nI 0), .null, .null, .null, .null, .int (nI 0), .int (nI 0), .int (nI 0), .int (nI 0)]))) o = .inr (7, [.ref q1, .null, .int (nI 0), .int (nI 0), .int (nI 0), .null, .null, .null, .null, .int (nI 0), .int (nI 0), .int (nI 0), .int (nI 0)]) := q_up
  have e33 : (va_up f13 o (.inr (7, [.ref q1, .null, .int (nI 0), .int (nI 0), .int (nI 0), .null, .null, .null, .null, .int (nI 0), .int (nI 0), .int (nI 0), .int (nI 0)]))) q1 = .inr (3, [.ref q18, .int (nI 0)]) := (q_ne (q_tag e23 e25 (show (3 : Nat) ≠ 7 by decide))).trans e23
  have e34 : (va_up f13 o (.inr (7, [.ref q1, .null, .int (nI 0), .int (nI 0), .int (nI 0), .null, .null, .null, .null, .int (nI 0), .int (nI 0), .int (nI 0), .int (nI 0)]))) q18 = .inl (E.1, 40, .inl g19) := (q_ne (q_tag e24 e25 (show (1000 : Nat) ≠ 7 by decide))).trans e24
  have hF35 : ∀ x, x ∈ L → x ≠ o → (va_up f13 o (.inr (7, [.ref q1, .null, .int (nI 0), .int (nI 0), .int (nI 0), .null, .null, .null, .null, .int (nI 0), .int (nI 0), .int (nI 0), .int (nI 0)]))) x = f x := fun x hx h0 => (q_ne h0).trans (hF26 x hx h0)
  have Y : pH D cCl (pA L sz) s.heap L14 (va_up f13 o (.inr (7, [.ref q1, .null, .int (nI 0), .int (nI 0), .int (nI 0), .null, .null, .null, .null, .int (nI 0), .int (nI 0), .int (nI 0), .int (nI 0)]))) H locs := Y
  generalize (va_up f13 o (.inr (7, [.ref q1, .null, .int (nI 0), .int (nI 0), .int (nI 0), .null, .null, .null, .null, .int (nI 0), .int (nI 0), .int (nI 0), .int (nI 0)]))) = f31 at Y e32 e33 e34 hF35
  refine lv_aload_n X.1 X.2.1 d_Pr_init_17 rfl (lv_at hl 0 rfl) ?_
  refine q_new X.1 X.2.1 X.2.2.1 i_Se t_Se t_Se_ok X.2.2.2.1 (X.2.2.1 _ ck_Pr_20) (X.2.2.1 _ mk_Se) (X.2.2.1 _ ini_Se) X.2.2.2.2 Y hA (ci := 8) rfl (fs := [.null, .null, .null, .null, .int (nI 0)]) (fun j hj => match j, hj with | 0, _ => rfl | 1, _ => rfl | 2, _ => rfl | 3, _ => rfl | 4, _ => rfl | n9 + 5, h9 => absurd (show n9 + 5 < 5 from h9) (by omega)) (show 2 + 1 ≤ 7 by omega) (show 42 + 5 ≤ (1423) by omega) d_Pr_init_18 (fun q36 H hqq36 Y => ?_)
  have Y : pH D cCl (pA L sz) s.heap (L14 ++ [q36]) (va_up f31 q36 (.inr (8, [.null, .null, .null, .null, .int (nI 0)]))) H locs := Y
  have e43 : (va_up f31 q36 (.inr (8, [.null, .null, .null, .null, .int (nI 0)]))) q36 = .inr (8, [.null, .null, .null, .null, .int (nI 0)]) := q_up
  have e44 : (va_up f31 q36 (.inr (8, [.null, .null, .null, .null, .int (nI 0)]))) o = .inr (7, [.ref q1, .null, .int (nI 0), .int (nI 0), .int (nI 0), .null, .null, .null, .null, .int (nI 0), .int (nI 0), .int (nI 0), .int (nI 0)]) := (q_ne (ne_mem hqq36 m29)).trans e32
  have e45 : (va_up f31 q36 (.inr (8, [.null, .null, .null, .null, .int (nI 0)]))) q1 = .inr (3, [.ref q18, .int (nI 0)]) := (q_ne (ne_mem hqq36 m30)).trans e33
  have e46 : (va_up f31 q36 (.inr (8, [.null, .null, .null, .null, .int (nI 0)]))) q18 = .inl (E.1, 40, .inl g19) := (q_ne (ne_mem hqq36 m20)).trans e34
  have nl41 : q36 ∉ L := fun h9 => hqq36 (s27 _ h9)
  have hF47 : ∀ x, x ∈ L → x ≠ o → (va_up f31 q36 (.inr (8, [.null, .null, .null, .null, .int (nI 0)]))) x = f x := fun x hx h0 => (q_ne (ne_mem nl41 hx)).trans (hF35 x hx h0)
  generalize (va_up f31 q36 (.inr (8, [.null, .null, .null, .null, .int (nI 0)]))) = f42 at Y e43 e44 e45 e46 hF47
  have s39 : ∀ x, x ∈ L → x ∈ L14 ++ [q36] := fun x hx => List.mem_append_left _ (s27 x hx)
  have m48 : o ∈ L14 ++ [q36] := List.mem_append_left _ m29
  have m49 : q1 ∈ L14 ++ [q36] := List.mem_append_left _ m30
  have m50 : q18 ∈ L14 ++ [q36] := List.mem_append_left _ m20
  have m40 : q36 ∈ L14 ++ [q36] := List.mem_append_right _ (List.mem_singleton.mpr rfl)
  generalize L14 ++ [q36] = L37 at Y s39 m48 m49 m50 m40
  refine lv_dup X.1 X.2.1 d_Pr_init_21 rfl ?_
  refine x_v (x_runIN (As := []) (rest := [.ref q36, .ref o]) (n := 0) X KR hml hl.1 (c_Se_init l D E T L37 f42 H.size q36 m40 e43) (ok_k X Y hA KS KR) (by decide) ks_Se_init ki_Se_init ini_Se rfl ⟨rfl, rfl⟩ hd_Se_init.2 ⟨by decide, by decide⟩ rfl (Nat.le_of_ble_eq_true rfl) d_Pr_init_22 ⟨(show 3 + 4 ≤ 7 by omega), (show 47 + (1376) ≤ (1423) by omega)⟩) X Y hA (fun u H locs hp Y => ?_)
  obtain ⟨L53, f52⟩ := u
  obtain ⟨eL55, hF54, o58, o59, o60, o61, e57⟩ := hp
  dsimp only at eL55 hF54 e57 Y
  have e62 : f52 o = .inr (7, [.ref q1, .null, .int (nI 0), .int (nI 0), .int (nI 0), .null, .null, .null, .null, .int (nI 0), .int (nI 0), .int (nI 0), .int (nI 0)]) := (hF54 o m48 (q_tag e44 e43 (show (7 : Nat) ≠ 8 by decide))).trans e44
  have e63 : f52 q1 = .inr (3, [.ref q18, .int (nI 0)]) := (hF54 q1 m49 (q_tag e45 e43 (show (3 : Nat) ≠ 8 by decide))).trans e45
  have e64 : f52 q18 = .inl (E.1, 40, .inl g19) := (hF54 q18 m50 (q_tag e46 e43 (show (1000 : Nat) ≠ 8 by decide))).trans e46
  have hF65 : ∀ x, x ∈ L → x ≠ o → f52 x = f x := fun x hx h0 => (hF54 x (s39 x hx) (ne_mem nl41 hx)).trans (hF47 x hx h0)
  have s66 : ∀ x, x ∈ L → x ∈ L53 := fun x hx => eL55 x (s39 x hx)
  have m67 : o ∈ L53 := eL55 _ m48
  have m68 : q1 ∈ L53 := eL55 _ m49
  have m69 : q18 ∈ L53 := eL55 _ m50
  have m70 : q36 ∈ L53 := eL55 _ m40
  refine q_putF X.1 X.2.1 X.2.2.1 i_Pr t_Pr t_Pr_ok n_Pr X.2.2.2.1 X.2.2.2.2 Y m67 e62 rfl 1 (by decide) (X.2.2.1 _ lk_Pr_23) (fun _ h9 => h9) rfl hin rfl (t_Pr_ok 1 (by decide)) rfl rfl (Nat.le_of_ble_eq_true rfl) d_Pr_init_25 (fun H locs Y => ?_)
  have e72 : (va_up f52 o (.inr (7, [.ref q1, .ref q36, .int (nI 0), .int (nI 0), .int (nI 0), .null, .null, .null, .null, .int (nI 0), .int (nI 0), .int (nI 0), .int (nI 0)]))) o = .inr (7, [.ref q1, .ref q36, .int (nI 0), .int (nI 0), .int (nI 0), .null, .null, .null, .null, .int (nI 0), .int (nI 0), .int (nI 0), .int (nI 0)]) := q_up
  have e73 : (va_up f52 o (.inr (7, [.ref q1, .ref q36, .int (nI 0), .int (nI 0), .int (nI 0), .null, .null, .null, .null, .int (nI 0), .int (nI 0), .int (nI 0), .int (nI 0)]))) q1 = .inr (3, [.ref q18, .int (nI 0)]) := (q_ne (q_tag e63 e62 (show (3 : Nat) ≠ 7 by decide))).trans e63
  have e74 : (va_up f52 o (.inr (7, [.ref q1, .ref q36, .int (nI 0), .int (nI 0), .int (nI 0), .null, .null, .null, .null, .int (nI 0), .int (nI 0), .int (nI 0), .int (nI 0)]))) q18 = .inl (E.1, 40, .inl g19) := (q_ne (q_tag e64 e62 (show (1000 : Nat) ≠ 7 by decide))).trans e64
  have e75 : (va_up f52 o (.inr (7, [.ref q1, .ref q36, .int (nI 0), .int (nI 0), .int (nI 0), .null, .null, .null, .null, .int (nI 0), .int (nI 0), .int (nI 0), .int (nI 0)]))) q36 = .inr (8, [.ref o58, .ref o59, .ref o60, .ref o61, .int (nI 0)]) := (q_ne (q_tag e57 e62 (show (8 : Nat) ≠ 7 by decide))).trans e57
  have hF76 : ∀ x, x ∈ L → x ≠ o → (va_up f52 o (.inr (7, [.ref q1, .ref q36, .int (nI 0), .int (nI 0), .int (nI 0), .null, .null, .null, .null, .int (nI 0), .int (nI 0), .int (nI 0), .int (nI 0)]))) x = f x := fun x hx h0 => (q_ne h0).trans (hF65 x hx h0)
  have Y : pH D cCl (pA L sz) s.heap L53 (va_up f52 o (.inr (7, [.ref q1, .ref q36, .int (nI 0), .int (nI 0), .int (nI 0), .null, .null, .null, .null, .int (nI 0), .int (nI 0), .int (nI 0), .int (nI 0)]))) H locs := Y
  generalize (va_up f52 o (.inr (7, [.ref q1, .ref q36, .int (nI 0), .int (nI 0), .int (nI 0), .null, .null, .null, .null, .int (nI 0), .int (nI 0), .int (nI 0), .int (nI 0)]))) = f71 at Y e72 e73 e74 e75 hF76
  refine lv_aload_n X.1 X.2.1 d_Pr_init_28 rfl (lv_at hl 0 rfl) ?_
  refine k_getsN X Y KS KR (by decide) d_Pr_init_29 ?_
  refine q_put X.1 X.2.1 X.2.2.1 i_Pr t_Pr t_Pr_ok n_Pr X.2.2.2.1 X.2.2.2.2 Y m67 e72 rfl 5 (by decide) (X.2.2.1 _ lk_Pr_31) (fun _ h9 => h9) rfl (t_Pr_ok 5 (by decide)) rfl rfl (Nat.le_of_ble_eq_true rfl) d_Pr_init_32 (fun H locs Y => ?_)
  have e78 : (va_up f71 o (.inr (7, [.ref q1, .ref q36, .int (nI 0), .int (nI 0), .int (nI 0), .ref (T.1 0), .null, .null, .null, .int (nI 0), .int (nI 0), .int (nI 0), .int (nI 0)]))) o = .inr (7, [.ref q1, .ref q36, .int (nI 0), .int (nI 0), .int (nI 0), .ref (T.1 0), .null, .null, .null, .int (nI 0), .int (nI 0), .int (nI 0), .int (nI 0)]) := q_up
  have e79 : (va_up f71 o (.inr (7, [.ref q1, .ref q36, .int (nI 0), .int (nI 0), .int (nI 0), .ref (T.1 0), .null, .null, .null, .int (nI 0), .int (nI 0), .int (nI 0), .int (nI 0)]))) q1 = .inr (3, [.ref q18, .int (nI 0)]) := (q_ne (q_tag e73 e72 (show (3 : Nat) ≠ 7 by decide))).trans e73
  have e80 : (va_up f71 o (.inr (7, [.ref q1, .ref q36, .int (nI 0), .int (nI 0), .int (nI 0), .ref (T.1 0), .null, .null, .null, .int (nI 0), .int (nI 0), .int (nI 0), .int (nI 0)]))) q18 = .inl (E.1, 40, .inl g19) := (q_ne (q_tag e74 e72 (show (1000 : Nat) ≠ 7 by decide))).trans e74
  have e81 : (va_up f71 o (.inr (7, [.ref q1, .ref q36, .int (nI 0), .int (nI 0), .int (nI 0), .ref (T.1 0), .null, .null, .null, .int (nI 0), .int (nI 0), .int (nI 0), .int (nI 0)]))) q36 = .inr (8, [.ref o58, .ref o59, .ref o60, .ref o61, .int (nI 0)]) := (q_ne (q_tag e75 e72 (show (8 : Nat) ≠ 7 by decide))).trans e75
  have hF82 : ∀ x, x ∈ L → x ≠ o → (va_up f71 o (.inr (7, [.ref q1, .ref q36, .int (nI 0), .int (nI 0), .int (nI 0), .ref (T.1 0), .null, .null, .null, .int (nI 0), .int (nI 0), .int (nI 0), .int (nI 0)]))) x = f x := fun x hx h0 => (q_ne h0).trans (hF76 x hx h0)
  have Y : pH D cCl (pA L sz) s.heap L53 (va_up f71 o (.inr (7, [.ref q1, .ref q36, .int (nI 0), .int (nI 0), .int (nI 0), .ref (T.1 0), .null, .null, .null, .int (nI 0), .int (nI 0), .int (nI 0), .int (nI 0)]))) H locs := Y
  generalize (va_up f71 o (.inr (7, [.ref q1, .ref q36, .int (nI 0), .int (nI 0), .int (nI 0), .ref (T.1 0), .null, .null, .null, .int (nI 0), .int (nI 0), .int (nI 0), .int (nI 0)]))) = f77 at Y e78 e79 e80 e81 hF82
  refine lv_aload_n X.1 X.2.1 d_Pr_init_35 rfl (lv_at hl 0 rfl) ?_
  refine k_getsN X Y KS KR (by decide) d_Pr_init_36 ?_
  refine q_put X.1 X.2.1 X.2.2.1 i_Pr t_Pr t_Pr_ok n_Pr X.2.2.2.1 X.2.2.2.2 Y m67 e78 rfl 6 (by decide) (X.2.2.1 _ lk_Pr_34) (fun _ h9 => h9) rfl (t_Pr_ok 6 (by decide)) rfl rfl (Nat.le_of_ble_eq_true rfl) d_Pr_init_39 (fun H locs Y => ?_)
  have e84 : (va_up f77 o (.inr (7, [.ref q1, .ref q36, .int (nI 0), .int (nI 0), .int (nI 0), .ref (T.1 0), .ref (T.1 0), .null, .null, .int (nI 0), .int (nI 0), .int (nI 0), .int (nI 0)]))) o = .inr (7, [.ref q1, .ref q36, .int (nI 0), .int (nI 0), .int (nI 0), .ref (T.1 0), .ref (T.1 0), .null, .null, .int (nI 0), .int (nI 0), .int (nI 0), .int (nI 0)]) := q_up
  have e85 : (va_up f77 o (.inr (7, [.ref q1, .ref q36, .int (nI 0), .int (nI 0), .int (nI 0), .ref (T.1 0), .ref (T.1 0), .null, .null, .int (nI 0), .int (nI 0), .int (nI 0), .int (nI 0)]))) q1 = .inr (3, [.ref q18, .int (nI 0)]) := (q_ne (q_tag e79 e78 (show (3 : Nat) ≠ 7 by decide))).trans e79
  have e86 : (va_up f77 o (.inr (7, [.ref q1, .ref q36, .int (nI 0), .int (nI 0), .int (nI 0), .ref (T.1 0), .ref (T.1 0), .null, .null, .int (nI 0), .int (nI 0), .int (nI 0), .int (nI 0)]))) q18 = .inl (E.1, 40, .inl g19) := (q_ne (q_tag e80 e78 (show (1000 : Nat) ≠ 7 by decide))).trans e80
  have e87 : (va_up f77 o (.inr (7, [.ref q1, .ref q36, .int (nI 0), .int (nI 0), .int (nI 0), .ref (T.1 0), .ref (T.1 0), .null, .null, .int (nI 0), .int (nI 0), .int (nI 0), .int (nI 0)]))) q36 = .inr (8, [.ref o58, .ref o59, .ref o60, .ref o61, .int (nI 0)]) := (q_ne (q_tag e81 e78 (show (8 : Nat) ≠ 7 by decide))).trans e81
  have hF88 : ∀ x, x ∈ L → x ≠ o → (va_up f77 o (.inr (7, [.ref q1, .ref q36, .int (nI 0), .int (nI 0), .int (nI 0), .ref (T.1 0), .ref (T.1 0), .null, .null, .int (nI 0), .int (nI 0), .int (nI 0), .int (nI 0)]))) x = f x := fun x hx h0 => (q_ne h0).trans (hF82 x hx h0)
  have Y : pH D cCl (pA L sz) s.heap L53 (va_up f77 o (.inr (7, [.ref q1, .ref q36, .int (nI 0), .int (nI 0), .int (nI 0), .ref (T.1 0), .ref (T.1 0), .null, .null, .int (nI 0), .int (nI 0), .int (nI 0), .int (nI 0)]))) H locs := Y
  generalize (va_up f77 o (.inr (7, [.ref q1, .ref q36, .int (nI 0), .int (nI 0), .int (nI 0), .ref (T.1 0), .ref (T.1 0), .null, .null, .int (nI 0), .int (nI 0), .int (nI 0), .int (nI 0)]))) = f83 at Y e84 e85 e86 e87 hF88
  refine lv_aload_n X.1 X.2.1 d_Pr_init_42 rfl (lv_at hl 0 rfl) ?_
  refine k_getsN X Y KS KR (by decide) d_Pr_init_43 ?_
  refine q_put X.1 X.2.1 X.2.2.1 i_Pr t_Pr t_Pr_ok n_Pr X.2.2.2.1 X.2.2.2.2 Y m67 e84 rfl 7 (by decide) (X.2.2.1 _ lk_Pr_37) (fun _ h9 => h9) rfl (t_Pr_ok 7 (by decide)) rfl rfl (Nat.le_of_ble_eq_true rfl) d_Pr_init_46 (fun H locs Y => ?_)
  have e90 : (va_up f83 o (.inr (7, [.ref q1, .ref q36, .int (nI 0), .int (nI 0), .int (nI 0), .ref (T.1 0), .ref (T.1 0), .ref (T.1 0), .null, .int (nI 0), .int (nI 0), .int (nI 0), .int (nI 0)]))) o = .inr (7, [.ref q1, .ref q36, .int (nI 0), .int (nI 0), .int (nI 0), .ref (T.1 0), .ref (T.1 0), .ref (T.1 0), .null, .int (nI 0), .int (nI 0), .int (nI 0), .int (nI 0)]) := q_up
  have e91 : (va_up f83 o (.inr (7, [.ref q1, .ref q36, .int (nI 0), .int (nI 0), .int (nI 0), .ref (T.1 0), .ref (T.1 0), .ref (T.1 0), .null, .int (nI 0), .int (nI 0), .int (nI 0), .int (nI 0)]))) q1 = .inr (3, [.ref q18, .int (nI 0)]) := (q_ne (q_tag e85 e84 (show (3 : Nat) ≠ 7 by decide))).trans e85
  have e92 : (va_up f83 o (.inr (7, [.ref q1, .ref q36, .int (nI 0), .int (nI 0), .int (nI 0), .ref (T.1 0), .ref (T.1 0), .ref (T.1 0), .null, .int (nI 0), .int (nI 0), .int (nI 0), .int (nI 0)]))) q18 = .inl (E.1, 40, .inl g19) := (q_ne (q_tag e86 e84 (show (1000 : Nat) ≠ 7 by decide))).trans e86
  have e93 : (va_up f83 o (.inr (7, [.ref q1, .ref q36, .int (nI 0), .int (nI 0), .int (nI 0), .ref (T.1 0), .ref (T.1 0), .ref (T.1 0), .null, .int (nI 0), .int (nI 0), .int (nI 0), .int (nI 0)]))) q36 = .inr (8, [.ref o58, .ref o59, .ref o60, .ref o61, .int (nI 0)]) := (q_ne (q_tag e87 e84 (show (8 : Nat) ≠ 7 by decide))).trans e87
  have hF94 : ∀ x, x ∈ L → x ≠ o → (va_up f83 o (.inr (7, [.ref q1, .ref q36, .int (nI 0), .int (nI 0), .int (nI 0), .ref (T.1 0), .ref (T.1 0), .ref (T.1 0), .null, .int (nI 0), .int (nI 0), .int (nI 0), .int (nI 0)]))) x = f x := fun x hx h0 => (q_ne h0).trans (hF88 x hx h0)
  have Y : pH D cCl (pA L sz) s.heap L53 (va_up f83 o (.inr (7, [.ref q1, .ref q36, .int (nI 0), .int (nI 0), .int (nI 0), .ref (T.1 0), .ref (T.1 0), .ref (T.1 0), .null, .int (nI 0), .int (nI 0), .int (nI 0), .int (nI 0)]))) H locs := Y
  generalize (va_up f83 o (.inr (7, [.ref q1, .ref q36, .int (nI 0), .int (nI 0), .int (nI 0), .ref (T.1 0), .ref (T.1 0), .ref (T.1 0), .null, .int (nI 0), .int (nI 0), .int (nI 0), .int (nI 0)]))) = f89 at Y e90 e91 e92 e93 hF94
  refine lv_aload_n X.1 X.2.1 d_Pr_init_49 rfl (lv_at hl 0 rfl) ?_
  refine k_getsN X Y KS KR (by decide) d_Pr_init_50 ?_
  refine q_put X.1 X.2.1 X.2.2.1 i_Pr t_Pr t_Pr_ok n_Pr X.2.2.2.1 X.2.2.2.2 Y m67 e90 rfl 8 (by decide) (X.2.2.1 _ lk_Pr_40) (fun _ h9 => h9) rfl (t_Pr_ok 8 (by decide)) rfl rfl (Nat.le_of_ble_eq_true rfl) d_Pr_init_53 (fun H locs Y => ?_)
  have e96 : (va_up f89 o (.inr (7, [.ref q1, .ref q36, .int (nI 0), .int (nI 0), .int (nI 0), .ref (T.1 0), .ref (T.1 0), .ref (T.1 0), .ref (T.1 0), .int (nI 0), .int (nI 0), .int (nI 0), .int (nI 0)]))) o = .inr (7, [.ref q1, .ref q36, .int (nI 0), .int (nI 0), .int (nI 0), .ref (T.1 0), .ref (T.1 0), .ref (T.1 0), .ref (T.1 0), .int (nI 0), .int (nI 0), .int (nI 0), .int (nI 0)]) := q_up
  have e97 : (va_up f89 o (.inr (7, [.ref q1, .ref q36, .int (nI 0), .int (nI 0), .int (nI 0), .ref (T.1 0), .ref (T.1 0), .ref (T.1 0), .ref (T.1 0), .int (nI 0), .int (nI 0), .int (nI 0), .int (nI 0)]))) q1 = .inr (3, [.ref q18, .int (nI 0)]) := (q_ne (q_tag e91 e90 (show (3 : Nat) ≠ 7 by decide))).trans e91
  have e98 : (va_up f89 o (.inr (7, [.ref q1, .ref q36, .int (nI 0), .int (nI 0), .int (nI 0), .ref (T.1 0), .ref (T.1 0), .ref (T.1 0), .ref (T.1 0), .int (nI 0), .int (nI 0), .int (nI 0), .int (nI 0)]))) q18 = .inl (E.1, 40, .inl g19) := (q_ne (q_tag e92 e90 (show (1000 : Nat) ≠ 7 by decide))).trans e92
  have e99 : (va_up f89 o (.inr (7, [.ref q1, .ref q36, .int (nI 0), .int (nI 0), .int (nI 0), .ref (T.1 0), .ref (T.1 0), .ref (T.1 0), .ref (T.1 0), .int (nI 0), .int (nI 0), .int (nI 0), .int (nI 0)]))) q36 = .inr (8, [.ref o58, .ref o59, .ref o60, .ref o61, .int (nI 0)]) := (q_ne (q_tag e93 e90 (show (8 : Nat) ≠ 7 by decide))).trans e93
  have hF100 : ∀ x, x ∈ L → x ≠ o → (va_up f89 o (.inr (7, [.ref q1, .ref q36, .int (nI 0), .int (nI 0), .int (nI 0), .ref (T.1 0), .ref (T.1 0), .ref (T.1 0), .ref (T.1 0), .int (nI 0), .int (nI 0), .int (nI 0), .int (nI 0)]))) x = f x := fun x hx h0 => (q_ne h0).trans (hF94 x hx h0)
  have Y : pH D cCl (pA L sz) s.heap L53 (va_up f89 o (.inr (7, [.ref q1, .ref q36, .int (nI 0), .int (nI 0), .int (nI 0), .ref (T.1 0), .ref (T.1 0), .ref (T.1 0), .ref (T.1 0), .int (nI 0), .int (nI 0), .int (nI 0), .int (nI 0)]))) H locs := Y
  generalize (va_up f89 o (.inr (7, [.ref q1, .ref q36, .int (nI 0), .int (nI 0), .int (nI 0), .ref (T.1 0), .ref (T.1 0), .ref (T.1 0), .ref (T.1 0), .int (nI 0), .int (nI 0), .int (nI 0), .int (nI 0)]))) = f95 at Y e96 e97 e98 e99 hF100
  refine lv_aload_n X.1 X.2.1 d_Pr_init_56 rfl (lv_at hl 0 rfl) ?_
  refine lv_ldc (v := (36000)) X.1 X.2.1 X.2.2.2.1 (X.2.2.1 _ cn_Pr_43) d_Pr_init_57 ?_
  refine t_eq (y := nI 36000) (by decide) ?_
  refine q_put X.1 X.2.1 X.2.2.1 i_Pr t_Pr t_Pr_ok n_Pr X.2.2.2.1 X.2.2.2.2 Y m67 e96 rfl 9 (by decide) (X.2.2.1 _ lk_Pr_44) (fun _ h9 => h9) rfl (t_Pr_ok 9 (by decide)) rfl rfl (Nat.le_of_ble_eq_true rfl) d_Pr_init_59 (fun H locs Y => ?_)
  have e102 : (va_up f95 o (.inr (7, [.ref q1, .ref q36, .int (nI 0), .int (nI 0), .int (nI 0), .ref (T.1 0), .ref (T.1 0), .ref (T.1 0), .ref (T.1 0), .int (nI 36000), .int (nI 0), .int (nI 0), .int (nI 0)]))) o = .inr (7, [.ref q1, .ref q36, .int (nI 0), .int (nI 0), .int (nI 0), .ref (T.1 0), .ref (T.1 0), .ref (T.1 0), .ref (T.1 0), .int (nI 36000), .int (nI 0), .int (nI 0), .int (nI 0)]) := q_up
  have e103 : (va_up f95 o (.inr (7, [.ref q1, .ref q36, .int (nI 0), .int (nI 0), .int (nI 0), .ref (T.1 0), .ref (T.1 0), .ref (T.1 0), .ref (T.1 0), .int (nI 36000), .int (nI 0), .int (nI 0), .int (nI 0)]))) q1 = .inr (3, [.ref q18, .int (nI 0)]) := (q_ne (q_tag e97 e96 (show (3 : Nat) ≠ 7 by decide))).trans e97
  have e104 : (va_up f95 o (.inr (7, [.ref q1, .ref q36, .int (nI 0), .int (nI 0), .int (nI 0), .ref (T.1 0), .ref (T.1 0), .ref (T.1 0), .ref (T.1 0), .int (nI 36000), .int (nI 0), .int (nI 0), .int (nI 0)]))) q18 = .inl (E.1, 40, .inl g19) := (q_ne (q_tag e98 e96 (show (1000 : Nat) ≠ 7 by decide))).trans e98
  have e105 : (va_up f95 o (.inr (7, [.ref q1, .ref q36, .int (nI 0), .int (nI 0), .int (nI 0), .ref (T.1 0), .ref (T.1 0), .ref (T.1 0), .ref (T.1 0), .int (nI 36000), .int (nI 0), .int (nI 0), .int (nI 0)]))) q36 = .inr (8, [.ref o58, .ref o59, .ref o60, .ref o61, .int (nI 0)]) := (q_ne (q_tag e99 e96 (show (8 : Nat) ≠ 7 by decide))).trans e99
  have hF106 : ∀ x, x ∈ L → x ≠ o → (va_up f95 o (.inr (7, [.ref q1, .ref q36, .int (nI 0), .int (nI 0), .int (nI 0), .ref (T.1 0), .ref (T.1 0), .ref (T.1 0), .ref (T.1 0), .int (nI 36000), .int (nI 0), .int (nI 0), .int (nI 0)]))) x = f x := fun x hx h0 => (q_ne h0).trans (hF100 x hx h0)
  have Y : pH D cCl (pA L sz) s.heap L53 (va_up f95 o (.inr (7, [.ref q1, .ref q36, .int (nI 0), .int (nI 0), .int (nI 0), .ref (T.1 0), .ref (T.1 0), .ref (T.1 0), .ref (T.1 0), .int (nI 36000), .int (nI 0), .int (nI 0), .int (nI 0)]))) H locs := Y
  generalize (va_up f95 o (.inr (7, [.ref q1, .ref q36, .int (nI 0), .int (nI 0), .int (nI 0), .ref (T.1 0), .ref (T.1 0), .ref (T.1 0), .ref (T.1 0), .int (nI 36000), .int (nI 0), .int (nI 0), .int (nI 0)]))) = f101 at Y e102 e103 e104 e105 hF106
  refine lv_aload_n X.1 X.2.1 d_Pr_init_62 rfl (lv_at hl 0 rfl) ?_
  refine lv_ldc (v := (72000)) X.1 X.2.1 X.2.2.2.1 (X.2.2.1 _ cn_Pr_48) d_Pr_init_63 ?_
  refine t_eq (y := nI 72000) (by decide) ?_
  refine q_put X.1 X.2.1 X.2.2.1 i_Pr t_Pr t_Pr_ok n_Pr X.2.2.2.1 X.2.2.2.2 Y m67 e102 rfl 10 (by decide) (X.2.2.1 _ lk_Pr_49) (fun _ h9 => h9) rfl (t_Pr_ok 10 (by decide)) rfl rfl (Nat.le_of_ble_eq_true rfl) d_Pr_init_65 (fun H locs Y => ?_)
  have e108 : (va_up f101 o (.inr (7, [.ref q1, .ref q36, .int (nI 0), .int (nI 0), .int (nI 0), .ref (T.1 0), .ref (T.1 0), .ref (T.1 0), .ref (T.1 0), .int (nI 36000), .int (nI 72000), .int (nI 0), .int (nI 0)]))) o = .inr (7, [.ref q1, .ref q36, .int (nI 0), .int (nI 0), .int (nI 0), .ref (T.1 0), .ref (T.1 0), .ref (T.1 0), .ref (T.1 0), .int (nI 36000), .int (nI 72000), .int (nI 0), .int (nI 0)]) := q_up
  have e109 : (va_up f101 o (.inr (7, [.ref q1, .ref q36, .int (nI 0), .int (nI 0), .int (nI 0), .ref (T.1 0), .ref (T.1 0), .ref (T.1 0), .ref (T.1 0), .int (nI 36000), .int (nI 72000), .int (nI 0), .int (nI 0)]))) q1 = .inr (3, [.ref q18, .int (nI 0)]) := (q_ne (q_tag e103 e102 (show (3 : Nat) ≠ 7 by decide))).trans e103
  have e110 : (va_up f101 o (.inr (7, [.ref q1, .ref q36, .int (nI 0), .int (nI 0), .int (nI 0), .ref (T.1 0), .ref (T.1 0), .ref (T.1 0), .ref (T.1 0), .int (nI 36000), .int (nI 72000), .int (nI 0), .int (nI 0)]))) q18 = .inl (E.1, 40, .inl g19) := (q_ne (q_tag e104 e102 (show (1000 : Nat) ≠ 7 by decide))).trans e104
  have e111 : (va_up f101 o (.inr (7, [.ref q1, .ref q36, .int (nI 0), .int (nI 0), .int (nI 0), .ref (T.1 0), .ref (T.1 0), .ref (T.1 0), .ref (T.1 0), .int (nI 36000), .int (nI 72000), .int (nI 0), .int (nI 0)]))) q36 = .inr (8, [.ref o58, .ref o59, .ref o60, .ref o61, .int (nI 0)]) := (q_ne (q_tag e105 e102 (show (8 : Nat) ≠ 7 by decide))).trans e105
  have hF112 : ∀ x, x ∈ L → x ≠ o → (va_up f101 o (.inr (7, [.ref q1, .ref q36, .int (nI 0), .int (nI 0), .int (nI 0), .ref (T.1 0), .ref (T.1 0), .ref (T.1 0), .ref (T.1 0), .int (nI 36000), .int (nI 72000), .int (nI 0), .int (nI 0)]))) x = f x := fun x hx h0 => (q_ne h0).trans (hF106 x hx h0)
  have Y : pH D cCl (pA L sz) s.heap L53 (va_up f101 o (.inr (7, [.ref q1, .ref q36, .int (nI 0), .int (nI 0), .int (nI 0), .ref (T.1 0), .ref (T.1 0), .ref (T.1 0), .ref (T.1 0), .int (nI 36000), .int (nI 72000), .int (nI 0), .int (nI 0)]))) H locs := Y
  generalize (va_up f101 o (.inr (7, [.ref q1, .ref q36, .int (nI 0), .int (nI 0), .int (nI 0), .ref (T.1 0), .ref (T.1 0), .ref (T.1 0), .ref (T.1 0), .int (nI 36000), .int (nI 72000), .int (nI 0), .int (nI 0)]))) = f107 at Y e108 e109 e110 e111 hF112
  refine lv_aload_n X.1 X.2.1 d_Pr_init_68 rfl (lv_at hl 0 rfl) ?_
  refine lv_bipush (v := (nI 15)) X.1 X.2.1 d_Pr_init_69 (by decide) ?_
  refine q_put X.1 X.2.1 X.2.2.1 i_Pr t_Pr t_Pr_ok n_Pr X.2.2.2.1 X.2.2.2.2 Y m67 e108 rfl 11 (by decide) (X.2.2.1 _ lk_Pr_52) (fun _ h9 => h9) rfl (t_Pr_ok 11 (by decide)) rfl rfl (Nat.le_of_ble_eq_true rfl) d_Pr_init_71 (fun H locs Y => ?_)
  have e114 : (va_up f107 o (.inr (7, [.ref q1, .ref q36, .int (nI 0), .int (nI 0), .int (nI 0), .ref (T.1 0), .ref (T.1 0), .ref (T.1 0), .ref (T.1 0), .int (nI 36000), .int (nI 72000), .int (nI 15), .int (nI 0)]))) o = .inr (7, [.ref q1, .ref q36, .int (nI 0), .int (nI 0), .int (nI 0), .ref (T.1 0), .ref (T.1 0), .ref (T.1 0), .ref (T.1 0), .int (nI 36000), .int (nI 72000), .int (nI 15), .int (nI 0)]) := q_up
  have e115 : (va_up f107 o (.inr (7, [.ref q1, .ref q36, .int (nI 0), .int (nI 0), .int (nI 0), .ref (T.1 0), .ref (T.1 0), .ref (T.1 0), .ref (T.1 0), .int (nI 36000), .int (nI 72000), .int (nI 15), .int (nI 0)]))) q1 = .inr (3, [.ref q18, .int (nI 0)]) := (q_ne (q_tag e109 e108 (show (3 : Nat) ≠ 7 by decide))).trans e109
  have e116 : (va_up f107 o (.inr (7, [.ref q1, .ref q36, .int (nI 0), .int (nI 0), .int (nI 0), .ref (T.1 0), .ref (T.1 0), .ref (T.1 0), .ref (T.1 0), .int (nI 36000), .int (nI 72000), .int (nI 15), .int (nI 0)]))) q18 = .inl (E.1, 40, .inl g19) := (q_ne (q_tag e110 e108 (show (1000 : Nat) ≠ 7 by decide))).trans e110
  have e117 : (va_up f107 o (.inr (7, [.ref q1, .ref q36, .int (nI 0), .int (nI 0), .int (nI 0), .ref (T.1 0), .ref (T.1 0), .ref (T.1 0), .ref (T.1 0), .int (nI 36000), .int (nI 72000), .int (nI 15), .int (nI 0)]))) q36 = .inr (8, [.ref o58, .ref o59, .ref o60, .ref o61, .int (nI 0)]) := (q_ne (q_tag e111 e108 (show (8 : Nat) ≠ 7 by decide))).trans e111
  have hF118 : ∀ x, x ∈ L → x ≠ o → (va_up f107 o (.inr (7, [.ref q1, .ref q36, .int (nI 0), .int (nI 0), .int (nI 0), .ref (T.1 0), .ref (T.1 0), .ref (T.1 0), .ref (T.1 0), .int (nI 36000), .int (nI 72000), .int (nI 15), .int (nI 0)]))) x = f x := fun x hx h0 => (q_ne h0).trans (hF112 x hx h0)
  have Y : pH D cCl (pA L sz) s.heap L53 (va_up f107 o (.inr (7, [.ref q1, .ref q36, .int (nI 0), .int (nI 0), .int (nI 0), .ref (T.1 0), .ref (T.1 0), .ref (T.1 0), .ref (T.1 0), .int (nI 36000), .int (nI 72000), .int (nI 15), .int (nI 0)]))) H locs := Y
  generalize (va_up f107 o (.inr (7, [.ref q1, .ref q36, .int (nI 0), .int (nI 0), .int (nI 0), .ref (T.1 0), .ref (T.1 0), .ref (T.1 0), .ref (T.1 0), .int (nI 36000), .int (nI 72000), .int (nI 15), .int (nI 0)]))) = f113 at Y e114 e115 e116 e117 hF118
  refine W.cs (cells' := 7) (slots' := 1423) (by omega) (by omega) ?_
  exact c_retv hQQ X Y hr hlk ⟨s66, hF118, q1, q18, q36, g19, m68, nl6, m69, nl28, hg22, e114, e115, e116⟩ d_Pr_init_74
set_option maxHeartbeats 4000000 in
set_option maxRecDepth 100000 in
theorem c_Ti_init (l : Launch) (D : va_G) (E : cE) (T : cT) (L : List Nat) (f : pF) (sz : Nat) (o : Nat) (m_o : o ∈ L) (e_o : f o = .inr (10, [.null, .null, .int (nI 0), .int (nI 0), .null, .int (nI 0), .int (nI 0), .int (nI 0), .int (nI 0), .int (nI 0)])) : Met l y_Ti_init (k_Ti_init :: lw_tg) (kRm 2 41 4 (44)) (va_Pc [.ref o] (kPre D E T L f sz)) (va_Qv (fun (u : cU) => (∀ x, x ∈ L → x ∈ u.1) ∧ (∀ x, x ∈ L → x ≠ o → u.2 x = f x) ∧ ∃ (o1 o2 : Nat), u.2 o = .inr (10, [.ref o1, .ref o2, .int (nI 0), .int (nI 0), .ref (T.1 0), .int (nI 0), .int (nI 0), .int (nI 0), .int (nI 0), .int (nI 0)])) (cPost D E (pA L sz)) (pA L sz)) 4 (44) (pA L sz) := by
  refine k_enter (own := R_Ti) (by decide) rfl (Nat.le_of_ble_eq_true rfl) (fun p e s m below meth c ls AV QQ H locs hQQ X Y hA hin hr hlk hml hl KS KR => ?_)
  have hl : lv_has ls 1 [(0, .ref o)] := hl
  refine lv_aload_n X.1 X.2.1 d_Ti_init_0 rfl (lv_at hl 0 rfl) ?_
  refine W.objInit X.1 X.2.1 X.2.2.2.1 (X.2.2.1 _ ol_Ti) (X.2.2.1 _ o_inst) (X.2.2.1 _ o_code) rfl (by rw [hml]; exact hl.1) rfl d_Ti_init_1 (Nat.le_of_ble_eq_true rfl) (Nat.le_of_ble_eq_true rfl) ?_
  refine W.eq (g2 := F0 m 4 ls []) rfl ?_
  refine lv_aload_n X.1 X.2.1 d_Ti_init_4 rfl (lv_at hl 0 rfl) ?_
  refine q_new X.1 X.2.1 X.2.2.1 i_By t_By t_By_ok X.2.2.2.1 (X.2.2.1 _ ck_Ti_9) (X.2.2.1 _ mk_By) (X.2.2.1 _ ini_By) X.2.2.2.2 Y hA (ci := 3) rfl (fs := [.null, .int (nI 0)]) (fun j hj => match j, hj with | 0, _ => rfl | 1, _ => rfl | n9 + 2, h9 => absurd (show n9 + 2 < 2 from h9) (by omega)) (show 0 + 1 ≤ 4 by omega) (show 0 + 2 ≤ (44) by omega) d_Ti_init_5 (fun q1 H hqq1 Y => ?_)
  have Y : pH D cCl (pA L sz) s.heap (L ++ [q1]) (va_up f q1 (.inr (3, [.null, .int (nI 0)]))) H locs := Y
  have e8 : (va_up f q1 (.inr (3, [.null, .int (nI 0)]))) q1 = .inr (3, [.null, .int (nI 0)]) := q_up
  have e9 : (va_up f q1 (.inr (3, [.null, .int (nI 0)]))) o = .inr (10, [.null, .null, .int (nI 0), .int (nI 0), .null, .int (nI 0), .int (nI 0), .int (nI 0), .int (nI 0), .int (nI 0)]) := (q_ne (ne_mem hqq1 m_o)).trans e_o
  have nl6 : q1 ∉ L := fun h9 => hqq1 h9
  have hF10 : ∀ x, x ∈ L → x ≠ o → (va_up f q1 (.inr (3, [.null, .int (nI 0)]))) x = f x := fun x hx h0 => (q_ne (ne_mem nl6 hx)).trans rfl
  generalize (va_up f q1 (.inr (3, [.null, .int (nI 0)]))) = f7 at Y e8 e9 hF10
  have s4 : ∀ x, x ∈ L → x ∈ L ++ [q1] := fun x hx => List.mem_append_left _ hx
  have m11 : o ∈ L ++ [q1] := List.mem_append_left _ m_o
  have m5 : q1 ∈ L ++ [q1] := List.mem_append_right _ (List.mem_singleton.mpr rfl)
  generalize L ++ [q1] = L2 at Y s4 m11 m5
  refine lv_dup X.1 X.2.1 d_Ti_init_8 rfl ?_
  refine lv_iconst (v := (nI 0)) X.1 X.2.1 d_Ti_init_9 (by decide) ?_
  refine x_v (x_runI (As := [.int (nI 0)]) (rest := [.ref q1, .ref o]) (n := 1) X hml hl.1 (c_By_init l D E T L2 f7 H.size (0) q1 m5 e8 (by omega)) (ok_k X Y hA KS KR) kl_Ti_By_init ks_By_init ki_By_init ini_By rfl ⟨rfl, rfl⟩ hd_By_init.2 ⟨by decide, by decide⟩ rfl (Nat.le_of_ble_eq_true rfl) d_Ti_init_10 ⟨(show 1 + 1 ≤ 4 by omega), (show 2 + (0) ≤ (44) by omega)⟩) X Y hA (fun u H locs hp Y => ?_)
  obtain ⟨L14, f13⟩ := u
  obtain ⟨eL16, hF15, q18, g19, m20, nl21, hg22, e23, e24⟩ := hp
  dsimp only at eL16 hF15 m20 e23 e24 Y
  have e25 : f13 o = .inr (10, [.null, .null, .int (nI 0), .int (nI 0), .null, .int (nI 0), .int (nI 0), .int (nI 0), .int (nI 0), .int (nI 0)]) := (hF15 o m11 (q_tag e9 e8 (show (10 : Nat) ≠ 3 by decide))).trans e9
  have hF26 : ∀ x, x ∈ L → x ≠ o → f13 x = f x := fun x hx h0 => (hF15 x (s4 x hx) (ne_mem nl6 hx)).trans (hF10 x hx h0)
  have s27 : ∀ x, x ∈ L → x ∈ L14 := fun x hx => eL16 x (s4 x hx)
  have nl28 : q18 ∉ L := fun h9 => nl21 (s4 _ h9)
  have m29 : o ∈ L14 := eL16 _ m11
  have m30 : q1 ∈ L14 := eL16 _ m5
  refine q_put X.1 X.2.1 X.2.2.1 i_Ti t_Ti t_Ti_ok n_Ti X.2.2.2.1 X.2.2.2.2 Y m29 e25 rfl 0 (by decide) (X.2.2.1 _ lk_Ti_14) (fun _ h9 => h9) rfl (t_Ti_ok 0 (by decide)) rfl rfl (Nat.le_of_ble_eq_true rfl) d_Ti_init_13 (fun H locs Y => ?_)
  have e32 : (va_up f13 o (.inr (10, [.ref q1, .null, .int (nI 0), .int (nI 0), .null, .int (nI 0), .int (nI 0), .int (nI 0), .int (nI 0), .int (nI 0)]))) o = .inr (10, [.ref q1, .null, .int (nI 0), .int (nI 0), .null, .int (nI 0), .int (nI 0), .int (nI 0), .int (nI 0), .int (nI 0)]) := q_up
  have e33 : (va_up f13 o (.inr (10, [.ref q1, .null, .int (nI 0), .int (nI 0), .null, .int (nI 0), .int (nI 0), .int (nI 0), .int (nI 0), .int (nI 0)]))) q1 = .inr (3, [.ref q18, .int (nI 0)]) := (q_ne (q_tag e23 e25 (show (3 : Nat) ≠ 10 by decide))).trans e23
  have e34 : (va_up f13 o (.inr (10, [.ref q1, .null, .int (nI 0), .int (nI 0), .null, .int (nI 0), .int (nI 0), .int (nI 0), .int (nI 0), .int (nI 0)]))) q18 = .inl (E.1, 0, .inl g19) := (q_ne (q_tag e24 e25 (show (1000 : Nat) ≠ 10 by decide))).trans e24
  have hF35 : ∀ x, x ∈ L → x ≠ o → (va_up f13 o (.inr (10, [.ref q1, .null, .int (nI 0), .int (nI 0), .null, .int (nI 0), .int (nI 0), .int (nI 0), .int (nI 0), .int (nI 0)]))) x = f x := fun x hx h0 => (q_ne h0).trans (hF26 x hx h0)
  have Y : pH D cCl (pA L sz) s.heap L14 (va_up f13 o (.inr (10, [.ref q1, .null, .int (nI 0), .int (nI 0), .null, .int (nI 0), .int (nI 0), .int (nI 0), .int (nI 0), .int (nI 0)]))) H locs := Y
  generalize (va_up f13 o (.inr (10, [.ref q1, .null, .int (nI 0), .int (nI 0), .null, .int (nI 0), .int (nI 0), .int (nI 0), .int (nI 0), .int (nI 0)]))) = f31 at Y e32 e33 e34 hF35
  refine lv_aload_n X.1 X.2.1 d_Ti_init_16 rfl (lv_at hl 0 rfl) ?_
  refine q_new X.1 X.2.1 X.2.2.1 i_By t_By t_By_ok X.2.2.2.1 (X.2.2.1 _ ck_Ti_9) (X.2.2.1 _ mk_By) (X.2.2.1 _ ini_By) X.2.2.2.2 Y hA (ci := 3) rfl (fs := [.null, .int (nI 0)]) (fun j hj => match j, hj with | 0, _ => rfl | 1, _ => rfl | n9 + 2, h9 => absurd (show n9 + 2 < 2 from h9) (by omega)) (show 2 + 1 ≤ 4 by omega) (show 2 + 2 ≤ (44) by omega) d_Ti_init_17 (fun q36 H hqq36 Y => ?_)
  have Y : pH D cCl (pA L sz) s.heap (L14 ++ [q36]) (va_up f31 q36 (.inr (3, [.null, .int (nI 0)]))) H locs := Y
  have e43 : (va_up f31 q36 (.inr (3, [.null, .int (nI 0)]))) q36 = .inr (3, [.null, .int (nI 0)]) := q_up
  have e44 : (va_up f31 q36 (.inr (3, [.null, .int (nI 0)]))) o = .inr (10, [.ref q1, .null, .int (nI 0), .int (nI 0), .null, .int (nI 0), .int (nI 0), .int (nI 0), .int (nI 0), .int (nI 0)]) := (q_ne (ne_mem hqq36 m29)).trans e32
  have e45 : (va_up f31 q36 (.inr (3, [.null, .int (nI 0)]))) q1 = .inr (3, [.ref q18, .int (nI 0)]) := (q_ne (ne_mem hqq36 m30)).trans e33
  have e46 : (va_up f31 q36 (.inr (3, [.null, .int (nI 0)]))) q18 = .inl (E.1, 0, .inl g19) := (q_ne (ne_mem hqq36 m20)).trans e34
  have nl41 : q36 ∉ L := fun h9 => hqq36 (s27 _ h9)
  have hF47 : ∀ x, x ∈ L → x ≠ o → (va_up f31 q36 (.inr (3, [.null, .int (nI 0)]))) x = f x := fun x hx h0 => (q_ne (ne_mem nl41 hx)).trans (hF35 x hx h0)
  generalize (va_up f31 q36 (.inr (3, [.null, .int (nI 0)]))) = f42 at Y e43 e44 e45 e46 hF47
  have s39 : ∀ x, x ∈ L → x ∈ L14 ++ [q36] := fun x hx => List.mem_append_left _ (s27 x hx)
  have m48 : o ∈ L14 ++ [q36] := List.mem_append_left _ m29
  have m49 : q1 ∈ L14 ++ [q36] := List.mem_append_left _ m30
  have m50 : q18 ∈ L14 ++ [q36] := List.mem_append_left _ m20
  have m40 : q36 ∈ L14 ++ [q36] := List.mem_append_right _ (List.mem_singleton.mpr rfl)
  generalize L14 ++ [q36] = L37 at Y s39 m48 m49 m50 m40
  refine lv_dup X.1 X.2.1 d_Ti_init_20 rfl ?_
  refine lv_bipush (v := (nI 40)) X.1 X.2.1 d_Ti_init_21 (by decide) ?_
  refine x_v (x_runI (As := [.int (nI 40)]) (rest := [.ref q36, .ref o]) (n := 1) X hml hl.1 (c_By_init l D E T L37 f42 H.size (40) q36 m40 e43 (by omega)) (ok_k X Y hA KS KR) kl_Ti_By_init ks_By_init ki_By_init ini_By rfl ⟨rfl, rfl⟩ hd_By_init.2 ⟨by decide, by decide⟩ rfl (Nat.le_of_ble_eq_true rfl) d_Ti_init_23 ⟨(show 3 + 1 ≤ 4 by omega), (show 4 + (40) ≤ (44) by omega)⟩) X Y hA (fun u H locs hp Y => ?_)
  obtain ⟨L53, f52⟩ := u
  obtain ⟨eL55, hF54, q57, g58, m59, nl60, hg61, e62, e63⟩ := hp
  dsimp only at eL55 hF54 m59 e62 e63 Y
  have e64 : f52 o = .inr (10, [.ref q1, .null, .int (nI 0), .int (nI 0), .null, .int (nI 0), .int (nI 0), .int (nI 0), .int (nI 0), .int (nI 0)]) := (hF54 o m48 (q_tag e44 e43 (show (10 : Nat) ≠ 3 by decide))).trans e44
  have e65 : f52 q1 = .inr (3, [.ref q18, .int (nI 0)]) := (hF54 q1 m49 (ne_mem hqq36 m30)).trans e45
  have e66 : f52 q18 = .inl (E.1, 0, .inl g19) := (hF54 q18 m50 (q_tag e46 e43 (show (1000 : Nat) ≠ 3 by decide))).trans e46
  have hF67 : ∀ x, x ∈ L → x ≠ o → f52 x = f x := fun x hx h0 => (hF54 x (s39 x hx) (ne_mem nl41 hx)).trans (hF47 x hx h0)
  have s68 : ∀ x, x ∈ L → x ∈ L53 := fun x hx => eL55 x (s39 x hx)
  have nl69 : q57 ∉ L := fun h9 => nl60 (s39 _ h9)
  have m70 : o ∈ L53 := eL55 _ m48
  have m71 : q1 ∈ L53 := eL55 _ m49
  have m72 : q18 ∈ L53 := eL55 _ m50
  have m73 : q36 ∈ L53 := eL55 _ m40
  refine q_putF X.1 X.2.1 X.2.2.1 i_Ti t_Ti t_Ti_ok n_Ti X.2.2.2.1 X.2.2.2.2 Y m70 e64 rfl 1 (by decide) (X.2.2.1 _ lk_Ti_20) (fun _ h9 => h9) rfl hin rfl (t_Ti_ok 1 (by decide)) rfl rfl (Nat.le_of_ble_eq_true rfl) d_Ti_init_26 (fun H locs Y => ?_)
  have e75 : (va_up f52 o (.inr (10, [.ref q1, .ref q36, .int (nI 0), .int (nI 0), .null, .int (nI 0), .int (nI 0), .int (nI 0), .int (nI 0), .int (nI 0)]))) o = .inr (10, [.ref q1, .ref q36, .int (nI 0), .int (nI 0), .null, .int (nI 0), .int (nI 0), .int (nI 0), .int (nI 0), .int (nI 0)]) := q_up
  have e76 : (va_up f52 o (.inr (10, [.ref q1, .ref q36, .int (nI 0), .int (nI 0), .null, .int (nI 0), .int (nI 0), .int (nI 0), .int (nI 0), .int (nI 0)]))) q1 = .inr (3, [.ref q18, .int (nI 0)]) := (q_ne (q_tag e65 e64 (show (3 : Nat) ≠ 10 by decide))).trans e65
  have e77 : (va_up f52 o (.inr (10, [.ref q1, .ref q36, .int (nI 0), .int (nI 0), .null, .int (nI 0), .int (nI 0), .int (nI 0), .int (nI 0), .int (nI 0)]))) q18 = .inl (E.1, 0, .inl g19) := (q_ne (q_tag e66 e64 (show (1000 : Nat) ≠ 10 by decide))).trans e66
  have e78 : (va_up f52 o (.inr (10, [.ref q1, .ref q36, .int (nI 0), .int (nI 0), .null, .int (nI 0), .int (nI 0), .int (nI 0), .int (nI 0), .int (nI 0)]))) q36 = .inr (3, [.ref q57, .int (nI 0)]) := (q_ne (q_tag e62 e64 (show (3 : Nat) ≠ 10 by decide))).trans e62
  have e79 : (va_up f52 o (.inr (10, [.ref q1, .ref q36, .int (nI 0), .int (nI 0), .null, .int (nI 0), .int (nI 0), .int (nI 0), .int (nI 0), .int (nI 0)]))) q57 = .inl (E.1, 40, .inl g58) := (q_ne (q_tag e63 e64 (show (1000 : Nat) ≠ 10 by decide))).trans e63
  have hF80 : ∀ x, x ∈ L → x ≠ o → (va_up f52 o (.inr (10, [.ref q1, .ref q36, .int (nI 0), .int (nI 0), .null, .int (nI 0), .int (nI 0), .int (nI 0), .int (nI 0), .int (nI 0)]))) x = f x := fun x hx h0 => (q_ne h0).trans (hF67 x hx h0)
  have Y : pH D cCl (pA L sz) s.heap L53 (va_up f52 o (.inr (10, [.ref q1, .ref q36, .int (nI 0), .int (nI 0), .null, .int (nI 0), .int (nI 0), .int (nI 0), .int (nI 0), .int (nI 0)]))) H locs := Y
  generalize (va_up f52 o (.inr (10, [.ref q1, .ref q36, .int (nI 0), .int (nI 0), .null, .int (nI 0), .int (nI 0), .int (nI 0), .int (nI 0), .int (nI 0)]))) = f74 at Y e75 e76 e77 e78 e79 hF80
  refine lv_aload_n X.1 X.2.1 d_Ti_init_29 rfl (lv_at hl 0 rfl) ?_
  refine k_getsN X Y KS KR (by decide) d_Ti_init_30 ?_
  refine q_put X.1 X.2.1 X.2.2.1 i_Ti t_Ti t_Ti_ok n_Ti X.2.2.2.1 X.2.2.2.2 Y m70 e75 rfl 4 (by decide) (X.2.2.1 _ lk_Ti_27) (fun _ h9 => h9) rfl (t_Ti_ok 4 (by decide)) rfl rfl (Nat.le_of_ble_eq_true rfl) d_Ti_init_33 (fun H locs Y => ?_)
  have e82 : (va_up f74 o (.inr (10, [.ref q1, .ref q36, .int (nI 0), .int (nI 0), .ref (T.1 0), .int (nI 0), .int (nI 0), .int (nI 0), .int (nI 0), .int (nI 0)]))) o = .inr (10, [.ref q1, .ref q36, .int (nI 0), .int (nI 0), .ref (T.1 0), .int (nI 0), .int (nI 0), .int (nI 0), .int (nI 0), .int (nI 0)]) := q_up
  have e83 : (va_up f74 o (.inr (10, [.ref q1, .ref q36, .int (nI 0), .int (nI 0), .ref (T.1 0), .int (nI 0), .int (nI 0), .int (nI 0), .int (nI 0), .int (nI 0)]))) q1 = .inr (3, [.ref q18, .int (nI 0)]) := (q_ne (q_tag e76 e75 (show (3 : Nat) ≠ 10 by decide))).trans e76
  have e84 : (va_up f74 o (.inr (10, [.ref q1, .ref q36, .int (nI 0), .int (nI 0), .ref (T.1 0), .int (nI 0), .int (nI 0), .int (nI 0), .int (nI 0), .int (nI 0)]))) q18 = .inl (E.1, 0, .inl g19) := (q_ne (q_tag e77 e75 (show (1000 : Nat) ≠ 10 by decide))).trans e77
  have e85 : (va_up f74 o (.inr (10, [.ref q1, .ref q36, .int (nI 0), .int (nI 0), .ref (T.1 0), .int (nI 0), .int (nI 0), .int (nI 0), .int (nI 0), .int (nI 0)]))) q36 = .inr (3, [.ref q57, .int (nI 0)]) := (q_ne (q_tag e78 e75 (show (3 : Nat) ≠ 10 by decide))).trans e78
  have e86 : (va_up f74 o (.inr (10, [.ref q1, .ref q36, .int (nI 0), .int (nI 0), .ref (T.1 0), .int (nI 0), .int (nI 0), .int (nI 0), .int (nI 0), .int (nI 0)]))) q57 = .inl (E.1, 40, .inl g58) := (q_ne (q_tag e79 e75 (show (1000 : Nat) ≠ 10 by decide))).trans e79
  have hF87 : ∀ x, x ∈ L → x ≠ o → (va_up f74 o (.inr (10, [.ref q1, .ref q36, .int (nI 0), .int (nI 0), .ref (T.1 0), .int (nI 0), .int (nI 0), .int (nI 0), .int (nI 0), .int (nI 0)]))) x = f x := fun x hx h0 => (q_ne h0).trans (hF80 x hx h0)
  have Y : pH D cCl (pA L sz) s.heap L53 (va_up f74 o (.inr (10, [.ref q1, .ref q36, .int (nI 0), .int (nI 0), .ref (T.1 0), .int (nI 0), .int (nI 0), .int (nI 0), .int (nI 0), .int (nI 0)]))) H locs := Y
  generalize (va_up f74 o (.inr (10, [.ref q1, .ref q36, .int (nI 0), .int (nI 0), .ref (T.1 0), .int (nI 0), .int (nI 0), .int (nI 0), .int (nI 0), .int (nI 0)]))) = f81 at Y e82 e83 e84 e85 e86 hF87
  refine W.cs (cells' := 4) (slots' := 44) (by omega) (by omega) ?_
  exact c_retv hQQ X Y hr hlk ⟨s68, hF87, q1, q36, e82⟩ d_Ti_init_36
set_option maxHeartbeats 4000000 in
set_option maxRecDepth 100000 in
theorem c_Ag_init (l : Launch) (D : va_G) (E : cE) (T : cT) (L : List Nat) (f : pF) (sz : Nat) (vo : Nat) (o : Nat) (m_o : o ∈ L) (e_o : f o = .inr (2, [.null, .null, .int (nI 0), .int (nI 0), .null, .null, .null, .int (nI 0), .int (nI 0), .int (nI 0), .int (nI 0), .int (nI 0), .null, .null, .null, .int (nI 0), .int (nI 0), .long 0, .null, .long 0, .int (nI 0)])) : Met l y_Ag_init (k_Ag_init :: lw_tg) (kRm 3 61 47 (566)) (va_Pc [.ref o, .ref vo] (kPre D E T L f sz)) (va_Qv (fun (u : cU) => (∀ x, x ∈ L → x ∈ u.1) ∧ (∀ x, x ∈ L → x ≠ o → u.2 x = f x) ∧ ∃ (wo o1 o2 o3 : Nat), u.2 o = .inr (2, [.ref vo, .ref wo, .int (nI 0), .int (nI 0), .ref o1, .ref (T.1 0), .ref (T.1 0), .int (nI 0), .int (nI 0), .int (nI 0), .int (nI 0), .int (nI 0), .ref o2, .ref o3, .ref (T.1 0), .int (nI 0), .int (nI 0), .long 0, .ref (T.1 0), .long 0, .int (nI 0)])) (cPost D E (pA L sz)) (pA L sz)) 47 (566) (pA L sz) := by
  refine k_enter (own := R_Ag) (by decide) rfl (Nat.le_of_ble_eq_true rfl) (fun p e s m below meth c ls AV QQ H locs hQQ X Y hA hin hr hlk hml hl KS KR => ?_)
  have hl : lv_has ls 3 [(0, .ref o), (1, .ref vo)] := hl
  refine lv_aload_n X.1 X.2.1 d_Ag_init_0 rfl (lv_at hl 0 rfl) ?_
  refine W.objInit X.1 X.2.1 X.2.2.2.1 (X.2.2.1 _ ol_Ag) (X.2.2.1 _ o_inst) (X.2.2.1 _ o_code) rfl (by rw [hml]; exact hl.1) rfl d_Ag_init_1 (Nat.le_of_ble_eq_true rfl) (Nat.le_of_ble_eq_true rfl) ?_
  refine W.eq (g2 := F0 m 4 ls []) rfl ?_
  refine lv_aload_n X.1 X.2.1 d_Ag_init_4 rfl (lv_at hl 0 rfl) ?_
  refine q_new X.1 X.2.1 X.2.2.1 i_By t_By t_By_ok X.2.2.2.1 (X.2.2.1 _ ck_Ag_9) (X.2.2.1 _ mk_By) (X.2.2.1 _ ini_By) X.2.2.2.2 Y hA (ci := 3) rfl (fs := [.null, .int (nI 0)]) (fun j hj => match j, hj with | 0, _ => rfl | 1, _ => rfl | n9 + 2, h9 => absurd (show n9 + 2 < 2 from h9) (by omega)) (show 0 + 1 ≤ 47 by omega) (show 0 + 2 ≤ (566) by omega) d_Ag_init_5 (fun q1 H hqq1 Y => ?_)
  have Y : pH D cCl (pA L sz) s.heap (L ++ [q1]) (va_up f q1 (.inr (3, [.null, .int (nI 0)]))) H locs := Y
  have e8 : (va_up f q1 (.inr (3, [.null, .int (nI 0)]))) q1 = .inr (3, [.null, .int (nI 0)]) := q_up
  have e9 : (va_up f q1 (.inr (3, [.null, .int (nI 0)]))) o = .inr (2, [.null, .null, .int (nI 0), .int (nI 0), .null, .null, .null, .int (nI 0), .int (nI 0), .int (nI 0), .int (nI 0), .int (nI 0), .null, .null, .null, .int (nI 0), .int (nI 0), .long 0, .null, .long 0, .int (nI 0)]) := (q_ne (ne_mem hqq1 m_o)).trans e_o
  have nl6 : q1 ∉ L := fun h9 => hqq1 h9
  have hF10 : ∀ x, x ∈ L → x ≠ o → (va_up f q1 (.inr (3, [.null, .int (nI 0)]))) x = f x := fun x hx h0 => (q_ne (ne_mem nl6 hx)).trans rfl
  generalize (va_up f q1 (.inr (3, [.null, .int (nI 0)]))) = f7 at Y e8 e9 hF10
  have s4 : ∀ x, x ∈ L → x ∈ L ++ [q1] := fun x hx => List.mem_append_left _ hx
  have m11 : o ∈ L ++ [q1] := List.mem_append_left _ m_o
  have m5 : q1 ∈ L ++ [q1] := List.mem_append_right _ (List.mem_singleton.mpr rfl)
  generalize L ++ [q1] = L2 at Y s4 m11 m5
  refine lv_dup X.1 X.2.1 d_Ag_init_8 rfl ?_
  refine lv_bipush (v := (nI 40)) X.1 X.2.1 d_Ag_init_9 (by decide) ?_
  refine x_v (x_runI (As := [.int (nI 40)]) (rest := [.ref q1, .ref o]) (n := 1) X hml hl.1 (c_By_init l D E T L2 f7 H.size (40) q1 m5 e8 (by omega)) (ok_k X Y hA KS KR) kl_Ag_By_init ks_By_init ki_By_init ini_By rfl ⟨rfl, rfl⟩ hd_By_init.2 ⟨by decide, by decide⟩ rfl (Nat.le_of_ble_eq_true rfl) d_Ag_init_11 ⟨(show 1 + 1 ≤ 47 by omega), (show 2 + (40) ≤ (566) by omega)⟩) X Y hA (fun u H locs hp Y => ?_)
  obtain ⟨L14, f13⟩ := u
  obtain ⟨eL16, hF15, q18, g19, m20, nl21, hg22, e23, e24⟩ := hp
  dsimp only at eL16 hF15 m20 e23 e24 Y
  have e25 : f13 o = .inr (2, [.null, .null, .int (nI 0), .int (nI 0), .null, .null, .null, .int (nI 0), .int (nI 0), .int (nI 0), .int (nI 0), .int (nI 0), .null, .null, .null, .int (nI 0), .int (nI 0), .long 0, .null, .long 0, .int (nI 0)]) := (hF15 o m11 (q_tag e9 e8 (show (2 : Nat) ≠ 3 by decide))).trans e9
  have hF26 : ∀ x, x ∈ L → x ≠ o → f13 x = f x := fun x hx h0 => (hF15 x (s4 x hx) (ne_mem nl6 hx)).trans (hF10 x hx h0)
  have s27 : ∀ x, x ∈ L → x ∈ L14 := fun x hx => eL16 x (s4 x hx)
  have nl28 : q18 ∉ L := fun h9 => nl21 (s4 _ h9)
  have m29 : o ∈ L14 := eL16 _ m11
  have m30 : q1 ∈ L14 := eL16 _ m5
  refine q_putF X.1 X.2.1 X.2.2.1 i_Ag t_Ag t_Ag_ok n_Ag X.2.2.2.1 X.2.2.2.2 Y m29 e25 rfl 4 (by decide) (X.2.2.1 _ lk_Ag_14) (fun _ h9 => h9) rfl hin rfl (t_Ag_ok 4 (by decide)) rfl rfl (Nat.le_of_ble_eq_true rfl) d_Ag_init_14 (fun H locs Y => ?_)
  have e32 : (va_up f13 o (.inr (2, [.null, .null, .int (nI 0), .int (nI 0), .ref q1, .null, .null, .int (nI 0), .int (nI 0), .int (nI 0), .int (nI 0), .int (nI 0), .null, .null, .null, .int (nI 0), .int (nI 0), .long 0, .null, .long 0, .int (nI 0)]))) o = .inr (2, [.null, .null, .int (nI 0), .int (nI 0), .ref q1, .null, .null, .int (nI 0), .int (nI 0), .int (nI 0), .int (nI 0), .int (nI 0), .null, .null, .null, .int (nI 0), .int (nI 0), .long 0, .null, .long 0, .int (nI 0)]) := q_up
  have e33 : (va_up f13 o (.inr (2, [.null, .null, .int (nI 0), .int (nI 0), .ref q1, .null, .null, .int (nI 0), .int (nI 0), .int (nI 0), .int (nI 0), .int (nI 0), .null, .null, .null, .int (nI 0), .int (nI 0), .long 0, .null, .long 0, .int (nI 0)]))) q1 = .inr (3, [.ref q18, .int (nI 0)]) := (q_ne (q_tag e23 e25 (show (3 : Nat) ≠ 2 by decide))).trans e23
  have e34 : (va_up f13 o (.inr (2, [.null, .null, .int (nI 0), .int (nI 0), .ref q1, .null, .null, .int (nI 0), .int (nI 0), .int (nI 0), .int (nI 0), .int (nI 0), .null, .null, .null, .int (nI 0), .int (nI 0), .long 0, .null, .long 0, .int (nI 0)]))) q18 = .inl (E.1, 40, .inl g19) := (q_ne (q_tag e24 e25 (show (1000 : Nat) ≠ 2 by decide))).trans e24
  have hF35 : ∀ x, x ∈ L → x ≠ o → (va_up f13 o (.inr (2, [.null, .null, .int (nI 0), .int (nI 0), .ref q1, .null, .null, .int (nI 0), .int (nI 0), .int (nI 0), .int (nI 0), .int (nI 0), .null, .null, .null, .int (nI 0), .int (nI 0), .long 0, .null, .long 0, .int (nI 0)]))) x = f x := fun x hx h0 => (q_ne h0).trans (hF26 x hx h0)
  have Y : pH D cCl (pA L sz) s.heap L14 (va_up f13 o (.inr (2, [.null, .null, .int (nI 0), .int (nI 0), .ref q1, .null, .null, .int (nI 0), .int (nI 0), .int (nI 0), .int (nI 0), .int (nI 0), .null, .null, .null, .int (nI 0), .int (nI 0), .long 0, .null, .long 0, .int (nI 0)]))) H locs := Y
  generalize (va_up f13 o (.inr (2, [.null, .null, .int (nI 0), .int (nI 0), .ref q1, .null, .null, .int (nI 0), .int (nI 0), .int (nI 0), .int (nI 0), .int (nI 0), .null, .null, .null, .int (nI 0), .int (nI 0), .long 0, .null, .long 0, .int (nI 0)]))) = f31 at Y e32 e33 e34 hF35
  refine lv_aload_n X.1 X.2.1 d_Ag_init_17 rfl (lv_at hl 0 rfl) ?_
  refine k_getsN X Y KS KR (by decide) d_Ag_init_18 ?_
  refine q_put X.1 X.2.1 X.2.2.1 i_Ag t_Ag t_Ag_ok n_Ag X.2.2.2.1 X.2.2.2.2 Y m29 e32 rfl 5 (by decide) (X.2.2.1 _ lk_Ag_24) (fun _ h9 => h9) rfl (t_Ag_ok 5 (by decide)) rfl rfl (Nat.le_of_ble_eq_true rfl) d_Ag_init_21 (fun H locs Y => ?_)
  have e37 : (va_up f31 o (.inr (2, [.null, .null, .int (nI 0), .int (nI 0), .ref q1, .ref (T.1 0), .null, .int (nI 0), .int (nI 0), .int (nI 0), .int (nI 0), .int (nI 0), .null, .null, .null, .int (nI 0), .int (nI 0), .long 0, .null, .long 0, .int (nI 0)]))) o = .inr (2, [.null, .null, .int (nI 0), .int (nI 0), .ref q1, .ref (T.1 0), .null, .int (nI 0), .int (nI 0), .int (nI 0), .int (nI 0), .int (nI 0), .null, .null, .null, .int (nI 0), .int (nI 0), .long 0, .null, .long 0, .int (nI 0)]) := q_up
  have e38 : (va_up f31 o (.inr (2, [.null, .null, .int (nI 0), .int (nI 0), .ref q1, .ref (T.1 0), .null, .int (nI 0), .int (nI 0), .int (nI 0), .int (nI 0), .int (nI 0), .null, .null, .null, .int (nI 0), .int (nI 0), .long 0, .null, .long 0, .int (nI 0)]))) q1 = .inr (3, [.ref q18, .int (nI 0)]) := (q_ne (q_tag e33 e32 (show (3 : Nat) ≠ 2 by decide))).trans e33
  have e39 : (va_up f31 o (.inr (2, [.null, .null, .int (nI 0), .int (nI 0), .ref q1, .ref (T.1 0), .null, .int (nI 0), .int (nI 0), .int (nI 0), .int (nI 0), .int (nI 0), .null, .null, .null, .int (nI 0), .int (nI 0), .long 0, .null, .long 0, .int (nI 0)]))) q18 = .inl (E.1, 40, .inl g19) := (q_ne (q_tag e34 e32 (show (1000 : Nat) ≠ 2 by decide))).trans e34
  have hF40 : ∀ x, x ∈ L → x ≠ o → (va_up f31 o (.inr (2, [.null, .null, .int (nI 0), .int (nI 0), .ref q1, .ref (T.1 0), .null, .int (nI 0), .int (nI 0), .int (nI 0), .int (nI 0), .int (nI 0), .null, .null, .null, .int (nI 0), .int (nI 0), .long 0, .null, .long 0, .int (nI 0)]))) x = f x := fun x hx h0 => (q_ne h0).trans (hF35 x hx h0)
  have Y : pH D cCl (pA L sz) s.heap L14 (va_up f31 o (.inr (2, [.null, .null, .int (nI 0), .int (nI 0), .ref q1, .ref (T.1 0), .null, .int (nI 0), .int (nI 0), .int (nI 0), .int (nI 0), .int (nI 0), .null, .null, .null, .int (nI 0), .int (nI 0), .long 0, .null, .long 0, .int (nI 0)]))) H locs := Y
  generalize (va_up f31 o (.inr (2, [.null, .null, .int (nI 0), .int (nI 0), .ref q1, .ref (T.1 0), .null, .int (nI 0), .int (nI 0), .int (nI 0), .int (nI 0), .int (nI 0), .null, .null, .null, .int (nI 0), .int (nI 0), .long 0, .null, .long 0, .int (nI 0)]))) = f36 at Y e37 e38 e39 hF40
  refine lv_aload_n X.1 X.2.1 d_Ag_init_24 rfl (lv_at hl 0 rfl) ?_
  refine k_getsN X Y KS KR (by decide) d_Ag_init_25 ?_
  refine q_put X.1 X.2.1 X.2.2.1 i_Ag t_Ag t_Ag_ok n_Ag X.2.2.2.1 X.2.2.2.2 Y m29 e37 rfl 6 (by decide) (X.2.2.1 _ lk_Ag_27) (fun _ h9 => h9) rfl (t_Ag_ok 6 (by decide)) rfl rfl (Nat.le_of_ble_eq_true rfl) d_Ag_init_28 (fun H locs Y => ?_)
  have e42 : (va_up f36 o (.inr (2, [.null, .null, .int (nI 0), .int (nI 0), .ref q1, .ref (T.1 0), .ref (T.1 0), .int (nI 0), .int (nI 0), .int (nI 0), .int (nI 0), .int (nI 0), .null, .null, .null, .int (nI 0), .int (nI 0), .long 0, .null, .long 0, .int (nI 0)]))) o = .inr (2, [.null, .null, .int (nI 0), .int (nI 0), .ref q1, .ref (T.1 0), .ref (T.1 0), .int (nI 0), .int (nI 0), .int (nI 0), .int (nI 0), .int (nI 0), .null, .null, .null, .int (nI 0), .int (nI 0), .long 0, .null, .long 0, .int (nI 0)]) := q_up
  have e43 : (va_up f36 o (.inr (2, [.null, .null, .int (nI 0), .int (nI 0), .ref q1, .ref (T.1 0), .ref (T.1 0), .int (nI 0), .int (nI 0), .int (nI 0), .int (nI 0), .int (nI 0), .null, .null, .null, .int (nI 0), .int (nI 0), .long 0, .null, .long 0, .int (nI 0)]))) q1 = .inr (3, [.ref q18, .int (nI 0)]) := (q_ne (q_tag e38 e37 (show (3 : Nat) ≠ 2 by decide))).trans e38
  have e44 : (va_up f36 o (.inr (2, [.null, .null, .int (nI 0), .int (nI 0), .ref q1, .ref (T.1 0), .ref (T.1 0), .int (nI 0), .int (nI 0), .int (nI 0), .int (nI 0), .int (nI 0), .null, .null, .null, .int (nI 0), .int (nI 0), .long 0, .null, .long 0, .int (nI 0)]))) q18 = .inl (E.1, 40, .inl g19) := (q_ne (q_tag e39 e37 (show (1000 : Nat) ≠ 2 by decide))).trans e39
  have hF45 : ∀ x, x ∈ L → x ≠ o → (va_up f36 o (.inr (2, [.null, .null, .int (nI 0), .int (nI 0), .ref q1, .ref (T.1 0), .ref (T.1 0), .int (nI 0), .int (nI 0), .int (nI 0), .int (nI 0), .int (nI 0), .null, .null, .null, .int (nI 0), .int (nI 0), .long 0, .null, .long 0, .int (nI 0)]))) x = f x := fun x hx h0 => (q_ne h0).trans (hF40 x hx h0)
  have Y : pH D cCl (pA L sz) s.heap L14 (va_up f36 o (.inr (2, [.null, .null, .int (nI 0), .int (nI 0), .ref q1, .ref (T.1 0), .ref (T.1 0), .int (nI 0), .int (nI 0), .int (nI 0), .int (nI 0), .int (nI 0), .null, .null, .null, .int (nI 0), .int (nI 0), .long 0, .null, .long 0, .int (nI 0)]))) H locs := Y
  generalize (va_up f36 o (.inr (2, [.null, .null, .int (nI 0), .int (nI 0), .ref q1, .ref (T.1 0), .ref (T.1 0), .int (nI 0), .int (nI 0), .int (nI 0), .int (nI 0), .int (nI 0), .null, .null, .null, .int (nI 0), .int (nI 0), .long 0, .null, .long 0, .int (nI 0)]))) = f41 at Y e42 e43 e44 hF45
  refine lv_aload_n X.1 X.2.1 d_Ag_init_31 rfl (lv_at hl 0 rfl) ?_
  refine q_new X.1 X.2.1 X.2.2.1 i_By t_By t_By_ok X.2.2.2.1 (X.2.2.1 _ ck_Ag_9) (X.2.2.1 _ mk_By) (X.2.2.1 _ ini_By) X.2.2.2.2 Y hA (ci := 3) rfl (fs := [.null, .int (nI 0)]) (fun j hj => match j, hj with | 0, _ => rfl | 1, _ => rfl | n9 + 2, h9 => absurd (show n9 + 2 < 2 from h9) (by omega)) (show 2 + 1 ≤ 47 by omega) (show 42 + 2 ≤ (566) by omega) d_Ag_init_32 (fun q46 H hqq46 Y => ?_)
  have Y : pH D cCl (pA L sz) s.heap (L14 ++ [q46]) (va_up f41 q46 (.inr (3, [.null, .int (nI 0)]))) H locs := Y
  have e53 : (va_up f41 q46 (.inr (3, [.null, .int (nI 0)]))) q46 = .inr (3, [.null, .int (nI 0)]) := q_up
  have e54 : (va_up f41 q46 (.inr (3, [.null, .int (nI 0)]))) o = .inr (2, [.null, .null, .int (nI 0), .int (nI 0), .ref q1, .ref (T.1 0), .ref (T.1 0), .int (nI 0), .int (nI 0), .int (nI 0), .int (nI 0), .int (nI 0), .null, .null, .null, .int (nI 0), .int (nI 0), .long 0, .null, .long 0, .int (nI 0)]) := (q_ne (ne_mem hqq46 m29)).trans e42
  have e55 : (va_up f41 q46 (.inr (3, [.null, .int (nI 0)]))) q1 = .inr (3, [.ref q18, .int (nI 0)]) := (q_ne (ne_mem hqq46 m30)).trans e43
  have e56 : (va_up f41 q46 (.inr (3, [.null, .int (nI 0)]))) q18 = .inl (E.1, 40, .inl g19) := (q_ne (ne_mem hqq46 m20)).trans e44
  have nl51 : q46 ∉ L := fun h9 => hqq46 (s27 _ h9)
  have hF57 : ∀ x, x ∈ L → x ≠ o → (va_up f41 q46 (.inr (3, [.null, .int (nI 0)]))) x = f x := fun x hx h0 => (q_ne (ne_mem nl51 hx)).trans (hF45 x hx h0)
  generalize (va_up f41 q46 (.inr (3, [.null, .int (nI 0)]))) = f52 at Y e53 e54 e55 e56 hF57
  have s49 : ∀ x, x ∈ L → x ∈ L14 ++ [q46] := fun x hx => List.mem_append_left _ (s27 x hx)
  have m58 : o ∈ L14 ++ [q46] := List.mem_append_left _ m29
  have m59 : q1 ∈ L14 ++ [q46] := List.mem_append_left _ m30
  have m60 : q18 ∈ L14 ++ [q46] := List.mem_append_left _ m20
  have m50 : q46 ∈ L14 ++ [q46] := List.mem_append_right _ (List.mem_singleton.mpr rfl)
  generalize L14 ++ [q46] = L47 at Y s49 m58 m59 m60 m50
  refine lv_dup X.1 X.2.1 d_Ag_init_35 rfl ?_
  refine lv_bipush (v := (nI 40)) X.1 X.2.1 d_Ag_init_36 (by decide) ?_
  refine x_v (x_runI (As := [.int (nI 40)]) (rest := [.ref q46, .ref o]) (n := 1) X hml hl.1 (c_By_init l D E T L47 f52 H.size (40) q46 m50 e53 (by omega)) (ok_k X Y hA KS KR) kl_Ag_By_init ks_By_init ki_By_init ini_By rfl ⟨rfl, rfl⟩ hd_By_init.2 ⟨by decide, by decide⟩ rfl (Nat.le_of_ble_eq_true rfl) d_Ag_init_38 ⟨(show 3 + 1 ≤ 47 by omega), (show 44 + (40) ≤ (566) by omega)⟩) X Y hA (fun u H locs hp Y => ?_)
  obtain ⟨L63, f62⟩ := u
  obtain ⟨eL65, hF64, q67, g68, m69, nl70, hg71, e72, e73⟩ := hp
  dsimp only at eL65 hF64 m69 e72 e73 Y
  have e74 : f62 o = .inr (2, [.null, .null, .int (nI 0), .int (nI 0), .ref q1, .ref (T.1 0), .ref (T.1 0), .int (nI 0), .int (nI 0), .int (nI 0), .int (nI 0), .int (nI 0), .null, .null, .null, .int (nI 0), .int (nI 0), .long 0, .null, .long 0, .int (nI 0)]) := (hF64 o m58 (q_tag e54 e53 (show (2 : Nat) ≠ 3 by decide))).trans e54
  have e75 : f62 q1 = .inr (3, [.ref q18, .int (nI 0)]) := (hF64 q1 m59 (ne_mem hqq46 m30)).trans e55
  have e76 : f62 q18 = .inl (E.1, 40, .inl g19) := (hF64 q18 m60 (q_tag e56 e53 (show (1000 : Nat) ≠ 3 by decide))).trans e56
  have hF77 : ∀ x, x ∈ L → x ≠ o → f62 x = f x := fun x hx h0 => (hF64 x (s49 x hx) (ne_mem nl51 hx)).trans (hF57 x hx h0)
  have s78 : ∀ x, x ∈ L → x ∈ L63 := fun x hx => eL65 x (s49 x hx)
  have nl79 : q67 ∉ L := fun h9 => nl70 (s49 _ h9)
  have m80 : o ∈ L63 := eL65 _ m58
  have m81 : q1 ∈ L63 := eL65 _ m59
  have m82 : q18 ∈ L63 := eL65 _ m60
  have m83 : q46 ∈ L63 := eL65 _ m50
  refine q_putF X.1 X.2.1 X.2.2.1 i_Ag t_Ag t_Ag_ok n_Ag X.2.2.2.1 X.2.2.2.2 Y m80 e74 rfl 12 (by decide) (X.2.2.1 _ lk_Ag_30) (fun _ h9 => h9) rfl hin rfl (t_Ag_ok 12 (by decide)) rfl rfl (Nat.le_of_ble_eq_true rfl) d_Ag_init_41 (fun H locs Y => ?_)
  have e85 : (va_up f62 o (.inr (2, [.null, .null, .int (nI 0), .int (nI 0), .ref q1, .ref (T.1 0), .ref (T.1 0), .int (nI 0), .int (nI 0), .int (nI 0), .int (nI 0), .int (nI 0), .ref q46, .null, .null, .int (nI 0), .int (nI 0), .long 0, .null, .long 0, .int (nI 0)]))) o = .inr (2, [.null, .null, .int (nI 0), .int (nI 0), .ref q1, .ref (T.1 0), .ref (T.1 0), .int (nI 0), .int (nI 0), .int (nI 0), .int (nI 0), .int (nI 0), .ref q46, .null, .null, .int (nI 0), .int (nI 0), .long 0, .null, .long 0, .int (nI 0)]) := q_up
  have e86 : (va_up f62 o (.inr (2, [.null, .null, .int (nI 0), .int (nI 0), .ref q1, .ref (T.1 0), .ref (T.1 0), .int (nI 0), .int (nI 0), .int (nI 0), .int (nI 0), .int (nI 0), .ref q46, .null, .null, .int (nI 0), .int (nI 0), .long 0, .null, .long 0, .int (nI 0)]))) q1 = .inr (3, [.ref q18, .int (nI 0)]) := (q_ne (q_tag e75 e74 (show (3 : Nat) ≠ 2 by decide))).trans e75
  have e87 : (va_up f62 o (.inr (2, [.null, .null, .int (nI 0), .int (nI 0), .ref q1, .ref (T.1 0), .ref (T.1 0), .int (nI 0), .int (nI 0), .int (nI 0), .int (nI 0), .int (nI 0), .ref q46, .null, .null, .int (nI 0), .int (nI 0), .long 0, .null, .long 0, .int (nI 0)]))) q18 = .inl (E.1, 40, .inl g19) := (q_ne (q_tag e76 e74 (show (1000 : Nat) ≠ 2 by decide))).trans e76
  have e88 : (va_up f62 o (.inr (2, [.null, .null, .int (nI 0), .int (nI 0), .ref q1, .ref (T.1 0), .ref (T.1 0), .int (nI 0), .int (nI 0), .int (nI 0), .int (nI 0), .int (nI 0), .ref q46, .null, .null, .int (nI 0), .int (nI 0), .long 0, .null, .long 0, .int (nI 0)]))) q46 = .inr (3, [.ref q67, .int (nI 0)]) := (q_ne (q_tag e72 e74 (show (3 : Nat) ≠ 2 by decide))).trans e72
  have e89 : (va_up f62 o (.inr (2, [.null, .null, .int (nI 0), .int (nI 0), .ref q1, .ref (T.1 0), .ref (T.1 0), .int (nI 0), .int (nI 0), .int (nI 0), .int (nI 0), .int (nI 0), .ref q46, .null, .null, .int (nI 0), .int (nI 0), .long 0, .null, .long 0, .int (nI 0)]))) q67 = .inl (E.1, 40, .inl g68) := (q_ne (q_tag e73 e74 (show (1000 : Nat) ≠ 2 by decide))).trans e73
  have hF90 : ∀ x, x ∈ L → x ≠ o → (va_up f62 o (.inr (2, [.null, .null, .int (nI 0), .int (nI 0), .ref q1, .ref (T.1 0), .ref (T.1 0), .int (nI 0), .int (nI 0), .int (nI 0), .int (nI 0), .int (nI 0), .ref q46, .null, .null, .int (nI 0), .int (nI 0), .long 0, .null, .long 0, .int (nI 0)]))) x = f x := fun x hx h0 => (q_ne h0).trans (hF77 x hx h0)
  have Y : pH D cCl (pA L sz) s.heap L63 (va_up f62 o (.inr (2, [.null, .null, .int (nI 0), .int (nI 0), .ref q1, .ref (T.1 0), .ref (T.1 0), .int (nI 0), .int (nI 0), .int (nI 0), .int (nI 0), .int (nI 0), .ref q46, .null, .null, .int (nI 0), .int (nI 0), .long 0, .null, .long 0, .int (nI 0)]))) H locs := Y
  generalize (va_up f62 o (.inr (2, [.null, .null, .int (nI 0), .int (nI 0), .ref q1, .ref (T.1 0), .ref (T.1 0), .int (nI 0), .int (nI 0), .int (nI 0), .int (nI 0), .int (nI 0), .ref q46, .null, .null, .int (nI 0), .int (nI 0), .long 0, .null, .long 0, .int (nI 0)]))) = f84 at Y e85 e86 e87 e88 e89 hF90
  refine lv_aload_n X.1 X.2.1 d_Ag_init_44 rfl (lv_at hl 0 rfl) ?_
  refine q_new X.1 X.2.1 X.2.2.1 i_By t_By t_By_ok X.2.2.2.1 (X.2.2.1 _ ck_Ag_9) (X.2.2.1 _ mk_By) (X.2.2.1 _ ini_By) X.2.2.2.2 Y hA (ci := 3) rfl (fs := [.null, .int (nI 0)]) (fun j hj => match j, hj with | 0, _ => rfl | 1, _ => rfl | n9 + 2, h9 => absurd (show n9 + 2 < 2 from h9) (by omega)) (show 4 + 1 ≤ 47 by omega) (show 84 + 2 ≤ (566) by omega) d_Ag_init_45 (fun q91 H hqq91 Y => ?_)
  have Y : pH D cCl (pA L sz) s.heap (L63 ++ [q91]) (va_up f84 q91 (.inr (3, [.null, .int (nI 0)]))) H locs := Y
  have e98 : (va_up f84 q91 (.inr (3, [.null, .int (nI 0)]))) q91 = .inr (3, [.null, .int (nI 0)]) := q_up
  have e99 : (va_up f84 q91 (.inr (3, [.null, .int (nI 0)]))) o = .inr (2, [.null, .null, .int (nI 0), .int (nI 0), .ref q1, .ref (T.1 0), .ref (T.1 0), .int (nI 0), .int (nI 0), .int (nI 0), .int (nI 0), .int (nI 0), .ref q46, .null, .null, .int (nI 0), .int (nI 0), .long 0, .null, .long 0, .int (nI 0)]) := (q_ne (ne_mem hqq91 m80)).trans e85
  have e100 : (va_up f84 q91 (.inr (3, [.null, .int (nI 0)]))) q1 = .inr (3, [.ref q18, .int (nI 0)]) := (q_ne (ne_mem hqq91 m81)).trans e86
  have e101 : (va_up f84 q91 (.inr (3, [.null, .int (nI 0)]))) q18 = .inl (E.1, 40, .inl g19) := (q_ne (ne_mem hqq91 m82)).trans e87
  have e102 : (va_up f84 q91 (.inr (3, [.null, .int (nI 0)]))) q46 = .inr (3, [.ref q67, .int (nI 0)]) := (q_ne (ne_mem hqq91 m83)).trans e88
  have e103 : (va_up f84 q91 (.inr (3, [.null, .int (nI 0)]))) q67 = .inl (E.1, 40, .inl g68) := (q_ne (ne_mem hqq91 m69)).trans e89
  have nl96 : q91 ∉ L := fun h9 => hqq91 (s78 _ h9)
  have hF104 : ∀ x, x ∈ L → x ≠ o → (va_up f84 q91 (.inr (3, [.null, .int (nI 0)]))) x = f x := fun x hx h0 => (q_ne (ne_mem nl96 hx)).trans (hF90 x hx h0)
  generalize (va_up f84 q91 (.inr (3, [.null, .int (nI 0)]))) = f97 at Y e98 e99 e100 e101 e102 e103 hF104
  have s94 : ∀ x, x ∈ L → x ∈ L63 ++ [q91] := fun x hx => List.mem_append_left _ (s78 x hx)
  have m105 : o ∈ L63 ++ [q91] := List.mem_append_left _ m80
  have m106 : q1 ∈ L63 ++ [q91] := List.mem_append_left _ m81
  have m107 : q18 ∈ L63 ++ [q91] := List.mem_append_left _ m82
  have m108 : q46 ∈ L63 ++ [q91] := List.mem_append_left _ m83
  have m109 : q67 ∈ L63 ++ [q91] := List.mem_append_left _ m69
  have m95 : q91 ∈ L63 ++ [q91] := List.mem_append_right _ (List.mem_singleton.mpr rfl)
  generalize L63 ++ [q91] = L92 at Y s94 m105 m106 m107 m108 m109 m95
  refine lv_dup X.1 X.2.1 d_Ag_init_48 rfl ?_
  refine lv_bipush (v := (nI 40)) X.1 X.2.1 d_Ag_init_49 (by decide) ?_
  refine x_v (x_runI (As := [.int (nI 40)]) (rest := [.ref q91, .ref o]) (n := 1) X hml hl.1 (c_By_init l D E T L92 f97 H.size (40) q91 m95 e98 (by omega)) (ok_k X Y hA KS KR) kl_Ag_By_init ks_By_init ki_By_init ini_By rfl ⟨rfl, rfl⟩ hd_By_init.2 ⟨by decide, by decide⟩ rfl (Nat.le_of_ble_eq_true rfl) d_Ag_init_51 ⟨(show 5 + 1 ≤ 47 by omega), (show 86 + (40) ≤ (566) by omega)⟩) X Y hA (fun u H locs hp Y => ?_)
  obtain ⟨L112, f111⟩ := u
  obtain ⟨eL114, hF113, q116, g117, m118, nl119, hg120, e121, e122⟩ := hp
  dsimp only at eL114 hF113 m118 e121 e122 Y
  have e123 : f111 o = .inr (2, [.null, .null, .int (nI 0), .int (nI 0), .ref q1, .ref (T.1 0), .ref (T.1 0), .int (nI 0), .int (nI 0), .int (nI 0), .int (nI 0), .int (nI 0), .ref q46, .null, .null, .int (nI 0), .int (nI 0), .long 0, .null, .long 0, .int (nI 0)]) := (hF113 o m105 (q_tag e99 e98 (show (2 : Nat) ≠ 3 by decide))).trans e99
  have e124 : f111 q1 = .inr (3, [.ref q18, .int (nI 0)]) := (hF113 q1 m106 (ne_mem hqq91 m81)).trans e100
  have e125 : f111 q18 = .inl (E.1, 40, .inl g19) := (hF113 q18 m107 (q_tag e101 e98 (show (1000 : Nat) ≠ 3 by decide))).trans e101
  have e126 : f111 q46 = .inr (3, [.ref q67, .int (nI 0)]) := (hF113 q46 m108 (ne_mem hqq91 m83)).trans e102
  have e127 : f111 q67 = .inl (E.1, 40, .inl g68) := (hF113 q67 m109 (q_tag e103 e98 (show (1000 : Nat) ≠ 3 by decide))).trans e103
  have hF128 : ∀ x, x ∈ L → x ≠ o → f111 x = f x := fun x hx h0 => (hF113 x (s94 x hx) (ne_mem nl96 hx)).trans (hF104 x hx h0)
  have s129 : ∀ x, x ∈ L → x ∈ L112 := fun x hx => eL114 x (s94 x hx)
  have nl130 : q116 ∉ L := fun h9 => nl119 (s94 _ h9)
  have m131 : o ∈ L112 := eL114 _ m105
  have m132 : q1 ∈ L112 := eL114 _ m106
  have m133 : q18 ∈ L112 := eL114 _ m107
  have m134 : q46 ∈ L112 := eL114 _ m108
  have m135 : q67 ∈ L112 := eL114 _ m109
  have m136 : q91 ∈ L112 := eL114 _ m95
  refine q_putF X.1 X.2.1 X.2.2.1 i_Ag t_Ag t_Ag_ok n_Ag X.2.2.2.1 X.2.2.2.2 Y m131 e123 rfl 13 (by decide) (X.2.2.1 _ lk_Ag_33) (fun _ h9 => h9) rfl hin rfl (t_Ag_ok 13 (by decide)) rfl rfl (Nat.le_of_ble_eq_true rfl) d_Ag_init_54 (fun H locs Y => ?_)
  have e138 : (va_up f111 o (.inr (2, [.null, .null, .int (nI 0), .int (nI 0), .ref q1, .ref (T.1 0), .ref (T.1 0), .int (nI 0), .int (nI 0), .int (nI 0), .int (nI 0), .int (nI 0), .ref q46, .ref q91, .null, .int (nI 0), .int (nI 0), .long 0, .null, .long 0, .int (nI 0)]))) o = .inr (2, [.null, .null, .int (nI 0), .int (nI 0), .ref q1, .ref (T.1 0), .ref (T.1 0), .int (nI 0), .int (nI 0), .int (nI 0), .int (nI 0), .int (nI 0), .ref q46, .ref q91, .null, .int (nI 0), .int (nI 0), .long 0, .null, .long 0, .int (nI 0)]) := q_up
  have e139 : (va_up f111 o (.inr (2, [.null, .null, .int (nI 0), .int (nI 0), .ref q1, .ref (T.1 0), .ref (T.1 0), .int (nI 0), .int (nI 0), .int (nI 0), .int (nI 0), .int (nI 0), .ref q46, .ref q91, .null, .int (nI 0), .int (nI 0), .long 0, .null, .long 0, .int (nI 0)]))) q1 = .inr (3, [.ref q18, .int (nI 0)]) := (q_ne (q_tag e124 e123 (show (3 : Nat) ≠ 2 by decide))).trans e124
  have e140 : (va_up f111 o (.inr (2, [.null, .null, .int (nI 0), .int (nI 0), .ref q1, .ref (T.1 0), .ref (T.1 0), .int (nI 0), .int (nI 0), .int (nI 0), .int (nI 0), .int (nI 0), .ref q46, .ref q91, .null, .int (nI 0), .int (nI 0), .long 0, .null, .long 0, .int (nI 0)]))) q18 = .inl (E.1, 40, .inl g19) := (q_ne (q_tag e125 e123 (show (1000 : Nat) ≠ 2 by decide))).trans e125
  have e141 : (va_up f111 o (.inr (2, [.null, .null, .int (nI 0), .int (nI 0), .ref q1, .ref (T.1 0), .ref (T.1 0), .int (nI 0), .int (nI 0), .int (nI 0), .int (nI 0), .int (nI 0), .ref q46, .ref q91, .null, .int (nI 0), .int (nI 0), .long 0, .null, .long 0, .int (nI 0)]))) q46 = .inr (3, [.ref q67, .int (nI 0)]) := (q_ne (q_tag e126 e123 (show (3 : Nat) ≠ 2 by decide))).trans e126
  have e142 : (va_up f111 o (.inr (2, [.null, .null, .int (nI 0), .int (nI 0), .ref q1, .ref (T.1 0), .ref (T.1 0), .int (nI 0), .int (nI 0), .int (nI 0), .int (nI 0), .int (nI 0), .ref q46, .ref q91, .null, .int (nI 0), .int (nI 0), .long 0, .null, .long 0, .int (nI 0)]))) q67 = .inl (E.1, 40, .inl g68) := (q_ne (q_tag e127 e123 (show (1000 : Nat) ≠ 2 by decide))).trans e127
  have e143 : (va_up f111 o (.inr (2, [.null, .null, .int (nI 0), .int (nI 0), .ref q1, .ref (T.1 0), .ref (T.1 0), .int (nI 0), .int (nI 0), .int (nI 0), .int (nI 0), .int (nI 0), .ref q46, .ref q91, .null, .int (nI 0), .int (nI 0), .long 0, .null, .long 0, .int (nI 0)]))) q91 = .inr (3, [.ref q116, .int (nI 0)]) := (q_ne (q_tag e121 e123 (show (3 : Nat) ≠ 2 by decide))).trans e121
  have e144 : (va_up f111 o (.inr (2, [.null, .null, .int (nI 0), .int (nI 0), .ref q1, .ref (T.1 0), .ref (T.1 0), .int (nI 0), .int (nI 0), .int (nI 0), .int (nI 0), .int (nI 0), .ref q46, .ref q91, .null, .int (nI 0), .int (nI 0), .long 0, .null, .long 0, .int (nI 0)]))) q116 = .inl (E.1, 40, .inl g117) := (q_ne (q_tag e122 e123 (show (1000 : Nat) ≠ 2 by decide))).trans e122
  have hF145 : ∀ x, x ∈ L → x ≠ o → (va_up f111 o (.inr (2, [.null, .null, .int (nI 0), .int (nI 0), .ref q1, .ref (T.1 0), .ref (T.1 0), .int (nI 0), .int (nI 0), .int (nI 0), .int (nI 0), .int (nI 0), .ref q46, .ref q91, .null, .int (nI 0), .int (nI 0), .long 0, .null, .long 0, .int (nI 0)]))) x = f x := fun x hx h0 => (q_ne h0).trans (hF128 x hx h0)
  have Y : pH D cCl (pA L sz) s.heap L112 (va_up f111 o (.inr (2, [.null, .null, .int (nI 0), .int (nI 0), .ref q1, .ref (T.1 0), .ref (T.1 0), .int (nI 0), .int (nI 0), .int (nI 0), .int (nI 0), .int (nI 0), .ref q46, .ref q91, .null, .int (nI 0), .int (nI 0), .long 0, .null, .long 0, .int (nI 0)]))) H locs := Y
  generalize (va_up f111 o (.inr (2, [.null, .null, .int (nI 0), .int (nI 0), .ref q1, .ref (T.1 0), .ref (T.1 0), .int (nI 0), .int (nI 0), .int (nI 0), .int (nI 0), .int (nI 0), .ref q46, .ref q91, .null, .int (nI 0), .int (nI 0), .long 0, .null, .long 0, .int (nI 0)]))) = f137 at Y e138 e139 e140 e141 e142 e143 e144 hF145
  refine lv_aload_n X.1 X.2.1 d_Ag_init_57 rfl (lv_at hl 0 rfl) ?_
  refine k_getsN X Y KS KR (by decide) d_Ag_init_58 ?_
  refine q_put X.1 X.2.1 X.2.2.1 i_Ag t_Ag t_Ag_ok n_Ag X.2.2.2.1 X.2.2.2.2 Y m131 e138 rfl 14 (by decide) (X.2.2.1 _ lk_Ag_36) (fun _ h9 => h9) rfl (t_Ag_ok 14 (by decide)) rfl rfl (Nat.le_of_ble_eq_true rfl) d_Ag_init_61 (fun H locs Y => ?_)
  have e147 : (va_up f137 o (.inr (2, [.null, .null, .int (nI 0), .int (nI 0), .ref q1, .ref (T.1 0), .ref (T.1 0), .int (nI 0), .int (nI 0), .int (nI 0), .int (nI 0), .int (nI 0), .ref q46, .ref q91, .ref (T.1 0), .int (nI 0), .int (nI 0), .long 0, .null, .long 0, .int (nI 0)]))) o = .inr (2, [.null, .null, .int (nI 0), .int (nI 0), .ref q1, .ref (T.1 0), .ref (T.1 0), .int (nI 0), .int (nI 0), .int (nI 0), .int (nI 0), .int (nI 0), .ref q46, .ref q91, .ref (T.1 0), .int (nI 0), .int (nI 0), .long 0, .null, .long 0, .int (nI 0)]) := q_up
  have e148 : (va_up f137 o (.inr (2, [.null, .null, .int (nI 0), .int (nI 0), .ref q1, .ref (T.1 0), .ref (T.1 0), .int (nI 0), .int (nI 0), .int (nI 0), .int (nI 0), .int (nI 0), .ref q46, .ref q91, .ref (T.1 0), .int (nI 0), .int (nI 0), .long 0, .null, .long 0, .int (nI 0)]))) q1 = .inr (3, [.ref q18, .int (nI 0)]) := (q_ne (q_tag e139 e138 (show (3 : Nat) ≠ 2 by decide))).trans e139
  have e149 : (va_up f137 o (.inr (2, [.null, .null, .int (nI 0), .int (nI 0), .ref q1, .ref (T.1 0), .ref (T.1 0), .int (nI 0), .int (nI 0), .int (nI 0), .int (nI 0), .int (nI 0), .ref q46, .ref q91, .ref (T.1 0), .int (nI 0), .int (nI 0), .long 0, .null, .long 0, .int (nI 0)]))) q18 = .inl (E.1, 40, .inl g19) := (q_ne (q_tag e140 e138 (show (1000 : Nat) ≠ 2 by decide))).trans e140
  have e150 : (va_up f137 o (.inr (2, [.null, .null, .int (nI 0), .int (nI 0), .ref q1, .ref (T.1 0), .ref (T.1 0), .int (nI 0), .int (nI 0), .int (nI 0), .int (nI 0), .int (nI 0), .ref q46, .ref q91, .ref (T.1 0), .int (nI 0), .int (nI 0), .long 0, .null, .long 0, .int (nI 0)]))) q46 = .inr (3, [.ref q67, .int (nI 0)]) := (q_ne (q_tag e141 e138 (show (3 : Nat) ≠ 2 by decide))).trans e141
  have e151 : (va_up f137 o (.inr (2, [.null, .null, .int (nI 0), .int (nI 0), .ref q1, .ref (T.1 0), .ref (T.1 0), .int (nI 0), .int (nI 0), .int (nI 0), .int (nI 0), .int (nI 0), .ref q46, .ref q91, .ref (T.1 0), .int (nI 0), .int (nI 0), .long 0, .null, .long 0, .int (nI 0)]))) q67 = .inl (E.1, 40, .inl g68) := (q_ne (q_tag e142 e138 (show (1000 : Nat) ≠ 2 by decide))).trans e142
  have e152 : (va_up f137 o (.inr (2, [.null, .null, .int (nI 0), .int (nI 0), .ref q1, .ref (T.1 0), .ref (T.1 0), .int (nI 0), .int (nI 0), .int (nI 0), .int (nI 0), .int (nI 0), .ref q46, .ref q91, .ref (T.1 0), .int (nI 0), .int (nI 0), .long 0, .null, .long 0, .int (nI 0)]))) q91 = .inr (3, [.ref q116, .int (nI 0)]) := (q_ne (q_tag e143 e138 (show (3 : Nat) ≠ 2 by decide))).trans e143
  have e153 : (va_up f137 o (.inr (2, [.null, .null, .int (nI 0), .int (nI 0), .ref q1, .ref (T.1 0), .ref (T.1 0), .int (nI 0), .int (nI 0), .int (nI 0), .int (nI 0), .int (nI 0), .ref q46, .ref q91, .ref (T.1 0), .int (nI 0), .int (nI 0), .long 0, .null, .long 0, .int (nI 0)]))) q116 = .inl (E.1, 40, .inl g117) := (q_ne (q_tag e144 e138 (show (1000 : Nat) ≠ 2 by decide))).trans e144
  have hF154 : ∀ x, x ∈ L → x ≠ o → (va_up f137 o (.inr (2, [.null, .null, .int (nI 0), .int (nI 0), .ref q1, .ref (T.1 0), .ref (T.1 0), .int (nI 0), .int (nI 0), .int (nI 0), .int (nI 0), .int (nI 0), .ref q46, .ref q91, .ref (T.1 0), .int (nI 0), .int (nI 0), .long 0, .null, .long 0, .int (nI 0)]))) x = f x := fun x hx h0 => (q_ne h0).trans (hF145 x hx h0)
  have Y : pH D cCl (pA L sz) s.heap L112 (va_up f137 o (.inr (2, [.null, .null, .int (nI 0), .int (nI 0), .ref q1, .ref (T.1 0), .ref (T.1 0), .int (nI 0), .int (nI 0), .int (nI 0), .int (nI 0), .int (nI 0), .ref q46, .ref q91, .ref (T.1 0), .int (nI 0), .int (nI 0), .long 0, .null, .long 0, .int (nI 0)]))) H locs := Y
  generalize (va_up f137 o (.inr (2, [.null, .null, .int (nI 0), .int (nI 0), .ref q1, .ref (T.1 0), .ref (T.1 0), .int (nI 0), .int (nI 0), .int (nI 0), .int (nI 0), .int (nI 0), .ref q46, .ref q91, .ref (T.1 0), .int (nI 0), .int (nI 0), .long 0, .null, .long 0, .int (nI 0)]))) = f146 at Y e147 e148 e149 e150 e151 e152 e153 hF154
  refine lv_aload_n X.1 X.2.1 d_Ag_init_64 rfl (lv_at hl 0 rfl) ?_
  refine k_getsN X Y KS KR (by decide) d_Ag_init_65 ?_
  refine q_put X.1 X.2.1 X.2.2.1 i_Ag t_Ag t_Ag_ok n_Ag X.2.2.2.1 X.2.2.2.2 Y m131 e147 rfl 18 (by decide) (X.2.2.1 _ lk_Ag_39) (fun _ h9 => h9) rfl (t_Ag_ok 18 (by decide)) rfl rfl (Nat.le_of_ble_eq_true rfl) d_Ag_init_68 (fun H locs Y => ?_)
  have e156 : (va_up f146 o (.inr (2, [.null, .null, .int (nI 0), .int (nI 0), .ref q1, .ref (T.1 0), .ref (T.1 0), .int (nI 0), .int (nI 0), .int (nI 0), .int (nI 0), .int (nI 0), .ref q46, .ref q91, .ref (T.1 0), .int (nI 0), .int (nI 0), .long 0, .ref (T.1 0), .long 0, .int (nI 0)]))) o = .inr (2, [.null, .null, .int (nI 0), .int (nI 0), .ref q1, .ref (T.1 0), .ref (T.1 0), .int (nI 0), .int (nI 0), .int (nI 0), .int (nI 0), .int (nI 0), .ref q46, .ref q91, .ref (T.1 0), .int (nI 0), .int (nI 0), .long 0, .ref (T.1 0), .long 0, .int (nI 0)]) := q_up
  have e157 : (va_up f146 o (.inr (2, [.null, .null, .int (nI 0), .int (nI 0), .ref q1, .ref (T.1 0), .ref (T.1 0), .int (nI 0), .int (nI 0), .int (nI 0), .int (nI 0), .int (nI 0), .ref q46, .ref q91, .ref (T.1 0), .int (nI 0), .int (nI 0), .long 0, .ref (T.1 0), .long 0, .int (nI 0)]))) q1 = .inr (3, [.ref q18, .int (nI 0)]) := (q_ne (q_tag e148 e147 (show (3 : Nat) ≠ 2 by decide))).trans e148
  have e158 : (va_up f146 o (.inr (2, [.null, .null, .int (nI 0), .int (nI 0), .ref q1, .ref (T.1 0), .ref (T.1 0), .int (nI 0), .int (nI 0), .int (nI 0), .int (nI 0), .int (nI 0), .ref q46, .ref q91, .ref (T.1 0), .int (nI 0), .int (nI 0), .long 0, .ref (T.1 0), .long 0, .int (nI 0)]))) q18 = .inl (E.1, 40, .inl g19) := (q_ne (q_tag e149 e147 (show (1000 : Nat) ≠ 2 by decide))).trans e149
  have e159 : (va_up f146 o (.inr (2, [.null, .null, .int (nI 0), .int (nI 0), .ref q1, .ref (T.1 0), .ref (T.1 0), .int (nI 0), .int (nI 0), .int (nI 0), .int (nI 0), .int (nI 0), .ref q46, .ref q91, .ref (T.1 0), .int (nI 0), .int (nI 0), .long 0, .ref (T.1 0), .long 0, .int (nI 0)]))) q46 = .inr (3, [.ref q67, .int (nI 0)]) := (q_ne (q_tag e150 e147 (show (3 : Nat) ≠ 2 by decide))).trans e150
  have e160 : (va_up f146 o (.inr (2, [.null, .null, .int (nI 0), .int (nI 0), .ref q1, .ref (T.1 0), .ref (T.1 0), .int (nI 0), .int (nI 0), .int (nI 0), .int (nI 0), .int (nI 0), .ref q46, .ref q91, .ref (T.1 0), .int (nI 0), .int (nI 0), .long 0, .ref (T.1 0), .long 0, .int (nI 0)]))) q67 = .inl (E.1, 40, .inl g68) := (q_ne (q_tag e151 e147 (show (1000 : Nat) ≠ 2 by decide))).trans e151
  have e161 : (va_up f146 o (.inr (2, [.null, .null, .int (nI 0), .int (nI 0), .ref q1, .ref (T.1 0), .ref (T.1 0), .int (nI 0), .int (nI 0), .int (nI 0), .int (nI 0), .int (nI 0), .ref q46, .ref q91, .ref (T.1 0), .int (nI 0), .int (nI 0), .long 0, .ref (T.1 0), .long 0, .int (nI 0)]))) q91 = .inr (3, [.ref q116, .int (nI 0)]) := (q_ne (q_tag e152 e147 (show (3 : Nat) ≠ 2 by decide))).trans e152
  have e162 : (va_up f146 o (.inr (2, [.null, .null, .int (nI 0), .int (nI 0), .ref q1, .ref (T.1 0), .ref (T.1 0), .int (nI 0), .int (nI 0), .int (nI 0), .int (nI 0), .int (nI 0), .ref q46, .ref q91, .ref (T.1 0), .int (nI 0), .int (nI 0), .long 0, .ref (T.1 0), .long 0, .int (nI 0)]))) q116 = .inl (E.1, 40, .inl g117) := (q_ne (q_tag e153 e147 (show (1000 : Nat) ≠ 2 by decide))).trans e153
  have hF163 : ∀ x, x ∈ L → x ≠ o → (va_up f146 o (.inr (2, [.null, .null, .int (nI 0), .int (nI 0), .ref q1, .ref (T.1 0), .ref (T.1 0), .int (nI 0), .int (nI 0), .int (nI 0), .int (nI 0), .int (nI 0), .ref q46, .ref q91, .ref (T.1 0), .int (nI 0), .int (nI 0), .long 0, .ref (T.1 0), .long 0, .int (nI 0)]))) x = f x := fun x hx h0 => (q_ne h0).trans (hF154 x hx h0)
  have Y : pH D cCl (pA L sz) s.heap L112 (va_up f146 o (.inr (2, [.null, .null, .int (nI 0), .int (nI 0), .ref q1, .ref (T.1 0), .ref (T.1 0), .int (nI 0), .int (nI 0), .int (nI 0), .int (nI 0), .int (nI 0), .ref q46, .ref q91, .ref (T.1 0), .int (nI 0), .int (nI 0), .long 0, .ref (T.1 0), .long 0, .int (nI 0)]))) H locs := Y
  generalize (va_up f146 o (.inr (2, [.null, .null, .int (nI 0), .int (nI 0), .ref q1, .ref (T.1 0), .ref (T.1 0), .int (nI 0), .int (nI 0), .int (nI 0), .int (nI 0), .int (nI 0), .ref q46, .ref q91, .ref (T.1 0), .int (nI 0), .int (nI 0), .long 0, .ref (T.1 0), .long 0, .int (nI 0)]))) = f155 at Y e156 e157 e158 e159 e160 e161 e162 hF163
  refine lv_aload_n X.1 X.2.1 d_Ag_init_71 rfl (lv_at hl 0 rfl) ?_
  refine lv_aload_n X.1 X.2.1 d_Ag_init_72 rfl (lv_at hl 1 rfl) ?_
  refine q_putF X.1 X.2.1 X.2.2.1 i_Ag t_Ag t_Ag_ok n_Ag X.2.2.2.1 X.2.2.2.2 Y m131 e156 rfl 0 (by decide) (X.2.2.1 _ lk_Ag_42) (fun _ h9 => h9) rfl hin rfl (t_Ag_ok 0 (by decide)) rfl rfl (Nat.le_of_ble_eq_true rfl) d_Ag_init_73 (fun H locs Y => ?_)
  have e165 : (va_up f155 o (.inr (2, [.ref vo, .null, .int (nI 0), .int (nI 0), .ref q1, .ref (T.1 0), .ref (T.1 0), .int (nI 0), .int (nI 0), .int (nI 0), .int (nI 0), .int (nI 0), .ref q46, .ref q91, .ref (T.1 0), .int (nI 0), .int (nI 0), .long 0, .ref (T.1 0), .long 0, .int (nI 0)]))) o = .inr (2, [.ref vo, .null, .int (nI 0), .int (nI 0), .ref q1, .ref (T.1 0), .ref (T.1 0), .int (nI 0), .int (nI 0), .int (nI 0), .int (nI 0), .int (nI 0), .ref q46, .ref q91, .ref (T.1 0), .int (nI 0), .int (nI 0), .long 0, .ref (T.1 0), .long 0, .int (nI 0)]) := q_up
  have e166 : (va_up f155 o (.inr (2, [.ref vo, .null, .int (nI 0), .int (nI 0), .ref q1, .ref (T.1 0), .ref (T.1 0), .int (nI 0), .int (nI 0), .int (nI 0), .int (nI 0), .int (nI 0), .ref q46, .ref q91, .ref (T.1 0), .int (nI 0), .int (nI 0), .long 0, .ref (T.1 0), .long 0, .int (nI 0)]))) q1 = .inr (3, [.ref q18, .int (nI 0)]) := (q_ne (q_tag e157 e156 (show (3 : Nat) ≠ 2 by decide))).trans e157
  have e167 : (va_up f155 o (.inr (2, [.ref vo, .null, .int (nI 0), .int (nI 0), .ref q1, .ref (T.1 0), .ref (T.1 0), .int (nI 0), .int (nI 0), .int (nI 0), .int (nI 0), .int (nI 0), .ref q46, .ref q91, .ref (T.1 0), .int (nI 0), .int (nI 0), .long 0, .ref (T.1 0), .long 0, .int (nI 0)]))) q18 = .inl (E.1, 40, .inl g19) := (q_ne (q_tag e158 e156 (show (1000 : Nat) ≠ 2 by decide))).trans e158
  have e168 : (va_up f155 o (.inr (2, [.ref vo, .null, .int (nI 0), .int (nI 0), .ref q1, .ref (T.1 0), .ref (T.1 0), .int (nI 0), .int (nI 0), .int (nI 0), .int (nI 0), .int (nI 0), .ref q46, .ref q91, .ref (T.1 0), .int (nI 0), .int (nI 0), .long 0, .ref (T.1 0), .long 0, .int (nI 0)]))) q46 = .inr (3, [.ref q67, .int (nI 0)]) := (q_ne (q_tag e159 e156 (show (3 : Nat) ≠ 2 by decide))).trans e159
  have e169 : (va_up f155 o (.inr (2, [.ref vo, .null, .int (nI 0), .int (nI 0), .ref q1, .ref (T.1 0), .ref (T.1 0), .int (nI 0), .int (nI 0), .int (nI 0), .int (nI 0), .int (nI 0), .ref q46, .ref q91, .ref (T.1 0), .int (nI 0), .int (nI 0), .long 0, .ref (T.1 0), .long 0, .int (nI 0)]))) q67 = .inl (E.1, 40, .inl g68) := (q_ne (q_tag e160 e156 (show (1000 : Nat) ≠ 2 by decide))).trans e160
  have e170 : (va_up f155 o (.inr (2, [.ref vo, .null, .int (nI 0), .int (nI 0), .ref q1, .ref (T.1 0), .ref (T.1 0), .int (nI 0), .int (nI 0), .int (nI 0), .int (nI 0), .int (nI 0), .ref q46, .ref q91, .ref (T.1 0), .int (nI 0), .int (nI 0), .long 0, .ref (T.1 0), .long 0, .int (nI 0)]))) q91 = .inr (3, [.ref q116, .int (nI 0)]) := (q_ne (q_tag e161 e156 (show (3 : Nat) ≠ 2 by decide))).trans e161
  have e171 : (va_up f155 o (.inr (2, [.ref vo, .null, .int (nI 0), .int (nI 0), .ref q1, .ref (T.1 0), .ref (T.1 0), .int (nI 0), .int (nI 0), .int (nI 0), .int (nI 0), .int (nI 0), .ref q46, .ref q91, .ref (T.1 0), .int (nI 0), .int (nI 0), .long 0, .ref (T.1 0), .long 0, .int (nI 0)]))) q116 = .inl (E.1, 40, .inl g117) := (q_ne (q_tag e162 e156 (show (1000 : Nat) ≠ 2 by decide))).trans e162
  have hF172 : ∀ x, x ∈ L → x ≠ o → (va_up f155 o (.inr (2, [.ref vo, .null, .int (nI 0), .int (nI 0), .ref q1, .ref (T.1 0), .ref (T.1 0), .int (nI 0), .int (nI 0), .int (nI 0), .int (nI 0), .int (nI 0), .ref q46, .ref q91, .ref (T.1 0), .int (nI 0), .int (nI 0), .long 0, .ref (T.1 0), .long 0, .int (nI 0)]))) x = f x := fun x hx h0 => (q_ne h0).trans (hF163 x hx h0)
  have Y : pH D cCl (pA L sz) s.heap L112 (va_up f155 o (.inr (2, [.ref vo, .null, .int (nI 0), .int (nI 0), .ref q1, .ref (T.1 0), .ref (T.1 0), .int (nI 0), .int (nI 0), .int (nI 0), .int (nI 0), .int (nI 0), .ref q46, .ref q91, .ref (T.1 0), .int (nI 0), .int (nI 0), .long 0, .ref (T.1 0), .long 0, .int (nI 0)]))) H locs := Y
  generalize (va_up f155 o (.inr (2, [.ref vo, .null, .int (nI 0), .int (nI 0), .ref q1, .ref (T.1 0), .ref (T.1 0), .int (nI 0), .int (nI 0), .int (nI 0), .int (nI 0), .int (nI 0), .ref q46, .ref q91, .ref (T.1 0), .int (nI 0), .int (nI 0), .long 0, .ref (T.1 0), .long 0, .int (nI 0)]))) = f164 at Y e165 e166 e167 e168 e169 e170 e171 hF172
  refine lv_aload_n X.1 X.2.1 d_Ag_init_76 rfl (lv_at hl 0 rfl) ?_
  refine lv_bipush (v := (nI 8)) X.1 X.2.1 d_Ag_init_77 (by decide) ?_
  refine q_anew X.1 X.2.1 X.2.2.2.1 (X.2.2.1 _ ck_Ag_46) (KR.2.2.2 _ (by decide)) X.2.2.2.2 5 (cE := E.2.2.2.2.2) rfl Y hA (nI_pos (by omega)) (nI_clamp (by omega)) (by decide) (show 6 + 1 ≤ 47 by omega) (show 126 + 8 ≤ (566) by omega) d_Ag_init_79 (fun q173 H hqq173 Y => ?_)
  have Y : pH D cCl (pA L sz) s.heap (L112 ++ [q173]) (va_up f164 q173 (.inl (E.2.2.2.2.2, 8, .inr (.inr (.inr (.inr (fun _ => none))))))) H locs := Y
  have e180 : (va_up f164 q173 (.inl (E.2.2.2.2.2, 8, .inr (.inr (.inr (.inr (fun _ => none))))))) q173 = .inl (E.2.2.2.2.2, 8, .inr (.inr (.inr (.inr (fun _ => none))))) := q_up
  have e181 : (va_up f164 q173 (.inl (E.2.2.2.2.2, 8, .inr (.inr (.inr (.inr (fun _ => none))))))) o = .inr (2, [.ref vo, .null, .int (nI 0), .int (nI 0), .ref q1, .ref (T.1 0), .ref (T.1 0), .int (nI 0), .int (nI 0), .int (nI 0), .int (nI 0), .int (nI 0), .ref q46, .ref q91, .ref (T.1 0), .int (nI 0), .int (nI 0), .long 0, .ref (T.1 0), .long 0, .int (nI 0)]) := (q_ne (ne_mem hqq173 m131)).trans e165
  have e182 : (va_up f164 q173 (.inl (E.2.2.2.2.2, 8, .inr (.inr (.inr (.inr (fun _ => none))))))) q1 = .inr (3, [.ref q18, .int (nI 0)]) := (q_ne (ne_mem hqq173 m132)).trans e166
  have e183 : (va_up f164 q173 (.inl (E.2.2.2.2.2, 8, .inr (.inr (.inr (.inr (fun _ => none))))))) q18 = .inl (E.1, 40, .inl g19) := (q_ne (ne_mem hqq173 m133)).trans e167
  have e184 : (va_up f164 q173 (.inl (E.2.2.2.2.2, 8, .inr (.inr (.inr (.inr (fun _ => none))))))) q46 = .inr (3, [.ref q67, .int (nI 0)]) := (q_ne (ne_mem hqq173 m134)).trans e168
  have e185 : (va_up f164 q173 (.inl (E.2.2.2.2.2, 8, .inr (.inr (.inr (.inr (fun _ => none))))))) q67 = .inl (E.1, 40, .inl g68) := (q_ne (ne_mem hqq173 m135)).trans e169
  have e186 : (va_up f164 q173 (.inl (E.2.2.2.2.2, 8, .inr (.inr (.inr (.inr (fun _ => none))))))) q91 = .inr (3, [.ref q116, .int (nI 0)]) := (q_ne (ne_mem hqq173 m136)).trans e170
  have e187 : (va_up f164 q173 (.inl (E.2.2.2.2.2, 8, .inr (.inr (.inr (.inr (fun _ => none))))))) q116 = .inl (E.1, 40, .inl g117) := (q_ne (ne_mem hqq173 m118)).trans e171
  have nl178 : q173 ∉ L := fun h9 => hqq173 (s129 _ h9)
  have hF188 : ∀ x, x ∈ L → x ≠ o → (va_up f164 q173 (.inl (E.2.2.2.2.2, 8, .inr (.inr (.inr (.inr (fun _ => none))))))) x = f x := fun x hx h0 => (q_ne (ne_mem nl178 hx)).trans (hF172 x hx h0)
  generalize (va_up f164 q173 (.inl (E.2.2.2.2.2, 8, .inr (.inr (.inr (.inr (fun _ => none))))))) = f179 at Y e180 e181 e182 e183 e184 e185 e186 e187 hF188
  have s176 : ∀ x, x ∈ L → x ∈ L112 ++ [q173] := fun x hx => List.mem_append_left _ (s129 x hx)
  have m189 : o ∈ L112 ++ [q173] := List.mem_append_left _ m131
  have m190 : q1 ∈ L112 ++ [q173] := List.mem_append_left _ m132
  have m191 : q18 ∈ L112 ++ [q173] := List.mem_append_left _ m133
  have m192 : q46 ∈ L112 ++ [q173] := List.mem_append_left _ m134
  have m193 : q67 ∈ L112 ++ [q173] := List.mem_append_left _ m135
  have m194 : q91 ∈ L112 ++ [q173] := List.mem_append_left _ m136
  have m195 : q116 ∈ L112 ++ [q173] := List.mem_append_left _ m118
  have m177 : q173 ∈ L112 ++ [q173] := List.mem_append_right _ (List.mem_singleton.mpr rfl)
  generalize L112 ++ [q173] = L174 at Y s176 m189 m190 m191 m192 m193 m194 m195 m177
  refine q_putF X.1 X.2.1 X.2.2.1 i_Ag t_Ag t_Ag_ok n_Ag X.2.2.2.1 X.2.2.2.2 Y m189 e181 rfl 1 (by decide) (X.2.2.1 _ lk_Ag_48) (fun _ h9 => h9) rfl hin rfl (t_Ag_ok 1 (by decide)) rfl rfl (Nat.le_of_ble_eq_true rfl) d_Ag_init_82 (fun H locs Y => ?_)
  have e197 : (va_up f179 o (.inr (2, [.ref vo, .ref q173, .int (nI 0), .int (nI 0), .ref q1, .ref (T.1 0), .ref (T.1 0), .int (nI 0), .int (nI 0), .int (nI 0), .int (nI 0), .int (nI 0), .ref q46, .ref q91, .ref (T.1 0), .int (nI 0), .int (nI 0), .long 0, .ref (T.1 0), .long 0, .int (nI 0)]))) o = .inr (2, [.ref vo, .ref q173, .int (nI 0), .int (nI 0), .ref q1, .ref (T.1 0), .ref (T.1 0), .int (nI 0), .int (nI 0), .int (nI 0), .int (nI 0), .int (nI 0), .ref q46, .ref q91, .ref (T.1 0), .int (nI 0), .int (nI 0), .long 0, .ref (T.1 0), .long 0, .int (nI 0)]) := q_up
  have e198 : (va_up f179 o (.inr (2, [.ref vo, .ref q173, .int (nI 0), .int (nI 0), .ref q1, .ref (T.1 0), .ref (T.1 0), .int (nI 0), .int (nI 0), .int (nI 0), .int (nI 0), .int (nI 0), .ref q46, .ref q91, .ref (T.1 0), .int (nI 0), .int (nI 0), .long 0, .ref (T.1 0), .long 0, .int (nI 0)]))) q1 = .inr (3, [.ref q18, .int (nI 0)]) := (q_ne (q_tag e182 e181 (show (3 : Nat) ≠ 2 by decide))).trans e182
  have e199 : (va_up f179 o (.inr (2, [.ref vo, .ref q173, .int (nI 0), .int (nI 0), .ref q1, .ref (T.1 0), .ref (T.1 0), .int (nI 0), .int (nI 0), .int (nI 0), .int (nI 0), .int (nI 0), .ref q46, .ref q91, .ref (T.1 0), .int (nI 0), .int (nI 0), .long 0, .ref (T.1 0), .long 0, .int (nI 0)]))) q18 = .inl (E.1, 40, .inl g19) := (q_ne (q_tag e183 e181 (show (1000 : Nat) ≠ 2 by decide))).trans e183
  have e200 : (va_up f179 o (.inr (2, [.ref vo, .ref q173, .int (nI 0), .int (nI 0), .ref q1, .ref (T.1 0), .ref (T.1 0), .int (nI 0), .int (nI 0), .int (nI 0), .int (nI 0), .int (nI 0), .ref q46, .ref q91, .ref (T.1 0), .int (nI 0), .int (nI 0), .long 0, .ref (T.1 0), .long 0, .int (nI 0)]))) q46 = .inr (3, [.ref q67, .int (nI 0)]) := (q_ne (q_tag e184 e181 (show (3 : Nat) ≠ 2 by decide))).trans e184
  have e201 : (va_up f179 o (.inr (2, [.ref vo, .ref q173, .int (nI 0), .int (nI 0), .ref q1, .ref (T.1 0), .ref (T.1 0), .int (nI 0), .int (nI 0), .int (nI 0), .int (nI 0), .int (nI 0), .ref q46, .ref q91, .ref (T.1 0), .int (nI 0), .int (nI 0), .long 0, .ref (T.1 0), .long 0, .int (nI 0)]))) q67 = .inl (E.1, 40, .inl g68) := (q_ne (q_tag e185 e181 (show (1000 : Nat) ≠ 2 by decide))).trans e185
  have e202 : (va_up f179 o (.inr (2, [.ref vo, .ref q173, .int (nI 0), .int (nI 0), .ref q1, .ref (T.1 0), .ref (T.1 0), .int (nI 0), .int (nI 0), .int (nI 0), .int (nI 0), .int (nI 0), .ref q46, .ref q91, .ref (T.1 0), .int (nI 0), .int (nI 0), .long 0, .ref (T.1 0), .long 0, .int (nI 0)]))) q91 = .inr (3, [.ref q116, .int (nI 0)]) := (q_ne (q_tag e186 e181 (show (3 : Nat) ≠ 2 by decide))).trans e186
  have e203 : (va_up f179 o (.inr (2, [.ref vo, .ref q173, .int (nI 0), .int (nI 0), .ref q1, .ref (T.1 0), .ref (T.1 0), .int (nI 0), .int (nI 0), .int (nI 0), .int (nI 0), .int (nI 0), .ref q46, .ref q91, .ref (T.1 0), .int (nI 0), .int (nI 0), .long 0, .ref (T.1 0), .long 0, .int (nI 0)]))) q116 = .inl (E.1, 40, .inl g117) := (q_ne (q_tag e187 e181 (show (1000 : Nat) ≠ 2 by decide))).trans e187
  have e204 : (va_up f179 o (.inr (2, [.ref vo, .ref q173, .int (nI 0), .int (nI 0), .ref q1, .ref (T.1 0), .ref (T.1 0), .int (nI 0), .int (nI 0), .int (nI 0), .int (nI 0), .int (nI 0), .ref q46, .ref q91, .ref (T.1 0), .int (nI 0), .int (nI 0), .long 0, .ref (T.1 0), .long 0, .int (nI 0)]))) q173 = .inl (E.2.2.2.2.2, 8, .inr (.inr (.inr (.inr (fun _ => none))))) := (q_ne (q_tag e180 e181 (show (1000 : Nat) ≠ 2 by decide))).trans e180
  have hF205 : ∀ x, x ∈ L → x ≠ o → (va_up f179 o (.inr (2, [.ref vo, .ref q173, .int (nI 0), .int (nI 0), .ref q1, .ref (T.1 0), .ref (T.1 0), .int (nI 0), .int (nI 0), .int (nI 0), .int (nI 0), .int (nI 0), .ref q46, .ref q91, .ref (T.1 0), .int (nI 0), .int (nI 0), .long 0, .ref (T.1 0), .long 0, .int (nI 0)]))) x = f x := fun x hx h0 => (q_ne h0).trans (hF188 x hx h0)
  have Y : pH D cCl (pA L sz) s.heap L174 (va_up f179 o (.inr (2, [.ref vo, .ref q173, .int (nI 0), .int (nI 0), .ref q1, .ref (T.1 0), .ref (T.1 0), .int (nI 0), .int (nI 0), .int (nI 0), .int (nI 0), .int (nI 0), .ref q46, .ref q91, .ref (T.1 0), .int (nI 0), .int (nI 0), .long 0, .ref (T.1 0), .long 0, .int (nI 0)]))) H locs := Y
  generalize (va_up f179 o (.inr (2, [.ref vo, .ref q173, .int (nI 0), .int (nI 0), .ref q1, .ref (T.1 0), .ref (T.1 0), .int (nI 0), .int (nI 0), .int (nI 0), .int (nI 0), .int (nI 0), .ref q46, .ref q91, .ref (T.1 0), .int (nI 0), .int (nI 0), .long 0, .ref (T.1 0), .long 0, .int (nI 0)]))) = f196 at Y e197 e198 e199 e200 e201 e202 e203 e204 hF205
  refine lv_iconst (v := (nI 0)) X.1 X.2.1 d_Ag_init_85 (by decide) ?_
  refine lv_istore_n (lv' := [(2, .int (nI 0)), (0, .ref o), (1, .ref vo)]) X.1 X.2.1 d_Ag_init_86 rfl hl (by decide) rfl (fun ls hl => ?_)
  have lp206 : ∀ (n207 i208 : Nat) (L209 : List Nat) (f210 : pF) (g211 : Nat → Option Nat) (H : Heap) (locs : List Loc) (ls : Array Slot), 8 - i208 = n207 → 0 ≤ i208 → i208 ≤ 8 → (∀ x, x ∈ L → x ∈ L209) → o ∈ L209 → q1 ∈ L209 → q18 ∈ L209 → q46 ∈ L209 → q67 ∈ L209 → q91 ∈ L209 → q116 ∈ L209 → q173 ∈ L209 → f210 o = .inr (2, [.ref vo, .ref q173, .int (nI 0), .int (nI 0), .ref q1, .ref (T.1 0), .ref (T.1 0), .int (nI 0), .int (nI 0), .int (nI 0), .int (nI 0), .int (nI 0), .ref q46, .ref q91, .ref (T.1 0), .int (nI 0), .int (nI 0), .long 0, .ref (T.1 0), .long 0, .int (nI 0)]) → f210 q1 = .inr (3, [.ref q18, .int (nI 0)]) → f210 q18 = .inl (E.1, 40, .inl g19) → f210 q46 = .inr (3, [.ref q67, .int (nI 0)]) → f210 q67 = .inl (E.1, 40, .inl g68) → f210 q91 = .inr (3, [.ref q116, .int (nI 0)]) → f210 q116 = .inl (E.1, 40, .inl g117) → f210 q173 = .inl (E.2.2.2.2.2, 8, .inr (.inr (.inr (.inr g211)))) → (∀ x, x ∈ L → x ≠ o → f210 x = f x) → pH D cCl (pA L sz) s.heap L209 f210 H locs → lv_has ls 3 [(2, .int (nI i208)), (0, .ref o), (1, .ref vo)] → W p l e (kRm 3 61 47 (566)) s m AV below meth c H locs (7 + i208 * 5) (134 + i208 * 54) QQ (F0 m 87 ls []) := by
    intro n207
    induction n207 with
    | zero =>
      intro i208 L209 f210 g211 H locs ls hm213 hc214 hc215  s216 m218 m219 m220 m221 m222 m223 m224 m225 e226 e227 e228 e229 e230 e231 e232 e233 hF217  Y hl
      obtain rfl : i208 = 8 := (by omega)
      refine lv_iload_n X.1 X.2.1 d_Ag_init_87 rfl (lv_at hl 0 rfl) ?_
      refine lv_bipush (v := (nI 8)) X.1 X.2.1 d_Ag_init_88 (by decide) ?_
      refine lv_icmp_ge (tgt := 112) X.1 X.2.1 d_Ag_init_90 (by decide) (fun c235 => ?_) (fun c235 => absurd ?_ c235)
      rotate_left
      · (rw [nI_leI (by omega) (by omega)] <;> omega)
      rw [nI_leI (by omega) (by omega)] at c235
      refine W.cs (cells' := 47) (slots' := 566) (by omega) (by omega) ?_
      exact c_retv hQQ X Y hr hlk ⟨s216, hF217, q173, q1, q46, q91, e226⟩ d_Ag_init_112
    | succ n207 ih212 =>
      intro i208 L209 f210 g211 H locs ls hm213 hc214 hc215  s216 m218 m219 m220 m221 m222 m223 m224 m225 e226 e227 e228 e229 e230 e231 e232 e233 hF217  Y hl
      refine lv_iload_n X.1 X.2.1 d_Ag_init_87 rfl (lv_at hl 0 rfl) ?_
      refine lv_bipush (v := (nI 8)) X.1 X.2.1 d_Ag_init_88 (by decide) ?_
      refine lv_icmp_ge (tgt := 112) X.1 X.2.1 d_Ag_init_90 (by decide) (fun c236 => absurd c236 ?_) (fun c236 => ?_)
      · (rw [nI_leI (by omega) (by omega)] <;> omega)
      rw [nI_leI (by omega) (by omega)] at c236
      refine lv_aload_n X.1 X.2.1 d_Ag_init_93 rfl (lv_at hl 1 rfl) ?_
      refine q_get X.1 X.2.1 X.2.2.1 i_Ag X.2.2.2.1 X.2.2.2.2 Y m218 e226 rfl 1 (by decide) (X.2.2.1 _ lk_Ag_48) (fun _ h9 => h9) rfl d_Ag_init_94 ?_
      refine lv_iload_n X.1 X.2.1 d_Ag_init_97 rfl (lv_at hl 0 rfl) ?_
      refine q_new X.1 X.2.1 X.2.2.1 i_Ti t_Ti t_Ti_ok X.2.2.2.1 (X.2.2.1 _ ck_Ag_46) (X.2.2.1 _ mk_Ti) (X.2.2.1 _ ini_Ti) X.2.2.2.2 Y hA (ci := 10) rfl (fs := [.null, .null, .int (nI 0), .int (nI 0), .null, .int (nI 0), .int (nI 0), .int (nI 0), .int (nI 0), .int (nI 0)]) (fun j hj => match j, hj with | 0, _ => rfl | 1, _ => rfl | 2, _ => rfl | 3, _ => rfl | 4, _ => rfl | 5, _ => rfl | 6, _ => rfl | 7, _ => rfl | 8, _ => rfl | 9, _ => rfl | n9 + 10, h9 => absurd (show n9 + 10 < 10 from h9) (by omega)) (show 7 + i208 * 5 + 1 ≤ 47 by omega) (show 134 + i208 * 54 + 10 ≤ (566) by omega) d_Ag_init_98 (fun q237 H hqq237 Y => ?_)
      have Y : pH D cCl (pA L sz) s.heap (L209 ++ [q237]) (va_up f210 q237 (.inr (10, [.null, .null, .int (nI 0), .int (nI 0), .null, .int (nI 0), .int (nI 0), .int (nI 0), .int (nI 0), .int (nI 0)]))) H locs := Y
      have e244 : (va_up f210 q237 (.inr (10, [.null, .null, .int (nI 0), .int (nI 0), .null, .int (nI 0), .int (nI 0), .int (nI 0), .int (nI 0), .int (nI 0)]))) q237 = .inr (10, [.null, .null, .int (nI 0), .int (nI 0), .null, .int (nI 0), .int (nI 0), .int (nI 0), .int (nI 0), .int (nI 0)]) := q_up
      have e245 : (va_up f210 q237 (.inr (10, [.null, .null, .int (nI 0), .int (nI 0), .null, .int (nI 0), .int (nI 0), .int (nI 0), .int (nI 0), .int (nI 0)]))) o = .inr (2, [.ref vo, .ref q173, .int (nI 0), .int (nI 0), .ref q1, .ref (T.1 0), .ref (T.1 0), .int (nI 0), .int (nI 0), .int (nI 0), .int (nI 0), .int (nI 0), .ref q46, .ref q91, .ref (T.1 0), .int (nI 0), .int (nI 0), .long 0, .ref (T.1 0), .long 0, .int (nI 0)]) := (q_ne (ne_mem hqq237 m218)).trans e226
      have e246 : (va_up f210 q237 (.inr (10, [.null, .null, .int (nI 0), .int (nI 0), .null, .int (nI 0), .int (nI 0), .int (nI 0), .int (nI 0), .int (nI 0)]))) q1 = .inr (3, [.ref q18, .int (nI 0)]) := (q_ne (ne_mem hqq237 m219)).trans e227
      have e247 : (va_up f210 q237 (.inr (10, [.null, .null, .int (nI 0), .int (nI 0), .null, .int (nI 0), .int (nI 0), .int (nI 0), .int (nI 0), .int (nI 0)]))) q18 = .inl (E.1, 40, .inl g19) := (q_ne (ne_mem hqq237 m220)).trans e228
      have e248 : (va_up f210 q237 (.inr (10, [.null, .null, .int (nI 0), .int (nI 0), .null, .int (nI 0), .int (nI 0), .int (nI 0), .int (nI 0), .int (nI 0)]))) q46 = .inr (3, [.ref q67, .int (nI 0)]) := (q_ne (ne_mem hqq237 m221)).trans e229
      have e249 : (va_up f210 q237 (.inr (10, [.null, .null, .int (nI 0), .int (nI 0), .null, .int (nI 0), .int (nI 0), .int (nI 0), .int (nI 0), .int (nI 0)]))) q67 = .inl (E.1, 40, .inl g68) := (q_ne (ne_mem hqq237 m222)).trans e230
      have e250 : (va_up f210 q237 (.inr (10, [.null, .null, .int (nI 0), .int (nI 0), .null, .int (nI 0), .int (nI 0), .int (nI 0), .int (nI 0), .int (nI 0)]))) q91 = .inr (3, [.ref q116, .int (nI 0)]) := (q_ne (ne_mem hqq237 m223)).trans e231
      have e251 : (va_up f210 q237 (.inr (10, [.null, .null, .int (nI 0), .int (nI 0), .null, .int (nI 0), .int (nI 0), .int (nI 0), .int (nI 0), .int (nI 0)]))) q116 = .inl (E.1, 40, .inl g117) := (q_ne (ne_mem hqq237 m224)).trans e232
      have e252 : (va_up f210 q237 (.inr (10, [.null, .null, .int (nI 0), .int (nI 0), .null, .int (nI 0), .int (nI 0), .int (nI 0), .int (nI 0), .int (nI 0)]))) q173 = .inl (E.2.2.2.2.2, 8, .inr (.inr (.inr (.inr g211)))) := (q_ne (ne_mem hqq237 m225)).trans e233
      have nl242 : q237 ∉ L := fun h9 => hqq237 (s216 _ h9)
      have hF253 : ∀ x, x ∈ L → x ≠ o → (va_up f210 q237 (.inr (10, [.null, .null, .int (nI 0), .int (nI 0), .null, .int (nI 0), .int (nI 0), .int (nI 0), .int (nI 0), .int (nI 0)]))) x = f x := fun x hx h0 => (q_ne (ne_mem nl242 hx)).trans (hF217 x hx h0)
      generalize (va_up f210 q237 (.inr (10, [.null, .null, .int (nI 0), .int (nI 0), .null, .int (nI 0), .int (nI 0), .int (nI 0), .int (nI 0), .int (nI 0)]))) = f243 at Y e244 e245 e246 e247 e248 e249 e250 e251 e252 hF253
      have s240 : ∀ x, x ∈ L → x ∈ L209 ++ [q237] := fun x hx => List.mem_append_left _ (s216 x hx)
      have m254 : o ∈ L209 ++ [q237] := List.mem_append_left _ m218
      have m255 : q1 ∈ L209 ++ [q237] := List.mem_append_left _ m219
      have m256 : q18 ∈ L209 ++ [q237] := List.mem_append_left _ m220
      have m257 : q46 ∈ L209 ++ [q237] := List.mem_append_left _ m221
      have m258 : q67 ∈ L209 ++ [q237] := List.mem_append_left _ m222
      have m259 : q91 ∈ L209 ++ [q237] := List.mem_append_left _ m223
      have m260 : q116 ∈ L209 ++ [q237] := List.mem_append_left _ m224
      have m261 : q173 ∈ L209 ++ [q237] := List.mem_append_left _ m225
      have m241 : q237 ∈ L209 ++ [q237] := List.mem_append_right _ (List.mem_singleton.mpr rfl)
      generalize L209 ++ [q237] = L238 at Y s240 m254 m255 m256 m257 m258 m259 m260 m261 m241
      refine lv_dup X.1 X.2.1 d_Ag_init_101 rfl ?_
      refine x_v (x_runIN (As := []) (rest := [.ref q237, .int (nI i208), .ref q173]) (n := 0) X KR hml hl.1 (c_Ti_init l D E T L238 f243 H.size q237 m241 e244) (ok_k X Y hA KS KR) (by decide) ks_Ti_init ki_Ti_init ini_Ti rfl ⟨rfl, rfl⟩ hd_Ti_init.2 ⟨by decide, by decide⟩ rfl (Nat.le_of_ble_eq_true rfl) d_Ag_init_102 ⟨(show 7 + i208 * 5 + 1 + 4 ≤ 47 by omega), (show 134 + i208 * 54 + 10 + (44) ≤ (566) by omega)⟩) X Y hA (fun u H locs hp Y => ?_)
      obtain ⟨L264, f263⟩ := u
      obtain ⟨eL266, hF265, o269, o270, e268⟩ := hp
      dsimp only at eL266 hF265 e268 Y
      have e271 : f263 o = .inr (2, [.ref vo, .ref q173, .int (nI 0), .int (nI 0), .ref q1, .ref (T.1 0), .ref (T.1 0), .int (nI 0), .int (nI 0), .int (nI 0), .int (nI 0), .int (nI 0), .ref q46, .ref q91, .ref (T.1 0), .int (nI 0), .int (nI 0), .long 0, .ref (T.1 0), .long 0, .int (nI 0)]) := (hF265 o m254 (q_tag e245 e244 (show (2 : Nat) ≠ 10 by decide))).trans e245
      have e272 : f263 q1 = .inr (3, [.ref q18, .int (nI 0)]) := (hF265 q1 m255 (q_tag e246 e244 (show (3 : Nat) ≠ 10 by decide))).trans e246
      have e273 : f263 q18 = .inl (E.1, 40, .inl g19) := (hF265 q18 m256 (q_tag e247 e244 (show (1000 : Nat) ≠ 10 by decide))).trans e247
      have e274 : f263 q46 = .inr (3, [.ref q67, .int (nI 0)]) := (hF265 q46 m257 (q_tag e248 e244 (show (3 : Nat) ≠ 10 by decide))).trans e248
      have e275 : f263 q67 = .inl (E.1, 40, .inl g68) := (hF265 q67 m258 (q_tag e249 e244 (show (1000 : Nat) ≠ 10 by decide))).trans e249
      have e276 : f263 q91 = .inr (3, [.ref q116, .int (nI 0)]) := (hF265 q91 m259 (q_tag e250 e244 (show (3 : Nat) ≠ 10 by decide))).trans e250
      have e277 : f263 q116 = .inl (E.1, 40, .inl g117) := (hF265 q116 m260 (q_tag e251 e244 (show (1000 : Nat) ≠ 10 by decide))).trans e251
      have e278 : f263 q173 = .inl (E.2.2.2.2.2, 8, .inr (.inr (.inr (.inr g211)))) := (hF265 q173 m261 (q_tag e252 e244 (show (1000 : Nat) ≠ 10 by decide))).trans e252
      have hF279 : ∀ x, x ∈ L → x ≠ o → f263 x = f x := fun x hx h0 => (hF265 x (s240 x hx) (ne_mem nl242 hx)).trans (hF253 x hx h0)
      have s280 : ∀ x, x ∈ L → x ∈ L264 := fun x hx => eL266 x (s240 x hx)
      have m281 : o ∈ L264 := eL266 _ m254
      have m282 : q1 ∈ L264 := eL266 _ m255
      have m283 : q18 ∈ L264 := eL266 _ m256
      have m284 : q46 ∈ L264 := eL266 _ m257
      have m285 : q67 ∈ L264 := eL266 _ m258
      have m286 : q91 ∈ L264 := eL266 _ m259
      have m287 : q116 ∈ L264 := eL266 _ m260
      have m288 : q173 ∈ L264 := eL266 _ m261
      have m289 : q237 ∈ L264 := eL266 _ m241
      refine q_aast X.1 X.2.1 X.2.2.2.2 Y 5 10 (r := (R_Ti, F_Ti, 10)) m288 e278 rfl m289 e268 rfl (vp_in_nI (by omega) (by omega)) d_Ag_init_105 (fun H locs Y => ?_)
      rw [nI_clamp (show i208 < 2 ^ 31 by omega)] at Y
      have e291 : (va_up f263 q173 (.inl (E.2.2.2.2.2, 8, .inr (.inr (.inr (.inr (va_up g211 i208 (some q237)))))))) q173 = .inl (E.2.2.2.2.2, 8, .inr (.inr (.inr (.inr (va_up g211 i208 (some q237)))))) := q_up
      have e292 : (va_up f263 q173 (.inl (E.2.2.2.2.2, 8, .inr (.inr (.inr (.inr (va_up g211 i208 (some q237)))))))) o = .inr (2, [.ref vo, .ref q173, .int (nI 0), .int (nI 0), .ref q1, .ref (T.1 0), .ref (T.1 0), .int (nI 0), .int (nI 0), .int (nI 0), .int (nI 0), .int (nI 0), .ref q46, .ref q91, .ref (T.1 0), .int (nI 0), .int (nI 0), .long 0, .ref (T.1 0), .long 0, .int (nI 0)]) := (q_ne (q_tag e271 e278 (show (2 : Nat) ≠ 1000 by decide))).trans e271
      have e293 : (va_up f263 q173 (.inl (E.2.2.2.2.2, 8, .inr (.inr (.inr (.inr (va_up g211 i208 (some q237)))))))) q1 = .inr (3, [.ref q18, .int (nI 0)]) := (q_ne (q_tag e272 e278 (show (3 : Nat) ≠ 1000 by decide))).trans e272
      have e294 : (va_up f263 q173 (.inl (E.2.2.2.2.2, 8, .inr (.inr (.inr (.inr (va_up g211 i208 (some q237)))))))) q18 = .inl (E.1, 40, .inl g19) := (q_ne (ne_mem hqq173 m133)).trans e273
      have e295 : (va_up f263 q173 (.inl (E.2.2.2.2.2, 8, .inr (.inr (.inr (.inr (va_up g211 i208 (some q237)))))))) q46 = .inr (3, [.ref q67, .int (nI 0)]) := (q_ne (q_tag e274 e278 (show (3 : Nat) ≠ 1000 by decide))).trans e274
      have e296 : (va_up f263 q173 (.inl (E.2.2.2.2.2, 8, .inr (.inr (.inr (.inr (va_up g211 i208 (some q237)))))))) q67 = .inl (E.1, 40, .inl g68) := (q_ne (ne_mem hqq173 m135)).trans e275
      have e297 : (va_up f263 q173 (.inl (E.2.2.2.2.2, 8, .inr (.inr (.inr (.inr (va_up g211 i208 (some q237)))))))) q91 = .inr (3, [.ref q116, .int (nI 0)]) := (q_ne (q_tag e276 e278 (show (3 : Nat) ≠ 1000 by decide))).trans e276
      have e298 : (va_up f263 q173 (.inl (E.2.2.2.2.2, 8, .inr (.inr (.inr (.inr (va_up g211 i208 (some q237)))))))) q116 = .inl (E.1, 40, .inl g117) := (q_ne (ne_mem hqq173 m118)).trans e277
      have e299 : (va_up f263 q173 (.inl (E.2.2.2.2.2, 8, .inr (.inr (.inr (.inr (va_up g211 i208 (some q237)))))))) q237 = .inr (10, [.ref o269, .ref o270, .int (nI 0), .int (nI 0), .ref (T.1 0), .int (nI 0), .int (nI 0), .int (nI 0), .int (nI 0), .int (nI 0)]) := (q_ne (q_tag e268 e278 (show (10 : Nat) ≠ 1000 by decide))).trans e268
      have hF300 : ∀ x, x ∈ L → x ≠ o → (va_up f263 q173 (.inl (E.2.2.2.2.2, 8, .inr (.inr (.inr (.inr (va_up g211 i208 (some q237)))))))) x = f x := fun x hx h0 => (q_ne (ne_mem nl178 hx)).trans (hF279 x hx h0)
      have Y : pH D cCl (pA L sz) s.heap L264 (va_up f263 q173 (.inl (E.2.2.2.2.2, 8, .inr (.inr (.inr (.inr (va_up g211 i208 (some q237)))))))) H locs := Y
      generalize (va_up f263 q173 (.inl (E.2.2.2.2.2, 8, .inr (.inr (.inr (.inr (va_up g211 i208 (some q237)))))))) = f290 at Y e291 e292 e293 e294 e295 e296 e297 e298 e299 hF300
      refine lv_iinc (v := (nI (i208 + 1))) (lv' := [(2, .int (nI (i208 + 1))), (0, .ref o), (1, .ref vo)]) X.1 X.2.1 d_Ag_init_106 hl (k := 0) rfl (nI_add _ 1) (by decide) rfl (fun ls hl => ?_)
      refine lv_goto (tgt := 87) X.1 X.2.1 d_Ag_init_109 (by decide) ?_
      refine W.cs (cells' := 7 + (i208 + 1) * 5) (slots' := 134 + (i208 + 1) * 54) (by omega) (by omega) ?_
      exact ih212  (i208 + 1) L264 f290 (va_up g211 i208 (some q237)) _ _ _ (by omega) (by omega) (by omega)  s280 m281 m282 m283 m284 m285 m286 m287 m288 e292 e293 e294 e295 e296 e297 e298 e291 hF300  Y (lv_sub hl [0, 1, 2] rfl)
  exact lp206 (8) 0 L174 f196 (fun _ => none) _ _ _ (by omega) (by omega) (by omega)  s176 m189 m190 m191 m192 m193 m194 m195 m177 e197 e198 e199 e200 e201 e202 e203 e204 hF205  Y (lv_sub hl [0, 1, 2] rfl)
set_option maxHeartbeats 4000000 in
set_option maxRecDepth 100000 in
theorem c_So_init (l : Launch) (D : va_G) (E : cE) (T : cT) (L : List Nat) (f : pF) (sz : Nat) (vo : Nat) (o : Nat) (m_o : o ∈ L) (e_o : f o = .inr (9, [.null, .int (nI 0), .int (nI 0), .null, .null, .int (nI 0), .int (nI 0), .long 0, .null, .null, .null])) : Met l y_So_init (k_So_init :: lw_tg) (kRm 1 20 3 (8)) (va_Pc [.ref o, .ref vo] (kPre D E T L f sz)) (va_Qv (fun (u : cU) => (∀ x, x ∈ L → x ∈ u.1) ∧ (∀ x, x ∈ L → x ≠ o → u.2 x = f x) ∧ ∃ (o1 o2 o3 : Nat) (jn : Int32), u.2 o = .inr (9, [.ref vo, .int (nI 0), .int jn, .ref (T.1 0), .ref (T.1 0), .int (nI 0), .int (nI 0), .long 0, .ref o1, .ref o2, .ref o3])) (cPost D E (pA L sz)) (pA L sz)) 3 (8) (pA L sz) := by
  refine k_enter (own := R_So) (by decide) rfl (Nat.le_of_ble_eq_true rfl) (fun p e s m below meth c ls AV QQ H locs hQQ X Y hA hin hr hlk hml hl KS KR => ?_)
  have hl : lv_has ls 2 [(0, .ref o), (1, .ref vo)] := hl
  refine lv_aload_n X.1 X.2.1 d_So_init_0 rfl (lv_at hl 0 rfl) ?_
  refine W.objInit X.1 X.2.1 X.2.2.2.1 (X.2.2.1 _ ol_So) (X.2.2.1 _ o_inst) (X.2.2.1 _ o_code) rfl (by rw [hml]; exact hl.1) rfl d_So_init_1 (Nat.le_of_ble_eq_true rfl) (Nat.le_of_ble_eq_true rfl) ?_
  refine W.eq (g2 := F0 m 4 ls []) rfl ?_
  refine lv_aload_n X.1 X.2.1 d_So_init_4 rfl (lv_at hl 0 rfl) ?_
  refine lv_iconst (v := (-1)) X.1 X.2.1 d_So_init_5 (by decide) ?_
  refine q_put X.1 X.2.1 X.2.2.1 i_So t_So t_So_ok n_So X.2.2.2.1 X.2.2.2.2 Y m_o e_o rfl 2 (by decide) (X.2.2.1 _ lk_So_9) (fun _ h9 => h9) rfl (t_So_ok 2 (by decide)) rfl rfl (Nat.le_of_ble_eq_true rfl) d_So_init_6 (fun H locs Y => ?_)
  have e2 : (va_up f o (.inr (9, [.null, .int (nI 0), .int (-1), .null, .null, .int (nI 0), .int (nI 0), .long 0, .null, .null, .null]))) o = .inr (9, [.null, .int (nI 0), .int (-1), .null, .null, .int (nI 0), .int (nI 0), .long 0, .null, .null, .null]) := q_up
  have hF3 : ∀ x, x ∈ L → x ≠ o → (va_up f o (.inr (9, [.null, .int (nI 0), .int (-1), .null, .null, .int (nI 0), .int (nI 0), .long 0, .null, .null, .null]))) x = f x := fun x hx h0 => (q_ne h0).trans rfl
  have Y : pH D cCl (pA L sz) s.heap L (va_up f o (.inr (9, [.null, .int (nI 0), .int (-1), .null, .null, .int (nI 0), .int (nI 0), .long 0, .null, .null, .null]))) H locs := Y
  generalize (va_up f o (.inr (9, [.null, .int (nI 0), .int (-1), .null, .null, .int (nI 0), .int (nI 0), .long 0, .null, .null, .null]))) = f1 at Y e2 hF3
  refine lv_aload_n X.1 X.2.1 d_So_init_9 rfl (lv_at hl 0 rfl) ?_
  refine k_getsN X Y KS KR (by decide) d_So_init_10 ?_
  refine q_put X.1 X.2.1 X.2.2.1 i_So t_So t_So_ok n_So X.2.2.2.1 X.2.2.2.2 Y m_o e2 rfl 3 (by decide) (X.2.2.1 _ lk_So_19) (fun _ h9 => h9) rfl (t_So_ok 3 (by decide)) rfl rfl (Nat.le_of_ble_eq_true rfl) d_So_init_13 (fun H locs Y => ?_)
  have e5 : (va_up f1 o (.inr (9, [.null, .int (nI 0), .int (-1), .ref (T.1 0), .null, .int (nI 0), .int (nI 0), .long 0, .null, .null, .null]))) o = .inr (9, [.null, .int (nI 0), .int (-1), .ref (T.1 0), .null, .int (nI 0), .int (nI 0), .long 0, .null, .null, .null]) := q_up
  have hF6 : ∀ x, x ∈ L → x ≠ o → (va_up f1 o (.inr (9, [.null, .int (nI 0), .int (-1), .ref (T.1 0), .null, .int (nI 0), .int (nI 0), .long 0, .null, .null, .null]))) x = f x := fun x hx h0 => (q_ne h0).trans (hF3 x hx h0)
  have Y : pH D cCl (pA L sz) s.heap L (va_up f1 o (.inr (9, [.null, .int (nI 0), .int (-1), .ref (T.1 0), .null, .int (nI 0), .int (nI 0), .long 0, .null, .null, .null]))) H locs := Y
  generalize (va_up f1 o (.inr (9, [.null, .int (nI 0), .int (-1), .ref (T.1 0), .null, .int (nI 0), .int (nI 0), .long 0, .null, .null, .null]))) = f4 at Y e5 hF6
  refine lv_aload_n X.1 X.2.1 d_So_init_16 rfl (lv_at hl 0 rfl) ?_
  refine k_getsN X Y KS KR (by decide) d_So_init_17 ?_
  refine q_put X.1 X.2.1 X.2.2.1 i_So t_So t_So_ok n_So X.2.2.2.1 X.2.2.2.2 Y m_o e5 rfl 4 (by decide) (X.2.2.1 _ lk_So_22) (fun _ h9 => h9) rfl (t_So_ok 4 (by decide)) rfl rfl (Nat.le_of_ble_eq_true rfl) d_So_init_20 (fun H locs Y => ?_)
  have e8 : (va_up f4 o (.inr (9, [.null, .int (nI 0), .int (-1), .ref (T.1 0), .ref (T.1 0), .int (nI 0), .int (nI 0), .long 0, .null, .null, .null]))) o = .inr (9, [.null, .int (nI 0), .int (-1), .ref (T.1 0), .ref (T.1 0), .int (nI 0), .int (nI 0), .long 0, .null, .null, .null]) := q_up
  have hF9 : ∀ x, x ∈ L → x ≠ o → (va_up f4 o (.inr (9, [.null, .int (nI 0), .int (-1), .ref (T.1 0), .ref (T.1 0), .int (nI 0), .int (nI 0), .long 0, .null, .null, .null]))) x = f x := fun x hx h0 => (q_ne h0).trans (hF6 x hx h0)
  have Y : pH D cCl (pA L sz) s.heap L (va_up f4 o (.inr (9, [.null, .int (nI 0), .int (-1), .ref (T.1 0), .ref (T.1 0), .int (nI 0), .int (nI 0), .long 0, .null, .null, .null]))) H locs := Y
  generalize (va_up f4 o (.inr (9, [.null, .int (nI 0), .int (-1), .ref (T.1 0), .ref (T.1 0), .int (nI 0), .int (nI 0), .long 0, .null, .null, .null]))) = f7 at Y e8 hF9
  refine lv_aload_n X.1 X.2.1 d_So_init_23 rfl (lv_at hl 0 rfl) ?_
  refine lv_iconst (v := (nI 2)) X.1 X.2.1 d_So_init_24 (by decide) ?_
  refine q_newa X.1 X.2.1 (atype := .int) (ty := .int) rfl ra_int (X.2.2.1 _ ar_int) X.2.2.2.2 1 (cE := E.2.1) rfl Y hA (N := (2)) (a0 := (2, .inl (fun _ => 0))) (fun cA => vz_int cA (2)) (nI_pos (by omega)) (nI_clamp (by omega)) (by decide) (show 0 + 1 ≤ 3 by omega) (show 0 + (2) ≤ (8) by omega) d_So_init_25 (fun q10 H hqq10 Y => ?_)
  have Y : pH D cCl (pA L sz) s.heap (L ++ [q10]) (va_up f7 q10 (.inl (E.2.1, 2, .inl (fun _ => 0)))) H locs := Y
  have e17 : (va_up f7 q10 (.inl (E.2.1, 2, .inl (fun _ => 0)))) q10 = .inl (E.2.1, 2, .inl (fun _ => 0)) := q_up
  have e18 : (va_up f7 q10 (.inl (E.2.1, 2, .inl (fun _ => 0)))) o = .inr (9, [.null, .int (nI 0), .int (-1), .ref (T.1 0), .ref (T.1 0), .int (nI 0), .int (nI 0), .long 0, .null, .null, .null]) := (q_ne (ne_mem hqq10 m_o)).trans e8
  have nl15 : q10 ∉ L := fun h9 => hqq10 h9
  have hF19 : ∀ x, x ∈ L → x ≠ o → (va_up f7 q10 (.inl (E.2.1, 2, .inl (fun _ => 0)))) x = f x := fun x hx h0 => (q_ne (ne_mem nl15 hx)).trans (hF9 x hx h0)
  generalize (va_up f7 q10 (.inl (E.2.1, 2, .inl (fun _ => 0)))) = f16 at Y e17 e18 hF19
  have s13 : ∀ x, x ∈ L → x ∈ L ++ [q10] := fun x hx => List.mem_append_left _ hx
  have m20 : o ∈ L ++ [q10] := List.mem_append_left _ m_o
  have m14 : q10 ∈ L ++ [q10] := List.mem_append_right _ (List.mem_singleton.mpr rfl)
  generalize L ++ [q10] = L11 at Y s13 m20 m14
  refine q_putF X.1 X.2.1 X.2.2.1 i_So t_So t_So_ok n_So X.2.2.2.1 X.2.2.2.2 Y m20 e18 rfl 8 (by decide) (X.2.2.1 _ lk_So_25) (fun _ h9 => h9) rfl hin rfl (t_So_ok 8 (by decide)) rfl rfl (Nat.le_of_ble_eq_true rfl) d_So_init_27 (fun H locs Y => ?_)
  have e22 : (va_up f16 o (.inr (9, [.null, .int (nI 0), .int (-1), .ref (T.1 0), .ref (T.1 0), .int (nI 0), .int (nI 0), .long 0, .ref q10, .null, .null]))) o = .inr (9, [.null, .int (nI 0), .int (-1), .ref (T.1 0), .ref (T.1 0), .int (nI 0), .int (nI 0), .long 0, .ref q10, .null, .null]) := q_up
  have e23 : (va_up f16 o (.inr (9, [.null, .int (nI 0), .int (-1), .ref (T.1 0), .ref (T.1 0), .int (nI 0), .int (nI 0), .long 0, .ref q10, .null, .null]))) q10 = .inl (E.2.1, 2, .inl (fun _ => 0)) := (q_ne (q_tag e17 e18 (show (1000 : Nat) ≠ 9 by decide))).trans e17
  have hF24 : ∀ x, x ∈ L → x ≠ o → (va_up f16 o (.inr (9, [.null, .int (nI 0), .int (-1), .ref (T.1 0), .ref (T.1 0), .int (nI 0), .int (nI 0), .long 0, .ref q10, .null, .null]))) x = f x := fun x hx h0 => (q_ne h0).trans (hF19 x hx h0)
  have Y : pH D cCl (pA L sz) s.heap L11 (va_up f16 o (.inr (9, [.null, .int (nI 0), .int (-1), .ref (T.1 0), .ref (T.1 0), .int (nI 0), .int (nI 0), .long 0, .ref q10, .null, .null]))) H locs := Y
  generalize (va_up f16 o (.inr (9, [.null, .int (nI 0), .int (-1), .ref (T.1 0), .ref (T.1 0), .int (nI 0), .int (nI 0), .long 0, .ref q10, .null, .null]))) = f21 at Y e22 e23 hF24
  refine lv_aload_n X.1 X.2.1 d_So_init_30 rfl (lv_at hl 0 rfl) ?_
  refine lv_iconst (v := (nI 2)) X.1 X.2.1 d_So_init_31 (by decide) ?_
  refine q_newa X.1 X.2.1 (atype := .int) (ty := .int) rfl ra_int (X.2.2.1 _ ar_int) X.2.2.2.2 1 (cE := E.2.1) rfl Y hA (N := (2)) (a0 := (2, .inl (fun _ => 0))) (fun cA => vz_int cA (2)) (nI_pos (by omega)) (nI_clamp (by omega)) (by decide) (show 1 + 1 ≤ 3 by omega) (show 2 + (2) ≤ (8) by omega) d_So_init_32 (fun q25 H hqq25 Y => ?_)
  have Y : pH D cCl (pA L sz) s.heap (L11 ++ [q25]) (va_up f21 q25 (.inl (E.2.1, 2, .inl (fun _ => 0)))) H locs := Y
  have e32 : (va_up f21 q25 (.inl (E.2.1, 2, .inl (fun _ => 0)))) q25 = .inl (E.2.1, 2, .inl (fun _ => 0)) := q_up
  have e33 : (va_up f21 q25 (.inl (E.2.1, 2, .inl (fun _ => 0)))) o = .inr (9, [.null, .int (nI 0), .int (-1), .ref (T.1 0), .ref (T.1 0), .int (nI 0), .int (nI 0), .long 0, .ref q10, .null, .null]) := (q_ne (ne_mem hqq25 m20)).trans e22
  have e34 : (va_up f21 q25 (.inl (E.2.1, 2, .inl (fun _ => 0)))) q10 = .inl (E.2.1, 2, .inl (fun _ => 0)) := (q_ne (ne_mem hqq25 m14)).trans e23
  have nl30 : q25 ∉ L := fun h9 => hqq25 (s13 _ h9)
  have hF35 : ∀ x, x ∈ L → x ≠ o → (va_up f21 q25 (.inl (E.2.1, 2, .inl (fun _ => 0)))) x = f x := fun x hx h0 => (q_ne (ne_mem nl30 hx)).trans (hF24 x hx h0)
  generalize (va_up f21 q25 (.inl (E.2.1, 2, .inl (fun _ => 0)))) = f31 at Y e32 e33 e34 hF35
  have s28 : ∀ x, x ∈ L → x ∈ L11 ++ [q25] := fun x hx => List.mem_append_left _ (s13 x hx)
  have m36 : o ∈ L11 ++ [q25] := List.mem_append_left _ m20
  have m37 : q10 ∈ L11 ++ [q25] := List.mem_append_left _ m14
  have m29 : q25 ∈ L11 ++ [q25] := List.mem_append_right _ (List.mem_singleton.mpr rfl)
  generalize L11 ++ [q25] = L26 at Y s28 m36 m37 m29
  refine q_putF X.1 X.2.1 X.2.2.1 i_So t_So t_So_ok n_So X.2.2.2.1 X.2.2.2.2 Y m36 e33 rfl 9 (by decide) (X.2.2.1 _ lk_So_29) (fun _ h9 => h9) rfl hin rfl (t_So_ok 9 (by decide)) rfl rfl (Nat.le_of_ble_eq_true rfl) d_So_init_34 (fun H locs Y => ?_)
  have e39 : (va_up f31 o (.inr (9, [.null, .int (nI 0), .int (-1), .ref (T.1 0), .ref (T.1 0), .int (nI 0), .int (nI 0), .long 0, .ref q10, .ref q25, .null]))) o = .inr (9, [.null, .int (nI 0), .int (-1), .ref (T.1 0), .ref (T.1 0), .int (nI 0), .int (nI 0), .long 0, .ref q10, .ref q25, .null]) := q_up
  have e40 : (va_up f31 o (.inr (9, [.null, .int (nI 0), .int (-1), .ref (T.1 0), .ref (T.1 0), .int (nI 0), .int (nI 0), .long 0, .ref q10, .ref q25, .null]))) q10 = .inl (E.2.1, 2, .inl (fun _ => 0)) := (q_ne (q_tag e34 e33 (show (1000 : Nat) ≠ 9 by decide))).trans e34
  have e41 : (va_up f31 o (.inr (9, [.null, .int (nI 0), .int (-1), .ref (T.1 0), .ref (T.1 0), .int (nI 0), .int (nI 0), .long 0, .ref q10, .ref q25, .null]))) q25 = .inl (E.2.1, 2, .inl (fun _ => 0)) := (q_ne (q_tag e32 e33 (show (1000 : Nat) ≠ 9 by decide))).trans e32
  have hF42 : ∀ x, x ∈ L → x ≠ o → (va_up f31 o (.inr (9, [.null, .int (nI 0), .int (-1), .ref (T.1 0), .ref (T.1 0), .int (nI 0), .int (nI 0), .long 0, .ref q10, .ref q25, .null]))) x = f x := fun x hx h0 => (q_ne h0).trans (hF35 x hx h0)
  have Y : pH D cCl (pA L sz) s.heap L26 (va_up f31 o (.inr (9, [.null, .int (nI 0), .int (-1), .ref (T.1 0), .ref (T.1 0), .int (nI 0), .int (nI 0), .long 0, .ref q10, .ref q25, .null]))) H locs := Y
  generalize (va_up f31 o (.inr (9, [.null, .int (nI 0), .int (-1), .ref (T.1 0), .ref (T.1 0), .int (nI 0), .int (nI 0), .long 0, .ref q10, .ref q25, .null]))) = f38 at Y e39 e40 e41 hF42
  refine lv_aload_n X.1 X.2.1 d_So_init_37 rfl (lv_at hl 0 rfl) ?_
  refine lv_iconst (v := (nI 4)) X.1 X.2.1 d_So_init_38 (by decide) ?_
  refine q_newa X.1 X.2.1 (atype := .byte) (ty := .byte) rfl ra_byte (X.2.2.1 _ ar_byte) X.2.2.2.2 0 (cE := E.1) rfl Y hA (N := (4)) (a0 := (4, .inl (fun _ => 0))) (fun cA => vz_byte cA (4)) (nI_pos (by omega)) (nI_clamp (by omega)) (by decide) (show 2 + 1 ≤ 3 by omega) (show 4 + (4) ≤ (8) by omega) d_So_init_39 (fun q43 H hqq43 Y => ?_)
  have Y : pH D cCl (pA L sz) s.heap (L26 ++ [q43]) (va_up f38 q43 (.inl (E.1, 4, .inl (fun _ => 0)))) H locs := Y
  have e50 : (va_up f38 q43 (.inl (E.1, 4, .inl (fun _ => 0)))) q43 = .inl (E.1, 4, .inl (fun _ => 0)) := q_up
  have e51 : (va_up f38 q43 (.inl (E.1, 4, .inl (fun _ => 0)))) o = .inr (9, [.null, .int (nI 0), .int (-1), .ref (T.1 0), .ref (T.1 0), .int (nI 0), .int (nI 0), .long 0, .ref q10, .ref q25, .null]) := (q_ne (ne_mem hqq43 m36)).trans e39
  have e52 : (va_up f38 q43 (.inl (E.1, 4, .inl (fun _ => 0)))) q10 = .inl (E.2.1, 2, .inl (fun _ => 0)) := (q_ne (ne_mem hqq43 m37)).trans e40
  have e53 : (va_up f38 q43 (.inl (E.1, 4, .inl (fun _ => 0)))) q25 = .inl (E.2.1, 2, .inl (fun _ => 0)) := (q_ne (ne_mem hqq43 m29)).trans e41
  have nl48 : q43 ∉ L := fun h9 => hqq43 (s28 _ h9)
  have hF54 : ∀ x, x ∈ L → x ≠ o → (va_up f38 q43 (.inl (E.1, 4, .inl (fun _ => 0)))) x = f x := fun x hx h0 => (q_ne (ne_mem nl48 hx)).trans (hF42 x hx h0)
  generalize (va_up f38 q43 (.inl (E.1, 4, .inl (fun _ => 0)))) = f49 at Y e50 e51 e52 e53 hF54
  have s46 : ∀ x, x ∈ L → x ∈ L26 ++ [q43] := fun x hx => List.mem_append_left _ (s28 x hx)
  have m55 : o ∈ L26 ++ [q43] := List.mem_append_left _ m36
  have m56 : q10 ∈ L26 ++ [q43] := List.mem_append_left _ m37
  have m57 : q25 ∈ L26 ++ [q43] := List.mem_append_left _ m29
  have m47 : q43 ∈ L26 ++ [q43] := List.mem_append_right _ (List.mem_singleton.mpr rfl)
  generalize L26 ++ [q43] = L44 at Y s46 m55 m56 m57 m47
  refine q_putF X.1 X.2.1 X.2.2.1 i_So t_So t_So_ok n_So X.2.2.2.1 X.2.2.2.2 Y m55 e51 rfl 10 (by decide) (X.2.2.1 _ lk_So_32) (fun _ h9 => h9) rfl hin rfl (t_So_ok 10 (by decide)) rfl rfl (Nat.le_of_ble_eq_true rfl) d_So_init_41 (fun H locs Y => ?_)
  have e59 : (va_up f49 o (.inr (9, [.null, .int (nI 0), .int (-1), .ref (T.1 0), .ref (T.1 0), .int (nI 0), .int (nI 0), .long 0, .ref q10, .ref q25, .ref q43]))) o = .inr (9, [.null, .int (nI 0), .int (-1), .ref (T.1 0), .ref (T.1 0), .int (nI 0), .int (nI 0), .long 0, .ref q10, .ref q25, .ref q43]) := q_up
  have e60 : (va_up f49 o (.inr (9, [.null, .int (nI 0), .int (-1), .ref (T.1 0), .ref (T.1 0), .int (nI 0), .int (nI 0), .long 0, .ref q10, .ref q25, .ref q43]))) q10 = .inl (E.2.1, 2, .inl (fun _ => 0)) := (q_ne (q_tag e52 e51 (show (1000 : Nat) ≠ 9 by decide))).trans e52
  have e61 : (va_up f49 o (.inr (9, [.null, .int (nI 0), .int (-1), .ref (T.1 0), .ref (T.1 0), .int (nI 0), .int (nI 0), .long 0, .ref q10, .ref q25, .ref q43]))) q25 = .inl (E.2.1, 2, .inl (fun _ => 0)) := (q_ne (q_tag e53 e51 (show (1000 : Nat) ≠ 9 by decide))).trans e53
  have e62 : (va_up f49 o (.inr (9, [.null, .int (nI 0), .int (-1), .ref (T.1 0), .ref (T.1 0), .int (nI 0), .int (nI 0), .long 0, .ref q10, .ref q25, .ref q43]))) q43 = .inl (E.1, 4, .inl (fun _ => 0)) := (q_ne (q_tag e50 e51 (show (1000 : Nat) ≠ 9 by decide))).trans e50
  have hF63 : ∀ x, x ∈ L → x ≠ o → (va_up f49 o (.inr (9, [.null, .int (nI 0), .int (-1), .ref (T.1 0), .ref (T.1 0), .int (nI 0), .int (nI 0), .long 0, .ref q10, .ref q25, .ref q43]))) x = f x := fun x hx h0 => (q_ne h0).trans (hF54 x hx h0)
  have Y : pH D cCl (pA L sz) s.heap L44 (va_up f49 o (.inr (9, [.null, .int (nI 0), .int (-1), .ref (T.1 0), .ref (T.1 0), .int (nI 0), .int (nI 0), .long 0, .ref q10, .ref q25, .ref q43]))) H locs := Y
  generalize (va_up f49 o (.inr (9, [.null, .int (nI 0), .int (-1), .ref (T.1 0), .ref (T.1 0), .int (nI 0), .int (nI 0), .long 0, .ref q10, .ref q25, .ref q43]))) = f58 at Y e59 e60 e61 e62 hF63
  refine lv_aload_n X.1 X.2.1 d_So_init_44 rfl (lv_at hl 0 rfl) ?_
  refine lv_aload_n X.1 X.2.1 d_So_init_45 rfl (lv_at hl 1 rfl) ?_
  refine q_putF X.1 X.2.1 X.2.2.1 i_So t_So t_So_ok n_So X.2.2.2.1 X.2.2.2.2 Y m55 e59 rfl 0 (by decide) (X.2.2.1 _ lk_So_35) (fun _ h9 => h9) rfl hin rfl (t_So_ok 0 (by decide)) rfl rfl (Nat.le_of_ble_eq_true rfl) d_So_init_46 (fun H locs Y => ?_)
  have e65 : (va_up f58 o (.inr (9, [.ref vo, .int (nI 0), .int (-1), .ref (T.1 0), .ref (T.1 0), .int (nI 0), .int (nI 0), .long 0, .ref q10, .ref q25, .ref q43]))) o = .inr (9, [.ref vo, .int (nI 0), .int (-1), .ref (T.1 0), .ref (T.1 0), .int (nI 0), .int (nI 0), .long 0, .ref q10, .ref q25, .ref q43]) := q_up
  have e66 : (va_up f58 o (.inr (9, [.ref vo, .int (nI 0), .int (-1), .ref (T.1 0), .ref (T.1 0), .int (nI 0), .int (nI 0), .long 0, .ref q10, .ref q25, .ref q43]))) q10 = .inl (E.2.1, 2, .inl (fun _ => 0)) := (q_ne (q_tag e60 e59 (show (1000 : Nat) ≠ 9 by decide))).trans e60
  have e67 : (va_up f58 o (.inr (9, [.ref vo, .int (nI 0), .int (-1), .ref (T.1 0), .ref (T.1 0), .int (nI 0), .int (nI 0), .long 0, .ref q10, .ref q25, .ref q43]))) q25 = .inl (E.2.1, 2, .inl (fun _ => 0)) := (q_ne (q_tag e61 e59 (show (1000 : Nat) ≠ 9 by decide))).trans e61
  have e68 : (va_up f58 o (.inr (9, [.ref vo, .int (nI 0), .int (-1), .ref (T.1 0), .ref (T.1 0), .int (nI 0), .int (nI 0), .long 0, .ref q10, .ref q25, .ref q43]))) q43 = .inl (E.1, 4, .inl (fun _ => 0)) := (q_ne (q_tag e62 e59 (show (1000 : Nat) ≠ 9 by decide))).trans e62
  have hF69 : ∀ x, x ∈ L → x ≠ o → (va_up f58 o (.inr (9, [.ref vo, .int (nI 0), .int (-1), .ref (T.1 0), .ref (T.1 0), .int (nI 0), .int (nI 0), .long 0, .ref q10, .ref q25, .ref q43]))) x = f x := fun x hx h0 => (q_ne h0).trans (hF63 x hx h0)
  have Y : pH D cCl (pA L sz) s.heap L44 (va_up f58 o (.inr (9, [.ref vo, .int (nI 0), .int (-1), .ref (T.1 0), .ref (T.1 0), .int (nI 0), .int (nI 0), .long 0, .ref q10, .ref q25, .ref q43]))) H locs := Y
  generalize (va_up f58 o (.inr (9, [.ref vo, .int (nI 0), .int (-1), .ref (T.1 0), .ref (T.1 0), .int (nI 0), .int (nI 0), .long 0, .ref q10, .ref q25, .ref q43]))) = f64 at Y e65 e66 e67 e68 hF69
  refine lv_aload_n X.1 X.2.1 d_So_init_49 rfl (lv_at hl 0 rfl) ?_
  refine q_get X.1 X.2.1 X.2.2.1 i_So X.2.2.2.1 X.2.2.2.2 Y m55 e65 rfl 10 (by decide) (X.2.2.1 _ lk_So_32) (fun _ h9 => h9) rfl d_So_init_50 ?_
  refine lv_iconst (v := (nI 0)) X.1 X.2.1 d_So_init_53 (by decide) ?_
  refine lv_bipush (v := (nI 10)) X.1 X.2.1 d_So_init_54 (by decide) ?_
  refine q_bast X.1 X.2.1 X.2.2.2.2 Y 0 m47 e68 rfl (vp_in_nI (by omega) (by omega)) d_So_init_56 (fun H locs Y => ?_)
  have hg71 : fB (upd (fun _ => 0) ((nI 0)).toNatClampNeg (vp_nar .byte (nI 10))) := fB_upd fB_0
  generalize (upd (fun _ => 0) ((nI 0)).toNatClampNeg (vp_nar .byte (nI 10))) = g70 at Y hg71
  have e73 : (va_up f64 q43 (.inl (E.1, 4, .inl g70))) q43 = .inl (E.1, 4, .inl g70) := q_up
  have e74 : (va_up f64 q43 (.inl (E.1, 4, .inl g70))) o = .inr (9, [.ref vo, .int (nI 0), .int (-1), .ref (T.1 0), .ref (T.1 0), .int (nI 0), .int (nI 0), .long 0, .ref q10, .ref q25, .ref q43]) := (q_ne (q_tag e65 e68 (show (9 : Nat) ≠ 1000 by decide))).trans e65
  have e75 : (va_up f64 q43 (.inl (E.1, 4, .inl g70))) q10 = .inl (E.2.1, 2, .inl (fun _ => 0)) := (q_ne (ne_mem hqq43 m37)).trans e66
  have e76 : (va_up f64 q43 (.inl (E.1, 4, .inl g70))) q25 = .inl (E.2.1, 2, .inl (fun _ => 0)) := (q_ne (ne_mem hqq43 m29)).trans e67
  have hF77 : ∀ x, x ∈ L → x ≠ o → (va_up f64 q43 (.inl (E.1, 4, .inl g70))) x = f x := fun x hx h0 => (q_ne (ne_mem nl48 hx)).trans (hF69 x hx h0)
  have Y : pH D cCl (pA L sz) s.heap L44 (va_up f64 q43 (.inl (E.1, 4, .inl g70))) H locs := Y
  generalize (va_up f64 q43 (.inl (E.1, 4, .inl g70))) = f72 at Y e73 e74 e75 e76 hF77
  refine W.cs (cells' := 3) (slots' := 8) (by omega) (by omega) ?_
  exact c_retv hQQ X Y hr hlk ⟨s46, hF77, q10, q25, q43, ((-1)), e74⟩ d_So_init_57
set_option maxHeartbeats 4000000 in
set_option maxRecDepth 100000 in
theorem c_Ga_init (l : Launch) (D : va_G) (E : cE) (T : cT) (L : List Nat) (f : pF) (sz : Nat) (vo : Nat) (o : Nat) (m_o : o ∈ L) (e_o : f o = .inr (5, [.null, .null, .null, .null, .int (nI 0)])) : Met l y_Ga_init (k_Ga_init :: lw_tg) (kRm 2 41 4 (8004)) (va_Pc [.ref o, .ref vo] (kPre D E T L f sz)) (va_Qv (fun (u : cU) => (∀ x, x ∈ L → x ∈ u.1) ∧ (∀ x, x ∈ L → x ≠ o → u.2 x = f x) ∧ ∃ (o1 o2 : Nat), u.2 o = .inr (5, [.ref vo, .ref o1, .ref o2, .ref (T.1 0), .int (nI 32)])) (cPost D E (pA L sz)) (pA L sz)) 4 (8004) (pA L sz) := by
  refine k_enter (own := R_Ga) (by decide) rfl (Nat.le_of_ble_eq_true rfl) (fun p e s m below meth c ls AV QQ H locs hQQ X Y hA hin hr hlk hml hl KS KR => ?_)
  have hl : lv_has ls 2 [(0, .ref o), (1, .ref vo)] := hl
  refine lv_aload_n X.1 X.2.1 d_Ga_init_0 rfl (lv_at hl 0 rfl) ?_
  refine W.objInit X.1 X.2.1 X.2.2.2.1 (X.2.2.1 _ ol_Ga) (X.2.2.1 _ o_inst) (X.2.2.1 _ o_code) rfl (by rw [hml]; exact hl.1) rfl d_Ga_init_1 (Nat.le_of_ble_eq_true rfl) (Nat.le_of_ble_eq_true rfl) ?_
  refine W.eq (g2 := F0 m 4 ls []) rfl ?_
  refine lv_aload_n X.1 X.2.1 d_Ga_init_4 rfl (lv_at hl 0 rfl) ?_
  refine q_new X.1 X.2.1 X.2.2.1 i_By t_By t_By_ok X.2.2.2.1 (X.2.2.1 _ ck_Ga_9) (X.2.2.1 _ mk_By) (X.2.2.1 _ ini_By) X.2.2.2.2 Y hA (ci := 3) rfl (fs := [.null, .int (nI 0)]) (fun j hj => match j, hj with | 0, _ => rfl | 1, _ => rfl | n9 + 2, h9 => absurd (show n9 + 2 < 2 from h9) (by omega)) (show 0 + 1 ≤ 4 by omega) (show 0 + 2 ≤ (8004) by omega) d_Ga_init_5 (fun q1 H hqq1 Y => ?_)
  have Y : pH D cCl (pA L sz) s.heap (L ++ [q1]) (va_up f q1 (.inr (3, [.null, .int (nI 0)]))) H locs := Y
  have e8 : (va_up f q1 (.inr (3, [.null, .int (nI 0)]))) q1 = .inr (3, [.null, .int (nI 0)]) := q_up
  have e9 : (va_up f q1 (.inr (3, [.null, .int (nI 0)]))) o = .inr (5, [.null, .null, .null, .null, .int (nI 0)]) := (q_ne (ne_mem hqq1 m_o)).trans e_o
  have nl6 : q1 ∉ L := fun h9 => hqq1 h9
  have hF10 : ∀ x, x ∈ L → x ≠ o → (va_up f q1 (.inr (3, [.null, .int (nI 0)]))) x = f x := fun x hx h0 => (q_ne (ne_mem nl6 hx)).trans rfl
  generalize (va_up f q1 (.inr (3, [.null, .int (nI 0)]))) = f7 at Y e8 e9 hF10
  have s4 : ∀ x, x ∈ L → x ∈ L ++ [q1] := fun x hx => List.mem_append_left _ hx
  have m11 : o ∈ L ++ [q1] := List.mem_append_left _ m_o
  have m5 : q1 ∈ L ++ [q1] := List.mem_append_right _ (List.mem_singleton.mpr rfl)
  generalize L ++ [q1] = L2 at Y s4 m11 m5
  refine lv_dup X.1 X.2.1 d_Ga_init_8 rfl ?_
  refine lv_sipush (v := (nI 4000)) X.1 X.2.1 d_Ga_init_9 (by decide) ?_
  refine x_v (x_runI (As := [.int (nI 4000)]) (rest := [.ref q1, .ref o]) (n := 1) X hml hl.1 (c_By_init l D E T L2 f7 H.size (4000) q1 m5 e8 (by omega)) (ok_k X Y hA KS KR) kl_Ga_By_init ks_By_init ki_By_init ini_By rfl ⟨rfl, rfl⟩ hd_By_init.2 ⟨by decide, by decide⟩ rfl (Nat.le_of_ble_eq_true rfl) d_Ga_init_12 ⟨(show 1 + 1 ≤ 4 by omega), (show 2 + (4000) ≤ (8004) by omega)⟩) X Y hA (fun u H locs hp Y => ?_)
  obtain ⟨L14, f13⟩ := u
  obtain ⟨eL16, hF15, q18, g19, m20, nl21, hg22, e23, e24⟩ := hp
  dsimp only at eL16 hF15 m20 e23 e24 Y
  have e25 : f13 o = .inr (5, [.null, .null, .null, .null, .int (nI 0)]) := (hF15 o m11 (q_tag e9 e8 (show (5 : Nat) ≠ 3 by decide))).trans e9
  have hF26 : ∀ x, x ∈ L → x ≠ o → f13 x = f x := fun x hx h0 => (hF15 x (s4 x hx) (ne_mem nl6 hx)).trans (hF10 x hx h0)
  have s27 : ∀ x, x ∈ L → x ∈ L14 := fun x hx => eL16 x (s4 x hx)
  have nl28 : q18 ∉ L := fun h9 => nl21 (s4 _ h9)
  have m29 : o ∈ L14 := eL16 _ m11
  have m30 : q1 ∈ L14 := eL16 _ m5
  refine q_putF X.1 X.2.1 X.2.2.1 i_Ga t_Ga t_Ga_ok n_Ga X.2.2.2.1 X.2.2.2.2 Y m29 e25 rfl 1 (by decide) (X.2.2.1 _ lk_Ga_14) (fun _ h9 => h9) rfl hin rfl (t_Ga_ok 1 (by decide)) rfl rfl (Nat.le_of_ble_eq_true rfl) d_Ga_init_15 (fun H locs Y => ?_)
  have e32 : (va_up f13 o (.inr (5, [.null, .ref q1, .null, .null, .int (nI 0)]))) o = .inr (5, [.null, .ref q1, .null, .null, .int (nI 0)]) := q_up
  have e33 : (va_up f13 o (.inr (5, [.null, .ref q1, .null, .null, .int (nI 0)]))) q1 = .inr (3, [.ref q18, .int (nI 0)]) := (q_ne (q_tag e23 e25 (show (3 : Nat) ≠ 5 by decide))).trans e23
  have e34 : (va_up f13 o (.inr (5, [.null, .ref q1, .null, .null, .int (nI 0)]))) q18 = .inl (E.1, 4000, .inl g19) := (q_ne (q_tag e24 e25 (show (1000 : Nat) ≠ 5 by decide))).trans e24
  have hF35 : ∀ x, x ∈ L → x ≠ o → (va_up f13 o (.inr (5, [.null, .ref q1, .null, .null, .int (nI 0)]))) x = f x := fun x hx h0 => (q_ne h0).trans (hF26 x hx h0)
  have Y : pH D cCl (pA L sz) s.heap L14 (va_up f13 o (.inr (5, [.null, .ref q1, .null, .null, .int (nI 0)]))) H locs := Y
  generalize (va_up f13 o (.inr (5, [.null, .ref q1, .null, .null, .int (nI 0)]))) = f31 at Y e32 e33 e34 hF35
  refine lv_aload_n X.1 X.2.1 d_Ga_init_18 rfl (lv_at hl 0 rfl) ?_
  refine q_new X.1 X.2.1 X.2.2.1 i_By t_By t_By_ok X.2.2.2.1 (X.2.2.1 _ ck_Ga_9) (X.2.2.1 _ mk_By) (X.2.2.1 _ ini_By) X.2.2.2.2 Y hA (ci := 3) rfl (fs := [.null, .int (nI 0)]) (fun j hj => match j, hj with | 0, _ => rfl | 1, _ => rfl | n9 + 2, h9 => absurd (show n9 + 2 < 2 from h9) (by omega)) (show 2 + 1 ≤ 4 by omega) (show 4002 + 2 ≤ (8004) by omega) d_Ga_init_19 (fun q36 H hqq36 Y => ?_)
  have Y : pH D cCl (pA L sz) s.heap (L14 ++ [q36]) (va_up f31 q36 (.inr (3, [.null, .int (nI 0)]))) H locs := Y
  have e43 : (va_up f31 q36 (.inr (3, [.null, .int (nI 0)]))) q36 = .inr (3, [.null, .int (nI 0)]) := q_up
  have e44 : (va_up f31 q36 (.inr (3, [.null, .int (nI 0)]))) o = .inr (5, [.null, .ref q1, .null, .null, .int (nI 0)]) := (q_ne (ne_mem hqq36 m29)).trans e32
  have e45 : (va_up f31 q36 (.inr (3, [.null, .int (nI 0)]))) q1 = .inr (3, [.ref q18, .int (nI 0)]) := (q_ne (ne_mem hqq36 m30)).trans e33
  have e46 : (va_up f31 q36 (.inr (3, [.null, .int (nI 0)]))) q18 = .inl (E.1, 4000, .inl g19) := (q_ne (ne_mem hqq36 m20)).trans e34
  have nl41 : q36 ∉ L := fun h9 => hqq36 (s27 _ h9)
  have hF47 : ∀ x, x ∈ L → x ≠ o → (va_up f31 q36 (.inr (3, [.null, .int (nI 0)]))) x = f x := fun x hx h0 => (q_ne (ne_mem nl41 hx)).trans (hF35 x hx h0)
  generalize (va_up f31 q36 (.inr (3, [.null, .int (nI 0)]))) = f42 at Y e43 e44 e45 e46 hF47
  have s39 : ∀ x, x ∈ L → x ∈ L14 ++ [q36] := fun x hx => List.mem_append_left _ (s27 x hx)
  have m48 : o ∈ L14 ++ [q36] := List.mem_append_left _ m29
  have m49 : q1 ∈ L14 ++ [q36] := List.mem_append_left _ m30
  have m50 : q18 ∈ L14 ++ [q36] := List.mem_append_left _ m20
  have m40 : q36 ∈ L14 ++ [q36] := List.mem_append_right _ (List.mem_singleton.mpr rfl)
  generalize L14 ++ [q36] = L37 at Y s39 m48 m49 m50 m40
  refine lv_dup X.1 X.2.1 d_Ga_init_22 rfl ?_
  refine lv_sipush (v := (nI 4000)) X.1 X.2.1 d_Ga_init_23 (by decide) ?_
  refine x_v (x_runI (As := [.int (nI 4000)]) (rest := [.ref q36, .ref o]) (n := 1) X hml hl.1 (c_By_init l D E T L37 f42 H.size (4000) q36 m40 e43 (by omega)) (ok_k X Y hA KS KR) kl_Ga_By_init ks_By_init ki_By_init ini_By rfl ⟨rfl, rfl⟩ hd_By_init.2 ⟨by decide, by decide⟩ rfl (Nat.le_of_ble_eq_true rfl) d_Ga_init_26 ⟨(show 3 + 1 ≤ 4 by omega), (show 4004 + (4000) ≤ (8004) by omega)⟩) X Y hA (fun u H locs hp Y => ?_)
  obtain ⟨L53, f52⟩ := u
  obtain ⟨eL55, hF54, q57, g58, m59, nl60, hg61, e62, e63⟩ := hp
  dsimp only at eL55 hF54 m59 e62 e63 Y
  have e64 : f52 o = .inr (5, [.null, .ref q1, .null, .null, .int (nI 0)]) := (hF54 o m48 (q_tag e44 e43 (show (5 : Nat) ≠ 3 by decide))).trans e44
  have e65 : f52 q1 = .inr (3, [.ref q18, .int (nI 0)]) := (hF54 q1 m49 (ne_mem hqq36 m30)).trans e45
  have e66 : f52 q18 = .inl (E.1, 4000, .inl g19) := (hF54 q18 m50 (q_tag e46 e43 (show (1000 : Nat) ≠ 3 by decide))).trans e46
  have hF67 : ∀ x, x ∈ L → x ≠ o → f52 x = f x := fun x hx h0 => (hF54 x (s39 x hx) (ne_mem nl41 hx)).trans (hF47 x hx h0)
  have s68 : ∀ x, x ∈ L → x ∈ L53 := fun x hx => eL55 x (s39 x hx)
  have nl69 : q57 ∉ L := fun h9 => nl60 (s39 _ h9)
  have m70 : o ∈ L53 := eL55 _ m48
  have m71 : q1 ∈ L53 := eL55 _ m49
  have m72 : q18 ∈ L53 := eL55 _ m50
  have m73 : q36 ∈ L53 := eL55 _ m40
  refine q_putF X.1 X.2.1 X.2.2.1 i_Ga t_Ga t_Ga_ok n_Ga X.2.2.2.1 X.2.2.2.2 Y m70 e64 rfl 2 (by decide) (X.2.2.1 _ lk_Ga_20) (fun _ h9 => h9) rfl hin rfl (t_Ga_ok 2 (by decide)) rfl rfl (Nat.le_of_ble_eq_true rfl) d_Ga_init_29 (fun H locs Y => ?_)
  have e75 : (va_up f52 o (.inr (5, [.null, .ref q1, .ref q36, .null, .int (nI 0)]))) o = .inr (5, [.null, .ref q1, .ref q36, .null, .int (nI 0)]) := q_up
  have e76 : (va_up f52 o (.inr (5, [.null, .ref q1, .ref q36, .null, .int (nI 0)]))) q1 = .inr (3, [.ref q18, .int (nI 0)]) := (q_ne (q_tag e65 e64 (show (3 : Nat) ≠ 5 by decide))).trans e65
  have e77 : (va_up f52 o (.inr (5, [.null, .ref q1, .ref q36, .null, .int (nI 0)]))) q18 = .inl (E.1, 4000, .inl g19) := (q_ne (q_tag e66 e64 (show (1000 : Nat) ≠ 5 by decide))).trans e66
  have e78 : (va_up f52 o (.inr (5, [.null, .ref q1, .ref q36, .null, .int (nI 0)]))) q36 = .inr (3, [.ref q57, .int (nI 0)]) := (q_ne (q_tag e62 e64 (show (3 : Nat) ≠ 5 by decide))).trans e62
  have e79 : (va_up f52 o (.inr (5, [.null, .ref q1, .ref q36, .null, .int (nI 0)]))) q57 = .inl (E.1, 4000, .inl g58) := (q_ne (q_tag e63 e64 (show (1000 : Nat) ≠ 5 by decide))).trans e63
  have hF80 : ∀ x, x ∈ L → x ≠ o → (va_up f52 o (.inr (5, [.null, .ref q1, .ref q36, .null, .int (nI 0)]))) x = f x := fun x hx h0 => (q_ne h0).trans (hF67 x hx h0)
  have Y : pH D cCl (pA L sz) s.heap L53 (va_up f52 o (.inr (5, [.null, .ref q1, .ref q36, .null, .int (nI 0)]))) H locs := Y
  generalize (va_up f52 o (.inr (5, [.null, .ref q1, .ref q36, .null, .int (nI 0)]))) = f74 at Y e75 e76 e77 e78 e79 hF80
  refine lv_aload_n X.1 X.2.1 d_Ga_init_32 rfl (lv_at hl 0 rfl) ?_
  refine k_getsN X Y KS KR (by decide) d_Ga_init_33 ?_
  refine q_put X.1 X.2.1 X.2.2.1 i_Ga t_Ga t_Ga_ok n_Ga X.2.2.2.1 X.2.2.2.2 Y m70 e75 rfl 3 (by decide) (X.2.2.1 _ lk_Ga_27) (fun _ h9 => h9) rfl (t_Ga_ok 3 (by decide)) rfl rfl (Nat.le_of_ble_eq_true rfl) d_Ga_init_36 (fun H locs Y => ?_)
  have e82 : (va_up f74 o (.inr (5, [.null, .ref q1, .ref q36, .ref (T.1 0), .int (nI 0)]))) o = .inr (5, [.null, .ref q1, .ref q36, .ref (T.1 0), .int (nI 0)]) := q_up
  have e83 : (va_up f74 o (.inr (5, [.null, .ref q1, .ref q36, .ref (T.1 0), .int (nI 0)]))) q1 = .inr (3, [.ref q18, .int (nI 0)]) := (q_ne (q_tag e76 e75 (show (3 : Nat) ≠ 5 by decide))).trans e76
  have e84 : (va_up f74 o (.inr (5, [.null, .ref q1, .ref q36, .ref (T.1 0), .int (nI 0)]))) q18 = .inl (E.1, 4000, .inl g19) := (q_ne (q_tag e77 e75 (show (1000 : Nat) ≠ 5 by decide))).trans e77
  have e85 : (va_up f74 o (.inr (5, [.null, .ref q1, .ref q36, .ref (T.1 0), .int (nI 0)]))) q36 = .inr (3, [.ref q57, .int (nI 0)]) := (q_ne (q_tag e78 e75 (show (3 : Nat) ≠ 5 by decide))).trans e78
  have e86 : (va_up f74 o (.inr (5, [.null, .ref q1, .ref q36, .ref (T.1 0), .int (nI 0)]))) q57 = .inl (E.1, 4000, .inl g58) := (q_ne (q_tag e79 e75 (show (1000 : Nat) ≠ 5 by decide))).trans e79
  have hF87 : ∀ x, x ∈ L → x ≠ o → (va_up f74 o (.inr (5, [.null, .ref q1, .ref q36, .ref (T.1 0), .int (nI 0)]))) x = f x := fun x hx h0 => (q_ne h0).trans (hF80 x hx h0)
  have Y : pH D cCl (pA L sz) s.heap L53 (va_up f74 o (.inr (5, [.null, .ref q1, .ref q36, .ref (T.1 0), .int (nI 0)]))) H locs := Y
  generalize (va_up f74 o (.inr (5, [.null, .ref q1, .ref q36, .ref (T.1 0), .int (nI 0)]))) = f81 at Y e82 e83 e84 e85 e86 hF87
  refine lv_aload_n X.1 X.2.1 d_Ga_init_39 rfl (lv_at hl 0 rfl) ?_
  refine lv_bipush (v := (nI 32)) X.1 X.2.1 d_Ga_init_40 (by decide) ?_
  refine q_put X.1 X.2.1 X.2.2.1 i_Ga t_Ga t_Ga_ok n_Ga X.2.2.2.1 X.2.2.2.2 Y m70 e82 rfl 4 (by decide) (X.2.2.1 _ lk_Ga_30) (fun _ h9 => h9) rfl (t_Ga_ok 4 (by decide)) rfl rfl (Nat.le_of_ble_eq_true rfl) d_Ga_init_42 (fun H locs Y => ?_)
  have e89 : (va_up f81 o (.inr (5, [.null, .ref q1, .ref q36, .ref (T.1 0), .int (nI 32)]))) o = .inr (5, [.null, .ref q1, .ref q36, .ref (T.1 0), .int (nI 32)]) := q_up
  have e90 : (va_up f81 o (.inr (5, [.null, .ref q1, .ref q36, .ref (T.1 0), .int (nI 32)]))) q1 = .inr (3, [.ref q18, .int (nI 0)]) := (q_ne (q_tag e83 e82 (show (3 : Nat) ≠ 5 by decide))).trans e83
  have e91 : (va_up f81 o (.inr (5, [.null, .ref q1, .ref q36, .ref (T.1 0), .int (nI 32)]))) q18 = .inl (E.1, 4000, .inl g19) := (q_ne (q_tag e84 e82 (show (1000 : Nat) ≠ 5 by decide))).trans e84
  have e92 : (va_up f81 o (.inr (5, [.null, .ref q1, .ref q36, .ref (T.1 0), .int (nI 32)]))) q36 = .inr (3, [.ref q57, .int (nI 0)]) := (q_ne (q_tag e85 e82 (show (3 : Nat) ≠ 5 by decide))).trans e85
  have e93 : (va_up f81 o (.inr (5, [.null, .ref q1, .ref q36, .ref (T.1 0), .int (nI 32)]))) q57 = .inl (E.1, 4000, .inl g58) := (q_ne (q_tag e86 e82 (show (1000 : Nat) ≠ 5 by decide))).trans e86
  have hF94 : ∀ x, x ∈ L → x ≠ o → (va_up f81 o (.inr (5, [.null, .ref q1, .ref q36, .ref (T.1 0), .int (nI 32)]))) x = f x := fun x hx h0 => (q_ne h0).trans (hF87 x hx h0)
  have Y : pH D cCl (pA L sz) s.heap L53 (va_up f81 o (.inr (5, [.null, .ref q1, .ref q36, .ref (T.1 0), .int (nI 32)]))) H locs := Y
  generalize (va_up f81 o (.inr (5, [.null, .ref q1, .ref q36, .ref (T.1 0), .int (nI 32)]))) = f88 at Y e89 e90 e91 e92 e93 hF94
  refine lv_aload_n X.1 X.2.1 d_Ga_init_45 rfl (lv_at hl 0 rfl) ?_
  refine lv_aload_n X.1 X.2.1 d_Ga_init_46 rfl (lv_at hl 1 rfl) ?_
  refine q_putF X.1 X.2.1 X.2.2.1 i_Ga t_Ga t_Ga_ok n_Ga X.2.2.2.1 X.2.2.2.2 Y m70 e89 rfl 0 (by decide) (X.2.2.1 _ lk_Ga_34) (fun _ h9 => h9) rfl hin rfl (t_Ga_ok 0 (by decide)) rfl rfl (Nat.le_of_ble_eq_true rfl) d_Ga_init_47 (fun H locs Y => ?_)
  have e96 : (va_up f88 o (.inr (5, [.ref vo, .ref q1, .ref q36, .ref (T.1 0), .int (nI 32)]))) o = .inr (5, [.ref vo, .ref q1, .ref q36, .ref (T.1 0), .int (nI 32)]) := q_up
  have e97 : (va_up f88 o (.inr (5, [.ref vo, .ref q1, .ref q36, .ref (T.1 0), .int (nI 32)]))) q1 = .inr (3, [.ref q18, .int (nI 0)]) := (q_ne (q_tag e90 e89 (show (3 : Nat) ≠ 5 by decide))).trans e90
  have e98 : (va_up f88 o (.inr (5, [.ref vo, .ref q1, .ref q36, .ref (T.1 0), .int (nI 32)]))) q18 = .inl (E.1, 4000, .inl g19) := (q_ne (q_tag e91 e89 (show (1000 : Nat) ≠ 5 by decide))).trans e91
  have e99 : (va_up f88 o (.inr (5, [.ref vo, .ref q1, .ref q36, .ref (T.1 0), .int (nI 32)]))) q36 = .inr (3, [.ref q57, .int (nI 0)]) := (q_ne (q_tag e92 e89 (show (3 : Nat) ≠ 5 by decide))).trans e92
  have e100 : (va_up f88 o (.inr (5, [.ref vo, .ref q1, .ref q36, .ref (T.1 0), .int (nI 32)]))) q57 = .inl (E.1, 4000, .inl g58) := (q_ne (q_tag e93 e89 (show (1000 : Nat) ≠ 5 by decide))).trans e93
  have hF101 : ∀ x, x ∈ L → x ≠ o → (va_up f88 o (.inr (5, [.ref vo, .ref q1, .ref q36, .ref (T.1 0), .int (nI 32)]))) x = f x := fun x hx h0 => (q_ne h0).trans (hF94 x hx h0)
  have Y : pH D cCl (pA L sz) s.heap L53 (va_up f88 o (.inr (5, [.ref vo, .ref q1, .ref q36, .ref (T.1 0), .int (nI 32)]))) H locs := Y
  generalize (va_up f88 o (.inr (5, [.ref vo, .ref q1, .ref q36, .ref (T.1 0), .int (nI 32)]))) = f95 at Y e96 e97 e98 e99 e100 hF101
  refine W.cs (cells' := 4) (slots' := 8004) (by omega) (by omega) ?_
  exact c_retv hQQ X Y hr hlk ⟨s68, hF101, q1, q36, e96⟩ d_Ga_init_50
set_option maxHeartbeats 4000000 in
set_option maxRecDepth 100000 in
theorem c_Pr_begin (l : Launch) (D : va_G) (E : cE) (T : cT) (L : List Nat) (f : pF) (sz : Nat) (N M pr b r b2 r2 sno l18 l17 d18 d17 ver n n3 : Nat) (pth prd lif ren flg xpy : Int32) (g_r g_r2 : Nat → Int32) (m_pr : pr ∈ L) (m_b : b ∈ L) (m_r : r ∈ L) (m_b2 : b2 ∈ L) (m_r2 : r2 ∈ L) (e_pr : f pr = .inr (7, [.ref b, .ref sno, .int pth, .int (nI ver), .int prd, .ref l18, .ref l17, .ref d18, .ref d17, .int lif, .int ren, .int flg, .int xpy])) (e_b : f b = .inr (3, [.ref r, .int (nI n)])) (e_r : f r = .inl (E.1, N, .inl g_r)) (e_b2 : f b2 = .inr (3, [.ref r2, .int (nI n3)])) (e_r2 : f r2 = .inl (E.1, M, .inl g_r2)) (f_r : fB g_r) (f_r2 : fB g_r2) (ap_b_b2 : b ≠ b2) (ap_r_r2 : r ≠ r2) (hh0 : n ≤ N) (hh1 : N < 100000) (hh2 : n3 ≤ M) (hh3 : M < 100000) : Met l y_Pr_begin (k_Pr_begin :: lw_tg) (kRm 3 104 0 (0)) (va_Pc [.ref pr, .ref b2] (kPre D E T L f sz)) (va_Qv (fun (u : cU) => u.1 = L ∧ (∀ x, x ≠ pr → x ≠ b → x ≠ r → u.2 x = f x) ∧ ∃ (n2 : Nat) (k_r : Nat → Int32), fB k_r ∧ (n2 ≤ N) ∧ u.2 pr = .inr (7, [.ref b, .ref sno, .int (nI 1), .int (nI ver), .int prd, .ref l18, .ref l17, .ref d18, .ref d17, .int lif, .int ren, .int flg, .int xpy]) ∧ u.2 b = .inr (3, [.ref r, .int (nI n2)]) ∧ u.2 r = .inl (E.1, N, .inl k_r)) (cPost D E (pA L sz)) (pA L sz)) 0 (0) (pA L sz) := by
  refine k_enter (own := R_Pr) (by decide) rfl (Nat.le_of_ble_eq_true rfl) (fun p e s m below meth c ls AV QQ H locs hQQ X Y hA hin hr hlk hml hl KS KR => ?_)
  have hl : lv_has ls 2 [(0, .ref pr), (1, .ref b2)] := hl
  refine lv_aload_n X.1 X.2.1 d_Pr_begin_0 rfl (lv_at hl 0 rfl) ?_
  refine q_get X.1 X.2.1 X.2.2.1 i_Pr X.2.2.2.1 X.2.2.2.2 Y m_pr e_pr rfl 0 (by decide) (X.2.2.1 _ lk_Pr_14) (fun _ h9 => h9) rfl d_Pr_begin_1 ?_
  refine lv_aload_n X.1 X.2.1 d_Pr_begin_4 rfl (lv_at hl 1 rfl) ?_
  refine x_v (x_runV (As := [.ref b2]) (rest := []) (n := 1) X Y hml hl.1 (c_By_copyOf l D E L f H.size (N) (M) b r b2 r2 (n) (n3) g_r g_r2 m_b m_r m_b2 m_r2 e_b e_r e_b2 e_r2 f_r f_r2 ap_b_b2 ap_r_r2 (by omega) (by omega) (by omega) (by omega)) (ok_c X Y) m_b e_b rfl kl_Pr_By_copyOf ks_By_copyOf kx_By_copyOf ki_By_copyOf ini_By ⟨rfl, rfl⟩ hd_By_copyOf ⟨by decide, by decide⟩ rfl (Nat.le_of_ble_eq_true rfl) d_Pr_begin_5 ⟨(show 0 + 0 ≤ 0 by omega), (show 0 + (0) ≤ (0) by omega)⟩) X Y hA (fun u H locs hp Y => ?_)
  obtain ⟨L2, f1⟩ := u
  obtain ⟨eL5, hF3, n7, g8, hg9, h10, e11, e12⟩ := hp
  dsimp only at eL5 hF3 e11 e12 Y
  rw [eL5] at Y
  have e13 : f1 pr = .inr (7, [.ref b, .ref sno, .int pth, .int (nI ver), .int prd, .ref l18, .ref l17, .ref d18, .ref d17, .int lif, .int ren, .int flg, .int xpy]) := (hF3 pr (q_tag e_pr e_b (show (7 : Nat) ≠ 3 by decide)) (q_tag e_pr e_r (show (7 : Nat) ≠ 1000 by decide))).trans e_pr
  have e14 : f1 b2 = .inr (3, [.ref r2, .int (nI n3)]) := (hF3 b2 ap_b_b2.symm (q_tag e_b2 e_r (show (3 : Nat) ≠ 1000 by decide))).trans e_b2
  have e15 : f1 r2 = .inl (E.1, M, .inl g_r2) := (hF3 r2 (q_tag e_r2 e_b (show (1000 : Nat) ≠ 3 by decide)) ap_r_r2.symm).trans e_r2
  have hF16 : ∀ x, x ≠ pr → x ≠ b → x ≠ r → f1 x = f x := fun x h0 h1 h2 => (hF3 x h1 h2).trans rfl
  refine lv_aload_n X.1 X.2.1 d_Pr_begin_8 rfl (lv_at hl 0 rfl) ?_
  refine lv_iconst (v := (nI 1)) X.1 X.2.1 d_Pr_begin_9 (by decide) ?_
  refine q_put X.1 X.2.1 X.2.2.1 i_Pr t_Pr t_Pr_ok n_Pr X.2.2.2.1 X.2.2.2.2 Y m_pr e13 rfl 2 (by decide) (X.2.2.1 _ lk_Pr_55) (fun _ h9 => h9) rfl (t_Pr_ok 2 (by decide)) rfl rfl (Nat.le_of_ble_eq_true rfl) d_Pr_begin_10 (fun H locs Y => ?_)
  have e18 : (va_up f1 pr (.inr (7, [.ref b, .ref sno, .int (nI 1), .int (nI ver), .int prd, .ref l18, .ref l17, .ref d18, .ref d17, .int lif, .int ren, .int flg, .int xpy]))) pr = .inr (7, [.ref b, .ref sno, .int (nI 1), .int (nI ver), .int prd, .ref l18, .ref l17, .ref d18, .ref d17, .int lif, .int ren, .int flg, .int xpy]) := q_up
  have e19 : (va_up f1 pr (.inr (7, [.ref b, .ref sno, .int (nI 1), .int (nI ver), .int prd, .ref l18, .ref l17, .ref d18, .ref d17, .int lif, .int ren, .int flg, .int xpy]))) b = .inr (3, [.ref r, .int (nI n7)]) := (q_ne (q_tag e11 e13 (show (3 : Nat) ≠ 7 by decide))).trans e11
  have e20 : (va_up f1 pr (.inr (7, [.ref b, .ref sno, .int (nI 1), .int (nI ver), .int prd, .ref l18, .ref l17, .ref d18, .ref d17, .int lif, .int ren, .int flg, .int xpy]))) r = .inl (E.1, N, .inl g8) := (q_ne (q_tag e12 e13 (show (1000 : Nat) ≠ 7 by decide))).trans e12
  have e21 : (va_up f1 pr (.inr (7, [.ref b, .ref sno, .int (nI 1), .int (nI ver), .int prd, .ref l18, .ref l17, .ref d18, .ref d17, .int lif, .int ren, .int flg, .int xpy]))) b2 = .inr (3, [.ref r2, .int (nI n3)]) := (q_ne (q_tag e14 e13 (show (3 : Nat) ≠ 7 by decide))).trans e14
  have e22 : (va_up f1 pr (.inr (7, [.ref b, .ref sno, .int (nI 1), .int (nI ver), .int prd, .ref l18, .ref l17, .ref d18, .ref d17, .int lif, .int ren, .int flg, .int xpy]))) r2 = .inl (E.1, M, .inl g_r2) := (q_ne (q_tag e15 e13 (show (1000 : Nat) ≠ 7 by decide))).trans e15
  have hF23 : ∀ x, x ≠ pr → x ≠ b → x ≠ r → (va_up f1 pr (.inr (7, [.ref b, .ref sno, .int (nI 1), .int (nI ver), .int prd, .ref l18, .ref l17, .ref d18, .ref d17, .int lif, .int ren, .int flg, .int xpy]))) x = f x := fun x h0 h1 h2 => (q_ne h0).trans (hF16 x h0 h1 h2)
  have Y : pH D cCl (pA L sz) s.heap L (va_up f1 pr (.inr (7, [.ref b, .ref sno, .int (nI 1), .int (nI ver), .int prd, .ref l18, .ref l17, .ref d18, .ref d17, .int lif, .int ren, .int flg, .int xpy]))) H locs := Y
  generalize (va_up f1 pr (.inr (7, [.ref b, .ref sno, .int (nI 1), .int (nI ver), .int prd, .ref l18, .ref l17, .ref d18, .ref d17, .int lif, .int ren, .int flg, .int xpy]))) = f17 at Y e18 e19 e20 e21 e22 hF23
  exact c_retv hQQ X Y hr hlk ⟨rfl, hF23, (n7), g8, hg9, (by omega), e18, e19, e20⟩ d_Pr_begin_13
