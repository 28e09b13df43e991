/-! Texts: the JDK's own length() and charAt() over a String that is a constant: its cell, its bytes. -/
def R_S : String := "java/lang/String"
def R_S1 : String := "java/lang/StringLatin1"
def R_Pc : String := "jdk/internal/util/Preconditions"
abbrev b_Pcheck : ByteArray := prog_20_method_11_code
def y_Pcheck : MethodName := ⟨R_Pc, "checkIndex", "(IILjava/util/function/BiFunction;)I"⟩
abbrev b_Scheck : ByteArray := prog_16_method_155_code
def y_Scheck : MethodName := ⟨R_S, "checkIndex", "(II)V"⟩
abbrev b_S1charAt : ByteArray := prog_17_method_2_code
def y_S1charAt : MethodName := ⟨R_S1, "charAt", "([BI)C"⟩
abbrev b_isLatin1 : ByteArray := prog_16_method_154_code
def y_isLatin1 : MethodName := ⟨R_S, "isLatin1", "()Z"⟩
abbrev b_coder : ByteArray := prog_16_method_152_code
def y_coder : MethodName := ⟨R_S, "coder", "()B"⟩
abbrev b_charAt : ByteArray := prog_16_method_56_code
def y_charAt : MethodName := ⟨R_S, "charAt", "(I)C"⟩
abbrev b_length : ByteArray := prog_16_method_54_code
def y_length : MethodName := ⟨R_S, "length", "()I"⟩
theorem ki_Pcheck : Cond.code y_Pcheck b_Pcheck 3 (some .int) ∈ lw_tg := in_t 517 (by decide +kernel)
theorem ks_Pcheck : Cond.static y_Pcheck ∈ lw_tg := in_t 516 (by decide +kernel)
theorem kl_Pcheck : Cond.methodLink R_S 1059 y_Pcheck ∈ lw_tg := in_t 515 (by decide +kernel)
theorem ki_Scheck : Cond.code y_Scheck b_Scheck 2 none ∈ lw_tg := in_t 512 (by decide +kernel)
theorem ks_Scheck : Cond.static y_Scheck ∈ lw_tg := in_t 511 (by decide +kernel)
theorem kl_Scheck : Cond.methodLink R_S1 9 y_Scheck ∈ lw_tg := in_t 510 (by decide +kernel)
theorem kf_fmt : Cond.fieldLink R_S 1053 R_Pc "SIOOBE_FORMATTER" "Ljava/util/function/BiFunction;" ∈ lw_tg := in_t 513 (by decide +kernel)
theorem ini_S : Cond.initialized R_S ∈ lw_tg := in_t 13 (by decide +kernel)
theorem ini_S1 : Cond.initialized R_S1 ∈ lw_tg := in_t 14 (by decide +kernel)
theorem ini_Pc : Cond.initialized R_Pc ∈ lw_tg := in_t 15 (by decide +kernel)
/-- a String constant's cells: at a, its bytes at v, n of them, f; the statics that its methods read -/
def sO (a v n : Nat) (f : Nat → Int32) (fv : Value) (U : State) : Prop := va_O R_S a (fun _ => False) U U.heap ∧ va_OF R_S "coder" "B" (.int 0) a (fun _ => False) U U.heap ∧ va_OF R_S "value" "[B" (.ref v) a (fun _ => False) U U.heap ∧ va_T .byte v n (fun j => .int (f j)) (fun _ => False) U U.heap ∧ va_Z R_S "COMPACT_STRINGS" "Z" (.int 1) (fun _ => False) U U.heap ∧ va_Z R_Pc "SIOOBE_FORMATTER" "Ljava/util/function/BiFunction;" fv (fun _ => False) U U.heap
theorem sO_moved {a v n : Nat} {f : Nat → Int32} {fv : Value} {u U : State} (hh : U.heap = u.heap) (hvm : u.vm.Alike U.vm) (h : sO a v n f fv u) : sO a v n f fv U := by
  unfold sO at h ⊢
  rw [hh]
  exact ⟨va_O.moved hvm h.1, va_OF.moved hvm h.2.1, va_OF.moved hvm h.2.2.1, va_T.moved hvm h.2.2.2.1, va_Z.moved hvm h.2.2.2.2.1, va_Z.moved hvm h.2.2.2.2.2⟩
/-- what a walk of a JDK method keeps -/
def gX (own : String) (p : Program) (c : Code) (cc : ByteArray) (args : Array Value) (s : State) (m : MethodId) : Prop := p.tables.exec = Jvm.exec ∧ c.code = cc ∧ (∀ w ∈ lw_tg, w.before args s = true) ∧ s.vm.findClass own = some m.cls
theorem g_enter {own : String} {l : Launch} {cc : ByteArray} {y : MethodName} {maxL : Nat} {ret : Option FieldType} {rm : Room} {as : List Value} {Qc : Array Value → State → Outcome → State → Prop} {free : Addr → Prop} {Pr : State → Prop} (hy : plainName y.cls = true) (hyc : y.cls = own) (hlen : (lg_sl as).length ≤ maxL)
    (body : ∀ (p : Program) (e : Env) (s : State) (m : MethodId) (below : List Frame) (meth : Method) (c : Code) (ls : Array Slot) (AV : Array Value) (QQ : State → Prop) (H : Heap) (locs : List Loc), Pr s → QQ = MQ below Qc AV s 0 0 free → va_S (fun _ => False) s.heap H locs → gX own p c cc AV s m → meth.sig.returnType = ret → meth.locks = false → c.maxLocals = maxL → lv_has ls maxL (lv_args 0 as) →
      W p l e rm s m AV below meth c H locs 0 0 QQ (F0 m 0 ls [])) :
    Met l y (Cond.code y cc maxL ret :: lw_tg) rm (va_Pc as Pr) Qc 0 0 free := by
  refine Met.ofW (cc := cc) (maxL := maxL) (ret := ret) hy rfl ?_
  intro p e s m args below meth c s₁ X hml hv
  obtain ⟨rfl, hPr⟩ := hv
  have hts := atoms_spec (ws := Cond.code y cc maxL ret :: lw_tg) X.pre
  have hown : s.vm.findClass own = some m.cls := by rw [← hyc]; exact findClass_of_methodNamed X.named
  have hl := lv_entry as (n := maxL) hlen
  rw [lg_entry_eq]
  exact body p e s m below meth c _ _ _ _ _ hPr rfl va_S.rf ⟨X.exec, X.bytes, fun w hw => hts w (List.mem_cons_of_mem _ hw), hown⟩ X.returns X.notSynchronized hml hl
section GRETS
variable {own : String} {p : Program} {l : Launch} {e : Env} {R : Room} {s : State} {m : MethodId} {below : List Frame} {meth : Method} {c : Code} {H : Heap} {locs : List Loc} {cc : ByteArray} {pc : Nat} {ls : Array Slot} {rest : List Value} {AV : Array Value} {QQ : State → Prop}
theorem g_reti {post : Int32 → Unit → Prop} {x : Int32} {ty : FieldType} (hQ : QQ = MQ below (va_Qi post (fun _ _ => True) (fun _ => False)) AV s 0 0 (fun _ => False)) (hS : va_S (fun _ => False) s.heap H locs) (X : gX own p c cc AV s m) (hr : meth.sig.returnType = some ty) (hn : narrow ty (.int x) = .int x) (hlk : meth.locks = false) (hp : post x ()) (hdg : decode cc pc = .ok (.ireturn, 1)) : W p l e R s m AV below meth c H locs 0 0 QQ (F0 m pc ls [.int x]) := by
  rw [hQ]
  exact W.zret X.1 X.2.1 hr hn (fun t ht hW => ⟨⟨x, (), rfl, hp, trivial⟩, hS.F ht⟩) hS.2.2 hdg
theorem g_retv (hQ : QQ = MQ below (va_Qv (fun _ : Unit => True) (fun _ _ => True) (fun _ => False)) AV s 0 0 (fun _ => False)) (hS : va_S (fun _ => False) s.heap H locs) (X : gX own p c cc AV s m) (hr : meth.sig.returnType = none) (hlk : meth.locks = false) (hdg : decode cc pc = .ok (.return_, 1)) : W p l e R s m AV below meth c H locs 0 0 QQ (F0 m pc ls []) := by
  rw [hQ]
  exact W.vret X.1 X.2.1 hr (fun t ht hW => ⟨⟨(), rfl, trivial, trivial⟩, hS.F ht⟩) hS.2.2 hdg
end GRETS
set_option maxHeartbeats 4000000 in
set_option maxRecDepth 100000 in
/-- Preconditions.checkIndex(i, n, ..): i, where i is below n -/
theorem c_Pcheck (l : Launch) (i n : Nat) (fv : Value) (hi : i < n) (hn : n < 2 ^ 31) (hfv : fv = .null ∨ ∃ x, fv = .ref x) : Met l y_Pcheck (Cond.code y_Pcheck b_Pcheck 3 (some .int) :: lw_tg) (mR 0 0) (va_Pc [.int (nI i), .int (nI n), fv] pPre) (va_Qi (fun (r : Int32) (_ : Unit) => r = nI i) (fun _ _ => True) (fun _ => False)) 0 0 (fun _ => False) := by
  refine g_enter (own := R_Pc) (by decide) rfl (by rcases hfv with rfl | ⟨x, rfl⟩ <;> exact Nat.le_of_ble_eq_true rfl) (fun p e s m below meth c ls AV QQ H locs hPr hQQ hS X hr hlk hml hl => ?_)
  have hl : lv_has ls 3 [(0, .int (nI i)), (1, .int (nI n))] := ⟨hl.1, hl.2.1, fun q hq => hl.2.2 q (by simp only [List.mem_cons, List.not_mem_nil, or_false] at hq; rcases hq with rfl | rfl <;> simp [lv_args, Value.category])⟩
  refine lv_iload_n X.1 X.2.1 (show decode b_Pcheck 0 = .ok (.iload_n 0, 1) by decide +kernel) rfl (lv_at hl 0 rfl) ?_
  refine lv_if_lt (tgt := 9) X.1 X.2.1 (show decode b_Pcheck 1 = .ok (.ifCond .lt 8, 3) by decide +kernel) (by decide) (fun c1 => absurd c1 (nI_pos (by omega))) (fun c1 => ?_)
  refine lv_iload_n X.1 X.2.1 (show decode b_Pcheck 4 = .ok (.iload_n 0, 1) by decide +kernel) rfl (lv_at hl 0 rfl) ?_
  refine lv_iload_n X.1 X.2.1 (show decode b_Pcheck 5 = .ok (.iload_n 1, 1) by decide +kernel) rfl (lv_at hl 1 rfl) ?_
  refine lv_icmp_lt (tgt := 16) X.1 X.2.1 (show decode b_Pcheck 6 = .ok (.if_icmp .lt 10, 3) by decide +kernel) (by decide) (fun c2 => ?_) (fun c2 => absurd (nI_lt hi hn) c2)
  refine lv_iload_n X.1 X.2.1 (show decode b_Pcheck 16 = .ok (.iload_n 0, 1) by decide +kernel) rfl (lv_at hl 0 rfl) ?_
  exact g_reti hQQ hS X hr rfl hlk rfl (show decode b_Pcheck 17 = .ok (.ireturn, 1) by decide +kernel)
theorem gd_S2 {own : String} {ix : Nat} {y : MethodName} {c1 : Cond} (a1 : Cond.methodLink own ix y ∈ lw_tg) (a2 : Cond.static y ∈ lw_tg) (a4 : Cond.initialized y.cls ∈ lw_tg) (h1 : c1 ∈ lw_tg) : GoodIn lw_tg (va_wsS own ix y (c1 :: lw_tg)) := by
  intro w hw
  have h2 : w ∈ lw_tg := by
    rcases List.mem_append.mp hw with h | h
    · simp only [List.mem_cons, List.not_mem_nil, or_false] at h
      rcases h with rfl | rfl | rfl <;> assumption
    · exact (List.mem_cons.mp h).elim (fun e => e ▸ h1) id
  exact ⟨h2, lw_good h2⟩
section GCALLS
variable {own : String} {p : Program} {l : Launch} {e : Env} {R : Room} {s : State} {m : MethodId} {below : List Frame} {meth : Method} {c : Code} {H : Heap} {locs : List Loc} {cc : ByteArray} {pc : Nat} {ls : Array Slot} {rest : List Value} {AV : Array Value} {Q : State → Prop} {Pr : State → Prop}
/-- a static call out of a JDK method; what the callee wants of the heap (Pr) doesn't hang on frames -/
theorem g_runS {y : MethodName} {bytes : ByteArray} {maxL nL n ix f L : Nat} {ret : Option FieldType} {As : List Value} {Qc : Array Value → State → Outcome → State → Prop} (X : gX own p c cc AV s m) (hml : c.maxLocals = nL) (hsz : ls.size = nL) (hM : Met l y (Cond.code y bytes maxL ret :: lw_tg) (mR f L) (va_Pc As Pr) Qc 0 0 (fun _ => False))
    (a1 : Cond.methodLink own ix y ∈ lw_tg) (a2 : Cond.static y ∈ lw_tg) (a4 : Cond.code y bytes maxL ret ∈ lw_tg) (a5 : Cond.initialized y.cls ∈ lw_tg) (hbl : ∀ (a : Array Value) (U : State) (g : JFrame) (mk : MethodId), Pr U → Pr (U.calling g mk a)) (hPr : ∀ U : State, U.heap = H → s.WarmedH U.vm → Pr U) (hd : y.cls ≠ "java/lang/invoke/MethodHandle" ∧ y.cls ≠ "java/lang/invoke/VarHandle" ∧ (parseMethodDescriptor y.desc).map (fun d => d.parameters.length) = some n) (hR : f + 1 ≤ R.frames ∧ 8 + (maxL + 11) + L ≤ R.locals) (hn : As.length = n) (hw : (rest.map fun v => v.category).sum ≤ 8) (hdg : decode cc pc = .ok (.invokestatic ix, 3)) :
    va_Run p l e R s m AV below meth c H locs 0 0 0 0 (F0 m pc ls (As.reverse ++ rest)) rest (Qc As.toArray) (fun _ => False) :=
  va_runS (As := As) (rest := rest) ⟨X.1, X.2.1, hml, X.2.2.2, X.2.2.1⟩ hM (va_cwS n X.2.2.1 (gd_S2 a1 a2 a5 a4) rfl rfl rfl hd hR) ⟨fun a U g mk x => ⟨x.1, hbl a U g mk x.2⟩, fun U hU hW => ⟨rfl, hPr U hU hW⟩⟩ rfl hn hsz rfl (lv_room hw) hdg ⟨Nat.zero_le _, Nat.zero_le _⟩
end GCALLS
/-- what String.checkIndex reads: the formatter -/
def sF (fv : Value) (U : State) : Prop := va_Z R_Pc "SIOOBE_FORMATTER" "Ljava/util/function/BiFunction;" fv (fun _ => False) U U.heap
theorem hd_Pcheck : y_Pcheck.cls ≠ "java/lang/invoke/MethodHandle" ∧ y_Pcheck.cls ≠ "java/lang/invoke/VarHandle" ∧ (parseMethodDescriptor y_Pcheck.desc).map (fun d => d.parameters.length) = some 3 := by decide +kernel
theorem hd_Scheck : y_Scheck.cls ≠ "java/lang/invoke/MethodHandle" ∧ y_Scheck.cls ≠ "java/lang/invoke/VarHandle" ∧ (parseMethodDescriptor y_Scheck.desc).map (fun d => d.parameters.length) = some 2 := by decide +kernel
set_option maxHeartbeats 4000000 in
set_option maxRecDepth 100000 in
/-- String.checkIndex(i, n): returns, where i is below n -/
theorem c_Scheck (l : Launch) (i n : Nat) (fv : Value) (hi : i < n) (hn : n < 2 ^ 31) (hfv : fv = .null ∨ ∃ x, fv = .ref x) : Met l y_Scheck (Cond.code y_Scheck b_Scheck 2 none :: lw_tg) (mR 1 22) (va_Pc [.int (nI i), .int (nI n)] (sF fv)) (va_Qv (fun _ : Unit => True) (fun _ _ => True) (fun _ => False)) 0 0 (fun _ => False) := by
  refine g_enter (own := R_S) (by decide) rfl (Nat.le_of_ble_eq_true rfl) (fun p e s m below meth c ls AV QQ H locs hPr hQQ hS X hr hlk hml hl => ?_)
  have hl : lv_has ls 2 [(0, .int (nI i)), (1, .int (nI n))] := hl
  have hcat : fv.category = 1 := by rcases hfv with rfl | ⟨x, rfl⟩ <;> rfl
  refine lv_iload_n X.1 X.2.1 (show decode b_Scheck 0 = .ok (.iload_n 0, 1) by decide +kernel) rfl (lv_at hl 0 rfl) ?_
  refine lv_iload_n X.1 X.2.1 (show decode b_Scheck 1 = .ok (.iload_n 1, 1) by decide +kernel) rfl (lv_at hl 1 rfl) ?_
  refine va_gets X.1 X.2.1 hPr hS X.2.2.2 (X.2.2.1 _ kf_fmt) (fun _ h9 => h9) (show decode b_Scheck 2 = .ok (.getstatic 1053, 3) by decide +kernel) ?_
  refine va_calli (g_runS (As := [.int (nI i), .int (nI n), fv]) (rest := []) (n := 3) X hml hl.1 (c_Pcheck l i n fv hi hn hfv) kl_Pcheck ks_Pcheck ki_Pcheck ini_Pc (fun _ _ _ _ _ => trivial) (fun _ _ _ => trivial) hd_Pcheck ⟨by decide, by decide⟩ rfl (Nat.le_of_ble_eq_true rfl) (show decode b_Scheck 5 = .ok (.invokestatic 1059, 3) by decide +kernel)) hS (fun _ _ hh => hh.elim) (fun _ hh => hh.elim) (fun r u t H1 locs1 ht hvm hp hB hz hk hS => ?_)
  refine lv_pop X.1 X.2.1 (show decode b_Scheck 8 = .ok (.pop, 1) by decide +kernel) rfl ?_
  exact g_retv hQQ hS X hr hlk (show decode b_Scheck 9 = .ok (.return_, 1) by decide +kernel)
theorem ki_S1charAt : Cond.code y_S1charAt b_S1charAt 2 (some .char) ∈ lw_tg := in_t 509 (by decide +kernel)
theorem ks_S1charAt : Cond.static y_S1charAt ∈ lw_tg := in_t 508 (by decide +kernel)
theorem kl_S1charAt : Cond.methodLink R_S 495 y_S1charAt ∈ lw_tg := in_t 507 (by decide +kernel)
theorem hd_S1charAt : y_S1charAt.cls ≠ "java/lang/invoke/MethodHandle" ∧ y_S1charAt.cls ≠ "java/lang/invoke/VarHandle" ∧ (parseMethodDescriptor y_S1charAt.desc).map (fun d => d.parameters.length) = some 2 := by decide +kernel
theorem kf_compact : Cond.fieldLink R_S 38 R_S "COMPACT_STRINGS" "Z" ∈ lw_tg := in_t 497 (by decide +kernel)
theorem kf_value : Cond.fieldLink R_S 9 R_S "value" "[B" ∈ lw_tg := in_t 2879 (by decide +kernel)
theorem kf_coder : Cond.fieldLink R_S 15 R_S "coder" "B" ∈ lw_tg := in_t 2880 (by decide +kernel)
theorem ki_isLatin1 : Cond.code y_isLatin1 b_isLatin1 1 (some .boolean) ∈ lw_tg := in_t 506 (by decide +kernel)
theorem kx_isLatin1 : Cond.selects R_S y_isLatin1 y_isLatin1 ∈ lw_tg := in_t 505 (by decide +kernel)
theorem ks_isLatin1 : Cond.instanceMethod y_isLatin1 ∈ lw_tg := in_t 504 (by decide +kernel)
theorem kl_isLatin1 : Cond.methodLink R_S 492 y_isLatin1 ∈ lw_tg := in_t 503 (by decide +kernel)
theorem ki_coder : Cond.code y_coder b_coder 1 (some .byte) ∈ lw_tg := in_t 496 (by decide +kernel)
theorem kx_coder : Cond.selects R_S y_coder y_coder ∈ lw_tg := in_t 495 (by decide +kernel)
theorem ks_coder : Cond.instanceMethod y_coder ∈ lw_tg := in_t 494 (by decide +kernel)
theorem kl_coder : Cond.methodLink R_S 335 y_coder ∈ lw_tg := in_t 493 (by decide +kernel)
/-- what StringLatin1.charAt reads -/
def sT (v n : Nat) (f : Nat → Int32) (fv : Value) (U : State) : Prop := va_T .byte v n (fun j => .int (f j)) (fun _ => False) U U.heap ∧ sF fv U
theorem sF_moved {fv : Value} {u U : State} (hh : U.heap = u.heap) (hvm : u.vm.Alike U.vm) (h : sF fv u) : sF fv U := by
  unfold sF at h ⊢
  rw [hh]
  exact va_Z.moved hvm h
theorem sF_kept {fv : Value} {s U : State} {H : Heap} {locs : List Loc} (hU : U.heap = H) (hW : s.WarmedH U.vm) (hS : va_S (fun _ => False) s.heap H locs) (h : sF fv s) : sF fv U := by
  obtain ⟨cf, kf, fi, f, a, cell, h1, h2, h3, h4, h5, h6⟩ := va_Z.moved hW.alike h
  refine ⟨cf, kf, fi, f, a, cell, h1, h2, h3, h4, ?_, h6⟩
  rw [hU, hS.2.1 a (Array.getElem?_eq_some_iff.mp h5).1 (fun h => h)]
  exact h5
theorem sT_kept {v n : Nat} {f : Nat → Int32} {fv : Value} {s U : State} {H : Heap} {locs : List Loc} (hU : U.heap = H) (hW : s.WarmedH U.vm) (hS : va_S (fun _ => False) s.heap H locs) (h : sT v n f fv s) : sT v n f fv U := by
  refine ⟨?_, sF_kept hU hW hS h.2⟩
  rw [hU]
  exact (va_T.moved hW.alike h.1).kept (fun a ha hn => hS.2.1 a ha hn)
set_option maxHeartbeats 4000000 in
set_option maxRecDepth 100000 in
/-- StringLatin1.charAt(v, i) -/
theorem c_S1charAt (l : Launch) (v n i : Nat) (f : Nat → Int32) (fv : Value) (hi : i < n) (hn : n < 2 ^ 31) (hfv : fv = .null ∨ ∃ x, fv = .ref x) : Met l y_S1charAt (Cond.code y_S1charAt b_S1charAt 2 (some .char) :: lw_tg) (mR 2 43) (va_Pc [.ref v, .int (nI i)] (sT v n f fv)) (va_Qi (fun (r : Int32) (_ : Unit) => r = f i &&& 255) (fun _ _ => True) (fun _ => False)) 0 0 (fun _ => False) := by
  refine g_enter (own := R_S1) (by decide) rfl (Nat.le_of_ble_eq_true rfl) (fun p e s m below meth c ls AV QQ H locs hPr hQQ hS X hr hlk hml hl => ?_)
  have hl : lv_has ls 2 [(0, .ref v), (1, .int (nI i))] := hl
  refine lv_iload_n X.1 X.2.1 (show decode b_S1charAt 0 = .ok (.iload_n 1, 1) by decide +kernel) rfl (lv_at hl 1 rfl) ?_
  refine lv_aload_n X.1 X.2.1 (show decode b_S1charAt 1 = .ok (.aload_n 0, 1) by decide +kernel) rfl (lv_at hl 0 rfl) ?_
  refine va_tlen (v := nI n) X.1 X.2.1 hPr.1 hS rfl (show decode b_S1charAt 2 = .ok (.arraylength, 1) by decide +kernel) ?_
  refine va_callv (g_runS (As := [.int (nI i), .int (nI n)]) (rest := []) (n := 2) X hml hl.1 (c_Scheck l i n fv hi hn hfv) kl_Scheck ks_Scheck ki_Scheck ini_S (fun a U g mk h => sF_moved (u := U) rfl (Vm.Alike.refl U.vm) h) (fun U hU hW => sF_kept hU hW hS hPr.2) hd_Scheck ⟨by decide, by decide⟩ rfl (Nat.le_of_ble_eq_true rfl) (show decode b_S1charAt 3 = .ok (.invokestatic 9, 3) by decide +kernel)) hS (fun _ _ hh => hh.elim) (fun _ hh => hh.elim) (fun u t H1 locs1 ht hvm hp hB hz hk hS => ?_)
  refine lv_aload_n X.1 X.2.1 (show decode b_S1charAt 6 = .ok (.aload_n 0, 1) by decide +kernel) rfl (lv_at hl 0 rfl) ?_
  refine lv_iload_n X.1 X.2.1 (show decode b_S1charAt 7 = .ok (.iload_n 1, 1) by decide +kernel) rfl (lv_at hl 1 rfl) ?_
  refine va_tb (v := .int (f i)) X.1 X.2.1 hPr.1 hS (vp_in_nI hi hn) (by rw [nI_clamp (by omega)]) (show decode b_S1charAt 8 = .ok (.baload, 1) by decide +kernel) ?_
  refine lv_sipush (v := 255) X.1 X.2.1 (show decode b_S1charAt 9 = .ok (.sipush 255, 3) by decide +kernel) (by decide) ?_
  refine lv_iand X.1 X.2.1 (show decode b_S1charAt 12 = .ok (.iand, 1) by decide +kernel) ?_
  refine lv_i2c (v := f i &&& 255) X.1 X.2.1 (show decode b_S1charAt 13 = .ok (.i2c, 1) by decide +kernel) (sc_c2 _) ?_
  exact g_reti hQQ hS X hr (sc_nar _) hlk rfl (show decode b_S1charAt 14 = .ok (.ireturn, 1) by decide +kernel)
set_option maxHeartbeats 4000000 in
set_option maxRecDepth 100000 in
/-- isLatin1(): true -/
theorem c_isLatin1 (l : Launch) (a v n : Nat) (f : Nat → Int32) (fv : Value) : Met l y_isLatin1 (Cond.code y_isLatin1 b_isLatin1 1 (some .boolean) :: lw_tg) (mR 0 0) (va_Pc [.ref a] (sO a v n f fv)) (va_Qi (fun (r : Int32) (_ : Unit) => r = nI 1) (fun _ _ => True) (fun _ => False)) 0 0 (fun _ => False) := by
  refine g_enter (own := R_S) (by decide) rfl (Nat.le_of_ble_eq_true rfl) (fun p e s m below meth c ls AV QQ H locs hPr hQQ hS X hr hlk hml hl => ?_)
  have hl : lv_has ls 1 [(0, .ref a)] := hl
  refine va_gets X.1 X.2.1 hPr.2.2.2.2.1 hS X.2.2.2 (X.2.2.1 _ kf_compact) (fun _ h9 => h9) (show decode b_isLatin1 0 = .ok (.getstatic 38, 3) by decide +kernel) ?_
  refine lv_if_eq (tgt := 17) X.1 X.2.1 (show decode b_isLatin1 3 = .ok (.ifCond .eq 14, 3) by decide +kernel) (by decide) (fun c1 => absurd c1 (by decide)) (fun _ => ?_)
  refine lv_aload_n X.1 X.2.1 (show decode b_isLatin1 6 = .ok (.aload_n 0, 1) by decide +kernel) rfl (lv_at hl 0 rfl) ?_
  refine vk_getf X.1 X.2.1 hPr.2.1 hS X.2.2.2 (X.2.2.1 _ kf_coder) (fun _ h9 => h9) (show decode b_isLatin1 7 = .ok (.getfield 15, 3) by decide +kernel) ?_
  refine lv_if_ne (tgt := 17) X.1 X.2.1 (show decode b_isLatin1 10 = .ok (.ifCond .ne 7, 3) by decide +kernel) (by decide) (fun c1 => absurd rfl c1) (fun _ => ?_)
  refine lv_iconst (v := nI 1) X.1 X.2.1 (show decode b_isLatin1 13 = .ok (.iconst 1, 1) by decide +kernel) (by decide) ?_
  refine lv_goto (tgt := 18) X.1 X.2.1 (show decode b_isLatin1 14 = .ok (.goto 4, 3) by decide +kernel) (by decide) ?_
  exact g_reti hQQ hS X hr rfl hlk rfl (show decode b_isLatin1 18 = .ok (.ireturn, 1) by decide +kernel)
set_option maxHeartbeats 4000000 in
set_option maxRecDepth 100000 in
/-- coder(): 0 -/
theorem c_coder (l : Launch) (a v n : Nat) (f : Nat → Int32) (fv : Value) : Met l y_coder (Cond.code y_coder b_coder 1 (some .byte) :: lw_tg) (mR 0 0) (va_Pc [.ref a] (sO a v n f fv)) (va_Qi (fun (r : Int32) (_ : Unit) => r = 0) (fun _ _ => True) (fun _ => False)) 0 0 (fun _ => False) := by
  refine g_enter (own := R_S) (by decide) rfl (Nat.le_of_ble_eq_true rfl) (fun p e s m below meth c ls AV QQ H locs hPr hQQ hS X hr hlk hml hl => ?_)
  have hl : lv_has ls 1 [(0, .ref a)] := hl
  refine va_gets X.1 X.2.1 hPr.2.2.2.2.1 hS X.2.2.2 (X.2.2.1 _ kf_compact) (fun _ h9 => h9) (show decode b_coder 0 = .ok (.getstatic 38, 3) by decide +kernel) ?_
  refine lv_if_eq (tgt := 13) X.1 X.2.1 (show decode b_coder 3 = .ok (.ifCond .eq 10, 3) by decide +kernel) (by decide) (fun c1 => absurd c1 (by decide)) (fun _ => ?_)
  refine lv_aload_n X.1 X.2.1 (show decode b_coder 6 = .ok (.aload_n 0, 1) by decide +kernel) rfl (lv_at hl 0 rfl) ?_
  refine vk_getf X.1 X.2.1 hPr.2.1 hS X.2.2.2 (X.2.2.1 _ kf_coder) (fun _ h9 => h9) (show decode b_coder 7 = .ok (.getfield 15, 3) by decide +kernel) ?_
  refine lv_goto (tgt := 14) X.1 X.2.1 (show decode b_coder 10 = .ok (.goto 4, 3) by decide +kernel) (by decide) ?_
  exact g_reti hQQ hS X hr rfl hlk rfl (show decode b_coder 14 = .ok (.ireturn, 1) by decide +kernel)
theorem sO_kept {a v n : Nat} {f : Nat → Int32} {fv : Value} {s U : State} {H : Heap} {locs : List Loc} (hU : U.heap = H) (hW : s.WarmedH U.vm) (hS : va_S (fun _ => False) s.heap H locs) (h : sO a v n f fv s) : sO a v n f fv U := by
  have hq : ∀ a : Nat, a < s.heap.size → ¬ (fun _ : Nat => False) a → H[a]? = s.heap[a]? := fun a ha hn => hS.2.1 a ha hn
  unfold sO
  rw [hU]
  refine ⟨(va_O.moved hW.alike h.1).kept hq, (va_OF.moved hW.alike h.2.1).kept hq, (va_OF.moved hW.alike h.2.2.1).kept hq, (va_T.moved hW.alike h.2.2.2.1).kept hq, ?_, ?_⟩
  · obtain ⟨cf, kf, fi, g, x, cell, h1, h2, h3, h4, h5, h6⟩ := va_Z.moved hW.alike h.2.2.2.2.1
    exact ⟨cf, kf, fi, g, x, cell, h1, h2, h3, h4, by rw [hS.2.1 x (Array.getElem?_eq_some_iff.mp h5).1 (fun h => h)]; exact h5, h6⟩
  · obtain ⟨cf, kf, fi, g, x, cell, h1, h2, h3, h4, h5, h6⟩ := va_Z.moved hW.alike h.2.2.2.2.2
    exact ⟨cf, kf, fi, g, x, cell, h1, h2, h3, h4, by rw [hS.2.1 x (Array.getElem?_eq_some_iff.mp h5).1 (fun h => h)]; exact h5, h6⟩
section GCALLV
variable {own : String} {p : Program} {l : Launch} {e : Env} {R : Room} {s : State} {m : MethodId} {below : List Frame} {meth : Method} {c : Code} {H : Heap} {locs : List Loc} {cc : ByteArray} {pc : Nat} {ls : Array Slot} {rest : List Value} {AV : Array Value} {Q : State → Prop}
/-- a call of a String's method, out of any method whose own words are lw_tg -/
theorem g_runV {y : MethodName} {bytes : ByteArray} {maxL nL n ix f L a v k : Nat} {g : Nat → Int32} {fv : Value} {ret : Option FieldType} {As : List Value} {Qc : Array Value → State → Outcome → State → Prop} (X : gX own p c cc AV s m) (hS : va_S (fun _ => False) s.heap H locs) (hO : sO a v k g fv s) (hml : c.maxLocals = nL) (hsz : ls.size = nL) (hM : Met l y (Cond.code y bytes maxL ret :: lw_tg) (mR f L) (va_Pc (.ref a :: As) (sO a v k g fv)) Qc 0 0 (fun _ => False))
    (a1 : Cond.methodLink own ix y ∈ lw_tg) (a2 : Cond.instanceMethod y ∈ lw_tg) (a3 : Cond.selects R_S y y ∈ lw_tg) (a4 : Cond.code y bytes maxL ret ∈ lw_tg) (hd : y.cls = R_S ∧ y.cls ≠ "java/lang/invoke/MethodHandle" ∧ y.cls ≠ "java/lang/invoke/VarHandle" ∧ (parseMethodDescriptor y.desc).map (fun d => d.parameters.length) = some n) (hR : f + 1 ≤ R.frames ∧ 8 + (maxL + 11) + L ≤ R.locals) (hn : As.length = n) (hw : (rest.map fun v => v.category).sum ≤ 8) (hdg : decode cc pc = .ok (.invokevirtual ix, 3)) :
    va_Run p l e R s m AV below meth c H locs 0 0 0 0 (F0 m pc ls (As.reverse ++ .ref a :: rest)) rest (Qc (Value.ref a :: As).toArray) (fun _ => False) := by
  refine va_runV (As := As) (rest := rest) ⟨X.1, X.2.1, hml, X.2.2.2, X.2.2.1⟩ hM (cwV n X.2.2.1 (gd_V a1 a2 a3 ini_S a4) rfl rfl rfl hd hR) ⟨fun a U g mk x => ⟨x.1, sO_moved (u := U) rfl (Vm.Alike.refl U.vm) x.2⟩, ?_, fun U hU hW => ⟨rfl, sO_kept hU hW hS hO⟩⟩ rfl hn hsz rfl (lv_room hw) hdg ⟨Nat.zero_le _, Nat.zero_le _⟩
  obtain ⟨cell, h1, h2, h3, -⟩ := hO.1.kept (H1 := H) (fun a ha hn => hS.2.1 a ha hn)
  exact ⟨cell, h1, h2, h3⟩
end GCALLV
theorem hd_isLatin1 : y_isLatin1.cls = R_S ∧ y_isLatin1.cls ≠ "java/lang/invoke/MethodHandle" ∧ y_isLatin1.cls ≠ "java/lang/invoke/VarHandle" ∧ (parseMethodDescriptor y_isLatin1.desc).map (fun d => d.parameters.length) = some 0 := by decide +kernel
theorem hd_coder : y_coder.cls = R_S ∧ y_coder.cls ≠ "java/lang/invoke/MethodHandle" ∧ y_coder.cls ≠ "java/lang/invoke/VarHandle" ∧ (parseMethodDescriptor y_coder.desc).map (fun d => d.parameters.length) = some 0 := by decide +kernel
set_option maxHeartbeats 4000000 in
set_option maxRecDepth 100000 in
/-- charAt(i) of a constant -/
theorem c_charAt (l : Launch) (a v n i : Nat) (f : Nat → Int32) (fv : Value) (hi : i < n) (hn : n < 2 ^ 31) (hfv : fv = .null ∨ ∃ x, fv = .ref x) : Met l y_charAt (Cond.code y_charAt b_charAt 2 (some .char) :: lw_tg) (mR 3 64) (va_Pc [.ref a, .int (nI i)] (sO a v n f fv)) (va_Qi (fun (r : Int32) (_ : Unit) => r = f i &&& 255) (fun _ _ => True) (fun _ => False)) 0 0 (fun _ => False) := by
  refine g_enter (own := R_S) (by decide) rfl (Nat.le_of_ble_eq_true rfl) (fun p e s m below meth c ls AV QQ H locs hPr hQQ hS X hr hlk hml hl => ?_)
  have hl : lv_has ls 2 [(0, .ref a), (1, .int (nI i))] := hl
  refine lv_aload_n X.1 X.2.1 (show decode b_charAt 0 = .ok (.aload_n 0, 1) by decide +kernel) rfl (lv_at hl 0 rfl) ?_
  refine va_calli (g_runV (As := []) (rest := []) (n := 0) X hS hPr hml hl.1 (c_isLatin1 l a v n f fv) kl_isLatin1 ks_isLatin1 kx_isLatin1 ki_isLatin1 hd_isLatin1 ⟨by decide, by decide⟩ rfl (Nat.le_of_ble_eq_true rfl) (show decode b_charAt 1 = .ok (.invokevirtual 492, 3) by decide +kernel)) hS (fun _ _ hh => hh.elim) (fun _ hh => hh.elim) (fun r u t H1 locs1 ht hvm hp hB hz hk hS => ?_)
  refine lv_if_eq (tgt := 16) X.1 X.2.1 (show decode b_charAt 4 = .ok (.ifCond .eq 12, 3) by decide +kernel) (by decide) (fun c1 => absurd (hp.symm.trans c1) (by decide)) (fun _ => ?_)
  refine lv_aload_n X.1 X.2.1 (show decode b_charAt 7 = .ok (.aload_n 0, 1) by decide +kernel) rfl (lv_at hl 0 rfl) ?_
  refine vk_getf X.1 X.2.1 hPr.2.2.1 hS X.2.2.2 (X.2.2.1 _ kf_value) (fun _ h9 => h9) (show decode b_charAt 8 = .ok (.getfield 9, 3) by decide +kernel) ?_
  refine lv_iload_n X.1 X.2.1 (show decode b_charAt 11 = .ok (.iload_n 1, 1) by decide +kernel) rfl (lv_at hl 1 rfl) ?_
  refine va_calli (g_runS (As := [.ref v, .int (nI i)]) (rest := []) (n := 2) X hml hl.1 (c_S1charAt l v n i f fv hi hn hfv) kl_S1charAt ks_S1charAt ki_S1charAt ini_S1 (fun a U g mk h => ⟨va_T.moved (u := U) (Vm.Alike.refl U.vm) h.1, sF_moved (u := U) rfl (Vm.Alike.refl U.vm) h.2⟩) (fun U hU hW => sT_kept hU hW hS ⟨hPr.2.2.2.1, hPr.2.2.2.2.2⟩) hd_S1charAt ⟨by decide, by decide⟩ rfl (Nat.le_of_ble_eq_true rfl) (show decode b_charAt 12 = .ok (.invokestatic 495, 3) by decide +kernel)) hS (fun _ _ hh => hh.elim) (fun _ hh => hh.elim) (fun r2 u t H1 locs1 ht hvm hp2 hB hz hk hS => ?_)
  exact g_reti hQQ hS X hr (by rw [hp2]; exact sc_nar _) hlk hp2 (show decode b_charAt 15 = .ok (.ireturn, 1) by decide +kernel)
set_option maxHeartbeats 4000000 in
set_option maxRecDepth 100000 in
/-- length() of a constant -/
theorem c_length (l : Launch) (a v n : Nat) (f : Nat → Int32) (fv : Value) (hn : n < 2 ^ 31) : Met l y_length (Cond.code y_length b_length 1 (some .int) :: lw_tg) (mR 1 20) (va_Pc [.ref a] (sO a v n f fv)) (va_Qi (fun (r : Int32) (_ : Unit) => r = nI n) (fun _ _ => True) (fun _ => False)) 0 0 (fun _ => False) := by
  refine g_enter (own := R_S) (by decide) rfl (Nat.le_of_ble_eq_true rfl) (fun p e s m below meth c ls AV QQ H locs hPr hQQ hS X hr hlk hml hl => ?_)
  have hl : lv_has ls 1 [(0, .ref a)] := hl
  refine lv_aload_n X.1 X.2.1 (show decode b_length 0 = .ok (.aload_n 0, 1) by decide +kernel) rfl (lv_at hl 0 rfl) ?_
  refine vk_getf X.1 X.2.1 hPr.2.2.1 hS X.2.2.2 (X.2.2.1 _ kf_value) (fun _ h9 => h9) (show decode b_length 1 = .ok (.getfield 9, 3) by decide +kernel) ?_
  refine va_tlen (v := nI n) X.1 X.2.1 hPr.2.2.2.1 hS rfl (show decode b_length 4 = .ok (.arraylength, 1) by decide +kernel) ?_
  refine lv_aload_n X.1 X.2.1 (show decode b_length 5 = .ok (.aload_n 0, 1) by decide +kernel) rfl (lv_at hl 0 rfl) ?_
  refine va_calli (g_runV (As := []) (rest := [.int (nI n)]) (n := 0) X hS hPr hml hl.1 (c_coder l a v n f fv) kl_coder ks_coder kx_coder ki_coder hd_coder ⟨by decide, by decide⟩ rfl (Nat.le_of_ble_eq_true rfl) (show decode b_length 6 = .ok (.invokevirtual 335, 3) by decide +kernel)) hS (fun _ _ hh => hh.elim) (fun _ hh => hh.elim) (fun r u t H1 locs1 ht hvm hp hB hz hk hS => ?_)
  refine lv_ishr X.1 X.2.1 (show decode b_length 9 = .ok (.ishr, 1) by decide +kernel) ?_
  refine t_eq (y := nI n) (by rw [hp]; exact sb_shr0 _) ?_
  exact g_reti hQQ hS X hr rfl hlk rfl (show decode b_length 10 = .ok (.ireturn, 1) by decide +kernel)
/-! The reference's literals, by number: zL their bytes, zX where its constant pool has them, zT their texts. -/
def zL : List (List Nat) := [[107, 114, 98, 116, 103, 116, 47, 72, 79, 85, 83, 69, 58], [107, 114, 98, 116, 103, 116, 47, 72, 79, 85, 83, 69], [72, 79, 85, 83, 69], [49, 105, 32, 50, 105, 32, 51, 63, 80, 32, 52, 81, 32], [48, 105, 32, 49, 83, 32], [48, 105, 32, 49, 63, 117, 32, 50, 111, 32], [48, 105, 32, 49, 111, 32], [48, 105, 32, 49, 115, 32, 50, 78, 32, 51, 69, 32], [49, 105, 32, 50, 111, 32], [48, 111, 32, 49, 63, 116, 32, 50, 63, 109, 32, 51, 63, 117, 32, 52, 72, 32, 53, 63, 72, 32], [48, 75, 32, 49, 63, 115, 32, 50, 63, 78, 32, 51, 63, 102, 32, 52, 63, 116, 32, 53, 63, 116, 32, 54, 63, 116, 32, 55, 63, 116, 32, 56, 63, 115, 32, 57, 63, 78, 32, 49, 48, 63, 104, 32], [48, 105, 32, 49, 116, 32], [48, 102, 32, 49, 63, 78, 32, 50, 115, 32, 51, 63, 78, 32, 52, 63, 116, 32, 53, 116, 32, 54, 63, 116, 32, 55, 117, 32, 56, 101, 32, 57, 63, 104, 32, 49, 48, 63, 69, 32, 49, 49, 63, 107, 32], [48, 116, 32, 49, 63, 109, 32], [48, 105, 32, 49, 105, 32, 50, 102, 32, 51, 84, 32, 52, 69, 32], [48, 102, 32, 49, 75, 32, 50, 115, 32, 51, 78, 32, 52, 82, 32, 53, 116, 32, 54, 63, 116, 32, 55, 116, 32, 56, 63, 116, 32, 57, 63, 104, 32, 49, 48, 63, 65, 32], [48, 105, 32, 49, 115, 32, 50, 78, 32, 51, 63, 67, 32, 52, 109, 32, 53, 116, 32, 54, 63, 75, 32, 55, 63, 117, 32, 56, 63, 65, 32], [48, 105, 32, 49, 105, 32, 50, 63, 116, 32, 51, 63, 109, 32, 52, 116, 32, 53, 109, 32, 54, 105, 32, 55, 63, 115, 32, 56, 63, 78, 32, 57, 115, 32, 49, 48, 78, 32, 49, 49, 63, 115, 32, 49, 50, 63, 111, 32], [48, 105, 32, 49, 105, 32, 50, 63, 80, 32, 51, 115, 32, 52, 78, 32, 53, 84, 32, 54, 69, 32], [48, 75, 32, 49, 76, 32, 50, 117, 32, 51, 63, 116, 32, 52, 102, 32, 53, 116, 32, 54, 63, 116, 32, 55, 116, 32, 56, 63, 116, 32, 57, 115, 32, 49, 48, 78, 32, 49, 49, 63, 104, 32], [48, 105, 32, 49, 105, 32, 50, 69, 32], [48, 116, 32, 49, 109, 32, 50, 63, 75, 32, 51, 63, 117, 32], [48, 105, 32, 49, 105, 32, 51, 69, 32], [48, 105, 32, 49, 105, 32, 50, 89, 32, 51, 67, 32], [48, 105, 32, 49, 105, 32, 50, 107, 32, 51, 69, 32], [48, 86, 32, 49, 63, 117, 32, 50, 63, 116, 32, 51, 63, 109, 32, 52, 63, 72, 32, 53, 63, 72, 32]]
def zX : List Nat := [326, 611, 621, 663, 511, 516, 518, 520, 526, 528, 530, 532, 534, 769, 797, 779, 788, 956, 960, 962, 983, 985, 998, 1005, 1009, 1011]
def zT : List String := ["krbtgt/HOUSE:", "krbtgt/HOUSE", "HOUSE", "1i 2i 3?P 4Q ", "0i 1S ", "0i 1?u 2o ", "0i 1o ", "0i 1s 2N 3E ", "1i 2o ", "0o 1?t 2?m 3?u 4H 5?H ", "0K 1?s 2?N 3?f 4?t 5?t 6?t 7?t 8?s 9?N 10?h ", "0i 1t ", "0f 1?N 2s 3?N 4?t 5t 6?t 7u 8e 9?h 10?E 11?k ", "0t 1?m ", "0i 1i 2f 3T 4E ", "0f 1K 2s 3N 4R 5t 6?t 7t 8?t 9?h 10?A ", "0i 1s 2N 3?C 4m 5t 6?K 7?u 8?A ", "0i 1i 2?t 3?m 4t 5m 6i 7?s 8?N 9s 10N 11?s 12?o ", "0i 1i 2?P 3s 4N 5T 6E ", "0K 1L 2u 3?t 4f 5t 6?t 7t 8?t 9s 10N 11?h ", "0i 1i 2E ", "0t 1m 2?K 3?u ", "0i 1i 3E ", "0i 1i 2Y 3C ", "0i 1i 2k 3E ", "0V 1?u 2?t 3?m 4?H 5?H "]
def nZ : Nat := 26
def zn (i : Nat) : Nat := (zL.getD i []).length
def zb (i j : Nat) : Int32 := nI ((zL.getD i []).getD j 0)
def zS (z zv : Nat → Nat) (fv : Value) (A : Nat → Prop) (U : State) (H : Heap) : Prop := (∀ i, i < nZ → va_O R_S (z i) A U H ∧ va_OF R_S "coder" "B" (.int 0) (z i) A U H ∧ va_OF R_S "value" "[B" (.ref (zv i)) (z i) A U H ∧ va_T .byte (zv i) (zn i) (fun j => .int (zb i j)) A U H) ∧ va_Z R_S "COMPACT_STRINGS" "Z" (.int 1) A U H ∧ va_Z R_Pc "SIOOBE_FORMATTER" "Ljava/util/function/BiFunction;" fv A U H ∧ (fv = .null ∨ ∃ x, fv = .ref x)
theorem zZ_kept {C n d : String} {v : Value} {A : Nat → Prop} {U : State} {H H1 : Heap} (h : va_Z C n d v A U H) (hq : ∀ a : Nat, a < H.size → ¬ A a → H1[a]? = H[a]?) : va_Z C n d v A U H1 := by
  obtain ⟨cf, kf, fi, f, a, cell, h1, h2, h3, h4, h5, h6, h7, h8⟩ := h
  exact ⟨cf, kf, fi, f, a, cell, h1, h2, h3, h4, by rw [hq a (Array.getElem?_eq_some_iff.mp h5).1 h8]; exact h5, h6, h7, h8⟩
theorem zZ_narrow {C n d : String} {v : Value} {A B : Nat → Prop} {U : State} {H : Heap} (h : va_Z C n d v A U H) (hAB : ∀ q, B q → A q) : va_Z C n d v B U H := by
  obtain ⟨cf, kf, fi, f, a, cell, h1, h2, h3, h4, h5, h6, h7, h8⟩ := h
  exact ⟨cf, kf, fi, f, a, cell, h1, h2, h3, h4, h5, h6, h7, fun h => h8 (hAB _ h)⟩
theorem zS_moved {z zv : Nat → Nat} {fv : Value} {A : Nat → Prop} {u U : State} {H : Heap} (hvm : u.vm.Alike U.vm) (h : zS z zv fv A u H) : zS z zv fv A U H :=
  ⟨fun i hi => ⟨va_O.moved hvm (h.1 i hi).1, va_OF.moved hvm (h.1 i hi).2.1, va_OF.moved hvm (h.1 i hi).2.2.1, va_T.moved hvm (h.1 i hi).2.2.2⟩, va_Z.moved hvm h.2.1, va_Z.moved hvm h.2.2.1, h.2.2.2⟩
theorem zS_kept {z zv : Nat → Nat} {fv : Value} {A : Nat → Prop} {U : State} {H H1 : Heap} (h : zS z zv fv A U H) (hq : ∀ a : Nat, a < H.size → ¬ A a → H1[a]? = H[a]?) : zS z zv fv A U H1 :=
  ⟨fun i hi => ⟨(h.1 i hi).1.kept hq, (h.1 i hi).2.1.kept hq, (h.1 i hi).2.2.1.kept hq, (h.1 i hi).2.2.2.kept hq⟩, zZ_kept h.2.1 hq, zZ_kept h.2.2.1 hq, h.2.2.2⟩
theorem zS_narrow {z zv : Nat → Nat} {fv : Value} {A B : Nat → Prop} {U : State} {H : Heap} (h : zS z zv fv A U H) (hAB : ∀ q, B q → A q) : zS z zv fv B U H :=
  ⟨fun i hi => ⟨(h.1 i hi).1.narrow hAB, (h.1 i hi).2.1.narrow hAB, (h.1 i hi).2.2.1.narrow hAB, (h.1 i hi).2.2.2.narrow hAB⟩, zZ_narrow h.2.1 hAB, zZ_narrow h.2.2.1 hAB, h.2.2.2⟩
/-- one of them, as its methods want it -/
theorem zS_one {z zv : Nat → Nat} {fv : Value} {A : Nat → Prop} {U : State} (h : zS z zv fv A U U.heap) (i : Nat) (hi : i < nZ) : sO (z i) (zv i) (zn i) (zb i) fv U :=
  ⟨(h.1 i hi).1.narrow (fun _ h => h.elim), (h.1 i hi).2.1.narrow (fun _ h => h.elim), (h.1 i hi).2.2.1.narrow (fun _ h => h.elim), (h.1 i hi).2.2.2.narrow (fun _ h => h.elim), zZ_narrow h.2.1 (fun _ h => h.elim), zZ_narrow h.2.2.1 (fun _ h => h.elim)⟩
def zR (z : Nat → Nat) (U : State) : Prop := ∀ i, i < nZ → vk_R R_M (zX.getD i 0) (zT.getD i "") (z i) U
