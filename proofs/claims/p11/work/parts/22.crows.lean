/-! Rows over the map of cells, at the class's own tables. -/
def cX (own : String) (p : Program) (c : Code) (cc : ByteArray) (args : Array Value) (s : State) (m : MethodId) (D : va_G) (E : cE) : Prop := p.tables.exec = Jvm.exec ∧ c.code = cc ∧ (∀ w ∈ lw_tg, w.before args s = true) ∧ s.vm.findClass own = some m.cls ∧ va_K D cCl (cTy E) s
def cPre (D : va_G) (E : cE) (L : List Nat) (f : pF) (sz : Nat) : State → Prop := fun U => U.heap.size = sz ∧ va_P D cCl (va_pl L f) U.heap ∧ va_K D cCl (cTy E) U ∧ va_D (fun _ => True) (va_pl L f)
abbrev cU : Type := List Nat × pF
def cPost (D : va_G) (E : cE) (A : Nat → Prop) : cU → State → Prop := fun u t => va_P D cCl (va_pl u.1 u.2) t.heap ∧ va_K D cCl (cTy E) t ∧ va_D A (va_pl u.1 u.2)
theorem c_in {A : Nat → Prop} {L : List Nat} {f : pF} (hD : va_D A (va_pl L f)) {a : Nat} (h : a ∈ L) : A a := by
  obtain ⟨k, hk⟩ := q_at (f := f) h
  exact hD.2 k _ hk
theorem c_self {L : List Nat} {f : pF} {sz : Nat} {A : Nat → Prop} (h : va_D A (va_pl L f)) : va_D (pA L sz) (va_pl L f) := by
  refine ⟨h.1, fun k x hk => Or.inl ?_⟩
  unfold va_pl at hk
  rw [List.getElem?_map] at hk
  obtain ⟨b, hb, e⟩ := Option.map_eq_some_iff.mp hk
  rw [← e]
  exact List.mem_of_getElem? hb
theorem c_enter {l : Launch} {cc : ByteArray} {D : va_G} {E : cE} {L : List Nat} {f : pF} {own : String} {y : MethodName} {maxL mc ms : Nat} {ret : Option FieldType} {rm : Room} {as : List Value} {Qc : Array Value → State → Outcome → State → Prop} {sz : Nat} {free : Addr → Prop} (hy : plainName y.cls = true) (hyc : y.cls = own) (hlen : (lg_sl as).length ≤ maxL) (hrm : rm.cells = mc ∧ rm.slots = ms)
    (body : ∀ (p : Program) (e : Env) (s : State) (m : MethodId) (below : List Frame) (meth : Method) (c : Code) (ls : Array Slot) (AV : Array Value) (QQ : State → Prop) (H : Heap) (locs : List Loc), QQ = MQ below Qc AV s mc ms free → cX own p c cc AV s m D E → pH D cCl (pA L sz) s.heap L f H locs → (∀ a, s.heap.size ≤ a → pA L sz a) → meth.name = y.name → meth.sig.returnType = ret → meth.locks = false → c.maxLocals = maxL → lv_has ls maxL (lv_args 0 as) →
      W p l e rm s m AV below meth c H locs 0 0 QQ (F0 m 0 ls [])) :
    Met l y (Cond.code y cc maxL ret :: lw_tg) rm (va_Pc as (cPre D E L f sz)) Qc mc ms free := by
  refine Met.ofW (cc := cc) (maxL := maxL) (ret := ret) hy rfl ?_
  intro p e s m args below meth c s₁ X hml hv
  obtain ⟨rfl, hsz, hP, hK, hD0⟩ := hv
  have hts := atoms_spec (ws := Cond.code y cc maxL ret :: lw_tg) X.pre
  have hown : s.vm.findClass own = some m.cls := by rw [← hyc]; exact findClass_of_methodNamed X.named
  have hl := lv_entry as (n := maxL) hlen
  rw [lg_entry_eq]
  exact body p e s m below meth c _ _ _ _ _ rfl ⟨X.exec, X.bytes, fun w hw => hts w (List.mem_cons_of_mem _ hw), hown, hK⟩ ⟨hP, c_self hD0, va_S.rf⟩ (fun a ha => Or.inr (by rw [← hsz]; exact ha)) (name_of_methodNamed X.named X.method).1 X.returns X.notSynchronized hml hl
section CCALLS
variable {p : Program} {l : Launch} {e : Env} {R : Room} {s : State} {m : MethodId} {args : Array Value} {below : List Frame} {meth : Method} {c : Code} {H : Heap} {locs : List Loc} {cells slots : Nat} {Q : State → Prop} {cc : ByteArray} {pc : Nat} {ls : Array Slot} {rest : List Value} {D : va_G} {E : cE} {A : Nat → Prop} {H0 : Heap} {L : List Nat} {f : pF} {own : String}
theorem c_blind {as : List Value} {sz : Nat} : FrameBlind (va_Pc as (cPre D E L f sz)) := fun a U g mk x => ⟨x.1, x.2.1, x.2.2.1, va_K.moved (u := U) (Vm.Alike.refl U.vm) x.2.2.2.1, x.2.2.2.2⟩
theorem c_sub (Y : pH D cCl A H0 L f H locs) (hA : ∀ a, H0.size ≤ a → A a) : ∀ a, pA L H.size a → A a := fun a h => h.elim (fun h1 => c_in Y.2.1 h1) (fun h1 => hA a (Nat.le_trans Y.2.2.1 h1))
theorem c_back (X : cX own p c cc args s m D E) (Y : pH D cCl A H0 L f H locs) {u : cU} {t : State} {H1 : Heap} (ht : t.heap = H1) (hB : cPost D E (pA L H.size) u t) (hA : ∀ a, H0.size ≤ a → A a) {locs1 : List Loc} (hS : va_S A H0 H1 locs1) : pH D cCl A H0 u.1 u.2 H1 locs1 := by
  obtain ⟨h1, -, h3⟩ := hB
  rw [ht] at h1
  exact ⟨h1, h3.weaken (fun k x hk hx => c_sub Y hA x.1 hx), hS⟩
theorem c_runV {y : MethodName} {bytes : ByteArray} {maxL nL n ix mc ms q0 ci : Nat} {ret : Option FieldType} {rm : Room} {As : List Value} {Qc : Array Value → State → Outcome → State → Prop} {free : Nat → Prop} {h N : Nat} {C : String} {T : u_T} {fs : List Value} (X : cX own p c cc args s m D E) (Y : pH D cCl A H0 L f H locs) (hml : c.maxLocals = nL) (hsz : ls.size = nL) (hM : Met l y (Cond.code y bytes maxL ret :: lw_tg) rm (va_Pc (.ref h :: As) (cPre D E L f H.size)) Qc mc ms free) (hh : h ∈ L) (ef : f h = .inr (ci, fs)) (hc : cCl[ci]? = some (C, T, N))
    (a1 : Cond.methodLink own ix y ∈ lw_tg) (a2 : Cond.instanceMethod y ∈ lw_tg) (a3 : Cond.selects C y y ∈ lw_tg) (a4 : Cond.code y bytes maxL ret ∈ lw_tg) (a5 : Cond.initialized C ∈ lw_tg) (hrm : rm.cells = mc ∧ rm.slots = ms) (hd : y.cls = C ∧ y.cls ≠ "java/lang/invoke/MethodHandle" ∧ y.cls ≠ "java/lang/invoke/VarHandle" ∧ (parseMethodDescriptor y.desc).map (fun d => d.parameters.length) = some n) (hR : rm.frames + 1 ≤ R.frames ∧ 8 + (maxL + 11) + rm.locals ≤ R.locals) (hn : As.length = n) (hw : (rest.map fun v => v.category).sum ≤ 8) (hdg : decode cc pc = .ok (.invokevirtual ix, 3)) (hf : cells + mc ≤ R.cells ∧ slots + ms ≤ R.slots) :
    va_Run p l e R s m args below meth c H locs cells slots mc ms (F0 m pc ls (As.reverse ++ .ref h :: rest)) rest (Qc (Value.ref h :: As).toArray) free := by
  obtain ⟨j, hj⟩ := q_at (f := f) hh
  rw [ef] at hj
  exact va_runV (As := As) (rest := rest) ⟨X.1, X.2.1, hml, X.2.2.2.1, X.2.2.1⟩ hM (cwV n X.2.2.1 (gd_V a1 a2 a3 a5 a4) rfl hrm.1 hrm.2 hd hR) ⟨c_blind, va_recv X.2.2.2.2 Y.1 hc hj, fun U hU hW => ⟨rfl, by rw [hU], by rw [hU]; exact Y.1, va_K.moved hW.alike X.2.2.2.2, Y.2.1.weaken (fun _ _ _ _ => trivial)⟩⟩ rfl hn hsz rfl (lv_room hw) hdg hf
theorem c_retv {own2 : String} {post : cU → Prop} {AV : Array Value} {QQ : State → Prop} (hQ : QQ = MQ below (va_Qv post (cPost D E A) A) AV s cells slots A) (X : cX own2 p c cc AV s m D E) (Y : pH D cCl A s.heap L f H locs) (hr : meth.sig.returnType = none) (hlk : meth.locks = false) (hp : post (L, f)) (hdg : decode cc pc = .ok (.return_, 1)) : W p l e R s m AV below meth c H locs cells slots QQ (F0 m pc ls []) := by
  rw [hQ]
  exact W.vret X.1 X.2.1 hr (fun t ht hW => ⟨⟨(L, f), rfl, hp, by rw [ht]; exact Y.1, va_K.moved hW.alike X.2.2.2.2, Y.2.1⟩, Y.2.2.F ht⟩) Y.2.2.2.2 hdg
theorem c_reti {own2 : String} {post : Int32 → cU → Prop} {AV : Array Value} {QQ : State → Prop} {x : Int32} (hQ : QQ = MQ below (va_Qi post (cPost D E A) A) AV s cells slots A) (X : cX own2 p c cc AV s m D E) (Y : pH D cCl A s.heap L f H locs) (hr : meth.sig.returnType = some .int) (hlk : meth.locks = false) (hp : post x (L, f)) (hdg : decode cc pc = .ok (.ireturn, 1)) : W p l e R s m AV below meth c H locs cells slots QQ (F0 m pc ls [.int x]) := by
  rw [hQ]
  exact W.iret X.1 X.2.1 hr (fun t ht hW => ⟨⟨x, (L, f), rfl, hp, by rw [ht]; exact Y.1, va_K.moved hW.alike X.2.2.2.2, Y.2.1⟩, Y.2.2.F ht⟩) Y.2.2.2.2 hdg
theorem c_retz {own2 : String} {post : Int32 → cU → Prop} {AV : Array Value} {QQ : State → Prop} {x : Int32} (hQ : QQ = MQ below (va_Qi post (cPost D E A) A) AV s cells slots A) (X : cX own2 p c cc AV s m D E) (Y : pH D cCl A s.heap L f H locs) (hr : meth.sig.returnType = some .boolean) (hlk : meth.locks = false) (hn : narrow .boolean (.int x) = .int x) (hp : post x (L, f)) (hdg : decode cc pc = .ok (.ireturn, 1)) : W p l e R s m AV below meth c H locs cells slots QQ (F0 m pc ls [.int x]) := by
  rw [hQ]
  exact W.zret X.1 X.2.1 hr hn (fun t ht hW => ⟨⟨x, (L, f), rfl, hp, by rw [ht]; exact Y.1, va_K.moved hW.alike X.2.2.2.2, Y.2.1⟩, Y.2.2.F ht⟩) Y.2.2.2.2 hdg
/-- calls: of no answer, of a number -/
theorem c_callv {y : MethodName} {bytes : ByteArray} {maxL nL n ix mc ms ci : Nat} {ret : Option FieldType} {rm : Room} {As : List Value} {post : cU → Prop} {h N : Nat} {C : String} {T : u_T} {fs : List Value} (X : cX own p c cc args s m D E) (Y : pH D cCl A H0 L f H locs) (hA : ∀ a, H0.size ≤ a → A a) (hml : c.maxLocals = nL) (hsz : ls.size = nL) (hM : Met l y (Cond.code y bytes maxL ret :: lw_tg) rm (va_Pc (.ref h :: As) (cPre D E L f H.size)) (va_Qv post (cPost D E (pA L H.size)) (pA L H.size)) mc ms (pA L H.size)) (hh : h ∈ L) (ef : f h = .inr (ci, fs)) (hc : cCl[ci]? = some (C, T, N))
    (a1 : Cond.methodLink own ix y ∈ lw_tg) (a2 : Cond.instanceMethod y ∈ lw_tg) (a3 : Cond.selects C y y ∈ lw_tg) (a4 : Cond.code y bytes maxL ret ∈ lw_tg) (a5 : Cond.initialized C ∈ lw_tg) (hrm : rm.cells = mc ∧ rm.slots = ms) (hd : y.cls = C ∧ y.cls ≠ "java/lang/invoke/MethodHandle" ∧ y.cls ≠ "java/lang/invoke/VarHandle" ∧ (parseMethodDescriptor y.desc).map (fun d => d.parameters.length) = some n) (hR : rm.frames + 1 ≤ R.frames ∧ 8 + (maxL + 11) + rm.locals ≤ R.locals) (hn : As.length = n) (hw : (rest.map fun v => v.category).sum ≤ 8) (hdg : decode cc pc = .ok (.invokevirtual ix, 3)) (hf : cells + mc ≤ R.cells ∧ slots + ms ≤ R.slots)
    (kk : ∀ (u : cU) (H1 : Heap) (locs1 : List Loc), post u → pH D cCl A H0 u.1 u.2 H1 locs1 → W p l e R s m args below meth c H1 locs1 (cells + mc) (slots + ms) Q (F0 m (pc + 3) ls rest)) : W p l e R s m args below meth c H locs cells slots Q (F0 m pc ls (As.reverse ++ .ref h :: rest)) :=
  va_callv (c_runV (q0 := 0) X Y hml hsz hM hh ef hc a1 a2 a3 a4 a5 hrm hd hR hn hw hdg hf) Y.2.2 (fun a _ ha => c_sub Y hA a ha) (c_sub Y hA) (fun u t H1 locs1 ht hvm hp hB _ _ hS => kk u H1 locs1 hp (c_back X Y ht hB hA hS))
theorem c_calli {y : MethodName} {bytes : ByteArray} {maxL nL n ix mc ms ci : Nat} {ret : Option FieldType} {rm : Room} {As : List Value} {post : Int32 → cU → Prop} {h N : Nat} {C : String} {T : u_T} {fs : List Value} (X : cX own p c cc args s m D E) (Y : pH D cCl A H0 L f H locs) (hA : ∀ a, H0.size ≤ a → A a) (hml : c.maxLocals = nL) (hsz : ls.size = nL) (hM : Met l y (Cond.code y bytes maxL ret :: lw_tg) rm (va_Pc (.ref h :: As) (cPre D E L f H.size)) (va_Qi post (cPost D E (pA L H.size)) (pA L H.size)) mc ms (pA L H.size)) (hh : h ∈ L) (ef : f h = .inr (ci, fs)) (hc : cCl[ci]? = some (C, T, N))
    (a1 : Cond.methodLink own ix y ∈ lw_tg) (a2 : Cond.instanceMethod y ∈ lw_tg) (a3 : Cond.selects C y y ∈ lw_tg) (a4 : Cond.code y bytes maxL ret ∈ lw_tg) (a5 : Cond.initialized C ∈ lw_tg) (hrm : rm.cells = mc ∧ rm.slots = ms) (hd : y.cls = C ∧ y.cls ≠ "java/lang/invoke/MethodHandle" ∧ y.cls ≠ "java/lang/invoke/VarHandle" ∧ (parseMethodDescriptor y.desc).map (fun d => d.parameters.length) = some n) (hR : rm.frames + 1 ≤ R.frames ∧ 8 + (maxL + 11) + rm.locals ≤ R.locals) (hn : As.length = n) (hw : (rest.map fun v => v.category).sum ≤ 8) (hdg : decode cc pc = .ok (.invokevirtual ix, 3)) (hf : cells + mc ≤ R.cells ∧ slots + ms ≤ R.slots)
    (kk : ∀ (r : Int32) (u : cU) (H1 : Heap) (locs1 : List Loc), post r u → pH D cCl A H0 u.1 u.2 H1 locs1 → W p l e R s m args below meth c H1 locs1 (cells + mc) (slots + ms) Q (F0 m (pc + 3) ls (.int r :: rest))) : W p l e R s m args below meth c H locs cells slots Q (F0 m pc ls (As.reverse ++ .ref h :: rest)) :=
  va_calli (c_runV (q0 := 0) X Y hml hsz hM hh ef hc a1 a2 a3 a4 a5 hrm hd hR hn hw hdg hf) Y.2.2 (fun a _ ha => c_sub Y hA a ha) (c_sub Y hA) (fun r u t H1 locs1 ht hvm hp hB _ _ hS => kk r u H1 locs1 hp (c_back X Y ht hB hA hS))
end CCALLS
