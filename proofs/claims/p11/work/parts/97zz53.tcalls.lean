/-! Calls and answers over cells of kinds. -/
section TCALLS
variable {p : Program} {l : Launch} {e : Env} {R : Room} {s : State} {m : MethodId} {args : Array Value} {below : List Frame} {meth : Method} {c : Code} {H : Heap} {locs : List Loc} {cells slots : Nat} {Q : State → Prop} {cc : ByteArray} {pc : Nat} {ls : Array Slot} {rest : List Value} {D : va_G} {E : cE} {T : cT} {A : Nat → Prop} {L L0 : List Nat} {f f0 : pF} {own : String} {κ κ0 : tK} {M Mc x : List Nat}
theorem x_l {mc ms : Nat} {post : Int64 → cU → Prop} {a0 : Array Value} {st0 : List Value} (hr : va_Run p l e R s m args below meth c H locs cells slots mc ms (F0 m pc ls st0) rest (va_Ql post (cPost D E (pA L H.size)) (pA L H.size) a0) (pA L H.size)) (X : cX own p c cc args s m D E) (Y : pH D cCl A s.heap L f H locs) (hA : ∀ a, s.heap.size ≤ a → A a)
    (kk : ∀ (r : Int64) (u : cU) (H1 : Heap) (locs1 : List Loc), post r u → pH D cCl A s.heap u.1 u.2 H1 locs1 → W p l e R s m args below meth c H1 locs1 (cells + mc) (slots + ms) Q (F0 m (pc + 3) ls (.long r :: rest))) : W p l e R s m args below meth c H locs cells slots Q (F0 m pc ls st0) :=
  va_calll hr Y.2.2 (fun a _ ha => c_sub Y hA a ha) (c_sub Y hA) (fun r u t H1 locs1 ht hvm hp hB _ _ hS => kk r u H1 locs1 hp (c_back X Y ht hB hA hS))
theorem c_retl {own2 : String} {post : Int64 → cU → Prop} {AV : Array Value} {QQ : State → Prop} {v : Int64} (hQ : QQ = MQ below (va_Ql post (cPost D E A) A) AV s cells slots A) (X : cX own2 p c cc AV s m D E) (Y : pH D cCl A s.heap L f H locs) (hr : meth.sig.returnType = some .long) (hlk : meth.locks = false) (hp : post v (L, f)) (hdg : decode cc pc = .ok (.lreturn, 1)) : W p l e R s m AV below meth c H locs cells slots QQ (F0 m pc ls [.long v]) := by
  rw [hQ]
  exact W.lret X.1 X.2.1 hr (fun t ht hW => ⟨⟨v, (L, f), rfl, hp, by rw [ht]; exact Y.1, va_K.moved hW.alike X.2.2.2.2, Y.2.1⟩, Y.2.2.F ht⟩) Y.2.2.2.2 hdg
theorem t_runV {y : MethodName} {bytes : ByteArray} {maxL nL n ix mc ms ci num : Nat} {ret : Option FieldType} {rm : Room} {As : List Value} {Qc : Array Value → State → Outcome → State → Prop} {free : Nat → Prop} {h N : Nat} {C : String} {TT : u_T} {Pr : State → Prop} {F : Nat → Prop} (X : cX own p c cc args s m D E) (Y : pH D cCl A s.heap L f H locs) (S : tS E T F κ0 L0 f0 κ L f) (hk : κ h = (ci + 10, num)) (hml : c.maxLocals = nL) (hsz : ls.size = nL) (hM : Met l y (Cond.code y bytes maxL ret :: lw_tg) rm (va_Pc (.ref h :: As) Pr) Qc mc ms free) (ok : kOK s H Pr) (hc : cCl[ci]? = some (C, TT, N))
    (a1 : Cond.methodLink own ix y ∈ lw_tg) (a2 : Cond.instanceMethod y ∈ lw_tg) (a3 : Cond.selects C y y ∈ lw_tg) (a4 : Cond.code y bytes maxL ret ∈ lw_tg) (a5 : Cond.initialized C ∈ lw_tg) (hrm : rm.cells = mc ∧ rm.slots = ms) (hd : y.cls = C ∧ y.cls ≠ "java/lang/invoke/MethodHandle" ∧ y.cls ≠ "java/lang/invoke/VarHandle" ∧ (parseMethodDescriptor y.desc).map (fun d => d.parameters.length) = some n) (hR : rm.frames + 1 ≤ R.frames ∧ 8 + (maxL + 11) + rm.locals ≤ R.locals) (hn : As.length = n) (hw : (rest.map fun v => v.category).sum ≤ 8) (hdg : decode cc pc = .ok (.invokevirtual ix, 3)) (hf : cells + mc ≤ R.cells ∧ slots + ms ≤ R.slots) :
    va_Run p l e R s m args below meth c H locs cells slots mc ms (F0 m pc ls (As.reverse ++ .ref h :: rest)) rest (Qc (Value.ref h :: As).toArray) free := by
  obtain ⟨ha, fs, ef, -⟩ := t_obj S.1 hk
  exact x_runV X Y hml hsz hM ok ha ef hc a1 a2 a3 a4 a5 hrm hd hR hn hw hdg hf
theorem t_nv {P : pF → Prop} {a0 : Array Value} {st0 : List Value} (hr : va_Run p l e R s m args below meth c H locs cells slots 0 0 (F0 m pc ls st0) rest (va_Qv (nPv E T Mc κ L f P) (cPost D E (pA L H.size)) (pA L H.size) a0) (pA L H.size)) (X : cX own p c cc args s m D E) (Y : pH D cCl A s.heap L f H locs) (hA : ∀ a, s.heap.size ≤ a → A a) (S : tS E T (tFr κ0 L0 M x) κ0 L0 f0 κ L f) (hM : ∀ c ∈ Mc, c ∈ M)
    (kk : ∀ (f1 : pF) (H1 : Heap) (locs1 : List Loc), pH D cCl A s.heap L f1 H1 locs1 → tS E T (tFr κ0 L0 M x) κ0 L0 f0 κ L f1 → tS E T (tFr κ L Mc []) κ L f κ L f1 → P f1 → W p l e R s m args below meth c H1 locs1 cells slots Q (F0 m (pc + 3) ls (rest))) : W p l e R s m args below meth c H locs cells slots Q (F0 m pc ls st0) := by
  refine x_v hr X Y hA (fun u H1 locs1 hp Y1 => ?_)
  obtain ⟨L1, f1⟩ := u
  obtain ⟨e1, S2, h⟩ := hp
  dsimp only at e1 S2 h Y1
  subst e1
  exact kk f1 H1 locs1 Y1 (tS_call S S2 hM) S2 h
theorem t_av {P : tK → pF → Prop} {mc ms : Nat} {a0 : Array Value} {st0 : List Value} (hr : va_Run p l e R s m args below meth c H locs cells slots mc ms (F0 m pc ls st0) rest (va_Qv (aPv E T Mc [] κ L f P) (cPost D E (pA L H.size)) (pA L H.size) a0) (pA L H.size)) (X : cX own p c cc args s m D E) (Y : pH D cCl A s.heap L f H locs) (hA : ∀ a, s.heap.size ≤ a → A a) (S : tS E T (tFr κ0 L0 M x) κ0 L0 f0 κ L f) (hM : ∀ c ∈ Mc, c ∈ M)
    (kk : ∀ (κ1 : tK) (L1 : List Nat) (f1 : pF) (H1 : Heap) (locs1 : List Loc), pH D cCl A s.heap L1 f1 H1 locs1 → tS E T (tFr κ0 L0 M x) κ0 L0 f0 κ1 L1 f1 → tS E T (tFr κ L Mc []) κ L f κ1 L1 f1 → P κ1 f1 → W p l e R s m args below meth c H1 locs1 (cells + mc) (slots + ms) Q (F0 m (pc + 3) ls (rest))) : W p l e R s m args below meth c H locs cells slots Q (F0 m pc ls st0) := by
  refine x_v hr X Y hA (fun u H1 locs1 hp Y1 => ?_)
  obtain ⟨L1, f1⟩ := u
  obtain ⟨κ1, S2, h⟩ := hp
  exact kk κ1 L1 f1 H1 locs1 Y1 (tS_call S S2 hM) S2 h
theorem t_mk {P : tK → pF → Prop} {mc ms q : Nat} {a0 : Array Value} {st0 : List Value} (hr : va_Run p l e R s m args below meth c H locs cells slots mc ms (F0 m pc ls st0) rest (va_Qv (aPv E T Mc [q] κ L f P) (cPost D E (pA L H.size)) (pA L H.size) a0) (pA L H.size)) (X : cX own p c cc args s m D E) (Y : pH D cCl A s.heap L f H locs) (hA : ∀ a, s.heap.size ≤ a → A a) (S : tS E T (tFr κ0 L0 M x) κ0 L0 f0 κ L f) (hM : ∀ c ∈ Mc, c ∈ M) (hq : q ∉ L0)
    (kk : ∀ (κ1 : tK) (L1 : List Nat) (f1 : pF) (H1 : Heap) (locs1 : List Loc), pH D cCl A s.heap L1 f1 H1 locs1 → tS E T (tFr κ0 L0 M x) κ0 L0 f0 κ1 L1 f1 → tS E T (tFr κ L Mc [q]) κ L f κ1 L1 f1 → P κ1 f1 → W p l e R s m args below meth c H1 locs1 (cells + mc) (slots + ms) Q (F0 m (pc + 3) ls (rest))) : W p l e R s m args below meth c H locs cells slots Q (F0 m pc ls st0) := by
  refine x_v hr X Y hA (fun u H1 locs1 hp Y1 => ?_)
  obtain ⟨L1, f1⟩ := u
  obtain ⟨κ1, S2, h⟩ := hp
  exact kk κ1 L1 f1 H1 locs1 Y1 (tS_mk S S2 hM hq) S2 h
theorem t_ni {P : Int → pF → Prop} {a0 : Array Value} {st0 : List Value} (hr : va_Run p l e R s m args below meth c H locs cells slots 0 0 (F0 m pc ls st0) rest (va_Qi (nPi E T Mc κ L f P) (cPost D E (pA L H.size)) (pA L H.size) a0) (pA L H.size)) (X : cX own p c cc args s m D E) (Y : pH D cCl A s.heap L f H locs) (hA : ∀ a, s.heap.size ≤ a → A a) (S : tS E T (tFr κ0 L0 M x) κ0 L0 f0 κ L f) (hM : ∀ c ∈ Mc, c ∈ M)
    (kk : ∀ (z : Int) (f1 : pF) (H1 : Heap) (locs1 : List Loc), pH D cCl A s.heap L f1 H1 locs1 → tS E T (tFr κ0 L0 M x) κ0 L0 f0 κ L f1 → tS E T (tFr κ L Mc []) κ L f κ L f1 → P z f1 → W p l e R s m args below meth c H1 locs1 cells slots Q (F0 m (pc + 3) ls (.int (iI z) :: rest))) : W p l e R s m args below meth c H locs cells slots Q (F0 m pc ls st0) := by
  refine x_i hr X Y hA (fun r u H1 locs1 hp Y1 => ?_)
  obtain ⟨L1, f1⟩ := u
  obtain ⟨e1, S2, z, e2, h⟩ := hp
  dsimp only at e1 S2 h Y1
  subst e1
  subst e2
  exact kk z f1 H1 locs1 Y1 (tS_call S S2 hM) S2 h
theorem t_ui {P : Int → Prop} {a0 : Array Value} {st0 : List Value} (hr : va_Run p l e R s m args below meth c H locs cells slots 0 0 (F0 m pc ls st0) rest (va_Qi (uPi L f P) (cPost D E (pA L H.size)) (pA L H.size) a0) (pA L H.size)) (X : cX own p c cc args s m D E) (Y : pH D cCl A s.heap L f H locs) (hA : ∀ a, s.heap.size ≤ a → A a)
    (kk : ∀ (z : Int) (H1 : Heap) (locs1 : List Loc), pH D cCl A s.heap L f H1 locs1 → P z → W p l e R s m args below meth c H1 locs1 cells slots Q (F0 m (pc + 3) ls (.int (iI z) :: rest))) : W p l e R s m args below meth c H locs cells slots Q (F0 m pc ls st0) := by
  refine x_i hr X Y hA (fun r u H1 locs1 hp Y1 => ?_)
  obtain ⟨L1, f1⟩ := u
  obtain ⟨e1, e3, z, e2, h⟩ := hp
  dsimp only at e1 e3 Y1
  subst e1
  subst e3
  subst e2
  exact kk z H1 locs1 Y1 h
theorem t_ai {P : Int → tK → pF → Prop} {mc ms : Nat} {a0 : Array Value} {st0 : List Value} (hr : va_Run p l e R s m args below meth c H locs cells slots mc ms (F0 m pc ls st0) rest (va_Qi (aPi E T Mc [] κ L f P) (cPost D E (pA L H.size)) (pA L H.size) a0) (pA L H.size)) (X : cX own p c cc args s m D E) (Y : pH D cCl A s.heap L f H locs) (hA : ∀ a, s.heap.size ≤ a → A a) (S : tS E T (tFr κ0 L0 M x) κ0 L0 f0 κ L f) (hM : ∀ c ∈ Mc, c ∈ M)
    (kk : ∀ (z : Int) (κ1 : tK) (L1 : List Nat) (f1 : pF) (H1 : Heap) (locs1 : List Loc), pH D cCl A s.heap L1 f1 H1 locs1 → tS E T (tFr κ0 L0 M x) κ0 L0 f0 κ1 L1 f1 → tS E T (tFr κ L Mc []) κ L f κ1 L1 f1 → P z κ1 f1 → W p l e R s m args below meth c H1 locs1 (cells + mc) (slots + ms) Q (F0 m (pc + 3) ls (.int (iI z) :: rest))) : W p l e R s m args below meth c H locs cells slots Q (F0 m pc ls st0) := by
  refine x_i hr X Y hA (fun r u H1 locs1 hp Y1 => ?_)
  obtain ⟨L1, f1⟩ := u
  obtain ⟨κ1, S2, z, e2, h⟩ := hp
  subst e2
  exact kk z κ1 L1 f1 H1 locs1 Y1 (tS_call S S2 hM) S2 h
theorem t_nl {P : Int64 → pF → Prop} {a0 : Array Value} {st0 : List Value} (hr : va_Run p l e R s m args below meth c H locs cells slots 0 0 (F0 m pc ls st0) rest (va_Ql (nPl E T Mc κ L f P) (cPost D E (pA L H.size)) (pA L H.size) a0) (pA L H.size)) (X : cX own p c cc args s m D E) (Y : pH D cCl A s.heap L f H locs) (hA : ∀ a, s.heap.size ≤ a → A a) (S : tS E T (tFr κ0 L0 M x) κ0 L0 f0 κ L f) (hM : ∀ c ∈ Mc, c ∈ M)
    (kk : ∀ (z : Int64) (f1 : pF) (H1 : Heap) (locs1 : List Loc), pH D cCl A s.heap L f1 H1 locs1 → tS E T (tFr κ0 L0 M x) κ0 L0 f0 κ L f1 → tS E T (tFr κ L Mc []) κ L f κ L f1 → P z f1 → W p l e R s m args below meth c H1 locs1 cells slots Q (F0 m (pc + 3) ls (.long z :: rest))) : W p l e R s m args below meth c H locs cells slots Q (F0 m pc ls st0) := by
  refine x_l hr X Y hA (fun r u H1 locs1 hp Y1 => ?_)
  obtain ⟨L1, f1⟩ := u
  obtain ⟨e1, S2, h⟩ := hp
  dsimp only at e1 S2 h Y1
  subst e1
  exact kk r f1 H1 locs1 Y1 (tS_call S S2 hM) S2 h
theorem t_ul {P : Int64 → Prop} {a0 : Array Value} {st0 : List Value} (hr : va_Run p l e R s m args below meth c H locs cells slots 0 0 (F0 m pc ls st0) rest (va_Ql (uPl L f P) (cPost D E (pA L H.size)) (pA L H.size) a0) (pA L H.size)) (X : cX own p c cc args s m D E) (Y : pH D cCl A s.heap L f H locs) (hA : ∀ a, s.heap.size ≤ a → A a)
    (kk : ∀ (z : Int64) (H1 : Heap) (locs1 : List Loc), pH D cCl A s.heap L f H1 locs1 → P z → W p l e R s m args below meth c H1 locs1 cells slots Q (F0 m (pc + 3) ls (.long z :: rest))) : W p l e R s m args below meth c H locs cells slots Q (F0 m pc ls st0) := by
  refine x_l hr X Y hA (fun r u H1 locs1 hp Y1 => ?_)
  obtain ⟨L1, f1⟩ := u
  obtain ⟨e1, e3, h⟩ := hp
  dsimp only at e1 e3 Y1
  subst e1
  subst e3
  exact kk r H1 locs1 Y1 h
theorem t_nr {P : Nat → pF → Prop} {a0 : Array Value} {st0 : List Value} (hr : va_Run p l e R s m args below meth c H locs cells slots 0 0 (F0 m pc ls st0) rest (va_Qr (fun _ : cU => True) (fun u r t => nPr E T Mc κ L f P r u ∧ cPost D E (pA L H.size) u t) (pA L H.size) a0) (pA L H.size)) (X : cX own p c cc args s m D E) (Y : pH D cCl A s.heap L f H locs) (hA : ∀ a, s.heap.size ≤ a → A a) (S : tS E T (tFr κ0 L0 M x) κ0 L0 f0 κ L f) (hM : ∀ c ∈ Mc, c ∈ M)
    (kk : ∀ (z : Nat) (f1 : pF) (H1 : Heap) (locs1 : List Loc), pH D cCl A s.heap L f1 H1 locs1 → tS E T (tFr κ0 L0 M x) κ0 L0 f0 κ L f1 → tS E T (tFr κ L Mc []) κ L f κ L f1 → P z f1 → W p l e R s m args below meth c H1 locs1 cells slots Q (F0 m (pc + 3) ls (.ref z :: rest))) : W p l e R s m args below meth c H locs cells slots Q (F0 m pc ls st0) := by
  refine x_r hr X Y hA (fun r u H1 locs1 hp Y1 => ?_)
  obtain ⟨L1, f1⟩ := u
  obtain ⟨e1, S2, h⟩ := hp
  dsimp only at e1 S2 h Y1
  subst e1
  exact kk r f1 H1 locs1 Y1 (tS_call S S2 hM) S2 h
theorem t_ur {P : Nat → Prop} {a0 : Array Value} {st0 : List Value} (hr : va_Run p l e R s m args below meth c H locs cells slots 0 0 (F0 m pc ls st0) rest (va_Qr (fun _ : cU => True) (fun u r t => uPr L f P r u ∧ cPost D E (pA L H.size) u t) (pA L H.size) a0) (pA L H.size)) (X : cX own p c cc args s m D E) (Y : pH D cCl A s.heap L f H locs) (hA : ∀ a, s.heap.size ≤ a → A a)
    (kk : ∀ (z : Nat) (H1 : Heap) (locs1 : List Loc), pH D cCl A s.heap L f H1 locs1 → P z → W p l e R s m args below meth c H1 locs1 cells slots Q (F0 m (pc + 3) ls (.ref z :: rest))) : W p l e R s m args below meth c H locs cells slots Q (F0 m pc ls st0) := by
  refine x_r hr X Y hA (fun r u H1 locs1 hp Y1 => ?_)
  obtain ⟨L1, f1⟩ := u
  obtain ⟨e1, e3, h⟩ := hp
  dsimp only at e1 e3 Y1
  subst e1
  subst e3
  exact kk r H1 locs1 Y1 h
theorem t_ar {P : Nat → tK → pF → Prop} {mc ms : Nat} {a0 : Array Value} {st0 : List Value} (hr : va_Run p l e R s m args below meth c H locs cells slots mc ms (F0 m pc ls st0) rest (va_Qr (fun _ : cU => True) (fun u r t => aPr E T Mc [] κ L f P r u ∧ cPost D E (pA L H.size) u t) (pA L H.size) a0) (pA L H.size)) (X : cX own p c cc args s m D E) (Y : pH D cCl A s.heap L f H locs) (hA : ∀ a, s.heap.size ≤ a → A a) (S : tS E T (tFr κ0 L0 M x) κ0 L0 f0 κ L f) (hM : ∀ c ∈ Mc, c ∈ M)
    (kk : ∀ (z : Nat) (κ1 : tK) (L1 : List Nat) (f1 : pF) (H1 : Heap) (locs1 : List Loc), pH D cCl A s.heap L1 f1 H1 locs1 → tS E T (tFr κ0 L0 M x) κ0 L0 f0 κ1 L1 f1 → tS E T (tFr κ L Mc []) κ L f κ1 L1 f1 → P z κ1 f1 → W p l e R s m args below meth c H1 locs1 (cells + mc) (slots + ms) Q (F0 m (pc + 3) ls (.ref z :: rest))) : W p l e R s m args below meth c H locs cells slots Q (F0 m pc ls st0) := by
  refine x_r hr X Y hA (fun r u H1 locs1 hp Y1 => ?_)
  obtain ⟨L1, f1⟩ := u
  obtain ⟨κ1, S2, h⟩ := hp
  exact kk r κ1 L1 f1 H1 locs1 Y1 (tS_call S S2 hM) S2 h
end TCALLS
