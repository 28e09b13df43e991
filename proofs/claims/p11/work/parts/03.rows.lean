abbrev mD : Type := va_G × (Nat → Nat) × (Nat → Nat) × Value
/-- what a walk of a method of the reference keeps: machine, code, words, owner, tables -/
def mX (p : Program) (c : Code) (cc : ByteArray) (args : Array Value) (s : State) (m : MethodId) (D : mD) (E : ClassId × ClassId × ClassId × ClassId) : Prop := p.tables.exec = Jvm.exec ∧ c.code = cc ∧ (∀ w ∈ lw_tg, w.before args s = true) ∧ s.vm.findClass R_M = some m.cls ∧ va_K D.1 mCl (mTy E) s ∧ zR D.2.1 s
/-- its world at a heap -/
def mH (D : mD) (E : ClassId × ClassId × ClassId × ClassId) (A : Nat → Prop) (H0 : Heap) (h : Nat) (q : Nat → Nat) (I : Nat → Int32) (J : Nat → Int64) (B : Nat → Nat → Int32) (G : Nat → Nat → Int64) (H : Heap) (locs : List Loc) : Prop := va_P D.1 mCl (mW E h q I J B G) H ∧ va_D A (mW E h q I J B G) ∧ va_S A H0 H locs
section MROWS
variable {p : Program} {l : Launch} {e : Env} {R : Room} {s : State} {m : MethodId} {args : Array Value} {below : List Frame} {meth : Method} {c : Code} {H : Heap} {locs : List Loc} {cells slots : Nat} {Q : State → Prop} {cc : ByteArray} {pc : Nat} {ls : Array Slot} {rest : List Value} {D : mD} {E : ClassId × ClassId × ClassId × ClassId} {A : Nat → Prop} {H0 : Heap} {h : Nat} {q : Nat → Nat} {I : Nat → Int32} {J : Nat → Int64} {B : Nat → Nat → Int32} {G : Nat → Nat → Int64}
/-- getfield -/
theorem m_get (X : mX p c cc args s m D E) (Y : mH D E A H0 h q I J B G H locs) (k : Nat) {ix : Nat} {v : Value} (hk : k < 145) (hl : Cond.fieldLink R_M ix R_M (F_M k).2.1 (F_M k).2.2.1 ∈ lw_tg) (hv : (mFs q I J)[k]? = some v) (hs : (F_M k).1 = R_M) (hdg : decode cc pc = .ok (.getfield ix, 3)) (kk : W p l e R s m args below meth c H locs cells slots Q (F0 m (pc + 3) ls (v :: rest))) : W p l e R s m args below meth c H locs cells slots Q (F0 m pc ls (.ref h :: rest)) :=
  va_get (D := D.1) (ci := 0) (C := R_M) (T := F_M) (N := 145) X.1 X.2.1 X.2.2.1 i_M X.2.2.2.1 X.2.2.2.2.1 Y.1 0 rfl rfl k hk (X.2.2.1 _ hl) (fun _ h9 => by rw [hs] at h9; exact h9) hv hdg kk
/-- putfield of an int (or boolean) -/
theorem m_puti (X : mX p c cc args s m D E) (Y : mH D E A H0 h q I J B G H locs) (k : Nat) {ix : Nat} {x : Int32} {I2 : Nat → Int32} (hk : k < 145) (hl : Cond.fieldLink R_M ix R_M (F_M k).2.1 (F_M k).2.2.1 ∈ lw_tg) (hs : (F_M k).1 = R_M) (hf : (F_M k).2.2.2 = false) {ty : FieldType} (hd : parseFieldDescriptor (F_M k).2.2.1 = some ty) (hn : narrow ty (.int x) = .int x) (hfit : fits ty (.int x) = true) (hset : (mFs q I J).set k (.int x) = mFs q I2 J) (hlen : k < (mFs q I J).length) (hdg : decode cc pc = .ok (.putfield ix, 3))
    (kk : ∀ (H1 : Heap) (locs1 : List Loc), mH D E A H0 h q I2 J B G H1 locs1 → W p l e R s m args below meth c H1 locs1 cells slots Q (F0 m (pc + 3) ls rest)) : W p l e R s m args below meth c H locs cells slots Q (F0 m pc ls (.int x :: .ref h :: rest)) := by
  refine va_put (D := D.1) (ci := 0) (C := R_M) (T := F_M) (N := 145) X.1 X.2.1 X.2.2.1 i_M t_M t_M_ok n_M X.2.2.2.1 X.2.2.2.2.1 Y.1 Y.2.1 Y.2.2 0 rfl rfl k hk (X.2.2.1 _ hl) (fun _ h9 => by rw [hs] at h9; exact h9) hf hd hn hfit hlen hdg (fun H1 locs1 hP hD hS => ?_)
  rw [hset] at hP hD
  exact kk H1 locs1 ⟨hP, hD, hS⟩
/-- putfield of a long -/
theorem m_putl (X : mX p c cc args s m D E) (Y : mH D E A H0 h q I J B G H locs) (k : Nat) {ix : Nat} {x : Int64} {J2 : Nat → Int64} (hk : k < 145) (hl : Cond.fieldLink R_M ix R_M (F_M k).2.1 (F_M k).2.2.1 ∈ lw_tg) (hs : (F_M k).1 = R_M) (hf : (F_M k).2.2.2 = false) {ty : FieldType} (hd : parseFieldDescriptor (F_M k).2.2.1 = some ty) (hn : narrow ty (.long x) = .long x) (hfit : fits ty (.long x) = true) (hset : (mFs q I J).set k (.long x) = mFs q I J2) (hlen : k < (mFs q I J).length) (hdg : decode cc pc = .ok (.putfield ix, 3))
    (kk : ∀ (H1 : Heap) (locs1 : List Loc), mH D E A H0 h q I J2 B G H1 locs1 → W p l e R s m args below meth c H1 locs1 cells slots Q (F0 m (pc + 3) ls rest)) : W p l e R s m args below meth c H locs cells slots Q (F0 m pc ls (.long x :: .ref h :: rest)) := by
  refine va_put (D := D.1) (ci := 0) (C := R_M) (T := F_M) (N := 145) X.1 X.2.1 X.2.2.1 i_M t_M t_M_ok n_M X.2.2.2.1 X.2.2.2.2.1 Y.1 Y.2.1 Y.2.2 0 rfl rfl k hk (X.2.2.1 _ hl) (fun _ h9 => by rw [hs] at h9; exact h9) hf hd hn hfit hlen hdg (fun H1 locs1 hP hD hS => ?_)
  rw [hset] at hP hD
  exact kk H1 locs1 ⟨hP, hD, hS⟩
/-- arrays: reads -/
theorem m_iald (X : mX p c cc args s m D E) (Y : mH D E A H0 h q I J B G H locs) {k n : Nat} {f : Nat → Int32} {a : Nat} {i : Int32} (ha : (mW E h q I J B G)[k]? = some (a, .inl (E.2.1, n, .inl f))) (hin : vp_in i n) (hdg : decode cc pc = .ok (.iaload, 1)) (kk : W p l e R s m args below meth c H locs cells slots Q (F0 m (pc + 1) ls (.int (f i.toNatClampNeg) :: rest))) : W p l e R s m args below meth c H locs cells slots Q (F0 m pc ls (.int i :: .ref a :: rest)) := va_iald X.1 X.2.1 X.2.2.2.2.1 Y.1 k 1 ha rfl hin hdg kk
theorem m_bald (X : mX p c cc args s m D E) (Y : mH D E A H0 h q I J B G H locs) {k n : Nat} {f : Nat → Int32} {a : Nat} {i : Int32} (ha : (mW E h q I J B G)[k]? = some (a, .inl (E.1, n, .inl f))) (hin : vp_in i n) (hdg : decode cc pc = .ok (.baload, 1)) (kk : W p l e R s m args below meth c H locs cells slots Q (F0 m (pc + 1) ls (.int (f i.toNatClampNeg) :: rest))) : W p l e R s m args below meth c H locs cells slots Q (F0 m pc ls (.int i :: .ref a :: rest)) := va_bald X.1 X.2.1 X.2.2.2.2.1 Y.1 k 0 ha rfl hin hdg kk
theorem m_zald (X : mX p c cc args s m D E) (Y : mH D E A H0 h q I J B G H locs) {k n : Nat} {f : Nat → Int32} {a : Nat} {i : Int32} (ha : (mW E h q I J B G)[k]? = some (a, .inl (E.2.2.2, n, .inl f))) (hin : vp_in i n) (hdg : decode cc pc = .ok (.baload, 1)) (kk : W p l e R s m args below meth c H locs cells slots Q (F0 m (pc + 1) ls (.int (f i.toNatClampNeg) :: rest))) : W p l e R s m args below meth c H locs cells slots Q (F0 m pc ls (.int i :: .ref a :: rest)) := va_zald X.1 X.2.1 X.2.2.2.2.1 Y.1 k 3 ha rfl hin hdg kk
theorem m_lald (X : mX p c cc args s m D E) (Y : mH D E A H0 h q I J B G H locs) {k n : Nat} {f : Nat → Int64} {a : Nat} {i : Int32} (ha : (mW E h q I J B G)[k]? = some (a, .inl (E.2.2.1, n, .inr (.inl f)))) (hin : vp_in i n) (hdg : decode cc pc = .ok (.laload, 1)) (kk : W p l e R s m args below meth c H locs cells slots Q (F0 m (pc + 1) ls (.long (f i.toNatClampNeg) :: rest))) : W p l e R s m args below meth c H locs cells slots Q (F0 m pc ls (.int i :: .ref a :: rest)) := va_lald X.1 X.2.1 X.2.2.2.2.1 Y.1 k 2 ha rfl hin hdg kk
/-- arrays: writes -/
theorem m_iast (X : mX p c cc args s m D E) (Y : mH D E A H0 h q I J B G H locs) {k n : Nat} {f : Nat → Int32} {a : Nat} {i x : Int32} {B2 : Nat → Nat → Int32} (ha : (mW E h q I J B G)[k]? = some (a, .inl (E.2.1, n, .inl f))) (hin : vp_in i n) (hset : (mW E h q I J B G).set k (a, .inl (E.2.1, n, .inl (upd f i.toNatClampNeg x))) = mW E h q I J B2 G) (hdg : decode cc pc = .ok (.iastore, 1)) (kk : ∀ (H1 : Heap) (locs1 : List Loc), mH D E A H0 h q I J B2 G H1 locs1 → W p l e R s m args below meth c H1 locs1 cells slots Q (F0 m (pc + 1) ls rest)) : W p l e R s m args below meth c H locs cells slots Q (F0 m pc ls (.int x :: .int i :: .ref a :: rest)) := by
  refine va_iast X.1 X.2.1 X.2.2.2.2.1 Y.1 Y.2.1 Y.2.2 k 1 ha rfl hin hdg (fun H1 locs1 hP hD hS => ?_)
  rw [hset] at hP hD
  exact kk H1 locs1 ⟨hP, hD, hS⟩
theorem m_bast (X : mX p c cc args s m D E) (Y : mH D E A H0 h q I J B G H locs) {k n : Nat} {f : Nat → Int32} {a : Nat} {i x : Int32} {B2 : Nat → Nat → Int32} (ha : (mW E h q I J B G)[k]? = some (a, .inl (E.1, n, .inl f))) (hin : vp_in i n) (hset : (mW E h q I J B G).set k (a, .inl (E.1, n, .inl (upd f i.toNatClampNeg (vp_nar .byte x)))) = mW E h q I J B2 G) (hdg : decode cc pc = .ok (.bastore, 1)) (kk : ∀ (H1 : Heap) (locs1 : List Loc), mH D E A H0 h q I J B2 G H1 locs1 → W p l e R s m args below meth c H1 locs1 cells slots Q (F0 m (pc + 1) ls rest)) : W p l e R s m args below meth c H locs cells slots Q (F0 m pc ls (.int x :: .int i :: .ref a :: rest)) := by
  refine va_bast X.1 X.2.1 X.2.2.2.2.1 Y.1 Y.2.1 Y.2.2 k 0 ha rfl hin hdg (fun H1 locs1 hP hD hS => ?_)
  rw [hset] at hP hD
  exact kk H1 locs1 ⟨hP, hD, hS⟩
theorem m_zast (X : mX p c cc args s m D E) (Y : mH D E A H0 h q I J B G H locs) {k n : Nat} {f : Nat → Int32} {a : Nat} {i x : Int32} {B2 : Nat → Nat → Int32} (ha : (mW E h q I J B G)[k]? = some (a, .inl (E.2.2.2, n, .inl f))) (hin : vp_in i n) (hset : (mW E h q I J B G).set k (a, .inl (E.2.2.2, n, .inl (upd f i.toNatClampNeg (vp_nar .boolean x)))) = mW E h q I J B2 G) (hdg : decode cc pc = .ok (.bastore, 1)) (kk : ∀ (H1 : Heap) (locs1 : List Loc), mH D E A H0 h q I J B2 G H1 locs1 → W p l e R s m args below meth c H1 locs1 cells slots Q (F0 m (pc + 1) ls rest)) : W p l e R s m args below meth c H locs cells slots Q (F0 m pc ls (.int x :: .int i :: .ref a :: rest)) := by
  refine va_zast X.1 X.2.1 X.2.2.2.2.1 Y.1 Y.2.1 Y.2.2 k 3 ha rfl hin hdg (fun H1 locs1 hP hD hS => ?_)
  rw [hset] at hP hD
  exact kk H1 locs1 ⟨hP, hD, hS⟩
theorem m_last (X : mX p c cc args s m D E) (Y : mH D E A H0 h q I J B G H locs) {k n : Nat} {f : Nat → Int64} {a : Nat} {i : Int32} {x : Int64} {G2 : Nat → Nat → Int64} (ha : (mW E h q I J B G)[k]? = some (a, .inl (E.2.2.1, n, .inr (.inl f)))) (hin : vp_in i n) (hset : (mW E h q I J B G).set k (a, .inl (E.2.2.1, n, .inr (.inl (vp_updL f i.toNatClampNeg x)))) = mW E h q I J B G2) (hdg : decode cc pc = .ok (.lastore, 1)) (kk : ∀ (H1 : Heap) (locs1 : List Loc), mH D E A H0 h q I J B G2 H1 locs1 → W p l e R s m args below meth c H1 locs1 cells slots Q (F0 m (pc + 1) ls rest)) : W p l e R s m args below meth c H locs cells slots Q (F0 m pc ls (.long x :: .int i :: .ref a :: rest)) := by
  refine va_last X.1 X.2.1 X.2.2.2.2.1 Y.1 Y.2.1 Y.2.2 k 2 ha rfl hin hdg (fun H1 locs1 hP hD hS => ?_)
  rw [hset] at hP hD
  exact kk H1 locs1 ⟨hP, hD, hS⟩
end MROWS
/-! Contracts of the reference's methods: one shape for all. -/
abbrev mE : Type := ClassId × ClassId × ClassId × ClassId
abbrev mS : Type := (Nat → Int32) × (Nat → Int64) × (Nat → Nat → Int32) × (Nat → Nat → Int64)
def mA (E : mE) (h : Nat) (q : Nat → Nat) (sz : Nat) : Nat → Prop := fun a => (∃ (k : Nat) (x : va_E), (mW E h q (fun _ => 0) (fun _ => 0) (fun _ _ => 0) (fun _ _ => 0))[k]? = some (a, x)) ∨ sz ≤ a
def mPre (D : mD) (E : mE) (h : Nat) (q : Nat → Nat) (u : mS) (sz : Nat) : State → Prop := fun U => U.heap.size = sz ∧ va_P D.1 mCl (mW E h q u.1 u.2.1 u.2.2.1 u.2.2.2) U.heap ∧ va_K D.1 mCl (mTy E) U ∧ va_D (fun _ => True) (mW E h q u.1 u.2.1 u.2.2.1 u.2.2.2) ∧ zS D.2.1 D.2.2.1 D.2.2.2 (mA E h q sz) U U.heap ∧ zR D.2.1 U
def mPost (D : mD) (E : mE) (h : Nat) (q : Nat → Nat) (A : Nat → Prop) : mS → State → Prop := fun u t => va_P D.1 mCl (mW E h q u.1 u.2.1 u.2.2.1 u.2.2.2) t.heap ∧ va_K D.1 mCl (mTy E) t ∧ va_D A (mW E h q u.1 u.2.1 u.2.2.1 u.2.2.2)
/-- the addresses of the world don't hang on what it holds -/
theorem mW_fst (E : mE) (h : Nat) (q : Nat → Nat) (I I2 : Nat → Int32) (J J2 : Nat → Int64) (B B2 : Nat → Nat → Int32) (G G2 : Nat → Nat → Int64) : (mW E h q I J B G).map (fun x => x.1) = (mW E h q I2 J2 B2 G2).map (fun x => x.1) := rfl
theorem mW_at {E : mE} {h : Nat} {q : Nat → Nat} {I : Nat → Int32} {J : Nat → Int64} {B : Nat → Nat → Int32} {G : Nat → Nat → Int64} {k : Nat} {x : Nat × va_E} (I2 : Nat → Int32) (J2 : Nat → Int64) (B2 : Nat → Nat → Int32) (G2 : Nat → Nat → Int64) (hk : (mW E h q I J B G)[k]? = some x) : ∃ y : va_E, (mW E h q I2 J2 B2 G2)[k]? = some (x.1, y) := by
  have h1 : ((mW E h q I J B G).map (fun x => x.1))[k]? = some x.1 := by rw [List.getElem?_map, hk]; rfl
  rw [mW_fst E h q I I2 J J2 B B2 G G2, List.getElem?_map] at h1
  cases h2 : (mW E h q I2 J2 B2 G2)[k]? with
  | none => rw [h2] at h1; cases h1
  | some z => rw [h2] at h1; exact ⟨z.2, by have := Option.some.inj h1; rw [← this]⟩
theorem mA_in {E : mE} {h : Nat} {q : Nat → Nat} {I : Nat → Int32} {J : Nat → Int64} {B : Nat → Nat → Int32} {G : Nat → Nat → Int64} {k sz : Nat} {x : Nat × va_E} (hk : (mW E h q I J B G)[k]? = some x) : mA E h q sz x.1 := by
  obtain ⟨y, hy⟩ := mW_at (fun _ => 0) (fun _ => 0) (fun _ _ => 0) (fun _ _ => 0) hk
  exact Or.inl ⟨k, y, hy⟩
theorem mA_sub {E : mE} {h : Nat} {q : Nat → Nat} {I : Nat → Int32} {J : Nat → Int64} {B : Nat → Nat → Int32} {G : Nat → Nat → Int64} {sz : Nat} {A : Nat → Prop} (hD : va_D A (mW E h q I J B G)) (hA : ∀ a, sz ≤ a → A a) : ∀ a, mA E h q sz a → A a := by
  intro a ha
  rcases ha with ⟨k, x, hk⟩ | ha
  · obtain ⟨y, hy⟩ := mW_at I J B G hk
    exact hD.2 k _ hy
  · exact hA a ha
section MCALLS
variable {p : Program} {l : Launch} {e : Env} {R : Room} {s : State} {m : MethodId} {args : Array Value} {below : List Frame} {meth : Method} {c : Code} {H : Heap} {locs : List Loc} {Q : State → Prop} {cc : ByteArray} {pc : Nat} {ls : Array Slot} {rest : List Value} {D : mD} {E : mE} {A : Nat → Prop} {H0 : Heap} {h : Nat} {q : Nat → Nat} {I : Nat → Int32} {J : Nat → Int64} {B : Nat → Nat → Int32} {G : Nat → Nat → Int64}
/-- the entry of a method -/
theorem m_enter {y : MethodName} {maxL : Nat} {ret : Option FieldType} {rm : Room} {as : List Value} {Qc : Array Value → State → Outcome → State → Prop} {u : mS} {sz : Nat} {free : Addr → Prop} (hy : plainName y.cls = true) (hyc : y.cls = R_M) (hlen : (lg_sl (.ref h :: as)).length ≤ maxL)
    (body : ∀ (p : Program) (e : Env) (s : State) (m : MethodId) (below : List Frame) (meth : Method) (c : Code) (ls : Array Slot) (AV : Array Value) (QQ : State → Prop) (H : Heap) (locs : List Loc), QQ = MQ below Qc AV s 0 0 free → mX p c cc AV s m D E → mH D E (mA E h q sz) s.heap h q u.1 u.2.1 u.2.2.1 u.2.2.2 H locs → zS D.2.1 D.2.2.1 D.2.2.2 (mA E h q sz) s s.heap → (∀ a, s.heap.size ≤ a → mA E h q sz a) → meth.sig.returnType = ret → meth.locks = false → c.maxLocals = maxL → lv_has ls maxL (lv_args 0 (.ref h :: as)) →
      W p l e rm s m AV below meth c H locs 0 0 QQ (F0 m 0 ls [])) :
    Met l y (Cond.code y cc maxL ret :: lw_tg) rm (va_Pc (.ref h :: as) (mPre D E h q u sz)) Qc 0 0 free := by
  refine Met.ofW (cc := cc) (maxL := maxL) (ret := ret) hy rfl ?_
  intro p e s m args below meth c s₁ X hml hv
  obtain ⟨rfl, hsz, hP, hK, hD0, hZ, hR⟩ := hv
  have hts := atoms_spec (ws := Cond.code y cc maxL ret :: lw_tg) X.pre
  have hown : s.vm.findClass R_M = some m.cls := by rw [← hyc]; exact findClass_of_methodNamed X.named
  have hl := lv_entry (.ref h :: as) (n := maxL) hlen
  rw [lg_entry_eq]
  exact body p e s m below meth c _ _ _ _ _ rfl ⟨X.exec, X.bytes, fun w hw => hts w (List.mem_cons_of_mem _ hw), hown, hK, hR⟩ ⟨hP, ⟨hD0.1, fun k x hk => mA_in hk⟩, va_S.rf⟩ hZ (fun a ha => Or.inr (by rw [← hsz]; exact ha)) X.returns X.notSynchronized hml hl
theorem m_back (X : mX p c cc args s m D E) (Y : mH D E A H0 h q I J B G H locs) {u : mS} {t : State} {H1 : Heap} (ht : t.heap = H1) (hvm : s.vm.Alike t.vm) (hB : mPost D E h q (mA E h q H.size) u t) (hA : ∀ a, H0.size ≤ a → A a) {locs1 : List Loc} (hS : va_S A H0 H1 locs1) : mH D E A H0 h q u.1 u.2.1 u.2.2.1 u.2.2.2 H1 locs1 := by
  obtain ⟨h1, -, h3⟩ := hB
  rw [ht] at h1
  exact ⟨h1, h3.weaken (fun k x hk hx => mA_sub Y.2.1 (fun a ha => hA a (Nat.le_trans Y.2.2.1 ha)) x.1 hx), hS⟩
theorem m_blind {as : List Value} {u : mS} {sz : Nat} : FrameBlind (va_Pc as (mPre D E h q u sz)) := fun a U g mk x => by
  obtain ⟨x0, x1, xP, xK, xD, xZ, xR⟩ := x
  exact ⟨x0, x1, xP, va_K.moved (u := U) (U := U.calling g mk a) (Vm.Alike.refl U.vm) xK, xD, zS_moved (u := U) (Vm.Alike.refl U.vm) xZ, fun i hi => vk_R.same (u := U) rfl (xR i hi)⟩
variable {cells slots : Nat}
theorem m_run {y : MethodName} {bytes : ByteArray} {maxL nL n ix f L : Nat} {ret : Option FieldType} {As : List Value} {Qc : Array Value → State → Outcome → State → Prop} (X : mX p c cc args s m D E) (Y : mH D E A H0 h q I J B G H locs) (hZ : zS D.2.1 D.2.2.1 D.2.2.2 A s H0) (hA : ∀ a, H0.size ≤ a → A a) (hml : c.maxLocals = nL) (hsz : ls.size = nL) (hM : Met l y (Cond.code y bytes maxL ret :: lw_tg) (mR f L) (va_Pc (.ref h :: As) (mPre D E h q (I, J, B, G) H.size)) Qc 0 0 (mA E h q H.size))
    (a1 : Cond.methodLink R_M ix y ∈ lw_tg) (a2 : Cond.instanceMethod y ∈ lw_tg) (a3 : Cond.selects R_M y y ∈ lw_tg) (a4 : Cond.code y bytes maxL ret ∈ lw_tg) (a5 : Cond.initialized R_M ∈ lw_tg) (hd : y.cls = R_M ∧ y.cls ≠ "java/lang/invoke/MethodHandle" ∧ y.cls ≠ "java/lang/invoke/VarHandle" ∧ (parseMethodDescriptor y.desc).map (fun d => d.parameters.length) = some n) (hR : f + 1 ≤ R.frames ∧ 8 + (maxL + 11) + L ≤ R.locals) (hn : As.length = n) (hw : (rest.map fun v => v.category).sum ≤ 8) (hdg : decode cc pc = .ok (.invokevirtual ix, 3)) (hf : cells ≤ R.cells ∧ slots ≤ R.slots) :
    va_Run p l e R s m args below meth c H locs cells slots 0 0 (F0 m pc ls (As.reverse ++ .ref h :: rest)) rest (Qc (Value.ref h :: As).toArray) (mA E h q H.size) :=
  va_runV (As := As) (rest := rest) ⟨X.1, X.2.1, hml, X.2.2.2.1, X.2.2.1⟩ hM (cwV n X.2.2.1 (gd_V a1 a2 a3 a5 a4) rfl rfl rfl hd hR) ⟨m_blind, va_recv X.2.2.2.2.1 Y.1 (ci := 0) (q0 := 0) rfl rfl, fun U hU hW => ⟨rfl, by rw [hU], by rw [hU]; exact Y.1, va_K.moved hW.alike X.2.2.2.2.1, Y.2.1.weaken (fun _ _ _ _ => trivial), by rw [hU]; exact zS_narrow (zS_kept (zS_moved hW.alike hZ) Y.2.2.2.1) (mA_sub Y.2.1 (fun a ha => hA a (Nat.le_trans Y.2.2.1 ha))), fun i hi => vk_R.warm hW (X.2.2.2.2.2 i hi)⟩⟩ rfl hn hsz rfl (lv_room hw) hdg hf
theorem m_callv {y : MethodName} {bytes : ByteArray} {maxL nL n ix f L : Nat} {ret : Option FieldType} {As : List Value} {post : mS → Prop} (X : mX p c cc args s m D E) (Y : mH D E A H0 h q I J B G H locs) (hZ : zS D.2.1 D.2.2.1 D.2.2.2 A s H0) (hA : ∀ a, H0.size ≤ a → A a) (hml : c.maxLocals = nL) (hsz : ls.size = nL) (hM : Met l y (Cond.code y bytes maxL ret :: lw_tg) (mR f L) (va_Pc (.ref h :: As) (mPre D E h q (I, J, B, G) H.size)) (va_Qv post (mPost D E h q (mA E h q H.size)) (mA E h q H.size)) 0 0 (mA E h q H.size))
    (a1 : Cond.methodLink R_M ix y ∈ lw_tg) (a2 : Cond.instanceMethod y ∈ lw_tg) (a3 : Cond.selects R_M y y ∈ lw_tg) (a4 : Cond.code y bytes maxL ret ∈ lw_tg) (a5 : Cond.initialized R_M ∈ lw_tg) (hd : y.cls = R_M ∧ y.cls ≠ "java/lang/invoke/MethodHandle" ∧ y.cls ≠ "java/lang/invoke/VarHandle" ∧ (parseMethodDescriptor y.desc).map (fun d => d.parameters.length) = some n) (hR : f + 1 ≤ R.frames ∧ 8 + (maxL + 11) + L ≤ R.locals) (hn : As.length = n) (hw : (rest.map fun v => v.category).sum ≤ 8) (hdg : decode cc pc = .ok (.invokevirtual ix, 3)) (hf : cells ≤ R.cells ∧ slots ≤ R.slots)
    (kk : ∀ (u : mS) (H1 : Heap) (locs1 : List Loc), post u → mH D E A H0 h q u.1 u.2.1 u.2.2.1 u.2.2.2 H1 locs1 → W p l e R s m args below meth c H1 locs1 cells slots Q (F0 m (pc + 3) ls rest)) : W p l e R s m args below meth c H locs cells slots Q (F0 m pc ls (As.reverse ++ .ref h :: rest)) :=
  va_callv (m_run X Y hZ hA hml hsz hM a1 a2 a3 a4 a5 hd hR hn hw hdg hf) Y.2.2 (fun a _ ha => mA_sub Y.2.1 (fun a ha => hA a (Nat.le_trans Y.2.2.1 ha)) a ha) (mA_sub Y.2.1 (fun a ha => hA a (Nat.le_trans Y.2.2.1 ha))) (fun u t H1 locs1 ht hvm hp hB _ _ hS => kk u H1 locs1 hp (m_back X Y ht hvm hB hA hS))
theorem m_calli {y : MethodName} {bytes : ByteArray} {maxL nL n ix f L : Nat} {ret : Option FieldType} {As : List Value} {post : Int32 → mS → Prop} (X : mX p c cc args s m D E) (Y : mH D E A H0 h q I J B G H locs) (hZ : zS D.2.1 D.2.2.1 D.2.2.2 A s H0) (hA : ∀ a, H0.size ≤ a → A a) (hml : c.maxLocals = nL) (hsz : ls.size = nL) (hM : Met l y (Cond.code y bytes maxL ret :: lw_tg) (mR f L) (va_Pc (.ref h :: As) (mPre D E h q (I, J, B, G) H.size)) (va_Qi post (mPost D E h q (mA E h q H.size)) (mA E h q H.size)) 0 0 (mA E h q H.size))
    (a1 : Cond.methodLink R_M ix y ∈ lw_tg) (a2 : Cond.instanceMethod y ∈ lw_tg) (a3 : Cond.selects R_M y y ∈ lw_tg) (a4 : Cond.code y bytes maxL ret ∈ lw_tg) (a5 : Cond.initialized R_M ∈ lw_tg) (hd : y.cls = R_M ∧ y.cls ≠ "java/lang/invoke/MethodHandle" ∧ y.cls ≠ "java/lang/invoke/VarHandle" ∧ (parseMethodDescriptor y.desc).map (fun d => d.parameters.length) = some n) (hR : f + 1 ≤ R.frames ∧ 8 + (maxL + 11) + L ≤ R.locals) (hn : As.length = n) (hw : (rest.map fun v => v.category).sum ≤ 8) (hdg : decode cc pc = .ok (.invokevirtual ix, 3)) (hf : cells ≤ R.cells ∧ slots ≤ R.slots)
    (kk : ∀ (r : Int32) (u : mS) (H1 : Heap) (locs1 : List Loc), post r u → mH D E A H0 h q u.1 u.2.1 u.2.2.1 u.2.2.2 H1 locs1 → W p l e R s m args below meth c H1 locs1 cells slots Q (F0 m (pc + 3) ls (.int r :: rest))) : W p l e R s m args below meth c H locs cells slots Q (F0 m pc ls (As.reverse ++ .ref h :: rest)) :=
  va_calli (m_run X Y hZ hA hml hsz hM a1 a2 a3 a4 a5 hd hR hn hw hdg hf) Y.2.2 (fun a _ ha => mA_sub Y.2.1 (fun a ha => hA a (Nat.le_trans Y.2.2.1 ha)) a ha) (mA_sub Y.2.1 (fun a ha => hA a (Nat.le_trans Y.2.2.1 ha))) (fun r u t H1 locs1 ht hvm hp hB _ _ hS => kk r u H1 locs1 hp (m_back X Y ht hvm hB hA hS))
/-- a static method that reads and writes no cell -/
theorem p_calli {y : MethodName} {bytes : ByteArray} {maxL nL n ix f L : Nat} {ret : Option FieldType} {As : List Value} {post : Int32 → Unit → Prop} (X : mX p c cc args s m D E) (Y : mH D E A H0 h q I J B G H locs) (hml : c.maxLocals = nL) (hsz : ls.size = nL) (hM : Met l y (Cond.code y bytes maxL ret :: lw_tg) (mR f L) (va_Pc As pPre) (va_Qi post (fun _ _ => True) (fun _ => False)) 0 0 (fun _ => False))
    (a1 : Cond.methodLink R_M ix y ∈ lw_tg) (a2 : Cond.static y ∈ lw_tg) (a4 : Cond.code y bytes maxL ret ∈ lw_tg) (a5 : Cond.initialized R_M ∈ lw_tg) (hd : y.cls = R_M ∧ y.cls ≠ "java/lang/invoke/MethodHandle" ∧ y.cls ≠ "java/lang/invoke/VarHandle" ∧ (parseMethodDescriptor y.desc).map (fun d => d.parameters.length) = some n) (hR : f + 1 ≤ R.frames ∧ 8 + (maxL + 11) + L ≤ R.locals) (hn : As.length = n) (hw : (rest.map fun v => v.category).sum ≤ 8) (hdg : decode cc pc = .ok (.invokestatic ix, 3)) (hf : cells ≤ R.cells ∧ slots ≤ R.slots)
    (kk : ∀ (r : Int32) (H1 : Heap) (locs1 : List Loc), post r () → mH D E A H0 h q I J B G H1 locs1 → W p l e R s m args below meth c H1 locs1 cells slots Q (F0 m (pc + 3) ls (.int r :: rest))) : W p l e R s m args below meth c H locs cells slots Q (F0 m pc ls (As.reverse ++ rest)) :=
  va_calli (va_runS (As := As) (rest := rest) ⟨X.1, X.2.1, hml, X.2.2.2.1, X.2.2.1⟩ hM (cwS n X.2.2.1 (gd_S a1 a2 a5 a4) rfl rfl rfl hd hR) ⟨fun _ _ _ _ x => ⟨x.1, trivial⟩, fun U hU hW => ⟨rfl, trivial⟩⟩ rfl hn hsz rfl (lv_room hw) hdg hf) Y.2.2 (fun _ _ hh => hh.elim) (fun _ hh => hh.elim) (fun r u t H1 locs1 ht hvm hp hB hz hk hS => kk r H1 locs1 hp ⟨fun k x hkx => (Y.1 k x hkx).kept (hk x.1 (Y.1 k x hkx).lt id), Y.2.1, hS⟩)
end MCALLS
/-- what a walk of a static method without a world keeps -/
def pX (p : Program) (c : Code) (cc : ByteArray) (args : Array Value) (s : State) (m : MethodId) : Prop := p.tables.exec = Jvm.exec ∧ c.code = cc ∧ (∀ w ∈ lw_tg, w.before args s = true) ∧ s.vm.findClass R_M = some m.cls
theorem p_enter {l : Launch} {cc : ByteArray} {y : MethodName} {maxL : Nat} {ret : Option FieldType} {rm : Room} {as : List Value} {Qc : Array Value → State → Outcome → State → Prop} {free : Addr → Prop} (hy : plainName y.cls = true) (hyc : y.cls = R_M) (hlen : (lg_sl as).length ≤ maxL)
    (body : ∀ (p : Program) (e : Env) (s : State) (m : MethodId) (below : List Frame) (meth : Method) (c : Code) (ls : Array Slot) (AV : Array Value) (QQ : State → Prop) (H : Heap) (locs : List Loc), QQ = MQ below Qc AV s 0 0 free → va_S (fun _ => False) s.heap H locs → pX p c cc AV s m → meth.sig.returnType = ret → meth.locks = false → c.maxLocals = maxL → lv_has ls maxL (lv_args 0 as) →
      W p l e rm s m AV below meth c H locs 0 0 QQ (F0 m 0 ls [])) :
    Met l y (Cond.code y cc maxL ret :: lw_tg) rm (va_Pc as pPre) Qc 0 0 free := by
  refine Met.ofW (cc := cc) (maxL := maxL) (ret := ret) hy rfl ?_
  intro p e s m args below meth c s₁ X hml hv
  obtain ⟨rfl, -⟩ := hv
  have hts := atoms_spec (ws := Cond.code y cc maxL ret :: lw_tg) X.pre
  have hown : s.vm.findClass R_M = some m.cls := by rw [← hyc]; exact findClass_of_methodNamed X.named
  have hl := lv_entry as (n := maxL) hlen
  rw [lg_entry_eq]
  exact body p e s m below meth c _ _ _ _ _ rfl va_S.rf ⟨X.exec, X.bytes, fun w hw => hts w (List.mem_cons_of_mem _ hw), hown⟩ X.returns X.notSynchronized hml hl
theorem ini_M : Cond.initialized R_M ∈ lw_tg := in_t 19 (by decide +kernel)
section MRETS
variable {p : Program} {l : Launch} {e : Env} {R : Room} {s : State} {m : MethodId} {below : List Frame} {meth : Method} {c : Code} {H : Heap} {locs : List Loc} {cc : ByteArray} {pc : Nat} {ls : Array Slot} {rest : List Value} {D : mD} {E : mE} {A : Nat → Prop} {h : Nat} {q : Nat → Nat} {I : Nat → Int32} {J : Nat → Int64} {B : Nat → Nat → Int32} {G : Nat → Nat → Int64} {AV : Array Value} {QQ : State → Prop}
theorem m_retv {post : mS → Prop} (hQ : QQ = MQ below (va_Qv post (mPost D E h q A) A) AV s 0 0 A) (X : mX p c cc AV s m D E) (Y : mH D E A s.heap h q I J B G H locs) (hr : meth.sig.returnType = none) (hlk : meth.locks = false) (hp : post (I, J, B, G)) (hdg : decode cc pc = .ok (.return_, 1)) : W p l e R s m AV below meth c H locs 0 0 QQ (F0 m pc ls []) := by
  rw [hQ]
  exact W.vret X.1 X.2.1 hr (fun t ht hW => ⟨⟨(I, J, B, G), rfl, hp, by rw [ht]; exact Y.1, va_K.moved hW.alike X.2.2.2.2.1, Y.2.1⟩, Y.2.2.F ht⟩) Y.2.2.2.2 hdg
theorem m_reti {post : Int32 → mS → Prop} {x : Int32} (hQ : QQ = MQ below (va_Qi post (mPost D E h q A) A) AV s 0 0 A) (X : mX p c cc AV s m D E) (Y : mH D E A s.heap h q I J B G H locs) (hr : meth.sig.returnType = some .int) (hlk : meth.locks = false) (hp : post x (I, J, B, G)) (hdg : decode cc pc = .ok (.ireturn, 1)) : W p l e R s m AV below meth c H locs 0 0 QQ (F0 m pc ls [.int x]) := by
  rw [hQ]
  exact W.iret X.1 X.2.1 hr (fun t ht hW => ⟨⟨x, (I, J, B, G), rfl, hp, by rw [ht]; exact Y.1, va_K.moved hW.alike X.2.2.2.2.1, Y.2.1⟩, Y.2.2.F ht⟩) Y.2.2.2.2 hdg
theorem m_retz {post : Int32 → mS → Prop} {x : Int32} (hQ : QQ = MQ below (va_Qi post (mPost D E h q A) A) AV s 0 0 A) (X : mX p c cc AV s m D E) (Y : mH D E A s.heap h q I J B G H locs) (hr : meth.sig.returnType = some .boolean) (hlk : meth.locks = false) (hn : narrow .boolean (.int x) = .int x) (hp : post x (I, J, B, G)) (hdg : decode cc pc = .ok (.ireturn, 1)) : W p l e R s m AV below meth c H locs 0 0 QQ (F0 m pc ls [.int x]) := by
  rw [hQ]
  exact W.zret X.1 X.2.1 hr hn (fun t ht hW => ⟨⟨x, (I, J, B, G), rfl, hp, by rw [ht]; exact Y.1, va_K.moved hW.alike X.2.2.2.2.1, Y.2.1⟩, Y.2.2.F ht⟩) Y.2.2.2.2 hdg
theorem p_reti {post : Int32 → Unit → Prop} {x : Int32} (hQ : QQ = MQ below (va_Qi post (fun _ _ => True) (fun _ => False)) AV s 0 0 (fun _ => False)) (hS : va_S (fun _ => False) s.heap H locs) (X : pX p c cc AV s m) (hr : meth.sig.returnType = some .int) (hlk : meth.locks = false) (hp : post x ()) (hdg : decode cc pc = .ok (.ireturn, 1)) : W p l e R s m AV below meth c H locs 0 0 QQ (F0 m pc ls [.int x]) := by
  rw [hQ]
  exact W.iret X.1 X.2.1 hr (fun t ht hW => ⟨⟨x, (), rfl, hp, trivial⟩, hS.F ht⟩) hS.2.2 hdg
/-- a static method without a world calls another one -/
theorem pp_calli {y : MethodName} {bytes : ByteArray} {maxL nL n ix f L : Nat} {ret : Option FieldType} {As : List Value} {post : Int32 → Unit → Prop} {Q : State → Prop} (hS : va_S (fun _ => False) s.heap H locs) (X : pX p c cc AV s m) (hml : c.maxLocals = nL) (hsz : ls.size = nL) (hM : Met l y (Cond.code y bytes maxL ret :: lw_tg) (mR f L) (va_Pc As pPre) (va_Qi post (fun _ _ => True) (fun _ => False)) 0 0 (fun _ => False))
    (a1 : Cond.methodLink R_M ix y ∈ lw_tg) (a2 : Cond.static y ∈ lw_tg) (a4 : Cond.code y bytes maxL ret ∈ lw_tg) (a5 : Cond.initialized R_M ∈ lw_tg) (hd : y.cls = R_M ∧ y.cls ≠ "java/lang/invoke/MethodHandle" ∧ y.cls ≠ "java/lang/invoke/VarHandle" ∧ (parseMethodDescriptor y.desc).map (fun d => d.parameters.length) = some n) (hR : f + 1 ≤ R.frames ∧ 8 + (maxL + 11) + L ≤ R.locals) (hn : As.length = n) (hw : (rest.map fun v => v.category).sum ≤ 8) (hdg : decode cc pc = .ok (.invokestatic ix, 3))
    (kk : ∀ (r : Int32) (H1 : Heap) (locs1 : List Loc), post r () → va_S (fun _ => False) s.heap H1 locs1 → W p l e R s m AV below meth c H1 locs1 0 0 Q (F0 m (pc + 3) ls (.int r :: rest))) : W p l e R s m AV below meth c H locs 0 0 Q (F0 m pc ls (As.reverse ++ rest)) :=
  va_calli (va_runS (As := As) (rest := rest) ⟨X.1, X.2.1, hml, X.2.2.2, X.2.2.1⟩ hM (cwS n X.2.2.1 (gd_S a1 a2 a5 a4) rfl rfl rfl hd hR) ⟨fun _ _ _ _ x => ⟨x.1, trivial⟩, fun U hU hW => ⟨rfl, trivial⟩⟩ rfl hn hsz rfl (lv_room hw) hdg ⟨Nat.zero_le _, Nat.zero_le _⟩) hS (fun _ _ hh => hh.elim) (fun _ hh => hh.elim) (fun r u t H1 locs1 ht hvm hp hB hz hk hS => kk r H1 locs1 hp hS)
end MRETS
section TOPL
variable {p : Program} {l : Launch} {e : Env} {R : Room} {s : State} {m : MethodId} {args : Array Value} {below : List Frame} {meth : Method} {c : Code} {H : Heap} {locs : List Loc} {cells slots : Nat} {Q : State → Prop} {pc : Nat} {ls : Array Slot} {rest : List Value}
theorem t_anyl {x : Int64} (kk : ∀ y : Int64, W p l e R s m args below meth c H locs cells slots Q (F0 m pc ls (.long y :: rest))) : W p l e R s m args below meth c H locs cells slots Q (F0 m pc ls (.long x :: rest)) := kk x
end TOPL
/-! Bytes: numbers below 256. -/
theorem nb_xor (a b : Nat) : nI a ^^^ nI b = nI (a ^^^ b) := by
  apply Int32.toBitVec_inj.1
  show BitVec.ofNat 32 a ^^^ BitVec.ofNat 32 b = BitVec.ofNat 32 (a ^^^ b)
  apply BitVec.eq_of_getLsbD_eq
  intro i hi
  simp [hi]
theorem nb_or (a b : Nat) : nI a ||| nI b = nI (a ||| b) := by
  apply Int32.toBitVec_inj.1
  show BitVec.ofNat 32 a ||| BitVec.ofNat 32 b = BitVec.ofNat 32 (a ||| b)
  apply BitVec.eq_of_getLsbD_eq
  intro i hi
  simp [hi]
theorem by_ixor {a b : Nat} (ha : a < 256) (hb : b < 256) : ∃ c, c < 256 ∧ nI a ^^^ nI b = nI c := ⟨_, Nat.xor_lt_two_pow (n := 8) ha hb, nb_xor a b⟩
theorem by_ior {a b : Nat} (ha : a < 256) (hb : b < 256) : ∃ c, c < 256 ∧ nI a ||| nI b = nI c := ⟨_, Nat.or_lt_two_pow (n := 8) ha hb, nb_or a b⟩
theorem by_bit : ∀ i, i < 8 → ∀ c, c < 2 → ∃ t, t < 256 ∧ nI c <<< (nI i &&& 31) = nI t := by
  intro i hi c hc
  refine ⟨c * 2 ^ i, ?_, ?_⟩
  · have h1 : 2 ^ i ≤ 2 ^ 7 := Nat.pow_le_pow_right (by decide) (by omega)
    rcases (show c = 0 ∨ c = 1 by omega) with rfl | rfl <;> omega
  · have h2 : ∀ k, k < 8 → ∀ d, d < 2 → nI d <<< (nI k &&& 31) = nI (d * 2 ^ k) := by decide +kernel
    exact h2 i hi c hc
/-- an array of bytes: each place holds a number below 256 -/
def by8 (f : Nat → Int32) : Prop := ∀ j, ∃ n, n < 256 ∧ f j = nI n
theorem by8_upd {f : Nat → Int32} {k n : Nat} (h : by8 f) (hn : n < 256) : by8 (upd f k (nI n)) := by
  intro j
  by_cases hj : j = k
  · exact ⟨n, hn, if_pos hj⟩
  · obtain ⟨x, hx, e⟩ := h j
    exact ⟨x, hx, (if_neg hj).trans e⟩
theorem by8_eq {f g : Nat → Int32} (h : g = f) (hf : by8 f) : by8 g := h ▸ hf
theorem by_us24 (x : Int32) : ∃ j, j < 256 ∧ (x.toUInt32 >>> ((nI 24).toUInt32 &&& Int32.toUInt32 31)).toInt32 = nI j := by
  refine ⟨x.toBitVec.toNat / 2 ^ 24, ?_, ?_⟩
  · have := x.toBitVec.isLt
    omega
  · apply Int32.toBitVec_inj.1
    apply BitVec.eq_of_toNat_eq
    have := x.toBitVec.isLt
    rw [pk_ushr x (nI 24) 24 (by decide), pk_tn (by omega)]
theorem n_subadd {a t c : Nat} (h : t ≤ a + c) : nI a - nI t + nI c = nI (a + c - t) := by
  rw [Int32.sub_eq_add_neg, Int32.add_assoc, Int32.add_comm (-nI t), ← Int32.add_assoc, ← Int32.sub_eq_add_neg, nI_add, pk_sub h]
