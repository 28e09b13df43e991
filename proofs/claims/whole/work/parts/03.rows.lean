/-! Rows over the reference's world. -/
theorem lw_good {w : Cond} (h : w ∈ lw_tg) : (w.onTables && w.keeps) = true ∨ ∃ ty, w = .arrayClass ty := good_of_word (List.mem_filter.mp h).2
theorem gd_t {c0 c1 : Cond} (h1 : c1 ∈ lw_tg) : GoodIn (c0 :: lw_tg) (c1 :: lw_tg) := by
  intro w hw
  have h2 : w ∈ lw_tg := (List.mem_cons.mp hw).elim (fun e => e ▸ h1) id
  exact ⟨List.mem_cons_of_mem _ h2, lw_good h2⟩
theorem gd_V {own : String} {ix : Nat} {C : String} {y : MethodName} {c0 c1 : Cond} (a1 : Cond.methodLink own ix y ∈ lw_tg) (a2 : Cond.instanceMethod y ∈ lw_tg) (a3 : Cond.selects C y y ∈ lw_tg) (a4 : Cond.initialized C ∈ lw_tg) (h1 : c1 ∈ lw_tg) : GoodIn (c0 :: lw_tg) (wsV own ix C y (c1 :: lw_tg)) := by
  intro w hw
  have h2 : w ∈ lw_tg := by
    rcases List.mem_append.mp hw with h | h
    · simp only [List.mem_cons, List.not_mem_nil, or_false] at h
      rcases h with rfl | rfl | rfl | rfl <;> assumption
    · exact (List.mem_cons.mp h).elim (fun e => e ▸ h1) id
  exact ⟨List.mem_cons_of_mem _ h2, lw_good h2⟩
theorem gd_S {own : String} {ix : Nat} {y : MethodName} {c0 c1 : Cond} (a1 : Cond.methodLink own ix y ∈ lw_tg) (a2 : Cond.static y ∈ lw_tg) (a4 : Cond.initialized own ∈ lw_tg) (h1 : c1 ∈ lw_tg) : GoodIn (c0 :: lw_tg) (wsS own ix y (c1 :: lw_tg)) := by
  intro w hw
  have h2 : w ∈ lw_tg := by
    rcases List.mem_append.mp hw with h | h
    · simp only [List.mem_cons, List.not_mem_nil, or_false] at h
      rcases h with rfl | rfl | rfl <;> assumption
    · exact (List.mem_cons.mp h).elim (fun e => e ▸ h1) id
  exact ⟨List.mem_cons_of_mem _ h2, lw_good h2⟩
/-- what a walk of a method of the reference keeps: machine, code, words, owner, tables -/
def mX (p : Program) (c : Code) (cc : ByteArray) (args : Array Value) (s : State) (m : MethodId) (D : va_G) (E : ClassId × ClassId × ClassId × ClassId) : Prop := p.tables.exec = Jvm.exec ∧ c.code = cc ∧ (∀ w ∈ lw_tg, w.before args s = true) ∧ s.vm.findClass R_M = some m.cls ∧ va_K D mCl (mTy E) s
/-- its world at a heap -/
def mH (D : va_G) (E : ClassId × ClassId × ClassId × ClassId) (A : Nat → Prop) (H0 : Heap) (h : Nat) (q : Nat → Nat) (I : Nat → Int32) (J : Nat → Int64) (B : Nat → Nat → Int32) (G : Nat → Nat → Int64) (H : Heap) (locs : List Loc) : Prop := va_P D mCl (mW E h q I J B G) H ∧ va_D A (mW E h q I J B G) ∧ va_S A H0 H locs
section MROWS
variable {p : Program} {l : Launch} {e : Env} {R : Room} {s : State} {m : MethodId} {args : Array Value} {below : List Frame} {meth : Method} {c : Code} {H : Heap} {locs : List Loc} {cells slots : Nat} {Q : State → Prop} {cc : ByteArray} {pc : Nat} {ls : Array Slot} {rest : List Value} {D : va_G} {E : ClassId × ClassId × ClassId × ClassId} {A : Nat → Prop} {H0 : Heap} {h : Nat} {q : Nat → Nat} {I : Nat → Int32} {J : Nat → Int64} {B : Nat → Nat → Int32} {G : Nat → Nat → Int64}
/-- getfield -/
theorem m_get (X : mX p c cc args s m D E) (Y : mH D E A H0 h q I J B G H locs) (k : Nat) {ix : Nat} {v : Value} (hk : k < 145) (hl : Cond.fieldLink R_M ix R_M (F_M k).2.1 (F_M k).2.2.1 ∈ lw_tg) (hv : (mFs q I J)[k]? = some v) (hs : (F_M k).1 = R_M) (hdg : decode cc pc = .ok (.getfield ix, 3)) (kk : W p l e R s m args below meth c H locs cells slots Q (F0 m (pc + 3) ls (v :: rest))) : W p l e R s m args below meth c H locs cells slots Q (F0 m pc ls (.ref h :: rest)) :=
  va_get (D := D) (ci := 0) (C := R_M) (T := F_M) (N := 145) X.1 X.2.1 X.2.2.1 i_M X.2.2.2.1 X.2.2.2.2 Y.1 0 rfl rfl k hk (X.2.2.1 _ hl) (fun _ h9 => by rw [hs] at h9; exact h9) hv hdg kk
/-- putfield of an int (or boolean) -/
theorem m_puti (X : mX p c cc args s m D E) (Y : mH D E A H0 h q I J B G H locs) (k : Nat) {ix : Nat} {x : Int32} {I2 : Nat → Int32} (hk : k < 145) (hl : Cond.fieldLink R_M ix R_M (F_M k).2.1 (F_M k).2.2.1 ∈ lw_tg) (hs : (F_M k).1 = R_M) (hf : (F_M k).2.2.2 = false) {ty : FieldType} (hd : parseFieldDescriptor (F_M k).2.2.1 = some ty) (hn : narrow ty (.int x) = .int x) (hfit : fits ty (.int x) = true) (hset : (mFs q I J).set k (.int x) = mFs q I2 J) (hlen : k < (mFs q I J).length) (hdg : decode cc pc = .ok (.putfield ix, 3))
    (kk : ∀ (H1 : Heap) (locs1 : List Loc), mH D E A H0 h q I2 J B G H1 locs1 → W p l e R s m args below meth c H1 locs1 cells slots Q (F0 m (pc + 3) ls rest)) : W p l e R s m args below meth c H locs cells slots Q (F0 m pc ls (.int x :: .ref h :: rest)) := by
  refine va_put (D := D) (ci := 0) (C := R_M) (T := F_M) (N := 145) X.1 X.2.1 X.2.2.1 i_M t_M t_M_ok n_M X.2.2.2.1 X.2.2.2.2 Y.1 Y.2.1 Y.2.2 0 rfl rfl k hk (X.2.2.1 _ hl) (fun _ h9 => by rw [hs] at h9; exact h9) hf hd hn hfit hlen hdg (fun H1 locs1 hP hD hS => ?_)
  rw [hset] at hP hD
  exact kk H1 locs1 ⟨hP, hD, hS⟩
/-- putfield of a long -/
theorem m_putl (X : mX p c cc args s m D E) (Y : mH D E A H0 h q I J B G H locs) (k : Nat) {ix : Nat} {x : Int64} {J2 : Nat → Int64} (hk : k < 145) (hl : Cond.fieldLink R_M ix R_M (F_M k).2.1 (F_M k).2.2.1 ∈ lw_tg) (hs : (F_M k).1 = R_M) (hf : (F_M k).2.2.2 = false) {ty : FieldType} (hd : parseFieldDescriptor (F_M k).2.2.1 = some ty) (hn : narrow ty (.long x) = .long x) (hfit : fits ty (.long x) = true) (hset : (mFs q I J).set k (.long x) = mFs q I J2) (hlen : k < (mFs q I J).length) (hdg : decode cc pc = .ok (.putfield ix, 3))
    (kk : ∀ (H1 : Heap) (locs1 : List Loc), mH D E A H0 h q I J2 B G H1 locs1 → W p l e R s m args below meth c H1 locs1 cells slots Q (F0 m (pc + 3) ls rest)) : W p l e R s m args below meth c H locs cells slots Q (F0 m pc ls (.long x :: .ref h :: rest)) := by
  refine va_put (D := D) (ci := 0) (C := R_M) (T := F_M) (N := 145) X.1 X.2.1 X.2.2.1 i_M t_M t_M_ok n_M X.2.2.2.1 X.2.2.2.2 Y.1 Y.2.1 Y.2.2 0 rfl rfl k hk (X.2.2.1 _ hl) (fun _ h9 => by rw [hs] at h9; exact h9) hf hd hn hfit hlen hdg (fun H1 locs1 hP hD hS => ?_)
  rw [hset] at hP hD
  exact kk H1 locs1 ⟨hP, hD, hS⟩
/-- arrays: reads -/
theorem m_iald (X : mX p c cc args s m D E) (Y : mH D E A H0 h q I J B G H locs) {k n : Nat} {f : Nat → Int32} {a : Nat} {i : Int32} (ha : (mW E h q I J B G)[k]? = some (a, .inl (E.2.1, n, .inl f))) (hin : vp_in i n) (hdg : decode cc pc = .ok (.iaload, 1)) (kk : W p l e R s m args below meth c H locs cells slots Q (F0 m (pc + 1) ls (.int (f i.toNatClampNeg) :: rest))) : W p l e R s m args below meth c H locs cells slots Q (F0 m pc ls (.int i :: .ref a :: rest)) := va_iald X.1 X.2.1 X.2.2.2.2 Y.1 k 1 ha rfl hin hdg kk
theorem m_bald (X : mX p c cc args s m D E) (Y : mH D E A H0 h q I J B G H locs) {k n : Nat} {f : Nat → Int32} {a : Nat} {i : Int32} (ha : (mW E h q I J B G)[k]? = some (a, .inl (E.1, n, .inl f))) (hin : vp_in i n) (hdg : decode cc pc = .ok (.baload, 1)) (kk : W p l e R s m args below meth c H locs cells slots Q (F0 m (pc + 1) ls (.int (f i.toNatClampNeg) :: rest))) : W p l e R s m args below meth c H locs cells slots Q (F0 m pc ls (.int i :: .ref a :: rest)) := va_bald X.1 X.2.1 X.2.2.2.2 Y.1 k 0 ha rfl hin hdg kk
theorem m_zald (X : mX p c cc args s m D E) (Y : mH D E A H0 h q I J B G H locs) {k n : Nat} {f : Nat → Int32} {a : Nat} {i : Int32} (ha : (mW E h q I J B G)[k]? = some (a, .inl (E.2.2.2, n, .inl f))) (hin : vp_in i n) (hdg : decode cc pc = .ok (.baload, 1)) (kk : W p l e R s m args below meth c H locs cells slots Q (F0 m (pc + 1) ls (.int (f i.toNatClampNeg) :: rest))) : W p l e R s m args below meth c H locs cells slots Q (F0 m pc ls (.int i :: .ref a :: rest)) := va_zald X.1 X.2.1 X.2.2.2.2 Y.1 k 3 ha rfl hin hdg kk
theorem m_lald (X : mX p c cc args s m D E) (Y : mH D E A H0 h q I J B G H locs) {k n : Nat} {f : Nat → Int64} {a : Nat} {i : Int32} (ha : (mW E h q I J B G)[k]? = some (a, .inl (E.2.2.1, n, .inr (.inl f)))) (hin : vp_in i n) (hdg : decode cc pc = .ok (.laload, 1)) (kk : W p l e R s m args below meth c H locs cells slots Q (F0 m (pc + 1) ls (.long (f i.toNatClampNeg) :: rest))) : W p l e R s m args below meth c H locs cells slots Q (F0 m pc ls (.int i :: .ref a :: rest)) := va_lald X.1 X.2.1 X.2.2.2.2 Y.1 k 2 ha rfl hin hdg kk
/-- arrays: writes -/
theorem m_iast (X : mX p c cc args s m D E) (Y : mH D E A H0 h q I J B G H locs) {k n : Nat} {f : Nat → Int32} {a : Nat} {i x : Int32} {B2 : Nat → Nat → Int32} (ha : (mW E h q I J B G)[k]? = some (a, .inl (E.2.1, n, .inl f))) (hin : vp_in i n) (hset : (mW E h q I J B G).set k (a, .inl (E.2.1, n, .inl (upd f i.toNatClampNeg x))) = mW E h q I J B2 G) (hdg : decode cc pc = .ok (.iastore, 1)) (kk : ∀ (H1 : Heap) (locs1 : List Loc), mH D E A H0 h q I J B2 G H1 locs1 → W p l e R s m args below meth c H1 locs1 cells slots Q (F0 m (pc + 1) ls rest)) : W p l e R s m args below meth c H locs cells slots Q (F0 m pc ls (.int x :: .int i :: .ref a :: rest)) := by
  refine va_iast X.1 X.2.1 X.2.2.2.2 Y.1 Y.2.1 Y.2.2 k 1 ha rfl hin hdg (fun H1 locs1 hP hD hS => ?_)
  rw [hset] at hP hD
  exact kk H1 locs1 ⟨hP, hD, hS⟩
theorem m_bast (X : mX p c cc args s m D E) (Y : mH D E A H0 h q I J B G H locs) {k n : Nat} {f : Nat → Int32} {a : Nat} {i x : Int32} {B2 : Nat → Nat → Int32} (ha : (mW E h q I J B G)[k]? = some (a, .inl (E.1, n, .inl f))) (hin : vp_in i n) (hset : (mW E h q I J B G).set k (a, .inl (E.1, n, .inl (upd f i.toNatClampNeg (vp_nar .byte x)))) = mW E h q I J B2 G) (hdg : decode cc pc = .ok (.bastore, 1)) (kk : ∀ (H1 : Heap) (locs1 : List Loc), mH D E A H0 h q I J B2 G H1 locs1 → W p l e R s m args below meth c H1 locs1 cells slots Q (F0 m (pc + 1) ls rest)) : W p l e R s m args below meth c H locs cells slots Q (F0 m pc ls (.int x :: .int i :: .ref a :: rest)) := by
  refine va_bast X.1 X.2.1 X.2.2.2.2 Y.1 Y.2.1 Y.2.2 k 0 ha rfl hin hdg (fun H1 locs1 hP hD hS => ?_)
  rw [hset] at hP hD
  exact kk H1 locs1 ⟨hP, hD, hS⟩
theorem m_zast (X : mX p c cc args s m D E) (Y : mH D E A H0 h q I J B G H locs) {k n : Nat} {f : Nat → Int32} {a : Nat} {i x : Int32} {B2 : Nat → Nat → Int32} (ha : (mW E h q I J B G)[k]? = some (a, .inl (E.2.2.2, n, .inl f))) (hin : vp_in i n) (hset : (mW E h q I J B G).set k (a, .inl (E.2.2.2, n, .inl (upd f i.toNatClampNeg (vp_nar .boolean x)))) = mW E h q I J B2 G) (hdg : decode cc pc = .ok (.bastore, 1)) (kk : ∀ (H1 : Heap) (locs1 : List Loc), mH D E A H0 h q I J B2 G H1 locs1 → W p l e R s m args below meth c H1 locs1 cells slots Q (F0 m (pc + 1) ls rest)) : W p l e R s m args below meth c H locs cells slots Q (F0 m pc ls (.int x :: .int i :: .ref a :: rest)) := by
  refine va_zast X.1 X.2.1 X.2.2.2.2 Y.1 Y.2.1 Y.2.2 k 3 ha rfl hin hdg (fun H1 locs1 hP hD hS => ?_)
  rw [hset] at hP hD
  exact kk H1 locs1 ⟨hP, hD, hS⟩
theorem m_last (X : mX p c cc args s m D E) (Y : mH D E A H0 h q I J B G H locs) {k n : Nat} {f : Nat → Int64} {a : Nat} {i : Int32} {x : Int64} {G2 : Nat → Nat → Int64} (ha : (mW E h q I J B G)[k]? = some (a, .inl (E.2.2.1, n, .inr (.inl f)))) (hin : vp_in i n) (hset : (mW E h q I J B G).set k (a, .inl (E.2.2.1, n, .inr (.inl (vp_updL f i.toNatClampNeg x)))) = mW E h q I J B G2) (hdg : decode cc pc = .ok (.lastore, 1)) (kk : ∀ (H1 : Heap) (locs1 : List Loc), mH D E A H0 h q I J B G2 H1 locs1 → W p l e R s m args below meth c H1 locs1 cells slots Q (F0 m (pc + 1) ls rest)) : W p l e R s m args below meth c H locs cells slots Q (F0 m pc ls (.long x :: .int i :: .ref a :: rest)) := by
  refine va_last X.1 X.2.1 X.2.2.2.2 Y.1 Y.2.1 Y.2.2 k 2 ha rfl hin hdg (fun H1 locs1 hP hD hS => ?_)
  rw [hset] at hP hD
  exact kk H1 locs1 ⟨hP, hD, hS⟩
/-- the top of the stack under another name -/
theorem t_eq {x y : Int32} (hxy : x = y) (kk : W p l e R s m args below meth c H locs cells slots Q (F0 m pc ls (.int y :: rest))) : W p l e R s m args below meth c H locs cells slots Q (F0 m pc ls (.int x :: rest)) := hxy ▸ kk
theorem t_any {x : Int32} (kk : ∀ y : Int32, W p l e R s m args below meth c H locs cells slots Q (F0 m pc ls (.int y :: rest))) : W p l e R s m args below meth c H locs cells slots Q (F0 m pc ls (.int x :: rest)) := kk x
end MROWS
