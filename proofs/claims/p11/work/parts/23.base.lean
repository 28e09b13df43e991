/-! Bytes: one cell and its row. -/
def q_t (x : va_E) : Nat := match x with
  | .inl _ => 1000
  | .inr o => o.1
theorem q_tag {f : pF} {a b : Nat} {x y : va_E} (ea : f a = x) (eb : f b = y) (h : q_t x ≠ q_t y) : a ≠ b := fun e => h (by rw [← ea, ← eb, e])
def fB (g : Nat → Int32) : Prop := ∀ i, fits .byte (.int (g i)) = true
theorem fB_upd {g : Nat → Int32} {k : Nat} {x : Int32} (h : fB g) : fB (upd g k (vp_nar .byte x)) := fun i => by
  by_cases e : i = k
  · rw [e, pk_us]; exact pk_fb x
  · rw [pk_un e]; exact h i
theorem fB_cpy {u g : Nat → Int32} {a b n : Nat} (hu : fB u) (hg : fB g) : fB (va_cpy u g a b n) := fun i => by
  unfold va_cpy
  split
  · exact hu _
  · exact hg _
theorem le_sub {M k2 k3 : Nat} (hM : M < 2 ^ 31) (h2 : k2 < 2 ^ 31) (h3 : k3 < 2 ^ 31) (h : ¬ nI M - nI k2 < nI k3) : k2 + k3 ≤ M := by
  rw [Int32.lt_iff_toInt_lt, Int32.toInt_sub, nI_toInt hM, nI_toInt h2, nI_toInt h3] at h
  dsimp only [Int.bmod] at h
  split at h <;> omega
theorem kn_copy : Cond.native arraycopyName ∈ lw_tg := in_t 547 (by decide +kernel)
theorem ks_copy : Cond.static arraycopyName ∈ lw_tg := in_t 546 (by decide +kernel)
theorem ini_Sys : Cond.initialized "java/lang/System" ∈ lw_tg := in_t 17 (by decide +kernel)
section QCOPY
variable {p : Program} {l : Launch} {e : Env} {R : Room} {s : State} {m : MethodId} {args : Array Value} {below : List Frame} {meth : Method} {c : Code} {H : Heap} {locs : List Loc} {cells slots : Nat} {Q : State → Prop} {cc : ByteArray} {pc : Nat} {ls : Array Slot} {rest : List Value} {D : va_G} {cl : List vw_C} {tys : List (ClassId × FieldType)} {A : Nat → Prop} {H0 : Heap} {L : List Nat} {f : pF} {a a0 : Nat}
theorem q_copy (hexec : p.tables.exec = Jvm.exec) (hb : c.code = cc) (hml : c.maxLocals = ls.size) {own : String} {index : Nat} (hown : s.vm.findClass own = some m.cls) (hlink : (Cond.methodLink own index arraycopyName).before args s = true) (hnat : (Cond.native arraycopyName).before args s = true) (hstat : (Cond.static arraycopyName).before args s = true) (hini : (Cond.initialized "java/lang/System").before args s = true) (hK : va_K D cl tys s) (Y : pH D cl A H0 L f H locs) (t0 : Nat) {c0 : ClassId} {n0 n1 k1 k2 k3 : Nat} {u g : Nat → Int32} {ty : FieldType} (ha0 : a0 ∈ L) (e0 : f a0 = .inl (c0, n0, .inl u)) (ha : a ∈ L) (ea : f a = .inl (c0, n1, .inl g)) (ht : tys[t0]? = some (c0, ty)) (hprim : refKind ty = false) (b1 : k2 + k3 ≤ n0) (b2 : k1 + k3 ≤ n1) (hn0 : n0 < 2 ^ 31) (hn1 : n1 < 2 ^ 31) (hfit : ∀ i, fits ty (.int (u i)) = true) (hframes : 1 ≤ R.frames) (hlocals : (rest.map fun v => v.category).sum + (nativeFrameWords "java/lang/System" "arraycopy" 5 + 11) ≤ R.locals) (hdg : decode cc pc = .ok (.invokestatic index, 3))
    (kk : ∀ (H1 : Heap) (locs1 : List Loc), pH D cl A H0 L (va_up f a (.inl (c0, n1, .inl (va_cpy u g k2 k1 k3)))) H1 locs1 → W p l e R s m args below meth c H1 locs1 cells slots Q (F0 m (pc + 3) ls rest)) : W p l e R s m args below meth c H locs cells slots Q (F0 m pc ls (.int (nI k3) :: .int (nI k1) :: .ref a :: .int (nI k2) :: .ref a0 :: rest)) := by
  obtain ⟨j0, hj0⟩ := q_at (f := f) ha0
  obtain ⟨j, hj⟩ := q_at (f := f) ha
  have hj2 := hj
  rw [e0] at hj0
  rw [ea] at hj2
  refine va_copyi hexec hb hml hown hlink hnat hstat hini hK Y.1 Y.2.1 Y.2.2 j0 j t0 t0 hj0 hj2 ht ht hprim (nI_pos (by omega)) (nI_pos (by omega)) (nI_pos (by omega)) (by rw [nI_clamp (by omega), nI_clamp (by omega)]; exact b1) (by rw [nI_clamp (by omega), nI_clamp (by omega)]; exact b2) (fun i _ => hfit _) hframes hlocals hdg (fun H1 locs1 hP hD hS => ?_)
  rw [nI_clamp (by omega), nI_clamp (by omega), nI_clamp (by omega), q_set Y.2.1 ha hj] at hP hD
  exact kk H1 locs1 ⟨hP, hD, hS⟩
end QCOPY
theorem o_inst : Cond.instanceMethod objectInit ∈ lw_tg := in_t 26 (by decide +kernel)
theorem o_code : Cond.code objectInit ⟨#[0xb1]⟩ 1 none ∈ lw_tg := in_t 27 (by decide +kernel)
theorem ra_byte (U : State) (x : ClassId) (h : va_RA U x .byte) : U.vm.findClass ("[" ++ FieldType.toString .byte) = some x := h
theorem vz_byte (cA : ClassId) (N : Nat) : vp_cell cA (N, .inl (fun _ => 0)) = arrV cA N (fun _ => defaultValue .byte) := rfl
theorem ar_byte : Cond.arrayClass .byte ∈ lw_tg := in_t 63 (by decide +kernel)
theorem ra_int (U : State) (x : ClassId) (h : va_RA U x .int) : U.vm.findClass ("[" ++ FieldType.toString .int) = some x := h
theorem vz_int (cA : ClassId) (N : Nat) : vp_cell cA (N, .inl (fun _ => 0)) = arrV cA N (fun _ => defaultValue .int) := rfl
theorem ar_int : Cond.arrayClass .int ∈ lw_tg := in_t 96 (by decide +kernel)
theorem ne_mem {L : List Nat} {q b : Nat} (hq : q ∉ L) (hb : b ∈ L) : b ≠ q := fun e => hq (e ▸ hb)
theorem fB_0 : fB (fun _ => 0) := fun _ => (by decide : fits .byte (.int 0) = true)
