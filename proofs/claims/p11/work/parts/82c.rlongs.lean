/-! Longs by their integers. -/
theorem l_rng (x : Int64) : -9223372036854775808 ≤ x.toInt ∧ x.toInt ≤ 9223372036854775807 := ⟨Int64.le_toInt x, Int.le_of_lt_add_one (Int64.toInt_lt x)⟩
section RLONGS
variable {p : Program} {l : Launch} {e : Env} {R : Room} {s : State} {m : MethodId} {args : Array Value} {below : List Frame} {meth : Method} {c : Code} {H : Heap} {locs : List Loc} {cells slots : Nat} {Q : State → Prop} {cc : ByteArray} {pc : Nat} {ls : Array Slot} {rest : List Value}
theorem z_lshr8 (hexec : p.tables.exec = Jvm.exec) (hb : c.code = cc) {x : Int64} (hdg : decode cc pc = .ok (.lshr, 1)) (kk : ∀ v : Int64, v.toInt = x.toInt / 256 → W p l e R s m args below meth c H locs cells slots Q (F0 m (pc + 1) ls (.long v :: rest))) : W p l e R s m args below meth c H locs cells slots Q (F0 m pc ls (.int (iI 8) :: .long x :: rest)) := by
  refine lv_lshr hexec hb hdg rfl (kk _ ?_)
  show (x.toBitVec.sshiftRight (((iI 8).toInt64 &&& 63).toBitVec.smod 64).toNat).toInt = _
  rw [show (((iI 8).toInt64 &&& 63).toBitVec.smod 64).toNat = 8 by decide +kernel, BitVec.toInt_sshiftRight, Int.shiftRight_eq_div_pow]
  rfl
theorem z_lcmp (hexec : p.tables.exec = Jvm.exec) (hb : c.code = cc) {x y : Int64} (hdg : decode cc pc = .ok (.lcmp, 1)) (kk : ∀ z : Int, -1 ≤ z → z ≤ 1 → (z = 1 ↔ y.toInt < x.toInt) → (z = -1 ↔ x.toInt < y.toInt) → W p l e R s m args below meth c H locs cells slots Q (F0 m (pc + 1) ls (.int (iI z) :: rest))) : W p l e R s m args below meth c H locs cells slots Q (F0 m pc ls (.long y :: .long x :: rest)) := by
  refine W.lcmp hexec hb hdg ?_
  by_cases h1 : y < x
  · have h2 := Int64.lt_iff_toInt_lt.mp h1
    exact t_eq (y := iI 1) (by simp [lg_cmp, h1]; decide) (kk 1 (by omega) (by omega) (by omega) (by omega))
  · have h2 : ¬ y.toInt < x.toInt := fun h => h1 (Int64.lt_iff_toInt_lt.mpr h)
    by_cases h3 : x = y
    · subst h3
      exact t_eq (y := iI 0) (by simp [lg_cmp]; decide) (kk 0 (by omega) (by omega) (by omega) (by omega))
    · have h4 : x.toInt ≠ y.toInt := fun h => h3 (Int64.toInt_inj.mp h)
      exact t_eq (y := iI (-1)) (by simp [lg_cmp, h1, h3]; decide) (kk (-1) (by omega) (by omega) (by omega) (by omega))
theorem z_l2i (hexec : p.tables.exec = Jvm.exec) (hb : c.code = cc) {x : Int64} (hdg : decode cc pc = .ok (.l2i, 1)) (kk : ∀ z : Int, -2147483648 ≤ z → z ≤ 2147483647 → (-2147483648 ≤ x.toInt → x.toInt ≤ 2147483647 → z = x.toInt) → W p l e R s m args below meth c H locs cells slots Q (F0 m (pc + 1) ls (.int (iI z) :: rest))) : W p l e R s m args below meth c H locs cells slots Q (F0 m pc ls (.long x :: rest)) := by
  have h := kk x.toInt32.toInt (iI_r _).1 (iI_r _).2 (fun h0 h1 => by rw [Int64.toInt_toInt32]; exact Int.bmod_eq_of_le (by omega) (by omega))
  rw [← iI_of] at h
  exact lv_l2i hexec hb hdg rfl h
theorem z_iand128 (hexec : p.tables.exec = Jvm.exec) (hb : c.code = cc) {a : Int} (hdg : decode cc pc = .ok (.iand, 1)) (kk : ∀ z : Int, 0 ≤ z → z ≤ 128 → (a = 0 → z = 0) → (a = -1 → z = 128) → W p l e R s m args below meth c H locs cells slots Q (F0 m (pc + 1) ls (.int (iI z) :: rest))) : W p l e R s m args below meth c H locs cells slots Q (F0 m pc ls (.int (iI 128) :: .int (iI a) :: rest)) := by
  obtain ⟨z, h2, h3, h4⟩ := iI_and (iI a) (c := 128) (by decide) (by decide)
  refine lv_iand hexec hb hdg (t_eq h4 (kk z h2 h3 (fun h => ?_) (fun h => ?_)))
  · subst h
    exact (iI_eq ⟨by omega, by omega⟩ ⟨by decide, by decide⟩).mp (h4.symm.trans (by decide))
  · subst h
    exact (iI_eq ⟨by omega, by omega⟩ ⟨by decide, by decide⟩).mp (h4.symm.trans (by decide))
end RLONGS
