/-! More rows of numbers: shifts, or. -/
theorem iI_shl1 : ∀ b, b < 2 → ∀ i, i < 8 → (nI b <<< (nI i &&& 31)).toBitVec.toNat < 256 := by decide +kernel
section RINTS
variable {p : Program} {l : Launch} {e : Env} {R : Room} {s : State} {m : MethodId} {args : Array Value} {below : List Frame} {meth : Method} {c : Code} {H : Heap} {locs : List Loc} {cells slots : Nat} {Q : State → Prop} {cc : ByteArray} {pc : Nat} {ls : Array Slot} {rest : List Value}
/-- a shift to the right of a number that is not below zero -/
theorem z_ishr (k : Nat) (dv : Int) (hexec : p.tables.exec = Jvm.exec) (hb : c.code = cc) {a kz : Int} (h0 : 0 ≤ a) (h1 : a ≤ 2147483647) (hk : ((iI kz &&& 31).toBitVec.smod 32).toNat = k) (hdv : ((2 ^ k : Nat) : Int) = dv) (hdg : decode cc pc = .ok (.ishr, 1)) (kk : W p l e R s m args below meth c H locs cells slots Q (F0 m (pc + 1) ls (.int (iI (a / dv)) :: rest))) : W p l e R s m args below meth c H locs cells slots Q (F0 m pc ls (.int (iI kz) :: .int (iI a) :: rest)) := by
  refine lv_ishr hexec hb hdg (t_eq ?_ kk)
  obtain ⟨n, rfl⟩ := Int.eq_ofNat_of_zero_le h0
  subst hdv
  have h2 : n / 2 ^ k ≤ n := Nat.div_le_self _ _
  have h3 : (n : Int) / ((2 ^ k : Nat) : Int) = ((n / 2 ^ k : Nat) : Int) := rfl
  rw [h3, iI_cast (by omega), iI_cast (by omega)]
  exact pk_shrN (by omega) _ k hk
theorem z_ior (hexec : p.tables.exec = Jvm.exec) (hb : c.code = cc) {a b : Int} (ha : 0 ≤ a ∧ a ≤ 255) (hb2 : 0 ≤ b ∧ b ≤ 255) (hdg : decode cc pc = .ok (.ior, 1)) (kk : ∀ z : Int, 0 ≤ z → z ≤ 255 → W p l e R s m args below meth c H locs cells slots Q (F0 m (pc + 1) ls (.int (iI z) :: rest))) : W p l e R s m args below meth c H locs cells slots Q (F0 m pc ls (.int (iI b) :: .int (iI a) :: rest)) := by
  refine lv_ior hexec hb hdg ?_
  have h : (iI a ||| iI b).toBitVec.toNat < 2 ^ 8 := by
    rw [iI_nat ha.1 (by omega), iI_nat hb2.1 (by omega), Int32.toBitVec_or, BitVec.toNat_or, pk_tn (by omega), pk_tn (by omega)]
    exact Nat.or_lt_two_pow (by omega) (by omega)
  exact t_eq ((nI_bv (by omega)).trans (iI_cast (by omega)).symm) (kk ((iI a ||| iI b).toBitVec.toNat : Int) (by omega) (by omega))
theorem z_ishl1 (hexec : p.tables.exec = Jvm.exec) (hb : c.code = cc) {a b : Int} (ha : 0 ≤ a ∧ a ≤ 1) (hb2 : 0 ≤ b ∧ b ≤ 7) (hdg : decode cc pc = .ok (.ishl, 1)) (kk : ∀ z : Int, 0 ≤ z → z ≤ 255 → W p l e R s m args below meth c H locs cells slots Q (F0 m (pc + 1) ls (.int (iI z) :: rest))) : W p l e R s m args below meth c H locs cells slots Q (F0 m pc ls (.int (iI b) :: .int (iI a) :: rest)) := by
  refine lv_ishl hexec hb hdg ?_
  have h : (iI a <<< (iI b &&& 31)).toBitVec.toNat < 256 := by
    rw [iI_nat ha.1 (by omega), iI_nat hb2.1 (by omega)]
    exact iI_shl1 _ (by omega) _ (by omega)
  exact t_eq ((nI_bv (by omega)).trans (iI_cast (by omega)).symm) (kk ((iI a <<< (iI b &&& 31)).toBitVec.toNat : Int) (by omega) (by omega))
theorem z_us24 (hexec : p.tables.exec = Jvm.exec) (hb : c.code = cc) {x : Int32} (hdg : decode cc pc = .ok (.iushr, 1)) (kk : ∀ z : Int, 0 ≤ z → z ≤ 255 → W p l e R s m args below meth c H locs cells slots Q (F0 m (pc + 1) ls (.int (iI z) :: rest))) : W p l e R s m args below meth c H locs cells slots Q (F0 m pc ls (.int (iI 24) :: .int x :: rest)) := by
  obtain ⟨j, hj, e1⟩ := by_us24 x
  exact lv_iushr hexec hb hdg (e1.trans (iI_cast (by omega)).symm) (kk (j : Int) (by omega) (by omega))
end RINTS
