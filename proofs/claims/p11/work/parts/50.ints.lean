/-! Numbers as integers. -/
def iI (z : Int) : Int32 := Int32.ofInt z
theorem iI_add (a b : Int) : iI a + iI b = iI (a + b) := (Int32.ofInt_add a b).symm
theorem iI_sub (a b : Int) : iI a - iI b = iI (a - b) := (Int32.ofInt_sub a b).symm
theorem iI_mul (a b : Int) : iI a * iI b = iI (a * b) := (Int32.ofInt_mul a b).symm
theorem iI_neg (a : Int) : - iI a = iI (- a) := (Int32.ofInt_neg a).symm
def iR (z : Int) : Prop := -2147483648 ≤ z ∧ z ≤ 2147483647
theorem iI_toInt {z : Int} (h : iR z) : (iI z).toInt = z := Int32.toInt_ofInt_of_le (show -2 ^ 31 ≤ z from h.1) (show z < 2 ^ 31 from Int.lt_of_le_of_lt h.2 (by decide))
theorem iI_of (x : Int32) : x = iI x.toInt := (Int32.ofInt_toInt x).symm
theorem iI_r (x : Int32) : iR x.toInt := ⟨Int32.le_toInt x, Int.le_of_lt_add_one (Int32.toInt_lt x)⟩
theorem iI_nat {z : Int} (h0 : 0 ≤ z) (h1 : z ≤ 2147483647) : iI z = nI z.toNat := Int32.toInt_inj.mp (by rw [iI_toInt ⟨by omega, h1⟩, nI_toInt (by omega)]; omega)
theorem iI_cl {z : Int} (h0 : 0 ≤ z) (h1 : z ≤ 2147483647) : (iI z).toNatClampNeg = z.toNat := by rw [iI_nat h0 h1]; exact nI_clamp (by omega)
theorem iI_lt {a b : Int} (ha : iR a) (hb : iR b) : iI a < iI b ↔ a < b := by rw [Int32.lt_iff_toInt_lt, iI_toInt ha, iI_toInt hb]
theorem iI_le {a b : Int} (ha : iR a) (hb : iR b) : iI a ≤ iI b ↔ a ≤ b := by rw [Int32.le_iff_toInt_le, iI_toInt ha, iI_toInt hb]
theorem iI_eq {a b : Int} (ha : iR a) (hb : iR b) : iI a = iI b ↔ a = b := ⟨fun h => by have h2 := congrArg Int32.toInt h; rwa [iI_toInt ha, iI_toInt hb] at h2, fun h => by rw [h]⟩
theorem iI_0 : (0 : Int32) = iI 0 := by decide
theorem iR_0 : iR 0 := ⟨by decide, by decide⟩
theorem iI_in {z : Int} {n : Nat} (h0 : 0 ≤ z) (h1 : z < n) (h2 : z ≤ 2147483647) : vp_in (iI z) n := by
  intro h
  rcases h with h | h
  · rw [iI_0, iI_lt ⟨by omega, h2⟩ iR_0] at h; omega
  · rw [iI_cl h0 h2] at h; omega
theorem iI_byte {x : Int32} (h : fits .byte (.int x) = true) : -128 ≤ x.toInt ∧ x.toInt ≤ 127 := by
  have h1 : (-128 : Int32) ≤ x ∧ x ≤ 127 := by simpa [fits] using h
  rw [Int32.le_iff_toInt_le, Int32.le_iff_toInt_le] at h1
  exact h1
theorem iI_cast {n : Nat} (h : n ≤ 2147483647) : iI (n : Int) = nI n := by rw [iI_nat (by omega) (by omega), Int.toNat_natCast]
theorem nI_bv {x : Int32} (h : x.toBitVec.toNat ≤ 2147483647) : x = nI x.toBitVec.toNat := Int32.toBitVec_inj.mp (BitVec.eq_of_toNat_eq (by rw [pk_tn (by omega)]))
theorem iI_and (x : Int32) {c : Int} (h0 : 0 ≤ c) (h1 : c ≤ 2147483647) : ∃ z : Int, 0 ≤ z ∧ z ≤ c ∧ x &&& iI c = iI z := by
  have e1 : (x &&& iI c).toBitVec.toNat ≤ c.toNat := by
    rw [iI_nat h0 h1, Int32.toBitVec_and, BitVec.toNat_and, pk_tn (by omega)]
    exact Nat.and_le_right
  exact ⟨((x &&& iI c).toBitVec.toNat : Int), by omega, by omega, (nI_bv (by omega)).trans (iI_cast (by omega)).symm⟩
theorem iI_div {a d : Int} (h : iR a) (hd : 0 < d ∧ d ≤ 2147483647) : iI a / iI d = iI (a.tdiv d) ∧ iR (a.tdiv d) := by
  have h1 : (a.tdiv d).natAbs ≤ a.natAbs := by rw [Int.natAbs_tdiv]; exact Nat.div_le_self _ _
  have h2 : iR (a.tdiv d) ∨ a = -2147483648 ∧ a.tdiv d = 2147483648 := by
    unfold iR at h ⊢
    omega
  have h3 : a ≤ 0 → a.tdiv d ≤ 0 := fun h4 => by
    have h5 := Int.tdiv_nonneg (show 0 ≤ -a by omega) (show 0 ≤ d by omega)
    rw [Int.neg_tdiv] at h5
    omega
  have h6 : iR (a.tdiv d) := h2.elim id (fun h7 => by have := h3 (by omega); omega)
  refine ⟨Int32.toInt_inj.mp ?_, h6⟩
  rw [Int32.toInt_div, iI_toInt h, iI_toInt ⟨by omega, hd.2⟩, iI_toInt h6]
  unfold iR at h6
  exact Int.bmod_eq_of_le (by omega) (by omega)
section ZROWS
variable {p : Program} {l : Launch} {e : Env} {R : Room} {s : State} {m : MethodId} {args : Array Value} {below : List Frame} {meth : Method} {c : Code} {H : Heap} {locs : List Loc} {cells slots : Nat} {Q : State → Prop} {cc : ByteArray} {pc : Nat} {ls : Array Slot} {rest : List Value}
/-- the top of the stack, any number -/
theorem t_u {x : Int32} (kk : ∀ z : Int, -2147483648 ≤ z → z ≤ 2147483647 → W p l e R s m args below meth c H locs cells slots Q (F0 m pc ls (.int (iI z) :: rest))) : W p l e R s m args below meth c H locs cells slots Q (F0 m pc ls (.int x :: rest)) := by
  have h := kk x.toInt (iI_r x).1 (iI_r x).2
  rw [← iI_of x] at h
  exact h
theorem z_iadd (hexec : p.tables.exec = Jvm.exec) (hb : c.code = cc) {a b : Int} (hdg : decode cc pc = .ok (.iadd, 1)) (kk : W p l e R s m args below meth c H locs cells slots Q (F0 m (pc + 1) ls (.int (iI (a + b)) :: rest))) : W p l e R s m args below meth c H locs cells slots Q (F0 m pc ls (.int (iI b) :: .int (iI a) :: rest)) := lv_iadd hexec hb hdg (t_eq (iI_add a b) kk)
theorem z_isub (hexec : p.tables.exec = Jvm.exec) (hb : c.code = cc) {a b : Int} (hdg : decode cc pc = .ok (.isub, 1)) (kk : W p l e R s m args below meth c H locs cells slots Q (F0 m (pc + 1) ls (.int (iI (a - b)) :: rest))) : W p l e R s m args below meth c H locs cells slots Q (F0 m pc ls (.int (iI b) :: .int (iI a) :: rest)) := lv_isub hexec hb hdg (t_eq (iI_sub a b) kk)
theorem z_imul (hexec : p.tables.exec = Jvm.exec) (hb : c.code = cc) {a b : Int} (hdg : decode cc pc = .ok (.imul, 1)) (kk : W p l e R s m args below meth c H locs cells slots Q (F0 m (pc + 1) ls (.int (iI (a * b)) :: rest))) : W p l e R s m args below meth c H locs cells slots Q (F0 m pc ls (.int (iI b) :: .int (iI a) :: rest)) := lv_imul hexec hb hdg (t_eq (iI_mul a b) kk)
theorem z_iand (hexec : p.tables.exec = Jvm.exec) (hb : c.code = cc) {x : Int32} {b : Int} (h0 : 0 ≤ b) (h1 : b ≤ 2147483647) (hdg : decode cc pc = .ok (.iand, 1)) (kk : ∀ z : Int, 0 ≤ z → z ≤ b → W p l e R s m args below meth c H locs cells slots Q (F0 m (pc + 1) ls (.int (iI z) :: rest))) : W p l e R s m args below meth c H locs cells slots Q (F0 m pc ls (.int (iI b) :: .int x :: rest)) := by
  obtain ⟨z, h2, h3, h4⟩ := iI_and x h0 h1
  exact lv_iand hexec hb hdg (t_eq h4 (kk z h2 h3))
theorem z_ixor (hexec : p.tables.exec = Jvm.exec) (hb : c.code = cc) {a b : Int} (ha : 0 ≤ a ∧ a ≤ 255) (hb2 : 0 ≤ b ∧ b ≤ 255) (hdg : decode cc pc = .ok (.ixor, 1)) (kk : ∀ z : Int, 0 ≤ z → z ≤ 255 → W p l e R s m args below meth c H locs cells slots Q (F0 m (pc + 1) ls (.int (iI z) :: rest))) : W p l e R s m args below meth c H locs cells slots Q (F0 m pc ls (.int (iI b) :: .int (iI a) :: rest)) := by
  refine lv_ixor hexec hb hdg ?_
  have h : (iI a ^^^ iI b).toBitVec.toNat < 2 ^ 8 := by
    rw [iI_nat ha.1 (by omega), iI_nat hb2.1 (by omega), Int32.toBitVec_xor, BitVec.toNat_xor, pk_tn (by omega), pk_tn (by omega)]
    exact Nat.xor_lt_two_pow (by omega) (by omega)
  exact t_eq ((nI_bv (by omega)).trans (iI_cast (by omega)).symm) (kk ((iI a ^^^ iI b).toBitVec.toNat : Int) (by omega) (by omega))
/-- a division by a known number -/
theorem z_idiv (hexec : p.tables.exec = Jvm.exec) (hb : c.code = cc) {a d : Int} (h0 : 0 ≤ a) (h1 : a ≤ 2147483647) (hd : 0 < d ∧ d ≤ 2147483647) (hdg : decode cc pc = .ok (.idiv, 1)) (kk : W p l e R s m args below meth c H locs cells slots Q (F0 m (pc + 1) ls (.int (iI (a / d)) :: rest))) : W p l e R s m args below meth c H locs cells slots Q (F0 m pc ls (.int (iI d) :: .int (iI a) :: rest)) := by
  have e1 : iI a = nI a.toNat := iI_nat h0 h1
  have e2 : iI d = nI d.toNat := iI_nat (by omega) hd.2
  have h2 : 0 ≤ a / d := Int.ediv_nonneg h0 (by omega)
  have h3 : a / d ≤ a := Int.ediv_le_self d h0
  refine lv_idiv hexec hb hdg (by rw [e2]; exact nI_ne0 (by omega) (by omega)) (t_eq ?_ kk)
  rw [iI_nat h2 (by omega), e1, e2, pk_div (by omega) (by omega) (by omega)]
  congr 1
  obtain ⟨n, rfl⟩ := Int.eq_ofNat_of_zero_le h0
  obtain ⟨k, rfl⟩ := Int.eq_ofNat_of_zero_le (show 0 ≤ d by omega)
  rw [← Int.natCast_ediv, Int.toNat_natCast, Int.toNat_natCast, Int.toNat_natCast]
theorem z_irem (hexec : p.tables.exec = Jvm.exec) (hb : c.code = cc) {a d : Int} (h0 : 0 ≤ a) (h1 : a ≤ 2147483647) (hd : 0 < d ∧ d ≤ 2147483647) (hdg : decode cc pc = .ok (.irem, 1)) (kk : W p l e R s m args below meth c H locs cells slots Q (F0 m (pc + 1) ls (.int (iI (a % d)) :: rest))) : W p l e R s m args below meth c H locs cells slots Q (F0 m pc ls (.int (iI d) :: .int (iI a) :: rest)) := by
  have e1 : iI a = nI a.toNat := iI_nat h0 h1
  have e2 : iI d = nI d.toNat := iI_nat (by omega) hd.2
  have h2 : 0 ≤ a % d := Int.emod_nonneg a (by omega)
  have h3 : a % d < d := Int.emod_lt_of_pos a hd.1
  refine lv_irem hexec hb hdg (by rw [e2]; exact nI_ne0 (by omega) (by omega)) (t_eq ?_ kk)
  rw [iI_nat h2 (by omega), e1, e2, pk_rem (by omega) (by omega) (by omega)]
  congr 1
  obtain ⟨n, rfl⟩ := Int.eq_ofNat_of_zero_le h0
  obtain ⟨k, rfl⟩ := Int.eq_ofNat_of_zero_le (show 0 ≤ d by omega)
  rw [← Int.natCast_emod, Int.toNat_natCast, Int.toNat_natCast, Int.toNat_natCast]
/-- a division by a known number, of any sign -/
theorem z_idivg (hexec : p.tables.exec = Jvm.exec) (hb : c.code = cc) {a d : Int} (h : iR a) (hd : 0 < d ∧ d ≤ 2147483647) (hdg : decode cc pc = .ok (.idiv, 1)) (kk : ∀ z : Int, -d < a - d * z → a - d * z < d → (0 ≤ a → d * z ≤ a) → (a ≤ 0 → a ≤ d * z) → W p l e R s m args below meth c H locs cells slots Q (F0 m (pc + 1) ls (.int (iI z) :: rest))) : W p l e R s m args below meth c H locs cells slots Q (F0 m pc ls (.int (iI d) :: .int (iI a) :: rest)) := by
  refine lv_idiv hexec hb hdg (fun h2 => ?_) (t_eq (iI_div h hd).1 (kk _ ?_ ?_ ?_ ?_))
  · have h3 := (iI_eq ⟨by omega, hd.2⟩ iR_0).mp (h2.trans iI_0); omega
  all_goals have e1 := Int.mul_tdiv_add_tmod a d
  · have h2 := Int.tmod_lt_of_pos a hd.1
    have h3 := Int.tmod_lt_of_pos (-a) hd.1
    rw [Int.neg_tmod] at h3
    omega
  · have h2 := Int.tmod_lt_of_pos a hd.1
    omega
  · intro h4
    have h2 := Int.tmod_nonneg d h4
    omega
  · intro h4
    have h2 := Int.tmod_nonneg d (show 0 ≤ -a by omega)
    rw [Int.neg_tmod] at h2
    omega
theorem z_iremg (hexec : p.tables.exec = Jvm.exec) (hb : c.code = cc) {a d : Int} (h : iR a) (hd : 0 < d ∧ d ≤ 2147483647) (hdg : decode cc pc = .ok (.irem, 1)) (kk : ∀ z : Int, -d < z → z < d → (0 ≤ a → 0 ≤ z) → W p l e R s m args below meth c H locs cells slots Q (F0 m (pc + 1) ls (.int (iI z) :: rest))) : W p l e R s m args below meth c H locs cells slots Q (F0 m pc ls (.int (iI d) :: .int (iI a) :: rest)) := by
  have e1 := Int.mul_tdiv_add_tmod a d
  have h2 := Int.tmod_lt_of_pos a hd.1
  have h3 := Int.tmod_lt_of_pos (-a) hd.1
  rw [Int.neg_tmod] at h3
  refine lv_irem hexec hb hdg (fun h2 => ?_) (t_eq (y := iI (a.tmod d)) ?_ (kk _ (by omega) h2 (fun h4 => Int.tmod_nonneg d h4)))
  · have h3 := (iI_eq ⟨by omega, hd.2⟩ iR_0).mp (h2.trans iI_0); omega
  · rw [(iI_div h hd).1, iI_mul, iI_sub]
    congr 1
    rw [Int.mul_comm]
    omega
theorem iI_ne0 {d : Int} (h : iR d) (h0 : d ≠ 0) : ¬ iI d = 0 := fun h2 => h0 ((iI_eq h iR_0).mp (h2.trans iI_0))
theorem z_icmp_eq (hexec : p.tables.exec = Jvm.exec) (hb : c.code = cc) {a b : Int} {off : Int} {tgt : Nat} (hdg : decode cc pc = .ok (.if_icmp .eq off, 3)) (ht : (pc : Int) + off = (tgt : Int)) (h1 : iR a) (h2 : iR b) (kt : a = b → W p l e R s m args below meth c H locs cells slots Q (F0 m tgt ls rest)) (kf : a ≠ b → W p l e R s m args below meth c H locs cells slots Q (F0 m (pc + 3) ls rest)) : W p l e R s m args below meth c H locs cells slots Q (F0 m pc ls (.int (iI b) :: .int (iI a) :: rest)) := by
  refine lv_icmp_eq hexec hb hdg ht (fun h => kt ?_) (fun h => kf ?_)
  · exact (iI_eq h1 h2).mp h
  · exact fun h3 => h ((iI_eq h1 h2).mpr h3)
theorem z_if_eq (hexec : p.tables.exec = Jvm.exec) (hb : c.code = cc) {a : Int} {off : Int} {tgt : Nat} (hdg : decode cc pc = .ok (.ifCond .eq off, 3)) (ht : (pc : Int) + off = (tgt : Int)) (h1 : iR a) (kt : a = 0 → W p l e R s m args below meth c H locs cells slots Q (F0 m tgt ls rest)) (kf : a ≠ 0 → W p l e R s m args below meth c H locs cells slots Q (F0 m (pc + 3) ls rest)) : W p l e R s m args below meth c H locs cells slots Q (F0 m pc ls (.int (iI a) :: rest)) := by
  refine lv_if_eq hexec hb hdg ht (fun h => kt ?_) (fun h => kf ?_)
  · rw [iI_0] at h; exact (iI_eq h1 iR_0).mp h
  · rw [iI_0] at h; exact fun h3 => h ((iI_eq h1 iR_0).mpr h3)
theorem z_icmp_ne (hexec : p.tables.exec = Jvm.exec) (hb : c.code = cc) {a b : Int} {off : Int} {tgt : Nat} (hdg : decode cc pc = .ok (.if_icmp .ne off, 3)) (ht : (pc : Int) + off = (tgt : Int)) (h1 : iR a) (h2 : iR b) (kt : a ≠ b → W p l e R s m args below meth c H locs cells slots Q (F0 m tgt ls rest)) (kf : a = b → W p l e R s m args below meth c H locs cells slots Q (F0 m (pc + 3) ls rest)) : W p l e R s m args below meth c H locs cells slots Q (F0 m pc ls (.int (iI b) :: .int (iI a) :: rest)) := by
  refine lv_icmp_ne hexec hb hdg ht (fun h => kt ?_) (fun h => kf ?_)
  · exact fun h3 => h ((iI_eq h1 h2).mpr h3)
  · exact (iI_eq h1 h2).mp h
theorem z_if_ne (hexec : p.tables.exec = Jvm.exec) (hb : c.code = cc) {a : Int} {off : Int} {tgt : Nat} (hdg : decode cc pc = .ok (.ifCond .ne off, 3)) (ht : (pc : Int) + off = (tgt : Int)) (h1 : iR a) (kt : a ≠ 0 → W p l e R s m args below meth c H locs cells slots Q (F0 m tgt ls rest)) (kf : a = 0 → W p l e R s m args below meth c H locs cells slots Q (F0 m (pc + 3) ls rest)) : W p l e R s m args below meth c H locs cells slots Q (F0 m pc ls (.int (iI a) :: rest)) := by
  refine lv_if_ne hexec hb hdg ht (fun h => kt ?_) (fun h => kf ?_)
  · rw [iI_0] at h; exact fun h3 => h ((iI_eq h1 iR_0).mpr h3)
  · rw [iI_0] at h; exact (iI_eq h1 iR_0).mp h
theorem z_icmp_lt (hexec : p.tables.exec = Jvm.exec) (hb : c.code = cc) {a b : Int} {off : Int} {tgt : Nat} (hdg : decode cc pc = .ok (.if_icmp .lt off, 3)) (ht : (pc : Int) + off = (tgt : Int)) (h1 : iR a) (h2 : iR b) (kt : a < b → W p l e R s m args below meth c H locs cells slots Q (F0 m tgt ls rest)) (kf : b ≤ a → W p l e R s m args below meth c H locs cells slots Q (F0 m (pc + 3) ls rest)) : W p l e R s m args below meth c H locs cells slots Q (F0 m pc ls (.int (iI b) :: .int (iI a) :: rest)) := by
  refine lv_icmp_lt hexec hb hdg ht (fun h => kt ?_) (fun h => kf ?_)
  · exact (iI_lt h1 h2).mp h
  · exact Int.not_lt.mp (fun h3 => h ((iI_lt h1 h2).mpr h3))
theorem z_if_lt (hexec : p.tables.exec = Jvm.exec) (hb : c.code = cc) {a : Int} {off : Int} {tgt : Nat} (hdg : decode cc pc = .ok (.ifCond .lt off, 3)) (ht : (pc : Int) + off = (tgt : Int)) (h1 : iR a) (kt : a < 0 → W p l e R s m args below meth c H locs cells slots Q (F0 m tgt ls rest)) (kf : 0 ≤ a → W p l e R s m args below meth c H locs cells slots Q (F0 m (pc + 3) ls rest)) : W p l e R s m args below meth c H locs cells slots Q (F0 m pc ls (.int (iI a) :: rest)) := by
  refine lv_if_lt hexec hb hdg ht (fun h => kt ?_) (fun h => kf ?_)
  · rw [iI_0] at h; exact (iI_lt h1 iR_0).mp h
  · rw [iI_0] at h; exact Int.not_lt.mp (fun h3 => h ((iI_lt h1 iR_0).mpr h3))
theorem z_icmp_ge (hexec : p.tables.exec = Jvm.exec) (hb : c.code = cc) {a b : Int} {off : Int} {tgt : Nat} (hdg : decode cc pc = .ok (.if_icmp .ge off, 3)) (ht : (pc : Int) + off = (tgt : Int)) (h1 : iR a) (h2 : iR b) (kt : b ≤ a → W p l e R s m args below meth c H locs cells slots Q (F0 m tgt ls rest)) (kf : a < b → W p l e R s m args below meth c H locs cells slots Q (F0 m (pc + 3) ls rest)) : W p l e R s m args below meth c H locs cells slots Q (F0 m pc ls (.int (iI b) :: .int (iI a) :: rest)) := by
  refine lv_icmp_ge hexec hb hdg ht (fun h => kt ?_) (fun h => kf ?_)
  · exact (iI_le h2 h1).mp h
  · exact Int.not_le.mp (fun h3 => h ((iI_le h2 h1).mpr h3))
theorem z_if_ge (hexec : p.tables.exec = Jvm.exec) (hb : c.code = cc) {a : Int} {off : Int} {tgt : Nat} (hdg : decode cc pc = .ok (.ifCond .ge off, 3)) (ht : (pc : Int) + off = (tgt : Int)) (h1 : iR a) (kt : 0 ≤ a → W p l e R s m args below meth c H locs cells slots Q (F0 m tgt ls rest)) (kf : a < 0 → W p l e R s m args below meth c H locs cells slots Q (F0 m (pc + 3) ls rest)) : W p l e R s m args below meth c H locs cells slots Q (F0 m pc ls (.int (iI a) :: rest)) := by
  refine lv_if_ge hexec hb hdg ht (fun h => kt ?_) (fun h => kf ?_)
  · rw [iI_0] at h; exact (iI_le iR_0 h1).mp h
  · rw [iI_0] at h; exact Int.not_le.mp (fun h3 => h ((iI_le iR_0 h1).mpr h3))
theorem z_icmp_gt (hexec : p.tables.exec = Jvm.exec) (hb : c.code = cc) {a b : Int} {off : Int} {tgt : Nat} (hdg : decode cc pc = .ok (.if_icmp .gt off, 3)) (ht : (pc : Int) + off = (tgt : Int)) (h1 : iR a) (h2 : iR b) (kt : b < a → W p l e R s m args below meth c H locs cells slots Q (F0 m tgt ls rest)) (kf : a ≤ b → W p l e R s m args below meth c H locs cells slots Q (F0 m (pc + 3) ls rest)) : W p l e R s m args below meth c H locs cells slots Q (F0 m pc ls (.int (iI b) :: .int (iI a) :: rest)) := by
  refine lv_icmp_gt hexec hb hdg ht (fun h => kt ?_) (fun h => kf ?_)
  · exact (iI_lt h2 h1).mp h
  · exact Int.not_lt.mp (fun h3 => h ((iI_lt h2 h1).mpr h3))
theorem z_if_gt (hexec : p.tables.exec = Jvm.exec) (hb : c.code = cc) {a : Int} {off : Int} {tgt : Nat} (hdg : decode cc pc = .ok (.ifCond .gt off, 3)) (ht : (pc : Int) + off = (tgt : Int)) (h1 : iR a) (kt : 0 < a → W p l e R s m args below meth c H locs cells slots Q (F0 m tgt ls rest)) (kf : a ≤ 0 → W p l e R s m args below meth c H locs cells slots Q (F0 m (pc + 3) ls rest)) : W p l e R s m args below meth c H locs cells slots Q (F0 m pc ls (.int (iI a) :: rest)) := by
  refine lv_if_gt hexec hb hdg ht (fun h => kt ?_) (fun h => kf ?_)
  · rw [iI_0] at h; exact (iI_lt iR_0 h1).mp h
  · rw [iI_0] at h; exact Int.not_lt.mp (fun h3 => h ((iI_lt iR_0 h1).mpr h3))
theorem z_icmp_le (hexec : p.tables.exec = Jvm.exec) (hb : c.code = cc) {a b : Int} {off : Int} {tgt : Nat} (hdg : decode cc pc = .ok (.if_icmp .le off, 3)) (ht : (pc : Int) + off = (tgt : Int)) (h1 : iR a) (h2 : iR b) (kt : a ≤ b → W p l e R s m args below meth c H locs cells slots Q (F0 m tgt ls rest)) (kf : b < a → W p l e R s m args below meth c H locs cells slots Q (F0 m (pc + 3) ls rest)) : W p l e R s m args below meth c H locs cells slots Q (F0 m pc ls (.int (iI b) :: .int (iI a) :: rest)) := by
  refine lv_icmp_le hexec hb hdg ht (fun h => kt ?_) (fun h => kf ?_)
  · exact (iI_le h1 h2).mp h
  · exact Int.not_le.mp (fun h3 => h ((iI_le h1 h2).mpr h3))
theorem z_if_le (hexec : p.tables.exec = Jvm.exec) (hb : c.code = cc) {a : Int} {off : Int} {tgt : Nat} (hdg : decode cc pc = .ok (.ifCond .le off, 3)) (ht : (pc : Int) + off = (tgt : Int)) (h1 : iR a) (kt : a ≤ 0 → W p l e R s m args below meth c H locs cells slots Q (F0 m tgt ls rest)) (kf : 0 < a → W p l e R s m args below meth c H locs cells slots Q (F0 m (pc + 3) ls rest)) : W p l e R s m args below meth c H locs cells slots Q (F0 m pc ls (.int (iI a) :: rest)) := by
  refine lv_if_le hexec hb hdg ht (fun h => kt ?_) (fun h => kf ?_)
  · rw [iI_0] at h; exact (iI_le h1 iR_0).mp h
  · rw [iI_0] at h; exact Int.not_le.mp (fun h3 => h ((iI_le h1 iR_0).mpr h3))
end ZROWS
