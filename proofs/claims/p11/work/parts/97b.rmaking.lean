/-! The reference's constructor. -/
def updq (q : Nat → Nat) (k a : Nat) : Nat → Nat := fun j => cond (Nat.beq j k) a (q j)
def fldL : List Nat := [0, 1, 5, 6, 7, 9, 10, 11, 12, 13, 15, 16, 17, 19, 20, 21, 22, 23, 24, 25, 26, 27, 28, 31, 34, 35, 37, 38, 44, 45, 46, 47, 48, 49, 50, 51, 52, 53, 56, 58, 59, 60, 61, 62, 63, 64, 65, 90, 91, 92, 93, 94, 95, 96, 97, 98, 99, 100, 101, 102, 103, 104, 105, 106, 107, 108, 109, 110, 111, 112, 113, 114, 115, 116, 117, 118, 119, 120, 121, 122, 123, 124, 125, 126, 127, 128, 129, 130, 132, 133, 134, 135, 136, 137, 138, 139, 140, 141, 142, 143, 144]
def lenL : List Nat := [60000, 20000, 5, 80, 64, 20, 20, 64, 256, 256, 60, 16, 16, 16, 32, 16, 5, 32, 60, 30, 20, 40, 8, 64, 20000, 20000, 192, 192, 480, 12, 12, 12, 12, 12, 12, 12, 1536, 40, 32, 32, 32, 32, 18304, 416, 416, 13, 416, 4, 4, 160, 4, 4, 4, 256, 32, 134400, 1024, 32, 32, 32, 32, 32, 32, 32, 12800, 32, 32, 4, 4, 4, 4, 4, 4, 128, 160, 1600, 4, 4, 4, 4, 4, 4, 4, 128, 128, 4, 4, 4, 12, 8, 8, 8, 256, 16, 16, 8, 8, 8, 8, 256, 4]
def kinL : List Nat := [0, 0, 1, 1, 0, 0, 0, 0, 1, 1, 1, 1, 1, 0, 0, 1, 0, 0, 0, 0, 0, 0, 0, 0, 0, 0, 1, 1, 0, 1, 1, 1, 1, 1, 1, 1, 0, 0, 0, 0, 0, 0, 0, 1, 1, 1, 2, 0, 3, 0, 1, 1, 1, 0, 3, 0, 0, 1, 1, 1, 2, 2, 2, 2, 0, 1, 1, 1, 1, 1, 1, 2, 3, 0, 0, 0, 1, 1, 3, 1, 1, 1, 1, 0, 0, 2, 2, 2, 0, 3, 1, 1, 0, 2, 2, 2, 2, 1, 1, 0, 0]
def rBL : List Bool := [true, true, false, false, false, true, true, true, false, true, true, true, true, true, false, true, true, true, false, true, true, true, true, true, true, true, true, true, true, false, false, true, false, false, true, true, false, true, true, false, false, false, false, false, true, true, true, true, true, true, true, true, true, true, false, false, true, false, true, true, true, true, true, true, true, true, false, false, false, false, false, false, false, false, false, false, false, false, false, false, false, false, false, false, false, false, false, false, false, false, true, true, true, true, true, true, true, true, true, true, true, true, true, true, true, true, true, true, true, true, true, true, true, true, true, true, true, true, true, true, true, true, true, true, true, true, true, true, true, true, true, false, true, true, true, true, true, true, true, true, true, true, true, true, true]
def aixL : List Nat := [0, 1, 0, 0, 0, 2, 3, 4, 0, 5, 6, 7, 8, 9, 0, 10, 11, 12, 0, 13, 14, 15, 16, 17, 18, 19, 20, 21, 22, 0, 0, 23, 0, 0, 24, 25, 0, 26, 27, 0, 0, 0, 0, 0, 28, 29, 30, 31, 32, 33, 34, 35, 36, 37, 0, 0, 38, 0, 39, 40, 41, 42, 43, 44, 45, 46, 0, 0, 0, 0, 0, 0, 0, 0, 0, 0, 0, 0, 0, 0, 0, 0, 0, 0, 0, 0, 0, 0, 0, 0, 47, 48, 49, 50, 51, 52, 53, 54, 55, 56, 57, 58, 59, 60, 61, 62, 63, 64, 65, 66, 67, 68, 69, 70, 71, 72, 73, 74, 75, 76, 77, 78, 79, 80, 81, 82, 83, 84, 85, 86, 87, 0, 88, 89, 90, 91, 92, 93, 94, 95, 96, 97, 98, 99, 100]
def lBL : List Bool := [false, false, false, false, false, false, false, false, false, false, false, false, false, false, false, false, false, false, false, false, false, false, false, false, false, false, false, false, false, false, false, false, false, false, false, false, false, false, false, false, false, true, false, false, false, false, false, false, false, false, false, false, false, false, false, false, false, false, false, false, false, false, false, false, false, false, false, false, false, false, false, false, false, false, false, false, false, false, false, false, false, false, true, true, false, false, false, false, false, false, false, false, false, false, false, false, false, false, false, false, false, false, false, false, false, false, false, false, false, false, false, false, false, false, false, false, false, false, false, false, false, false, false, false, false, false, false, false, false, false, false, false, false, false, false, false, false, false, false, false, false, false, false, false, false]
def fld (i : Nat) : Nat := fldL.getD i 0
def rBz (j : Nat) : Bool := rBL.getD j false
def aix (j : Nat) : Nat := aixL.getD j 0
def lB (j : Nat) : Bool := lBL.getD j false
def cls (E : mE) (i : Nat) : ClassId := match kinL.getD i 0 with
  | 0 => E.1
  | 1 => E.2.1
  | 2 => E.2.2.1
  | _ => E.2.2.2
def cont (B : Nat → Nat → Int32) (i : Nat) : vp_A := (lenL.getD i 0, match kinL.getD i 0 with
  | 2 => .inr (.inl (fun _ => 0))
  | _ => .inl (B (fld i)))
def ent (E : mE) (q : Nat → Nat) (B : Nat → Nat → Int32) (i : Nat) : Nat × va_E := (q (fld i), .inl (cls E i, cont B i))
def fv (n : Nat) (q : Nat → Nat) (I : Nat → Int32) (j : Nat) : Value := cond (rBz j) (cond (Nat.blt (aix j) n) (.ref (q j)) .null) (cond (lB j) (.long 0) (.int (I j)))
def mFz (n : Nat) (q : Nat → Nat) (I : Nat → Int32) : List Value := (List.range 145).map (fv n q I)
def iW (E : mE) (h n k : Nat) (q : Nat → Nat) (I : Nat → Int32) (B : Nat → Nat → Int32) : va_W := (h, .inr (0, mFz n q I)) :: (List.range k).map (ent E q B)
def iH (D : mD) (E : mE) (A : Nat → Prop) (H0 : Heap) (h n k : Nat) (q : Nat → Nat) (I : Nat → Int32) (B : Nat → Nat → Int32) (H : Heap) (locs : List Loc) : Prop := va_P D.1 mCl (iW E h n k q I B) H ∧ va_D A (iW E h n k q I B) ∧ va_S A H0 H locs
theorem upB_id (B : Nat → Nat → Int32) (k : Nat) : upB B k (B k) = B := funext (fun j => by
  by_cases h : j = k
  · rw [h]; exact upB_s B k _
  · exact upB_n h)
theorem fz_fa : ∀ j, j < 145 → rBz j = true → fld (aix j) = j := by decide +kernel
theorem fz_af : ∀ k, k < 101 → aix (fld k) = k ∧ rBz (fld k) = true ∧ fld k < 145 := by decide +kernel
theorem fz_len (n : Nat) (q : Nat → Nat) (I : Nat → Int32) : (mFz n q I).length = 145 := by unfold mFz; rw [List.length_map, List.length_range]
theorem fz_at (n : Nat) (q : Nat → Nat) (I : Nat → Int32) {j : Nat} (hj : j < 145) : (mFz n q I)[j]? = some (fv n q I j) := by
  unfold mFz
  rw [List.getElem?_map, List.getElem?_range hj]
  rfl
theorem updq_s (q : Nat → Nat) (k a : Nat) : updq q k a k = a := by unfold updq; rw [Nat.beq_refl]; rfl
theorem updq_n {q : Nat → Nat} {k a j : Nat} (h : j ≠ k) : updq q k a j = q j := by
  unfold updq
  rw [show Nat.beq j k = false from Bool.eq_false_iff.mpr (fun h9 => h (Nat.eq_of_beq_eq_true h9))]
  rfl
theorem fz_q {k : Nat} {q : Nat → Nat} {I : Nat → Int32} {a : Nat} (hk : k < 101) : mFz k (updq q (fld k) a) I = mFz k q I := by
  unfold mFz
  refine List.map_congr_left (fun j hj => ?_)
  unfold fv
  cases hr : rBz j with
  | false => rfl
  | true =>
    cases hb : Nat.blt (aix j) k with
    | false => rfl
    | true =>
      have h1 : aix j < k := Nat.lt_of_lt_of_le (Nat.lt_succ_self _) (Nat.le_of_ble_eq_true hb)
      have h2 : j ≠ fld k := fun e => by rw [e, (fz_af k hk).1] at h1; exact Nat.lt_irrefl _ h1
      show Value.ref (updq q (fld k) a j) = Value.ref (q j)
      rw [updq_n h2]
theorem ent_q {k : Nat} {E : mE} {q : Nat → Nat} {B : Nat → Nat → Int32} {a : Nat} (hk : k < 101) : (List.range k).map (ent E (updq q (fld k) a) B) = (List.range k).map (ent E q B) := by
  refine List.map_congr_left (fun j hj => ?_)
  have h1 : j < k := List.mem_range.mp hj
  have h2 : fld j ≠ fld k := fun e => by
    have h3 := (fz_af j (Nat.lt_trans h1 hk)).1
    rw [e, (fz_af k hk).1] at h3
    omega
  unfold ent
  rw [updq_n h2]
theorem iW_push {k : Nat} {E : mE} {h : Nat} {q : Nat → Nat} {I : Nat → Int32} {B : Nat → Nat → Int32} {a : Nat} {x : va_E} (hk : k < 101) (hx : Sum.inl (cls E k, cont B k) = x) : iW E h k k q I B ++ [(a, x)] = iW E h k (k + 1) (updq q (fld k) a) I B := by
  unfold iW
  rw [fz_q hk, List.range_succ, List.map_append, ent_q hk, ← hx]
  show _ = (h, _) :: (_ ++ [(updq q (fld k) a (fld k), Sum.inl (cls E k, cont B k))])
  rw [updq_s]
  rfl
theorem fz_set {k : Nat} {q : Nat → Nat} {I : Nat → Int32} (hk : k < 101) : (mFz k q I).set (fld k) (.ref (q (fld k))) = mFz (k + 1) q I := by
  obtain ⟨h1, h2, h3⟩ := fz_af k hk
  apply List.ext_getElem?
  intro j
  rw [List.getElem?_set]
  by_cases hj : j < 145
  · rw [fz_at _ _ _ hj, fz_at _ _ _ hj]
    by_cases he : fld k = j
    · rw [if_pos he, if_pos (by rw [fz_len]; exact h3)]
      subst he
      unfold fv
      rw [h2, h1, show Nat.blt k (k + 1) = true from Nat.ble_eq_true_of_le (Nat.le_refl _)]
      rfl
    · rw [if_neg he]
      unfold fv
      cases hr : rBz j with
      | false => rfl
      | true =>
        have h4 : aix j ≠ k := fun e => he (by rw [← e]; exact fz_fa j hj hr)
        have h5 : Nat.blt (aix j) k = Nat.blt (aix j) (k + 1) := by
          rcases Nat.lt_or_gt_of_ne h4 with h6 | h6
          · rw [show Nat.blt (aix j) k = true from Nat.ble_eq_true_of_le h6, show Nat.blt (aix j) (k + 1) = true from Nat.ble_eq_true_of_le (Nat.le_succ_of_le h6)]
          · rw [show Nat.blt (aix j) k = false from Bool.eq_false_iff.mpr (fun h9 => by have := Nat.le_of_ble_eq_true h9; omega), show Nat.blt (aix j) (k + 1) = false from Bool.eq_false_iff.mpr (fun h9 => by have := Nat.le_of_ble_eq_true h9; omega)]
        rw [h5]
  · rw [if_neg (by omega), List.getElem?_eq_none (by rw [fz_len]; omega), List.getElem?_eq_none (by rw [fz_len]; omega)]
theorem fz_seti {n f : Nat} {q : Nat → Nat} {I : Nat → Int32} {x : Int32} (hf : f < 145) (hr : rBz f = false) (hl : lB f = false) : (mFz n q I).set f (.int x) = mFz n q (upd I f x) := by
  apply List.ext_getElem?
  intro j
  rw [List.getElem?_set]
  by_cases hj : j < 145
  · rw [fz_at _ _ _ hj, fz_at _ _ _ hj]
    by_cases he : f = j
    · rw [if_pos he, if_pos (by rw [fz_len]; exact hf)]
      subst he
      unfold fv
      rw [hr, hl]
      show some (Value.int x) = some (Value.int (upd I f x f))
      rw [pk_us]
    · rw [if_neg he]
      unfold fv
      rw [pk_un (fun e => he e.symm)]
  · rw [if_neg (by omega), List.getElem?_eq_none (by rw [fz_len]; omega), List.getElem?_eq_none (by rw [fz_len]; omega)]
theorem iW_last {k n : Nat} {E : mE} {h : Nat} {q : Nat → Nat} {I : Nat → Int32} {B : Nat → Nat → Int32} : (iW E h n (k + 1) q I B)[k + 1]? = some (ent E q B k) := by
  unfold iW
  rw [List.getElem?_cons_succ, List.getElem?_map, List.getElem?_range (Nat.lt_succ_self k)]
  rfl
theorem iW_setl {k n f : Nat} {E : mE} {h : Nat} {q : Nat → Nat} {I : Nat → Int32} {B : Nat → Nat → Int32} {g g2 : Nat → Int32} (hk : k < 101) (hf : fld k = f) : (iW E h n (k + 1) q I (upB B f g)).set (k + 1) (ent E q (upB B f g2) k) = iW E h n (k + 1) q I (upB B f g2) := by
  unfold iW
  rw [List.set_cons_succ, List.range_succ, List.map_append, List.map_append]
  have h1 : (List.range k).map (ent E q (upB B f g)) = (List.range k).map (ent E q (upB B f g2)) := by
    refine List.map_congr_left (fun j hj => ?_)
    have h1 : j < k := List.mem_range.mp hj
    have h2 : fld j ≠ f := fun e => by
      have h3 := (fz_af j (Nat.lt_trans h1 hk)).1
      rw [e, ← hf, (fz_af k hk).1] at h3
      omega
    unfold ent cont
    rw [upB_n h2, upB_n h2]
  rw [h1, List.set_append_right _ _ (by rw [List.length_map, List.length_range]; exact Nat.le_refl _), List.length_map, List.length_range, Nat.sub_self]
  rfl
set_option maxRecDepth 100000 in
theorem fz_all (q : Nat → Nat) (I : Nat → Int32) : mFz 101 q I = mFs q I (fun _ => 0) := rfl
set_option maxRecDepth 100000 in
theorem ent_all (E : mE) (q : Nat → Nat) (B : Nat → Nat → Int32) : (List.range 101).map (ent E q B) = mAs E.1 E.2.1 E.2.2.1 E.2.2.2 q B (fun _ _ => 0) := rfl
theorem iH_all (D : mD) (E : mE) (A : Nat → Prop) (H0 : Heap) (h : Nat) (q : Nat → Nat) (I : Nat → Int32) (B : Nat → Nat → Int32) (H : Heap) (locs : List Loc) : iH D E A H0 h 101 101 q I B H locs = mH D E A H0 h q I (fun _ => 0) B (fun _ _ => 0) H locs := by
  unfold iH iW mH mW
  rw [fz_all, ent_all]
theorem by8_zero : by8 (fun _ => 0) := fun _ => ⟨0, by decide, rfl⟩
section IROWS
variable {p : Program} {l : Launch} {e : Env} {R : Room} {s : State} {m : MethodId} {args : Array Value} {below : List Frame} {meth : Method} {c : Code} {H : Heap} {locs : List Loc} {cells slots : Nat} {Q : State → Prop} {cc : ByteArray} {pc : Nat} {ls : Array Slot} {rest : List Value} {D : mD} {E : mE} {A : Nat → Prop} {H0 : Heap} {h : Nat} {q : Nat → Nat} {I : Nat → Int32} {B : Nat → Nat → Int32}
/-- a new array: the next of the object's -/
theorem i_newa {k f N : Nat} (X : mX p c cc args s m D E) (Y : iH D E A H0 h k k q I B H locs) (hA : ∀ q, H0.size ≤ q → A q) {atype : ArrayType} {ty : FieldType} {S : String} (hty : newarray.typeOf atype = ty) (hRA : ∀ (U : State) (x : ClassId), va_RA U x ty → U.vm.findClass S = some x) (harr : Cond.arrayClass ty ∈ lw_tg) (j : Nat) {cE : ClassId} (hj : (mTy E)[j]? = some (cE, ty)) {a0 : vp_A} (ha : ∀ cA : ClassId, vp_cell cA a0 = arrV cA N (fun _ => defaultValue ty)) {n : Int32} (hn : ¬ n < 0) (hN : n.toNatClampNeg = N) (hbytes : N * componentBytes ty ≤ 536870912) (hcells : cells + 1 ≤ R.cells) (hslots : slots + N ≤ R.slots) (hk : k < 101) (hf : fld k = f) (hW : Sum.inl (cls E k, cont B k) = (Sum.inl (cE, a0) : va_E)) (hdg : decode cc pc = .ok (.newarray atype, 2))
    (kk : ∀ (q2 : Nat → Nat) (H1 : Heap), iH D E A H0 h k (k + 1) q2 I B H1 locs → W p l e R s m args below meth c H1 locs (cells + 1) (slots + N) Q (F0 m (pc + 2) ls (.ref (q2 f) :: rest))) : W p l e R s m args below meth c H locs cells slots Q (F0 m pc ls (.int n :: rest)) := by
  refine va_newa X.1 X.2.1 (by rw [hty]; exact X.2.2.1 _ harr) hty X.2.2.2.2.1 Y.1 Y.2.1 Y.2.2 hA ha hn hN hbytes hcells hslots hdg (fun a cA H1 hK hP hD hS => ?_)
  have h1 := hRA _ _ (X.2.2.2.2.1.2 j _ hj).2
  have h2 := hRA _ _ (hK.2 4 (cA, ty) rfl).2
  have hc : cA = cE := Option.some.inj (h2.symm.trans h1)
  rw [hc, iW_push hk hW, hf] at hP hD
  have h3 := kk (updq q f a) H1 ⟨hP, hD, hS⟩
  rw [updq_s] at h3
  exact h3
/-- it goes into its field -/
theorem i_putr {k f ix : Nat} (X : mX p c cc args s m D E) (Y : iH D E A H0 h k (k + 1) q I B H locs) (hk : f < 145) (hl : Cond.fieldLink R_M ix R_M (F_M f).2.1 (F_M f).2.2.1 ∈ lw_tg) (hs : (F_M f).1 = R_M) (hfin : (F_M f).2.2.2 = true) (hin : meth.name = "<init>") {ty : FieldType} (hd : parseFieldDescriptor (F_M f).2.2.1 = some ty) (hn : narrow ty (.ref (q f)) = .ref (q f)) (hfit : fits ty (.ref (q f)) = true) (hk1 : k < 101) (hf : fld k = f) (hdg : decode cc pc = .ok (.putfield ix, 3))
    (kk : ∀ (H1 : Heap) (locs1 : List Loc), iH D E A H0 h (k + 1) (k + 1) q I B H1 locs1 → W p l e R s m args below meth c H1 locs1 cells slots Q (F0 m (pc + 3) ls rest)) : W p l e R s m args below meth c H locs cells slots Q (F0 m pc ls (.ref (q f) :: .ref h :: rest)) := by
  refine va_putF (D := D.1) (ci := 0) (C := R_M) (T := F_M) (N := 145) X.1 X.2.1 X.2.2.1 i_M t_M t_M_ok n_M X.2.2.2.1 X.2.2.2.2.1 Y.1 Y.2.1 Y.2.2 0 (fs := mFz k q I) rfl rfl f hk (X.2.2.1 _ hl) (fun _ h9 => by rw [hs] at h9; exact h9) hfin hin hs hd hn hfit (by rw [fz_len]; exact hk) hdg (fun H1 locs1 hP hD hS => ?_)
  subst hf
  rw [fz_set hk1] at hP hD
  exact kk H1 locs1 ⟨hP, hD, hS⟩
theorem i_puti {n k f ix : Nat} {x : Int32} (X : mX p c cc args s m D E) (Y : iH D E A H0 h n k q I B H locs) (hk : f < 145) (hl : Cond.fieldLink R_M ix R_M (F_M f).2.1 (F_M f).2.2.1 ∈ lw_tg) (hs : (F_M f).1 = R_M) (hf : (F_M f).2.2.2 = false) {ty : FieldType} (hd : parseFieldDescriptor (F_M f).2.2.1 = some ty) (hn : narrow ty (.int x) = .int x) (hfit : fits ty (.int x) = true) (hr : rBz f = false) (hl2 : lB f = false) (hdg : decode cc pc = .ok (.putfield ix, 3))
    (kk : ∀ (H1 : Heap) (locs1 : List Loc), iH D E A H0 h n k q (upd I f x) B H1 locs1 → W p l e R s m args below meth c H1 locs1 cells slots Q (F0 m (pc + 3) ls rest)) : W p l e R s m args below meth c H locs cells slots Q (F0 m pc ls (.int x :: .ref h :: rest)) := by
  refine va_put (D := D.1) (ci := 0) (C := R_M) (T := F_M) (N := 145) X.1 X.2.1 X.2.2.1 i_M t_M t_M_ok n_M X.2.2.2.1 X.2.2.2.2.1 Y.1 Y.2.1 Y.2.2 0 (fs := mFz n q I) rfl rfl f hk (X.2.2.1 _ hl) (fun _ h9 => by rw [hs] at h9; exact h9) hf hd hn hfit (by rw [fz_len]; exact hk) hdg (fun H1 locs1 hP hD hS => ?_)
  rw [fz_seti hk hr hl2] at hP hD
  exact kk H1 locs1 ⟨hP, hD, hS⟩
/-- a byte into the array that is being made -/
theorem i_bast {n k f N : Nat} {g : Nat → Int32} {i x : Int32} (X : mX p c cc args s m D E) (Y : iH D E A H0 h n (k + 1) q I (upB B f g) H locs) (hk : k < 101) (hf : fld k = f) (he : ∀ g2, ent E q (upB B f g2) k = (q f, .inl (E.1, N, .inl g2))) (hin : vp_in i N) (hdg : decode cc pc = .ok (.bastore, 1))
    (kk : ∀ (g2 : Nat → Int32) (H1 : Heap) (locs1 : List Loc), iH D E A H0 h n (k + 1) q I (upB B f g2) H1 locs1 → W p l e R s m args below meth c H1 locs1 cells slots Q (F0 m (pc + 1) ls rest)) : W p l e R s m args below meth c H locs cells slots Q (F0 m pc ls (.int x :: .int i :: .ref (q f) :: rest)) := by
  refine va_bast X.1 X.2.1 X.2.2.2.2.1 Y.1 Y.2.1 Y.2.2 (k + 1) 0 (iW_last.trans (congrArg some (he g))) rfl hin hdg (fun H1 locs1 hP hD hS => ?_)
  rw [← he, iW_setl hk hf] at hP hD
  exact kk _ H1 locs1 ⟨hP, hD, hS⟩
theorem i_bastB {n k f N : Nat} {g : Nat → Int32} {i x : Int32} (X : mX p c cc args s m D E) (Y : iH D E A H0 h n (k + 1) q I (upB B f g) H locs) (hk : k < 101) (hf : fld k = f) (he : ∀ g2, ent E q (upB B f g2) k = (q f, .inl (E.1, N, .inl g2))) (hin : vp_in i N) (hg : ∀ j, -128 ≤ (g j).toInt ∧ (g j).toInt ≤ 127) (hdg : decode cc pc = .ok (.bastore, 1))
    (kk : ∀ (g2 : Nat → Int32) (_ : ∀ j, -128 ≤ (g2 j).toInt ∧ (g2 j).toInt ≤ 127) (H1 : Heap) (locs1 : List Loc), iH D E A H0 h n (k + 1) q I (upB B f g2) H1 locs1 → W p l e R s m args below meth c H1 locs1 cells slots Q (F0 m (pc + 1) ls rest)) : W p l e R s m args below meth c H locs cells slots Q (F0 m pc ls (.int x :: .int i :: .ref (q f) :: rest)) := by
  refine va_bast X.1 X.2.1 X.2.2.2.2.1 Y.1 Y.2.1 Y.2.2 (k + 1) 0 (iW_last.trans (congrArg some (he g))) rfl hin hdg (fun H1 locs1 hP hD hS => ?_)
  rw [← he, iW_setl hk hf] at hP hD
  refine kk _ (fun j => ?_) H1 locs1 ⟨hP, hD, hS⟩
  by_cases e9 : j = i.toNatClampNeg
  · rw [e9, pk_us]; exact nar_byte _
  · rw [pk_un e9]; exact hg j
end IROWS
