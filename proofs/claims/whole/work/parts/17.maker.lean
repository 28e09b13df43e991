/-! The reference's constructor. -/
def updq (q : Nat → Nat) (k a : Nat) : Nat → Nat := fun j => cond (Nat.beq j k) a (q j)
def mFz (n : Nat) (q : Nat → Nat) (I : Nat → Int32) : List Value := [cond (Nat.blt 0 n) (.ref (q 0)) .null, cond (Nat.blt 1 n) (.ref (q 1)) .null, .int (I 2), .int (I 3), .int (I 4), cond (Nat.blt 2 n) (.ref (q 5)) .null, cond (Nat.blt 3 n) (.ref (q 6)) .null, cond (Nat.blt 4 n) (.ref (q 7)) .null, .int (I 8), cond (Nat.blt 5 n) (.ref (q 9)) .null, cond (Nat.blt 6 n) (.ref (q 10)) .null, cond (Nat.blt 7 n) (.ref (q 11)) .null, cond (Nat.blt 8 n) (.ref (q 12)) .null, cond (Nat.blt 9 n) (.ref (q 13)) .null, .int (I 14), cond (Nat.blt 10 n) (.ref (q 15)) .null, cond (Nat.blt 11 n) (.ref (q 16)) .null, cond (Nat.blt 12 n) (.ref (q 17)) .null, .int (I 18), cond (Nat.blt 13 n) (.ref (q 19)) .null, cond (Nat.blt 14 n) (.ref (q 20)) .null, cond (Nat.blt 15 n) (.ref (q 21)) .null, cond (Nat.blt 16 n) (.ref (q 22)) .null, cond (Nat.blt 17 n) (.ref (q 23)) .null, cond (Nat.blt 18 n) (.ref (q 24)) .null, cond (Nat.blt 19 n) (.ref (q 25)) .null, cond (Nat.blt 20 n) (.ref (q 26)) .null, cond (Nat.blt 21 n) (.ref (q 27)) .null, cond (Nat.blt 22 n) (.ref (q 28)) .null, .int (I 29), .int (I 30), cond (Nat.blt 23 n) (.ref (q 31)) .null, .int (I 32), .int (I 33), cond (Nat.blt 24 n) (.ref (q 34)) .null, cond (Nat.blt 25 n) (.ref (q 35)) .null, .int (I 36), cond (Nat.blt 26 n) (.ref (q 37)) .null, cond (Nat.blt 27 n) (.ref (q 38)) .null, .int (I 39), .int (I 40), .long 0, .int (I 42), .int (I 43), cond (Nat.blt 28 n) (.ref (q 44)) .null, cond (Nat.blt 29 n) (.ref (q 45)) .null, cond (Nat.blt 30 n) (.ref (q 46)) .null, cond (Nat.blt 31 n) (.ref (q 47)) .null, cond (Nat.blt 32 n) (.ref (q 48)) .null, cond (Nat.blt 33 n) (.ref (q 49)) .null, cond (Nat.blt 34 n) (.ref (q 50)) .null, cond (Nat.blt 35 n) (.ref (q 51)) .null, cond (Nat.blt 36 n) (.ref (q 52)) .null, cond (Nat.blt 37 n) (.ref (q 53)) .null, .int (I 54), .int (I 55), cond (Nat.blt 38 n) (.ref (q 56)) .null, .int (I 57), cond (Nat.blt 39 n) (.ref (q 58)) .null, cond (Nat.blt 40 n) (.ref (q 59)) .null, cond (Nat.blt 41 n) (.ref (q 60)) .null, cond (Nat.blt 42 n) (.ref (q 61)) .null, cond (Nat.blt 43 n) (.ref (q 62)) .null, cond (Nat.blt 44 n) (.ref (q 63)) .null, cond (Nat.blt 45 n) (.ref (q 64)) .null, cond (Nat.blt 46 n) (.ref (q 65)) .null, .int (I 66), .int (I 67), .int (I 68), .int (I 69), .int (I 70), .int (I 71), .int (I 72), .int (I 73), .int (I 74), .int (I 75), .int (I 76), .int (I 77), .int (I 78), .int (I 79), .int (I 80), .int (I 81), .long 0, .long 0, .int (I 84), .int (I 85), .int (I 86), .int (I 87), .int (I 88), .int (I 89), cond (Nat.blt 47 n) (.ref (q 90)) .null, cond (Nat.blt 48 n) (.ref (q 91)) .null, cond (Nat.blt 49 n) (.ref (q 92)) .null, cond (Nat.blt 50 n) (.ref (q 93)) .null, cond (Nat.blt 51 n) (.ref (q 94)) .null, cond (Nat.blt 52 n) (.ref (q 95)) .null, cond (Nat.blt 53 n) (.ref (q 96)) .null, cond (Nat.blt 54 n) (.ref (q 97)) .null, cond (Nat.blt 55 n) (.ref (q 98)) .null, cond (Nat.blt 56 n) (.ref (q 99)) .null, cond (Nat.blt 57 n) (.ref (q 100)) .null, cond (Nat.blt 58 n) (.ref (q 101)) .null, cond (Nat.blt 59 n) (.ref (q 102)) .null, cond (Nat.blt 60 n) (.ref (q 103)) .null, cond (Nat.blt 61 n) (.ref (q 104)) .null, cond (Nat.blt 62 n) (.ref (q 105)) .null, cond (Nat.blt 63 n) (.ref (q 106)) .null, cond (Nat.blt 64 n) (.ref (q 107)) .null, cond (Nat.blt 65 n) (.ref (q 108)) .null, cond (Nat.blt 66 n) (.ref (q 109)) .null, cond (Nat.blt 67 n) (.ref (q 110)) .null, cond (Nat.blt 68 n) (.ref (q 111)) .null, cond (Nat.blt 69 n) (.ref (q 112)) .null, cond (Nat.blt 70 n) (.ref (q 113)) .null, cond (Nat.blt 71 n) (.ref (q 114)) .null, cond (Nat.blt 72 n) (.ref (q 115)) .null, cond (Nat.blt 73 n) (.ref (q 116)) .null, cond (Nat.blt 74 n) (.ref (q 117)) .null, cond (Nat.blt 75 n) (.ref (q 118)) .null, cond (Nat.blt 76 n) (.ref (q 119)) .null, cond (Nat.blt 77 n) (.ref (q 120)) .null, cond (Nat.blt 78 n) (.ref (q 121)) .null, cond (Nat.blt 79 n) (.ref (q 122)) .null, cond (Nat.blt 80 n) (.ref (q 123)) .null, cond (Nat.blt 81 n) (.ref (q 124)) .null, cond (Nat.blt 82 n) (.ref (q 125)) .null, cond (Nat.blt 83 n) (.ref (q 126)) .null, cond (Nat.blt 84 n) (.ref (q 127)) .null, cond (Nat.blt 85 n) (.ref (q 128)) .null, cond (Nat.blt 86 n) (.ref (q 129)) .null, cond (Nat.blt 87 n) (.ref (q 130)) .null, .int (I 131), cond (Nat.blt 88 n) (.ref (q 132)) .null, cond (Nat.blt 89 n) (.ref (q 133)) .null, cond (Nat.blt 90 n) (.ref (q 134)) .null, cond (Nat.blt 91 n) (.ref (q 135)) .null, cond (Nat.blt 92 n) (.ref (q 136)) .null, cond (Nat.blt 93 n) (.ref (q 137)) .null, cond (Nat.blt 94 n) (.ref (q 138)) .null, cond (Nat.blt 95 n) (.ref (q 139)) .null, cond (Nat.blt 96 n) (.ref (q 140)) .null, cond (Nat.blt 97 n) (.ref (q 141)) .null, cond (Nat.blt 98 n) (.ref (q 142)) .null, cond (Nat.blt 99 n) (.ref (q 143)) .null, cond (Nat.blt 100 n) (.ref (q 144)) .null]
def iW (E : mE) (h n k : Nat) (q : Nat → Nat) (I : Nat → Int32) (B : Nat → Nat → Int32) : va_W := (h, .inr (0, mFz n q I)) :: (mAs E.1 E.2.1 E.2.2.1 E.2.2.2 q B (fun _ _ => 0)).take k
def iH (D : mD) (E : mE) (A : Nat → Prop) (H0 : Heap) (h n k : Nat) (q : Nat → Nat) (I : Nat → Int32) (B : Nat → Nat → Int32) (H : Heap) (locs : List Loc) : Prop := va_P D.1 mCl (iW E h n k q I B) H ∧ va_D A (iW E h n k q I B) ∧ va_S A H0 H locs
theorem by8_zero : by8 (fun _ => 0) := fun _ => ⟨0, by decide, rfl⟩
section IROWS
variable {p : Program} {l : Launch} {e : Env} {R : Room} {s : State} {m : MethodId} {args : Array Value} {below : List Frame} {meth : Method} {c : Code} {H : Heap} {locs : List Loc} {cells slots : Nat} {Q : State → Prop} {cc : ByteArray} {pc : Nat} {ls : Array Slot} {rest : List Value} {D : mD} {E : mE} {A : Nat → Prop} {H0 : Heap} {h : Nat} {q : Nat → Nat} {I : Nat → Int32} {B : Nat → Nat → Int32}
/-- a new array: the next of the object's -/
theorem i_newa {k f N : Nat} (X : mX p c cc args s m D E) (Y : iH D E A H0 h k k q I B H locs) (hA : ∀ q, H0.size ≤ q → A q) {atype : ArrayType} {ty : FieldType} {S : String} (hty : newarray.typeOf atype = ty) (hRA : ∀ (U : State) (x : ClassId), va_RA U x ty → U.vm.findClass S = some x) (harr : Cond.arrayClass ty ∈ lw_tg) (j : Nat) {cE : ClassId} (hj : (mTy E)[j]? = some (cE, ty)) {a0 : vp_A} (ha : ∀ cA : ClassId, vp_cell cA a0 = arrV cA N (fun _ => defaultValue ty)) {n : Int32} (hn : ¬ n < 0) (hN : n.toNatClampNeg = N) (hbytes : N * componentBytes ty ≤ 536870912) (hcells : cells + 1 ≤ R.cells) (hslots : slots + N ≤ R.slots) (hW : ∀ a, iW E h k k q I B ++ [(a, .inl (cE, a0))] = iW E h k (k + 1) (updq q f a) I B) (hdg : decode cc pc = .ok (.newarray atype, 2))
    (kk : ∀ (q2 : Nat → Nat) (H1 : Heap), iH D E A H0 h k (k + 1) q2 I B H1 locs → W p l e R s m args below meth c H1 locs (cells + 1) (slots + N) Q (F0 m (pc + 2) ls (.ref (q2 f) :: rest))) : W p l e R s m args below meth c H locs cells slots Q (F0 m pc ls (.int n :: rest)) := by
  refine va_newa X.1 X.2.1 (by rw [hty]; exact X.2.2.1 _ harr) hty X.2.2.2.2.1 Y.1 Y.2.1 Y.2.2 hA ha hn hN hbytes hcells hslots hdg (fun a cA H1 hK hP hD hS => ?_)
  have h1 := hRA _ _ (X.2.2.2.2.1.2 j _ hj).2
  have h2 := hRA _ _ (hK.2 4 (cA, ty) rfl).2
  have hc : cA = cE := Option.some.inj (h2.symm.trans h1)
  rw [hc, hW a] at hP hD
  have h3 := kk (updq q f a) H1 ⟨hP, hD, hS⟩
  have h4 : updq q f a f = a := by unfold updq; rw [show Nat.beq f f = true from Nat.beq_refl f]; rfl
  rw [h4] at h3
  exact h3
/-- it goes into its field -/
theorem i_putr {k f ix : Nat} (X : mX p c cc args s m D E) (Y : iH D E A H0 h k (k + 1) q I B H locs) (hk : f < 145) (hl : Cond.fieldLink R_M ix R_M (F_M f).2.1 (F_M f).2.2.1 ∈ lw_tg) (hs : (F_M f).1 = R_M) (hfin : (F_M f).2.2.2 = true) (hin : meth.name = "<init>") {ty : FieldType} (hd : parseFieldDescriptor (F_M f).2.2.1 = some ty) (hn : narrow ty (.ref (q f)) = .ref (q f)) (hfit : fits ty (.ref (q f)) = true) (hset : (mFz k q I).set f (.ref (q f)) = mFz (k + 1) q I) (hlen : f < (mFz k q I).length) (hdg : decode cc pc = .ok (.putfield ix, 3))
    (kk : ∀ (H1 : Heap) (locs1 : List Loc), iH D E A H0 h (k + 1) (k + 1) q I B H1 locs1 → W p l e R s m args below meth c H1 locs1 cells slots Q (F0 m (pc + 3) ls rest)) : W p l e R s m args below meth c H locs cells slots Q (F0 m pc ls (.ref (q f) :: .ref h :: rest)) := by
  refine va_putF (D := D.1) (ci := 0) (C := R_M) (T := F_M) (N := 145) X.1 X.2.1 X.2.2.1 i_M t_M t_M_ok n_M X.2.2.2.1 X.2.2.2.2.1 Y.1 Y.2.1 Y.2.2 0 (fs := mFz k q I) rfl rfl f hk (X.2.2.1 _ hl) (fun _ h9 => by rw [hs] at h9; exact h9) hfin hin hs hd hn hfit hlen hdg (fun H1 locs1 hP hD hS => ?_)
  rw [hset] at hP hD
  exact kk H1 locs1 ⟨hP, hD, hS⟩
theorem i_puti {n k f ix : Nat} {x : Int32} {I2 : Nat → Int32} (X : mX p c cc args s m D E) (Y : iH D E A H0 h n k q I B H locs) (hk : f < 145) (hl : Cond.fieldLink R_M ix R_M (F_M f).2.1 (F_M f).2.2.1 ∈ lw_tg) (hs : (F_M f).1 = R_M) (hf : (F_M f).2.2.2 = false) {ty : FieldType} (hd : parseFieldDescriptor (F_M f).2.2.1 = some ty) (hn : narrow ty (.int x) = .int x) (hfit : fits ty (.int x) = true) (hset : (mFz n q I).set f (.int x) = mFz n q I2) (hlen : f < (mFz n q I).length) (hdg : decode cc pc = .ok (.putfield ix, 3))
    (kk : ∀ (H1 : Heap) (locs1 : List Loc), iH D E A H0 h n k q I2 B H1 locs1 → W p l e R s m args below meth c H1 locs1 cells slots Q (F0 m (pc + 3) ls rest)) : W p l e R s m args below meth c H locs cells slots Q (F0 m pc ls (.int x :: .ref h :: rest)) := by
  refine va_put (D := D.1) (ci := 0) (C := R_M) (T := F_M) (N := 145) X.1 X.2.1 X.2.2.1 i_M t_M t_M_ok n_M X.2.2.2.1 X.2.2.2.2.1 Y.1 Y.2.1 Y.2.2 0 (fs := mFz n q I) rfl rfl f hk (X.2.2.1 _ hl) (fun _ h9 => by rw [hs] at h9; exact h9) hf hd hn hfit hlen hdg (fun H1 locs1 hP hD hS => ?_)
  rw [hset] at hP hD
  exact kk H1 locs1 ⟨hP, hD, hS⟩
/-- a byte into the array that is being made -/
theorem i_bast {n k f N : Nat} {g : Nat → Int32} {i x : Int32} (X : mX p c cc args s m D E) (Y : iH D E A H0 h n k q I (upB B f g) H locs) (pl : Nat) (ha : (iW E h n k q I (upB B f g))[pl]? = some (q f, .inl (E.1, N, .inl g))) (hin : vp_in i N) (hset : ∀ g2, (iW E h n k q I (upB B f g)).set pl (q f, .inl (E.1, N, .inl g2)) = iW E h n k q I (upB B f g2)) (hdg : decode cc pc = .ok (.bastore, 1))
    (kk : ∀ (g2 : Nat → Int32) (H1 : Heap) (locs1 : List Loc), iH D E A H0 h n k q I (upB B f g2) H1 locs1 → W p l e R s m args below meth c H1 locs1 cells slots Q (F0 m (pc + 1) ls rest)) : W p l e R s m args below meth c H locs cells slots Q (F0 m pc ls (.int x :: .int i :: .ref (q f) :: rest)) := by
  refine va_bast X.1 X.2.1 X.2.2.2.2.1 Y.1 Y.2.1 Y.2.2 pl 0 ha rfl hin hdg (fun H1 locs1 hP hD hS => ?_)
  rw [hset] at hP hD
  exact kk _ H1 locs1 ⟨hP, hD, hS⟩
end IROWS
abbrev b_init : ByteArray := prog_14_method_1_code
def y_init : MethodName := ⟨R_M, "<init>", "()V"⟩
abbrev k_init : Cond := .code y_init b_init 1 none
theorem ki_init : k_init ∈ lw_tg := in_t 1749 (by decide +kernel)
theorem ks_init : Cond.instanceMethod y_init ∈ lw_tg := in_t 1748 (by decide +kernel)
theorem d_init_0 : decode b_init 0 = .ok (.aload_n 0, 1) := by decide +kernel
theorem d_init_1 : decode b_init 1 = .ok (.invokespecial 3, 3) := by decide +kernel
theorem d_init_4 : decode b_init 4 = .ok (.aload_n 0, 1) := by decide +kernel
theorem d_init_5 : decode b_init 5 = .ok (.ldc 9, 2) := by decide +kernel
theorem d_init_7 : decode b_init 7 = .ok (.newarray .byte, 2) := by decide +kernel
theorem d_init_9 : decode b_init 9 = .ok (.putfield 10, 3) := by decide +kernel
theorem d_init_12 : decode b_init 12 = .ok (.aload_n 0, 1) := by decide +kernel
theorem d_init_13 : decode b_init 13 = .ok (.sipush 20000, 3) := by decide +kernel
theorem d_init_16 : decode b_init 16 = .ok (.newarray .byte, 2) := by decide +kernel
theorem d_init_18 : decode b_init 18 = .ok (.putfield 14, 3) := by decide +kernel
theorem d_init_21 : decode b_init 21 = .ok (.aload_n 0, 1) := by decide +kernel
theorem d_init_22 : decode b_init 22 = .ok (.ldc 17, 2) := by decide +kernel
theorem d_init_24 : decode b_init 24 = .ok (.putfield 18, 3) := by decide +kernel
theorem d_init_27 : decode b_init 27 = .ok (.aload_n 0, 1) := by decide +kernel
theorem d_init_28 : decode b_init 28 = .ok (.iconst 5, 1) := by decide +kernel
theorem d_init_29 : decode b_init 29 = .ok (.newarray .int, 2) := by decide +kernel
theorem d_init_31 : decode b_init 31 = .ok (.putfield 22, 3) := by decide +kernel
theorem d_init_34 : decode b_init 34 = .ok (.aload_n 0, 1) := by decide +kernel
theorem d_init_35 : decode b_init 35 = .ok (.bipush 80, 2) := by decide +kernel
theorem d_init_37 : decode b_init 37 = .ok (.newarray .int, 2) := by decide +kernel
theorem d_init_39 : decode b_init 39 = .ok (.putfield 26, 3) := by decide +kernel
theorem d_init_42 : decode b_init 42 = .ok (.aload_n 0, 1) := by decide +kernel
theorem d_init_43 : decode b_init 43 = .ok (.bipush 64, 2) := by decide +kernel
theorem d_init_45 : decode b_init 45 = .ok (.newarray .byte, 2) := by decide +kernel
theorem d_init_47 : decode b_init 47 = .ok (.putfield 29, 3) := by decide +kernel
theorem d_init_50 : decode b_init 50 = .ok (.aload_n 0, 1) := by decide +kernel
theorem d_init_51 : decode b_init 51 = .ok (.bipush 20, 2) := by decide +kernel
theorem d_init_53 : decode b_init 53 = .ok (.newarray .byte, 2) := by decide +kernel
theorem d_init_55 : decode b_init 55 = .ok (.putfield 32, 3) := by decide +kernel
theorem d_init_58 : decode b_init 58 = .ok (.aload_n 0, 1) := by decide +kernel
theorem d_init_59 : decode b_init 59 = .ok (.bipush 20, 2) := by decide +kernel
theorem d_init_61 : decode b_init 61 = .ok (.newarray .byte, 2) := by decide +kernel
theorem d_init_63 : decode b_init 63 = .ok (.putfield 35, 3) := by decide +kernel
theorem d_init_66 : decode b_init 66 = .ok (.aload_n 0, 1) := by decide +kernel
theorem d_init_67 : decode b_init 67 = .ok (.bipush 64, 2) := by decide +kernel
theorem d_init_69 : decode b_init 69 = .ok (.newarray .byte, 2) := by decide +kernel
theorem d_init_71 : decode b_init 71 = .ok (.putfield 38, 3) := by decide +kernel
theorem d_init_74 : decode b_init 74 = .ok (.aload_n 0, 1) := by decide +kernel
theorem d_init_75 : decode b_init 75 = .ok (.sipush 256, 3) := by decide +kernel
theorem d_init_78 : decode b_init 78 = .ok (.newarray .int, 2) := by decide +kernel
theorem d_init_80 : decode b_init 80 = .ok (.putfield 41, 3) := by decide +kernel
theorem d_init_83 : decode b_init 83 = .ok (.aload_n 0, 1) := by decide +kernel
theorem d_init_84 : decode b_init 84 = .ok (.sipush 256, 3) := by decide +kernel
theorem d_init_87 : decode b_init 87 = .ok (.newarray .int, 2) := by decide +kernel
theorem d_init_89 : decode b_init 89 = .ok (.putfield 44, 3) := by decide +kernel
theorem d_init_92 : decode b_init 92 = .ok (.aload_n 0, 1) := by decide +kernel
theorem d_init_93 : decode b_init 93 = .ok (.bipush 60, 2) := by decide +kernel
theorem d_init_95 : decode b_init 95 = .ok (.newarray .int, 2) := by decide +kernel
theorem d_init_97 : decode b_init 97 = .ok (.putfield 47, 3) := by decide +kernel
theorem d_init_100 : decode b_init 100 = .ok (.aload_n 0, 1) := by decide +kernel
theorem d_init_101 : decode b_init 101 = .ok (.bipush 16, 2) := by decide +kernel
theorem d_init_103 : decode b_init 103 = .ok (.newarray .int, 2) := by decide +kernel
theorem d_init_105 : decode b_init 105 = .ok (.putfield 50, 3) := by decide +kernel
theorem d_init_108 : decode b_init 108 = .ok (.aload_n 0, 1) := by decide +kernel
theorem d_init_109 : decode b_init 109 = .ok (.bipush 16, 2) := by decide +kernel
theorem d_init_111 : decode b_init 111 = .ok (.newarray .int, 2) := by decide +kernel
theorem d_init_113 : decode b_init 113 = .ok (.putfield 53, 3) := by decide +kernel
theorem d_init_116 : decode b_init 116 = .ok (.aload_n 0, 1) := by decide +kernel
theorem d_init_117 : decode b_init 117 = .ok (.bipush 16, 2) := by decide +kernel
theorem d_init_119 : decode b_init 119 = .ok (.newarray .byte, 2) := by decide +kernel
theorem d_init_121 : decode b_init 121 = .ok (.putfield 56, 3) := by decide +kernel
theorem d_init_124 : decode b_init 124 = .ok (.aload_n 0, 1) := by decide +kernel
theorem d_init_125 : decode b_init 125 = .ok (.bipush 32, 2) := by decide +kernel
theorem d_init_127 : decode b_init 127 = .ok (.newarray .byte, 2) := by decide +kernel
theorem d_init_129 : decode b_init 129 = .ok (.putfield 59, 3) := by decide +kernel
theorem d_init_132 : decode b_init 132 = .ok (.aload_n 0, 1) := by decide +kernel
theorem d_init_133 : decode b_init 133 = .ok (.bipush 16, 2) := by decide +kernel
theorem d_init_135 : decode b_init 135 = .ok (.newarray .int, 2) := by decide +kernel
theorem d_init_137 : decode b_init 137 = .ok (.putfield 62, 3) := by decide +kernel
theorem d_init_140 : decode b_init 140 = .ok (.aload_n 0, 1) := by decide +kernel
theorem d_init_141 : decode b_init 141 = .ok (.iconst 5, 1) := by decide +kernel
theorem d_init_142 : decode b_init 142 = .ok (.newarray .byte, 2) := by decide +kernel
theorem d_init_144 : decode b_init 144 = .ok (.putfield 65, 3) := by decide +kernel
theorem d_init_147 : decode b_init 147 = .ok (.aload_n 0, 1) := by decide +kernel
theorem d_init_148 : decode b_init 148 = .ok (.bipush 32, 2) := by decide +kernel
theorem d_init_150 : decode b_init 150 = .ok (.newarray .byte, 2) := by decide +kernel
theorem d_init_152 : decode b_init 152 = .ok (.putfield 68, 3) := by decide +kernel
theorem d_init_155 : decode b_init 155 = .ok (.aload_n 0, 1) := by decide +kernel
theorem d_init_156 : decode b_init 156 = .ok (.bipush 60, 2) := by decide +kernel
theorem d_init_158 : decode b_init 158 = .ok (.newarray .byte, 2) := by decide +kernel
theorem d_init_160 : decode b_init 160 = .ok (.putfield 71, 3) := by decide +kernel
theorem d_init_163 : decode b_init 163 = .ok (.aload_n 0, 1) := by decide +kernel
theorem d_init_164 : decode b_init 164 = .ok (.bipush 30, 2) := by decide +kernel
theorem d_init_166 : decode b_init 166 = .ok (.newarray .byte, 2) := by decide +kernel
theorem d_init_168 : decode b_init 168 = .ok (.putfield 74, 3) := by decide +kernel
theorem d_init_171 : decode b_init 171 = .ok (.aload_n 0, 1) := by decide +kernel
theorem d_init_172 : decode b_init 172 = .ok (.bipush 20, 2) := by decide +kernel
theorem d_init_174 : decode b_init 174 = .ok (.newarray .byte, 2) := by decide +kernel
theorem d_init_176 : decode b_init 176 = .ok (.putfield 77, 3) := by decide +kernel
theorem d_init_179 : decode b_init 179 = .ok (.aload_n 0, 1) := by decide +kernel
theorem d_init_180 : decode b_init 180 = .ok (.bipush 40, 2) := by decide +kernel
theorem d_init_182 : decode b_init 182 = .ok (.newarray .byte, 2) := by decide +kernel
theorem d_init_184 : decode b_init 184 = .ok (.putfield 80, 3) := by decide +kernel
theorem d_init_187 : decode b_init 187 = .ok (.aload_n 0, 1) := by decide +kernel
theorem d_init_188 : decode b_init 188 = .ok (.bipush 8, 2) := by decide +kernel
theorem d_init_190 : decode b_init 190 = .ok (.newarray .byte, 2) := by decide +kernel
theorem d_init_192 : decode b_init 192 = .ok (.dup, 1) := by decide +kernel
theorem d_init_193 : decode b_init 193 = .ok (.iconst 0, 1) := by decide +kernel
theorem d_init_194 : decode b_init 194 = .ok (.bipush 107, 2) := by decide +kernel
theorem d_init_196 : decode b_init 196 = .ok (.bastore, 1) := by decide +kernel
theorem d_init_197 : decode b_init 197 = .ok (.dup, 1) := by decide +kernel
theorem d_init_198 : decode b_init 198 = .ok (.iconst 1, 1) := by decide +kernel
theorem d_init_199 : decode b_init 199 = .ok (.bipush 101, 2) := by decide +kernel
theorem d_init_201 : decode b_init 201 = .ok (.bastore, 1) := by decide +kernel
theorem d_init_202 : decode b_init 202 = .ok (.dup, 1) := by decide +kernel
theorem d_init_203 : decode b_init 203 = .ok (.iconst 2, 1) := by decide +kernel
theorem d_init_204 : decode b_init 204 = .ok (.bipush 114, 2) := by decide +kernel
theorem d_init_206 : decode b_init 206 = .ok (.bastore, 1) := by decide +kernel
theorem d_init_207 : decode b_init 207 = .ok (.dup, 1) := by decide +kernel
theorem d_init_208 : decode b_init 208 = .ok (.iconst 3, 1) := by decide +kernel
theorem d_init_209 : decode b_init 209 = .ok (.bipush 98, 2) := by decide +kernel
theorem d_init_211 : decode b_init 211 = .ok (.bastore, 1) := by decide +kernel
theorem d_init_212 : decode b_init 212 = .ok (.dup, 1) := by decide +kernel
theorem d_init_213 : decode b_init 213 = .ok (.iconst 4, 1) := by decide +kernel
theorem d_init_214 : decode b_init 214 = .ok (.bipush 101, 2) := by decide +kernel
theorem d_init_216 : decode b_init 216 = .ok (.bastore, 1) := by decide +kernel
theorem d_init_217 : decode b_init 217 = .ok (.dup, 1) := by decide +kernel
theorem d_init_218 : decode b_init 218 = .ok (.iconst 5, 1) := by decide +kernel
theorem d_init_219 : decode b_init 219 = .ok (.bipush 114, 2) := by decide +kernel
theorem d_init_221 : decode b_init 221 = .ok (.bastore, 1) := by decide +kernel
theorem d_init_222 : decode b_init 222 = .ok (.dup, 1) := by decide +kernel
theorem d_init_223 : decode b_init 223 = .ok (.bipush 6, 2) := by decide +kernel
theorem d_init_225 : decode b_init 225 = .ok (.bipush 111, 2) := by decide +kernel
theorem d_init_227 : decode b_init 227 = .ok (.bastore, 1) := by decide +kernel
theorem d_init_228 : decode b_init 228 = .ok (.dup, 1) := by decide +kernel
theorem d_init_229 : decode b_init 229 = .ok (.bipush 7, 2) := by decide +kernel
theorem d_init_231 : decode b_init 231 = .ok (.bipush 115, 2) := by decide +kernel
theorem d_init_233 : decode b_init 233 = .ok (.bastore, 1) := by decide +kernel
theorem d_init_234 : decode b_init 234 = .ok (.putfield 83, 3) := by decide +kernel
theorem d_init_237 : decode b_init 237 = .ok (.aload_n 0, 1) := by decide +kernel
theorem d_init_238 : decode b_init 238 = .ok (.bipush 64, 2) := by decide +kernel
theorem d_init_240 : decode b_init 240 = .ok (.newarray .byte, 2) := by decide +kernel
theorem d_init_242 : decode b_init 242 = .ok (.putfield 86, 3) := by decide +kernel
theorem d_init_245 : decode b_init 245 = .ok (.aload_n 0, 1) := by decide +kernel
theorem d_init_246 : decode b_init 246 = .ok (.sipush 20000, 3) := by decide +kernel
theorem d_init_249 : decode b_init 249 = .ok (.newarray .byte, 2) := by decide +kernel
theorem d_init_251 : decode b_init 251 = .ok (.putfield 89, 3) := by decide +kernel
theorem d_init_254 : decode b_init 254 = .ok (.aload_n 0, 1) := by decide +kernel
theorem d_init_255 : decode b_init 255 = .ok (.sipush 20000, 3) := by decide +kernel
theorem d_init_258 : decode b_init 258 = .ok (.newarray .byte, 2) := by decide +kernel
theorem d_init_260 : decode b_init 260 = .ok (.putfield 92, 3) := by decide +kernel
theorem d_init_263 : decode b_init 263 = .ok (.aload_n 0, 1) := by decide +kernel
theorem d_init_264 : decode b_init 264 = .ok (.sipush 192, 3) := by decide +kernel
theorem d_init_267 : decode b_init 267 = .ok (.newarray .int, 2) := by decide +kernel
theorem d_init_269 : decode b_init 269 = .ok (.putfield 95, 3) := by decide +kernel
theorem d_init_272 : decode b_init 272 = .ok (.aload_n 0, 1) := by decide +kernel
theorem d_init_273 : decode b_init 273 = .ok (.sipush 192, 3) := by decide +kernel
theorem d_init_276 : decode b_init 276 = .ok (.newarray .int, 2) := by decide +kernel
theorem d_init_278 : decode b_init 278 = .ok (.putfield 98, 3) := by decide +kernel
theorem d_init_281 : decode b_init 281 = .ok (.aload_n 0, 1) := by decide +kernel
theorem d_init_282 : decode b_init 282 = .ok (.sipush 480, 3) := by decide +kernel
theorem d_init_285 : decode b_init 285 = .ok (.newarray .byte, 2) := by decide +kernel
theorem d_init_287 : decode b_init 287 = .ok (.putfield 101, 3) := by decide +kernel
theorem d_init_290 : decode b_init 290 = .ok (.aload_n 0, 1) := by decide +kernel
theorem d_init_291 : decode b_init 291 = .ok (.bipush 12, 2) := by decide +kernel
theorem d_init_293 : decode b_init 293 = .ok (.newarray .int, 2) := by decide +kernel
theorem d_init_295 : decode b_init 295 = .ok (.putfield 104, 3) := by decide +kernel
theorem d_init_298 : decode b_init 298 = .ok (.aload_n 0, 1) := by decide +kernel
theorem d_init_299 : decode b_init 299 = .ok (.bipush 12, 2) := by decide +kernel
theorem d_init_301 : decode b_init 301 = .ok (.newarray .int, 2) := by decide +kernel
theorem d_init_303 : decode b_init 303 = .ok (.putfield 107, 3) := by decide +kernel
theorem d_init_306 : decode b_init 306 = .ok (.aload_n 0, 1) := by decide +kernel
theorem d_init_307 : decode b_init 307 = .ok (.bipush 12, 2) := by decide +kernel
theorem d_init_309 : decode b_init 309 = .ok (.newarray .int, 2) := by decide +kernel
theorem d_init_311 : decode b_init 311 = .ok (.putfield 110, 3) := by decide +kernel
theorem d_init_314 : decode b_init 314 = .ok (.aload_n 0, 1) := by decide +kernel
theorem d_init_315 : decode b_init 315 = .ok (.bipush 12, 2) := by decide +kernel
theorem d_init_317 : decode b_init 317 = .ok (.newarray .int, 2) := by decide +kernel
theorem d_init_319 : decode b_init 319 = .ok (.putfield 113, 3) := by decide +kernel
theorem d_init_322 : decode b_init 322 = .ok (.aload_n 0, 1) := by decide +kernel
theorem d_init_323 : decode b_init 323 = .ok (.bipush 12, 2) := by decide +kernel
theorem d_init_325 : decode b_init 325 = .ok (.newarray .int, 2) := by decide +kernel
theorem d_init_327 : decode b_init 327 = .ok (.putfield 116, 3) := by decide +kernel
theorem d_init_330 : decode b_init 330 = .ok (.aload_n 0, 1) := by decide +kernel
theorem d_init_331 : decode b_init 331 = .ok (.bipush 12, 2) := by decide +kernel
theorem d_init_333 : decode b_init 333 = .ok (.newarray .int, 2) := by decide +kernel
theorem d_init_335 : decode b_init 335 = .ok (.putfield 119, 3) := by decide +kernel
theorem d_init_338 : decode b_init 338 = .ok (.aload_n 0, 1) := by decide +kernel
theorem d_init_339 : decode b_init 339 = .ok (.bipush 12, 2) := by decide +kernel
theorem d_init_341 : decode b_init 341 = .ok (.newarray .int, 2) := by decide +kernel
theorem d_init_343 : decode b_init 343 = .ok (.putfield 122, 3) := by decide +kernel
theorem d_init_346 : decode b_init 346 = .ok (.aload_n 0, 1) := by decide +kernel
theorem d_init_347 : decode b_init 347 = .ok (.sipush 1536, 3) := by decide +kernel
theorem d_init_350 : decode b_init 350 = .ok (.newarray .byte, 2) := by decide +kernel
theorem d_init_352 : decode b_init 352 = .ok (.putfield 125, 3) := by decide +kernel
theorem d_init_355 : decode b_init 355 = .ok (.aload_n 0, 1) := by decide +kernel
theorem d_init_356 : decode b_init 356 = .ok (.bipush 40, 2) := by decide +kernel
theorem d_init_358 : decode b_init 358 = .ok (.newarray .byte, 2) := by decide +kernel
theorem d_init_360 : decode b_init 360 = .ok (.putfield 128, 3) := by decide +kernel
theorem d_init_363 : decode b_init 363 = .ok (.aload_n 0, 1) := by decide +kernel
theorem d_init_364 : decode b_init 364 = .ok (.bipush 32, 2) := by decide +kernel
theorem d_init_366 : decode b_init 366 = .ok (.newarray .byte, 2) := by decide +kernel
theorem d_init_368 : decode b_init 368 = .ok (.putfield 131, 3) := by decide +kernel
theorem d_init_371 : decode b_init 371 = .ok (.aload_n 0, 1) := by decide +kernel
theorem d_init_372 : decode b_init 372 = .ok (.bipush 32, 2) := by decide +kernel
theorem d_init_374 : decode b_init 374 = .ok (.putfield 134, 3) := by decide +kernel
theorem d_init_377 : decode b_init 377 = .ok (.aload_n 0, 1) := by decide +kernel
theorem d_init_378 : decode b_init 378 = .ok (.bipush 32, 2) := by decide +kernel
theorem d_init_380 : decode b_init 380 = .ok (.newarray .byte, 2) := by decide +kernel
theorem d_init_382 : decode b_init 382 = .ok (.putfield 137, 3) := by decide +kernel
theorem d_init_385 : decode b_init 385 = .ok (.aload_n 0, 1) := by decide +kernel
theorem d_init_386 : decode b_init 386 = .ok (.bipush 32, 2) := by decide +kernel
theorem d_init_388 : decode b_init 388 = .ok (.newarray .byte, 2) := by decide +kernel
theorem d_init_390 : decode b_init 390 = .ok (.putfield 140, 3) := by decide +kernel
theorem d_init_393 : decode b_init 393 = .ok (.aload_n 0, 1) := by decide +kernel
theorem d_init_394 : decode b_init 394 = .ok (.bipush 32, 2) := by decide +kernel
theorem d_init_396 : decode b_init 396 = .ok (.newarray .byte, 2) := by decide +kernel
theorem d_init_398 : decode b_init 398 = .ok (.putfield 143, 3) := by decide +kernel
theorem d_init_401 : decode b_init 401 = .ok (.aload_n 0, 1) := by decide +kernel
theorem d_init_402 : decode b_init 402 = .ok (.sipush 18304, 3) := by decide +kernel
theorem d_init_405 : decode b_init 405 = .ok (.newarray .byte, 2) := by decide +kernel
theorem d_init_407 : decode b_init 407 = .ok (.putfield 146, 3) := by decide +kernel
theorem d_init_410 : decode b_init 410 = .ok (.aload_n 0, 1) := by decide +kernel
theorem d_init_411 : decode b_init 411 = .ok (.sipush 416, 3) := by decide +kernel
theorem d_init_414 : decode b_init 414 = .ok (.newarray .int, 2) := by decide +kernel
theorem d_init_416 : decode b_init 416 = .ok (.putfield 149, 3) := by decide +kernel
theorem d_init_419 : decode b_init 419 = .ok (.aload_n 0, 1) := by decide +kernel
theorem d_init_420 : decode b_init 420 = .ok (.sipush 416, 3) := by decide +kernel
theorem d_init_423 : decode b_init 423 = .ok (.newarray .int, 2) := by decide +kernel
theorem d_init_425 : decode b_init 425 = .ok (.putfield 152, 3) := by decide +kernel
theorem d_init_428 : decode b_init 428 = .ok (.aload_n 0, 1) := by decide +kernel
theorem d_init_429 : decode b_init 429 = .ok (.bipush 13, 2) := by decide +kernel
theorem d_init_431 : decode b_init 431 = .ok (.newarray .int, 2) := by decide +kernel
theorem d_init_433 : decode b_init 433 = .ok (.putfield 155, 3) := by decide +kernel
theorem d_init_436 : decode b_init 436 = .ok (.aload_n 0, 1) := by decide +kernel
theorem d_init_437 : decode b_init 437 = .ok (.sipush 416, 3) := by decide +kernel
theorem d_init_440 : decode b_init 440 = .ok (.newarray .long, 2) := by decide +kernel
theorem d_init_442 : decode b_init 442 = .ok (.putfield 158, 3) := by decide +kernel
theorem d_init_445 : decode b_init 445 = .ok (.aload_n 0, 1) := by decide +kernel
theorem d_init_446 : decode b_init 446 = .ok (.iconst 4, 1) := by decide +kernel
theorem d_init_447 : decode b_init 447 = .ok (.newarray .byte, 2) := by decide +kernel
theorem d_init_449 : decode b_init 449 = .ok (.putfield 162, 3) := by decide +kernel
theorem d_init_452 : decode b_init 452 = .ok (.aload_n 0, 1) := by decide +kernel
theorem d_init_453 : decode b_init 453 = .ok (.iconst 4, 1) := by decide +kernel
theorem d_init_454 : decode b_init 454 = .ok (.newarray .boolean, 2) := by decide +kernel
theorem d_init_456 : decode b_init 456 = .ok (.putfield 165, 3) := by decide +kernel
theorem d_init_459 : decode b_init 459 = .ok (.aload_n 0, 1) := by decide +kernel
theorem d_init_460 : decode b_init 460 = .ok (.sipush 160, 3) := by decide +kernel
theorem d_init_463 : decode b_init 463 = .ok (.newarray .byte, 2) := by decide +kernel
theorem d_init_465 : decode b_init 465 = .ok (.putfield 169, 3) := by decide +kernel
theorem d_init_468 : decode b_init 468 = .ok (.aload_n 0, 1) := by decide +kernel
theorem d_init_469 : decode b_init 469 = .ok (.iconst 4, 1) := by decide +kernel
theorem d_init_470 : decode b_init 470 = .ok (.newarray .int, 2) := by decide +kernel
theorem d_init_472 : decode b_init 472 = .ok (.putfield 172, 3) := by decide +kernel
theorem d_init_475 : decode b_init 475 = .ok (.aload_n 0, 1) := by decide +kernel
theorem d_init_476 : decode b_init 476 = .ok (.iconst 4, 1) := by decide +kernel
theorem d_init_477 : decode b_init 477 = .ok (.newarray .int, 2) := by decide +kernel
theorem d_init_479 : decode b_init 479 = .ok (.putfield 175, 3) := by decide +kernel
theorem d_init_482 : decode b_init 482 = .ok (.aload_n 0, 1) := by decide +kernel
theorem d_init_483 : decode b_init 483 = .ok (.iconst 4, 1) := by decide +kernel
theorem d_init_484 : decode b_init 484 = .ok (.newarray .int, 2) := by decide +kernel
theorem d_init_486 : decode b_init 486 = .ok (.putfield 178, 3) := by decide +kernel
theorem d_init_489 : decode b_init 489 = .ok (.aload_n 0, 1) := by decide +kernel
theorem d_init_490 : decode b_init 490 = .ok (.sipush 256, 3) := by decide +kernel
theorem d_init_493 : decode b_init 493 = .ok (.newarray .byte, 2) := by decide +kernel
theorem d_init_495 : decode b_init 495 = .ok (.putfield 181, 3) := by decide +kernel
theorem d_init_498 : decode b_init 498 = .ok (.aload_n 0, 1) := by decide +kernel
theorem d_init_499 : decode b_init 499 = .ok (.bipush 32, 2) := by decide +kernel
theorem d_init_501 : decode b_init 501 = .ok (.newarray .boolean, 2) := by decide +kernel
theorem d_init_503 : decode b_init 503 = .ok (.putfield 184, 3) := by decide +kernel
theorem d_init_506 : decode b_init 506 = .ok (.aload_n 0, 1) := by decide +kernel
theorem d_init_507 : decode b_init 507 = .ok (.ldc 187, 2) := by decide +kernel
theorem d_init_509 : decode b_init 509 = .ok (.newarray .byte, 2) := by decide +kernel
theorem d_init_511 : decode b_init 511 = .ok (.putfield 188, 3) := by decide +kernel
theorem d_init_514 : decode b_init 514 = .ok (.aload_n 0, 1) := by decide +kernel
theorem d_init_515 : decode b_init 515 = .ok (.sipush 1024, 3) := by decide +kernel
theorem d_init_518 : decode b_init 518 = .ok (.newarray .byte, 2) := by decide +kernel
theorem d_init_520 : decode b_init 520 = .ok (.putfield 191, 3) := by decide +kernel
theorem d_init_523 : decode b_init 523 = .ok (.aload_n 0, 1) := by decide +kernel
theorem d_init_524 : decode b_init 524 = .ok (.bipush 32, 2) := by decide +kernel
theorem d_init_526 : decode b_init 526 = .ok (.newarray .int, 2) := by decide +kernel
theorem d_init_528 : decode b_init 528 = .ok (.putfield 194, 3) := by decide +kernel
theorem d_init_531 : decode b_init 531 = .ok (.aload_n 0, 1) := by decide +kernel
theorem d_init_532 : decode b_init 532 = .ok (.bipush 32, 2) := by decide +kernel
theorem d_init_534 : decode b_init 534 = .ok (.newarray .int, 2) := by decide +kernel
theorem d_init_536 : decode b_init 536 = .ok (.putfield 197, 3) := by decide +kernel
theorem d_init_539 : decode b_init 539 = .ok (.aload_n 0, 1) := by decide +kernel
theorem d_init_540 : decode b_init 540 = .ok (.bipush 32, 2) := by decide +kernel
theorem d_init_542 : decode b_init 542 = .ok (.newarray .int, 2) := by decide +kernel
theorem d_init_544 : decode b_init 544 = .ok (.putfield 200, 3) := by decide +kernel
theorem d_init_547 : decode b_init 547 = .ok (.aload_n 0, 1) := by decide +kernel
theorem d_init_548 : decode b_init 548 = .ok (.bipush 32, 2) := by decide +kernel
theorem d_init_550 : decode b_init 550 = .ok (.newarray .long, 2) := by decide +kernel
theorem d_init_552 : decode b_init 552 = .ok (.putfield 203, 3) := by decide +kernel
theorem d_init_555 : decode b_init 555 = .ok (.aload_n 0, 1) := by decide +kernel
theorem d_init_556 : decode b_init 556 = .ok (.bipush 32, 2) := by decide +kernel
theorem d_init_558 : decode b_init 558 = .ok (.newarray .long, 2) := by decide +kernel
theorem d_init_560 : decode b_init 560 = .ok (.putfield 206, 3) := by decide +kernel
theorem d_init_563 : decode b_init 563 = .ok (.aload_n 0, 1) := by decide +kernel
theorem d_init_564 : decode b_init 564 = .ok (.bipush 32, 2) := by decide +kernel
theorem d_init_566 : decode b_init 566 = .ok (.newarray .long, 2) := by decide +kernel
theorem d_init_568 : decode b_init 568 = .ok (.putfield 209, 3) := by decide +kernel
theorem d_init_571 : decode b_init 571 = .ok (.aload_n 0, 1) := by decide +kernel
theorem d_init_572 : decode b_init 572 = .ok (.bipush 32, 2) := by decide +kernel
theorem d_init_574 : decode b_init 574 = .ok (.newarray .long, 2) := by decide +kernel
theorem d_init_576 : decode b_init 576 = .ok (.putfield 212, 3) := by decide +kernel
theorem d_init_579 : decode b_init 579 = .ok (.aload_n 0, 1) := by decide +kernel
theorem d_init_580 : decode b_init 580 = .ok (.sipush 12800, 3) := by decide +kernel
theorem d_init_583 : decode b_init 583 = .ok (.newarray .byte, 2) := by decide +kernel
theorem d_init_585 : decode b_init 585 = .ok (.putfield 215, 3) := by decide +kernel
theorem d_init_588 : decode b_init 588 = .ok (.aload_n 0, 1) := by decide +kernel
theorem d_init_589 : decode b_init 589 = .ok (.bipush 32, 2) := by decide +kernel
theorem d_init_591 : decode b_init 591 = .ok (.newarray .int, 2) := by decide +kernel
theorem d_init_593 : decode b_init 593 = .ok (.putfield 218, 3) := by decide +kernel
theorem d_init_596 : decode b_init 596 = .ok (.aload_n 0, 1) := by decide +kernel
theorem d_init_597 : decode b_init 597 = .ok (.bipush 32, 2) := by decide +kernel
theorem d_init_599 : decode b_init 599 = .ok (.newarray .int, 2) := by decide +kernel
theorem d_init_601 : decode b_init 601 = .ok (.putfield 221, 3) := by decide +kernel
theorem d_init_604 : decode b_init 604 = .ok (.aload_n 0, 1) := by decide +kernel
theorem d_init_605 : decode b_init 605 = .ok (.iconst 4, 1) := by decide +kernel
theorem d_init_606 : decode b_init 606 = .ok (.newarray .int, 2) := by decide +kernel
theorem d_init_608 : decode b_init 608 = .ok (.putfield 224, 3) := by decide +kernel
theorem d_init_611 : decode b_init 611 = .ok (.aload_n 0, 1) := by decide +kernel
theorem d_init_612 : decode b_init 612 = .ok (.iconst 4, 1) := by decide +kernel
theorem d_init_613 : decode b_init 613 = .ok (.newarray .int, 2) := by decide +kernel
theorem d_init_615 : decode b_init 615 = .ok (.putfield 227, 3) := by decide +kernel
theorem d_init_618 : decode b_init 618 = .ok (.aload_n 0, 1) := by decide +kernel
theorem d_init_619 : decode b_init 619 = .ok (.iconst 4, 1) := by decide +kernel
theorem d_init_620 : decode b_init 620 = .ok (.newarray .int, 2) := by decide +kernel
theorem d_init_622 : decode b_init 622 = .ok (.putfield 230, 3) := by decide +kernel
theorem d_init_625 : decode b_init 625 = .ok (.aload_n 0, 1) := by decide +kernel
theorem d_init_626 : decode b_init 626 = .ok (.iconst 4, 1) := by decide +kernel
theorem d_init_627 : decode b_init 627 = .ok (.newarray .int, 2) := by decide +kernel
theorem d_init_629 : decode b_init 629 = .ok (.putfield 233, 3) := by decide +kernel
theorem d_init_632 : decode b_init 632 = .ok (.aload_n 0, 1) := by decide +kernel
theorem d_init_633 : decode b_init 633 = .ok (.iconst 4, 1) := by decide +kernel
theorem d_init_634 : decode b_init 634 = .ok (.newarray .long, 2) := by decide +kernel
theorem d_init_636 : decode b_init 636 = .ok (.putfield 236, 3) := by decide +kernel
theorem d_init_639 : decode b_init 639 = .ok (.aload_n 0, 1) := by decide +kernel
theorem d_init_640 : decode b_init 640 = .ok (.iconst 4, 1) := by decide +kernel
theorem d_init_641 : decode b_init 641 = .ok (.newarray .boolean, 2) := by decide +kernel
theorem d_init_643 : decode b_init 643 = .ok (.putfield 239, 3) := by decide +kernel
theorem d_init_646 : decode b_init 646 = .ok (.aload_n 0, 1) := by decide +kernel
theorem d_init_647 : decode b_init 647 = .ok (.sipush 128, 3) := by decide +kernel
theorem d_init_650 : decode b_init 650 = .ok (.newarray .byte, 2) := by decide +kernel
theorem d_init_652 : decode b_init 652 = .ok (.putfield 242, 3) := by decide +kernel
theorem d_init_655 : decode b_init 655 = .ok (.aload_n 0, 1) := by decide +kernel
theorem d_init_656 : decode b_init 656 = .ok (.sipush 160, 3) := by decide +kernel
theorem d_init_659 : decode b_init 659 = .ok (.newarray .byte, 2) := by decide +kernel
theorem d_init_661 : decode b_init 661 = .ok (.putfield 245, 3) := by decide +kernel
theorem d_init_664 : decode b_init 664 = .ok (.aload_n 0, 1) := by decide +kernel
theorem d_init_665 : decode b_init 665 = .ok (.sipush 1600, 3) := by decide +kernel
theorem d_init_668 : decode b_init 668 = .ok (.newarray .byte, 2) := by decide +kernel
theorem d_init_670 : decode b_init 670 = .ok (.putfield 248, 3) := by decide +kernel
theorem d_init_673 : decode b_init 673 = .ok (.aload_n 0, 1) := by decide +kernel
theorem d_init_674 : decode b_init 674 = .ok (.iconst 4, 1) := by decide +kernel
theorem d_init_675 : decode b_init 675 = .ok (.newarray .int, 2) := by decide +kernel
theorem d_init_677 : decode b_init 677 = .ok (.putfield 251, 3) := by decide +kernel
theorem d_init_680 : decode b_init 680 = .ok (.aload_n 0, 1) := by decide +kernel
theorem d_init_681 : decode b_init 681 = .ok (.iconst 4, 1) := by decide +kernel
theorem d_init_682 : decode b_init 682 = .ok (.newarray .int, 2) := by decide +kernel
theorem d_init_684 : decode b_init 684 = .ok (.putfield 254, 3) := by decide +kernel
theorem d_init_687 : decode b_init 687 = .ok (.aload_n 0, 1) := by decide +kernel
theorem d_init_688 : decode b_init 688 = .ok (.iconst 4, 1) := by decide +kernel
theorem d_init_689 : decode b_init 689 = .ok (.newarray .boolean, 2) := by decide +kernel
theorem d_init_691 : decode b_init 691 = .ok (.putfield 257, 3) := by decide +kernel
theorem d_init_694 : decode b_init 694 = .ok (.aload_n 0, 1) := by decide +kernel
theorem d_init_695 : decode b_init 695 = .ok (.iconst 4, 1) := by decide +kernel
theorem d_init_696 : decode b_init 696 = .ok (.newarray .int, 2) := by decide +kernel
theorem d_init_698 : decode b_init 698 = .ok (.putfield 260, 3) := by decide +kernel
theorem d_init_701 : decode b_init 701 = .ok (.aload_n 0, 1) := by decide +kernel
theorem d_init_702 : decode b_init 702 = .ok (.iconst 4, 1) := by decide +kernel
theorem d_init_703 : decode b_init 703 = .ok (.newarray .int, 2) := by decide +kernel
theorem d_init_705 : decode b_init 705 = .ok (.putfield 263, 3) := by decide +kernel
theorem d_init_708 : decode b_init 708 = .ok (.aload_n 0, 1) := by decide +kernel
theorem d_init_709 : decode b_init 709 = .ok (.iconst 4, 1) := by decide +kernel
theorem d_init_710 : decode b_init 710 = .ok (.newarray .int, 2) := by decide +kernel
theorem d_init_712 : decode b_init 712 = .ok (.putfield 266, 3) := by decide +kernel
theorem d_init_715 : decode b_init 715 = .ok (.aload_n 0, 1) := by decide +kernel
theorem d_init_716 : decode b_init 716 = .ok (.iconst 4, 1) := by decide +kernel
theorem d_init_717 : decode b_init 717 = .ok (.newarray .int, 2) := by decide +kernel
theorem d_init_719 : decode b_init 719 = .ok (.putfield 269, 3) := by decide +kernel
theorem d_init_722 : decode b_init 722 = .ok (.aload_n 0, 1) := by decide +kernel
theorem d_init_723 : decode b_init 723 = .ok (.sipush 128, 3) := by decide +kernel
theorem d_init_726 : decode b_init 726 = .ok (.newarray .byte, 2) := by decide +kernel
theorem d_init_728 : decode b_init 728 = .ok (.putfield 272, 3) := by decide +kernel
theorem d_init_731 : decode b_init 731 = .ok (.aload_n 0, 1) := by decide +kernel
theorem d_init_732 : decode b_init 732 = .ok (.sipush 128, 3) := by decide +kernel
theorem d_init_735 : decode b_init 735 = .ok (.newarray .byte, 2) := by decide +kernel
theorem d_init_737 : decode b_init 737 = .ok (.putfield 275, 3) := by decide +kernel
theorem d_init_740 : decode b_init 740 = .ok (.aload_n 0, 1) := by decide +kernel
theorem d_init_741 : decode b_init 741 = .ok (.iconst 4, 1) := by decide +kernel
theorem d_init_742 : decode b_init 742 = .ok (.newarray .long, 2) := by decide +kernel
theorem d_init_744 : decode b_init 744 = .ok (.putfield 278, 3) := by decide +kernel
theorem d_init_747 : decode b_init 747 = .ok (.aload_n 0, 1) := by decide +kernel
theorem d_init_748 : decode b_init 748 = .ok (.iconst 4, 1) := by decide +kernel
theorem d_init_749 : decode b_init 749 = .ok (.newarray .long, 2) := by decide +kernel
theorem d_init_751 : decode b_init 751 = .ok (.putfield 281, 3) := by decide +kernel
theorem d_init_754 : decode b_init 754 = .ok (.aload_n 0, 1) := by decide +kernel
theorem d_init_755 : decode b_init 755 = .ok (.iconst 4, 1) := by decide +kernel
theorem d_init_756 : decode b_init 756 = .ok (.newarray .long, 2) := by decide +kernel
theorem d_init_758 : decode b_init 758 = .ok (.putfield 284, 3) := by decide +kernel
theorem d_init_761 : decode b_init 761 = .ok (.aload_n 0, 1) := by decide +kernel
theorem d_init_762 : decode b_init 762 = .ok (.bipush 12, 2) := by decide +kernel
theorem d_init_764 : decode b_init 764 = .ok (.newarray .byte, 2) := by decide +kernel
theorem d_init_766 : decode b_init 766 = .ok (.putfield 287, 3) := by decide +kernel
theorem d_init_769 : decode b_init 769 = .ok (.aload_n 0, 1) := by decide +kernel
theorem d_init_770 : decode b_init 770 = .ok (.bipush 8, 2) := by decide +kernel
theorem d_init_772 : decode b_init 772 = .ok (.newarray .boolean, 2) := by decide +kernel
theorem d_init_774 : decode b_init 774 = .ok (.putfield 290, 3) := by decide +kernel
theorem d_init_777 : decode b_init 777 = .ok (.aload_n 0, 1) := by decide +kernel
theorem d_init_778 : decode b_init 778 = .ok (.bipush 8, 2) := by decide +kernel
theorem d_init_780 : decode b_init 780 = .ok (.newarray .int, 2) := by decide +kernel
theorem d_init_782 : decode b_init 782 = .ok (.putfield 293, 3) := by decide +kernel
theorem d_init_785 : decode b_init 785 = .ok (.aload_n 0, 1) := by decide +kernel
theorem d_init_786 : decode b_init 786 = .ok (.bipush 8, 2) := by decide +kernel
theorem d_init_788 : decode b_init 788 = .ok (.newarray .int, 2) := by decide +kernel
theorem d_init_790 : decode b_init 790 = .ok (.putfield 296, 3) := by decide +kernel
theorem d_init_793 : decode b_init 793 = .ok (.aload_n 0, 1) := by decide +kernel
theorem d_init_794 : decode b_init 794 = .ok (.sipush 256, 3) := by decide +kernel
theorem d_init_797 : decode b_init 797 = .ok (.newarray .byte, 2) := by decide +kernel
theorem d_init_799 : decode b_init 799 = .ok (.putfield 299, 3) := by decide +kernel
theorem d_init_802 : decode b_init 802 = .ok (.aload_n 0, 1) := by decide +kernel
theorem d_init_803 : decode b_init 803 = .ok (.bipush 16, 2) := by decide +kernel
theorem d_init_805 : decode b_init 805 = .ok (.newarray .long, 2) := by decide +kernel
theorem d_init_807 : decode b_init 807 = .ok (.putfield 302, 3) := by decide +kernel
theorem d_init_810 : decode b_init 810 = .ok (.aload_n 0, 1) := by decide +kernel
theorem d_init_811 : decode b_init 811 = .ok (.bipush 16, 2) := by decide +kernel
theorem d_init_813 : decode b_init 813 = .ok (.newarray .long, 2) := by decide +kernel
theorem d_init_815 : decode b_init 815 = .ok (.putfield 305, 3) := by decide +kernel
theorem d_init_818 : decode b_init 818 = .ok (.aload_n 0, 1) := by decide +kernel
theorem d_init_819 : decode b_init 819 = .ok (.bipush 8, 2) := by decide +kernel
theorem d_init_821 : decode b_init 821 = .ok (.newarray .long, 2) := by decide +kernel
theorem d_init_823 : decode b_init 823 = .ok (.putfield 308, 3) := by decide +kernel
theorem d_init_826 : decode b_init 826 = .ok (.aload_n 0, 1) := by decide +kernel
theorem d_init_827 : decode b_init 827 = .ok (.bipush 8, 2) := by decide +kernel
theorem d_init_829 : decode b_init 829 = .ok (.newarray .long, 2) := by decide +kernel
theorem d_init_831 : decode b_init 831 = .ok (.putfield 311, 3) := by decide +kernel
theorem d_init_834 : decode b_init 834 = .ok (.aload_n 0, 1) := by decide +kernel
theorem d_init_835 : decode b_init 835 = .ok (.bipush 8, 2) := by decide +kernel
theorem d_init_837 : decode b_init 837 = .ok (.newarray .int, 2) := by decide +kernel
theorem d_init_839 : decode b_init 839 = .ok (.putfield 314, 3) := by decide +kernel
theorem d_init_842 : decode b_init 842 = .ok (.aload_n 0, 1) := by decide +kernel
theorem d_init_843 : decode b_init 843 = .ok (.bipush 8, 2) := by decide +kernel
theorem d_init_845 : decode b_init 845 = .ok (.newarray .int, 2) := by decide +kernel
theorem d_init_847 : decode b_init 847 = .ok (.putfield 317, 3) := by decide +kernel
theorem d_init_850 : decode b_init 850 = .ok (.aload_n 0, 1) := by decide +kernel
theorem d_init_851 : decode b_init 851 = .ok (.sipush 256, 3) := by decide +kernel
theorem d_init_854 : decode b_init 854 = .ok (.newarray .byte, 2) := by decide +kernel
theorem d_init_856 : decode b_init 856 = .ok (.putfield 320, 3) := by decide +kernel
theorem d_init_859 : decode b_init 859 = .ok (.aload_n 0, 1) := by decide +kernel
theorem d_init_860 : decode b_init 860 = .ok (.iconst 4, 1) := by decide +kernel
theorem d_init_861 : decode b_init 861 = .ok (.newarray .byte, 2) := by decide +kernel
theorem d_init_863 : decode b_init 863 = .ok (.putfield 323, 3) := by decide +kernel
theorem d_init_866 : decode b_init 866 = .ok (.aload_n 0, 1) := by decide +kernel
theorem d_init_867 : decode b_init 867 = .ok (.iconst 0, 1) := by decide +kernel
theorem d_init_868 : decode b_init 868 = .ok (.ldc_w 326, 3) := by decide +kernel
theorem d_init_871 : decode b_init 871 = .ok (.invokevirtual 328, 3) := by decide +kernel
theorem d_init_874 : decode b_init 874 = .ok (.aload_n 0, 1) := by decide +kernel
theorem d_init_875 : decode b_init 875 = .ok (.bipush 13, 2) := by decide +kernel
theorem d_init_877 : decode b_init 877 = .ok (.putfield 332, 3) := by decide +kernel
theorem d_init_880 : decode b_init 880 = .ok (.aload_n 0, 1) := by decide +kernel
theorem d_init_881 : decode b_init 881 = .ok (.iconst 1, 1) := by decide +kernel
theorem d_init_882 : decode b_init 882 = .ok (.iconst 1, 1) := by decide +kernel
theorem d_init_883 : decode b_init 883 = .ok (.invokevirtual 335, 3) := by decide +kernel
theorem d_init_886 : decode b_init 886 = .ok (.pop, 1) := by decide +kernel
theorem d_init_887 : decode b_init 887 = .ok (.aload_n 0, 1) := by decide +kernel
theorem d_init_888 : decode b_init 888 = .ok (.iconst 0, 1) := by decide +kernel
theorem d_init_889 : decode b_init 889 = .ok (.putfield 332, 3) := by decide +kernel
theorem d_init_892 : decode b_init 892 = .ok (.return_, 1) := by decide +kernel
theorem cn_17 : Cond.constant R_M 17 (1000000000) ∈ lw_tg := in_t 1752 (by decide +kernel)
theorem cn_187 : Cond.constant R_M 187 (134400) ∈ lw_tg := in_t 1753 (by decide +kernel)
theorem hd_init : y_init.cls = R_M ∧ y_init.cls ≠ "java/lang/invoke/MethodHandle" ∧ y_init.cls ≠ "java/lang/invoke/VarHandle" ∧ (parseMethodDescriptor y_init.desc).map (fun d => d.parameters.length) = some 0 := by decide +kernel
theorem o_link : Cond.methodLink R_M 3 objectInit ∈ lw_tg := in_t 1750 (by decide +kernel)
theorem o_inst : Cond.instanceMethod objectInit ∈ lw_tg := in_t 26 (by decide +kernel)
theorem o_code : Cond.code objectInit ⟨#[0xb1]⟩ 1 none ∈ lw_tg := in_t 27 (by decide +kernel)
theorem ar_byte : Cond.arrayClass .byte ∈ lw_tg := in_t 63 (by decide +kernel)
theorem ar_int : Cond.arrayClass .int ∈ lw_tg := in_t 96 (by decide +kernel)
theorem ar_long : Cond.arrayClass .long ∈ lw_tg := in_t 2307 (by decide +kernel)
theorem ar_boolean : Cond.arrayClass .boolean ∈ lw_tg := in_t 2308 (by decide +kernel)
def iA (h sz : Nat) : Nat → Prop := fun a => a = h ∨ sz ≤ a
def iPre (D : mD) (E : mE) (h sz : Nat) : State → Prop := fun U => U.heap.size = sz ∧ va_P D.1 mCl (iW E h 0 0 (fun _ => 0) (fun _ => 0) (fun _ _ => 0)) U.heap ∧ va_K D.1 mCl (mTy E) U ∧ zS D.2.1 D.2.2.1 D.2.2.2 (iA h sz) U U.heap ∧ zR D.2.1 U
set_option maxHeartbeats 4000000 in
set_option maxRecDepth 100000 in
theorem c_init (l : Launch) (D : mD) (E : mE) (h sz : Nat) : Met l y_init (k_init :: lw_tg) { frames := 8, cells := 101, slots := 295201, locals := 196 } (va_Pc [.ref h] (iPre D E h sz)) (va_Qv (fun (u : (Nat → Nat) × mS) => u.2.1 2 = nI 0 ∧ u.2.1 3 = nI 0 ∧ u.2.1 43 = nI 1 ∧ u.2.1 4 = nI 1000000000 ∧ (∀ j, u.2.2.2.1 91 j = nI 0) ∧ (∀ j, u.2.2.2.1 133 j = nI 0) ∧ u.2.2.2.1 46 0 = nI 1 ∧ u.2.2.2.1 45 0 = nI 12 ∧ by8 (u.2.2.2.1 12) ∧ by8 (u.2.2.2.1 13) ∧ by8 (u.2.2.2.1 16) ∧ by8 (u.2.2.2.1 17)) (fun u => mPost D E h u.1 (iA h sz) u.2) (iA h sz)) 101 295201 (iA h sz) := by
  refine Met.ofW (cc := b_init) (maxL := 1) (ret := none) (by decide) rfl ?_
  intro p e s m args below meth c s₁ B hml hv
  obtain ⟨rfl, hsz, hP, hK, hZ, hR⟩ := hv
  have hts := atoms_spec (ws := k_init :: lw_tg) B.pre
  have hown : s.vm.findClass R_M = some m.cls := findClass_of_methodNamed B.named
  have hr := B.returns
  have hlk := B.notSynchronized
  have hin : meth.name = "<init>" := (name_of_methodNamed B.named B.method).1
  have X : mX p c b_init _ s m D E := ⟨B.exec, B.bytes, fun w hw => hts w (List.mem_cons_of_mem _ hw), hown, hK, hR⟩
  have hA : ∀ a, s.heap.size ≤ a → iA h sz a := fun a ha => Or.inr (by rw [← hsz]; exact ha)
  have Y : iH D E (iA h sz) s.heap h 0 0 (fun _ => 0) (fun _ => 0) (fun _ _ => 0) s.heap [] := ⟨hP, ⟨fun i j x y hx hy _ => by have h1 := (List.getElem?_eq_some_iff.mp hx).1; have h2 := (List.getElem?_eq_some_iff.mp hy).1; have h3 : i < 1 := h1; have h4 : j < 1 := h2; omega, fun k x hx => by have h1 : k < 1 := (List.getElem?_eq_some_iff.mp hx).1; obtain rfl : k = 0 := by omega; cases hx; exact Or.inl rfl⟩, va_S.rf⟩
  have hl := lv_entry ([.ref h]) (n := 1) (Nat.le_of_ble_eq_true rfl)
  rw [lg_entry_eq]
  generalize (lg_sl ([.ref h]) ++ List.replicate (1 - (lg_sl ([.ref h])).length) Slot.unset).toArray = ls at hl ⊢
  have hl : lv_has ls 1 [(0, .ref h)] := hl
  refine lv_aload_n X.1 X.2.1 d_init_0 rfl (lv_at hl 0 rfl) ?_
  refine W.objInit X.1 X.2.1 hown (X.2.2.1 _ o_link) (X.2.2.1 _ o_inst) (X.2.2.1 _ o_code) rfl (by rw [hml]; exact hl.1) rfl d_init_1 (Nat.le_of_ble_eq_true rfl) (Nat.le_of_ble_eq_true rfl) ?_
  refine W.eq (g2 := F0 m 4 ls []) rfl ?_
  refine lv_aload_n X.1 X.2.1 d_init_4 rfl (lv_at hl 0 rfl) ?_
  refine lv_ldc (v := (60000)) X.1 X.2.1 X.2.2.2.1 (X.2.2.1 _ cn_9) d_init_5 ?_
  refine t_eq (y := nI 60000) (by decide) ?_
  refine i_newa (k := 0) (f := 0) (N := 60000) X Y hA (S := "[B") rfl (fun _ _ h9 => h9) ar_byte 0 (cE := E.1) rfl (a0 := (60000, .inl (fun _ => 0))) (fun _ => rfl) (nI_pos (by decide)) (nI_clamp (by decide)) (by decide) (Nat.le_of_ble_eq_true rfl) (Nat.le_of_ble_eq_true rfl) (fun a => rfl) d_init_7 (fun q H Y => ?_)
  refine i_putr (k := 0) (f := 0) X Y (by decide) lk_mem rfl rfl hin (t_M_ok 0 (by decide)) rfl rfl rfl (Nat.le_of_ble_eq_true rfl) d_init_9 (fun H locs Y => ?_)
  refine lv_aload_n X.1 X.2.1 d_init_12 rfl (lv_at hl 0 rfl) ?_
  refine lv_sipush (v := (nI 20000)) X.1 X.2.1 d_init_13 (by decide) ?_
  refine i_newa (k := 1) (f := 1) (N := 20000) X Y hA (S := "[B") rfl (fun _ _ h9 => h9) ar_byte 0 (cE := E.1) rfl (a0 := (20000, .inl (fun _ => 0))) (fun _ => rfl) (nI_pos (by decide)) (nI_clamp (by decide)) (by decide) (Nat.le_of_ble_eq_true rfl) (Nat.le_of_ble_eq_true rfl) (fun a => rfl) d_init_16 (fun q H Y => ?_)
  refine i_putr (k := 1) (f := 1) X Y (by decide) lk_outs rfl rfl hin (t_M_ok 1 (by decide)) rfl rfl rfl (Nat.le_of_ble_eq_true rfl) d_init_18 (fun H locs Y => ?_)
  refine lv_aload_n X.1 X.2.1 d_init_21 rfl (lv_at hl 0 rfl) ?_
  refine lv_ldc (v := (1000000000)) X.1 X.2.1 X.2.2.2.1 (X.2.2.1 _ cn_17) d_init_22 ?_
  refine t_eq (y := nI 1000000000) (by decide) ?_
  refine i_puti (f := 4) (I2 := (upd (fun _ => 0) 4 (nI 1000000000))) X Y (by decide) lk_now rfl rfl (t_M_ok 4 (by decide)) rfl rfl rfl (Nat.le_of_ble_eq_true rfl) d_init_24 (fun H locs Y => ?_)
  refine lv_aload_n X.1 X.2.1 d_init_27 rfl (lv_at hl 0 rfl) ?_
  refine lv_iconst (v := (nI 5)) X.1 X.2.1 d_init_28 (by decide) ?_
  refine i_newa (k := 2) (f := 5) (N := 5) X Y hA (S := "[I") rfl (fun _ _ h9 => h9) ar_int 1 (cE := E.2.1) rfl (a0 := (5, .inl (fun _ => 0))) (fun _ => rfl) (nI_pos (by decide)) (nI_clamp (by decide)) (by decide) (Nat.le_of_ble_eq_true rfl) (Nat.le_of_ble_eq_true rfl) (fun a => rfl) d_init_29 (fun q H Y => ?_)
  refine i_putr (k := 2) (f := 5) X Y (by decide) lk_h rfl rfl hin (t_M_ok 5 (by decide)) rfl rfl rfl (Nat.le_of_ble_eq_true rfl) d_init_31 (fun H locs Y => ?_)
  refine lv_aload_n X.1 X.2.1 d_init_34 rfl (lv_at hl 0 rfl) ?_
  refine lv_bipush (v := (nI 80)) X.1 X.2.1 d_init_35 (by decide) ?_
  refine i_newa (k := 3) (f := 6) (N := 80) X Y hA (S := "[I") rfl (fun _ _ h9 => h9) ar_int 1 (cE := E.2.1) rfl (a0 := (80, .inl (fun _ => 0))) (fun _ => rfl) (nI_pos (by decide)) (nI_clamp (by decide)) (by decide) (Nat.le_of_ble_eq_true rfl) (Nat.le_of_ble_eq_true rfl) (fun a => rfl) d_init_37 (fun q H Y => ?_)
  refine i_putr (k := 3) (f := 6) X Y (by decide) lk_w rfl rfl hin (t_M_ok 6 (by decide)) rfl rfl rfl (Nat.le_of_ble_eq_true rfl) d_init_39 (fun H locs Y => ?_)
  refine lv_aload_n X.1 X.2.1 d_init_42 rfl (lv_at hl 0 rfl) ?_
  refine lv_bipush (v := (nI 64)) X.1 X.2.1 d_init_43 (by decide) ?_
  refine i_newa (k := 4) (f := 7) (N := 64) X Y hA (S := "[B") rfl (fun _ _ h9 => h9) ar_byte 0 (cE := E.1) rfl (a0 := (64, .inl (fun _ => 0))) (fun _ => rfl) (nI_pos (by decide)) (nI_clamp (by decide)) (by decide) (Nat.le_of_ble_eq_true rfl) (Nat.le_of_ble_eq_true rfl) (fun a => rfl) d_init_45 (fun q H Y => ?_)
  refine i_putr (k := 4) (f := 7) X Y (by decide) lk_block rfl rfl hin (t_M_ok 7 (by decide)) rfl rfl rfl (Nat.le_of_ble_eq_true rfl) d_init_47 (fun H locs Y => ?_)
  refine lv_aload_n X.1 X.2.1 d_init_50 rfl (lv_at hl 0 rfl) ?_
  refine lv_bipush (v := (nI 20)) X.1 X.2.1 d_init_51 (by decide) ?_
  refine i_newa (k := 5) (f := 9) (N := 20) X Y hA (S := "[B") rfl (fun _ _ h9 => h9) ar_byte 0 (cE := E.1) rfl (a0 := (20, .inl (fun _ => 0))) (fun _ => rfl) (nI_pos (by decide)) (nI_clamp (by decide)) (by decide) (Nat.le_of_ble_eq_true rfl) (Nat.le_of_ble_eq_true rfl) (fun a => rfl) d_init_53 (fun q H Y => ?_)
  refine i_putr (k := 5) (f := 9) X Y (by decide) lk_inner rfl rfl hin (t_M_ok 9 (by decide)) rfl rfl rfl (Nat.le_of_ble_eq_true rfl) d_init_55 (fun H locs Y => ?_)
  refine lv_aload_n X.1 X.2.1 d_init_58 rfl (lv_at hl 0 rfl) ?_
  refine lv_bipush (v := (nI 20)) X.1 X.2.1 d_init_59 (by decide) ?_
  refine i_newa (k := 6) (f := 10) (N := 20) X Y hA (S := "[B") rfl (fun _ _ h9 => h9) ar_byte 0 (cE := E.1) rfl (a0 := (20, .inl (fun _ => 0))) (fun _ => rfl) (nI_pos (by decide)) (nI_clamp (by decide)) (by decide) (Nat.le_of_ble_eq_true rfl) (Nat.le_of_ble_eq_true rfl) (fun a => rfl) d_init_61 (fun q H Y => ?_)
  refine i_putr (k := 6) (f := 10) X Y (by decide) lk_mac rfl rfl hin (t_M_ok 10 (by decide)) rfl rfl rfl (Nat.le_of_ble_eq_true rfl) d_init_63 (fun H locs Y => ?_)
  refine lv_aload_n X.1 X.2.1 d_init_66 rfl (lv_at hl 0 rfl) ?_
  refine lv_bipush (v := (nI 64)) X.1 X.2.1 d_init_67 (by decide) ?_
  refine i_newa (k := 7) (f := 11) (N := 64) X Y hA (S := "[B") rfl (fun _ _ h9 => h9) ar_byte 0 (cE := E.1) rfl (a0 := (64, .inl (fun _ => 0))) (fun _ => rfl) (nI_pos (by decide)) (nI_clamp (by decide)) (by decide) (Nat.le_of_ble_eq_true rfl) (Nat.le_of_ble_eq_true rfl) (fun a => rfl) d_init_69 (fun q H Y => ?_)
  refine i_putr (k := 7) (f := 11) X Y (by decide) lk_macKey rfl rfl hin (t_M_ok 11 (by decide)) rfl rfl rfl (Nat.le_of_ble_eq_true rfl) d_init_71 (fun H locs Y => ?_)
  refine lv_aload_n X.1 X.2.1 d_init_74 rfl (lv_at hl 0 rfl) ?_
  refine lv_sipush (v := (nI 256)) X.1 X.2.1 d_init_75 (by decide) ?_
  refine i_newa (k := 8) (f := 12) (N := 256) X Y hA (S := "[I") rfl (fun _ _ h9 => h9) ar_int 1 (cE := E.2.1) rfl (a0 := (256, .inl (fun _ => 0))) (fun _ => rfl) (nI_pos (by decide)) (nI_clamp (by decide)) (by decide) (Nat.le_of_ble_eq_true rfl) (Nat.le_of_ble_eq_true rfl) (fun a => rfl) d_init_78 (fun q H Y => ?_)
  refine i_putr (k := 8) (f := 12) X Y (by decide) lk_box rfl rfl hin (t_M_ok 12 (by decide)) rfl rfl rfl (Nat.le_of_ble_eq_true rfl) d_init_80 (fun H locs Y => ?_)
  refine lv_aload_n X.1 X.2.1 d_init_83 rfl (lv_at hl 0 rfl) ?_
  refine lv_sipush (v := (nI 256)) X.1 X.2.1 d_init_84 (by decide) ?_
  refine i_newa (k := 9) (f := 13) (N := 256) X Y hA (S := "[I") rfl (fun _ _ h9 => h9) ar_int 1 (cE := E.2.1) rfl (a0 := (256, .inl (fun _ => 0))) (fun _ => rfl) (nI_pos (by decide)) (nI_clamp (by decide)) (by decide) (Nat.le_of_ble_eq_true rfl) (Nat.le_of_ble_eq_true rfl) (fun a => rfl) d_init_87 (fun q H Y => ?_)
  refine i_putr (k := 9) (f := 13) X Y (by decide) lk_back rfl rfl hin (t_M_ok 13 (by decide)) rfl rfl rfl (Nat.le_of_ble_eq_true rfl) d_init_89 (fun H locs Y => ?_)
  refine lv_aload_n X.1 X.2.1 d_init_92 rfl (lv_at hl 0 rfl) ?_
  refine lv_bipush (v := (nI 60)) X.1 X.2.1 d_init_93 (by decide) ?_
  refine i_newa (k := 10) (f := 15) (N := 60) X Y hA (S := "[I") rfl (fun _ _ h9 => h9) ar_int 1 (cE := E.2.1) rfl (a0 := (60, .inl (fun _ => 0))) (fun _ => rfl) (nI_pos (by decide)) (nI_clamp (by decide)) (by decide) (Nat.le_of_ble_eq_true rfl) (Nat.le_of_ble_eq_true rfl) (fun a => rfl) d_init_95 (fun q H Y => ?_)
  refine i_putr (k := 10) (f := 15) X Y (by decide) lk_schedule rfl rfl hin (t_M_ok 15 (by decide)) rfl rfl rfl (Nat.le_of_ble_eq_true rfl) d_init_97 (fun H locs Y => ?_)
  refine lv_aload_n X.1 X.2.1 d_init_100 rfl (lv_at hl 0 rfl) ?_
  refine lv_bipush (v := (nI 16)) X.1 X.2.1 d_init_101 (by decide) ?_
  refine i_newa (k := 11) (f := 16) (N := 16) X Y hA (S := "[I") rfl (fun _ _ h9 => h9) ar_int 1 (cE := E.2.1) rfl (a0 := (16, .inl (fun _ => 0))) (fun _ => rfl) (nI_pos (by decide)) (nI_clamp (by decide)) (by decide) (Nat.le_of_ble_eq_true rfl) (Nat.le_of_ble_eq_true rfl) (fun a => rfl) d_init_103 (fun q H Y => ?_)
  refine i_putr (k := 11) (f := 16) X Y (by decide) lk_state rfl rfl hin (t_M_ok 16 (by decide)) rfl rfl rfl (Nat.le_of_ble_eq_true rfl) d_init_105 (fun H locs Y => ?_)
  refine lv_aload_n X.1 X.2.1 d_init_108 rfl (lv_at hl 0 rfl) ?_
  refine lv_bipush (v := (nI 16)) X.1 X.2.1 d_init_109 (by decide) ?_
  refine i_newa (k := 12) (f := 17) (N := 16) X Y hA (S := "[I") rfl (fun _ _ h9 => h9) ar_int 1 (cE := E.2.1) rfl (a0 := (16, .inl (fun _ => 0))) (fun _ => rfl) (nI_pos (by decide)) (nI_clamp (by decide)) (by decide) (Nat.le_of_ble_eq_true rfl) (Nat.le_of_ble_eq_true rfl) (fun a => rfl) d_init_111 (fun q H Y => ?_)
  refine i_putr (k := 12) (f := 17) X Y (by decide) lk_other rfl rfl hin (t_M_ok 17 (by decide)) rfl rfl rfl (Nat.le_of_ble_eq_true rfl) d_init_113 (fun H locs Y => ?_)
  refine lv_aload_n X.1 X.2.1 d_init_116 rfl (lv_at hl 0 rfl) ?_
  refine lv_bipush (v := (nI 16)) X.1 X.2.1 d_init_117 (by decide) ?_
  refine i_newa (k := 13) (f := 19) (N := 16) X Y hA (S := "[B") rfl (fun _ _ h9 => h9) ar_byte 0 (cE := E.1) rfl (a0 := (16, .inl (fun _ => 0))) (fun _ => rfl) (nI_pos (by decide)) (nI_clamp (by decide)) (by decide) (Nat.le_of_ble_eq_true rfl) (Nat.le_of_ble_eq_true rfl) (fun a => rfl) d_init_119 (fun q H Y => ?_)
  refine i_putr (k := 13) (f := 19) X Y (by decide) lk_fold rfl rfl hin (t_M_ok 19 (by decide)) rfl rfl rfl (Nat.le_of_ble_eq_true rfl) d_init_121 (fun H locs Y => ?_)
  refine lv_aload_n X.1 X.2.1 d_init_124 rfl (lv_at hl 0 rfl) ?_
  refine lv_bipush (v := (nI 32)) X.1 X.2.1 d_init_125 (by decide) ?_
  refine i_newa (k := 14) (f := 20) (N := 32) X Y hA (S := "[B") rfl (fun _ _ h9 => h9) ar_byte 0 (cE := E.1) rfl (a0 := (32, .inl (fun _ => 0))) (fun _ => rfl) (nI_pos (by decide)) (nI_clamp (by decide)) (by decide) (Nat.le_of_ble_eq_true rfl) (Nat.le_of_ble_eq_true rfl) (fun a => rfl) d_init_127 (fun q H Y => ?_)
  refine i_putr (k := 14) (f := 20) X Y (by decide) lk_derived rfl rfl hin (t_M_ok 20 (by decide)) rfl rfl rfl (Nat.le_of_ble_eq_true rfl) d_init_129 (fun H locs Y => ?_)
  refine lv_aload_n X.1 X.2.1 d_init_132 rfl (lv_at hl 0 rfl) ?_
  refine lv_bipush (v := (nI 16)) X.1 X.2.1 d_init_133 (by decide) ?_
  refine i_newa (k := 15) (f := 21) (N := 16) X Y hA (S := "[I") rfl (fun _ _ h9 => h9) ar_int 1 (cE := E.2.1) rfl (a0 := (16, .inl (fun _ => 0))) (fun _ => rfl) (nI_pos (by decide)) (nI_clamp (by decide)) (by decide) (Nat.le_of_ble_eq_true rfl) (Nat.le_of_ble_eq_true rfl) (fun a => rfl) d_init_135 (fun q H Y => ?_)
  refine i_putr (k := 15) (f := 21) X Y (by decide) lk_folding rfl rfl hin (t_M_ok 21 (by decide)) rfl rfl rfl (Nat.le_of_ble_eq_true rfl) d_init_137 (fun H locs Y => ?_)
  refine lv_aload_n X.1 X.2.1 d_init_140 rfl (lv_at hl 0 rfl) ?_
  refine lv_iconst (v := (nI 5)) X.1 X.2.1 d_init_141 (by decide) ?_
  refine i_newa (k := 16) (f := 22) (N := 5) X Y hA (S := "[B") rfl (fun _ _ h9 => h9) ar_byte 0 (cE := E.1) rfl (a0 := (5, .inl (fun _ => 0))) (fun _ => rfl) (nI_pos (by decide)) (nI_clamp (by decide)) (by decide) (Nat.le_of_ble_eq_true rfl) (Nat.le_of_ble_eq_true rfl) (fun a => rfl) d_init_142 (fun q H Y => ?_)
  refine i_putr (k := 16) (f := 22) X Y (by decide) lk_constant rfl rfl hin (t_M_ok 22 (by decide)) rfl rfl rfl (Nat.le_of_ble_eq_true rfl) d_init_144 (fun H locs Y => ?_)
  refine lv_aload_n X.1 X.2.1 d_init_147 rfl (lv_at hl 0 rfl) ?_
  refine lv_bipush (v := (nI 32)) X.1 X.2.1 d_init_148 (by decide) ?_
  refine i_newa (k := 17) (f := 23) (N := 32) X Y hA (S := "[B") rfl (fun _ _ h9 => h9) ar_byte 0 (cE := E.1) rfl (a0 := (32, .inl (fun _ => 0))) (fun _ => rfl) (nI_pos (by decide)) (nI_clamp (by decide)) (by decide) (Nat.le_of_ble_eq_true rfl) (Nat.le_of_ble_eq_true rfl) (fun a => rfl) d_init_150 (fun q H Y => ?_)
  refine i_putr (k := 17) (f := 23) X Y (by decide) lk_use rfl rfl hin (t_M_ok 23 (by decide)) rfl rfl rfl (Nat.le_of_ble_eq_true rfl) d_init_152 (fun H locs Y => ?_)
  refine lv_aload_n X.1 X.2.1 d_init_155 rfl (lv_at hl 0 rfl) ?_
  refine lv_bipush (v := (nI 60)) X.1 X.2.1 d_init_156 (by decide) ?_
  refine i_newa (k := 18) (f := 24) (N := 60) X Y hA (S := "[B") rfl (fun _ _ h9 => h9) ar_byte 0 (cE := E.1) rfl (a0 := (60, .inl (fun _ => 0))) (fun _ => rfl) (nI_pos (by decide)) (nI_clamp (by decide)) (by decide) (Nat.le_of_ble_eq_true rfl) (Nat.le_of_ble_eq_true rfl) (fun a => rfl) d_init_158 (fun q H Y => ?_)
  refine i_putr (k := 18) (f := 24) X Y (by decide) lk_salt rfl rfl hin (t_M_ok 24 (by decide)) rfl rfl rfl (Nat.le_of_ble_eq_true rfl) d_init_160 (fun H locs Y => ?_)
  refine lv_aload_n X.1 X.2.1 d_init_163 rfl (lv_at hl 0 rfl) ?_
  refine lv_bipush (v := (nI 30)) X.1 X.2.1 d_init_164 (by decide) ?_
  refine i_newa (k := 19) (f := 25) (N := 30) X Y hA (S := "[B") rfl (fun _ _ h9 => h9) ar_byte 0 (cE := E.1) rfl (a0 := (30, .inl (fun _ => 0))) (fun _ => rfl) (nI_pos (by decide)) (nI_clamp (by decide)) (by decide) (Nat.le_of_ble_eq_true rfl) (Nat.le_of_ble_eq_true rfl) (fun a => rfl) d_init_166 (fun q H Y => ?_)
  refine i_putr (k := 19) (f := 25) X Y (by decide) lk_password rfl rfl hin (t_M_ok 25 (by decide)) rfl rfl rfl (Nat.le_of_ble_eq_true rfl) d_init_168 (fun H locs Y => ?_)
  refine lv_aload_n X.1 X.2.1 d_init_171 rfl (lv_at hl 0 rfl) ?_
  refine lv_bipush (v := (nI 20)) X.1 X.2.1 d_init_172 (by decide) ?_
  refine i_newa (k := 20) (f := 26) (N := 20) X Y hA (S := "[B") rfl (fun _ _ h9 => h9) ar_byte 0 (cE := E.1) rfl (a0 := (20, .inl (fun _ => 0))) (fun _ => rfl) (nI_pos (by decide)) (nI_clamp (by decide)) (by decide) (Nat.le_of_ble_eq_true rfl) (Nat.le_of_ble_eq_true rfl) (fun a => rfl) d_init_174 (fun q H Y => ?_)
  refine i_putr (k := 20) (f := 26) X Y (by decide) lk_mixed rfl rfl hin (t_M_ok 26 (by decide)) rfl rfl rfl (Nat.le_of_ble_eq_true rfl) d_init_176 (fun H locs Y => ?_)
  refine lv_aload_n X.1 X.2.1 d_init_179 rfl (lv_at hl 0 rfl) ?_
  refine lv_bipush (v := (nI 40)) X.1 X.2.1 d_init_180 (by decide) ?_
  refine i_newa (k := 21) (f := 27) (N := 40) X Y hA (S := "[B") rfl (fun _ _ h9 => h9) ar_byte 0 (cE := E.1) rfl (a0 := (40, .inl (fun _ => 0))) (fun _ => rfl) (nI_pos (by decide)) (nI_clamp (by decide)) (by decide) (Nat.le_of_ble_eq_true rfl) (Nat.le_of_ble_eq_true rfl) (fun a => rfl) d_init_182 (fun q H Y => ?_)
  refine i_putr (k := 21) (f := 27) X Y (by decide) lk_long0 rfl rfl hin (t_M_ok 27 (by decide)) rfl rfl rfl (Nat.le_of_ble_eq_true rfl) d_init_184 (fun H locs Y => ?_)
  refine lv_aload_n X.1 X.2.1 d_init_187 rfl (lv_at hl 0 rfl) ?_
  refine lv_bipush (v := (nI 8)) X.1 X.2.1 d_init_188 (by decide) ?_
  refine i_newa (k := 22) (f := 28) (N := 8) X Y hA (S := "[B") rfl (fun _ _ h9 => h9) ar_byte 0 (cE := E.1) rfl (a0 := (8, .inl (fun _ => 0))) (fun _ => rfl) (nI_pos (by decide)) (nI_clamp (by decide)) (by decide) (Nat.le_of_ble_eq_true rfl) (Nat.le_of_ble_eq_true rfl) (fun a => rfl) d_init_190 (fun q H Y => ?_)
  have Y : iH D E (iA h sz) s.heap h 22 23 q (upd (fun _ => 0) 4 (nI 1000000000)) (upB (fun _ _ => 0) 28 (fun _ => 0)) H _ := Y
  refine lv_dup X.1 X.2.1 d_init_192 rfl ?_
  refine lv_iconst (v := (nI 0)) X.1 X.2.1 d_init_193 (by decide) ?_
  refine lv_bipush (v := (nI 107)) X.1 X.2.1 d_init_194 (by decide) ?_
  refine i_bast (f := 28) (N := 8) X Y 23 rfl (vp_in_nI (by decide) (by decide)) (fun _ => rfl) d_init_196 (fun g H locs Y => ?_)
  refine lv_dup X.1 X.2.1 d_init_197 rfl ?_
  refine lv_iconst (v := (nI 1)) X.1 X.2.1 d_init_198 (by decide) ?_
  refine lv_bipush (v := (nI 101)) X.1 X.2.1 d_init_199 (by decide) ?_
  refine i_bast (f := 28) (N := 8) X Y 23 rfl (vp_in_nI (by decide) (by decide)) (fun _ => rfl) d_init_201 (fun g H locs Y => ?_)
  refine lv_dup X.1 X.2.1 d_init_202 rfl ?_
  refine lv_iconst (v := (nI 2)) X.1 X.2.1 d_init_203 (by decide) ?_
  refine lv_bipush (v := (nI 114)) X.1 X.2.1 d_init_204 (by decide) ?_
  refine i_bast (f := 28) (N := 8) X Y 23 rfl (vp_in_nI (by decide) (by decide)) (fun _ => rfl) d_init_206 (fun g H locs Y => ?_)
  refine lv_dup X.1 X.2.1 d_init_207 rfl ?_
  refine lv_iconst (v := (nI 3)) X.1 X.2.1 d_init_208 (by decide) ?_
  refine lv_bipush (v := (nI 98)) X.1 X.2.1 d_init_209 (by decide) ?_
  refine i_bast (f := 28) (N := 8) X Y 23 rfl (vp_in_nI (by decide) (by decide)) (fun _ => rfl) d_init_211 (fun g H locs Y => ?_)
  refine lv_dup X.1 X.2.1 d_init_212 rfl ?_
  refine lv_iconst (v := (nI 4)) X.1 X.2.1 d_init_213 (by decide) ?_
  refine lv_bipush (v := (nI 101)) X.1 X.2.1 d_init_214 (by decide) ?_
  refine i_bast (f := 28) (N := 8) X Y 23 rfl (vp_in_nI (by decide) (by decide)) (fun _ => rfl) d_init_216 (fun g H locs Y => ?_)
  refine lv_dup X.1 X.2.1 d_init_217 rfl ?_
  refine lv_iconst (v := (nI 5)) X.1 X.2.1 d_init_218 (by decide) ?_
  refine lv_bipush (v := (nI 114)) X.1 X.2.1 d_init_219 (by decide) ?_
  refine i_bast (f := 28) (N := 8) X Y 23 rfl (vp_in_nI (by decide) (by decide)) (fun _ => rfl) d_init_221 (fun g H locs Y => ?_)
  refine lv_dup X.1 X.2.1 d_init_222 rfl ?_
  refine lv_bipush (v := (nI 6)) X.1 X.2.1 d_init_223 (by decide) ?_
  refine lv_bipush (v := (nI 111)) X.1 X.2.1 d_init_225 (by decide) ?_
  refine i_bast (f := 28) (N := 8) X Y 23 rfl (vp_in_nI (by decide) (by decide)) (fun _ => rfl) d_init_227 (fun g H locs Y => ?_)
  refine lv_dup X.1 X.2.1 d_init_228 rfl ?_
  refine lv_bipush (v := (nI 7)) X.1 X.2.1 d_init_229 (by decide) ?_
  refine lv_bipush (v := (nI 115)) X.1 X.2.1 d_init_231 (by decide) ?_
  refine i_bast (f := 28) (N := 8) X Y 23 rfl (vp_in_nI (by decide) (by decide)) (fun _ => rfl) d_init_233 (fun g H locs Y => ?_)
  refine i_putr (k := 22) (f := 28) X Y (by decide) lk_kerberos rfl rfl hin (t_M_ok 28 (by decide)) rfl rfl rfl (Nat.le_of_ble_eq_true rfl) d_init_234 (fun H locs Y => ?_)
  refine lv_aload_n X.1 X.2.1 d_init_237 rfl (lv_at hl 0 rfl) ?_
  refine lv_bipush (v := (nI 64)) X.1 X.2.1 d_init_238 (by decide) ?_
  refine i_newa (k := 23) (f := 31) (N := 64) X Y hA (S := "[B") rfl (fun _ _ h9 => h9) ar_byte 0 (cE := E.1) rfl (a0 := (64, .inl (fun _ => 0))) (fun _ => rfl) (nI_pos (by decide)) (nI_clamp (by decide)) (by decide) (Nat.le_of_ble_eq_true rfl) (Nat.le_of_ble_eq_true rfl) (fun a => rfl) d_init_240 (fun q H Y => ?_)
  refine i_putr (k := 23) (f := 31) X Y (by decide) lk_seed rfl rfl hin (t_M_ok 31 (by decide)) rfl rfl rfl (Nat.le_of_ble_eq_true rfl) d_init_242 (fun H locs Y => ?_)
  refine lv_aload_n X.1 X.2.1 d_init_245 rfl (lv_at hl 0 rfl) ?_
  refine lv_sipush (v := (nI 20000)) X.1 X.2.1 d_init_246 (by decide) ?_
  refine i_newa (k := 24) (f := 34) (N := 20000) X Y hA (S := "[B") rfl (fun _ _ h9 => h9) ar_byte 0 (cE := E.1) rfl (a0 := (20000, .inl (fun _ => 0))) (fun _ => rfl) (nI_pos (by decide)) (nI_clamp (by decide)) (by decide) (Nat.le_of_ble_eq_true rfl) (Nat.le_of_ble_eq_true rfl) (fun a => rfl) d_init_249 (fun q H Y => ?_)
  refine i_putr (k := 24) (f := 34) X Y (by decide) lk_text rfl rfl hin (t_M_ok 34 (by decide)) rfl rfl rfl (Nat.le_of_ble_eq_true rfl) d_init_251 (fun H locs Y => ?_)
  refine lv_aload_n X.1 X.2.1 d_init_254 rfl (lv_at hl 0 rfl) ?_
  refine lv_sipush (v := (nI 20000)) X.1 X.2.1 d_init_255 (by decide) ?_
  refine i_newa (k := 25) (f := 35) (N := 20000) X Y hA (S := "[B") rfl (fun _ _ h9 => h9) ar_byte 0 (cE := E.1) rfl (a0 := (20000, .inl (fun _ => 0))) (fun _ => rfl) (nI_pos (by decide)) (nI_clamp (by decide)) (by decide) (Nat.le_of_ble_eq_true rfl) (Nat.le_of_ble_eq_true rfl) (fun a => rfl) d_init_258 (fun q H Y => ?_)
  refine i_putr (k := 25) (f := 35) X Y (by decide) lk_secret rfl rfl hin (t_M_ok 35 (by decide)) rfl rfl rfl (Nat.le_of_ble_eq_true rfl) d_init_260 (fun H locs Y => ?_)
  refine lv_aload_n X.1 X.2.1 d_init_263 rfl (lv_at hl 0 rfl) ?_
  refine lv_sipush (v := (nI 192)) X.1 X.2.1 d_init_264 (by decide) ?_
  refine i_newa (k := 26) (f := 37) (N := 192) X Y hA (S := "[I") rfl (fun _ _ h9 => h9) ar_int 1 (cE := E.2.1) rfl (a0 := (192, .inl (fun _ => 0))) (fun _ => rfl) (nI_pos (by decide)) (nI_clamp (by decide)) (by decide) (Nat.le_of_ble_eq_true rfl) (Nat.le_of_ble_eq_true rfl) (fun a => rfl) d_init_267 (fun q H Y => ?_)
  refine i_putr (k := 26) (f := 37) X Y (by decide) lk_from rfl rfl hin (t_M_ok 37 (by decide)) rfl rfl rfl (Nat.le_of_ble_eq_true rfl) d_init_269 (fun H locs Y => ?_)
  refine lv_aload_n X.1 X.2.1 d_init_272 rfl (lv_at hl 0 rfl) ?_
  refine lv_sipush (v := (nI 192)) X.1 X.2.1 d_init_273 (by decide) ?_
  refine i_newa (k := 27) (f := 38) (N := 192) X Y hA (S := "[I") rfl (fun _ _ h9 => h9) ar_int 1 (cE := E.2.1) rfl (a0 := (192, .inl (fun _ => 0))) (fun _ => rfl) (nI_pos (by decide)) (nI_clamp (by decide)) (by decide) (Nat.le_of_ble_eq_true rfl) (Nat.le_of_ble_eq_true rfl) (fun a => rfl) d_init_276 (fun q H Y => ?_)
  refine i_putr (k := 27) (f := 38) X Y (by decide) lk_to rfl rfl hin (t_M_ok 38 (by decide)) rfl rfl rfl (Nat.le_of_ble_eq_true rfl) d_init_278 (fun H locs Y => ?_)
  refine lv_aload_n X.1 X.2.1 d_init_281 rfl (lv_at hl 0 rfl) ?_
  refine lv_sipush (v := (nI 480)) X.1 X.2.1 d_init_282 (by decide) ?_
  refine i_newa (k := 28) (f := 44) (N := 480) X Y hA (S := "[B") rfl (fun _ _ h9 => h9) ar_byte 0 (cE := E.1) rfl (a0 := (480, .inl (fun _ => 0))) (fun _ => rfl) (nI_pos (by decide)) (nI_clamp (by decide)) (by decide) (Nat.le_of_ble_eq_true rfl) (Nat.le_of_ble_eq_true rfl) (fun a => rfl) d_init_285 (fun q H Y => ?_)
  refine i_putr (k := 28) (f := 44) X Y (by decide) lk_names rfl rfl hin (t_M_ok 44 (by decide)) rfl rfl rfl (Nat.le_of_ble_eq_true rfl) d_init_287 (fun H locs Y => ?_)
  refine lv_aload_n X.1 X.2.1 d_init_290 rfl (lv_at hl 0 rfl) ?_
  refine lv_bipush (v := (nI 12)) X.1 X.2.1 d_init_291 (by decide) ?_
  refine i_newa (k := 29) (f := 45) (N := 12) X Y hA (S := "[I") rfl (fun _ _ h9 => h9) ar_int 1 (cE := E.2.1) rfl (a0 := (12, .inl (fun _ => 0))) (fun _ => rfl) (nI_pos (by decide)) (nI_clamp (by decide)) (by decide) (Nat.le_of_ble_eq_true rfl) (Nat.le_of_ble_eq_true rfl) (fun a => rfl) d_init_293 (fun q H Y => ?_)
  refine i_putr (k := 29) (f := 45) X Y (by decide) lk_nameSizes rfl rfl hin (t_M_ok 45 (by decide)) rfl rfl rfl (Nat.le_of_ble_eq_true rfl) d_init_295 (fun H locs Y => ?_)
  refine lv_aload_n X.1 X.2.1 d_init_298 rfl (lv_at hl 0 rfl) ?_
  refine lv_bipush (v := (nI 12)) X.1 X.2.1 d_init_299 (by decide) ?_
  refine i_newa (k := 30) (f := 46) (N := 12) X Y hA (S := "[I") rfl (fun _ _ h9 => h9) ar_int 1 (cE := E.2.1) rfl (a0 := (12, .inl (fun _ => 0))) (fun _ => rfl) (nI_pos (by decide)) (nI_clamp (by decide)) (by decide) (Nat.le_of_ble_eq_true rfl) (Nat.le_of_ble_eq_true rfl) (fun a => rfl) d_init_301 (fun q H Y => ?_)
  refine i_putr (k := 30) (f := 46) X Y (by decide) lk_versions rfl rfl hin (t_M_ok 46 (by decide)) rfl rfl rfl (Nat.le_of_ble_eq_true rfl) d_init_303 (fun H locs Y => ?_)
  refine lv_aload_n X.1 X.2.1 d_init_306 rfl (lv_at hl 0 rfl) ?_
  refine lv_bipush (v := (nI 12)) X.1 X.2.1 d_init_307 (by decide) ?_
  refine i_newa (k := 31) (f := 47) (N := 12) X Y hA (S := "[I") rfl (fun _ _ h9 => h9) ar_int 1 (cE := E.2.1) rfl (a0 := (12, .inl (fun _ => 0))) (fun _ => rfl) (nI_pos (by decide)) (nI_clamp (by decide)) (by decide) (Nat.le_of_ble_eq_true rfl) (Nat.le_of_ble_eq_true rfl) (fun a => rfl) d_init_309 (fun q H Y => ?_)
  refine i_putr (k := 31) (f := 47) X Y (by decide) lk_counts rfl rfl hin (t_M_ok 47 (by decide)) rfl rfl rfl (Nat.le_of_ble_eq_true rfl) d_init_311 (fun H locs Y => ?_)
  refine lv_aload_n X.1 X.2.1 d_init_314 rfl (lv_at hl 0 rfl) ?_
  refine lv_bipush (v := (nI 12)) X.1 X.2.1 d_init_315 (by decide) ?_
  refine i_newa (k := 32) (f := 48) (N := 12) X Y hA (S := "[I") rfl (fun _ _ h9 => h9) ar_int 1 (cE := E.2.1) rfl (a0 := (12, .inl (fun _ => 0))) (fun _ => rfl) (nI_pos (by decide)) (nI_clamp (by decide)) (by decide) (Nat.le_of_ble_eq_true rfl) (Nat.le_of_ble_eq_true rfl) (fun a => rfl) d_init_317 (fun q H Y => ?_)
  refine i_putr (k := 32) (f := 48) X Y (by decide) lk_lifes rfl rfl hin (t_M_ok 48 (by decide)) rfl rfl rfl (Nat.le_of_ble_eq_true rfl) d_init_319 (fun H locs Y => ?_)
  refine lv_aload_n X.1 X.2.1 d_init_322 rfl (lv_at hl 0 rfl) ?_
  refine lv_bipush (v := (nI 12)) X.1 X.2.1 d_init_323 (by decide) ?_
  refine i_newa (k := 33) (f := 49) (N := 12) X Y hA (S := "[I") rfl (fun _ _ h9 => h9) ar_int 1 (cE := E.2.1) rfl (a0 := (12, .inl (fun _ => 0))) (fun _ => rfl) (nI_pos (by decide)) (nI_clamp (by decide)) (by decide) (Nat.le_of_ble_eq_true rfl) (Nat.le_of_ble_eq_true rfl) (fun a => rfl) d_init_325 (fun q H Y => ?_)
  refine i_putr (k := 33) (f := 49) X Y (by decide) lk_renews rfl rfl hin (t_M_ok 49 (by decide)) rfl rfl rfl (Nat.le_of_ble_eq_true rfl) d_init_327 (fun H locs Y => ?_)
  refine lv_aload_n X.1 X.2.1 d_init_330 rfl (lv_at hl 0 rfl) ?_
  refine lv_bipush (v := (nI 12)) X.1 X.2.1 d_init_331 (by decide) ?_
  refine i_newa (k := 34) (f := 50) (N := 12) X Y hA (S := "[I") rfl (fun _ _ h9 => h9) ar_int 1 (cE := E.2.1) rfl (a0 := (12, .inl (fun _ => 0))) (fun _ => rfl) (nI_pos (by decide)) (nI_clamp (by decide)) (by decide) (Nat.le_of_ble_eq_true rfl) (Nat.le_of_ble_eq_true rfl) (fun a => rfl) d_init_333 (fun q H Y => ?_)
  refine i_putr (k := 34) (f := 50) X Y (by decide) lk_flags rfl rfl hin (t_M_ok 50 (by decide)) rfl rfl rfl (Nat.le_of_ble_eq_true rfl) d_init_335 (fun H locs Y => ?_)
  refine lv_aload_n X.1 X.2.1 d_init_338 rfl (lv_at hl 0 rfl) ?_
  refine lv_bipush (v := (nI 12)) X.1 X.2.1 d_init_339 (by decide) ?_
  refine i_newa (k := 35) (f := 51) (N := 12) X Y hA (S := "[I") rfl (fun _ _ h9 => h9) ar_int 1 (cE := E.2.1) rfl (a0 := (12, .inl (fun _ => 0))) (fun _ => rfl) (nI_pos (by decide)) (nI_clamp (by decide)) (by decide) (Nat.le_of_ble_eq_true rfl) (Nat.le_of_ble_eq_true rfl) (fun a => rfl) d_init_341 (fun q H Y => ?_)
  refine i_putr (k := 35) (f := 51) X Y (by decide) lk_ends rfl rfl hin (t_M_ok 51 (by decide)) rfl rfl rfl (Nat.le_of_ble_eq_true rfl) d_init_343 (fun H locs Y => ?_)
  refine lv_aload_n X.1 X.2.1 d_init_346 rfl (lv_at hl 0 rfl) ?_
  refine lv_sipush (v := (nI 1536)) X.1 X.2.1 d_init_347 (by decide) ?_
  refine i_newa (k := 36) (f := 52) (N := 1536) X Y hA (S := "[B") rfl (fun _ _ h9 => h9) ar_byte 0 (cE := E.1) rfl (a0 := (1536, .inl (fun _ => 0))) (fun _ => rfl) (nI_pos (by decide)) (nI_clamp (by decide)) (by decide) (Nat.le_of_ble_eq_true rfl) (Nat.le_of_ble_eq_true rfl) (fun a => rfl) d_init_350 (fun q H Y => ?_)
  refine i_putr (k := 36) (f := 52) X Y (by decide) lk_keys rfl rfl hin (t_M_ok 52 (by decide)) rfl rfl rfl (Nat.le_of_ble_eq_true rfl) d_init_352 (fun H locs Y => ?_)
  refine lv_aload_n X.1 X.2.1 d_init_355 rfl (lv_at hl 0 rfl) ?_
  refine lv_bipush (v := (nI 40)) X.1 X.2.1 d_init_356 (by decide) ?_
  refine i_newa (k := 37) (f := 53) (N := 40) X Y hA (S := "[B") rfl (fun _ _ h9 => h9) ar_byte 0 (cE := E.1) rfl (a0 := (40, .inl (fun _ => 0))) (fun _ => rfl) (nI_pos (by decide)) (nI_clamp (by decide)) (by decide) (Nat.le_of_ble_eq_true rfl) (Nat.le_of_ble_eq_true rfl) (fun a => rfl) d_init_358 (fun q H Y => ?_)
  refine i_putr (k := 37) (f := 53) X Y (by decide) lk_name rfl rfl hin (t_M_ok 53 (by decide)) rfl rfl rfl (Nat.le_of_ble_eq_true rfl) d_init_360 (fun H locs Y => ?_)
  refine lv_aload_n X.1 X.2.1 d_init_363 rfl (lv_at hl 0 rfl) ?_
  refine lv_bipush (v := (nI 32)) X.1 X.2.1 d_init_364 (by decide) ?_
  refine i_newa (k := 38) (f := 56) (N := 32) X Y hA (S := "[B") rfl (fun _ _ h9 => h9) ar_byte 0 (cE := E.1) rfl (a0 := (32, .inl (fun _ => 0))) (fun _ => rfl) (nI_pos (by decide)) (nI_clamp (by decide)) (by decide) (Nat.le_of_ble_eq_true rfl) (Nat.le_of_ble_eq_true rfl) (fun a => rfl) d_init_366 (fun q H Y => ?_)
  refine i_putr (k := 38) (f := 56) X Y (by decide) lk_made rfl rfl hin (t_M_ok 56 (by decide)) rfl rfl rfl (Nat.le_of_ble_eq_true rfl) d_init_368 (fun H locs Y => ?_)
  refine lv_aload_n X.1 X.2.1 d_init_371 rfl (lv_at hl 0 rfl) ?_
  refine lv_bipush (v := (nI 32)) X.1 X.2.1 d_init_372 (by decide) ?_
  refine i_puti (f := 57) (I2 := (upd (upd (fun _ => 0) 4 (nI 1000000000)) 57 (nI 32))) X Y (by decide) lk_most rfl rfl (t_M_ok 57 (by decide)) rfl rfl rfl (Nat.le_of_ble_eq_true rfl) d_init_374 (fun H locs Y => ?_)
  refine lv_aload_n X.1 X.2.1 d_init_377 rfl (lv_at hl 0 rfl) ?_
  refine lv_bipush (v := (nI 32)) X.1 X.2.1 d_init_378 (by decide) ?_
  refine i_newa (k := 39) (f := 58) (N := 32) X Y hA (S := "[B") rfl (fun _ _ h9 => h9) ar_byte 0 (cE := E.1) rfl (a0 := (32, .inl (fun _ => 0))) (fun _ => rfl) (nI_pos (by decide)) (nI_clamp (by decide)) (by decide) (Nat.le_of_ble_eq_true rfl) (Nat.le_of_ble_eq_true rfl) (fun a => rfl) d_init_380 (fun q H Y => ?_)
  refine i_putr (k := 39) (f := 58) X Y (by decide) lk_key rfl rfl hin (t_M_ok 58 (by decide)) rfl rfl rfl (Nat.le_of_ble_eq_true rfl) d_init_382 (fun H locs Y => ?_)
  refine lv_aload_n X.1 X.2.1 d_init_385 rfl (lv_at hl 0 rfl) ?_
  refine lv_bipush (v := (nI 32)) X.1 X.2.1 d_init_386 (by decide) ?_
  refine i_newa (k := 40) (f := 59) (N := 32) X Y hA (S := "[B") rfl (fun _ _ h9 => h9) ar_byte 0 (cE := E.1) rfl (a0 := (32, .inl (fun _ => 0))) (fun _ => rfl) (nI_pos (by decide)) (nI_clamp (by decide)) (by decide) (Nat.le_of_ble_eq_true rfl) (Nat.le_of_ble_eq_true rfl) (fun a => rfl) d_init_388 (fun q H Y => ?_)
  refine i_putr (k := 40) (f := 59) X Y (by decide) lk_sub rfl rfl hin (t_M_ok 59 (by decide)) rfl rfl rfl (Nat.le_of_ble_eq_true rfl) d_init_390 (fun H locs Y => ?_)
  refine lv_aload_n X.1 X.2.1 d_init_393 rfl (lv_at hl 0 rfl) ?_
  refine lv_bipush (v := (nI 32)) X.1 X.2.1 d_init_394 (by decide) ?_
  refine i_newa (k := 41) (f := 60) (N := 32) X Y hA (S := "[B") rfl (fun _ _ h9 => h9) ar_byte 0 (cE := E.1) rfl (a0 := (32, .inl (fun _ => 0))) (fun _ => rfl) (nI_pos (by decide)) (nI_clamp (by decide)) (by decide) (Nat.le_of_ble_eq_true rfl) (Nat.le_of_ble_eq_true rfl) (fun a => rfl) d_init_396 (fun q H Y => ?_)
  refine i_putr (k := 41) (f := 60) X Y (by decide) lk_fresh rfl rfl hin (t_M_ok 60 (by decide)) rfl rfl rfl (Nat.le_of_ble_eq_true rfl) d_init_398 (fun H locs Y => ?_)
  refine lv_aload_n X.1 X.2.1 d_init_401 rfl (lv_at hl 0 rfl) ?_
  refine lv_sipush (v := (nI 18304)) X.1 X.2.1 d_init_402 (by decide) ?_
  refine i_newa (k := 42) (f := 61) (N := 18304) X Y hA (S := "[B") rfl (fun _ _ h9 => h9) ar_byte 0 (cE := E.1) rfl (a0 := (18304, .inl (fun _ => 0))) (fun _ => rfl) (nI_pos (by decide)) (nI_clamp (by decide)) (by decide) (Nat.le_of_ble_eq_true rfl) (Nat.le_of_ble_eq_true rfl) (fun a => rfl) d_init_405 (fun q H Y => ?_)
  refine i_putr (k := 42) (f := 61) X Y (by decide) lk_seenNames rfl rfl hin (t_M_ok 61 (by decide)) rfl rfl rfl (Nat.le_of_ble_eq_true rfl) d_init_407 (fun H locs Y => ?_)
  refine lv_aload_n X.1 X.2.1 d_init_410 rfl (lv_at hl 0 rfl) ?_
  refine lv_sipush (v := (nI 416)) X.1 X.2.1 d_init_411 (by decide) ?_
  refine i_newa (k := 43) (f := 62) (N := 416) X Y hA (S := "[I") rfl (fun _ _ h9 => h9) ar_int 1 (cE := E.2.1) rfl (a0 := (416, .inl (fun _ => 0))) (fun _ => rfl) (nI_pos (by decide)) (nI_clamp (by decide)) (by decide) (Nat.le_of_ble_eq_true rfl) (Nat.le_of_ble_eq_true rfl) (fun a => rfl) d_init_414 (fun q H Y => ?_)
  refine i_putr (k := 43) (f := 62) X Y (by decide) lk_seenSizes rfl rfl hin (t_M_ok 62 (by decide)) rfl rfl rfl (Nat.le_of_ble_eq_true rfl) d_init_416 (fun H locs Y => ?_)
  refine lv_aload_n X.1 X.2.1 d_init_419 rfl (lv_at hl 0 rfl) ?_
  refine lv_sipush (v := (nI 416)) X.1 X.2.1 d_init_420 (by decide) ?_
  refine i_newa (k := 44) (f := 63) (N := 416) X Y hA (S := "[I") rfl (fun _ _ h9 => h9) ar_int 1 (cE := E.2.1) rfl (a0 := (416, .inl (fun _ => 0))) (fun _ => rfl) (nI_pos (by decide)) (nI_clamp (by decide)) (by decide) (Nat.le_of_ble_eq_true rfl) (Nat.le_of_ble_eq_true rfl) (fun a => rfl) d_init_423 (fun q H Y => ?_)
  refine i_putr (k := 44) (f := 63) X Y (by decide) lk_seenMicros rfl rfl hin (t_M_ok 63 (by decide)) rfl rfl rfl (Nat.le_of_ble_eq_true rfl) d_init_425 (fun H locs Y => ?_)
  refine lv_aload_n X.1 X.2.1 d_init_428 rfl (lv_at hl 0 rfl) ?_
  refine lv_bipush (v := (nI 13)) X.1 X.2.1 d_init_429 (by decide) ?_
  refine i_newa (k := 45) (f := 64) (N := 13) X Y hA (S := "[I") rfl (fun _ _ h9 => h9) ar_int 1 (cE := E.2.1) rfl (a0 := (13, .inl (fun _ => 0))) (fun _ => rfl) (nI_pos (by decide)) (nI_clamp (by decide)) (by decide) (Nat.le_of_ble_eq_true rfl) (Nat.le_of_ble_eq_true rfl) (fun a => rfl) d_init_431 (fun q H Y => ?_)
  refine i_putr (k := 45) (f := 64) X Y (by decide) lk_seenMany rfl rfl hin (t_M_ok 64 (by decide)) rfl rfl rfl (Nat.le_of_ble_eq_true rfl) d_init_433 (fun H locs Y => ?_)
  refine lv_aload_n X.1 X.2.1 d_init_436 rfl (lv_at hl 0 rfl) ?_
  refine lv_sipush (v := (nI 416)) X.1 X.2.1 d_init_437 (by decide) ?_
  refine i_newa (k := 46) (f := 65) (N := 416) X Y hA (S := "[J") rfl (fun _ _ h9 => h9) ar_long 2 (cE := E.2.2.1) rfl (a0 := (416, .inr (.inl (fun _ => 0)))) (fun _ => rfl) (nI_pos (by decide)) (nI_clamp (by decide)) (by decide) (Nat.le_of_ble_eq_true rfl) (Nat.le_of_ble_eq_true rfl) (fun a => rfl) d_init_440 (fun q H Y => ?_)
  refine i_putr (k := 46) (f := 65) X Y (by decide) lk_seenTimes rfl rfl hin (t_M_ok 65 (by decide)) rfl rfl rfl (Nat.le_of_ble_eq_true rfl) d_init_442 (fun H locs Y => ?_)
  refine lv_aload_n X.1 X.2.1 d_init_445 rfl (lv_at hl 0 rfl) ?_
  refine lv_iconst (v := (nI 4)) X.1 X.2.1 d_init_446 (by decide) ?_
  refine i_newa (k := 47) (f := 90) (N := 4) X Y hA (S := "[B") rfl (fun _ _ h9 => h9) ar_byte 0 (cE := E.1) rfl (a0 := (4, .inl (fun _ => 0))) (fun _ => rfl) (nI_pos (by decide)) (nI_clamp (by decide)) (by decide) (Nat.le_of_ble_eq_true rfl) (Nat.le_of_ble_eq_true rfl) (fun a => rfl) d_init_447 (fun q H Y => ?_)
  refine i_putr (k := 47) (f := 90) X Y (by decide) lk_rounds4 rfl rfl hin (t_M_ok 90 (by decide)) rfl rfl rfl (Nat.le_of_ble_eq_true rfl) d_init_449 (fun H locs Y => ?_)
  refine lv_aload_n X.1 X.2.1 d_init_452 rfl (lv_at hl 0 rfl) ?_
  refine lv_iconst (v := (nI 4)) X.1 X.2.1 d_init_453 (by decide) ?_
  refine i_newa (k := 48) (f := 91) (N := 4) X Y hA (S := "[Z") rfl (fun _ _ h9 => h9) ar_boolean 3 (cE := E.2.2.2) rfl (a0 := (4, .inl (fun _ => 0))) (fun _ => rfl) (nI_pos (by decide)) (nI_clamp (by decide)) (by decide) (Nat.le_of_ble_eq_true rfl) (Nat.le_of_ble_eq_true rfl) (fun a => rfl) d_init_454 (fun q H Y => ?_)
  refine i_putr (k := 48) (f := 91) X Y (by decide) lk_isAgent rfl rfl hin (t_M_ok 91 (by decide)) rfl rfl rfl (Nat.le_of_ble_eq_true rfl) d_init_456 (fun H locs Y => ?_)
  refine lv_aload_n X.1 X.2.1 d_init_459 rfl (lv_at hl 0 rfl) ?_
  refine lv_sipush (v := (nI 160)) X.1 X.2.1 d_init_460 (by decide) ?_
  refine i_newa (k := 49) (f := 92) (N := 160) X Y hA (S := "[B") rfl (fun _ _ h9 => h9) ar_byte 0 (cE := E.1) rfl (a0 := (160, .inl (fun _ => 0))) (fun _ => rfl) (nI_pos (by decide)) (nI_clamp (by decide)) (by decide) (Nat.le_of_ble_eq_true rfl) (Nat.le_of_ble_eq_true rfl) (fun a => rfl) d_init_463 (fun q H Y => ?_)
  refine i_putr (k := 49) (f := 92) X Y (by decide) lk_agentNames rfl rfl hin (t_M_ok 92 (by decide)) rfl rfl rfl (Nat.le_of_ble_eq_true rfl) d_init_465 (fun H locs Y => ?_)
  refine lv_aload_n X.1 X.2.1 d_init_468 rfl (lv_at hl 0 rfl) ?_
  refine lv_iconst (v := (nI 4)) X.1 X.2.1 d_init_469 (by decide) ?_
  refine i_newa (k := 50) (f := 93) (N := 4) X Y hA (S := "[I") rfl (fun _ _ h9 => h9) ar_int 1 (cE := E.2.1) rfl (a0 := (4, .inl (fun _ => 0))) (fun _ => rfl) (nI_pos (by decide)) (nI_clamp (by decide)) (by decide) (Nat.le_of_ble_eq_true rfl) (Nat.le_of_ble_eq_true rfl) (fun a => rfl) d_init_470 (fun q H Y => ?_)
  refine i_putr (k := 50) (f := 93) X Y (by decide) lk_agentSizes rfl rfl hin (t_M_ok 93 (by decide)) rfl rfl rfl (Nat.le_of_ble_eq_true rfl) d_init_472 (fun H locs Y => ?_)
  refine lv_aload_n X.1 X.2.1 d_init_475 rfl (lv_at hl 0 rfl) ?_
  refine lv_iconst (v := (nI 4)) X.1 X.2.1 d_init_476 (by decide) ?_
  refine i_newa (k := 51) (f := 94) (N := 4) X Y hA (S := "[I") rfl (fun _ _ h9 => h9) ar_int 1 (cE := E.2.1) rfl (a0 := (4, .inl (fun _ => 0))) (fun _ => rfl) (nI_pos (by decide)) (nI_clamp (by decide)) (by decide) (Nat.le_of_ble_eq_true rfl) (Nat.le_of_ble_eq_true rfl) (fun a => rfl) d_init_477 (fun q H Y => ?_)
  refine i_putr (k := 51) (f := 94) X Y (by decide) lk_shifts rfl rfl hin (t_M_ok 94 (by decide)) rfl rfl rfl (Nat.le_of_ble_eq_true rfl) d_init_479 (fun H locs Y => ?_)
  refine lv_aload_n X.1 X.2.1 d_init_482 rfl (lv_at hl 0 rfl) ?_
  refine lv_iconst (v := (nI 4)) X.1 X.2.1 d_init_483 (by decide) ?_
  refine i_newa (k := 52) (f := 95) (N := 4) X Y hA (S := "[I") rfl (fun _ _ h9 => h9) ar_int 1 (cE := E.2.1) rfl (a0 := (4, .inl (fun _ => 0))) (fun _ => rfl) (nI_pos (by decide)) (nI_clamp (by decide)) (by decide) (Nat.le_of_ble_eq_true rfl) (Nat.le_of_ble_eq_true rfl) (fun a => rfl) d_init_484 (fun q H Y => ?_)
  refine i_putr (k := 52) (f := 95) X Y (by decide) lk_micros rfl rfl hin (t_M_ok 95 (by decide)) rfl rfl rfl (Nat.le_of_ble_eq_true rfl) d_init_486 (fun H locs Y => ?_)
  refine lv_aload_n X.1 X.2.1 d_init_489 rfl (lv_at hl 0 rfl) ?_
  refine lv_sipush (v := (nI 256)) X.1 X.2.1 d_init_490 (by decide) ?_
  refine i_newa (k := 53) (f := 96) (N := 256) X Y hA (S := "[B") rfl (fun _ _ h9 => h9) ar_byte 0 (cE := E.1) rfl (a0 := (256, .inl (fun _ => 0))) (fun _ => rfl) (nI_pos (by decide)) (nI_clamp (by decide)) (by decide) (Nat.le_of_ble_eq_true rfl) (Nat.le_of_ble_eq_true rfl) (fun a => rfl) d_init_493 (fun q H Y => ?_)
  refine i_putr (k := 53) (f := 96) X Y (by decide) lk_agentKeys rfl rfl hin (t_M_ok 96 (by decide)) rfl rfl rfl (Nat.le_of_ble_eq_true rfl) d_init_495 (fun H locs Y => ?_)
  refine lv_aload_n X.1 X.2.1 d_init_498 rfl (lv_at hl 0 rfl) ?_
  refine lv_bipush (v := (nI 32)) X.1 X.2.1 d_init_499 (by decide) ?_
  refine i_newa (k := 54) (f := 97) (N := 32) X Y hA (S := "[Z") rfl (fun _ _ h9 => h9) ar_boolean 3 (cE := E.2.2.2) rfl (a0 := (32, .inl (fun _ => 0))) (fun _ => rfl) (nI_pos (by decide)) (nI_clamp (by decide)) (by decide) (Nat.le_of_ble_eq_true rfl) (Nat.le_of_ble_eq_true rfl) (fun a => rfl) d_init_501 (fun q H Y => ?_)
  refine i_putr (k := 54) (f := 97) X Y (by decide) lk_isTicket rfl rfl hin (t_M_ok 97 (by decide)) rfl rfl rfl (Nat.le_of_ble_eq_true rfl) d_init_503 (fun H locs Y => ?_)
  refine lv_aload_n X.1 X.2.1 d_init_506 rfl (lv_at hl 0 rfl) ?_
  refine lv_ldc (v := (134400)) X.1 X.2.1 X.2.2.2.1 (X.2.2.1 _ cn_187) d_init_507 ?_
  refine t_eq (y := nI 134400) (by decide) ?_
  refine i_newa (k := 55) (f := 98) (N := 134400) X Y hA (S := "[B") rfl (fun _ _ h9 => h9) ar_byte 0 (cE := E.1) rfl (a0 := (134400, .inl (fun _ => 0))) (fun _ => rfl) (nI_pos (by decide)) (nI_clamp (by decide)) (by decide) (Nat.le_of_ble_eq_true rfl) (Nat.le_of_ble_eq_true rfl) (fun a => rfl) d_init_509 (fun q H Y => ?_)
  refine i_putr (k := 55) (f := 98) X Y (by decide) lk_ticketBytes rfl rfl hin (t_M_ok 98 (by decide)) rfl rfl rfl (Nat.le_of_ble_eq_true rfl) d_init_511 (fun H locs Y => ?_)
  refine lv_aload_n X.1 X.2.1 d_init_514 rfl (lv_at hl 0 rfl) ?_
  refine lv_sipush (v := (nI 1024)) X.1 X.2.1 d_init_515 (by decide) ?_
  refine i_newa (k := 56) (f := 99) (N := 1024) X Y hA (S := "[B") rfl (fun _ _ h9 => h9) ar_byte 0 (cE := E.1) rfl (a0 := (1024, .inl (fun _ => 0))) (fun _ => rfl) (nI_pos (by decide)) (nI_clamp (by decide)) (by decide) (Nat.le_of_ble_eq_true rfl) (Nat.le_of_ble_eq_true rfl) (fun a => rfl) d_init_518 (fun q H Y => ?_)
  refine i_putr (k := 56) (f := 99) X Y (by decide) lk_ticketKeys rfl rfl hin (t_M_ok 99 (by decide)) rfl rfl rfl (Nat.le_of_ble_eq_true rfl) d_init_520 (fun H locs Y => ?_)
  refine lv_aload_n X.1 X.2.1 d_init_523 rfl (lv_at hl 0 rfl) ?_
  refine lv_bipush (v := (nI 32)) X.1 X.2.1 d_init_524 (by decide) ?_
  refine i_newa (k := 57) (f := 100) (N := 32) X Y hA (S := "[I") rfl (fun _ _ h9 => h9) ar_int 1 (cE := E.2.1) rfl (a0 := (32, .inl (fun _ => 0))) (fun _ => rfl) (nI_pos (by decide)) (nI_clamp (by decide)) (by decide) (Nat.le_of_ble_eq_true rfl) (Nat.le_of_ble_eq_true rfl) (fun a => rfl) d_init_526 (fun q H Y => ?_)
  refine i_putr (k := 57) (f := 100) X Y (by decide) lk_ticketSizes rfl rfl hin (t_M_ok 100 (by decide)) rfl rfl rfl (Nat.le_of_ble_eq_true rfl) d_init_528 (fun H locs Y => ?_)
  refine lv_aload_n X.1 X.2.1 d_init_531 rfl (lv_at hl 0 rfl) ?_
  refine lv_bipush (v := (nI 32)) X.1 X.2.1 d_init_532 (by decide) ?_
  refine i_newa (k := 58) (f := 101) (N := 32) X Y hA (S := "[I") rfl (fun _ _ h9 => h9) ar_int 1 (cE := E.2.1) rfl (a0 := (32, .inl (fun _ => 0))) (fun _ => rfl) (nI_pos (by decide)) (nI_clamp (by decide)) (by decide) (Nat.le_of_ble_eq_true rfl) (Nat.le_of_ble_eq_true rfl) (fun a => rfl) d_init_534 (fun q H Y => ?_)
  refine i_putr (k := 58) (f := 101) X Y (by decide) lk_ticketFlags rfl rfl hin (t_M_ok 101 (by decide)) rfl rfl rfl (Nat.le_of_ble_eq_true rfl) d_init_536 (fun H locs Y => ?_)
  refine lv_aload_n X.1 X.2.1 d_init_539 rfl (lv_at hl 0 rfl) ?_
  refine lv_bipush (v := (nI 32)) X.1 X.2.1 d_init_540 (by decide) ?_
  refine i_newa (k := 59) (f := 102) (N := 32) X Y hA (S := "[I") rfl (fun _ _ h9 => h9) ar_int 1 (cE := E.2.1) rfl (a0 := (32, .inl (fun _ => 0))) (fun _ => rfl) (nI_pos (by decide)) (nI_clamp (by decide)) (by decide) (Nat.le_of_ble_eq_true rfl) (Nat.le_of_ble_eq_true rfl) (fun a => rfl) d_init_542 (fun q H Y => ?_)
  refine i_putr (k := 59) (f := 102) X Y (by decide) lk_ticketTypes rfl rfl hin (t_M_ok 102 (by decide)) rfl rfl rfl (Nat.le_of_ble_eq_true rfl) d_init_544 (fun H locs Y => ?_)
  refine lv_aload_n X.1 X.2.1 d_init_547 rfl (lv_at hl 0 rfl) ?_
  refine lv_bipush (v := (nI 32)) X.1 X.2.1 d_init_548 (by decide) ?_
  refine i_newa (k := 60) (f := 103) (N := 32) X Y hA (S := "[J") rfl (fun _ _ h9 => h9) ar_long 2 (cE := E.2.2.1) rfl (a0 := (32, .inr (.inl (fun _ => 0)))) (fun _ => rfl) (nI_pos (by decide)) (nI_clamp (by decide)) (by decide) (Nat.le_of_ble_eq_true rfl) (Nat.le_of_ble_eq_true rfl) (fun a => rfl) d_init_550 (fun q H Y => ?_)
  refine i_putr (k := 60) (f := 103) X Y (by decide) lk_authTimes rfl rfl hin (t_M_ok 103 (by decide)) rfl rfl rfl (Nat.le_of_ble_eq_true rfl) d_init_552 (fun H locs Y => ?_)
  refine lv_aload_n X.1 X.2.1 d_init_555 rfl (lv_at hl 0 rfl) ?_
  refine lv_bipush (v := (nI 32)) X.1 X.2.1 d_init_556 (by decide) ?_
  refine i_newa (k := 61) (f := 104) (N := 32) X Y hA (S := "[J") rfl (fun _ _ h9 => h9) ar_long 2 (cE := E.2.2.1) rfl (a0 := (32, .inr (.inl (fun _ => 0)))) (fun _ => rfl) (nI_pos (by decide)) (nI_clamp (by decide)) (by decide) (Nat.le_of_ble_eq_true rfl) (Nat.le_of_ble_eq_true rfl) (fun a => rfl) d_init_558 (fun q H Y => ?_)
  refine i_putr (k := 61) (f := 104) X Y (by decide) lk_startTimes rfl rfl hin (t_M_ok 104 (by decide)) rfl rfl rfl (Nat.le_of_ble_eq_true rfl) d_init_560 (fun H locs Y => ?_)
  refine lv_aload_n X.1 X.2.1 d_init_563 rfl (lv_at hl 0 rfl) ?_
  refine lv_bipush (v := (nI 32)) X.1 X.2.1 d_init_564 (by decide) ?_
  refine i_newa (k := 62) (f := 105) (N := 32) X Y hA (S := "[J") rfl (fun _ _ h9 => h9) ar_long 2 (cE := E.2.2.1) rfl (a0 := (32, .inr (.inl (fun _ => 0)))) (fun _ => rfl) (nI_pos (by decide)) (nI_clamp (by decide)) (by decide) (Nat.le_of_ble_eq_true rfl) (Nat.le_of_ble_eq_true rfl) (fun a => rfl) d_init_566 (fun q H Y => ?_)
  refine i_putr (k := 62) (f := 105) X Y (by decide) lk_endTimes rfl rfl hin (t_M_ok 105 (by decide)) rfl rfl rfl (Nat.le_of_ble_eq_true rfl) d_init_568 (fun H locs Y => ?_)
  refine lv_aload_n X.1 X.2.1 d_init_571 rfl (lv_at hl 0 rfl) ?_
  refine lv_bipush (v := (nI 32)) X.1 X.2.1 d_init_572 (by decide) ?_
  refine i_newa (k := 63) (f := 106) (N := 32) X Y hA (S := "[J") rfl (fun _ _ h9 => h9) ar_long 2 (cE := E.2.2.1) rfl (a0 := (32, .inr (.inl (fun _ => 0)))) (fun _ => rfl) (nI_pos (by decide)) (nI_clamp (by decide)) (by decide) (Nat.le_of_ble_eq_true rfl) (Nat.le_of_ble_eq_true rfl) (fun a => rfl) d_init_574 (fun q H Y => ?_)
  refine i_putr (k := 63) (f := 106) X Y (by decide) lk_renewTimes rfl rfl hin (t_M_ok 106 (by decide)) rfl rfl rfl (Nat.le_of_ble_eq_true rfl) d_init_576 (fun H locs Y => ?_)
  refine lv_aload_n X.1 X.2.1 d_init_579 rfl (lv_at hl 0 rfl) ?_
  refine lv_sipush (v := (nI 12800)) X.1 X.2.1 d_init_580 (by decide) ?_
  refine i_newa (k := 64) (f := 107) (N := 12800) X Y hA (S := "[B") rfl (fun _ _ h9 => h9) ar_byte 0 (cE := E.1) rfl (a0 := (12800, .inl (fun _ => 0))) (fun _ => rfl) (nI_pos (by decide)) (nI_clamp (by decide)) (by decide) (Nat.le_of_ble_eq_true rfl) (Nat.le_of_ble_eq_true rfl) (fun a => rfl) d_init_583 (fun q H Y => ?_)
  refine i_putr (k := 64) (f := 107) X Y (by decide) lk_clientBytes rfl rfl hin (t_M_ok 107 (by decide)) rfl rfl rfl (Nat.le_of_ble_eq_true rfl) d_init_585 (fun H locs Y => ?_)
  refine lv_aload_n X.1 X.2.1 d_init_588 rfl (lv_at hl 0 rfl) ?_
  refine lv_bipush (v := (nI 32)) X.1 X.2.1 d_init_589 (by decide) ?_
  refine i_newa (k := 65) (f := 108) (N := 32) X Y hA (S := "[I") rfl (fun _ _ h9 => h9) ar_int 1 (cE := E.2.1) rfl (a0 := (32, .inl (fun _ => 0))) (fun _ => rfl) (nI_pos (by decide)) (nI_clamp (by decide)) (by decide) (Nat.le_of_ble_eq_true rfl) (Nat.le_of_ble_eq_true rfl) (fun a => rfl) d_init_591 (fun q H Y => ?_)
  refine i_putr (k := 65) (f := 108) X Y (by decide) lk_realmSizes rfl rfl hin (t_M_ok 108 (by decide)) rfl rfl rfl (Nat.le_of_ble_eq_true rfl) d_init_593 (fun H locs Y => ?_)
  refine lv_aload_n X.1 X.2.1 d_init_596 rfl (lv_at hl 0 rfl) ?_
  refine lv_bipush (v := (nI 32)) X.1 X.2.1 d_init_597 (by decide) ?_
  refine i_newa (k := 66) (f := 109) (N := 32) X Y hA (S := "[I") rfl (fun _ _ h9 => h9) ar_int 1 (cE := E.2.1) rfl (a0 := (32, .inl (fun _ => 0))) (fun _ => rfl) (nI_pos (by decide)) (nI_clamp (by decide)) (by decide) (Nat.le_of_ble_eq_true rfl) (Nat.le_of_ble_eq_true rfl) (fun a => rfl) d_init_599 (fun q H Y => ?_)
  refine i_putr (k := 66) (f := 109) X Y (by decide) lk_clientSizes rfl rfl hin (t_M_ok 109 (by decide)) rfl rfl rfl (Nat.le_of_ble_eq_true rfl) d_init_601 (fun H locs Y => ?_)
  refine lv_aload_n X.1 X.2.1 d_init_604 rfl (lv_at hl 0 rfl) ?_
  refine lv_iconst (v := (nI 4)) X.1 X.2.1 d_init_605 (by decide) ?_
  refine i_newa (k := 67) (f := 110) (N := 4) X Y hA (S := "[I") rfl (fun _ _ h9 => h9) ar_int 1 (cE := E.2.1) rfl (a0 := (4, .inl (fun _ => 0))) (fun _ => rfl) (nI_pos (by decide)) (nI_clamp (by decide)) (by decide) (Nat.le_of_ble_eq_true rfl) (Nat.le_of_ble_eq_true rfl) (fun a => rfl) d_init_606 (fun q H Y => ?_)
  refine i_putr (k := 67) (f := 110) X Y (by decide) lk_askedKind rfl rfl hin (t_M_ok 110 (by decide)) rfl rfl rfl (Nat.le_of_ble_eq_true rfl) d_init_608 (fun H locs Y => ?_)
  refine lv_aload_n X.1 X.2.1 d_init_611 rfl (lv_at hl 0 rfl) ?_
  refine lv_iconst (v := (nI 4)) X.1 X.2.1 d_init_612 (by decide) ?_
  refine i_newa (k := 68) (f := 111) (N := 4) X Y hA (S := "[I") rfl (fun _ _ h9 => h9) ar_int 1 (cE := E.2.1) rfl (a0 := (4, .inl (fun _ => 0))) (fun _ => rfl) (nI_pos (by decide)) (nI_clamp (by decide)) (by decide) (Nat.le_of_ble_eq_true rfl) (Nat.le_of_ble_eq_true rfl) (fun a => rfl) d_init_613 (fun q H Y => ?_)
  refine i_putr (k := 68) (f := 111) X Y (by decide) lk_askedTypes rfl rfl hin (t_M_ok 111 (by decide)) rfl rfl rfl (Nat.le_of_ble_eq_true rfl) d_init_615 (fun H locs Y => ?_)
  refine lv_aload_n X.1 X.2.1 d_init_618 rfl (lv_at hl 0 rfl) ?_
  refine lv_iconst (v := (nI 4)) X.1 X.2.1 d_init_619 (by decide) ?_
  refine i_newa (k := 69) (f := 112) (N := 4) X Y hA (S := "[I") rfl (fun _ _ h9 => h9) ar_int 1 (cE := E.2.1) rfl (a0 := (4, .inl (fun _ => 0))) (fun _ => rfl) (nI_pos (by decide)) (nI_clamp (by decide)) (by decide) (Nat.le_of_ble_eq_true rfl) (Nat.le_of_ble_eq_true rfl) (fun a => rfl) d_init_620 (fun q H Y => ?_)
  refine i_putr (k := 69) (f := 112) X Y (by decide) lk_askedSub rfl rfl hin (t_M_ok 112 (by decide)) rfl rfl rfl (Nat.le_of_ble_eq_true rfl) d_init_622 (fun H locs Y => ?_)
  refine lv_aload_n X.1 X.2.1 d_init_625 rfl (lv_at hl 0 rfl) ?_
  refine lv_iconst (v := (nI 4)) X.1 X.2.1 d_init_626 (by decide) ?_
  refine i_newa (k := 70) (f := 113) (N := 4) X Y hA (S := "[I") rfl (fun _ _ h9 => h9) ar_int 1 (cE := E.2.1) rfl (a0 := (4, .inl (fun _ => 0))) (fun _ => rfl) (nI_pos (by decide)) (nI_clamp (by decide)) (by decide) (Nat.le_of_ble_eq_true rfl) (Nat.le_of_ble_eq_true rfl) (fun a => rfl) d_init_627 (fun q H Y => ?_)
  refine i_putr (k := 70) (f := 113) X Y (by decide) lk_askedSize rfl rfl hin (t_M_ok 113 (by decide)) rfl rfl rfl (Nat.le_of_ble_eq_true rfl) d_init_629 (fun H locs Y => ?_)
  refine lv_aload_n X.1 X.2.1 d_init_632 rfl (lv_at hl 0 rfl) ?_
  refine lv_iconst (v := (nI 4)) X.1 X.2.1 d_init_633 (by decide) ?_
  refine i_newa (k := 71) (f := 114) (N := 4) X Y hA (S := "[J") rfl (fun _ _ h9 => h9) ar_long 2 (cE := E.2.2.1) rfl (a0 := (4, .inr (.inl (fun _ => 0)))) (fun _ => rfl) (nI_pos (by decide)) (nI_clamp (by decide)) (by decide) (Nat.le_of_ble_eq_true rfl) (Nat.le_of_ble_eq_true rfl) (fun a => rfl) d_init_634 (fun q H Y => ?_)
  refine i_putr (k := 71) (f := 114) X Y (by decide) lk_askedNonce rfl rfl hin (t_M_ok 114 (by decide)) rfl rfl rfl (Nat.le_of_ble_eq_true rfl) d_init_636 (fun H locs Y => ?_)
  refine lv_aload_n X.1 X.2.1 d_init_639 rfl (lv_at hl 0 rfl) ?_
  refine lv_iconst (v := (nI 4)) X.1 X.2.1 d_init_640 (by decide) ?_
  refine i_newa (k := 72) (f := 115) (N := 4) X Y hA (S := "[Z") rfl (fun _ _ h9 => h9) ar_boolean 3 (cE := E.2.2.2) rfl (a0 := (4, .inl (fun _ => 0))) (fun _ => rfl) (nI_pos (by decide)) (nI_clamp (by decide)) (by decide) (Nat.le_of_ble_eq_true rfl) (Nat.le_of_ble_eq_true rfl) (fun a => rfl) d_init_641 (fun q H Y => ?_)
  refine i_putr (k := 72) (f := 115) X Y (by decide) lk_askedRenew rfl rfl hin (t_M_ok 115 (by decide)) rfl rfl rfl (Nat.le_of_ble_eq_true rfl) d_init_643 (fun H locs Y => ?_)
  refine lv_aload_n X.1 X.2.1 d_init_646 rfl (lv_at hl 0 rfl) ?_
  refine lv_sipush (v := (nI 128)) X.1 X.2.1 d_init_647 (by decide) ?_
  refine i_newa (k := 73) (f := 116) (N := 128) X Y hA (S := "[B") rfl (fun _ _ h9 => h9) ar_byte 0 (cE := E.1) rfl (a0 := (128, .inl (fun _ => 0))) (fun _ => rfl) (nI_pos (by decide)) (nI_clamp (by decide)) (by decide) (Nat.le_of_ble_eq_true rfl) (Nat.le_of_ble_eq_true rfl) (fun a => rfl) d_init_650 (fun q H Y => ?_)
  refine i_putr (k := 73) (f := 116) X Y (by decide) lk_askedKeys rfl rfl hin (t_M_ok 116 (by decide)) rfl rfl rfl (Nat.le_of_ble_eq_true rfl) d_init_652 (fun H locs Y => ?_)
  refine lv_aload_n X.1 X.2.1 d_init_655 rfl (lv_at hl 0 rfl) ?_
  refine lv_sipush (v := (nI 160)) X.1 X.2.1 d_init_656 (by decide) ?_
  refine i_newa (k := 74) (f := 117) (N := 160) X Y hA (S := "[B") rfl (fun _ _ h9 => h9) ar_byte 0 (cE := E.1) rfl (a0 := (160, .inl (fun _ => 0))) (fun _ => rfl) (nI_pos (by decide)) (nI_clamp (by decide)) (by decide) (Nat.le_of_ble_eq_true rfl) (Nat.le_of_ble_eq_true rfl) (fun a => rfl) d_init_659 (fun q H Y => ?_)
  refine i_putr (k := 74) (f := 117) X Y (by decide) lk_askedNames rfl rfl hin (t_M_ok 117 (by decide)) rfl rfl rfl (Nat.le_of_ble_eq_true rfl) d_init_661 (fun H locs Y => ?_)
  refine lv_aload_n X.1 X.2.1 d_init_664 rfl (lv_at hl 0 rfl) ?_
  refine lv_sipush (v := (nI 1600)) X.1 X.2.1 d_init_665 (by decide) ?_
  refine i_newa (k := 75) (f := 118) (N := 1600) X Y hA (S := "[B") rfl (fun _ _ h9 => h9) ar_byte 0 (cE := E.1) rfl (a0 := (1600, .inl (fun _ => 0))) (fun _ => rfl) (nI_pos (by decide)) (nI_clamp (by decide)) (by decide) (Nat.le_of_ble_eq_true rfl) (Nat.le_of_ble_eq_true rfl) (fun a => rfl) d_init_668 (fun q H Y => ?_)
  refine i_putr (k := 75) (f := 118) X Y (by decide) lk_askedClients rfl rfl hin (t_M_ok 118 (by decide)) rfl rfl rfl (Nat.le_of_ble_eq_true rfl) d_init_670 (fun H locs Y => ?_)
  refine lv_aload_n X.1 X.2.1 d_init_673 rfl (lv_at hl 0 rfl) ?_
  refine lv_iconst (v := (nI 4)) X.1 X.2.1 d_init_674 (by decide) ?_
  refine i_newa (k := 76) (f := 119) (N := 4) X Y hA (S := "[I") rfl (fun _ _ h9 => h9) ar_int 1 (cE := E.2.1) rfl (a0 := (4, .inl (fun _ => 0))) (fun _ => rfl) (nI_pos (by decide)) (nI_clamp (by decide)) (by decide) (Nat.le_of_ble_eq_true rfl) (Nat.le_of_ble_eq_true rfl) (fun a => rfl) d_init_675 (fun q H Y => ?_)
  refine i_putr (k := 76) (f := 119) X Y (by decide) lk_askedRealm rfl rfl hin (t_M_ok 119 (by decide)) rfl rfl rfl (Nat.le_of_ble_eq_true rfl) d_init_677 (fun H locs Y => ?_)
  refine lv_aload_n X.1 X.2.1 d_init_680 rfl (lv_at hl 0 rfl) ?_
  refine lv_iconst (v := (nI 4)) X.1 X.2.1 d_init_681 (by decide) ?_
  refine i_newa (k := 77) (f := 120) (N := 4) X Y hA (S := "[I") rfl (fun _ _ h9 => h9) ar_int 1 (cE := E.2.1) rfl (a0 := (4, .inl (fun _ => 0))) (fun _ => rfl) (nI_pos (by decide)) (nI_clamp (by decide)) (by decide) (Nat.le_of_ble_eq_true rfl) (Nat.le_of_ble_eq_true rfl) (fun a => rfl) d_init_682 (fun q H Y => ?_)
  refine i_putr (k := 77) (f := 120) X Y (by decide) lk_askedClient rfl rfl hin (t_M_ok 120 (by decide)) rfl rfl rfl (Nat.le_of_ble_eq_true rfl) d_init_684 (fun H locs Y => ?_)
  refine lv_aload_n X.1 X.2.1 d_init_687 rfl (lv_at hl 0 rfl) ?_
  refine lv_iconst (v := (nI 4)) X.1 X.2.1 d_init_688 (by decide) ?_
  refine i_newa (k := 78) (f := 121) (N := 4) X Y hA (S := "[Z") rfl (fun _ _ h9 => h9) ar_boolean 3 (cE := E.2.2.2) rfl (a0 := (4, .inl (fun _ => 0))) (fun _ => rfl) (nI_pos (by decide)) (nI_clamp (by decide)) (by decide) (Nat.le_of_ble_eq_true rfl) (Nat.le_of_ble_eq_true rfl) (fun a => rfl) d_init_689 (fun q H Y => ?_)
  refine i_putr (k := 78) (f := 121) X Y (by decide) lk_wantsMet rfl rfl hin (t_M_ok 121 (by decide)) rfl rfl rfl (Nat.le_of_ble_eq_true rfl) d_init_691 (fun H locs Y => ?_)
  refine lv_aload_n X.1 X.2.1 d_init_694 rfl (lv_at hl 0 rfl) ?_
  refine lv_iconst (v := (nI 4)) X.1 X.2.1 d_init_695 (by decide) ?_
  refine i_newa (k := 79) (f := 122) (N := 4) X Y hA (S := "[I") rfl (fun _ _ h9 => h9) ar_int 1 (cE := E.2.1) rfl (a0 := (4, .inl (fun _ => 0))) (fun _ => rfl) (nI_pos (by decide)) (nI_clamp (by decide)) (by decide) (Nat.le_of_ble_eq_true rfl) (Nat.le_of_ble_eq_true rfl) (fun a => rfl) d_init_696 (fun q H Y => ?_)
  refine i_putr (k := 79) (f := 122) X Y (by decide) lk_apType rfl rfl hin (t_M_ok 122 (by decide)) rfl rfl rfl (Nat.le_of_ble_eq_true rfl) d_init_698 (fun H locs Y => ?_)
  refine lv_aload_n X.1 X.2.1 d_init_701 rfl (lv_at hl 0 rfl) ?_
  refine lv_iconst (v := (nI 4)) X.1 X.2.1 d_init_702 (by decide) ?_
  refine i_newa (k := 80) (f := 123) (N := 4) X Y hA (S := "[I") rfl (fun _ _ h9 => h9) ar_int 1 (cE := E.2.1) rfl (a0 := (4, .inl (fun _ => 0))) (fun _ => rfl) (nI_pos (by decide)) (nI_clamp (by decide)) (by decide) (Nat.le_of_ble_eq_true rfl) (Nat.le_of_ble_eq_true rfl) (fun a => rfl) d_init_703 (fun q H Y => ?_)
  refine i_putr (k := 80) (f := 123) X Y (by decide) lk_apSubType rfl rfl hin (t_M_ok 123 (by decide)) rfl rfl rfl (Nat.le_of_ble_eq_true rfl) d_init_705 (fun H locs Y => ?_)
  refine lv_aload_n X.1 X.2.1 d_init_708 rfl (lv_at hl 0 rfl) ?_
  refine lv_iconst (v := (nI 4)) X.1 X.2.1 d_init_709 (by decide) ?_
  refine i_newa (k := 81) (f := 124) (N := 4) X Y hA (S := "[I") rfl (fun _ _ h9 => h9) ar_int 1 (cE := E.2.1) rfl (a0 := (4, .inl (fun _ => 0))) (fun _ => rfl) (nI_pos (by decide)) (nI_clamp (by decide)) (by decide) (Nat.le_of_ble_eq_true rfl) (Nat.le_of_ble_eq_true rfl) (fun a => rfl) d_init_710 (fun q H Y => ?_)
  refine i_putr (k := 81) (f := 124) X Y (by decide) lk_apMicros rfl rfl hin (t_M_ok 124 (by decide)) rfl rfl rfl (Nat.le_of_ble_eq_true rfl) d_init_712 (fun H locs Y => ?_)
  refine lv_aload_n X.1 X.2.1 d_init_715 rfl (lv_at hl 0 rfl) ?_
  refine lv_iconst (v := (nI 4)) X.1 X.2.1 d_init_716 (by decide) ?_
  refine i_newa (k := 82) (f := 125) (N := 4) X Y hA (S := "[I") rfl (fun _ _ h9 => h9) ar_int 1 (cE := E.2.1) rfl (a0 := (4, .inl (fun _ => 0))) (fun _ => rfl) (nI_pos (by decide)) (nI_clamp (by decide)) (by decide) (Nat.le_of_ble_eq_true rfl) (Nat.le_of_ble_eq_true rfl) (fun a => rfl) d_init_717 (fun q H Y => ?_)
  refine i_putr (k := 82) (f := 125) X Y (by decide) lk_apSerial rfl rfl hin (t_M_ok 125 (by decide)) rfl rfl rfl (Nat.le_of_ble_eq_true rfl) d_init_719 (fun H locs Y => ?_)
  refine lv_aload_n X.1 X.2.1 d_init_722 rfl (lv_at hl 0 rfl) ?_
  refine lv_sipush (v := (nI 128)) X.1 X.2.1 d_init_723 (by decide) ?_
  refine i_newa (k := 83) (f := 126) (N := 128) X Y hA (S := "[B") rfl (fun _ _ h9 => h9) ar_byte 0 (cE := E.1) rfl (a0 := (128, .inl (fun _ => 0))) (fun _ => rfl) (nI_pos (by decide)) (nI_clamp (by decide)) (by decide) (Nat.le_of_ble_eq_true rfl) (Nat.le_of_ble_eq_true rfl) (fun a => rfl) d_init_726 (fun q H Y => ?_)
  refine i_putr (k := 83) (f := 126) X Y (by decide) lk_apKeys rfl rfl hin (t_M_ok 126 (by decide)) rfl rfl rfl (Nat.le_of_ble_eq_true rfl) d_init_728 (fun H locs Y => ?_)
  refine lv_aload_n X.1 X.2.1 d_init_731 rfl (lv_at hl 0 rfl) ?_
  refine lv_sipush (v := (nI 128)) X.1 X.2.1 d_init_732 (by decide) ?_
  refine i_newa (k := 84) (f := 127) (N := 128) X Y hA (S := "[B") rfl (fun _ _ h9 => h9) ar_byte 0 (cE := E.1) rfl (a0 := (128, .inl (fun _ => 0))) (fun _ => rfl) (nI_pos (by decide)) (nI_clamp (by decide)) (by decide) (Nat.le_of_ble_eq_true rfl) (Nat.le_of_ble_eq_true rfl) (fun a => rfl) d_init_735 (fun q H Y => ?_)
  refine i_putr (k := 84) (f := 127) X Y (by decide) lk_apSubs rfl rfl hin (t_M_ok 127 (by decide)) rfl rfl rfl (Nat.le_of_ble_eq_true rfl) d_init_737 (fun H locs Y => ?_)
  refine lv_aload_n X.1 X.2.1 d_init_740 rfl (lv_at hl 0 rfl) ?_
  refine lv_iconst (v := (nI 4)) X.1 X.2.1 d_init_741 (by decide) ?_
  refine i_newa (k := 85) (f := 128) (N := 4) X Y hA (S := "[J") rfl (fun _ _ h9 => h9) ar_long 2 (cE := E.2.2.1) rfl (a0 := (4, .inr (.inl (fun _ => 0)))) (fun _ => rfl) (nI_pos (by decide)) (nI_clamp (by decide)) (by decide) (Nat.le_of_ble_eq_true rfl) (Nat.le_of_ble_eq_true rfl) (fun a => rfl) d_init_742 (fun q H Y => ?_)
  refine i_putr (k := 85) (f := 128) X Y (by decide) lk_apTime rfl rfl hin (t_M_ok 128 (by decide)) rfl rfl rfl (Nat.le_of_ble_eq_true rfl) d_init_744 (fun H locs Y => ?_)
  refine lv_aload_n X.1 X.2.1 d_init_747 rfl (lv_at hl 0 rfl) ?_
  refine lv_iconst (v := (nI 4)) X.1 X.2.1 d_init_748 (by decide) ?_
  refine i_newa (k := 86) (f := 129) (N := 4) X Y hA (S := "[J") rfl (fun _ _ h9 => h9) ar_long 2 (cE := E.2.2.1) rfl (a0 := (4, .inr (.inl (fun _ => 0)))) (fun _ => rfl) (nI_pos (by decide)) (nI_clamp (by decide)) (by decide) (Nat.le_of_ble_eq_true rfl) (Nat.le_of_ble_eq_true rfl) (fun a => rfl) d_init_749 (fun q H Y => ?_)
  refine i_putr (k := 86) (f := 129) X Y (by decide) lk_apNumber rfl rfl hin (t_M_ok 129 (by decide)) rfl rfl rfl (Nat.le_of_ble_eq_true rfl) d_init_751 (fun H locs Y => ?_)
  refine lv_aload_n X.1 X.2.1 d_init_754 rfl (lv_at hl 0 rfl) ?_
  refine lv_iconst (v := (nI 4)) X.1 X.2.1 d_init_755 (by decide) ?_
  refine i_newa (k := 87) (f := 130) (N := 4) X Y hA (S := "[J") rfl (fun _ _ h9 => h9) ar_long 2 (cE := E.2.2.1) rfl (a0 := (4, .inr (.inl (fun _ => 0)))) (fun _ => rfl) (nI_pos (by decide)) (nI_clamp (by decide)) (by decide) (Nat.le_of_ble_eq_true rfl) (Nat.le_of_ble_eq_true rfl) (fun a => rfl) d_init_756 (fun q H Y => ?_)
  refine i_putr (k := 87) (f := 130) X Y (by decide) lk_apOther rfl rfl hin (t_M_ok 130 (by decide)) rfl rfl rfl (Nat.le_of_ble_eq_true rfl) d_init_758 (fun H locs Y => ?_)
  refine lv_aload_n X.1 X.2.1 d_init_761 rfl (lv_at hl 0 rfl) ?_
  refine lv_bipush (v := (nI 12)) X.1 X.2.1 d_init_762 (by decide) ?_
  refine i_newa (k := 88) (f := 132) (N := 12) X Y hA (S := "[B") rfl (fun _ _ h9 => h9) ar_byte 0 (cE := E.1) rfl (a0 := (12, .inl (fun _ => 0))) (fun _ => rfl) (nI_pos (by decide)) (nI_clamp (by decide)) (by decide) (Nat.le_of_ble_eq_true rfl) (Nat.le_of_ble_eq_true rfl) (fun a => rfl) d_init_764 (fun q H Y => ?_)
  refine i_putr (k := 88) (f := 132) X Y (by decide) lk_kept rfl rfl hin (t_M_ok 132 (by decide)) rfl rfl rfl (Nat.le_of_ble_eq_true rfl) d_init_766 (fun H locs Y => ?_)
  refine lv_aload_n X.1 X.2.1 d_init_769 rfl (lv_at hl 0 rfl) ?_
  refine lv_bipush (v := (nI 8)) X.1 X.2.1 d_init_770 (by decide) ?_
  refine i_newa (k := 89) (f := 133) (N := 8) X Y hA (S := "[Z") rfl (fun _ _ h9 => h9) ar_boolean 3 (cE := E.2.2.2) rfl (a0 := (8, .inl (fun _ => 0))) (fun _ => rfl) (nI_pos (by decide)) (nI_clamp (by decide)) (by decide) (Nat.le_of_ble_eq_true rfl) (Nat.le_of_ble_eq_true rfl) (fun a => rfl) d_init_772 (fun q H Y => ?_)
  refine i_putr (k := 89) (f := 133) X Y (by decide) lk_isSession rfl rfl hin (t_M_ok 133 (by decide)) rfl rfl rfl (Nat.le_of_ble_eq_true rfl) d_init_774 (fun H locs Y => ?_)
  refine lv_aload_n X.1 X.2.1 d_init_777 rfl (lv_at hl 0 rfl) ?_
  refine lv_bipush (v := (nI 8)) X.1 X.2.1 d_init_778 (by decide) ?_
  refine i_newa (k := 90) (f := 134) (N := 8) X Y hA (S := "[I") rfl (fun _ _ h9 => h9) ar_int 1 (cE := E.2.1) rfl (a0 := (8, .inl (fun _ => 0))) (fun _ => rfl) (nI_pos (by decide)) (nI_clamp (by decide)) (by decide) (Nat.le_of_ble_eq_true rfl) (Nat.le_of_ble_eq_true rfl) (fun a => rfl) d_init_780 (fun q H Y => ?_)
  refine i_putr (k := 90) (f := 134) X Y (by decide) lk_sessionTypes rfl rfl hin (t_M_ok 134 (by decide)) rfl rfl rfl (Nat.le_of_ble_eq_true rfl) d_init_782 (fun H locs Y => ?_)
  refine lv_aload_n X.1 X.2.1 d_init_785 rfl (lv_at hl 0 rfl) ?_
  refine lv_bipush (v := (nI 8)) X.1 X.2.1 d_init_786 (by decide) ?_
  refine i_newa (k := 91) (f := 135) (N := 8) X Y hA (S := "[I") rfl (fun _ _ h9 => h9) ar_int 1 (cE := E.2.1) rfl (a0 := (8, .inl (fun _ => 0))) (fun _ => rfl) (nI_pos (by decide)) (nI_clamp (by decide)) (by decide) (Nat.le_of_ble_eq_true rfl) (Nat.le_of_ble_eq_true rfl) (fun a => rfl) d_init_788 (fun q H Y => ?_)
  refine i_putr (k := 91) (f := 135) X Y (by decide) lk_sessionAgents rfl rfl hin (t_M_ok 135 (by decide)) rfl rfl rfl (Nat.le_of_ble_eq_true rfl) d_init_790 (fun H locs Y => ?_)
  refine lv_aload_n X.1 X.2.1 d_init_793 rfl (lv_at hl 0 rfl) ?_
  refine lv_sipush (v := (nI 256)) X.1 X.2.1 d_init_794 (by decide) ?_
  refine i_newa (k := 92) (f := 136) (N := 256) X Y hA (S := "[B") rfl (fun _ _ h9 => h9) ar_byte 0 (cE := E.1) rfl (a0 := (256, .inl (fun _ => 0))) (fun _ => rfl) (nI_pos (by decide)) (nI_clamp (by decide)) (by decide) (Nat.le_of_ble_eq_true rfl) (Nat.le_of_ble_eq_true rfl) (fun a => rfl) d_init_797 (fun q H Y => ?_)
  refine i_putr (k := 92) (f := 136) X Y (by decide) lk_sessionKeys rfl rfl hin (t_M_ok 136 (by decide)) rfl rfl rfl (Nat.le_of_ble_eq_true rfl) d_init_799 (fun H locs Y => ?_)
  refine lv_aload_n X.1 X.2.1 d_init_802 rfl (lv_at hl 0 rfl) ?_
  refine lv_bipush (v := (nI 16)) X.1 X.2.1 d_init_803 (by decide) ?_
  refine i_newa (k := 93) (f := 137) (N := 16) X Y hA (S := "[J") rfl (fun _ _ h9 => h9) ar_long 2 (cE := E.2.2.1) rfl (a0 := (16, .inr (.inl (fun _ => 0)))) (fun _ => rfl) (nI_pos (by decide)) (nI_clamp (by decide)) (by decide) (Nat.le_of_ble_eq_true rfl) (Nat.le_of_ble_eq_true rfl) (fun a => rfl) d_init_805 (fun q H Y => ?_)
  refine i_putr (k := 93) (f := 137) X Y (by decide) lk_ownNumber rfl rfl hin (t_M_ok 137 (by decide)) rfl rfl rfl (Nat.le_of_ble_eq_true rfl) d_init_807 (fun H locs Y => ?_)
  refine lv_aload_n X.1 X.2.1 d_init_810 rfl (lv_at hl 0 rfl) ?_
  refine lv_bipush (v := (nI 16)) X.1 X.2.1 d_init_811 (by decide) ?_
  refine i_newa (k := 94) (f := 138) (N := 16) X Y hA (S := "[J") rfl (fun _ _ h9 => h9) ar_long 2 (cE := E.2.2.1) rfl (a0 := (16, .inr (.inl (fun _ => 0)))) (fun _ => rfl) (nI_pos (by decide)) (nI_clamp (by decide)) (by decide) (Nat.le_of_ble_eq_true rfl) (Nat.le_of_ble_eq_true rfl) (fun a => rfl) d_init_813 (fun q H Y => ?_)
  refine i_putr (k := 94) (f := 138) X Y (by decide) lk_dueNumber rfl rfl hin (t_M_ok 138 (by decide)) rfl rfl rfl (Nat.le_of_ble_eq_true rfl) d_init_815 (fun H locs Y => ?_)
  refine lv_aload_n X.1 X.2.1 d_init_818 rfl (lv_at hl 0 rfl) ?_
  refine lv_bipush (v := (nI 8)) X.1 X.2.1 d_init_819 (by decide) ?_
  refine i_newa (k := 95) (f := 139) (N := 8) X Y hA (S := "[J") rfl (fun _ _ h9 => h9) ar_long 2 (cE := E.2.2.1) rfl (a0 := (8, .inr (.inl (fun _ => 0)))) (fun _ => rfl) (nI_pos (by decide)) (nI_clamp (by decide)) (by decide) (Nat.le_of_ble_eq_true rfl) (Nat.le_of_ble_eq_true rfl) (fun a => rfl) d_init_821 (fun q H Y => ?_)
  refine i_putr (k := 95) (f := 139) X Y (by decide) lk_beganTime rfl rfl hin (t_M_ok 139 (by decide)) rfl rfl rfl (Nat.le_of_ble_eq_true rfl) d_init_823 (fun H locs Y => ?_)
  refine lv_aload_n X.1 X.2.1 d_init_826 rfl (lv_at hl 0 rfl) ?_
  refine lv_bipush (v := (nI 8)) X.1 X.2.1 d_init_827 (by decide) ?_
  refine i_newa (k := 96) (f := 140) (N := 8) X Y hA (S := "[J") rfl (fun _ _ h9 => h9) ar_long 2 (cE := E.2.2.1) rfl (a0 := (8, .inr (.inl (fun _ => 0)))) (fun _ => rfl) (nI_pos (by decide)) (nI_clamp (by decide)) (by decide) (Nat.le_of_ble_eq_true rfl) (Nat.le_of_ble_eq_true rfl) (fun a => rfl) d_init_829 (fun q H Y => ?_)
  refine i_putr (k := 96) (f := 140) X Y (by decide) lk_beganNumber rfl rfl hin (t_M_ok 140 (by decide)) rfl rfl rfl (Nat.le_of_ble_eq_true rfl) d_init_831 (fun H locs Y => ?_)
  refine lv_aload_n X.1 X.2.1 d_init_834 rfl (lv_at hl 0 rfl) ?_
  refine lv_bipush (v := (nI 8)) X.1 X.2.1 d_init_835 (by decide) ?_
  refine i_newa (k := 97) (f := 141) (N := 8) X Y hA (S := "[I") rfl (fun _ _ h9 => h9) ar_int 1 (cE := E.2.1) rfl (a0 := (8, .inl (fun _ => 0))) (fun _ => rfl) (nI_pos (by decide)) (nI_clamp (by decide)) (by decide) (Nat.le_of_ble_eq_true rfl) (Nat.le_of_ble_eq_true rfl) (fun a => rfl) d_init_837 (fun q H Y => ?_)
  refine i_putr (k := 97) (f := 141) X Y (by decide) lk_beganMicros rfl rfl hin (t_M_ok 141 (by decide)) rfl rfl rfl (Nat.le_of_ble_eq_true rfl) d_init_839 (fun H locs Y => ?_)
  refine lv_aload_n X.1 X.2.1 d_init_842 rfl (lv_at hl 0 rfl) ?_
  refine lv_bipush (v := (nI 8)) X.1 X.2.1 d_init_843 (by decide) ?_
  refine i_newa (k := 98) (f := 142) (N := 8) X Y hA (S := "[I") rfl (fun _ _ h9 => h9) ar_int 1 (cE := E.2.1) rfl (a0 := (8, .inl (fun _ => 0))) (fun _ => rfl) (nI_pos (by decide)) (nI_clamp (by decide)) (by decide) (Nat.le_of_ble_eq_true rfl) (Nat.le_of_ble_eq_true rfl) (fun a => rfl) d_init_845 (fun q H Y => ?_)
  refine i_putr (k := 98) (f := 142) X Y (by decide) lk_beganTypes rfl rfl hin (t_M_ok 142 (by decide)) rfl rfl rfl (Nat.le_of_ble_eq_true rfl) d_init_847 (fun H locs Y => ?_)
  refine lv_aload_n X.1 X.2.1 d_init_850 rfl (lv_at hl 0 rfl) ?_
  refine lv_sipush (v := (nI 256)) X.1 X.2.1 d_init_851 (by decide) ?_
  refine i_newa (k := 99) (f := 143) (N := 256) X Y hA (S := "[B") rfl (fun _ _ h9 => h9) ar_byte 0 (cE := E.1) rfl (a0 := (256, .inl (fun _ => 0))) (fun _ => rfl) (nI_pos (by decide)) (nI_clamp (by decide)) (by decide) (Nat.le_of_ble_eq_true rfl) (Nat.le_of_ble_eq_true rfl) (fun a => rfl) d_init_854 (fun q H Y => ?_)
  refine i_putr (k := 99) (f := 143) X Y (by decide) lk_beganKeys rfl rfl hin (t_M_ok 143 (by decide)) rfl rfl rfl (Nat.le_of_ble_eq_true rfl) d_init_856 (fun H locs Y => ?_)
  refine lv_aload_n X.1 X.2.1 d_init_859 rfl (lv_at hl 0 rfl) ?_
  refine lv_iconst (v := (nI 4)) X.1 X.2.1 d_init_860 (by decide) ?_
  refine i_newa (k := 100) (f := 144) (N := 4) X Y hA (S := "[B") rfl (fun _ _ h9 => h9) ar_byte 0 (cE := E.1) rfl (a0 := (4, .inl (fun _ => 0))) (fun _ => rfl) (nI_pos (by decide)) (nI_clamp (by decide)) (by decide) (Nat.le_of_ble_eq_true rfl) (Nat.le_of_ble_eq_true rfl) (fun a => rfl) d_init_861 (fun q H Y => ?_)
  refine i_putr (k := 100) (f := 144) X Y (by decide) lk_address rfl rfl hin (t_M_ok 144 (by decide)) rfl rfl rfl (Nat.le_of_ble_eq_true rfl) d_init_863 (fun H locs Y => ?_)
  have Y : mH D E (iA h sz) s.heap h q (upd (upd (fun _ => 0) 4 (nI 1000000000)) 57 (nI 32)) (fun _ => 0) (upB (fun _ _ => 0) 28 g) (fun _ _ => 0) H locs := Y
  refine lv_aload_n X.1 X.2.1 d_init_866 rfl (lv_at hl 0 rfl) ?_
  refine lv_iconst (v := (nI 0)) X.1 X.2.1 d_init_867 (by decide) ?_
  refine m_ldcSW (i := 0) X (by decide) (by decide) d_init_868 ?_
  refine m_callv (As := [.int (nI 0), .ref (D.2.1 0)]) (rest := []) (n := 2) X Y hZ hA hml hl.1 (c_word_krb l D E h q H.size (upd (upd (fun _ => 0) 4 (nI 1000000000)) 57 (nI 32)) (fun _ => 0) (upB (fun _ _ => 0) 28 g) (fun _ _ => 0) ) kl_word ks_word kx_word ki_word ini_M hd_word ⟨by decide, by decide⟩ rfl (Nat.le_of_ble_eq_true rfl) d_init_871 ⟨Nat.le_refl _, Nat.le_refl _⟩ (fun u H locs hp Y => ?_)
  obtain ⟨I1, J2, B3, G4⟩ := u
  obtain ⟨hI5, eJ7, hB6, eG8, hx10⟩ := hp
  dsimp only at hI5 eJ7 hB6 eG8 hx10 Y
  rw [eJ7, eG8] at Y
  rw [show I1 = (upd (upd (fun _ => 0) 4 (nI 1000000000)) 57 (nI 32)) from funext hI5] at Y
  refine lv_aload_n X.1 X.2.1 d_init_874 rfl (lv_at hl 0 rfl) ?_
  refine lv_bipush (v := (nI 13)) X.1 X.2.1 d_init_875 (by decide) ?_
  refine m_puti X Y 2 (by decide) lk_length rfl rfl (t_M_ok 2 (by decide)) rfl rfl (sf_length _ _ _ _) (Nat.le_of_ble_eq_true rfl) d_init_877 (fun H locs Y => ?_)
  refine lv_aload_n X.1 X.2.1 d_init_880 rfl (lv_at hl 0 rfl) ?_
  refine lv_iconst (v := (nI 1)) X.1 X.2.1 d_init_881 (by decide) ?_
  refine lv_iconst (v := (nI 1)) X.1 X.2.1 d_init_882 (by decide) ?_
  refine m_calli (As := [.int (nI 1), .int (nI 1)]) (rest := []) (n := 2) X Y hZ hA hml hl.1 (c_add_first l D E h q H.size (upd (upd (upd (fun _ => 0) 4 (nI 1000000000)) 57 (nI 32)) 2 (nI 13)) (fun _ => 0) B3 (fun _ _ => 0) (show (upd (upd (upd (fun _ => 0) 4 (nI 1000000000)) 57 (nI 32)) 2 (nI 13)) 2 = nI 13 from pk_us) (show ∀ j, j < 13 → B3 0 j = nI (kb j) from hx10) (show (upd (upd (upd (fun _ => 0) 4 (nI 1000000000)) 57 (nI 32)) 2 (nI 13)) 43 = nI 0 from ((pk_un (by decide)).trans (show (upd (upd (fun _ => 0) 4 (nI 1000000000)) 57 (nI 32)) 43 = nI 0 from rfl))) (show by8 (B3 12) from (by8_eq (hB6 12 (by decide)) by8_zero)) (show by8 (B3 13) from (by8_eq (hB6 13 (by decide)) by8_zero)) (show by8 (B3 16) from (by8_eq (hB6 16 (by decide)) by8_zero)) (show by8 (B3 17) from (by8_eq (hB6 17 (by decide)) by8_zero))) kl_add ks_add kx_add ki_add ini_M hd_add ⟨by decide, by decide⟩ rfl (Nat.le_of_ble_eq_true rfl) d_init_883 ⟨Nat.le_refl _, Nat.le_refl _⟩ (fun r21 u H locs hp Y => ?_)
  obtain ⟨I13, J14, B15, G16⟩ := u
  obtain ⟨hI17, eJ19, hB18, eG20, hk26, y22, y23, y24, y25, hx27, pr21⟩ := hp
  dsimp only at hI17 eJ19 hB18 eG20 hk26 y22 y23 y24 y25 hx27 pr21 Y
  rw [eJ19, eG20] at Y
  obtain ⟨hver, hnsz⟩ := hx27
  refine t_eq pr21 ?_
  refine lv_pop X.1 X.2.1 d_init_886 rfl ?_
  refine lv_aload_n X.1 X.2.1 d_init_887 rfl (lv_at hl 0 rfl) ?_
  refine lv_iconst (v := (nI 0)) X.1 X.2.1 d_init_888 (by decide) ?_
  refine m_puti X Y 2 (by decide) lk_length rfl rfl (t_M_ok 2 (by decide)) rfl rfl (sf_length _ _ _ _) (Nat.le_of_ble_eq_true rfl) d_init_889 (fun H locs Y => ?_)
  exact W.vret X.1 X.2.1 hr (fun t ht hW => ⟨⟨(q, (upd I13 2 (nI 0)), (fun _ => 0), B15, (fun _ _ => 0)), rfl, ⟨(show (upd I13 2 (nI 0)) 2 = nI 0 from pk_us), (show (upd I13 2 (nI 0)) 3 = nI 0 from ((pk_un (by decide)).trans ((hI17 3 (by decide) (by decide) (by decide) (by decide) (by decide) (by decide) (by decide) (by decide)).trans ((pk_un (by decide)).trans (show (upd (upd (fun _ => 0) 4 (nI 1000000000)) 57 (nI 32)) 3 = nI 0 from rfl))))), (show (upd I13 2 (nI 0)) 43 = nI 1 from ((pk_un (by decide)).trans hk26)), (show (upd I13 2 (nI 0)) 4 = nI 1000000000 from ((pk_un (by decide)).trans ((hI17 4 (by decide) (by decide) (by decide) (by decide) (by decide) (by decide) (by decide) (by decide)).trans ((pk_un (by decide)).trans (show (upd (upd (fun _ => 0) 4 (nI 1000000000)) 57 (nI 32)) 4 = nI 1000000000 from rfl))))), (show ∀ j, (B15 91) j = nI 0 from (by rw [hB18 91 (by decide) (by decide) (by decide) (by decide) (by decide) (by decide) (by decide) (by decide) (by decide) (by decide) (by decide) (by decide) (by decide) (by decide) (by decide) (by decide) (by decide) (by decide) (by decide) (by decide) (by decide) (by decide) (by decide) (by decide) (by decide) (by decide) (by decide) (by decide) (by decide)]; exact (show ∀ j, (B3 91) j = nI 0 from (by rw [hB6 91 (by decide)]; exact (show ∀ j, ((upB (fun _ _ => 0) 28 g) 91) j = nI 0 from (fun _ => rfl)))))), (show ∀ j, (B15 133) j = nI 0 from (by rw [hB18 133 (by decide) (by decide) (by decide) (by decide) (by decide) (by decide) (by decide) (by decide) (by decide) (by decide) (by decide) (by decide) (by decide) (by decide) (by decide) (by decide) (by decide) (by decide) (by decide) (by decide) (by decide) (by decide) (by decide) (by decide) (by decide) (by decide) (by decide) (by decide) (by decide)]; exact (show ∀ j, (B3 133) j = nI 0 from (by rw [hB6 133 (by decide)]; exact (show ∀ j, ((upB (fun _ _ => 0) 28 g) 133) j = nI 0 from (fun _ => rfl)))))), (show (B15 46) 0 = nI 1 from hver), (show (B15 45) 0 = nI 12 from hnsz), (show by8 (B15 12) from y22), (show by8 (B15 13) from y23), (show by8 (B15 16) from y24), (show by8 (B15 17) from y25)⟩, by rw [ht]; exact Y.1, va_K.moved hW.alike X.2.2.2.2.1, Y.2.1⟩, Y.2.2.F ht⟩) Y.2.2.2.2 d_init_892
