/-! The law's start: what the Statement says of statics, literals, classes. -/
def fNs : List Cond := flatC (Jvm.Cond.and given_1 narrow_1)
def lW (own : String) (ix : Nat) (bs : List Nat) : List Cond := [.exactly (.string own ix) "java/lang/String", .eq (.field (.string own ix) "java/lang/String" "coder" "B") (.int 0), .arrayOf (.field (.string own ix) "java/lang/String" "value" "[B") .byte, .eq (.length (.field (.string own ix) "java/lang/String" "value" "[B")) (.int (Int32.ofNat bs.length))] ++ (List.range bs.length).map (fun j => .eq (.elem (.field (.string own ix) "java/lang/String" "value" "[B") (.int (Int32.ofNat j))) (.int (nI (bs.getD j 0))))
def sW (C n d : String) (ty : FieldType) (N : Nat) (g : Nat → Int32) : List Cond := [.arrayOf (.static C n d) ty, .eq (.length (.static C n d)) (.int (Int32.ofNat N))] ++ (List.range N).map (fun j => .eq (.elem (.static C n d) (.int (Int32.ofNat j))) (.int (g j)))
def yP : List Nat := [320, 330, 339, 349, 359, 369, 379, 389, 402, 412, 452, 474, 511, 527, 543, 568, 587, 600, 616, 629, 645, 676, 713, 753, 769, 791, 834, 838, 849]
def zP : List Nat := [865, 882, 899, 911, 928, 938, 952, 962, 978, 988, 1014, 1062, 1072, 1121, 1132, 1151, 1193, 1228, 1280, 1306, 1352, 1365, 1383, 1396, 1412, 1428]
def sP : List Nat := [264, 5, 272, 305, 291, 298]
def yI : List Nat := [476, 548, 573, 894, 895, 896, 897, 898, 899, 900, 901, 902, 903, 907, 908, 909, 910, 911, 912, 913, 914, 915, 916, 917, 918, 919, 920, 942, 1405]
def zI : List Nat := [1754, 1777, 1796, 2360, 2407, 2412, 2413, 2414, 2415, 2416, 2417, 2418, 2419, 2526, 2665, 2675, 2680, 2788, 2790, 2791, 2822, 2823, 2849, 2867, 2877, 2878]
def sI : List Nat := [187, 104, 639, 879, 827, 829]
def sJ : List Nat := [1, 6, 2, 3, 8, 8]
set_option maxRecDepth 100000 in
theorem y_in : ∀ i, i < nY → lW (yG i).1 (yG i).2.1 (yL.getD i []) = (fNs.drop (yP.getD i 0)).take (yn i + 4) := by decide +kernel
set_option maxRecDepth 100000 in
theorem z_in : ∀ i, i < nZ → lW R_M (zX.getD i 0) (zL.getD i []) = (fNs.drop (zP.getD i 0)).take (zn i + 4) := by decide +kernel
set_option maxRecDepth 100000 in
theorem s_in : ∀ i, i < 6 → sW (sG i).1 (sG i).2.1 (sG i).2.2.1 (sG i).2.2.2 (sL i) (sB i) = (fNs.drop (sP.getD i 0)).take (sL i + 2) := by decide +kernel
theorem y_ix : ∀ i, i < nY → tables_1[yI.getD i 0]? = some (.stringRef (yG i).1 (yG i).2.1 (yG i).2.2) := by decide +kernel
theorem z_ix : ∀ i, i < nZ → tables_1[zI.getD i 0]? = some (.stringRef R_M (zX.getD i 0) (zT.getD i "")) := by decide +kernel
theorem s_ix : ∀ i, i < 6 → tables_1[sI.getD i 0]? = some (.laysStatic (sG i).1 (sG i).2.1 (sG i).2.2.1) ∧ tables_1[sJ.getD i 0]? = some (.initialized (sG i).1) := by decide +kernel
theorem f_ix : nwF.map (fun q => Cond.fieldLinkNest q.1 q.2 "RealmHouse" "NO_KEY" "[B" "RealmHouse") = ([186, 241, 304, 314, 432, 1056, 1302] : List Nat).filterMap (fun i => tables_1[i]?) := by decide +kernel
theorem m_ix : nwM.map (fun q => Cond.methodLinkNest q.1 q.2.1 q.2.2 "RealmHouse") = ([30, 66, 213, 221, 308, 659] : List Nat).filterMap (fun i => tables_1[i]?) := by decide +kernel
theorem a_ix : aoL.map (fun C => Cond.arrayOver (.object C)) = ([211, 296, 306, 426] : List Nat).filterMap (fun i => tables_1[i]?) := by decide +kernel
theorem cs_ix : tables_1[498]? = some (.laysStatic R_S "COMPACT_STRINGS" "Z") := by decide +kernel
theorem fm_ix : tables_1[514]? = some (.laysStatic R_Pc "SIOOBE_FORMATTER" "Ljava/util/function/BiFunction;") := by decide +kernel
theorem cs_in : (fNs.drop 266).head? = some (.eq (.static R_S "COMPACT_STRINGS" "Z") (.int 1)) := by decide +kernel
theorem fm_in : (fNs.drop 267).head? = some (.isRef (.static R_Pc "SIOOBE_FORMATTER" "Ljava/util/function/BiFunction;")) := by decide +kernel
theorem mk_M : Cond.instantiable R_M 145 ∈ lw_tg := in_t 1746 (by decide +kernel)
theorem ar_lng : Cond.arrayClass .long ∈ lw_tg := in_t 2307 (by decide +kernel)
theorem ar_bln : Cond.arrayClass .boolean ∈ lw_tg := in_t 2308 (by decide +kernel)
theorem mem_dt {α : Type} {l m : List α} {p n : Nat} {w : α} (h : m = (l.drop p).take n) (hw : w ∈ m) : w ∈ l := List.mem_of_mem_drop (List.mem_of_mem_take (h ▸ hw))
theorem mem_hd {α : Type} {l : List α} {p : Nat} {w : α} (h : (l.drop p).head? = some w) : w ∈ l := List.mem_of_mem_drop (List.mem_of_head? h)
section START
variable {args : Array Value} {s : State} {A : Nat → Prop}
theorem e_prim {ty : FieldType} (h : (Cond.arrayClass ty).before args s = true) : ∃ cA : ClassId, ArrOfT s cA ty ∧ s.vm.findClass ("[" ++ ty.toString) = some cA := by
  obtain ⟨cA, kA, comp, hf, hk, hkind⟩ := Cond.arrayClass_spec h
  exact ⟨cA, fun n z => ⟨fun k h => (by cases h), kA, hk, comp, hkind⟩, hf⟩
theorem e_obj {C : String} (h : va_AO C s) : ∃ cA : ClassId, ArrOfT s cA (.object C) ∧ va_RA s cA (.object C) := by
  obtain ⟨comp, cA, k, h1, h2, h3, h4, h5⟩ := Cond.arrayOver_spec h
  exact ⟨cA, fun n z => ⟨fun k h => (by cases h), k, h3, comp, h4⟩, k, comp, h3, h4, h1, h5⟩
theorem lit_at {own : String} {ix : Nat} {bs : List Nat} (h : ∀ w ∈ lW own ix bs, w.before args s = true) (hb : bs.length < 2 ^ 31) (hA : ∀ a : Nat, a < s.heap.size → ¬ A a) : ∃ q : Nat × Nat, (Term.string own ix).eval args s none [] s = some (.ref q.1) ∧ va_O R_S q.1 A s s.heap ∧ va_OF R_S "coder" "B" (.int 0) q.1 A s s.heap ∧ va_OF R_S "value" "[B" (.ref q.2) q.1 A s s.heap ∧ va_T .byte q.2 bs.length (fun j => .int (nI (bs.getD j 0))) A s s.heap := by
  have h1 := h _ (List.mem_append_left _ List.mem_cons_self)
  have h2 := h _ (List.mem_append_left _ (List.mem_cons_of_mem _ List.mem_cons_self))
  have h3 := h _ (List.mem_append_left _ (List.mem_cons_of_mem _ (List.mem_cons_of_mem _ List.mem_cons_self)))
  have h4 := h _ (List.mem_append_left _ (List.mem_cons_of_mem _ (List.mem_cons_of_mem _ (List.mem_cons_of_mem _ List.mem_cons_self))))
  have h5 : ∀ j, j < bs.length → (Cond.eq (.elem (.field (.string own ix) "java/lang/String" "value" "[B") (.int (Int32.ofNat j))) (.int (nI (bs.getD j 0)))).before args s = true := fun j hj => h _ (List.mem_append_right _ (List.mem_map.mpr ⟨j, List.mem_range.mpr hj, rfl⟩))
  obtain ⟨a, c, cA, kA, q1, q2, q3, q4, q5, q6, -⟩ := Cond.exactly_spec (args := args) (first := s) (o := none) (s := s) (idx := []) (t := .string own ix) (cls := "java/lang/String") h1
  obtain ⟨t, ht, hT⟩ := va_Tof (f := fun j => .int (nI (bs.getD j 0))) (A := A) hb h3 (va_eqt h4) (fun j hj => va_eqt (h5 j hj)) hA
  exact ⟨(a, t), q1, ⟨cA, q3, q5, by rw [q6]; exact q2, hA a (Array.getElem?_eq_some_iff.mp q3).1⟩, vk_OFof q1 (va_eqt h2) hA, vk_OFof q1 ht hA, hT⟩
theorem stat_at {C n d : String} {ty : FieldType} {N : Nat} {g : Nat → Int32} (h : ∀ w ∈ sW C n d ty N g, w.before args s = true) (hN : N < 2 ^ 31) (hl : (Cond.laysStatic C n d).before args s = true) (hini : (Cond.initialized C).before args s = true) (hA : ∀ a : Nat, a < s.heap.size → ¬ A a) : ∃ t : Nat, va_Z C n d (.ref t) A s s.heap ∧ va_T ty t N (fun j => .int (g j)) A s s.heap := by
  have h1 := h _ (List.mem_append_left _ List.mem_cons_self)
  have h2 := h _ (List.mem_append_left _ (List.mem_cons_of_mem _ List.mem_cons_self))
  have h3 : ∀ j, j < N → (Cond.eq (.elem (.static C n d) (.int (Int32.ofNat j))) (.int (g j))).before args s = true := fun j hj => h _ (List.mem_append_right _ (List.mem_map.mpr ⟨j, List.mem_range.mpr hj, rfl⟩))
  obtain ⟨t, ht, hT⟩ := va_Tof (f := fun j => .int (g j)) (A := A) hN h1 (va_eqt h2) (fun j hj => va_eqt (h3 j hj)) hA
  exact ⟨t, va_Zof hl hini ht hA, hT⟩
theorem tb_in {i : Nat} {w : Cond} (h : tables_1[i]? = some w) : w ∈ lw_tbl := List.mem_append_right _ (List.mem_of_getElem? h)
theorem tg_of (hts : ∀ w ∈ lw_tbl, w.before args s = true) : ∀ w ∈ lw_tg, w.before args s = true := fun w hw => hts w (List.mem_filter.mp hw).1
theorem fm_at (hts : ∀ w ∈ lw_tbl, w.before args s = true) (hfl : ∀ w ∈ fNs, w.before args s = true) (hA : ∀ a : Nat, a < s.heap.size → ¬ A a) : ∃ v : Value, va_Z R_Pc "SIOOBE_FORMATTER" "Ljava/util/function/BiFunction;" v A s s.heap ∧ (v = .null ∨ ∃ x, v = .ref x) := by
  have h1 := hfl _ (mem_hd fm_in)
  have hl := hts _ (tb_in fm_ix)
  have hini := tg_of hts _ ini_Pc
  rcases va_Zqof hl hini h1 hA with h | ⟨t, h⟩
  · exact ⟨.null, h, Or.inl rfl⟩
  · exact ⟨.ref t, h, Or.inr ⟨t, rfl⟩⟩
theorem cs_at (hts : ∀ w ∈ lw_tbl, w.before args s = true) (hfl : ∀ w ∈ fNs, w.before args s = true) (hA : ∀ a : Nat, a < s.heap.size → ¬ A a) : va_Z R_S "COMPACT_STRINGS" "Z" (.int 1) A s s.heap := va_Zof (hts _ (tb_in cs_ix)) (tg_of hts _ ini_S) (va_eqt (hfl _ (mem_hd cs_in))) hA
theorem kS_at (hts : ∀ w ∈ lw_tbl, w.before args s = true) (hfl : ∀ w ∈ fNs, w.before args s = true) (hA : ∀ a : Nat, a < s.heap.size → ¬ A a) : ∃ T : cT, kS T A s s.heap ∧ kR T s := by
  have h0 : ∀ i : Nat, ∃ t : Nat, i < 6 → va_Z (sG i).1 (sG i).2.1 (sG i).2.2.1 (.ref t) A s s.heap ∧ va_T (sG i).2.2.2 t (sL i) (fun j => .int (sB i j)) A s s.heap := by
    intro i
    by_cases hi : i < 6
    · obtain ⟨t, h1, h2⟩ := stat_at (A := A) (fun w hw => hfl w (mem_dt (s_in i hi) hw)) (show sL i < 2 ^ 31 from (show ∀ i, i < 6 → sL i < 2 ^ 31 by decide) i hi) (hts _ (tb_in (s_ix i hi).1)) (hts _ (tb_in (s_ix i hi).2)) hA
      exact ⟨t, fun _ => ⟨h1, h2⟩⟩
    · exact ⟨0, fun h => absurd h hi⟩
  have h1 : ∀ i : Nat, ∃ q : Nat × Nat, i < nY → (Term.string (yG i).1 (yG i).2.1).eval args s none [] s = some (.ref q.1) ∧ va_O R_S q.1 A s s.heap ∧ va_OF R_S "coder" "B" (.int 0) q.1 A s s.heap ∧ va_OF R_S "value" "[B" (.ref q.2) q.1 A s s.heap ∧ va_T .byte q.2 (yn i) (fun j => .int (yb i j)) A s s.heap := by
    intro i
    by_cases hi : i < nY
    · obtain ⟨q, hq⟩ := lit_at (A := A) (fun w hw => hfl w (mem_dt (y_in i hi) hw)) (yn_small i hi) hA
      exact ⟨q, fun _ => hq⟩
    · exact ⟨(0, 0), fun h => absurd h hi⟩
  obtain ⟨t0, ht0⟩ := Classical.axiomOfChoice h0
  obtain ⟨q0, hq0⟩ := Classical.axiomOfChoice h1
  obtain ⟨v, hv, hv2⟩ := fm_at (A := A) hts hfl hA
  refine ⟨(t0, fun i => (q0 i).1, fun i => (q0 i).2, v), ⟨fun i hi => ht0 i hi, fun i hi => (hq0 i hi).2, cs_at hts hfl hA, hv, hv2⟩, fun i hi => vk_R.of (hts _ (tb_in (y_ix i hi))) (hq0 i hi).1, fun q hq => va_Nw.of rfl (hts _ ?_), fun q hq => va_Nw.of rfl (hts _ ?_), fun C hC => va_AO.of (hts _ ?_)⟩
  · have h9 : Cond.fieldLinkNest q.1 q.2 "RealmHouse" "NO_KEY" "[B" "RealmHouse" ∈ nwF.map (fun q => Cond.fieldLinkNest q.1 q.2 "RealmHouse" "NO_KEY" "[B" "RealmHouse") := List.mem_map.mpr ⟨q, hq, rfl⟩
    rw [f_ix] at h9
    obtain ⟨i, -, hi⟩ := List.mem_filterMap.mp h9
    exact tb_in hi
  · have h9 : Cond.methodLinkNest q.1 q.2.1 q.2.2 "RealmHouse" ∈ nwM.map (fun q => Cond.methodLinkNest q.1 q.2.1 q.2.2 "RealmHouse") := List.mem_map.mpr ⟨q, hq, rfl⟩
    rw [m_ix] at h9
    obtain ⟨i, -, hi⟩ := List.mem_filterMap.mp h9
    exact tb_in hi
  · have h9 : Cond.arrayOver (.object C) ∈ aoL.map (fun C => Cond.arrayOver (.object C)) := List.mem_map.mpr ⟨C, hC, rfl⟩
    rw [a_ix] at h9
    obtain ⟨i, -, hi⟩ := List.mem_filterMap.mp h9
    exact tb_in hi
theorem zS_at (hts : ∀ w ∈ lw_tbl, w.before args s = true) (hfl : ∀ w ∈ fNs, w.before args s = true) (hA : ∀ a : Nat, a < s.heap.size → ¬ A a) : ∃ (z zv : Nat → Nat) (v : Value), zS z zv v A s s.heap ∧ zR z s := by
  have h1 : ∀ i : Nat, ∃ q : Nat × Nat, i < nZ → (Term.string R_M (zX.getD i 0)).eval args s none [] s = some (.ref q.1) ∧ va_O R_S q.1 A s s.heap ∧ va_OF R_S "coder" "B" (.int 0) q.1 A s s.heap ∧ va_OF R_S "value" "[B" (.ref q.2) q.1 A s s.heap ∧ va_T .byte q.2 (zn i) (fun j => .int (zb i j)) A s s.heap := by
    intro i
    by_cases hi : i < nZ
    · obtain ⟨q, hq⟩ := lit_at (A := A) (fun w hw => hfl w (mem_dt (z_in i hi) hw)) (zn_small i hi) hA
      exact ⟨q, fun _ => hq⟩
    · exact ⟨(0, 0), fun h => absurd h hi⟩
  obtain ⟨q0, hq0⟩ := Classical.axiomOfChoice h1
  obtain ⟨v, hv, hv2⟩ := fm_at (A := A) hts hfl hA
  exact ⟨fun i => (q0 i).1, fun i => (q0 i).2, v, ⟨fun i hi => (hq0 i hi).2, cs_at hts hfl hA, hv, hv2⟩, fun i hi => vk_R.of (hts _ (tb_in (z_ix i hi))) (hq0 i hi).1⟩
theorem cK_at {T : cT} (hg : ∀ w ∈ lw_tg, w.before args s = true) (hR : kR T s) : ∃ (D : va_G) (E : cE), va_K D cCl (cTy E) s := by
  obtain ⟨c0, i0, hk0⟩ := u_known (C := R_H) (T := F_H) (N := 9) (n := 9) hg i_H (hg _ mk_H)
  obtain ⟨c1, i1, hk1⟩ := u_known (C := R_Ae) (T := F_Ae) (N := 7) (n := 7) hg i_Ae (hg _ mk_Ae)
  obtain ⟨c2, i2, hk2⟩ := u_known (C := R_Ag) (T := F_Ag) (N := 21) (n := 21) hg i_Ag (hg _ mk_Ag)
  obtain ⟨c3, i3, hk3⟩ := u_known (C := R_By) (T := F_By) (N := 2) (n := 2) hg i_By (hg _ mk_By)
  obtain ⟨c4, i4, hk4⟩ := u_known (C := R_Ce) (T := F_Ce) (N := 16) (n := 16) hg i_Ce (hg _ mk_Ce)
  obtain ⟨c5, i5, hk5⟩ := u_known (C := R_Ga) (T := F_Ga) (N := 5) (n := 5) hg i_Ga (hg _ mk_Ga)
  obtain ⟨c6, i6, hk6⟩ := u_known (C := R_Ha) (T := F_Ha) (N := 8) (n := 8) hg i_Ha (hg _ mk_Ha)
  obtain ⟨c7, i7, hk7⟩ := u_known (C := R_Pr) (T := F_Pr) (N := 13) (n := 13) hg i_Pr (hg _ mk_Pr)
  obtain ⟨c8, i8, hk8⟩ := u_known (C := R_Se) (T := F_Se) (N := 5) (n := 5) hg i_Se (hg _ mk_Se)
  obtain ⟨c9, i9, hk9⟩ := u_known (C := R_So) (T := F_So) (N := 11) (n := 11) hg i_So (hg _ mk_So)
  obtain ⟨c10, i10, hk10⟩ := u_known (C := R_Ti) (T := F_Ti) (N := 10) (n := 10) hg i_Ti (hg _ mk_Ti)
  obtain ⟨c11, i11, hk11⟩ := u_known (C := R_Va) (T := F_Va) (N := 13) (n := 13) hg i_Va (hg _ mk_Va)
  obtain ⟨e0, a0, b0⟩ := e_prim (hg _ ar_byte)
  obtain ⟨e1, a1, b1⟩ := e_prim (hg _ ar_int)
  obtain ⟨e2, a2, b2⟩ := e_obj (hR.2.2.2 R_Pr (by decide))
  obtain ⟨e3, a3, b3⟩ := e_obj (hR.2.2.2 R_Ag (by decide))
  obtain ⟨e4, a4, b4⟩ := e_obj (hR.2.2.2 R_So (by decide))
  obtain ⟨e5, a5, b5⟩ := e_obj (hR.2.2.2 R_Ti (by decide))
  refine ⟨(fun k => ([c0, c1, c2, c3, c4, c5, c6, c7, c8, c9, c10, c11] : List ClassId).getD k 0, fun k => ([i0, i1, i2, i3, i4, i5, i6, i7, i8, i9, i10, i11] : List (Nat → Nat)).getD k (fun _ => 0)), (e0, e1, e2, e3, e4, e5), fun k q hq => ?_, fun k q hq => ?_⟩
  · match k, hq with
    | 0, hq => cases hq; exact hk0
    | 1, hq => cases hq; exact hk1
    | 2, hq => cases hq; exact hk2
    | 3, hq => cases hq; exact hk3
    | 4, hq => cases hq; exact hk4
    | 5, hq => cases hq; exact hk5
    | 6, hq => cases hq; exact hk6
    | 7, hq => cases hq; exact hk7
    | 8, hq => cases hq; exact hk8
    | 9, hq => cases hq; exact hk9
    | 10, hq => cases hq; exact hk10
    | 11, hq => cases hq; exact hk11
    | k + 12, hq => exact absurd (List.getElem?_eq_some_iff.mp hq).1 (by show ¬ k + 12 < 12; omega)
  · match k, hq with
    | 0, hq => cases hq; exact ⟨a0, b0⟩
    | 1, hq => cases hq; exact ⟨a1, b1⟩
    | 2, hq => cases hq; exact ⟨a2, b2⟩
    | 3, hq => cases hq; exact ⟨a3, b3⟩
    | 4, hq => cases hq; exact ⟨a4, b4⟩
    | 5, hq => cases hq; exact ⟨a5, b5⟩
    | k + 6, hq => exact absurd (List.getElem?_eq_some_iff.mp hq).1 (by show ¬ k + 6 < 6; omega)
theorem mK_at (hg : ∀ w ∈ lw_tg, w.before args s = true) : ∃ (D : va_G) (E : mE), va_K D mCl (mTy E) s := by
  obtain ⟨c0, i0, hk0⟩ := u_known (C := R_M) (T := F_M) (N := 145) (n := 145) hg i_M (hg _ mk_M)
  obtain ⟨e0, a0, b0⟩ := e_prim (hg _ ar_byte)
  obtain ⟨e1, a1, b1⟩ := e_prim (hg _ ar_int)
  obtain ⟨e2, a2, b2⟩ := e_prim (hg _ ar_lng)
  obtain ⟨e3, a3, b3⟩ := e_prim (hg _ ar_bln)
  refine ⟨(fun _ => c0, fun _ => i0), (e0, e1, e2, e3), fun k q hq => ?_, fun k q hq => ?_⟩
  · match k, hq with
    | 0, hq => cases hq; exact hk0
    | k + 1, hq => exact absurd (List.getElem?_eq_some_iff.mp hq).1 (by show ¬ k + 1 < 1; omega)
  · match k, hq with
    | 0, hq => cases hq; exact ⟨a0, b0⟩
    | 1, hq => cases hq; exact ⟨a1, b1⟩
    | 2, hq => cases hq; exact ⟨a2, b2⟩
    | 3, hq => cases hq; exact ⟨a3, b3⟩
    | k + 4, hq => exact absurd (List.getElem?_eq_some_iff.mp hq).1 (by show ¬ k + 4 < 4; omega)
end START
