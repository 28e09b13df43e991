/-! Rows over cells of kinds. -/
theorem iI_bool {z : Int} (h0 : 0 ≤ z) (h1 : z ≤ 1) : narrow .boolean (.int (iI z)) = .int (iI z) ∧ fits .boolean (.int (iI z)) = true := by
  rcases (show z = 0 ∨ z = 1 by omega) with rfl | rfl <;> exact ⟨by decide, by decide⟩
def nPv (E : cE) (T : cT) (M : List Nat) (κ : tK) (L : List Nat) (f : pF) (P : pF → Prop) (u : cU) : Prop := u.1 = L ∧ tS E T (tFr κ L M []) κ L f κ L u.2 ∧ P u.2
def nPi (E : cE) (T : cT) (M : List Nat) (κ : tK) (L : List Nat) (f : pF) (P : Int → pF → Prop) (r : Int32) (u : cU) : Prop := u.1 = L ∧ tS E T (tFr κ L M []) κ L f κ L u.2 ∧ ∃ z : Int, r = iI z ∧ P z u.2
def nPl (E : cE) (T : cT) (M : List Nat) (κ : tK) (L : List Nat) (f : pF) (P : Int64 → pF → Prop) (r : Int64) (u : cU) : Prop := u.1 = L ∧ tS E T (tFr κ L M []) κ L f κ L u.2 ∧ P r u.2
def nPr (E : cE) (T : cT) (M : List Nat) (κ : tK) (L : List Nat) (f : pF) (P : Nat → pF → Prop) (r : Nat) (u : cU) : Prop := u.1 = L ∧ tS E T (tFr κ L M []) κ L f κ L u.2 ∧ P r u.2
def uPi (L : List Nat) (f : pF) (P : Int → Prop) (r : Int32) (u : cU) : Prop := u.1 = L ∧ u.2 = f ∧ ∃ z : Int, r = iI z ∧ P z
def uPl (L : List Nat) (f : pF) (P : Int64 → Prop) (r : Int64) (u : cU) : Prop := u.1 = L ∧ u.2 = f ∧ P r
def uPr (L : List Nat) (f : pF) (P : Nat → Prop) (r : Nat) (u : cU) : Prop := u.1 = L ∧ u.2 = f ∧ P r
def aPv (E : cE) (T : cT) (M x : List Nat) (κ : tK) (L : List Nat) (f : pF) (P : tK → pF → Prop) (u : cU) : Prop := ∃ κ' : tK, tS E T (tFr κ L M x) κ L f κ' u.1 u.2 ∧ P κ' u.2
def aPi (E : cE) (T : cT) (M x : List Nat) (κ : tK) (L : List Nat) (f : pF) (P : Int → tK → pF → Prop) (r : Int32) (u : cU) : Prop := ∃ κ' : tK, tS E T (tFr κ L M x) κ L f κ' u.1 u.2 ∧ ∃ z : Int, r = iI z ∧ P z κ' u.2
def aPr (E : cE) (T : cT) (M x : List Nat) (κ : tK) (L : List Nat) (f : pF) (P : Nat → tK → pF → Prop) (r : Nat) (u : cU) : Prop := ∃ κ' : tK, tS E T (tFr κ L M x) κ L f κ' u.1 u.2 ∧ P r κ' u.2
section TROWS
variable {p : Program} {l : Launch} {e : Env} {R : Room} {s : State} {m : MethodId} {args : Array Value} {below : List Frame} {meth : Method} {c : Code} {H : Heap} {locs : List Loc} {cells slots : Nat} {Q : State → Prop} {cc : ByteArray} {pc : Nat} {ls : Array Slot} {rest : List Value} {D : va_G} {E : cE} {T : cT} {A : Nat → Prop} {L L0 : List Nat} {f f0 : pF} {own : String} {κ κ0 : tK} {F : Nat → Prop} {a : Nat}
theorem t_get {ci num N index : Nat} {C ref : String} {TT : u_T} {t : tV} (X : cX own p c cc args s m D E) (Y : pH D cCl A s.heap L f H locs) (S : tS E T F κ0 L0 f0 κ L f) (hk : κ a = (ci + 10, num)) (hc : cCl[ci]? = some (C, TT, N)) (hin : ∀ w ∈ u_ws C TT N, w ∈ lw_tg) (k : Nat) (hkN : k < N) (ht : (tFs ci)[k]? = some t) (hlink : Cond.fieldLink own index ref (TT k).2.1 (TT k).2.2.1 ∈ lw_tg) (hsame : ∀ x, s.fieldFound? (TT k).1 (TT k).2.1 (TT k).2.2.1 = some x → s.fieldFound? ref (TT k).2.1 (TT k).2.2.1 = some x) (hdg : decode cc pc = .ok (.getfield index, 3))
    (kk : okV T κ num t (gF f a k) → W p l e R s m args below meth c H locs cells slots Q (F0 m (pc + 3) ls (gF f a k :: rest))) : W p l e R s m args below meth c H locs cells slots Q (F0 m pc ls (.ref a :: rest)) := by
  obtain ⟨ha, fs, ef, ho⟩ := t_obj S.1 hk
  obtain ⟨hv, hq⟩ := t_fld ho ht ef
  exact q_get X.1 X.2.1 X.2.2.1 hin X.2.2.2.1 X.2.2.2.2 Y ha ef hc k hkN (X.2.2.1 _ hlink) hsame hv hdg (kk hq)
/-- a read whose value is known -/
theorem t_get0 {ci num N index : Nat} {C ref : String} {TT : u_T} {t : tV} {v : Value} (X : cX own p c cc args s m D E) (Y : pH D cCl A s.heap L f H locs) (S : tS E T F κ0 L0 f0 κ L f) (hk : κ a = (ci + 10, num)) (hc : cCl[ci]? = some (C, TT, N)) (hin : ∀ w ∈ u_ws C TT N, w ∈ lw_tg) (k : Nat) (hkN : k < N) (ht : (tFs ci)[k]? = some t) (hlink : Cond.fieldLink own index ref (TT k).2.1 (TT k).2.2.1 ∈ lw_tg) (hsame : ∀ x, s.fieldFound? (TT k).1 (TT k).2.1 (TT k).2.2.1 = some x → s.fieldFound? ref (TT k).2.1 (TT k).2.2.1 = some x) (hdg : decode cc pc = .ok (.getfield index, 3)) (hv : gF f a k = v)
    (kk : W p l e R s m args below meth c H locs cells slots Q (F0 m (pc + 3) ls (v :: rest))) : W p l e R s m args below meth c H locs cells slots Q (F0 m pc ls (.ref a :: rest)) :=
  t_get X Y S hk hc hin k hkN ht hlink hsame hdg (fun _ => by rw [hv]; exact kk)
theorem t_geti {ci num N index : Nat} {C ref : String} {TT : u_T} {lo hi : Int} (X : cX own p c cc args s m D E) (Y : pH D cCl A s.heap L f H locs) (S : tS E T F κ0 L0 f0 κ L f) (hk : κ a = (ci + 10, num)) (hc : cCl[ci]? = some (C, TT, N)) (hin : ∀ w ∈ u_ws C TT N, w ∈ lw_tg) (k : Nat) (hkN : k < N) (ht : (tFs ci)[k]? = some (0, lo, hi)) (hlink : Cond.fieldLink own index ref (TT k).2.1 (TT k).2.2.1 ∈ lw_tg) (hsame : ∀ x, s.fieldFound? (TT k).1 (TT k).2.1 (TT k).2.2.1 = some x → s.fieldFound? ref (TT k).2.1 (TT k).2.2.1 = some x) (hdg : decode cc pc = .ok (.getfield index, 3))
    (kk : ∀ z : Int, gF f a k = .int (iI z) → lo ≤ z → z ≤ hi → W p l e R s m args below meth c H locs cells slots Q (F0 m (pc + 3) ls (.int (iI z) :: rest))) : W p l e R s m args below meth c H locs cells slots Q (F0 m pc ls (.ref a :: rest)) :=
  t_get X Y S hk hc hin k hkN ht hlink hsame hdg (fun ⟨z, h1, h2, h3⟩ => by rw [h1]; exact kk z h1 h2 h3)
theorem t_gets {ci num N index : Nat} {C ref : String} {TT : u_T} {x y : Int} (X : cX own p c cc args s m D E) (Y : pH D cCl A s.heap L f H locs) (S : tS E T F κ0 L0 f0 κ L f) (hk : κ a = (ci + 10, num)) (hc : cCl[ci]? = some (C, TT, N)) (hin : ∀ w ∈ u_ws C TT N, w ∈ lw_tg) (k : Nat) (hkN : k < N) (ht : (tFs ci)[k]? = some (6, x, y)) (hlink : Cond.fieldLink own index ref (TT k).2.1 (TT k).2.2.1 ∈ lw_tg) (hsame : ∀ x, s.fieldFound? (TT k).1 (TT k).2.1 (TT k).2.2.1 = some x → s.fieldFound? ref (TT k).2.1 (TT k).2.2.1 = some x) (hdg : decode cc pc = .ok (.getfield index, 3))
    (kk : ∀ z : Int, gF f a k = .int (iI z) → 0 ≤ z → z ≤ (num : Int) → W p l e R s m args below meth c H locs cells slots Q (F0 m (pc + 3) ls (.int (iI z) :: rest))) : W p l e R s m args below meth c H locs cells slots Q (F0 m pc ls (.ref a :: rest)) :=
  t_get X Y S hk hc hin k hkN ht hlink hsame hdg (fun ⟨z, h1, h2, h3⟩ => by rw [h1]; exact kk z h1 h2 h3)
theorem t_getl {ci num N index : Nat} {C ref : String} {TT : u_T} {x y : Int} (X : cX own p c cc args s m D E) (Y : pH D cCl A s.heap L f H locs) (S : tS E T F κ0 L0 f0 κ L f) (hk : κ a = (ci + 10, num)) (hc : cCl[ci]? = some (C, TT, N)) (hin : ∀ w ∈ u_ws C TT N, w ∈ lw_tg) (k : Nat) (hkN : k < N) (ht : (tFs ci)[k]? = some (1, x, y)) (hlink : Cond.fieldLink own index ref (TT k).2.1 (TT k).2.2.1 ∈ lw_tg) (hsame : ∀ x, s.fieldFound? (TT k).1 (TT k).2.1 (TT k).2.2.1 = some x → s.fieldFound? ref (TT k).2.1 (TT k).2.2.1 = some x) (hdg : decode cc pc = .ok (.getfield index, 3))
    (kk : ∀ z : Int64, gF f a k = .long z → W p l e R s m args below meth c H locs cells slots Q (F0 m (pc + 3) ls (.long z :: rest))) : W p l e R s m args below meth c H locs cells slots Q (F0 m pc ls (.ref a :: rest)) :=
  t_get X Y S hk hc hin k hkN ht hlink hsame hdg (fun ⟨z, h1⟩ => by rw [h1]; exact kk z h1)
theorem t_getr {ci num N index : Nat} {C ref : String} {TT : u_T} {x y : Int} {k1 k2 : Nat} (X : cX own p c cc args s m D E) (Y : pH D cCl A s.heap L f H locs) (S : tS E T F κ0 L0 f0 κ L f) (hk : κ a = (ci + 10, num)) (hc : cCl[ci]? = some (C, TT, N)) (hin : ∀ w ∈ u_ws C TT N, w ∈ lw_tg) (k : Nat) (hkN : k < N) (ht : (tFs ci)[k]? = some (2, x, y)) (h1 : x.toNat = k1) (h2 : y.toNat = k2) (hlink : Cond.fieldLink own index ref (TT k).2.1 (TT k).2.2.1 ∈ lw_tg) (hsame : ∀ x, s.fieldFound? (TT k).1 (TT k).2.1 (TT k).2.2.1 = some x → s.fieldFound? ref (TT k).2.1 (TT k).2.2.1 = some x) (hdg : decode cc pc = .ok (.getfield index, 3))
    (kk : ∀ b : Nat, gF f a k = .ref b → κ b = (k1, k2) → W p l e R s m args below meth c H locs cells slots Q (F0 m (pc + 3) ls (.ref b :: rest))) : W p l e R s m args below meth c H locs cells slots Q (F0 m pc ls (.ref a :: rest)) :=
  t_get X Y S hk hc hin k hkN ht hlink hsame hdg (fun ⟨b, h3, h4⟩ => by rw [h3]; exact kk b h3 (by rw [← h1, ← h2]; exact h4))
theorem t_getm {ci num N index : Nat} {C ref : String} {TT : u_T} {x y : Int} {k1 k2 : Nat} (X : cX own p c cc args s m D E) (Y : pH D cCl A s.heap L f H locs) (S : tS E T F κ0 L0 f0 κ L f) (hk : κ a = (ci + 10, num)) (hc : cCl[ci]? = some (C, TT, N)) (hin : ∀ w ∈ u_ws C TT N, w ∈ lw_tg) (k : Nat) (hkN : k < N) (ht : (tFs ci)[k]? = some (3, x, y)) (h1 : x.toNat = k1) (h2 : y = (k2 : Int)) (hlink : Cond.fieldLink own index ref (TT k).2.1 (TT k).2.2.1 ∈ lw_tg) (hsame : ∀ x, s.fieldFound? (TT k).1 (TT k).2.1 (TT k).2.2.1 = some x → s.fieldFound? ref (TT k).2.1 (TT k).2.2.1 = some x) (hdg : decode cc pc = .ok (.getfield index, 3))
    (kk : ∀ b n : Nat, gF f a k = .ref b → κ b = (k1, n) → n ≤ k2 → W p l e R s m args below meth c H locs cells slots Q (F0 m (pc + 3) ls (.ref b :: rest))) : W p l e R s m args below meth c H locs cells slots Q (F0 m pc ls (.ref a :: rest)) := by
  refine t_get X Y S hk hc hin k hkN ht hlink hsame hdg (fun h6 => ?_)
  obtain ⟨b, n, h3, h4, h5⟩ := h6
  subst h2
  rw [h3]
  exact kk b n h3 (by rw [← h1]; exact h4) (Int.ofNat_le.mp h5)
theorem t_getk {ci num N index : Nat} {C ref : String} {TT : u_T} {x y : Int} (X : cX own p c cc args s m D E) (Y : pH D cCl A s.heap L f H locs) (S : tS E T F κ0 L0 f0 κ L f) (hk : κ a = (ci + 10, num)) (hc : cCl[ci]? = some (C, TT, N)) (hin : ∀ w ∈ u_ws C TT N, w ∈ lw_tg) (k : Nat) (hkN : k < N) (ht : (tFs ci)[k]? = some (4, x, y)) (hlink : Cond.fieldLink own index ref (TT k).2.1 (TT k).2.2.1 ∈ lw_tg) (hsame : ∀ x, s.fieldFound? (TT k).1 (TT k).2.1 (TT k).2.2.1 = some x → s.fieldFound? ref (TT k).2.1 (TT k).2.2.1 = some x) (hdg : decode cc pc = .ok (.getfield index, 3))
    (kk : ∀ b n : Nat, gF f a k = .ref b → tKey T κ b n → (n = 0 ∨ n = 16 ∨ n = 32) → W p l e R s m args below meth c H locs cells slots Q (F0 m (pc + 3) ls (.ref b :: rest))) : W p l e R s m args below meth c H locs cells slots Q (F0 m pc ls (.ref a :: rest)) :=
  t_get X Y S hk hc hin k hkN ht hlink hsame hdg (fun ⟨b, n, h3, h4⟩ => by rw [h3]; exact kk b n h3 h4 (tKey_n h4))
theorem t_getrow {ci num N index : Nat} {C ref : String} {TT : u_T} {x y : Int} (X : cX own p c cc args s m D E) (Y : pH D cCl A s.heap L f H locs) (S : tS E T F κ0 L0 f0 κ L f) (hk : κ a = (ci + 10, num)) (hc : cCl[ci]? = some (C, TT, N)) (hin : ∀ w ∈ u_ws C TT N, w ∈ lw_tg) (k : Nat) (hkN : k < N) (ht : (tFs ci)[k]? = some (5, x, y)) (hlink : Cond.fieldLink own index ref (TT k).2.1 (TT k).2.2.1 ∈ lw_tg) (hsame : ∀ x, s.fieldFound? (TT k).1 (TT k).2.1 (TT k).2.2.1 = some x → s.fieldFound? ref (TT k).2.1 (TT k).2.2.1 = some x) (hdg : decode cc pc = .ok (.getfield index, 3))
    (kk : ∀ b : Nat, gF f a k = .ref b → κ b = (1, num) → W p l e R s m args below meth c H locs cells slots Q (F0 m (pc + 3) ls (.ref b :: rest))) : W p l e R s m args below meth c H locs cells slots Q (F0 m pc ls (.ref a :: rest)) :=
  t_get X Y S hk hc hin k hkN ht hlink hsame hdg (fun ⟨b, h3, h4⟩ => by rw [h3]; exact kk b h3 h4)
theorem t_put {ci num N index : Nat} {C ref : String} {TT : u_T} {t : tV} {v : Value} {ty : FieldType} (X : cX own p c cc args s m D E) (Y : pH D cCl A s.heap L f H locs) (S : tS E T F κ0 L0 f0 κ L f) (hk : κ a = (ci + 10, num)) (hc : cCl[ci]? = some (C, TT, N)) (hin : ∀ w ∈ u_ws C TT N, w ∈ lw_tg) (ty0 : Nat → FieldType) (hty : ∀ k, k < N → parseFieldDescriptor (TT k).2.2.1 = some (ty0 k)) (hnm : ∀ a, a < N → ∀ b, b < N → a ≠ b → (TT a).2.1 ≠ (TT b).2.1) (k : Nat) (hkN : k < N) (ht : (tFs ci)[k]? = some t) (hlink : Cond.fieldLink own index ref (TT k).2.1 (TT k).2.2.1 ∈ lw_tg) (hsame : ∀ x, s.fieldFound? (TT k).1 (TT k).2.1 (TT k).2.2.1 = some x → s.fieldFound? ref (TT k).2.1 (TT k).2.2.1 = some x) (hfin : (TT k).2.2.2 = false) (hd : parseFieldDescriptor (TT k).2.2.1 = some ty) (hn : narrow ty v = v) (hfit : fits ty v = true) (hv : okV T κ num t v) (hm : ¬ F a) (hdg : decode cc pc = .ok (.putfield index, 3))
    (kk : ∀ (f1 : pF) (H1 : Heap) (locs1 : List Loc), pH D cCl A s.heap L f1 H1 locs1 → tS E T F κ0 L0 f0 κ L f1 → tPut f f1 a k v → W p l e R s m args below meth c H1 locs1 cells slots Q (F0 m (pc + 3) ls rest)) : W p l e R s m args below meth c H locs cells slots Q (F0 m pc ls (v :: .ref a :: rest)) := by
  obtain ⟨ha, fs, ef, ho⟩ := t_obj S.1 hk
  have hl : k < fs.length := by rw [ho.1]; exact (List.getElem?_eq_some_iff.mp ht).1
  refine q_put X.1 X.2.1 X.2.2.1 hin ty0 hty hnm X.2.2.2.1 X.2.2.2.2 Y ha ef hc k hkN (X.2.2.1 _ hlink) hsame hfin hd hn hfit hl hdg (fun H1 locs1 Y1 => ?_)
  refine kk _ H1 locs1 Y1 (tS_up S hm (fun _ => ?_)) (tPut_of ef hl)
  rw [hk]
  exact ⟨_, rfl, tk_set ho ht hv⟩
theorem t_arr {n c0 : Nat} (S : tS E T F κ0 L0 f0 κ L f) (hk : κ a = (c0 + 1, n)) : a ∈ L ∧ okE E T κ (c0 + 1, n) (f a) := by
  have h := S.1 a (by rw [hk]; exact Nat.succ_ne_zero _)
  rw [hk] at h
  exact h
theorem t_bald {n : Nat} {i : Int} (X : cX own p c cc args s m D E) (Y : pH D cCl A s.heap L f H locs) (S : tS E T F κ0 L0 f0 κ L f) (hk : tSrc T κ a n) (h0 : 0 ≤ i) (h1 : i < n) (h2 : i ≤ 2147483647) (hdg : decode cc pc = .ok (.baload, 1))
    (kk : ∀ z : Int, -128 ≤ z → z ≤ 127 → W p l e R s m args below meth c H locs cells slots Q (F0 m (pc + 1) ls (.int (iI z) :: rest))) : W p l e R s m args below meth c H locs cells slots Q (F0 m pc ls (.int (iI i) :: .ref a :: rest)) := by
  rcases hk with hk | ⟨-, h3⟩
  · obtain ⟨ha, g, ef, hg⟩ := t_arr S hk
    refine q_bald X.1 X.2.1 X.2.2.2.2 Y 0 ha ef rfl (iI_in h0 h1 h2) hdg ?_
    have h4 := iI_byte (hg (iI i).toNatClampNeg)
    have h5 := kk _ h4.1 h4.2
    rw [← iI_of] at h5
    exact h5
  · omega
theorem t_iald2 {n : Nat} {i : Int} (X : cX own p c cc args s m D E) (Y : pH D cCl A s.heap L f H locs) (S : tS E T F κ0 L0 f0 κ L f) (hk : κ a = (2, n)) (h0 : 0 ≤ i) (h1 : i < n) (h2 : i ≤ 2147483647) (hdg : decode cc pc = .ok (.iaload, 1))
    (kk : ∀ z : Int, -2147483648 ≤ z → z ≤ 2147483647 → W p l e R s m args below meth c H locs cells slots Q (F0 m (pc + 1) ls (.int (iI z) :: rest))) : W p l e R s m args below meth c H locs cells slots Q (F0 m pc ls (.int (iI i) :: .ref a :: rest)) := by
  obtain ⟨ha, g, ef⟩ := t_arr S hk
  exact q_iald X.1 X.2.1 X.2.2.2.2 Y 1 ha ef rfl (iI_in h0 h1 h2) hdg (t_u kk)
theorem t_iald3 {n : Nat} {i : Int} (X : cX own p c cc args s m D E) (Y : pH D cCl A s.heap L f H locs) (S : tS E T F κ0 L0 f0 κ L f) (hk : κ a = (3, n)) (h0 : 0 ≤ i) (h1 : i < n) (h2 : i ≤ 2147483647) (hdg : decode cc pc = .ok (.iaload, 1))
    (kk : ∀ z : Int, 0 ≤ z → z ≤ 255 → W p l e R s m args below meth c H locs cells slots Q (F0 m (pc + 1) ls (.int (iI z) :: rest))) : W p l e R s m args below meth c H locs cells slots Q (F0 m pc ls (.int (iI i) :: .ref a :: rest)) := by
  obtain ⟨ha, g, ef, hg⟩ := t_arr S hk
  refine q_iald X.1 X.2.1 X.2.2.2.2 Y 1 ha ef rfl (iI_in h0 h1 h2) hdg ?_
  have h5 := kk _ (hg (iI i).toNatClampNeg).1 (hg (iI i).toNatClampNeg).2
  rw [← iI_of] at h5
  exact h5
theorem t_iald4 {n : Nat} {i : Int} (X : cX own p c cc args s m D E) (Y : pH D cCl A s.heap L f H locs) (S : tS E T F κ0 L0 f0 κ L f) (hk : κ a = (4, n)) (h0 : 0 ≤ i) (h1 : i < n) (h2 : i ≤ 2147483647) (hdg : decode cc pc = .ok (.iaload, 1))
    (kk : ∀ z : Int, -2147483648 ≤ z → z ≤ 40 → W p l e R s m args below meth c H locs cells slots Q (F0 m (pc + 1) ls (.int (iI z) :: rest))) : W p l e R s m args below meth c H locs cells slots Q (F0 m pc ls (.int (iI i) :: .ref a :: rest)) := by
  obtain ⟨ha, g, ef, hg⟩ := t_arr S hk
  refine q_iald X.1 X.2.1 X.2.2.2.2 Y 1 ha ef rfl (iI_in h0 h1 h2) hdg ?_
  have h5 := kk _ (iI_r _).1 (hg (iI i).toNatClampNeg)
  rw [← iI_of] at h5
  exact h5
/-- the static tables -/
theorem t_sald (j : Nat) (hj : j < 6) (ht : (sG j).2.2.2 = .int) {i : Int} (X : cX own p c cc args s m D E) (Y : pH D cCl A s.heap L f H locs) (KS : kS T A s s.heap) (h0 : 0 ≤ i) (h1 : i < sL j) (h2 : i ≤ 2147483647) (hdg : decode cc pc = .ok (.iaload, 1))
    (kk : ∀ z : Int, -2147483648 ≤ z → z ≤ 2147483647 → W p l e R s m args below meth c H locs cells slots Q (F0 m (pc + 1) ls (.int (iI z) :: rest))) : W p l e R s m args below meth c H locs cells slots Q (F0 m pc ls (.int (iI i) :: .ref (T.1 j) :: rest)) :=
  k_iald j hj ht X Y KS (iI_in h0 h1 h2) hdg (t_u kk)
theorem t_box {i : Int} (X : cX own p c cc args s m D E) (Y : pH D cCl A s.heap L f H locs) (KS : kS T A s s.heap) (h0 : 0 ≤ i) (h1 : i < 256) (hdg : decode cc pc = .ok (.iaload, 1))
    (kk : ∀ z : Int, 0 ≤ z → z ≤ 255 → W p l e R s m args below meth c H locs cells slots Q (F0 m (pc + 1) ls (.int (iI z) :: rest))) : W p l e R s m args below meth c H locs cells slots Q (F0 m pc ls (.int (iI i) :: .ref (T.1 1) :: rest)) := by
  refine k_iald 1 (by decide) rfl X Y KS (iI_in h0 (show i < ((256 : Nat) : Int) from h1) (by omega)) hdg ?_
  obtain ⟨n, h3, h4⟩ := sBOX_lt (iI i).toNatClampNeg
  rw [h4, show nI n = iI (n : Int) by rw [iI_nat (by omega) (by omega), Int.toNat_natCast]]
  exact kk n (by omega) (by omega)
theorem t_alen {n : Nat} (X : cX own p c cc args s m D E) (Y : pH D cCl A s.heap L f H locs) (S : tS E T F κ0 L0 f0 κ L f) (KS : kS T A s s.heap) (hk : tSrc T κ a n) (hn : n ≤ 100000) (hdg : decode cc pc = .ok (.arraylength, 1))
    (kk : W p l e R s m args below meth c H locs cells slots Q (F0 m (pc + 1) ls (.int (iI n) :: rest))) : W p l e R s m args below meth c H locs cells slots Q (F0 m pc ls (.ref a :: rest)) := by
  have e1 : Int32.ofNat n = iI (n : Int) := by rw [iI_nat (by omega) (by omega), Int.toNat_natCast]; rfl
  rcases hk with hk | ⟨h3, h4⟩
  · obtain ⟨ha, g, ef, hg⟩ := t_arr S hk
    exact q_alen X.1 X.2.1 X.2.2.2.2 Y 0 ha ef rfl e1 hdg kk
  · subst h3
    subst h4
    exact va_tlen X.1 X.2.1 (KS.1 0 (by decide)).2 Y.2.2 e1 hdg kk
theorem t_aald {n c1 c2 t0 : Nat} {cA : ClassId} {C : String} {i : Int} (X : cX own p c cc args s m D E) (Y : pH D cCl A s.heap L f H locs) (S : tS E T F κ0 L0 f0 κ L f) (hk : κ a = (c1 + 1, n)) (hO : okE E T κ (c1 + 1, n) (f a) → okR κ cA n c2 (f a)) (ht : (cTy E)[t0]? = some (cA, .object C)) (h0 : 0 ≤ i) (h1 : i < n) (h2 : i ≤ 2147483647) (hdg : decode cc pc = .ok (.aaload, 1))
    (kk : ∀ b : Nat, gA f a i.toNat = .ref b → κ b = (c2, 0) → W p l e R s m args below meth c H locs cells slots Q (F0 m (pc + 1) ls (.ref b :: rest))) : W p l e R s m args below meth c H locs cells slots Q (F0 m pc ls (.int (iI i) :: .ref a :: rest)) := by
  obtain ⟨ha, h⟩ := t_arr S hk
  obtain ⟨g, ef, hg⟩ := hO h
  obtain ⟨b, h3, h4⟩ := hg i.toNat (by omega)
  refine q_aald X.1 X.2.1 X.2.2.2.2 Y t0 ha ef ht (iI_in h0 h1 h2) hdg ?_
  rw [iI_cl h0 h2, h3]
  exact kk b (by unfold gA; rw [ef]; show va_rf (g i.toNat) = .ref b; rw [h3]; rfl) h4
/-- a read of a row of objects whose answer is known -/
theorem t_aald0 {n c1 c2 t0 b : Nat} {cA : ClassId} {C : String} {i : Int} (X : cX own p c cc args s m D E) (Y : pH D cCl A s.heap L f H locs) (S : tS E T F κ0 L0 f0 κ L f) (hk : κ a = (c1 + 1, n)) (hO : okE E T κ (c1 + 1, n) (f a) → okR κ cA n c2 (f a)) (ht : (cTy E)[t0]? = some (cA, .object C)) (h0 : 0 ≤ i) (h1 : i < n) (h2 : i ≤ 2147483647) (hdg : decode cc pc = .ok (.aaload, 1)) (hv : gA f a i.toNat = .ref b)
    (kk : W p l e R s m args below meth c H locs cells slots Q (F0 m (pc + 1) ls (.ref b :: rest))) : W p l e R s m args below meth c H locs cells slots Q (F0 m pc ls (.int (iI i) :: .ref a :: rest)) :=
  t_aald X Y S hk hO ht h0 h1 h2 hdg (fun b2 h3 _ => by rw [hv] at h3; rw [← Value.ref.inj h3]; exact kk)
theorem t_bast {n : Nat} {i x : Int} (X : cX own p c cc args s m D E) (Y : pH D cCl A s.heap L f H locs) (S : tS E T F κ0 L0 f0 κ L f) (hk : κ a = (1, n)) (h0 : 0 ≤ i) (h1 : i < n) (h2 : i ≤ 2147483647) (hm : ¬ F a) (hdg : decode cc pc = .ok (.bastore, 1))
    (kk : ∀ (f1 : pF) (H1 : Heap) (locs1 : List Loc), pH D cCl A s.heap L f1 H1 locs1 → tS E T F κ0 L0 f0 κ L f1 → tArr f f1 a → W p l e R s m args below meth c H1 locs1 cells slots Q (F0 m (pc + 1) ls rest)) : W p l e R s m args below meth c H locs cells slots Q (F0 m pc ls (.int (iI x) :: .int (iI i) :: .ref a :: rest)) := by
  obtain ⟨ha, g, ef, hg⟩ := t_arr S hk
  refine q_bast X.1 X.2.1 X.2.2.2.2 Y 0 ha ef rfl (iI_in h0 h1 h2) hdg (fun H1 locs1 Y1 => ?_)
  exact kk _ H1 locs1 Y1 (tS_up S hm (fun _ => by rw [hk]; exact ⟨_, rfl, fB_upd hg⟩)) (fun b hb => q_ne hb)
theorem t_iast2 {n : Nat} {i x : Int} (X : cX own p c cc args s m D E) (Y : pH D cCl A s.heap L f H locs) (S : tS E T F κ0 L0 f0 κ L f) (hk : κ a = (2, n)) (h0 : 0 ≤ i) (h1 : i < n) (h2 : i ≤ 2147483647) (hm : ¬ F a) (hdg : decode cc pc = .ok (.iastore, 1))
    (kk : ∀ (f1 : pF) (H1 : Heap) (locs1 : List Loc), pH D cCl A s.heap L f1 H1 locs1 → tS E T F κ0 L0 f0 κ L f1 → tArr f f1 a → W p l e R s m args below meth c H1 locs1 cells slots Q (F0 m (pc + 1) ls rest)) : W p l e R s m args below meth c H locs cells slots Q (F0 m pc ls (.int (iI x) :: .int (iI i) :: .ref a :: rest)) := by
  obtain ⟨ha, g, ef⟩ := t_arr S hk
  refine q_iast X.1 X.2.1 X.2.2.2.2 Y 1 ha ef rfl (iI_in h0 h1 h2) hdg (fun H1 locs1 Y1 => ?_)
  exact kk _ H1 locs1 Y1 (tS_up S hm (fun _ => by rw [hk]; exact ⟨_, rfl⟩)) (fun b hb => q_ne hb)
theorem t_iast3 {n : Nat} {i x : Int} (X : cX own p c cc args s m D E) (Y : pH D cCl A s.heap L f H locs) (S : tS E T F κ0 L0 f0 κ L f) (hk : κ a = (3, n)) (h0 : 0 ≤ i) (h1 : i < n) (h2 : i ≤ 2147483647) (hx : 0 ≤ x ∧ x ≤ 255) (hm : ¬ F a) (hdg : decode cc pc = .ok (.iastore, 1))
    (kk : ∀ (f1 : pF) (H1 : Heap) (locs1 : List Loc), pH D cCl A s.heap L f1 H1 locs1 → tS E T F κ0 L0 f0 κ L f1 → tArr f f1 a → W p l e R s m args below meth c H1 locs1 cells slots Q (F0 m (pc + 1) ls rest)) : W p l e R s m args below meth c H locs cells slots Q (F0 m pc ls (.int (iI x) :: .int (iI i) :: .ref a :: rest)) := by
  obtain ⟨ha, g, ef, hg⟩ := t_arr S hk
  refine q_iast X.1 X.2.1 X.2.2.2.2 Y 1 ha ef rfl (iI_in h0 h1 h2) hdg (fun H1 locs1 Y1 => ?_)
  refine kk _ H1 locs1 Y1 (tS_up S hm (fun _ => ?_)) (fun b hb => q_ne hb)
  rw [hk]
  refine ⟨_, rfl, fun j => ?_⟩
  by_cases e1 : j = (iI i).toNatClampNeg
  · rw [e1, pk_us, iI_toInt ⟨by omega, by omega⟩]; exact hx
  · rw [pk_un e1]; exact hg j
theorem t_iast4 {n : Nat} {i x : Int} (X : cX own p c cc args s m D E) (Y : pH D cCl A s.heap L f H locs) (S : tS E T F κ0 L0 f0 κ L f) (hk : κ a = (4, n)) (h0 : 0 ≤ i) (h1 : i < n) (h2 : i ≤ 2147483647) (hx : -2147483648 ≤ x ∧ x ≤ 40) (hm : ¬ F a) (hdg : decode cc pc = .ok (.iastore, 1))
    (kk : ∀ (f1 : pF) (H1 : Heap) (locs1 : List Loc), pH D cCl A s.heap L f1 H1 locs1 → tS E T F κ0 L0 f0 κ L f1 → tArr f f1 a → W p l e R s m args below meth c H1 locs1 cells slots Q (F0 m (pc + 1) ls rest)) : W p l e R s m args below meth c H locs cells slots Q (F0 m pc ls (.int (iI x) :: .int (iI i) :: .ref a :: rest)) := by
  obtain ⟨ha, g, ef, hg⟩ := t_arr S hk
  refine q_iast X.1 X.2.1 X.2.2.2.2 Y 1 ha ef rfl (iI_in h0 h1 h2) hdg (fun H1 locs1 Y1 => ?_)
  refine kk _ H1 locs1 Y1 (tS_up S hm (fun _ => ?_)) (fun b hb => q_ne hb)
  rw [hk]
  refine ⟨_, rfl, fun j => ?_⟩
  by_cases e1 : j = (iI i).toNatClampNeg
  · rw [e1, pk_us, iI_toInt ⟨hx.1, by omega⟩]; exact hx.2
  · rw [pk_un e1]; exact hg j
/-- System.arraycopy -/
theorem t_copyB {ix n1 n2 a1 a2 : Nat} {i1 i2 k3 : Int} (X : cX own p c cc args s m D E) (Y : pH D cCl A s.heap L f H locs) (S : tS E T F κ0 L0 f0 κ L f) (KS : kS T A s s.heap) (hml : c.maxLocals = ls.size) (hl : Cond.methodLink own ix arraycopyName ∈ lw_tg) (hk1 : tSrc T κ a1 n1) (hk2 : κ a2 = (1, n2)) (g1 : 0 ≤ i1) (g2 : 0 ≤ i2) (g3 : 0 ≤ k3) (b1 : i1 + k3 ≤ n1) (b2 : i2 + k3 ≤ n2) (hn1 : n1 ≤ 100000) (hn2 : n2 ≤ 100000) (hm : ¬ F a2) (hframes : 1 ≤ R.frames) (hlocals : (rest.map fun v => v.category).sum + (nativeFrameWords "java/lang/System" "arraycopy" 5 + 11) ≤ R.locals) (hdg : decode cc pc = .ok (.invokestatic ix, 3))
    (kk : ∀ (f1 : pF) (H1 : Heap) (locs1 : List Loc), pH D cCl A s.heap L f1 H1 locs1 → tS E T F κ0 L0 f0 κ L f1 → tArr f f1 a2 → W p l e R s m args below meth c H1 locs1 cells slots Q (F0 m (pc + 3) ls rest)) : W p l e R s m args below meth c H locs cells slots Q (F0 m pc ls (.int (iI k3) :: .int (iI i2) :: .ref a2 :: .int (iI i1) :: .ref a1 :: rest)) := by
  obtain ⟨ha2, g, ef2, hg⟩ := t_arr S hk2
  rw [iI_nat g3 (by omega), iI_nat g2 (by omega), iI_nat g1 (by omega)]
  rcases hk1 with hk1 | ⟨h3, h4⟩
  · obtain ⟨ha1, u, ef1, hu⟩ := t_arr S hk1
    refine q_copy X.1 X.2.1 hml X.2.2.2.1 (X.2.2.1 _ hl) (X.2.2.1 _ kn_copy) (X.2.2.1 _ ks_copy) (X.2.2.1 _ ini_Sys) X.2.2.2.2 Y 0 ha1 ef1 ha2 ef2 rfl rfl (by omega) (by omega) (by omega) (by omega) (fun i => hu i) hframes hlocals hdg (fun H1 locs1 Y1 => ?_)
    exact kk _ H1 locs1 Y1 (tS_up S hm (fun _ => by rw [hk2]; exact ⟨_, rfl, fB_cpy hu hg⟩)) (fun b hb => q_ne hb)
  · subst h3
    refine k_copy 0 (by decide) rfl X Y KS hml hl ha2 ef2 (show i1.toNat + k3.toNat ≤ 0 by omega) (by omega) (by omega) (fun j hj => absurd hj (by omega)) hframes hlocals hdg (by omega) (fun H1 locs1 Y1 => ?_)
    refine kk _ H1 locs1 Y1 (tS_up S hm (fun _ => ?_)) (fun b hb => q_ne hb)
    rw [hk2]
    refine ⟨_, rfl, fun i => ?_⟩
    unfold va_cpy
    split
    · omega
    · exact hg i
theorem t_copyI {ix n1 n2 a1 a2 cI : Nat} {i1 i2 k3 : Int} (hcI : cI = 2 ∨ cI = 3) (X : cX own p c cc args s m D E) (Y : pH D cCl A s.heap L f H locs) (S : tS E T F κ0 L0 f0 κ L f) (hml : c.maxLocals = ls.size) (hl : Cond.methodLink own ix arraycopyName ∈ lw_tg) (hk1 : κ a1 = (cI, n1)) (hk2 : κ a2 = (cI, n2)) (g1 : 0 ≤ i1) (g2 : 0 ≤ i2) (g3 : 0 ≤ k3) (b1 : i1 + k3 ≤ n1) (b2 : i2 + k3 ≤ n2) (hn1 : n1 ≤ 100000) (hn2 : n2 ≤ 100000) (hm : ¬ F a2) (hframes : 1 ≤ R.frames) (hlocals : (rest.map fun v => v.category).sum + (nativeFrameWords "java/lang/System" "arraycopy" 5 + 11) ≤ R.locals) (hdg : decode cc pc = .ok (.invokestatic ix, 3))
    (kk : ∀ (f1 : pF) (H1 : Heap) (locs1 : List Loc), pH D cCl A s.heap L f1 H1 locs1 → tS E T F κ0 L0 f0 κ L f1 → tArr f f1 a2 → W p l e R s m args below meth c H1 locs1 cells slots Q (F0 m (pc + 3) ls rest)) : W p l e R s m args below meth c H locs cells slots Q (F0 m pc ls (.int (iI k3) :: .int (iI i2) :: .ref a2 :: .int (iI i1) :: .ref a1 :: rest)) := by
  rw [iI_nat g3 (by omega), iI_nat g2 (by omega), iI_nat g1 (by omega)]
  rcases hcI with rfl | rfl
  · obtain ⟨ha2, g, ef2⟩ := t_arr S hk2
    obtain ⟨ha1, u, ef1⟩ := t_arr S hk1
    refine q_copy X.1 X.2.1 hml X.2.2.2.1 (X.2.2.1 _ hl) (X.2.2.1 _ kn_copy) (X.2.2.1 _ ks_copy) (X.2.2.1 _ ini_Sys) X.2.2.2.2 Y 1 ha1 ef1 ha2 ef2 rfl rfl (by omega) (by omega) (by omega) (by omega) (fun i => rfl) hframes hlocals hdg (fun H1 locs1 Y1 => ?_)
    exact kk _ H1 locs1 Y1 (tS_up S hm (fun _ => by rw [hk2]; exact ⟨_, rfl⟩)) (fun b hb => q_ne hb)
  · obtain ⟨ha2, g, ef2, hg⟩ := t_arr S hk2
    obtain ⟨ha1, u, ef1, hu⟩ := t_arr S hk1
    refine q_copy X.1 X.2.1 hml X.2.2.2.1 (X.2.2.1 _ hl) (X.2.2.1 _ kn_copy) (X.2.2.1 _ ks_copy) (X.2.2.1 _ ini_Sys) X.2.2.2.2 Y 1 ha1 ef1 ha2 ef2 rfl rfl (by omega) (by omega) (by omega) (by omega) (fun i => rfl) hframes hlocals hdg (fun H1 locs1 Y1 => ?_)
    refine kk _ H1 locs1 Y1 (tS_up S hm (fun _ => ?_)) (fun b hb => q_ne hb)
    rw [hk2]
    refine ⟨_, rfl, fun j => ?_⟩
    unfold va_cpy
    split
    · exact hu _
    · exact hg j
/-- strings -/
theorem t_charAt {nL i ix : Nat} {k : Int} (X : cX own p c cc args s m D E) (Y : pH D cCl A s.heap L f H locs) (KS : kS T A s s.heap) (hi : i < nY) (h0 : 0 ≤ k) (h1 : k < yn i) (hml : c.maxLocals = nL) (hsz : ls.size = nL) (a1 : Cond.methodLink own ix y_charAt ∈ lw_tg) (hR : 3 + 1 ≤ R.frames ∧ 8 + (2 + 11) + 64 ≤ R.locals) (hw : (rest.map fun v => v.category).sum ≤ 8) (hdg : decode cc pc = .ok (.invokevirtual ix, 3)) (hf : cells ≤ R.cells ∧ slots ≤ R.slots)
    (kk : ∀ (H1 : Heap) (locs1 : List Loc) (z : Int), pH D cCl A s.heap L f H1 locs1 → yb i k.toNat &&& 255 = iI z → 0 ≤ z → z ≤ 255 → W p l e R s m args below meth c H1 locs1 cells slots Q (F0 m (pc + 3) ls (.int (iI z) :: rest))) : W p l e R s m args below meth c H locs cells slots Q (F0 m pc ls (.int (iI k) :: .ref (T.2.1 i) :: rest)) := by
  have hs := yn_small i hi
  rw [iI_nat h0 (by omega)]
  refine k_charAt X Y KS hi (show k.toNat < yn i by omega) hml hsz a1 hR hw hdg hf (fun H1 locs1 Y1 => ?_)
  obtain ⟨z, h2, h3, h4⟩ := iI_and (yb i k.toNat) (c := 255) (by decide) (by decide)
  have e1 : (255 : Int32) = iI 255 := by decide
  rw [e1, h4]
  exact kk H1 locs1 z Y1 (by rw [e1]; exact h4) h2 h3
theorem t_length {nL i ix : Nat} (X : cX own p c cc args s m D E) (Y : pH D cCl A s.heap L f H locs) (KS : kS T A s s.heap) (hi : i < nY) (hml : c.maxLocals = nL) (hsz : ls.size = nL) (a1 : Cond.methodLink own ix y_length ∈ lw_tg) (hR : 1 + 1 ≤ R.frames ∧ 8 + (1 + 11) + 20 ≤ R.locals) (hw : (rest.map fun v => v.category).sum ≤ 8) (hdg : decode cc pc = .ok (.invokevirtual ix, 3)) (hf : cells ≤ R.cells ∧ slots ≤ R.slots)
    (kk : ∀ (H1 : Heap) (locs1 : List Loc), pH D cCl A s.heap L f H1 locs1 → W p l e R s m args below meth c H1 locs1 cells slots Q (F0 m (pc + 3) ls (.int (iI (yn i)) :: rest))) : W p l e R s m args below meth c H locs cells slots Q (F0 m pc ls (.ref (T.2.1 i) :: rest)) := by
  have hs := yn_small i hi
  refine k_length X Y KS hi hml hsz a1 hR hw hdg hf (fun H1 locs1 Y1 => ?_)
  rw [show nI (yn i) = iI (yn i : Int) by rw [iI_nat (by omega) (by omega), Int.toNat_natCast]]
  exact kk H1 locs1 Y1
end TROWS
section TROWS2
variable {p : Program} {l : Launch} {e : Env} {R : Room} {s : State} {m : MethodId} {args : Array Value} {below : List Frame} {meth : Method} {c : Code} {H : Heap} {locs : List Loc} {cells slots : Nat} {Q : State → Prop} {cc : ByteArray} {pc : Nat} {ls : Array Slot} {rest : List Value} {D : va_G} {E : cE} {T : cT} {A : Nat → Prop} {L L0 : List Nat} {f f0 : pF} {own : String} {κ κ0 : tK} {F : Nat → Prop} {a : Nat}
theorem t_rlen {n c1 c2 t0 : Nat} {cA : ClassId} {C : String} (X : cX own p c cc args s m D E) (Y : pH D cCl A s.heap L f H locs) (S : tS E T F κ0 L0 f0 κ L f) (hk : κ a = (c1 + 1, n)) (hO : okE E T κ (c1 + 1, n) (f a) → okR κ cA n c2 (f a)) (ht : (cTy E)[t0]? = some (cA, .object C)) (hn : n ≤ 100000) (hdg : decode cc pc = .ok (.arraylength, 1))
    (kk : W p l e R s m args below meth c H locs cells slots Q (F0 m (pc + 1) ls (.int (iI n) :: rest))) : W p l e R s m args below meth c H locs cells slots Q (F0 m pc ls (.ref a :: rest)) := by
  obtain ⟨ha, h⟩ := t_arr S hk
  obtain ⟨g, ef, hg⟩ := hO h
  exact q_alen X.1 X.2.1 X.2.2.2.2 Y t0 ha ef ht (by show Int32.ofNat n = _; rw [iI_nat (by omega) (by omega), Int.toNat_natCast]; rfl) hdg kk
theorem t_copyK {ix n2 a2 : Nat} {i1 i2 k3 : Int} (X : cX own p c cc args s m D E) (Y : pH D cCl A s.heap L f H locs) (S : tS E T F κ0 L0 f0 κ L f) (KS : kS T A s s.heap) (hml : c.maxLocals = ls.size) (hl : Cond.methodLink own ix arraycopyName ∈ lw_tg) (hk2 : κ a2 = (1, n2)) (g1 : i1 = 0) (g2 : 0 ≤ i2) (g3 : 0 ≤ k3) (b1 : k3 ≤ 16) (b2 : i2 + k3 ≤ n2) (hn2 : n2 ≤ 100000) (hm : ¬ F a2) (hframes : 1 ≤ R.frames) (hlocals : (rest.map fun v => v.category).sum + (nativeFrameWords "java/lang/System" "arraycopy" 5 + 11) ≤ R.locals) (hdg : decode cc pc = .ok (.invokestatic ix, 3))
    (kk : ∀ (f1 : pF) (H1 : Heap) (locs1 : List Loc), pH D cCl A s.heap L f1 H1 locs1 → tS E T F κ0 L0 f0 κ L f1 → tArr f f1 a2 → W p l e R s m args below meth c H1 locs1 cells slots Q (F0 m (pc + 3) ls rest)) : W p l e R s m args below meth c H locs cells slots Q (F0 m pc ls (.int (iI k3) :: .int (iI i2) :: .ref a2 :: .int (iI i1) :: .ref (T.1 2) :: rest)) := by
  obtain ⟨ha2, g, ef2, hg⟩ := t_arr S hk2
  subst g1
  rw [iI_nat g3 (by omega), iI_nat g2 (by omega), show iI 0 = nI 0 by decide]
  refine k_copy 2 (by decide) rfl X Y KS hml hl ha2 ef2 (show 0 + k3.toNat ≤ 16 by omega) (by omega) (by omega) (fun j hj => sKER_fit j (by omega)) hframes hlocals hdg (by omega) (fun H1 locs1 Y1 => ?_)
  refine kk _ H1 locs1 Y1 (tS_up S hm (fun _ => ?_)) (fun b hb => q_ne hb)
  rw [hk2]
  refine ⟨_, rfl, fun i => ?_⟩
  unfold va_cpy
  split
  · rename_i h
    exact sKER_fit (i - i2.toNat) (by omega)
  · exact hg i
theorem z_max (hexec : p.tables.exec = Jvm.exec) (hb : c.code = cc) (hml : c.maxLocals = ls.size) {own : String} {index : Nat} (hown : s.vm.findClass own = some m.cls) (hlink : (Cond.methodLink own index Lib.Math.max.name).before args s = true) (hstat : (Cond.static Lib.Math.max.name).before args s = true) (hini : (Cond.initialized "java/lang/Math").before args s = true) (hcode : (Cond.code Lib.Math.max.name Lib.Math.max.code 2 (some .int)).before args s = true)
    (hframes : 1 ≤ R.frames) (hlocals : (rest.map fun v => v.category).sum + 13 ≤ R.locals) (hc : cells ≤ R.cells) (hs : slots ≤ R.slots) {x y : Int} (hx : iR x) (hy : iR y) (hdg : decode cc pc = .ok (.invokestatic index, 3))
    (kk : ∀ z : Int, x ≤ z → y ≤ z → (z = x ∨ z = y) → W p l e R s m args below meth c H locs cells slots Q (F0 m (pc + 3) ls (.int (iI z) :: rest))) : W p l e R s m args below meth c H locs cells slots Q (F0 m pc ls (.int (iI y) :: .int (iI x) :: rest)) := by
  refine va_mmax hexec hb hml hown hlink hstat hini hcode hframes hlocals hc hs hdg ?_
  split
  · rename_i h; rw [iI_lt hx hy] at h; exact kk y (by omega) (by omega) (Or.inr rfl)
  · rename_i h; rw [iI_lt hx hy] at h; exact kk x (by omega) (by omega) (Or.inl rfl)
theorem z_min (hexec : p.tables.exec = Jvm.exec) (hb : c.code = cc) (hml : c.maxLocals = ls.size) {own : String} {index : Nat} (hown : s.vm.findClass own = some m.cls) (hlink : (Cond.methodLink own index Lib.Math.min.name).before args s = true) (hstat : (Cond.static Lib.Math.min.name).before args s = true) (hini : (Cond.initialized "java/lang/Math").before args s = true) (hcode : (Cond.code Lib.Math.min.name Lib.Math.min.code 2 (some .int)).before args s = true)
    (hframes : 1 ≤ R.frames) (hlocals : (rest.map fun v => v.category).sum + 13 ≤ R.locals) (hc : cells ≤ R.cells) (hs : slots ≤ R.slots) {x y : Int} (hx : iR x) (hy : iR y) (hdg : decode cc pc = .ok (.invokestatic index, 3))
    (kk : ∀ z : Int, z ≤ x → z ≤ y → (z = x ∨ z = y) → W p l e R s m args below meth c H locs cells slots Q (F0 m (pc + 3) ls (.int (iI z) :: rest))) : W p l e R s m args below meth c H locs cells slots Q (F0 m pc ls (.int (iI y) :: .int (iI x) :: rest)) := by
  refine va_mmin hexec hb hml hown hlink hstat hini hcode hframes hlocals hc hs hdg ?_
  split
  · rename_i h; rw [iI_lt hy hx] at h; exact kk y (by omega) (by omega) (Or.inr rfl)
  · rename_i h; rw [iI_lt hy hx] at h; exact kk x (by omega) (by omega) (Or.inl rfl)
theorem z_osw {z a o d : Int} {r : List (Int × Int)} (hz : iR z) (h : z ≠ a) : Op.lookupswitch.offset ((a, o) :: r) d (iI z).toInt = Op.lookupswitch.offset r d (iI z).toInt := by
  rw [Op.lookupswitch.offset_cons, if_neg]
  rw [iI_toInt hz]
  intro q
  exact h q.symm
theorem yn_40 : ∀ i, i < nY → yn i ≤ 64 := by decide +kernel
theorem kr_ne {a b c n : Nat} {κ : tK} (ha : κ a = (c, n)) (hb : (κ b).1 = 0) (h : c ≠ 0) : b ≠ a := fun e => h (by rw [e, ha] at hb; exact hb)
theorem tLe_raw {κ : tK} {q : Nat} {k : Nat × Nat} (h : (κ q).1 = 0) : tLe κ (va_up κ q k) := fun b hb => va_up_ne _ _ (fun e => hb (by rw [e]; exact h))
def okL (T : cT) (κ : tK) (num : Nat) : List tV → List Value → Prop
  | t :: ts, v :: vs => okV T κ num t v ∧ okL T κ num ts vs
  | [], [] => True
  | _, _ => False
theorem okL_get {T : cT} {κ : tK} {num : Nat} : ∀ (ts : List tV) (vs : List Value), okL T κ num ts vs → vs.length = ts.length ∧ ∀ (i : Nat) (t : tV), ts[i]? = some t → ∃ v, vs[i]? = some v ∧ okV T κ num t v
  | [], [], _ => ⟨rfl, fun i t h => by simp at h⟩
  | t :: ts, v :: vs, h => by
    obtain ⟨h1, h2⟩ := okL_get ts vs h.2
    refine ⟨by simp [h1], fun i t2 ht => ?_⟩
    match i with
    | 0 => exact ⟨v, rfl, by simp at ht; rw [← ht]; exact h.1⟩
    | i + 1 => exact h2 i t2 (by simpa using ht)
  | [], v :: vs, h => h.elim
  | t :: ts, [], h => h.elim
theorem okO_of {T : cT} {κ : tK} {ci num : Nat} {fs : List Value} (h : okL T κ num (tFs ci) fs) : okO T κ ci num fs := okL_get _ _ h
theorem raw_of {E : cE} {T : cT} {κ : tK} {L : List Nat} {f : pF} (hw : tW E T κ L f) {q : Nat} (hq : q ∉ L) : (κ q).1 = 0 := by
  by_cases h : (κ q).1 = 0
  · exact h
  · exact absurd (hw q h).1 hq
/-- a new object: raw -/
theorem t_new {ci N index : Nat} {C : String} {TT : u_T} (X : cX own p c cc args s m D E) (Y : pH D cCl A s.heap L f H locs) (S : tS E T F κ0 L0 f0 κ L f) (hA : ∀ q, s.heap.size ≤ q → A q) (hF0 : ∀ b, F b → b ∈ L0) (hin : ∀ w ∈ u_ws C TT N, w ∈ lw_tg) (ty : Nat → FieldType) (hty : ∀ k, k < N → parseFieldDescriptor (TT k).2.2.1 = some (ty k)) (hcl : Cond.classLink own index C ∈ lw_tg) (hinst : Cond.instantiable C N ∈ lw_tg) (hini : Cond.initialized C ∈ lw_tg) (hc : cCl[ci]? = some (C, TT, N)) {fs : List Value} (hfs : ∀ j, j < N → defaultValue (ty j) = vp_V fs j) (hcells : cells + 1 ≤ R.cells) (hslots : slots + N ≤ R.slots) (hdg : decode cc pc = .ok (.new index, 3))
    (kk : ∀ (q : Nat) (L1 : List Nat) (f1 : pF) (H1 : Heap), pH D cCl A s.heap L1 f1 H1 locs → tS E T F κ0 L0 f0 κ L1 f1 → tS E T (tFr κ L [] []) κ L f κ L1 f1 → q ∉ L0 → q ∈ L1 → (κ q).1 = 0 → f1 q = .inr (ci, fs) → (∀ b ∈ L, b ≠ q) → W p l e R s m args below meth c H1 locs (cells + 1) (slots + N) Q (F0 m (pc + 3) ls (.ref q :: rest))) : W p l e R s m args below meth c H locs cells slots Q (F0 m pc ls rest) := by
  refine q_new X.1 X.2.1 X.2.2.1 hin ty hty X.2.2.2.1 (X.2.2.1 _ hcl) (X.2.2.1 _ hinst) (X.2.2.1 _ hini) X.2.2.2.2 Y hA hc hfs hcells hslots hdg (fun q H1 hq Y1 => ?_)
  have hr := raw_of S.1 hq
  have hup : ∀ b ∈ L, va_up f q (.inr (ci, fs)) b = f b := fun b hb => q_ne (fun e1 => hq (e1 ▸ hb))
  have hW : tW E T κ (L ++ [q]) (va_up f q (.inr (ci, fs))) := fun b hb => by
    have h := S.1 b hb
    rw [hup b h.1]
    exact ⟨List.mem_append_left _ h.1, h.2⟩
  refine kk q _ _ H1 Y1 ⟨hW, fun b hb => List.mem_append_left _ (S.2.1 b hb), S.2.2.1, fun b hb => ?_⟩ ⟨hW, fun b hb => List.mem_append_left _ hb, fun _ _ => rfl, fun b hb => ⟨hup b hb.1, rfl⟩⟩ (fun h => hq (S.2.1 q h)) (List.mem_append_right _ (List.mem_singleton.mpr rfl)) hr q_up (fun b hb e1 => hq (e1 ▸ hb))
  rw [hup b (S.2.1 b (hF0 b hb))]
  exact S.2.2.2 b hb
theorem t_newB {N mx : Nat} {i : Int} (X : cX own p c cc args s m D E) (Y : pH D cCl A s.heap L f H locs) (S : tS E T F κ0 L0 f0 κ L f) (hA : ∀ q, s.heap.size ≤ q → A q) (hF0 : ∀ b, F b → b ∈ L0) (h0 : i = (N : Int)) (hN : N ≤ mx) (hmx : mx ≤ 100000) (hcells : cells + 1 ≤ R.cells) (hslots : slots + mx ≤ R.slots) (hdg : decode cc pc = .ok (.newarray .byte, 2))
    (kk : ∀ (q : Nat) (κ1 : tK) (L1 : List Nat) (f1 : pF) (H1 : Heap), pH D cCl A s.heap L1 f1 H1 locs → tS E T F κ0 L0 f0 κ1 L1 f1 → tS E T (tFr κ L [] []) κ L f κ1 L1 f1 → κ1 q = (1, N) → W p l e R s m args below meth c H1 locs (cells + 1) (slots + mx) Q (F0 m (pc + 2) ls (.ref q :: rest))) : W p l e R s m args below meth c H locs cells slots Q (F0 m pc ls (.int (iI i) :: rest)) := by
  subst h0
  rw [iI_nat (by omega) (by omega), Int.toNat_natCast]
  refine q_newa X.1 X.2.1 (atype := .byte) (ty := .byte) rfl ra_byte (X.2.2.1 _ ar_byte) X.2.2.2.2 0 (cE := E.1) rfl Y hA (N := N) (a0 := (N, .inl (fun _ => 0))) (fun cA => vz_byte cA N) (nI_pos (by omega)) (nI_clamp (by omega)) (show N * 1 ≤ 536870912 by omega) hcells (Nat.le_trans (Nat.add_le_add_left hN _) hslots) hdg (fun q H1 hq Y1 => ?_)
  refine W.widen (k := cells + 1) (n := slots + mx) (Nat.le_refl _) (Nat.add_le_add_left hN _) ?_
  obtain ⟨S1, hle⟩ := tS_new (k := (1, N)) (x := .inl (E.1, N, .inl (fun _ => 0))) S hq hF0 ⟨_, rfl, fB_0⟩
  refine kk q _ _ _ H1 Y1 S1 ⟨S1.1, fun b hb => List.mem_append_left _ hb, hle, fun b hb => ?_⟩ (va_up_self _ _ _)
  have e1 : b ≠ q := fun e1 => hq (e1 ▸ hb.1)
  exact ⟨q_ne e1, va_up_ne _ _ e1⟩
theorem t_newI {N mx cI : Nat} {i : Int} (hcI : cI = 2 ∨ cI = 3 ∨ cI = 4) (X : cX own p c cc args s m D E) (Y : pH D cCl A s.heap L f H locs) (S : tS E T F κ0 L0 f0 κ L f) (hA : ∀ q, s.heap.size ≤ q → A q) (hF0 : ∀ b, F b → b ∈ L0) (h0 : i = (N : Int)) (hN : N ≤ mx) (hmx : mx ≤ 100000) (hcells : cells + 1 ≤ R.cells) (hslots : slots + mx ≤ R.slots) (hdg : decode cc pc = .ok (.newarray .int, 2))
    (kk : ∀ (q : Nat) (κ1 : tK) (L1 : List Nat) (f1 : pF) (H1 : Heap), pH D cCl A s.heap L1 f1 H1 locs → tS E T F κ0 L0 f0 κ1 L1 f1 → tS E T (tFr κ L [] []) κ L f κ1 L1 f1 → κ1 q = (cI, N) → W p l e R s m args below meth c H1 locs (cells + 1) (slots + mx) Q (F0 m (pc + 2) ls (.ref q :: rest))) : W p l e R s m args below meth c H locs cells slots Q (F0 m pc ls (.int (iI i) :: rest)) := by
  subst h0
  rw [iI_nat (by omega) (by omega), Int.toNat_natCast]
  refine q_newa X.1 X.2.1 (atype := .int) (ty := .int) rfl ra_int (X.2.2.1 _ ar_int) X.2.2.2.2 1 (cE := E.2.1) rfl Y hA (N := N) (a0 := (N, .inl (fun _ => 0))) (fun cA => vz_int cA N) (nI_pos (by omega)) (nI_clamp (by omega)) (show N * 4 ≤ 536870912 by omega) hcells (Nat.le_trans (Nat.add_le_add_left hN _) hslots) hdg (fun q H1 hq Y1 => ?_)
  refine W.widen (k := cells + 1) (n := slots + mx) (Nat.le_refl _) (Nat.add_le_add_left hN _) ?_
  have ho : okE E T (va_up κ q (cI, N)) (cI, N) (.inl (E.2.1, N, .inl (fun _ => 0))) := by
    rcases hcI with rfl | rfl | rfl
    · exact ⟨_, rfl⟩
    · exact ⟨_, rfl, fun j => ⟨by decide, by decide⟩⟩
    · exact ⟨_, rfl, fun j => by decide⟩
  obtain ⟨S1, hle⟩ := tS_new (k := (cI, N)) (x := .inl (E.2.1, N, .inl (fun _ => 0))) S hq hF0 ho
  refine kk q _ _ _ H1 Y1 S1 ⟨S1.1, fun b hb => List.mem_append_left _ hb, hle, fun b hb => ?_⟩ (va_up_self _ _ _)
  have e1 : b ≠ q := fun e1 => hq (e1 ▸ hb.1)
  exact ⟨q_ne e1, va_up_ne _ _ e1⟩
end TROWS2
theorem t_size {E : cE} {T : cT} {F : Nat → Prop} {κ0 κ : tK} {L0 L : List Nat} {f0 f : pF} {a n : Nat} (S : tS E T F κ0 L0 f0 κ L f) (hk : κ a = (13, n)) : ∃ z : Int, gF f a 1 = .int (iI z) ∧ 0 ≤ z ∧ z ≤ (n : Int) := by
  obtain ⟨ha, fs, ef, ho⟩ := t_obj (ci := 3) S.1 hk
  exact (t_fld (k := 1) (t := (6, 0, 0)) ho rfl ef).2
/-- a row of objects that is filled up to m -/
def okP (κ : tK) (cA : ClassId) (n m c : Nat) (e : va_E) : Prop := ∃ g : Nat → Option Nat, e = .inl (cA, n, .inr (.inr (.inr (.inr g)))) ∧ ∀ j, j < m → ∃ a, g j = some a ∧ κ a = (c, 0)
theorem okP_le {κ κ' : tK} {cA : ClassId} {n m c : Nat} {e : va_E} (h : tLe κ κ') (ho : okP κ cA n m (c + 1) e) : okP κ' cA n m (c + 1) e :=
  ho.elim (fun g hg => ⟨g, hg.1, fun j hj => (hg.2 j hj).elim (fun a ha => ⟨a, ha.1, tLe_k h ha.2⟩)⟩)
section TROWS3
variable {p : Program} {l : Launch} {e : Env} {R : Room} {s : State} {m : MethodId} {args : Array Value} {below : List Frame} {meth : Method} {c : Code} {H : Heap} {locs : List Loc} {cells slots : Nat} {Q : State → Prop} {cc : ByteArray} {pc : Nat} {ls : Array Slot} {rest : List Value} {D : va_G} {E : cE} {T : cT} {A : Nat → Prop} {L L0 : List Nat} {f f0 : pF} {own : String} {κ κ0 : tK} {F : Nat → Prop} {a : Nat}
theorem t_aast {n mm ci t0 v : Nat} {cA : ClassId} {r : vw_C} {i : Int} (X : cX own p c cc args s m D E) (Y : pH D cCl A s.heap L f H locs) (S : tS E T F κ0 L0 f0 κ L f) (ha : a ∈ L) (hr : (κ a).1 = 0) (hO : okP κ cA n mm (ci + 10) (f a)) (ht : (cTy E)[t0]? = some (cA, .object r.1)) (hv : κ v = (ci + 10, 0)) (hc : cCl[ci]? = some r) (hi : i = (mm : Int)) (hm : mm < n) (hn : n ≤ 100000) (hF : ¬ F a) (hdg : decode cc pc = .ok (.aastore, 1))
    (kk : ∀ (f1 : pF) (H1 : Heap) (locs1 : List Loc), pH D cCl A s.heap L f1 H1 locs1 → tS E T F κ0 L0 f0 κ L f1 → tArr f f1 a → okP κ cA n (mm + 1) (ci + 10) (f1 a) → W p l e R s m args below meth c H1 locs1 cells slots Q (F0 m (pc + 1) ls rest)) : W p l e R s m args below meth c H locs cells slots Q (F0 m pc ls (.ref v :: .int (iI i) :: .ref a :: rest)) := by
  obtain ⟨g, ef, hg⟩ := hO
  obtain ⟨hvL, fs, ev, -⟩ := t_obj S.1 hv
  subst hi
  refine q_aast X.1 X.2.1 X.2.2.2.2 Y t0 ci ha ef ht hvL ev hc (iI_in (by omega) (by omega) (by omega)) hdg (fun H1 locs1 Y1 => ?_)
  refine kk _ H1 locs1 Y1 (tS_up S hF (fun h => absurd hr h)) (fun b hb => q_ne hb) ⟨_, q_up, fun j hj => ?_⟩
  rw [iI_cl (by omega) (by omega), Int.toNat_natCast]
  by_cases e1 : j = mm
  · exact ⟨v, by rw [e1, va_up_self], hv⟩
  · rw [va_up_ne _ _ e1]; exact hg j (by omega)
theorem t_anew {index N t0 c2 : Nat} {C : String} {cE : ClassId} {i : Int} (X : cX own p c cc args s m D E) (Y : pH D cCl A s.heap L f H locs) (S : tS E T F κ0 L0 f0 κ L f) (hA : ∀ q, s.heap.size ≤ q → A q) (hF0 : ∀ b, F b → b ∈ L0) (hcl : Cond.classLink own index C ∈ lw_tg) (hover : va_AO C s) (hj : (cTy E)[t0]? = some (cE, .object C)) (h0 : i = (N : Int)) (hN : N ≤ 100000) (hcells : cells + 1 ≤ R.cells) (hslots : slots + N ≤ R.slots) (hdg : decode cc pc = .ok (.anewarray index, 3))
    (kk : ∀ (q : Nat) (L1 : List Nat) (f1 : pF) (H1 : Heap), pH D cCl A s.heap L1 f1 H1 locs → tS E T F κ0 L0 f0 κ L1 f1 → tS E T (tFr κ L [] []) κ L f κ L1 f1 → q ∉ L0 → q ∈ L1 → (κ q).1 = 0 → okP κ cE N 0 c2 (f1 q) → (∀ b ∈ L, b ≠ q) → W p l e R s m args below meth c H1 locs (cells + 1) (slots + N) Q (F0 m (pc + 3) ls (.ref q :: rest))) : W p l e R s m args below meth c H locs cells slots Q (F0 m pc ls (.int (iI i) :: rest)) := by
  subst h0
  rw [iI_nat (by omega) (by omega), Int.toNat_natCast]
  refine q_anew X.1 X.2.1 X.2.2.2.1 (X.2.2.1 _ hcl) hover X.2.2.2.2 t0 hj Y hA (nI_pos (by omega)) (nI_clamp (by omega)) (by omega) hcells hslots hdg (fun q H1 hq Y1 => ?_)
  have hr := raw_of S.1 hq
  have hup : ∀ (x : va_E) b, b ∈ L → va_up f q x b = f b := fun x b hb => q_ne (fun e1 => hq (e1 ▸ hb))
  have hW : ∀ x : va_E, tW E T κ (L ++ [q]) (va_up f q x) := fun x b hb => by
    have h := S.1 b hb
    rw [hup x b h.1]
    exact ⟨List.mem_append_left _ h.1, h.2⟩
  refine kk q _ _ H1 Y1 ⟨hW _, fun b hb => List.mem_append_left _ (S.2.1 b hb), S.2.2.1, fun b hb => ?_⟩ ⟨hW _, fun b hb => List.mem_append_left _ hb, fun _ _ => rfl, fun b hb => ⟨hup _ b hb.1, rfl⟩⟩ (fun h => hq (S.2.1 q h)) (List.mem_append_right _ (List.mem_singleton.mpr rfl)) hr ⟨_, q_up, fun j hj => absurd hj (Nat.not_lt_zero j)⟩ (fun b hb e1 => hq (e1 ▸ hb))
  rw [hup _ b (S.2.1 b (hF0 b hb))]
  exact S.2.2.2 b hb
/-- a filled row of objects gets its kind -/
theorem t_arrkind {q n c1 : Nat} (S : tS E T F κ0 L0 f0 κ L f) (hq : q ∈ L) (hr : (κ q).1 = 0) (hq0 : q ∉ L0) (hF0 : ∀ b, F b → b ∈ L0) (hk0 : (κ0 q).1 = 0) (ho : okE E T (va_up κ q (c1, n)) (c1, n) (f q)) : tS E T F κ0 L0 f0 (va_up κ q (c1, n)) L f ∧ tS E T (tFr κ L [] [q]) κ L f (va_up κ q (c1, n)) L f := by
  obtain ⟨S1, hle⟩ := tS_kind (k := (c1, n)) S hq hr hk0 (fun h => hq0 (hF0 q h)) ho
  refine ⟨S1, S1.1, fun b hb => hb, hle, fun b hb => ⟨rfl, va_up_ne _ _ (fun e1 => hb.2.2 (by rw [e1]; exact List.mem_singleton.mpr rfl))⟩⟩
end TROWS3
theorem raw0_of {E : cE} {T : cT} {κ : tK} {L : List Nat} {f : pF} (hw : tW E T κ L f) {q : Nat} (hq : q ∉ L) : (κ q).1 = 0 := raw_of hw hq
