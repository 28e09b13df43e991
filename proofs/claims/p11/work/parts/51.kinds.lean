/-! Kinds of cells: k a = (code, number). 0: raw; 1: bytes; 2: ints; 3: ints of 0 .. 255; 4: ints of at most 40; 5 .. 8: rows of Principal, Agent, Session, Ticket; c + 10: an object of the class c. -/
abbrev tK : Type := Nat → Nat × Nat
abbrev tV : Type := Nat × Int × Int
def tKey (T : cT) (κ : tK) (a n : Nat) : Prop := (κ a = (1, n) ∧ (n = 16 ∨ n = 32)) ∨ (a = T.1 0 ∧ n = 0)
def tSrc (T : cT) (κ : tK) (a n : Nat) : Prop := κ a = (1, n) ∨ (a = T.1 0 ∧ n = 0)
theorem tKey_src {T : cT} {κ : tK} {a n : Nat} (h : tKey T κ a n) : tSrc T κ a n := h.elim (fun h => Or.inl h.1) Or.inr
theorem tKey_n {T : cT} {κ : tK} {a n : Nat} (h : tKey T κ a n) : n = 0 ∨ n = 16 ∨ n = 32 := h.elim (fun h => Or.inr h.2) (fun h => Or.inl h.2)
theorem tKey_no {T : cT} {κ : tK} : tKey T κ (T.1 0) 0 := Or.inr ⟨rfl, rfl⟩
theorem tSrc_no {T : cT} {κ : tK} : tSrc T κ (T.1 0) 0 := Or.inr ⟨rfl, rfl⟩
/-- a field's value: 0 a number within, 1 a long, 2 a cell of a kind, 3 the same, its number at most, 4 a key, 5 bytes of the object's number, 6 a number up to it -/
def okV (T : cT) (κ : tK) (num : Nat) (t : tV) (v : Value) : Prop := match t.1 with
  | 0 => ∃ z : Int, v = .int (iI z) ∧ t.2.1 ≤ z ∧ z ≤ t.2.2
  | 1 => ∃ x : Int64, v = .long x
  | 2 => ∃ a : Nat, v = .ref a ∧ κ a = (t.2.1.toNat, t.2.2.toNat)
  | 3 => ∃ a n : Nat, v = .ref a ∧ κ a = (t.2.1.toNat, n) ∧ (n : Int) ≤ t.2.2
  | 4 => ∃ a n : Nat, v = .ref a ∧ tKey T κ a n
  | 5 => ∃ a : Nat, v = .ref a ∧ κ a = (1, num)
  | 6 => ∃ z : Int, v = .int (iI z) ∧ 0 ≤ z ∧ z ≤ (num : Int)
  | _ => False
def tFs (ci : Nat) : List tV := match ci with
  | 0 => [(2, 21, 0), (2, 13, 4000), (2, 13, 12288), (2, 13, 40), (2, 5, 12), (2, 15, 0), (2, 14, 0), (2, 6, 4), (2, 7, 8)]
  | 1 => [(2, 3, 256), (2, 3, 256), (2, 3, 240), (0, 0, 14), (2, 3, 16), (2, 3, 16), (2, 1, 16)]
  | 2 => [(2, 21, 0), (2, 8, 8), (0, 0, 1), (0, -2147483648, 2147483647), (2, 13, 40), (4, 0, 0), (4, 0, 0), (0, -2147483648, 2147483647), (0, -2147483648, 2147483647), (0, -2147483648, 2147483647), (0, 0, 1), (0, -2147483648, 2147483647), (2, 13, 40), (2, 13, 40), (4, 0, 0), (0, -2147483648, 2147483647), (0, -2147483648, 2147483647), (1, 0, 0), (4, 0, 0), (1, 0, 0), (0, 0, 1)]
  | 3 => [(5, 0, 0), (6, 0, 0)]
  | 4 => [(2, 21, 0), (2, 15, 0), (2, 5, 12), (2, 13, 4000), (2, 13, 12288), (2, 18, 0), (0, 0, 1), (0, 0, 1), (0, -1, 20200), (0, -2147483648, 2147483647), (2, 17, 0), (2, 17, 0), (0, -2147483648, 2147483647), (0, -2147483648, 2147483647), (0, -2147483648, 2147483647), (0, -2147483648, 2147483647)]
  | 5 => [(2, 21, 0), (2, 13, 4000), (2, 13, 4000), (4, 0, 0), (0, -2147483648, 2147483647)]
  | 6 => [(2, 2, 80), (2, 1, 64), (2, 2, 5), (2, 2, 5), (2, 2, 5), (0, 0, 64), (0, -2147483648, 2147483647), (2, 1, 20)]
  | 7 => [(2, 13, 40), (2, 18, 0), (0, 0, 1), (0, -2147483648, 2147483647), (0, -2147483648, 2147483647), (4, 0, 0), (4, 0, 0), (4, 0, 0), (4, 0, 0), (0, -2147483648, 2147483647), (0, -2147483648, 2147483647), (0, -2147483648, 2147483647), (0, -2147483648, 2147483647)]
  | 8 => [(2, 1, 1280), (2, 4, 32), (2, 2, 32), (2, 2, 32), (0, 0, 32)]
  | 9 => [(2, 21, 0), (0, 0, 1), (0, -1, 3), (4, 0, 0), (4, 0, 0), (0, -2147483648, 2147483647), (0, -2147483648, 2147483647), (1, 0, 0), (2, 2, 2), (2, 2, 2), (2, 1, 4)]
  | 10 => [(3, 13, 4000), (2, 13, 40), (0, -2147483648, 2147483647), (0, 0, 1), (4, 0, 0), (0, -2147483648, 2147483647), (0, -2147483648, 2147483647), (0, -2147483648, 2147483647), (0, -2147483648, 2147483647), (0, -2147483648, 2147483647)]
  | 11 => [(0, -2147483648, 2147483647), (2, 13, 6144), (2, 13, 512), (2, 16, 0), (2, 11, 0), (2, 1, 64), (0, 0, 64), (2, 1, 20), (0, 0, 20), (0, -2147483648, 2147483647), (2, 1, 32), (2, 1, 20), (2, 13, 64)]
  | _ => []
def okO (T : cT) (κ : tK) (ci num : Nat) (fs : List Value) : Prop := fs.length = (tFs ci).length ∧ ∀ (i : Nat) (t : tV), (tFs ci)[i]? = some t → ∃ v, fs[i]? = some v ∧ okV T κ num t v
def okR (κ : tK) (cA : ClassId) (n c : Nat) (e : va_E) : Prop := ∃ g : Nat → Option Nat, e = .inl (cA, n, .inr (.inr (.inr (.inr g)))) ∧ ∀ j, j < n → ∃ a, g j = some a ∧ κ a = (c, 0)
def okE (E : cE) (T : cT) (κ : tK) (k : Nat × Nat) (e : va_E) : Prop := match k.1 with
  | 0 => True
  | 1 => ∃ g, e = .inl (E.1, k.2, .inl g) ∧ fB g
  | 2 => ∃ g, e = .inl (E.2.1, k.2, .inl g)
  | 3 => ∃ g : Nat → Int32, e = .inl (E.2.1, k.2, .inl g) ∧ ∀ j, 0 ≤ (g j).toInt ∧ (g j).toInt ≤ 255
  | 4 => ∃ g : Nat → Int32, e = .inl (E.2.1, k.2, .inl g) ∧ ∀ j, (g j).toInt ≤ 40
  | 5 => okR κ E.2.2.1 k.2 17 e
  | 6 => okR κ E.2.2.2.1 k.2 12 e
  | 7 => okR κ E.2.2.2.2.1 k.2 19 e
  | 8 => okR κ E.2.2.2.2.2 k.2 20 e
  | 9 => False
  | c + 10 => ∃ fs, e = .inr (c, fs) ∧ okO T κ c k.2 fs
def tLe (κ κ' : tK) : Prop := ∀ b, (κ b).1 ≠ 0 → κ' b = κ b
theorem tLe_k {κ κ' : tK} (h : tLe κ κ') {a c n : Nat} (hk : κ a = (c + 1, n)) : κ' a = (c + 1, n) := (h a (by rw [hk]; exact Nat.succ_ne_zero c)).trans hk
theorem tLe_key {T : cT} {κ κ' : tK} (h : tLe κ κ') {a n : Nat} (hk : tKey T κ a n) : tKey T κ' a n := hk.elim (fun h2 => Or.inl ⟨tLe_k h h2.1, h2.2⟩) Or.inr
theorem tLe_src {T : cT} {κ κ' : tK} (h : tLe κ κ') {a n : Nat} (hk : tSrc T κ a n) : tSrc T κ' a n := hk.elim (fun h2 => Or.inl (tLe_k h h2)) Or.inr
def tVok (t : tV) : Prop := (t.1 = 2 ∨ t.1 = 3) → t.2.1.toNat ≠ 0
theorem okV_le {T : cT} {κ κ' : tK} {num : Nat} {t : tV} {v : Value} (h : tLe κ κ') (ht : tVok t) (hv : okV T κ num t v) : okV T κ' num t v := by
  obtain ⟨c, lo, hi⟩ := t
  unfold okV at hv ⊢
  match c with
  | 0 => exact hv
  | 1 => exact hv
  | 2 => exact hv.elim (fun a ha => ⟨a, ha.1, (h a (by rw [ha.2]; exact ht (Or.inl rfl))).trans ha.2⟩)
  | 3 => exact hv.elim (fun a ha => ha.elim (fun n hn => ⟨a, n, hn.1, (h a (by rw [hn.2.1]; exact ht (Or.inr rfl))).trans hn.2.1, hn.2.2⟩))
  | 4 => exact hv.elim (fun a ha => ha.elim (fun n hn => ⟨a, n, hn.1, tLe_key h hn.2⟩))
  | 5 => exact hv.elim (fun a ha => ⟨a, ha.1, tLe_k h ha.2⟩)
  | 6 => exact hv
  | c + 7 => exact hv
theorem tFs_ok : ∀ ci, ci < 12 → ∀ t ∈ tFs ci, tVok t := by
  unfold tVok
  decide +kernel
theorem tFs_no {ci : Nat} (h : ¬ ci < 12) : tFs ci = [] := by
  unfold tFs
  match ci, h with
  | n + 12, _ => rfl
  | 0, h | 1, h | 2, h | 3, h | 4, h | 5, h | 6, h | 7, h | 8, h | 9, h | 10, h | 11, h => exact absurd (by decide) h
theorem okO_le {T : cT} {κ κ' : tK} {ci num : Nat} {fs : List Value} (h : tLe κ κ') (ho : okO T κ ci num fs) : okO T κ' ci num fs := by
  refine ⟨ho.1, fun i t ht => ?_⟩
  obtain ⟨v, h1, h2⟩ := ho.2 i t ht
  refine ⟨v, h1, okV_le h ?_ h2⟩
  by_cases hc : ci < 12
  · exact tFs_ok ci hc t (List.mem_of_getElem? ht)
  · rw [tFs_no hc] at ht; exact absurd ht (by simp)
theorem okR_le {κ κ' : tK} {cA : ClassId} {n c : Nat} {e : va_E} (h : tLe κ κ') (ho : okR κ cA n (c + 1) e) : okR κ' cA n (c + 1) e :=
  ho.elim (fun g hg => ⟨g, hg.1, fun j hj => (hg.2 j hj).elim (fun a ha => ⟨a, ha.1, tLe_k h ha.2⟩)⟩)
theorem okE_le {E : cE} {T : cT} {κ κ' : tK} {k : Nat × Nat} {e : va_E} (h : tLe κ κ') (ho : okE E T κ k e) : okE E T κ' k e := by
  obtain ⟨c, n⟩ := k
  unfold okE at ho ⊢
  match c with
  | 0 => exact ho
  | 1 => exact ho
  | 2 => exact ho
  | 3 => exact ho
  | 4 => exact ho
  | 5 => exact okR_le h ho
  | 6 => exact okR_le h ho
  | 7 => exact okR_le h ho
  | 8 => exact okR_le h ho
  | 9 => exact ho
  | c + 10 => exact ho.elim (fun fs hf => ⟨fs, hf.1, okO_le h hf.2⟩)
def tW (E : cE) (T : cT) (κ : tK) (L : List Nat) (f : pF) : Prop := ∀ a, (κ a).1 ≠ 0 → a ∈ L ∧ okE E T κ (κ a) (f a)
/-- what a method leaves alone: cells of L of other kinds than M, but those of x -/
def tFr (κ : tK) (L M x : List Nat) (b : Nat) : Prop := b ∈ L ∧ (κ b).1 ∉ M ∧ b ∉ x
def tS (E : cE) (T : cT) (F : Nat → Prop) (κ0 : tK) (L0 : List Nat) (f0 : pF) (κ : tK) (L : List Nat) (f : pF) : Prop := tW E T κ L f ∧ (∀ b ∈ L0, b ∈ L) ∧ tLe κ0 κ ∧ ∀ b, F b → f b = f0 b ∧ κ b = κ0 b
theorem tS_rf {E : cE} {T : cT} {F : Nat → Prop} {κ : tK} {L : List Nat} {f : pF} (h : tW E T κ L f) : tS E T F κ L f κ L f := ⟨h, fun _ h => h, fun _ _ => rfl, fun _ _ => ⟨rfl, rfl⟩⟩
theorem tS_call {E : cE} {T : cT} {κ0 κ κ' : tK} {L0 L L' M Mc x : List Nat} {f0 f f' : pF} (S : tS E T (tFr κ0 L0 M x) κ0 L0 f0 κ L f) (S2 : tS E T (tFr κ L Mc []) κ L f κ' L' f') (hM : ∀ c ∈ Mc, c ∈ M) : tS E T (tFr κ0 L0 M x) κ0 L0 f0 κ' L' f' := by
  refine ⟨S2.1, fun b hb => S2.2.1 b (S.2.1 b hb), fun b hb => ?_, fun b hb => ?_⟩
  · have h1 := S.2.2.1 b hb
    exact (S2.2.2.1 b (by rw [h1]; exact hb)).trans h1
  · have h1 := S.2.2.2 b hb
    have h2 := S2.2.2.2 b ⟨S.2.1 b hb.1, by rw [h1.2]; exact fun h => hb.2.1 (hM _ h), by simp⟩
    exact ⟨h2.1.trans h1.1, h2.2.trans h1.2⟩
/-- a call of a constructor: its object is none of ours that must stay -/
theorem tS_mk {E : cE} {T : cT} {κ0 κ κ' : tK} {L0 L L' M Mc x : List Nat} {f0 f f' : pF} {q : Nat} (S : tS E T (tFr κ0 L0 M x) κ0 L0 f0 κ L f) (S2 : tS E T (tFr κ L Mc [q]) κ L f κ' L' f') (hM : ∀ c ∈ Mc, c ∈ M) (hq : q ∉ L0) : tS E T (tFr κ0 L0 M x) κ0 L0 f0 κ' L' f' := by
  refine ⟨S2.1, fun b hb => S2.2.1 b (S.2.1 b hb), fun b hb => ?_, fun b hb => ?_⟩
  · have h1 := S.2.2.1 b hb
    exact (S2.2.2.1 b (by rw [h1]; exact hb)).trans h1
  · have h1 := S.2.2.2 b hb
    have h2 := S2.2.2.2 b ⟨S.2.1 b hb.1, by rw [h1.2]; exact fun h => hb.2.1 (hM _ h), by simp only [List.mem_singleton]; exact fun h => hq (h ▸ hb.1)⟩
    exact ⟨h2.1.trans h1.1, h2.2.trans h1.2⟩
/-- one cell is written -/
theorem tS_up {E : cE} {T : cT} {F : Nat → Prop} {κ0 κ : tK} {L0 L : List Nat} {f0 f : pF} {a : Nat} {x : va_E} (S : tS E T F κ0 L0 f0 κ L f) (hm : ¬ F a) (ho : (κ a).1 ≠ 0 → okE E T κ (κ a) x) : tS E T F κ0 L0 f0 κ L (va_up f a x) := by
  refine ⟨fun b hb => ?_, S.2.1, S.2.2.1, fun b hb => ?_⟩
  · have h := S.1 b hb
    by_cases e : b = a
    · subst e; rw [q_up]; exact ⟨h.1, ho hb⟩
    · rw [q_ne e]; exact h
  · have h := S.2.2.2 b hb
    have e : b ≠ a := fun e => hm (e ▸ hb)
    rw [q_ne e]; exact h
/-- a new cell, of a kind or raw -/
theorem tS_new {E : cE} {T : cT} {F : Nat → Prop} {κ0 κ : tK} {L0 L : List Nat} {f0 f : pF} {q : Nat} {k : Nat × Nat} {x : va_E} (S : tS E T F κ0 L0 f0 κ L f) (hq : q ∉ L) (hF : ∀ b, F b → b ∈ L0) (ho : okE E T (va_up κ q k) k x) : tS E T F κ0 L0 f0 (va_up κ q k) (L ++ [q]) (va_up f q x) ∧ tLe κ (va_up κ q k) := by
  have hle : tLe κ (va_up κ q k) := fun b hb => va_up_ne _ _ (fun e => hq (e ▸ (S.1 b hb).1))
  refine ⟨⟨fun b hb => ?_, fun b hb => List.mem_append_left _ (S.2.1 b hb), fun b hb => ?_, fun b hb => ?_⟩, hle⟩
  · by_cases e : b = q
    · subst e; rw [va_up_self, q_up]; exact ⟨List.mem_append_right _ (List.mem_singleton.mpr rfl), ho⟩
    · rw [va_up_ne _ _ e] at hb ⊢; rw [q_ne e]; have h := S.1 b hb; exact ⟨List.mem_append_left _ h.1, okE_le hle h.2⟩
  · have h1 := S.2.2.1 b hb
    exact (hle b (by rw [h1]; exact hb)).trans h1
  · have e : b ≠ q := fun e => hq (e ▸ S.2.1 b (hF b hb))
    rw [q_ne e, va_up_ne _ _ e]; exact S.2.2.2 b hb
/-- a raw cell gets its kind -/
theorem tS_kind {E : cE} {T : cT} {F : Nat → Prop} {κ0 κ : tK} {L0 L : List Nat} {f0 f : pF} {q : Nat} {k : Nat × Nat} (S : tS E T F κ0 L0 f0 κ L f) (hq : q ∈ L) (hr : (κ q).1 = 0) (h0 : (κ0 q).1 = 0) (hF : ¬ F q) (ho : okE E T (va_up κ q k) k (f q)) : tS E T F κ0 L0 f0 (va_up κ q k) L f ∧ tLe κ (va_up κ q k) := by
  have hle : tLe κ (va_up κ q k) := fun b hb => va_up_ne _ _ (fun e => hb (by rw [e]; exact hr))
  refine ⟨⟨fun b hb => ?_, S.2.1, fun b hb => ?_, fun b hb => ?_⟩, hle⟩
  · by_cases e : b = q
    · subst e; rw [va_up_self]; exact ⟨hq, ho⟩
    · rw [va_up_ne _ _ e] at hb ⊢; have h := S.1 b hb; exact ⟨h.1, okE_le hle h.2⟩
  · have h1 := S.2.2.1 b hb
    exact (hle b (by rw [h1]; exact hb)).trans h1
  · have e : b ≠ q := fun e => hF (e ▸ hb)
    rw [va_up_ne _ _ e]; exact S.2.2.2 b hb
/-- reads -/
def gF (f : pF) (a k : Nat) : Value := match f a with
  | .inr o => o.2.getD k .null
  | .inl _ => .null
def gA (f : pF) (a j : Nat) : Value := match f a with
  | .inl (_, _, .inr (.inr (.inr (.inr g)))) => va_rf (g j)
  | _ => .null
theorem t_obj {E : cE} {T : cT} {κ : tK} {L : List Nat} {f : pF} (hw : tW E T κ L f) {a ci num : Nat} (hk : κ a = (ci + 10, num)) : a ∈ L ∧ ∃ fs, f a = .inr (ci, fs) ∧ okO T κ ci num fs := by
  have h := hw a (by rw [hk]; exact Nat.succ_ne_zero _)
  rw [hk] at h
  exact h
theorem t_fld {T : cT} {κ : tK} {ci num k : Nat} {fs : List Value} {t : tV} (ho : okO T κ ci num fs) (ht : (tFs ci)[k]? = some t) {f : pF} {a : Nat} (ef : f a = .inr (ci, fs)) : fs[k]? = some (gF f a k) ∧ okV T κ num t (gF f a k) := by
  obtain ⟨v, h1, h2⟩ := ho.2 k t ht
  have e : gF f a k = v := by unfold gF; rw [ef]; simp [List.getD, h1]
  rw [e]; exact ⟨h1, h2⟩
theorem tk_set {T : cT} {κ : tK} {ci num k : Nat} {fs : List Value} {t : tV} {v : Value} (ho : okO T κ ci num fs) (ht : (tFs ci)[k]? = some t) (hv : okV T κ num t v) : okO T κ ci num (fs.set k v) := by
  refine ⟨by rw [List.length_set]; exact ho.1, fun i t2 h2 => ?_⟩
  obtain ⟨w, h3, h4⟩ := ho.2 i t2 h2
  by_cases e : i = k
  · subst e
    have h5 : t2 = t := Option.some.inj (h2.symm.trans ht)
    refine ⟨v, ?_, h5 ▸ hv⟩
    rw [List.getElem?_set_self' ]; rw [h3]; rfl
  · exact ⟨w, by rw [List.getElem?_set_ne (fun h => e h.symm)]; exact h3, h4⟩
def tPut (f f' : pF) (a k : Nat) (v : Value) : Prop := (∀ b, b ≠ a → f' b = f b) ∧ gF f' a k = v ∧ ∀ j, j ≠ k → gF f' a j = gF f a j
def tArr (f f' : pF) (a : Nat) : Prop := ∀ b, b ≠ a → f' b = f b
theorem tPut_of {f : pF} {a k ci : Nat} {fs : List Value} {v : Value} (ef : f a = .inr (ci, fs)) (hl : k < fs.length) : tPut f (va_up f a (.inr (ci, fs.set k v))) a k v := by
  refine ⟨fun b hb => q_ne hb, ?_, fun j hj => ?_⟩
  · unfold gF; rw [q_up]; simp [List.getD, hl]
  · unfold gF; rw [q_up, ef]; simp [List.getD, List.getElem?_set_ne (fun h => hj h.symm)]
theorem gF_put {f f' : pF} {a k b j : Nat} {v : Value} (h : tPut f f' a k v) (hn : b ≠ a ∨ j ≠ k) : gF f' b j = gF f b j := by
  by_cases e : b = a
  · subst e; exact h.2.2 j (hn.elim (fun h => absurd rfl h) id)
  · unfold gF; rw [h.1 b e]
theorem gF_same {f f' : pF} {b : Nat} (h : f' b = f b) (j : Nat) : gF f' b j = gF f b j := by unfold gF; rw [h]
theorem k_ne {κ : tK} {a b c n c2 n2 : Nat} (ha : κ a = (c, n)) (hb : κ b = (c2, n2)) (h : c ≠ c2) : a ≠ b := by
  intro e1
  rw [e1, hb] at ha
  exact h (congrArg Prod.fst ha).symm
