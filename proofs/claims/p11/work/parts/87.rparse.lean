/-! What the reference reads of its bytes: elements, numbers, times, rows, sequences. -/
def sg (m : Nat → Int32) (i : Int) : Int := (m i.toNat).toInt
def gb (m : Nat → Int32) (i : Int) : Int := (m i.toNat).toInt % 256
theorem gb_rng (m : Nat → Int32) (i : Int) : 0 ≤ gb m i ∧ gb m i ≤ 255 := by unfold gb; omega
def elI (m : Nat → Int32) (a b : Int) : Int :=
  if b < a + 2 then -1 else if gb m (a + 1) ≤ 127 then (if b - (a + 2) < gb m (a + 1) then -1 else a + 2)
  else if gb m (a + 1) = 129 then (if b < a + 3 ∨ gb m (a + 2) < 128 ∨ b - (a + 3) < gb m (a + 2) then -1 else a + 3)
  else if gb m (a + 1) = 130 then (if b < a + 4 ∨ gb m (a + 2) = 0 ∨ b - (a + 4) < gb m (a + 2) * 256 + gb m (a + 3) then -1 else a + 4)
  else if gb m (a + 1) = 131 then (if b < a + 5 ∨ gb m (a + 2) = 0 ∨ b - (a + 5) < (gb m (a + 2) * 256 + gb m (a + 3)) * 256 + gb m (a + 4) then -1 else a + 5)
  else -1
def elN (m : Nat → Int32) (a : Int) : Int := if gb m (a + 1) ≤ 127 then gb m (a + 1) else if gb m (a + 1) = 129 then gb m (a + 2) else if gb m (a + 1) = 130 then gb m (a + 2) * 256 + gb m (a + 3) else (gb m (a + 2) * 256 + gb m (a + 3)) * 256 + gb m (a + 4)
def elE (m : Nat → Int32) (a b : Int) : Int := if elI m a b < 0 then -1 else elI m a b + elN m a
theorem el_cases (m : Nat → Int32) {a b : Int} (ha : 0 ≤ a ∨ b < a + 2) :
    (elI m a b = -1 ∧ elE m a b = -1 ∧ (b < a + 2 ∨ (gb m (a + 1) ≤ 127 ∧ b - (a + 2) < gb m (a + 1)) ∨ gb m (a + 1) = 128 ∨ 132 ≤ gb m (a + 1) ∨ (gb m (a + 1) = 129 ∧ (b < a + 3 ∨ gb m (a + 2) < 128 ∨ b - (a + 3) < gb m (a + 2))) ∨ (gb m (a + 1) = 130 ∧ (b < a + 4 ∨ gb m (a + 2) = 0 ∨ b - (a + 4) < gb m (a + 2) * 256 + gb m (a + 3))) ∨ (gb m (a + 1) = 131 ∧ (b < a + 5 ∨ gb m (a + 2) = 0 ∨ b - (a + 5) < (gb m (a + 2) * 256 + gb m (a + 3)) * 256 + gb m (a + 4))))) ∨
    (a + 2 ≤ b ∧ ((gb m (a + 1) ≤ 127 ∧ gb m (a + 1) ≤ b - (a + 2) ∧ elI m a b = a + 2 ∧ elE m a b = a + 2 + gb m (a + 1)) ∨ (gb m (a + 1) = 129 ∧ a + 3 ≤ b ∧ 128 ≤ gb m (a + 2) ∧ gb m (a + 2) ≤ b - (a + 3) ∧ elI m a b = a + 3 ∧ elE m a b = a + 3 + gb m (a + 2)) ∨ (gb m (a + 1) = 130 ∧ a + 4 ≤ b ∧ gb m (a + 2) ≠ 0 ∧ gb m (a + 2) * 256 + gb m (a + 3) ≤ b - (a + 4) ∧ elI m a b = a + 4 ∧ elE m a b = a + 4 + (gb m (a + 2) * 256 + gb m (a + 3))) ∨ (gb m (a + 1) = 131 ∧ a + 5 ≤ b ∧ gb m (a + 2) ≠ 0 ∧ (gb m (a + 2) * 256 + gb m (a + 3)) * 256 + gb m (a + 4) ≤ b - (a + 5) ∧ elI m a b = a + 5 ∧ elE m a b = a + 5 + ((gb m (a + 2) * 256 + gb m (a + 3)) * 256 + gb m (a + 4))))) := by
  have h1 := gb_rng m (a + 1)
  have h2 := gb_rng m (a + 2)
  have h3 := gb_rng m (a + 3)
  have h4 := gb_rng m (a + 4)
  unfold elE elN elI
  generalize gb m (a + 1) = g1 at *
  generalize gb m (a + 2) = g2 at *
  generalize gb m (a + 3) = g3 at *
  generalize gb m (a + 4) = g4 at *
  by_cases c1 : b < a + 2
  · rw [if_pos c1, if_pos (show (-1 : Int) < 0 by decide)]; exact .inl ⟨rfl, rfl, .inl c1⟩
  · have c0 : a + 2 ≤ b := by omega
    by_cases c2 : g1 ≤ 127
    · by_cases c3 : b - (a + 2) < g1
      · rw [if_neg c1, if_pos c2, if_pos c2, if_pos c3, if_pos (show (-1 : Int) < 0 by decide)]; exact .inl ⟨rfl, rfl, .inr (.inl ⟨c2, c3⟩)⟩
      · rw [if_neg c1, if_pos c2, if_pos c2, if_neg c3, if_neg (show ¬ a + 2 < 0 by omega)]; exact .inr ⟨c0, .inl ⟨c2, by omega, rfl, rfl⟩⟩
    · by_cases c4 : g1 = 129
      · by_cases c3 : b < a + 3 ∨ g2 < 128 ∨ b - (a + 3) < g2
        · rw [if_neg c1, if_neg c2, if_neg c2, if_pos c4, if_pos c4, if_pos c3, if_pos (show (-1 : Int) < 0 by decide)]; exact .inl ⟨rfl, rfl, .inr (.inr (.inr (.inr (.inl ⟨c4, c3⟩))))⟩
        · rw [if_neg c1, if_neg c2, if_neg c2, if_pos c4, if_pos c4, if_neg c3, if_neg (show ¬ a + 3 < 0 by omega)]; exact .inr ⟨c0, .inr (.inl ⟨c4, by omega, by omega, by omega, rfl, rfl⟩)⟩
      · by_cases c5 : g1 = 130
        · by_cases c3 : b < a + 4 ∨ g2 = 0 ∨ b - (a + 4) < g2 * 256 + g3
          · rw [if_neg c1, if_neg c2, if_neg c2, if_neg c4, if_neg c4, if_pos c5, if_pos c5, if_pos c3, if_pos (show (-1 : Int) < 0 by decide)]; exact .inl ⟨rfl, rfl, .inr (.inr (.inr (.inr (.inr (.inl ⟨c5, c3⟩)))))⟩
          · rw [if_neg c1, if_neg c2, if_neg c2, if_neg c4, if_neg c4, if_pos c5, if_pos c5, if_neg c3, if_neg (show ¬ a + 4 < 0 by omega)]; exact .inr ⟨c0, .inr (.inr (.inl ⟨c5, by omega, fun h => c3 (.inr (.inl h)), by omega, rfl, rfl⟩))⟩
        · by_cases c6 : g1 = 131
          · by_cases c3 : b < a + 5 ∨ g2 = 0 ∨ b - (a + 5) < (g2 * 256 + g3) * 256 + g4
            · rw [if_neg c1, if_neg c2, if_neg c2, if_neg c4, if_neg c4, if_neg c5, if_neg c5, if_pos c6, if_pos c3, if_pos (show (-1 : Int) < 0 by decide)]; exact .inl ⟨rfl, rfl, .inr (.inr (.inr (.inr (.inr (.inr ⟨c6, c3⟩)))))⟩
            · rw [if_neg c1, if_neg c2, if_neg c2, if_neg c4, if_neg c4, if_neg c5, if_neg c5, if_pos c6, if_neg c3, if_neg (show ¬ a + 5 < 0 by omega)]; exact .inr ⟨c0, .inr (.inr (.inr ⟨c6, by omega, fun h => c3 (.inr (.inl h)), by omega, rfl, rfl⟩))⟩
          · rw [if_neg c1, if_neg c2, if_neg c2, if_neg c4, if_neg c4, if_neg c5, if_neg c5, if_neg c6, if_pos (show (-1 : Int) < 0 by decide)]
            rcases (show g1 = 128 ∨ 132 ≤ g1 by omega) with e | e
            · exact .inl ⟨rfl, rfl, .inr (.inr (.inl e))⟩
            · exact .inl ⟨rfl, rfl, .inr (.inr (.inr (.inl e)))⟩
theorem el_rng (m : Nat → Int32) {a b : Int} (ha : 0 ≤ a ∨ b < a + 2) : (elI m a b = -1 ∧ elE m a b = -1) ∨ (a + 2 ≤ elI m a b ∧ elI m a b ≤ elE m a b ∧ elE m a b ≤ b) := by
  have h1 := gb_rng m (a + 1)
  have h2 := gb_rng m (a + 2)
  have h3 := gb_rng m (a + 3)
  have h4 := gb_rng m (a + 4)
  rcases el_cases m ha with ⟨c1, c2, _⟩ | ⟨c0, c | c | c | c⟩
  · exact .inl ⟨c1, c2⟩
  · exact .inr (by omega)
  · exact .inr (by omega)
  · exact .inr (by omega)
  · exact .inr (by omega)
def whP (m : Nat → Int32) (a b tag : Int) : Prop := gb m a = tag ∧ 0 ≤ elI m a b ∧ elE m a b = b
def vl (m : Nat → Int32) (p : Int) : Nat → Int64
  | 0 => (iI (sg m p)).toInt64
  | k + 1 => (vl m p k <<< ((iI 8).toInt64 &&& 63)) ||| (iI (gb m (p + ((k + 1 : Nat) : Int)))).toInt64
theorem vl_step {m : Nat → Int32} {p : Int} {v : Int64} {k z : Int} (h1 : 1 ≤ k) (hv : v = vl m p (k - 1).toNat) (hz : z = (m (p + k).toNat).toInt) : (v <<< ((iI 8).toInt64 &&& 63)) ||| (iI (z % 256)).toInt64 = vl m p (k + 1 - 1).toNat := by
  obtain ⟨n, e1⟩ : ∃ n : Nat, k = (n : Int) + 1 := ⟨(k - 1).toNat, by omega⟩
  subst e1
  rw [show ((n : Int) + 1 + 1 - 1).toNat = n + 1 by omega]
  rw [show ((n : Int) + 1 - 1).toNat = n by omega] at hv
  rw [hv, hz]
  rfl
def nmP (m : Nat → Int32) (a b : Int) (lo hi : Int64) : Prop := whP m a b 2 ∧ 1 ≤ b - elI m a b ∧ b - elI m a b ≤ 5 ∧ ¬ (1 < b - elI m a b ∧ (sg m (elI m a b) = 0 ∧ 0 ≤ sg m (elI m a b + 1) ∨ sg m (elI m a b) = -1 ∧ sg m (elI m a b + 1) < 0)) ∧ lo.toInt ≤ (vl m (elI m a b) (b - elI m a b - 1).toNat).toInt ∧ (vl m (elI m a b) (b - elI m a b - 1).toNat).toInt ≤ hi.toInt
def chP (m : Nat → Int32) (k : Int) : Prop := 32 ≤ sg m k ∧ sg m k ≤ 126
def stP (m : Nat → Int32) (a b : Int) : Prop := whP m a b 27 ∧ ∀ k, elI m a b ≤ k → k < b → chP m k
def stI (m : Nat → Int32) (a b k f : Int) : Prop := (f = 1 ∧ whP m a b 27 ∧ elI m a b ≤ k ∧ k ≤ b ∧ ∀ j, elI m a b ≤ j → j < k → chP m j) ∨ (f = 0 ∧ ¬ stP m a b)
theorem stI_go {m : Nat → Int32} {a b k z f : Int} (hf : f = 1) (h : stI m a b k f) (hk : k < b) (hz : z = (m k.toNat).toInt) (h0 : 32 ≤ z) (h1 : z ≤ 126) : stI m a b (k + 1) 1 := by
  rcases h with ⟨_, h2, h3, h4, h5⟩ | ⟨h2, _⟩
  · refine .inl ⟨rfl, h2, by omega, by omega, fun j hj hk2 => ?_⟩
    by_cases e : j = k
    · rw [e]; unfold chP sg; omega
    · exact h5 j hj (by omega)
  · omega
theorem stI_no {m : Nat → Int32} {a b k k2 z f : Int} (hf : f = 1) (h : stI m a b k f) (hk : k < b) (hz : z = (m k.toNat).toInt) (h0 : ¬ (32 ≤ z ∧ z ≤ 126)) : stI m a b k2 0 := by
  rcases h with ⟨_, h2, h3, h4, h5⟩ | ⟨h2, _⟩
  · refine .inr ⟨rfl, fun hp => h0 ?_⟩
    have h6 := hp.2 k h3 hk
    unfold chP sg at h6
    omega
  · omega
theorem stI_end {m : Nat → Int32} {a b k f : Int} (h : stI m a b k f) (hk : b ≤ k ∨ f = 0) (h01 : 0 ≤ f ∧ f ≤ 1) : f = 1 ↔ stP m a b := by
  rcases h with ⟨h1, h2, h3, h4, h5⟩ | ⟨h1, h2⟩
  · exact ⟨fun _ => ⟨h2, fun j hj hjb => h5 j hj (by omega)⟩, fun _ => h1⟩
  · exact ⟨fun h => by omega, fun h => absurd h h2⟩
def tw (m : Nat → Int32) (p : Int) : Int := if sg m p - 48 < 0 ∨ 9 < sg m p - 48 ∨ sg m (p + 1) - 48 < 0 ∨ 9 < sg m (p + 1) - 48 then -10000 else 10 * (sg m p - 48) + (sg m (p + 1) - 48)
def dO (y n : Int) : Int := if n = 2 then (if y % 4 = 0 then 29 else 28) else if n = 4 ∨ n = 6 ∨ n = 9 ∨ n = 11 then 30 else 31
def tiOK (m : Nat → Int32) (p : Int) : Prop := sg m (p + 14) = 90 ∧ 1970 ≤ 100 * tw m p + tw m (p + 2) ∧ 100 * tw m p + tw m (p + 2) ≤ 2037 ∧ 1 ≤ tw m (p + 4) ∧ tw m (p + 4) ≤ 12 ∧ 1 ≤ tw m (p + 6) ∧ tw m (p + 6) ≤ dO (100 * tw m p + tw m (p + 2)) (tw m (p + 4)) ∧ 0 ≤ tw m (p + 8) ∧ tw m (p + 8) ≤ 23 ∧ 0 ≤ tw m (p + 10) ∧ tw m (p + 10) ≤ 59 ∧ 0 ≤ tw m (p + 12) ∧ tw m (p + 12) ≤ 59
def tmP (m : Nat → Int32) (a b : Int) : Prop := whP m a b 24 ∧ b - elI m a b = 15 ∧ tiOK m (elI m a b)
def flP (m : Nat → Int32) (a b : Int) : Prop := whP m a b 3 ∧ 5 ≤ b - elI m a b ∧ sg m (elI m a b) = 0
/-- a row of elements -/
def rwq (T : Int → Int → Prop) (m : Nat → Int32) (b : Int) : Nat → Int → Prop
  | 0, p => b ≤ p
  | k + 1, p => b ≤ p ∨ (p < b ∧ 0 ≤ elI m p b ∧ T p (elE m p b) ∧ rwq T m b k (elE m p b))
def rwP (T : Int → Int → Prop) (m : Nat → Int32) (a b : Int) : Prop := whP m a b 48 ∧ rwq T m b 16 (elI m a b)
def rwI (T : Int → Int → Prop) (m : Nat → Int32) (b p0 n p : Int) : Prop := rwq T m b (16 - n).toNat p ↔ rwq T m b 16 p0
theorem rwI_0 {T : Int → Int → Prop} {m : Nat → Int32} {b p0 : Int} : rwI T m b p0 0 p0 := Iff.rfl
theorem rwI_end {T : Int → Int → Prop} {m : Nat → Int32} {b p0 n p : Int} (h : rwI T m b p0 n p) (hp : b ≤ p) : rwq T m b 16 p0 := by
  refine h.mp ?_
  cases (16 - n).toNat with
  | zero => exact hp
  | succ k => exact .inl hp
theorem rwI_16 {T : Int → Int → Prop} {m : Nat → Int32} {b p0 n p : Int} (h : rwI T m b p0 n p) (hp : p < b) (hn : n = 16) : ¬ rwq T m b 16 p0 := fun h2 => by
  have h3 := h.mpr h2
  rw [hn] at h3
  have h4 : b ≤ p := h3
  omega
theorem rwI_no {T : Int → Int → Prop} {m : Nat → Int32} {b p0 n p : Int} (h : rwI T m b p0 n p) (hp : p < b) (h0 : 0 ≤ n) (hn : n ≤ 15) (hf : ¬ (0 ≤ elI m p b ∧ T p (elE m p b))) : ¬ rwq T m b 16 p0 := fun h2 => by
  have h3 := h.mpr h2
  rw [show (16 - n).toNat = (15 - n).toNat + 1 by omega] at h3
  rcases h3 with h4 | h4
  · omega
  · exact hf ⟨h4.2.1, h4.2.2.1⟩
theorem rwI_go {T : Int → Int → Prop} {m : Nat → Int32} {b p0 n p : Int} (h : rwI T m b p0 n p) (hp : p < b) (h0 : 0 ≤ n) (hn : n ≤ 15) (hf : 0 ≤ elI m p b ∧ T p (elE m p b)) : rwI T m b p0 (n + 1) (elE m p b) := by
  unfold rwI at h ⊢
  refine Iff.trans ?_ h
  rw [show (16 - n).toNat = (16 - (n + 1)).toNat + 1 by omega]
  exact ⟨fun h4 => .inr ⟨hp, hf.1, hf.2, h4⟩, fun h4 => by
    rcases h4 with h5 | h5
    · omega
    · exact h5.2.2.2⟩
/-- the fields of a sequence: number, may it be left out, type -/
def sq (T : Int → Int → Int → Prop) (m : Nat → Int32) (b : Int) : List (Int × Int × Int) → Int → Prop
  | [], p => p = b
  | f :: r, p => ((p < b ∧ gb m p = 160 + f.1) ∧ 0 ≤ elI m p b ∧ T f.2.2 (elI m p b) (elE m p b) ∧ sq T m b r (elE m p b)) ∨ (¬ (p < b ∧ gb m p = 160 + f.1) ∧ f.2.1 = 1 ∧ sq T m b r p)
/-- the place of field n, c if it is not there -/
def fd (m : Nat → Int32) (b : Int) : List (Int × Int × Int) → Int → Int → Int × Int → Int × Int
  | [], _, _, c => c
  | f :: r, p, k, c => if p < b ∧ gb m p = 160 + f.1 then (if k = f.1 then fd m b r (elE m p b) k (elI m p b, elE m p b) else fd m b r (elE m p b) k c) else fd m b r p k c
def sqP (T : Int → Int → Int → Prop) (m : Nat → Int32) (fs : List (Int × Int × Int)) (a b : Int) : Prop := whP m a b 48 ∧ sq T m b fs (elI m a b)
theorem iff_eq {P Q A : Prop} (h : P = Q) (k : A ↔ Q) : A ↔ P := by rw [h]; exact k
theorem iff_f {P : Prop} (h : ¬ P) : (0 : Int) = 1 ↔ P := ⟨fun h2 => absurd h2 (by decide), fun h2 => absurd h2 h⟩
theorem iff_t {P : Prop} (h : P) : (1 : Int) = 1 ↔ P := ⟨fun _ => h, fun _ => rfl⟩
/-- the places where an element's inside and end were laid down -/
def pG1 (I : Nat → Int32) : Prop := ∃ x y : Int, I 39 = iI x ∧ I 40 = iI y ∧ 0 ≤ x ∧ x ≤ y ∧ y ≤ 30000 ∧ y - x ≤ 4200
theorem pG1_cg {I I' : Nat → Int32} (h1 : I' 39 = I 39) (h2 : I' 40 = I 40) (h : pG1 I) : pG1 I' := by
  obtain ⟨x, y, e1, e2, h3⟩ := h
  exact ⟨x, y, h1.trans e1, h2.trans e2, h3⟩
def pr (x y : Int) : Prop := x = -1 ∧ y = -1 ∨ 0 ≤ x ∧ x ≤ y ∧ y ≤ 30000 ∧ y - x ≤ 4200
def pG2 (F T : Nat → Int32) : Prop := ∀ j : Nat, j < 192 → pr (F j).toInt (T j).toInt
theorem pG2_cg {F F' T T' : Nat → Int32} (h1 : F' = F) (h2 : T' = T) (h : pG2 F T) : pG2 F' T' := by rw [h1, h2]; exact h
theorem pG2_up {F T : Nat → Int32} {i : Nat} {x y : Int} (h : pG2 F T) (hx : iR x) (hy : iR y) (hp : pr x y) : pG2 (upd F i (iI x)) (upd T i (iI y)) := by
  intro j hj
  by_cases e : j = i
  · rw [e, pk_us, pk_us, iI_toInt hx, iI_toInt hy]; exact hp
  · rw [pk_un e, pk_un e]; exact h j hj
section RPARSE
variable {p : Program} {l : Launch} {e : Env} {R : Room} {s : State} {m : MethodId} {args : Array Value} {below : List Frame} {meth : Method} {c : Code} {H : Heap} {locs : List Loc} {cells slots : Nat} {Q : State → Prop} {cc : ByteArray} {pc : Nat} {ls : Array Slot} {rest : List Value}
theorem z_ishl8 (hexec : p.tables.exec = Jvm.exec) (hb : c.code = cc) {a : Int} (ha : 0 ≤ a ∧ a ≤ 65535) (hdg : decode cc pc = .ok (.ishl, 1)) (kk : W p l e R s m args below meth c H locs cells slots Q (F0 m (pc + 1) ls (.int (iI (a * 256)) :: rest))) : W p l e R s m args below meth c H locs cells slots Q (F0 m pc ls (.int (iI 8) :: .int (iI a) :: rest)) := by
  refine lv_ishl hexec hb hdg (t_eq ?_ kk)
  obtain ⟨n, rfl⟩ := Int.eq_ofNat_of_zero_le ha.1
  rw [show (n : Int) * 256 = ((n * 2 ^ 8 : Nat) : Int) by omega, iI_cast (by omega), iI_cast (by omega)]
  exact pk_shlN _ 8 (by decide) (by omega)
theorem z_iorb (hexec : p.tables.exec = Jvm.exec) (hb : c.code = cc) {a b : Int} (ha : 0 ≤ a ∧ a ≤ 65535) (hb2 : 0 ≤ b ∧ b ≤ 255) (hdg : decode cc pc = .ok (.ior, 1)) (kk : W p l e R s m args below meth c H locs cells slots Q (F0 m (pc + 1) ls (.int (iI (a * 256 + b)) :: rest))) : W p l e R s m args below meth c H locs cells slots Q (F0 m pc ls (.int (iI b) :: .int (iI (a * 256)) :: rest)) := by
  refine lv_ior hexec hb hdg (t_eq ?_ kk)
  obtain ⟨n, rfl⟩ := Int.eq_ofNat_of_zero_le ha.1
  obtain ⟨k, rfl⟩ := Int.eq_ofNat_of_zero_le hb2.1
  have h : (nI (n * 256) ||| nI k).toBitVec.toNat = n * 256 + k := by
    rw [Int32.toBitVec_or, BitVec.toNat_or, pk_tn (by omega), pk_tn (by omega), show n * 256 = 2 ^ 8 * n by omega]
    exact (Nat.two_pow_add_eq_or_of_lt (by omega) n).symm
  rw [show (n : Int) * 256 = ((n * 256 : Nat) : Int) by omega, show ((n * 256 : Nat) : Int) + (k : Int) = ((n * 256 + k : Nat) : Int) by omega, iI_cast (by omega), iI_cast (by omega), iI_cast (by omega)]
  have h2 := nI_bv (x := nI (n * 256) ||| nI k) (by rw [h]; omega)
  rw [h] at h2
  exact h2
theorem z_i2lx (hexec : p.tables.exec = Jvm.exec) (hb : c.code = cc) {a : Int} (ha : iR a) (hdg : decode cc pc = .ok (.i2l, 1)) (kk : ∀ v : Int64, v.toInt = a → W p l e R s m args below meth c H locs cells slots Q (F0 m (pc + 1) ls (.long v :: rest))) : W p l e R s m args below meth c H locs cells slots Q (F0 m pc ls (.int (iI a) :: rest)) :=
  lv_i2l hexec hb hdg rfl (kk _ (by rw [Int32.toInt_toInt64, iI_toInt ha]))
theorem z_laddx (hexec : p.tables.exec = Jvm.exec) (hb : c.code = cc) {x y : Int64} (h0 : -9223372036854775808 ≤ x.toInt + y.toInt) (h1 : x.toInt + y.toInt ≤ 9223372036854775807) (hdg : decode cc pc = .ok (.ladd, 1)) (kk : ∀ v : Int64, v.toInt = x.toInt + y.toInt → W p l e R s m args below meth c H locs cells slots Q (F0 m (pc + 1) ls (.long v :: rest))) : W p l e R s m args below meth c H locs cells slots Q (F0 m pc ls (.long y :: .long x :: rest)) :=
  lv_ladd hexec hb hdg (kk _ (by rw [Int64.toInt_add]; exact Int.bmod_eq_of_le (by omega) (by omega)))
theorem z_lmulx (k : Int) (hexec : p.tables.exec = Jvm.exec) (hb : c.code = cc) {x y : Int64} (hx : x.toInt = k) (h0 : -9223372036854775808 ≤ k * y.toInt) (h1 : k * y.toInt ≤ 9223372036854775807) (hdg : decode cc pc = .ok (.lmul, 1)) (kk : ∀ v : Int64, v.toInt = k * y.toInt → W p l e R s m args below meth c H locs cells slots Q (F0 m (pc + 1) ls (.long v :: rest))) : W p l e R s m args below meth c H locs cells slots Q (F0 m pc ls (.long y :: .long x :: rest)) :=
  lv_lmul hexec hb hdg (kk _ (by rw [Int64.toInt_mul, hx]; exact Int.bmod_eq_of_le (by omega) (by omega)))
end RPARSE
