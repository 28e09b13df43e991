/-! What the bytes of a Bytes say: places, elements, rows of elements. -/
def gB (f : pF) (a : Nat) (i : Int) : Int := match f a with
  | .inl (_, _, .inl g) => (g i.toNat).toInt
  | _ => 0
def rb (f : pF) (h : Nat) (i : Int) : Int := match gF f h 0 with
  | .ref b => gB f b i % 256
  | _ => 0
theorem rb_of {f : pF} {h b : Nat} (e1 : gF f h 0 = .ref b) (i : Int) : rb f h i = gB f b i % 256 := by unfold rb; rw [e1]
theorem rb_rng (f : pF) (h : Nat) (i : Int) : 0 ≤ rb f h i ∧ rb f h i ≤ 255 := by
  unfold rb
  split
  · omega
  · omega
theorem rb_same {f f' : pF} {h b : Nat} (e1 : gF f h 0 = .ref b) (h1 : gF f' h 0 = gF f h 0) (h2 : f' b = f b) : rb f' h = rb f h := by
  funext i
  rw [rb_of e1, rb_of (h1.trans e1)]
  unfold gB
  rw [h2]
theorem iI_255 (z : Int) : iI z &&& iI 255 = iI (z % 256) := by
  have e1 : (iI z).toBitVec.toNat = (z % 4294967296).toNat := by
    unfold iI
    rw [Int32.toBitVec_ofInt, BitVec.toNat_ofInt]
    rfl
  rw [show iI 255 = nI 255 by decide, pk_and (iI z) 8 (by decide), e1, iI_nat (by omega) (by omega)]
  congr 1
  omega
section PROWS
variable {p : Program} {l : Launch} {e : Env} {R : Room} {s : State} {m : MethodId} {args : Array Value} {below : List Frame} {meth : Method} {c : Code} {H : Heap} {locs : List Loc} {cells slots : Nat} {Q : State → Prop} {cc : ByteArray} {pc : Nat} {ls : Array Slot} {rest : List Value} {D : va_G} {E : cE} {T : cT} {A : Nat → Prop} {L L0 : List Nat} {f f0 : pF} {own : String} {κ κ0 : tK} {F : Nat → Prop} {a : Nat}
theorem t_baldx {n : Nat} {i : Int} (X : cX own p c cc args s m D E) (Y : pH D cCl A s.heap L f H locs) (S : tS E T F κ0 L0 f0 κ L f) (hk : κ a = (1, n)) (h0 : 0 ≤ i) (h1 : i < n) (h2 : i ≤ 2147483647) (hdg : decode cc pc = .ok (.baload, 1))
    (kk : ∀ z : Int, z = gB f a i → -128 ≤ z → z ≤ 127 → W p l e R s m args below meth c H locs cells slots Q (F0 m (pc + 1) ls (.int (iI z) :: rest))) : W p l e R s m args below meth c H locs cells slots Q (F0 m pc ls (.int (iI i) :: .ref a :: rest)) := by
  obtain ⟨ha, g, ef, hg⟩ := t_arr S hk
  refine q_bald X.1 X.2.1 X.2.2.2.2 Y 0 ha ef rfl (iI_in h0 h1 h2) hdg ?_
  have h4 := iI_byte (hg (iI i).toNatClampNeg)
  have h5 := kk _ (by unfold gB; rw [ef, iI_cl h0 h2]) h4.1 h4.2
  rw [← iI_of] at h5
  exact h5
theorem z_iand255 (hexec : p.tables.exec = Jvm.exec) (hb : c.code = cc) {z : Int} (hdg : decode cc pc = .ok (.iand, 1)) (kk : W p l e R s m args below meth c H locs cells slots Q (F0 m (pc + 1) ls (.int (iI (z % 256)) :: rest))) : W p l e R s m args below meth c H locs cells slots Q (F0 m pc ls (.int (iI 255) :: .int (iI z) :: rest)) := lv_iand hexec hb hdg (t_eq (iI_255 z) kk)
end PROWS
/-- stop(p, t) is z; body(p) is z -/
def StR (g : Int → Int) (s p t z : Int) : Prop := (z = -1 ∧ (p < 0 ∨ s < t ∨ t - p < 2)) ∨ (0 ≤ p ∧ t ≤ s ∧ 2 ≤ t - p ∧
  ((g (p + 1) < 128 ∧ (g (p + 1) ≤ t - (p + 2) ∧ z = p + 2 + g (p + 1) ∨ t - (p + 2) < g (p + 1) ∧ z = -1)) ∨
   (g (p + 1) = 129 ∧ 1 ≤ t - (p + 2) ∧ (g (p + 2) < 128 ∧ z = -1 ∨ 128 ≤ g (p + 2) ∧ (g (p + 2) ≤ t - (p + 3) ∧ z = p + 3 + g (p + 2) ∨ t - (p + 3) < g (p + 2) ∧ z = -1))) ∨
   (g (p + 1) = 130 ∧ 2 ≤ t - (p + 2) ∧ (g (p + 2) * 256 + g (p + 3) < 256 ∧ z = -1 ∨ 256 ≤ g (p + 2) * 256 + g (p + 3) ∧ (g (p + 2) * 256 + g (p + 3) ≤ t - (p + 4) ∧ z = p + 4 + (g (p + 2) * 256 + g (p + 3)) ∨ t - (p + 4) < g (p + 2) * 256 + g (p + 3) ∧ z = -1))) ∨
   (z = -1 ∧ (g (p + 1) = 128 ∨ 130 < g (p + 1) ∨ (g (p + 1) = 129 ∧ t - (p + 2) < 1) ∨ (g (p + 1) = 130 ∧ t - (p + 2) < 2)))))
def BdR (g : Int → Int) (s p z : Int) : Prop := (z = -1 ∧ (p < 0 ∨ s ≤ p + 1)) ∨ (0 ≤ p ∧ p + 1 < s ∧ (g (p + 1) < 128 ∧ z = p + 2 ∨ 128 ≤ g (p + 1) ∧ z = p + 2 + g (p + 1) - 128))
theorem StR_fun {g : Int → Int} {s p t z1 z2 : Int} (h1 : StR g s p t z1) (h2 : StR g s p t z2) : z1 = z2 := by
  unfold StR at h1 h2
  omega
theorem BdR_fun {g : Int → Int} {s p z1 z2 : Int} (h1 : BdR g s p z1) (h2 : BdR g s p z2) : z1 = z2 := by
  unfold BdR at h1 h2
  omega
theorem StR_mono {g : Int → Int} {s p t t2 z : Int} (h : StR g s p t z) (h0 : 0 ≤ z) (h1 : t ≤ t2) (h2 : t2 ≤ s) : StR g s p t2 z := by
  unfold StR at h ⊢
  omega
theorem StR_le {g : Int → Int} (hg : ∀ i, 0 ≤ g i) {s p t z : Int} (h : StR g s p t z) (h0 : 0 ≤ z) : 0 ≤ p ∧ p + 2 ≤ z ∧ z ≤ t ∧ t ≤ s := by
  have a1 := hg (p + 1)
  have a2 := hg (p + 2)
  have a3 := hg (p + 3)
  unfold StR at h
  omega
/-- a place from which stop finds an end -/
def StG (g : Int → Int) (s v : Int) : Prop := ∀ z, StR g s v s z → 0 ≤ z
theorem StG_of {g : Int → Int} (hg : ∀ i, 0 ≤ g i) {s v t : Int} (h : StR g s v t t) (h0 : 0 ≤ t) : StG g s v := fun z hz => by
  have h1 := StR_le hg h h0
  have h2 := StR_mono h h0 h1.2.2.2 (Int.le_refl s)
  rw [StR_fun hz h2]
  exact h0
def fdStep (g : Int → Int) (s t a st bd : Int) : Prop := StR g s a t st ∧ 0 ≤ st ∧ BdR g s a bd ∧ StR g s bd st st
def FdSeg (g : Int → Int) (s t : Int) (P : Int → Int → Int → Prop) : Nat → Int → Int → Prop
  | 0, a, b => a = b
  | k + 1, a, b => ∃ st bd : Int, fdStep g s t a st bd ∧ P a st bd ∧ FdSeg g s t P k st b
def pT (_ _ _ : Int) : Prop := True
def RwSeg (g : Int → Int) (s t : Int) : Nat → Int → Int → Prop
  | 0, a, b => a = b
  | k + 1, a, b => ∃ st bd : Int, StR g s a t st ∧ 0 ≤ st ∧ g a = 48 ∧ BdR g s a bd ∧ (∃ j : Nat, FdSeg g s st pT j bd st) ∧ RwSeg g s t k st b
def p3 (g : Int → Int) (s : Int) (a st bd : Int) : Prop := g a = 163 → ∃ (b : Int) (j : Nat), BdR g s bd b ∧ RwSeg g s st j b st
theorem FdSeg_snoc {g : Int → Int} {s t : Int} {P : Int → Int → Int → Prop} : ∀ (k : Nat) (a b st bd : Int), FdSeg g s t P k a b → fdStep g s t b st bd → P b st bd → FdSeg g s t P (k + 1) a st
  | 0, a, b, st, bd, h, h1, h2 => by
    have e1 : a = b := h
    subst e1
    exact ⟨st, bd, h1, h2, rfl⟩
  | k + 1, a, b, st, bd, h, h1, h2 => by
    obtain ⟨st1, bd1, h3, h4, h5⟩ := h
    exact ⟨st1, bd1, h3, h4, FdSeg_snoc k st1 b st bd h5 h1 h2⟩
theorem RwSeg_snoc {g : Int → Int} {s t : Int} : ∀ (k : Nat) (a b st bd : Int), RwSeg g s t k a b → StR g s b t st → 0 ≤ st → g b = 48 → BdR g s b bd → (∃ j : Nat, FdSeg g s st pT j bd st) → RwSeg g s t (k + 1) a st
  | 0, a, b, st, bd, h, h1, h2, h3, h4, h5 => by
    have e1 : a = b := h
    subst e1
    exact ⟨st, bd, h1, h2, h3, h4, h5, rfl⟩
  | k + 1, a, b, st, bd, h, h1, h2, h3, h4, h5 => by
    obtain ⟨st1, bd1, g1, g2, g3, g4, g5, g6⟩ := h
    exact ⟨st1, bd1, g1, g2, g3, g4, g5, RwSeg_snoc k st1 b st bd g6 h1 h2 h3 h4 h5⟩
/-- what isA says -/
def FitP (g : Int → Int) (s kind a t : Int) : Prop := StR g s a t t ∧ (kind = 97 → g a = 48 ∧ ∃ (b : Int) (j : Nat), BdR g s a b ∧ FdSeg g s t pT j b t) ∧ (kind = 65 → ∃ (b : Int) (j : Nat), BdR g s a b ∧ RwSeg g s t j b t) ∧ (kind = 362 ∨ kind = 364 → g a = kind - 256 ∧ ∃ (b1 b2 : Int) (j : Nat), BdR g s a b1 ∧ StR g s b1 t t ∧ BdR g s b1 b2 ∧ FdSeg g s t (p3 g s) j b2 t)
def InP (g : Int → Int) (s kind a t : Int) : Prop := (kind = 97 → ∃ j : Nat, FdSeg g s t pT j a t) ∧ (kind = 65 → ∃ j : Nat, RwSeg g s t j a t) ∧ (kind = 362 ∨ kind = 364 → ∃ (b2 : Int) (j : Nat), StR g s a t t ∧ BdR g s a b2 ∧ FdSeg g s t (p3 g s) j b2 t)
/-- a request that was read -/
def TopP (g : Int → Int) (s : Int) : Prop := (g 0 = 106 ∨ g 0 = 108) ∧ ∃ (b1 b2 : Int) (j : Nat), BdR g s 0 b1 ∧ StR g s b1 s s ∧ BdR g s b1 b2 ∧ FdSeg g s s (p3 g s) j b2 s
