/-! Rows, names and sizes over what was read; the same bytes elsewhere say the same. -/
def tt (_ _ : Int) : Prop := True
theorem rwq_mono {T T2 : Int → Int → Prop} {m : Nat → Int32} {b : Int} (h : ∀ x y, T x y → T2 x y) : ∀ (k : Nat) (p : Int), rwq T m b k p → rwq T2 m b k p
  | 0, _, h1 => h1
  | k + 1, p, h1 => by
    rcases h1 with h2 | ⟨h2, h3, h4, h5⟩
    · exact .inl h2
    · exact .inr ⟨h2, h3, h _ _ h4, rwq_mono h k _ h5⟩
theorem rwP_tt {T : Int → Int → Prop} {m : Nat → Int32} {a b : Int} (h : rwP T m a b) : rwP tt m a b := ⟨h.1, rwq_mono (fun _ _ _ => trivial) 16 _ h.2⟩
/-- the bytes of m from lo to hi lie in m' d places on -/
def sh (d lo hi : Int) (m m' : Nat → Int32) : Prop := ∀ i : Int, 0 ≤ i → lo ≤ i → i < hi → m' (i + d).toNat = m i.toNat
section SHIFT
variable {m m' : Nat → Int32} {d lo hi a b p : Int}
theorem gb_sh (h : sh d lo hi m m') {i : Int} (h0 : 0 ≤ i) (h1 : lo ≤ i) (h2 : i < hi) : gb m' (i + d) = gb m i := by unfold gb; rw [h i h0 h1 h2]
theorem sg_sh (h : sh d lo hi m m') {i : Int} (h0 : 0 ≤ i) (h1 : lo ≤ i) (h2 : i < hi) : sg m' (i + d) = sg m i := by unfold sg; rw [h i h0 h1 h2]
theorem el_two (h0 : 0 ≤ a) (hd : 0 ≤ a + d) (e1 : a + 1 < b → gb m' (a + d + 1) = gb m (a + 1)) (e2 : a + 2 < b → gb m' (a + d + 2) = gb m (a + 2)) (e3 : a + 3 < b → gb m' (a + d + 3) = gb m (a + 3)) (e4 : a + 4 < b → gb m' (a + d + 4) = gb m (a + 4)) : (elI m a b = -1 ∧ elE m a b = -1 ∧ elI m' (a + d) (b + d) = -1 ∧ elE m' (a + d) (b + d) = -1) ∨ (a + 2 ≤ elI m a b ∧ elI m a b ≤ elE m a b ∧ elE m a b ≤ b ∧ elI m' (a + d) (b + d) = elI m a b + d ∧ elE m' (a + d) (b + d) = elE m a b + d) := by
  have r1 := el_rng m (a := a) (b := b) (.inl h0)
  have c1 := el_cases m (a := a) (b := b) (.inl h0)
  have c2 := el_cases m' (a := a + d) (b := b + d) (.inl hd)
  have g1 := gb_rng m (a + 1)
  have g2 := gb_rng m (a + 2)
  have g3 := gb_rng m (a + 3)
  have g4 := gb_rng m (a + 4)
  have g5 := gb_rng m' (a + d + 1)
  have g6 := gb_rng m' (a + d + 2)
  have g7 := gb_rng m' (a + d + 3)
  have g8 := gb_rng m' (a + d + 4)
  rcases c1 with ⟨x1, x2, c⟩ | ⟨k, c⟩
  · rcases c2 with ⟨y1, y2, c'⟩ | ⟨k', c'⟩
    · exact .inl ⟨x1, x2, y1, y2⟩
    · exfalso
      clear r1
      rcases c with c | c | c | c | c | c | c <;> rcases c' with c' | c' | c' | c' <;> omega
  · rcases c2 with ⟨y1, y2, c'⟩ | ⟨k', c'⟩
    · exfalso
      clear r1
      rcases c with c | c | c | c <;> rcases c' with c' | c' | c' | c' | c' | c' | c' <;> omega
    · right
      rcases r1 with r1 | r1
      · rcases c with c | c | c | c <;> omega
      · refine ⟨r1.1, r1.2.1, r1.2.2, ?_⟩
        rcases c with c | c | c | c <;> rcases c' with c' | c' | c' | c' <;> omega
theorem el_sh (h : sh d lo hi m m') (h0 : 0 ≤ a) (hd : 0 ≤ a + d) (h1 : lo ≤ a) (h2 : b ≤ hi) : (elI m a b = -1 ∧ elE m a b = -1 ∧ elI m' (a + d) (b + d) = -1 ∧ elE m' (a + d) (b + d) = -1) ∨ (a + 2 ≤ elI m a b ∧ elI m a b ≤ elE m a b ∧ elE m a b ≤ b ∧ elI m' (a + d) (b + d) = elI m a b + d ∧ elE m' (a + d) (b + d) = elE m a b + d) := by
  have E : ∀ k : Int, 0 ≤ k → a + k < b → gb m' (a + d + k) = gb m (a + k) := fun k hk hb => by
    rw [show a + d + k = a + k + d by omega]; exact gb_sh h (by omega) (by omega) (by omega)
  exact el_two h0 hd (E 1 (by decide)) (E 2 (by decide)) (E 3 (by decide)) (E 4 (by decide))
theorem whP_sh (h : sh d lo hi m m') (h0 : 0 ≤ a) (hd : 0 ≤ a + d) (h1 : lo ≤ a) (h2 : b ≤ hi) (tag : Int) : whP m' (a + d) (b + d) tag ↔ whP m a b tag := by
  unfold whP
  rcases el_sh h h0 hd h1 h2 with e | e
  · omega
  · rw [gb_sh h h0 h1 (by omega)]; omega
theorem vl_sh (h : sh d lo hi m m') (h0 : 0 ≤ p) (h1 : lo ≤ p) : ∀ k : Nat, p + k < hi → vl m' (p + d) k = vl m p k
  | 0, h2 => by
    show (iI (sg m' (p + d))).toInt64 = (iI (sg m p)).toInt64
    rw [sg_sh h h0 h1 (by omega)]
  | k + 1, h2 => by
    have ih := vl_sh h h0 h1 k (by omega)
    show (vl m' (p + d) k <<< ((iI 8).toInt64 &&& 63)) ||| (iI (gb m' (p + d + ((k + 1 : Nat) : Int)))).toInt64 = (vl m p k <<< ((iI 8).toInt64 &&& 63)) ||| (iI (gb m (p + ((k + 1 : Nat) : Int)))).toInt64
    rw [ih, show p + d + ((k + 1 : Nat) : Int) = p + ((k + 1 : Nat) : Int) + d by omega, gb_sh h (by omega) (by omega) (by omega)]
theorem nmP_sh (h : sh d lo hi m m') (h0 : 0 ≤ a) (hd : 0 ≤ a + d) (h1 : lo ≤ a) (h2 : b ≤ hi) (x y : Int64) : nmP m' (a + d) (b + d) x y ↔ nmP m a b x y := by
  unfold nmP
  rw [whP_sh h h0 hd h1 h2 2]
  rcases el_sh h h0 hd h1 h2 with e | e
  · have n1 : ¬ whP m a b 2 := fun w => by unfold whP at w; omega
    exact ⟨fun w => absurd w.1 n1, fun w => absurd w.1 n1⟩
  · rw [e.2.2.2.1, show b + d - (elI m a b + d) = b - elI m a b by omega]
    by_cases c : 1 ≤ b - elI m a b ∧ b - elI m a b ≤ 5
    · rw [vl_sh h (by omega) (by omega) (b - elI m a b - 1).toNat (by omega)]
      by_cases c1 : 1 < b - elI m a b
      · rw [sg_sh h (i := elI m a b) (by omega) (by omega) (by omega), show elI m a b + d + 1 = elI m a b + 1 + d by omega, sg_sh h (i := elI m a b + 1) (by omega) (by omega) (by omega)]
      · exact ⟨fun w => ⟨w.1, w.2.1, w.2.2.1, fun q => c1 q.1, w.2.2.2.2⟩, fun w => ⟨w.1, w.2.1, w.2.2.1, fun q => c1 q.1, w.2.2.2.2⟩⟩
    · exact ⟨fun w => absurd ⟨w.2.1, w.2.2.1⟩ c, fun w => absurd ⟨w.2.1, w.2.2.1⟩ c⟩
theorem stP_sh (h : sh d lo hi m m') (h0 : 0 ≤ a) (hd : 0 ≤ a + d) (h1 : lo ≤ a) (h2 : b ≤ hi) : stP m' (a + d) (b + d) ↔ stP m a b := by
  unfold stP
  rw [whP_sh h h0 hd h1 h2 27]
  rcases el_sh h h0 hd h1 h2 with e | e
  · have n1 : ¬ whP m a b 27 := fun w => by unfold whP at w; omega
    exact ⟨fun w => absurd w.1 n1, fun w => absurd w.1 n1⟩
  · rw [e.2.2.2.1]
    refine and_congr_right (fun _ => ⟨fun w k hk hk2 => ?_, fun w k hk hk2 => ?_⟩)
    · have w1 := w (k + d) (by omega) (by omega)
      unfold chP at w1 ⊢
      rw [sg_sh h (by omega) (by omega) (by omega)] at w1
      exact w1
    · have w1 := w (k - d) (by omega) (by omega)
      unfold chP at w1 ⊢
      rw [show k = k - d + d by omega, sg_sh h (by omega) (by omega) (by omega)]
      exact w1
theorem rwq_sh {T T' : Int → Int → Prop} (h : sh d lo hi m m') (hd : 0 ≤ lo + d) (hl : 0 ≤ lo) (h2 : b ≤ hi) (hT : ∀ x y, lo ≤ x → y ≤ b → (T' (x + d) (y + d) ↔ T x y)) : ∀ (k : Nat) (p : Int), lo ≤ p → (rwq T' m' (b + d) k (p + d) ↔ rwq T m b k p)
  | 0, p, _ => by show b + d ≤ p + d ↔ b ≤ p; omega
  | k + 1, p, h3 => by
    have e := el_sh h (a := p) (b := b) (by omega) (by omega) h3 h2
    refine ⟨fun w => ?_, fun w => ?_⟩
    · rcases w with w | ⟨w1, w2, w3, w4⟩
      · exact .inl (by omega)
      · rcases e with e | e
        · omega
        · rw [e.2.2.2.2] at w3 w4
          exact .inr ⟨by omega, by omega, (hT p _ h3 e.2.2.1).mp w3, (rwq_sh h hd hl h2 hT k _ (by omega)).mp w4⟩
    · rcases w with w | ⟨w1, w2, w3, w4⟩
      · exact .inl (by omega)
      · rcases e with e | e
        · omega
        · refine .inr ⟨by omega, by omega, ?_, ?_⟩
          · rw [e.2.2.2.2]; exact (hT p _ h3 e.2.2.1).mpr w3
          · rw [e.2.2.2.2]; exact (rwq_sh h hd hl h2 hT k _ (by omega)).mpr w4
theorem rwP_sh {T T' : Int → Int → Prop} (h : sh d lo hi m m') (hd : 0 ≤ lo + d) (hl : 0 ≤ lo) (h1 : lo ≤ a) (h2 : b ≤ hi) (hT : ∀ x y, lo ≤ x → y ≤ b → (T' (x + d) (y + d) ↔ T x y)) : rwP T' m' (a + d) (b + d) ↔ rwP T m a b := by
  unfold rwP
  rw [whP_sh h (by omega) (by omega) h1 h2 48]
  rcases el_sh h (a := a) (b := b) (by omega) (by omega) h1 h2 with e | e
  · have n1 : ¬ whP m a b 48 := fun w => by unfold whP at w; omega
    exact ⟨fun w => absurd w.1 n1, fun w => absurd w.1 n1⟩
  · rw [e.2.2.2.1, rwq_sh h hd hl h2 hT 16 _ (by omega)]
/-- a name: its type and its parts; the stretch of its parts -/
def NP (m : Nat → Int32) (a b : Int) : Prop := sqP (isF m 4) m (rs 4 0) a b
def n0 (m : Nat → Int32) (a b : Int) : Int := elE m (elI m a b) b
def npI (m : Nat → Int32) (a b : Int) : Int := elI m (n0 m a b) b
theorem rs4 : rs 4 0 = [(0, 0, 105), (1, 0, 83)] := by decide +kernel
theorem NP_iff : NP m a b ↔ whP m a b 48 ∧ (elI m a b < b ∧ gb m (elI m a b) = 160) ∧ 0 ≤ elI m (elI m a b) b ∧ nmP m (elI m (elI m a b) b) (n0 m a b) (-2147483648) 2147483647 ∧ (n0 m a b < b ∧ gb m (n0 m a b) = 161) ∧ 0 ≤ npI m a b ∧ rwP (isF m 3 115) m (npI m a b) (elE m (n0 m a b) b) ∧ elE m (n0 m a b) b = b := by
  unfold NP sqP
  rw [rs4]
  show (whP m a b 48 ∧ (((elI m a b < b ∧ gb m (elI m a b) = 160 + 0) ∧ 0 ≤ elI m (elI m a b) b ∧ isF m 4 105 (elI m (elI m a b) b) (elE m (elI m a b) b) ∧ (((elE m (elI m a b) b < b ∧ gb m (elE m (elI m a b) b) = 160 + 1) ∧ 0 ≤ elI m (elE m (elI m a b) b) b ∧ isF m 4 83 (elI m (elE m (elI m a b) b) b) (elE m (elE m (elI m a b) b) b) ∧ elE m (elE m (elI m a b) b) b = b) ∨ (¬ (elE m (elI m a b) b < b ∧ gb m (elE m (elI m a b) b) = 160 + 1) ∧ (0 : Int) = 1 ∧ elE m (elI m a b) b = b))) ∨ (¬ (elI m a b < b ∧ gb m (elI m a b) = 160 + 0) ∧ (0 : Int) = 1 ∧ _))) ↔ _
  rw [is_105 4, is_83]
  unfold n0 npI
  constructor
  · rintro ⟨h1, h2 | h2⟩
    · obtain ⟨h3, h4, h5, h6 | h6⟩ := h2
      · exact ⟨h1, by omega, h4, h5, by omega, h6.2.1, h6.2.2.1, h6.2.2.2⟩
      · exact absurd h6.2.1 (by decide)
    · exact absurd h2.2.1 (by decide)
  · rintro ⟨h1, h2, h3, h4, h5, h6, h7, h8⟩
    exact ⟨h1, .inl ⟨by omega, h3, h4, .inl ⟨by omega, h6, h7, h8⟩⟩⟩
theorem NP_fd (h : NP m a b) : fd m b (rs 4 0) (elI m a b) 1 (-1, -1) = (npI m a b, b) := by
  obtain ⟨h1, h2, h3, h4, h5, h6, h7, h8⟩ := NP_iff.mp h
  rw [rs4]
  unfold fd
  rw [if_pos (show elI m a b < b ∧ gb m (elI m a b) = 160 + 0 by omega), if_neg (show ¬ (1 : Int) = 0 by decide)]
  unfold fd
  unfold n0 at h5 h8
  rw [if_pos (show elE m (elI m a b) b < b ∧ gb m (elE m (elI m a b) b) = 160 + 1 by omega), if_pos rfl]
  unfold fd
  rw [h8]
  rfl
theorem NP_size (h0 : 0 ≤ a) (h : NP m a b) : a + 8 ≤ npI m a b ∧ npI m a b ≤ b ∧ b - a ≤ b - npI m a b + 25 ∧ whP m (npI m a b) b 48 := by
  obtain ⟨h1, h2, h3, h4, h5, h6, h7, h8⟩ := NP_iff.mp h
  have c1 := el_cases m (a := a) (b := b) (.inl h0)
  have r1 := el_rng m (a := a) (b := b) (.inl h0)
  unfold whP at h1
  have g1 := gb_rng m (a + 1)
  have g2 := gb_rng m (a + 2)
  have g3 := gb_rng m (a + 3)
  have g4 := gb_rng m (a + 4)
  have k1 : a + 2 ≤ elI m a b ∧ elI m a b ≤ a + 5 := by omega
  have c2 := el_cases m (a := elI m a b) (b := b) (.inl (by omega))
  have r2 := el_rng m (a := elI m a b) (b := b) (.inl (by omega))
  have k2 : elI m a b + 2 ≤ elI m (elI m a b) b ∧ elI m (elI m a b) b ≤ elI m a b + 5 := by omega
  have r3 := el_rng m (a := elI m (elI m a b) b) (b := n0 m a b) (.inl (by omega))
  have c3 := el_cases m (a := elI m (elI m a b) b) (b := n0 m a b) (.inl (by omega))
  have w3 := h4.1
  unfold whP at w3
  have k3 : elI m (elI m (elI m a b) b) (n0 m a b) ≤ elI m (elI m a b) b + 5 ∧ elI m (elI m a b) b + 2 ≤ elI m (elI m (elI m a b) b) (n0 m a b) := by omega
  have h9 := h4.2.1
  have h10 := h4.2.2.1
  have k4 : elI m a b + 2 ≤ n0 m a b ∧ n0 m a b ≤ elI m a b + 15 := by omega
  have c4 := el_cases m (a := n0 m a b) (b := b) (.inl (by omega))
  have r4 := el_rng m (a := n0 m a b) (b := b) (.inl (by omega))
  have e4 : npI m a b = elI m (n0 m a b) b := rfl
  have k5 : n0 m a b + 2 ≤ npI m a b ∧ npI m a b ≤ n0 m a b + 5 := by omega
  have h11 := h7.1
  rw [h8] at h11
  exact ⟨by omega, by omega, by omega, h11⟩
theorem NP_sh (h : sh d lo hi m m') (hl : 0 ≤ lo) (hd : 0 ≤ lo + d) (h1 : lo ≤ a) (h2 : b ≤ hi) (hn : NP m a b) : NP m' (a + d) (b + d) ∧ npI m' (a + d) (b + d) = npI m a b + d := by
  obtain ⟨w1, w2, w3, w4, w5, w6, w7, w8⟩ := NP_iff.mp hn
  have s1 := NP_size (by omega) hn
  have e1 := el_sh h (a := a) (b := b) (by omega) (by omega) h1 h2
  unfold whP at w1
  have e2 := el_sh h (a := elI m a b) (b := b) (by omega) (by omega) (by omega) h2
  have q1 : elI m' (a + d) (b + d) = elI m a b + d := by omega
  have q2 : n0 m' (a + d) (b + d) = n0 m a b + d := by
    unfold n0
    rw [q1]
    omega
  have q0 : n0 m a b = elE m (elI m a b) b := rfl
  have e3 := el_sh h (a := n0 m a b) (b := b) (by omega) (by omega) (by omega) h2
  have q3 : npI m' (a + d) (b + d) = npI m a b + d := by
    have q4 : npI m a b = elI m (n0 m a b) b := rfl
    unfold npI at w6 ⊢
    rw [q2]
    omega
  refine ⟨NP_iff.mpr ⟨(whP_sh h (by omega) (by omega) h1 h2 48).mpr w1, ?_, ?_, ?_, ?_, ?_, ?_, ?_⟩, q3⟩
  · rw [q1, gb_sh h (by omega) (by omega) (by omega)]; omega
  · rw [q1]; omega
  · rw [q1, q2, show elI m' (elI m a b + d) (b + d) = elI m (elI m a b) b + d by omega]
    exact (nmP_sh h (by omega) (by omega) (by omega) (by omega) _ _).mpr w4
  · rw [q2, gb_sh h (by omega) (by omega) (by omega)]; omega
  · rw [q3]; omega
  · have q5 : elE m' (n0 m a b + d) (b + d) = b + d := by omega
    rw [q3, q2, q5]
    rw [w8] at w7
    refine (rwP_sh h hd hl (by omega) h2 (fun x y hx hy => ?_)).mpr w7
    rw [is_115 3, is_115 3]
    by_cases c : x + 2 ≤ y
    · exact stP_sh h (by omega) (by omega) hx (by omega)
    · have n1 : ¬ stP m x y := fun s => by
        have r := el_rng m (a := x) (b := y) (.inl (by omega))
        have s2 := s.1
        unfold whP at s2
        omega
      have n2 : ¬ stP m' (x + d) (y + d) := fun s => by
        have r := el_rng m' (a := x + d) (b := y + d) (.inl (by omega))
        have s2 := s.1
        unfold whP at s2
        omega
      exact ⟨fun s => absurd s n2, fun s => absurd s n1⟩
  · rw [q2]; omega
end SHIFT
theorem sh_of_mmF {lo hi lo2 hi2 : Int} {m m' : Nat → Int32} (h : mmF lo hi m m') (hs : hi2 ≤ lo ∨ hi ≤ lo2) : sh 0 lo2 hi2 m m' := fun i h0 h1 h2 => by
  rw [Int.add_zero]
  exact h i.toNat (by omega)
/-- a row that was read: its places in the tables j, its bytes below 4200 -/
def rwA (j : Nat) (F T m : Nat → Int32) : Prop := rwP tt m (F j).toInt (T j).toInt ∧ 0 ≤ (F j).toInt ∧ (T j).toInt ≤ 4100
theorem rwA_cg {j : Nat} {F T m F' T' m' : Nat → Int32} (h0 : m' = m) (h1 : F' = F) (h2 : T' = T) (h : rwA j F T m) : rwA j F' T' m' := by rw [h0, h1, h2]; exact h
theorem rwA_T {j : Nat} {F T m F' T' : Nat → Int32} {ts : List Nat} (k : thF ts F T F' T') (hj : j < 192) (hn : ∀ t ∈ ts, j < 16 * t ∨ 16 * t + 16 ≤ j) (h : rwA j F T m) : rwA j F' T' m := by
  have e := k j hj hn
  unfold rwA
  rw [e.1, e.2]
  exact h
theorem rwA_M {j : Nat} {F T m m' : Nat → Int32} {lo hi : Int} (k : mmF lo hi m m') (hl : 4200 ≤ lo) (h : rwA j F T m) : rwA j F T m' := by
  have s := sh_of_mmF k (lo2 := 0) (hi2 := 4200) (.inl hl)
  have e := (rwP_sh (T := tt) (T' := tt) s (by omega) (by omega) h.2.1 (by have := h.2.2; omega) (fun x y _ _ => Iff.rfl)).mpr h.1
  rw [Int.add_zero, Int.add_zero] at e
  exact ⟨e, h.2⟩
theorem thF_of {t : Nat} {F0 T0 F T : Nat → Int32} (h : ∀ j : Nat, ((j : Int) < 16 * (t : Int) ∨ 16 * (t : Int) + 16 ≤ j) → F j = F0 j ∧ T j = T0 j) : thF [t] F0 T0 F T := fun j hj ht => h j (by have h1 := ht t (List.mem_singleton.mpr rfl); omega)
/-- what nth finds of a row -/
theorem rwq_p {m : Nat → Int32} {b p : Int} {k : Int} (h : rwq tt m b (16 - k).toNat p) (hp : p < b) (h0 : 0 ≤ k) : k ≤ 15 ∧ 0 ≤ elI m p b ∧ rwq tt m b (16 - (k + 1)).toNat (elE m p b) := by
  by_cases c : k ≤ 15
  · rw [show (16 - k).toNat = (16 - (k + 1)).toNat + 1 by omega] at h
    rcases h with h1 | h1
    · omega
    · exact ⟨c, h1.2.1, h1.2.2.2⟩
  · rw [show (16 - k).toNat = 0 by omega] at h
    have h1 : b ≤ p := h
    omega
theorem rwq_pT {T : Int → Int → Prop} {m : Nat → Int32} {b p : Int} {k : Int} (h : rwq T m b (16 - k).toNat p) (hp : p < b) (h0 : 0 ≤ k) : k ≤ 15 ∧ 0 ≤ elI m p b ∧ T p (elE m p b) ∧ rwq T m b (16 - (k + 1)).toNat (elE m p b) := by
  by_cases c : k ≤ 15
  · rw [show (16 - k).toNat = (16 - (k + 1)).toNat + 1 by omega] at h
    rcases h with h1 | h1
    · omega
    · exact ⟨c, h1.2.1, h1.2.2.1, h1.2.2.2⟩
  · rw [show (16 - k).toNat = 0 by omega] at h
    have h1 : b ≤ p := h
    omega
/-- a row that may be left out -/
def rwO (j : Nat) (F T m : Nat → Int32) : Prop := (F j).toInt < 0 ∨ rwA j F T m
theorem rwO_cg {j : Nat} {F T m F' T' m' : Nat → Int32} (h0 : m' = m) (h1 : F' = F) (h2 : T' = T) (h : rwO j F T m) : rwO j F' T' m' := by rw [h0, h1, h2]; exact h
theorem rwO_T {j : Nat} {F T m F' T' : Nat → Int32} {ts : List Nat} (k : thF ts F T F' T') (hj : j < 192) (hn : ∀ t ∈ ts, j < 16 * t ∨ 16 * t + 16 ≤ j) (h : rwO j F T m) : rwO j F' T' m := by
  rcases h with h | h
  · have e := k j hj hn
    exact .inl (by rw [e.1]; exact h)
  · exact .inr (rwA_T k hj hn h)
theorem rwO_M {j : Nat} {F T m m' : Nat → Int32} {lo hi : Int} (k : mmF lo hi m m') (hl : 4200 ≤ lo) (h : rwO j F T m) : rwO j F T m' := by
  rcases h with h | h
  · exact .inl h
  · exact .inr (rwA_M k hl h)
