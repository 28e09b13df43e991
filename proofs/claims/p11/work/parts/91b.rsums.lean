/-! The fields of a sequence that was read: each of its type, all within. -/
section SUMS
variable {m : Nat → Int32} {b : Int} {T : Int → Int → Int → Prop}
theorem fd_not : ∀ (fs : List (Int × Int × Int)) (p n : Int) (c : Int × Int), (∀ f ∈ fs, f.1 ≠ n) → fd m b fs p n c = c
  | [], _, _, _, _ => rfl
  | f :: r, p, n, c, h => by
    have h1 : n ≠ f.1 := fun e => h f (List.mem_cons_self ..) e.symm
    have h2 : ∀ g ∈ r, g.1 ≠ n := fun g hg => h g (List.mem_cons_of_mem _ hg)
    show (if p < b ∧ gb m p = 160 + f.1 then (if n = f.1 then fd m b r (elE m p b) n (elI m p b, elE m p b) else fd m b r (elE m p b) n c) else fd m b r p n c) = c
    by_cases h3 : p < b ∧ gb m p = 160 + f.1
    · rw [if_pos h3, if_neg h1]; exact fd_not r _ n c h2
    · rw [if_neg h3]; exact fd_not r _ n c h2
def nodup (fs : List (Int × Int × Int)) : Prop := (fs.map (fun f => f.1)).Nodup
theorem nodup_cons {f : Int × Int × Int} {r : List (Int × Int × Int)} (h : nodup (f :: r)) : (∀ g ∈ r, g.1 ≠ f.1) ∧ nodup r := by
  unfold nodup at h
  rw [List.map_cons, List.nodup_cons] at h
  exact ⟨fun g hg e => h.1 (by rw [← e]; exact List.mem_map_of_mem hg), h.2⟩
theorem sq_fd : ∀ (fs : List (Int × Int × Int)) (p : Int), nodup fs → sq T m b fs p → 0 ≤ p → ∀ f ∈ fs, (fd m b fs p f.1 (-1, -1) = (-1, -1) ∧ f.2.1 = 1) ∨ (∃ x y : Int, fd m b fs p f.1 (-1, -1) = (x, y) ∧ p + 2 ≤ x ∧ x ≤ y ∧ y ≤ b ∧ T f.2.2 x y)
  | [], _, _, _, _, f, hf => absurd hf (List.not_mem_nil)
  | g :: r, p, hn, hs, h0, f, hf => by
    have hn2 := nodup_cons hn
    have rr := el_rng m (a := p) (b := b) (.inl h0)
    rcases hs with ⟨h1, h2, h3, h4⟩ | ⟨h1, h2, h3⟩
    · rcases List.mem_cons.mp hf with e | e
      · subst e
        refine .inr ⟨elI m p b, elE m p b, ?_, by omega, by omega, by omega, h3⟩
        unfold fd
        rw [if_pos h1, if_pos rfl]
        exact fd_not r _ _ _ hn2.1
      · have ne : f.1 ≠ g.1 := hn2.1 f e
        have q : fd m b (g :: r) p f.1 (-1, -1) = fd m b r (elE m p b) f.1 (-1, -1) := by
          show (if p < b ∧ gb m p = 160 + g.1 then (if f.1 = g.1 then _ else _) else _) = _
          rw [if_pos h1, if_neg ne]
        rw [q]
        rcases sq_fd r (elE m p b) hn2.2 h4 (by omega) f e with h5 | ⟨x, y, h5, h6, h7, h8, h9⟩
        · exact .inl h5
        · exact .inr ⟨x, y, h5, by omega, h7, h8, h9⟩
    · have q : fd m b (g :: r) p f.1 (-1, -1) = fd m b r p f.1 (-1, -1) := by
        show (if p < b ∧ gb m p = 160 + g.1 then _ else _) = _
        rw [if_neg h1]
      rw [q]
      rcases List.mem_cons.mp hf with e | e
      · subst e
        exact .inl ⟨fd_not r _ _ _ hn2.1, h2⟩
      · exact sq_fd r p hn2.2 h3 h0 f e
/-- how long a field is; 0 if it is not there -/
def fsz (m : Nat → Int32) (b : Int) (fs : List (Int × Int × Int)) (p n : Int) : Int := (fd m b fs p n (-1, -1)).2 - (fd m b fs p n (-1, -1)).1
theorem sq_sum : ∀ (fs : List (Int × Int × Int)) (p : Int), nodup fs → sq T m b fs p → 0 ≤ p → (fs.map (fun f => fsz m b fs p f.1)).sum ≤ b - p
  | [], p, _, hs, _ => by
    have e : p = b := hs
    show (0 : Int) ≤ b - p
    omega
  | g :: r, p, hn, hs, h0 => by
    have hn2 := nodup_cons hn
    have rr := el_rng m (a := p) (b := b) (.inl h0)
    rcases hs with ⟨h1, h2, h3, h4⟩ | ⟨h1, h2, h3⟩
    · have ih := sq_sum r (elE m p b) hn2.2 h4 (by omega)
      have q : ∀ f ∈ r, fsz m b (g :: r) p f.1 = fsz m b r (elE m p b) f.1 := fun f hf => by
        have e : fd m b (g :: r) p f.1 (-1, -1) = fd m b r (elE m p b) f.1 (-1, -1) := by
          show (if p < b ∧ gb m p = 160 + g.1 then (if f.1 = g.1 then _ else _) else _) = _
          rw [if_pos h1, if_neg (hn2.1 f hf)]
        unfold fsz
        rw [e]
      have q2 : fsz m b (g :: r) p g.1 = elE m p b - elI m p b := by
        have e : fd m b (g :: r) p g.1 (-1, -1) = (elI m p b, elE m p b) := by
          show (if p < b ∧ gb m p = 160 + g.1 then (if g.1 = g.1 then _ else _) else _) = _
          rw [if_pos h1, if_pos rfl]
          exact fd_not r _ _ _ hn2.1
        unfold fsz
        rw [e]
      rw [List.map_cons, List.sum_cons, List.map_congr_left q, q2]
      omega
    · have ih := sq_sum r p hn2.2 h3 h0
      have q : ∀ f ∈ r, fsz m b (g :: r) p f.1 = fsz m b r p f.1 := fun f hf => by
        have e : fd m b (g :: r) p f.1 (-1, -1) = fd m b r p f.1 (-1, -1) := by
          show (if p < b ∧ gb m p = 160 + g.1 then _ else _) = _
          rw [if_neg h1]
        unfold fsz
        rw [e]
      have q2 : fsz m b (g :: r) p g.1 = 0 := by
        have e : fd m b (g :: r) p g.1 (-1, -1) = (-1, -1) := by
          show (if p < b ∧ gb m p = 160 + g.1 then _ else _) = _
          rw [if_neg h1]
          exact fd_not r _ _ _ hn2.1
        unfold fsz
        rw [e]
        rfl
      rw [List.map_cons, List.sum_cons, List.map_congr_left q, q2]
      omega
end SUMS
/-- the places that a sequence laid down for thing t -/
def fdA (m : Nat → Int32) (b t p : Int) (i : Nat) (F T : Nat → Int32) : Prop := ∀ n : Int, 0 ≤ n → n < 16 → ((F (16 * t + n).toNat).toInt, (T (16 * t + n).toNat).toInt) = fd m b (rs i 0) p n (-1, -1)
theorem fdA_ty {m : Nat → Int32} {b t p : Int} {i : Nat} {F T : Nat → Int32} {Ty : Int → Int → Int → Prop} (h : fdA m b t p i F T) (hn : nodup (rs i 0)) (hs : sq Ty m b (rs i 0) p) (h0 : 0 ≤ p) {n may ty : Int} (hf : (n, may, ty) ∈ rs i 0) (hn0 : 0 ≤ n) (hn1 : n < 16) : ((F (16 * t + n).toNat).toInt = -1 ∧ (T (16 * t + n).toNat).toInt = -1 ∧ may = 1) ∨ (p + 2 ≤ (F (16 * t + n).toNat).toInt ∧ (F (16 * t + n).toNat).toInt ≤ (T (16 * t + n).toNat).toInt ∧ (T (16 * t + n).toNat).toInt ≤ b ∧ Ty ty (F (16 * t + n).toNat).toInt (T (16 * t + n).toNat).toInt) := by
  have e := h n hn0 hn1
  rcases sq_fd (rs i 0) p hn hs h0 (n, may, ty) hf with h1 | ⟨x, y, h1, h2, h3, h4, h5⟩
  · have e2 := e.trans h1.1
    exact .inl ⟨congrArg Prod.fst e2, congrArg Prod.snd e2, h1.2⟩
  · have e2 := e.trans h1
    have e3 : (F (16 * t + n).toNat).toInt = x := congrArg Prod.fst e2
    have e4 : (T (16 * t + n).toNat).toInt = y := congrArg Prod.snd e2
    rw [e3, e4]
    exact .inr ⟨h2, h3, h4, h5⟩
theorem rs3 : rs 3 0 = [(1, 0, 105), (2, 0, 105), (3, 1, 80), (4, 0, 81)] := by decide +kernel
theorem rs12 : rs 12 0 = [(0, 0, 102), (1, 1, 78), (2, 0, 115), (3, 1, 78), (4, 1, 116), (5, 0, 116), (6, 1, 116), (7, 0, 117), (8, 0, 101), (9, 1, 104), (10, 1, 69), (11, 1, 107)] := by decide +kernel
theorem nd_all : ∀ i, i < 26 → nodup (rs i 0) := by unfold nodup; decide +kernel
theorem sz_pos {m : Nat → Int32} {b p : Int} {i : Nat} {Ty : Int → Int → Int → Prop} (hi : i < 26) (hs : sq Ty m b (rs i 0) p) (h0 : 0 ≤ p) : ∀ f ∈ rs i 0, 0 ≤ fsz m b (rs i 0) p f.1 := fun f hf => by
  rcases sq_fd (rs i 0) p (nd_all i hi) hs h0 f hf with h1 | ⟨x, y, h1, h2, h3, h4, h5⟩
  · unfold fsz; rw [h1.1]; decide
  · unfold fsz; rw [h1]; show 0 ≤ y - x; omega
theorem req_R {m : Nat → Int32} {a b : Int} {F T : Nat → Int32} (h : sqP (isF m 5) m (rs 3 0) a b) (h0 : 0 ≤ a) (hb : b ≤ 4100) (hp : fdA m b 0 (elI m a b) 3 F T) : rwO (16 * 0 + 3 : Int).toNat F T m ∧ sqP (isF m 4) m (rs 12 0) (F (16 * 0 + 4 : Int).toNat).toInt (T (16 * 0 + 4 : Int).toNat).toInt ∧ 0 ≤ (F (16 * 0 + 4 : Int).toNat).toInt ∧ (T (16 * 0 + 4 : Int).toNat).toInt ≤ b := by
  have w := h.1
  unfold whP at w
  have rr := el_rng m (a := a) (b := b) (.inl h0)
  have k3 := fdA_ty hp (nd_all 3 (by decide)) h.2 (by omega) (n := 3) (may := 1) (ty := 80) (by rw [rs3]; decide) (by decide) (by decide)
  have k4 := fdA_ty hp (nd_all 3 (by decide)) h.2 (by omega) (n := 4) (may := 0) (ty := 81) (by rw [rs3]; decide) (by decide) (by decide)
  refine ⟨?_, ?_⟩
  · rcases k3 with k | k
    · exact .inl (by omega)
    · have k5 := k.2.2.2
      rw [is_80] at k5
      exact .inr ⟨rwP_tt k5, by omega, by omega⟩
  · rcases k4 with k | k
    · exact absurd k.2.2 (by decide)
    · have k5 := k.2.2.2
      rw [is_81] at k5
      exact ⟨k5, by omega, by omega⟩
/-- three fields of a thing are together no longer than 4200 -/
def sz3 (i j k : Nat) (F T : Nat → Int32) : Prop := ((T i).toInt - (F i).toInt) + ((T j).toInt - (F j).toInt) + ((T k).toInt - (F k).toInt) ≤ 4200
theorem body_R {m : Nat → Int32} {a b : Int} {F T : Nat → Int32} (h : sqP (isF m 4) m (rs 12 0) a b) (h0 : 0 ≤ a) (hb : b ≤ 4100) (hp : fdA m b 1 (elI m a b) 12 F T) : rwA (16 * 1 + 8 : Int).toNat F T m ∧ sz3 (16 * 1 + 1 : Int).toNat (16 * 1 + 3 : Int).toNat (16 * 1 + 9 : Int).toNat F T := by
  have w := h.1
  unfold whP at w
  have rr := el_rng m (a := a) (b := b) (.inl h0)
  have k8 := fdA_ty hp (nd_all 12 (by decide)) h.2 (by omega) (n := 8) (may := 0) (ty := 101) (by rw [rs12]; decide) (by decide) (by decide)
  refine ⟨?_, ?_⟩
  · rcases k8 with k | k
    · exact absurd k.2.2 (by decide)
    · have k5 := k.2.2.2
      rw [is_101] at k5
      exact ⟨rwP_tt k5, by omega, by omega⟩
  · have s := sq_sum (rs 12 0) (elI m a b) (nd_all 12 (by decide)) h.2 (by omega)
    have q : ∀ n : Int, 0 ≤ n → n < 16 → fsz m b (rs 12 0) (elI m a b) n = (T (16 * 1 + n).toNat).toInt - (F (16 * 1 + n).toNat).toInt := fun n h1 h2 => by
      unfold fsz
      rw [← hp n h1 h2]
    have pos := sz_pos (by decide) h.2 (by omega)
    have p0 := pos (0, 0, 102) (by rw [rs12]; decide)
    have p2 := pos (2, 0, 115) (by rw [rs12]; decide)
    have p4 := pos (4, 1, 116) (by rw [rs12]; decide)
    have p5 := pos (5, 0, 116) (by rw [rs12]; decide)
    have p6 := pos (6, 1, 116) (by rw [rs12]; decide)
    have p7 := pos (7, 0, 117) (by rw [rs12]; decide)
    have p8 := pos (8, 0, 101) (by rw [rs12]; decide)
    have p10 := pos (10, 1, 69) (by rw [rs12]; decide)
    have p11 := pos (11, 1, 107) (by rw [rs12]; decide)
    have e1 := q 1 (by decide) (by decide)
    have e3 := q 3 (by decide) (by decide)
    have e9 := q 9 (by decide) (by decide)
    generalize fsz m b (rs 12 0) (elI m a b) = z at s e1 e3 e9 p0 p2 p4 p5 p6 p7 p8 p10 p11
    rw [rs12] at s
    simp only [List.map_cons, List.map_nil, List.sum_cons, List.sum_nil] at s p0 p2 p4 p5 p6 p7 p8 p10 p11
    unfold sz3
    omega
/-- a ticket that was opened: the name in it; its fields within -/
def tk0 (F T m : Nat → Int32) : Prop := NP m (F (16 * 4 + 3 : Int).toNat).toInt (T (16 * 4 + 3 : Int).toNat).toInt ∧ 4200 ≤ (F (16 * 4 + 3 : Int).toNat).toInt ∧ (T (16 * 4 + 3 : Int).toNat).toInt ≤ 8400 ∧ sz3 (16 * 4 + 2 : Int).toNat (16 * 4 + 3 : Int).toNat (16 * 4 + 9 : Int).toNat F T
theorem tk0_cg {F T m F' T' m' : Nat → Int32} (h0 : m' = m) (h1 : F' = F) (h2 : T' = T) (h : tk0 F T m) : tk0 F' T' m' := by rw [h0, h1, h2]; exact h
theorem thF_4 {F T F' T' : Nat → Int32} {ts : List Nat} (k : thF ts F T F' T') (hn : ∀ t ∈ ts, t ≠ 4) : ∀ j : Nat, 64 ≤ j → j < 80 → F' j = F j ∧ T' j = T j := fun j h1 h2 => k j (by omega) (fun t ht => by have h3 := hn t ht; omega)
theorem tk0_T {F T m F' T' : Nat → Int32} {ts : List Nat} (k : thF ts F T F' T') (_ : ∀ t ∈ ts, t < 12) (hn : ∀ t ∈ ts, t ≠ 4) (h : tk0 F T m) : tk0 F' T' m := by
  have e := thF_4 k hn
  have e2 := e (16 * 4 + 2 : Int).toNat (by decide) (by decide)
  have e3 := e (16 * 4 + 3 : Int).toNat (by decide) (by decide)
  have e9 := e (16 * 4 + 9 : Int).toNat (by decide) (by decide)
  unfold tk0 sz3 at h ⊢
  rw [e2.1, e2.2, e3.1, e3.2, e9.1, e9.2]
  exact h
theorem tk_sh {F T m m' : Nat → Int32} {lo hi : Int} (k : mmF lo hi m m') (hl : 8410 ≤ lo) (h : tk0 F T m) : NP m' (F (16 * 4 + 3 : Int).toNat).toInt (T (16 * 4 + 3 : Int).toNat).toInt ∧ npI m' (F (16 * 4 + 3 : Int).toNat).toInt (T (16 * 4 + 3 : Int).toNat).toInt = npI m (F (16 * 4 + 3 : Int).toNat).toInt (T (16 * 4 + 3 : Int).toNat).toInt := by
  have s := sh_of_mmF k (lo2 := 4200) (hi2 := 8410) (.inl hl)
  have e := NP_sh s (by omega) (by omega) h.2.1 (by have := h.2.2.1; omega) h.1
  rw [Int.add_zero, Int.add_zero, Int.add_zero] at e
  exact e
theorem tk0_M {F T m m' : Nat → Int32} {lo hi : Int} (k : mmF lo hi m m') (hl : 8410 ≤ lo) (h : tk0 F T m) : tk0 F T m' := ⟨(tk_sh k hl h).1, h.2⟩
/-- and it is short -/
def tkA (F T m : Nat → Int32) : Prop := tk0 F T m ∧ (T (16 * 4 + 3 : Int).toNat).toInt - npI m (F (16 * 4 + 3 : Int).toNat).toInt (T (16 * 4 + 3 : Int).toNat).toInt ≤ 44
theorem tkA_cg {F T m F' T' m' : Nat → Int32} (h0 : m' = m) (h1 : F' = F) (h2 : T' = T) (h : tkA F T m) : tkA F' T' m' := by rw [h0, h1, h2]; exact h
theorem tkA_T {F T m F' T' : Nat → Int32} {ts : List Nat} (k : thF ts F T F' T') (hj : ∀ t ∈ ts, t < 12) (hn : ∀ t ∈ ts, t ≠ 4) (h : tkA F T m) : tkA F' T' m := by
  have e3 := thF_4 k hn (16 * 4 + 3 : Int).toNat (by decide) (by decide)
  refine ⟨tk0_T k hj hn h.1, ?_⟩
  rw [e3.1, e3.2]
  exact h.2
theorem tkA_M {F T m m' : Nat → Int32} {lo hi : Int} (k : mmF lo hi m m') (hl : 8410 ≤ lo) (h : tkA F T m) : tkA F T m' := by
  refine ⟨tk0_M k hl h.1, ?_⟩
  rw [(tk_sh k hl h.1).2]
  exact h.2
theorem tk_fin {F T m m2 : Nat → Int32} {a b p q P1 Q1 x y z : Int} (h : tk0 F T m) (ha : a = (F (16 * 4 + 3 : Int).toNat).toInt) (hb : b = (T (16 * 4 + 3 : Int).toNat).toInt) (hp : P1 = npI m a b ∧ Q1 = b) (xp : p = P1) (xq : q = Q1) (hm : m2 = m) (hz : z = 1 ↔ gb m2 p = 48 ∧ 0 ≤ elI m2 p q) (hv : z = 1 → x = elI m2 p q ∧ y = elE m2 p q ∧ p + 2 ≤ x ∧ y ≤ q) (hs : y - x ≤ 40) : tkA F T m := by
  subst hm ha hb xp xq
  rw [hp.1, hp.2] at hz hv
  have s := NP_size (by have := h.2.1; omega) h.1
  have w := s.2.2.2
  have c := el_cases m2 (a := npI m2 (F (16 * 4 + 3 : Int).toNat).toInt (T (16 * 4 + 3 : Int).toNat).toInt) (b := (T (16 * 4 + 3 : Int).toNat).toInt) (.inl (by have := h.2.1; omega))
  have g1 := gb_rng m2 (npI m2 (F (16 * 4 + 3 : Int).toNat).toInt (T (16 * 4 + 3 : Int).toNat).toInt + 1)
  have g2 := gb_rng m2 (npI m2 (F (16 * 4 + 3 : Int).toNat).toInt (T (16 * 4 + 3 : Int).toNat).toInt + 2)
  have g3 := gb_rng m2 (npI m2 (F (16 * 4 + 3 : Int).toNat).toInt (T (16 * 4 + 3 : Int).toNat).toInt + 3)
  have g4 := gb_rng m2 (npI m2 (F (16 * 4 + 3 : Int).toNat).toInt (T (16 * 4 + 3 : Int).toNat).toInt + 4)
  unfold whP at w
  refine ⟨h, ?_⟩
  have z1 : z = 1 := hz.mpr ⟨w.1, w.2.1⟩
  have v := hv z1
  omega
/-- an authenticator that was opened: its name -/
def auA (F T m : Nat → Int32) : Prop := NP m (F (16 * 5 + 2 : Int).toNat).toInt (T (16 * 5 + 2 : Int).toNat).toInt ∧ 13200 ≤ (F (16 * 5 + 2 : Int).toNat).toInt
theorem auA_cg {F T m F' T' m' : Nat → Int32} (h0 : m' = m) (h1 : F' = F) (h2 : T' = T) (h : auA F T m) : auA F' T' m' := by rw [h0, h1, h2]; exact h
theorem auA_T {F T m F' T' : Nat → Int32} {ts : List Nat} (k : thF ts F T F' T') (hj : ∀ t ∈ ts, t < 12) (hn : ∀ t ∈ ts, t ≠ 5) (h : auA F T m) : auA F' T' m := by
  have e2 := k (16 * 5 + 2 : Int).toNat (by decide) (fun t ht => by have h3 := hn t ht; show 82 < 16 * t ∨ 16 * t + 16 ≤ 82; omega)
  unfold auA at h ⊢
  rw [e2.1, e2.2]
  exact h
/-- the same, and as short as the ticket's -/
def asA (F T m : Nat → Int32) : Prop := NP m (F (16 * 5 + 2 : Int).toNat).toInt (T (16 * 5 + 2 : Int).toNat).toInt ∧ (T (16 * 5 + 2 : Int).toNat).toInt - npI m (F (16 * 5 + 2 : Int).toNat).toInt (T (16 * 5 + 2 : Int).toNat).toInt ≤ 44
theorem asA_cg {F T m F' T' m' : Nat → Int32} (h0 : m' = m) (h1 : F' = F) (h2 : T' = T) (h : asA F T m) : asA F' T' m' := by rw [h0, h1, h2]; exact h
theorem asA_T {F T m F' T' : Nat → Int32} {ts : List Nat} (k : thF ts F T F' T') (hj : ∀ t ∈ ts, t < 12) (hn : ∀ t ∈ ts, t ≠ 5) (h : asA F T m) : asA F' T' m := by
  have e2 := k (16 * 5 + 2 : Int).toNat (by decide) (fun t ht => by have h3 := hn t ht; show 82 < 16 * t ∨ 16 * t + 16 ≤ 82; omega)
  unfold asA at h ⊢
  rw [e2.1, e2.2]
  exact h
theorem as_of {F T m : Nat → Int32} (h1 : tkA F T m) (h2 : auA F T m) {a b c d : Int} (ha : a = (F (16 * 5 + 2 : Int).toNat).toInt) (hb : b = (T (16 * 5 + 2 : Int).toNat).toInt) (hc : c = (F (16 * 4 + 3 : Int).toNat).toInt) (hd : d = (T (16 * 4 + 3 : Int).toNat).toInt) (h : NP m a b → NP m c d → b - npI m a b = d - npI m c d) : asA F T m := by
  subst ha hb hc hd
  have e := h h2.1 h1.1.1
  refine ⟨h2.1, ?_⟩
  rw [e]
  exact h1.2
theorem rs15 : rs 15 0 = [(0, 0, 102), (1, 0, 75), (2, 0, 115), (3, 0, 78), (4, 0, 82), (5, 0, 116), (6, 1, 116), (7, 0, 116), (8, 1, 116), (9, 1, 104), (10, 1, 65)] := by decide +kernel
theorem rs16 : rs 16 0 = [(0, 0, 105), (1, 0, 115), (2, 0, 78), (3, 1, 67), (4, 0, 109), (5, 0, 116), (6, 1, 75), (7, 1, 117), (8, 1, 65)] := by decide +kernel
theorem rs14 : rs 14 0 = [(0, 0, 105), (1, 0, 105), (2, 0, 102), (3, 0, 84), (4, 0, 69)] := by decide +kernel
theorem apreq_T {m : Nat → Int32} {a b : Int} {F T : Nat → Int32} (h : sqP (isF m 5) m (rs 14 0) a b) (h0 : 0 ≤ a) (hp : fdA m b 2 (elI m a b) 14 F T) : whP m (F (16 * 2 + 3 : Int).toNat).toInt (T (16 * 2 + 3 : Int).toNat).toInt 97 := by
  have w := h.1
  unfold whP at w
  have rr := el_rng m (a := a) (b := b) (.inl h0)
  have k3 := fdA_ty hp (nd_all 14 (by decide)) h.2 (by omega) (n := 3) (may := 0) (ty := 84) (by rw [rs14]; decide) (by decide) (by decide)
  rcases k3 with k | k
  · exact absurd k.2.2 (by decide)
  · have k5 := k.2.2.2
    rw [is_84] at k5
    exact k5.1
theorem auth_N {m : Nat → Int32} {a b : Int} {F T : Nat → Int32} (h : sqP (isF m 5) m (rs 16 0) a b) (h0 : 13200 ≤ a) (hp : fdA m b 5 (elI m a b) 16 F T) : auA F T m := by
  have w := h.1
  unfold whP at w
  have rr := el_rng m (a := a) (b := b) (.inl (by omega))
  have k3 := fdA_ty hp (nd_all 16 (by decide)) h.2 (by omega) (n := 2) (may := 0) (ty := 78) (by rw [rs16]; decide) (by decide) (by decide)
  rcases k3 with k | k
  · exact absurd k.2.2 (by decide)
  · have k5 := k.2.2.2
    rw [is_78] at k5
    exact ⟨k5, by omega⟩
theorem part_N {m : Nat → Int32} {a b : Int} {F T : Nat → Int32} (h : sqP (isF m 5) m (rs 15 0) a b) (h0 : 4200 ≤ a) (hb : b ≤ 8400) (hp : fdA m b 4 (elI m a b) 15 F T) : tk0 F T m := by
  have w := h.1
  unfold whP at w
  have rr := el_rng m (a := a) (b := b) (.inl (by omega))
  have k3 := fdA_ty hp (nd_all 15 (by decide)) h.2 (by omega) (n := 3) (may := 0) (ty := 78) (by rw [rs15]; decide) (by decide) (by decide)
  rcases k3 with k | k
  · exact absurd k.2.2 (by decide)
  · have k5 := k.2.2.2
    rw [is_78] at k5
    refine ⟨k5, by omega, by omega, ?_⟩
    have s := sq_sum (rs 15 0) (elI m a b) (nd_all 15 (by decide)) h.2 (by omega)
    have q : ∀ n : Int, 0 ≤ n → n < 16 → fsz m b (rs 15 0) (elI m a b) n = (T (16 * 4 + n).toNat).toInt - (F (16 * 4 + n).toNat).toInt := fun n h1 h2 => by
      unfold fsz
      rw [← hp n h1 h2]
    have pos := sz_pos (by decide) h.2 (by omega)
    have e2 := q 2 (by decide) (by decide)
    have e3 := q 3 (by decide) (by decide)
    have e9 := q 9 (by decide) (by decide)
    have p0 := pos (0, 0, 102) (by rw [rs15]; decide)
    have p1 := pos (1, 0, 75) (by rw [rs15]; decide)
    have p4 := pos (4, 0, 82) (by rw [rs15]; decide)
    have p5 := pos (5, 0, 116) (by rw [rs15]; decide)
    have p6 := pos (6, 1, 116) (by rw [rs15]; decide)
    have p7 := pos (7, 0, 116) (by rw [rs15]; decide)
    have p8 := pos (8, 1, 116) (by rw [rs15]; decide)
    have p10 := pos (10, 1, 65) (by rw [rs15]; decide)
    generalize fsz m b (rs 15 0) (elI m a b) = z at s e2 e3 e9 p0 p1 p4 p5 p6 p7 p8 p10
    rw [rs15] at s
    simp only [List.map_cons, List.map_nil, List.sum_cons, List.sum_nil] at s p0 p1 p4 p5 p6 p7 p8 p10
    unfold sz3
    omega
theorem sz3_cg {i j k : Nat} {F T F' T' : Nat → Int32} (h1 : F' = F) (h2 : T' = T) (h : sz3 i j k F T) : sz3 i j k F' T' := by rw [h1, h2]; exact h
theorem sz3_T {i j k : Nat} {F T F' T' : Nat → Int32} {ts : List Nat} (g : thF ts F T F' T') (hj : i < 192 ∧ j < 192 ∧ k < 192) (hn : ∀ t ∈ ts, (i < 16 * t ∨ 16 * t + 16 ≤ i) ∧ (j < 16 * t ∨ 16 * t + 16 ≤ j) ∧ (k < 16 * t ∨ 16 * t + 16 ≤ k)) (h : sz3 i j k F T) : sz3 i j k F' T' := by
  have e1 := g i hj.1 (fun t ht => (hn t ht).1)
  have e2 := g j hj.2.1 (fun t ht => (hn t ht).2.1)
  have e3 := g k hj.2.2 (fun t ht => (hn t ht).2.2)
  unfold sz3 at h ⊢
  rw [e1.1, e1.2, e2.1, e2.2, e3.1, e3.2]
  exact h
/-- a new ticket's fields: those of the ticket shown, if one was shown -/
def s4 (v : Int32) (F T : Nat → Int32) : Prop := v = iI 1 ∨ sz3 (16 * 4 + 2 : Int).toNat (16 * 4 + 3 : Int).toNat (16 * 4 + 9 : Int).toNat F T
theorem s4_cg {v v' : Int32} {F T F' T' : Nat → Int32} (h0 : v' = v) (h1 : F' = F) (h2 : T' = T) (h : s4 v F T) : s4 v' F' T' := by rw [h0, h1, h2]; exact h
theorem s4_T {v : Int32} {F T F' T' : Nat → Int32} {ts : List Nat} (g : thF ts F T F' T') (hn : ∀ t ∈ ts, t ≠ 4) (h : s4 v F T) : s4 v F' T' := by
  rcases h with h | h
  · exact .inl h
  · exact .inr (sz3_T g (by decide) (fun t ht => by have h3 := hn t ht; exact ⟨by show 66 < 16 * t ∨ 16 * t + 16 ≤ 66; omega, by show 67 < 16 * t ∨ 16 * t + 16 ≤ 67; omega, by show 73 < 16 * t ∨ 16 * t + 16 ≤ 73; omega⟩) h)
def rrP (rr : Int) (v : Int32) (F T : Nat → Int32) : Prop := (v = iI 1 ∧ rr = 0 ∨ v = iI 0 ∧ rr = (T (16 * 4 + 2 : Int).toNat).toInt - (F (16 * 4 + 2 : Int).toNat).toInt) ∧ 0 ≤ rr ∧ rr ≤ 4200
theorem rrP_cg {rr : Int} {v v' : Int32} {F T F' T' : Nat → Int32} (h0 : v' = v) (h1 : F' = F) (h2 : T' = T) (h : rrP rr v F T) : rrP rr v' F' T' := by rw [h0, h1, h2]; exact h
theorem rrP_T {rr : Int} {v : Int32} {F T F' T' : Nat → Int32} {ts : List Nat} (g : thF ts F T F' T') (hn : ∀ t ∈ ts, t ≠ 4) (h : rrP rr v F T) : rrP rr v F' T' := by
  have e := g (16 * 4 + 2 : Int).toNat (by decide) (fun t ht => by have h3 := hn t ht; show 66 < 16 * t ∨ 16 * t + 16 ≤ 66; omega)
  unfold rrP at h ⊢
  rw [e.1, e.2]
  exact h
theorem rr_0 {rr z : Int} {v : Int32} {F T : Nat → Int32} (h : rrP rr v F T) (e : v = iI z) (hz : z = 0) : rr = (T (16 * 4 + 2 : Int).toNat).toInt - (F (16 * 4 + 2 : Int).toNat).toInt := by
  rcases h.1 with h1 | h1
  · subst hz
    exact absurd (h1.1.symm.trans e) (by decide)
  · exact h1.2
theorem rr_1 {rr z : Int} {v : Int32} {F T : Nat → Int32} (h : rrP rr v F T) (e : v = iI z) (hz : z = 1) : rr = 0 := by
  rcases h.1 with h1 | h1
  · exact h1.2
  · subst hz
    exact absurd (h1.1.symm.trans e) (by decide)
theorem s4_0 {z : Int} {v : Int32} {F T : Nat → Int32} (h : s4 v F T) (e : v = iI z) (hz : z = 0) : sz3 (16 * 4 + 2 : Int).toNat (16 * 4 + 3 : Int).toNat (16 * 4 + 9 : Int).toNat F T := by
  rcases h with h1 | h1
  · subst hz
    exact absurd (h1.symm.trans e) (by decide)
  · exact h1
theorem rr_ex {z : Int} {v : Int32} {F T : Nat → Int32} (e : v = iI z) (h0 : 0 ≤ z) (h1 : z ≤ 1) (hp : pG2 F T) : ∃ rr : Int, rrP rr v F T := by
  have p := hp (16 * 4 + 2 : Int).toNat (by decide)
  unfold pr at p
  rcases (show z = 0 ∨ z = 1 by omega) with h | h
  · subst h; exact ⟨_, .inr ⟨e, rfl⟩, by omega, by omega⟩
  · subst h; exact ⟨0, .inl ⟨e, rfl⟩, by omega, by omega⟩
/-- what an error tells of a principal, if it does -/
def hD (I : Nat → Int32) : Prop := I 68 = iI 0 ∨ ∃ d : Int, I 70 = iI d ∧ 0 ≤ d ∧ d ≤ 11
theorem hD_cg {I I' : Nat → Int32} (h1 : I' 68 = I 68) (h2 : I' 70 = I 70) (h : hD I) : hD I' := by
  rcases h with h | ⟨d, h, h3⟩
  · exact .inl (h1.trans h)
  · exact .inr ⟨d, h2.trans h, h3⟩
theorem ia_cg {I I' : Nat → Int32} (h : I' 69 = I 69) (k : I 69 = iI 1) : I' 69 = iI 1 := h.trans k
def ssP (ss : Int) (F T : Nat → Int32) : Prop := ss = (T (16 * 1 + 3 : Int).toNat).toInt - (F (16 * 1 + 3 : Int).toNat).toInt
theorem ssP_cg {ss : Int} {F T F' T' : Nat → Int32} (h1 : F' = F) (h2 : T' = T) (h : ssP ss F T) : ssP ss F' T' := by rw [h1, h2]; exact h
theorem ssP_T {ss : Int} {F T F' T' : Nat → Int32} {ts : List Nat} (g : thF ts F T F' T') (hn : ∀ t ∈ ts, t ≠ 1) (h : ssP ss F T) : ssP ss F' T' := by
  have e := g (16 * 1 + 3 : Int).toNat (by decide) (fun t ht => by have h3 := hn t ht; show 19 < 16 * t ∨ 16 * t + 16 ≤ 19; omega)
  unfold ssP at h ⊢
  rw [e.1, e.2]
  exact h
theorem hd_1 {I : Nat → Int32} {z : Int} (h : hD I) (e : I 68 = iI z) (hz : z = 1) : ∃ d : Int, I 70 = iI d ∧ 0 ≤ d ∧ d ≤ 11 := by
  rcases h with h1 | h1
  · subst hz
    exact absurd (h1.symm.trans e) (by decide)
  · exact h1
