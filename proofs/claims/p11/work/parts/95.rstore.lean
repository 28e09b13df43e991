/-! Tickets and names that are kept: what was read of them once can be read again. -/
theorem nar_id {x : Int32} (h0 : -128 ≤ x.toInt) (h1 : x.toInt ≤ 127) : vp_nar .byte x = x := by
  rw [vp_nar_byte]
  apply Int32.toInt_inj.mp
  rw [Int8.toInt_toInt32, Int32.toInt_toInt8]
  exact Int.bmod_eq_of_le (by omega) (by omega)
/-- n bytes of S from s on lie in D from d on -/
def cpy (D S : Nat → Int32) (d s n : Int) : Prop := ∀ j : Int, 0 ≤ j → j < n → D (d + j).toNat = S (s + j).toNat
theorem cpy_0 {D S : Nat → Int32} {d s n : Int} (h : n = 0) : cpy D S d s n := fun j h0 h1 => by omega
theorem cpy_cg {D S D' S' : Nat → Int32} {d s n : Int} (h1 : D' = D) (h2 : S' = S) (h : cpy D S d s n) : cpy D' S' d s n := by rw [h1, h2]; exact h
theorem cpy_go {B B' : Nat → Nat → Int32} {k l : Nat} {d s n z i j : Int} (hd : 0 ≤ d) (hn : 0 ≤ n) (hk : l ≠ k) (w : rV B B' k i.toNat (vp_nar .byte (iI z))) (hi : i = d + n) (hz : z = (B l j.toNat).toInt) (hj : j = s + n) (h0 : -128 ≤ z) (h1 : z ≤ 127) (h : cpy (B k) (B l) d s n) : cpy (B' k) (B' l) d s (n + 1) := fun q h2 h3 => by
  subst hi hj
  rw [w.1, w.2 l hk]
  by_cases e : q = n
  · subst e
    rw [pk_us, nar_id (by rw [iI_toInt ⟨by omega, by omega⟩]; exact h0) (by rw [iI_toInt ⟨by omega, by omega⟩]; exact h1), hz, ← iI_of]
  · rw [pk_un (show (d + q).toNat ≠ (d + n).toNat by omega)]
    exact h q h2 (by omega)
theorem sh_cpy {D S : Nat → Int32} {d s n : Int} {m : Nat → Int32} {o : Nat} (hs : 0 ≤ s) (hd : 0 ≤ d) (hm : ∀ i : Nat, m i = S (o + i)) (ho : (o : Int) = s) (h : cpy D S d s n) : sh d 0 n m D := fun i h0 h1 h2 => by
  rw [hm, show o + i.toNat = (s + i).toNat by omega, show (i + d) = (d + i) by omega]
  exact h i h0 h2
/-- the same, seen from where the bytes are kept: mem's stretch lies at the start of a slot -/
theorem sh_cpy2 {D S : Nat → Int32} {d s n : Int} {m : Nat → Int32} {o : Nat} (hs : 0 ≤ s) (hm : ∀ i : Nat, m i = D (o + i)) (ho : (o : Int) = d) (h : cpy D S d s n) : sh (-s) s (s + n) S m := fun i h0 h1 h2 => by
  rw [hm, show o + (i + -s).toNat = (d + (i - s)).toNat by omega]
  rw [h (i - s) (by omega) (by omega), show (s + (i - s)).toNat = i.toNat by omega]
def slT (b98 b107 : Nat → Int32) (t : Nat) (sz rl cl : Int) : Prop := whP (fun i => b98 (4200 * t + i)) 0 sz 97 ∧ NP (fun i => b107 (400 * t + rl.toNat + i)) 0 cl ∧ cl - npI (fun i => b107 (400 * t + rl.toNat + i)) 0 cl ≤ 200
/-- every ticket that is kept is one, its client a short name -/
def stT (b97 b98 b100 b107 b108 b109 : Nat → Int32) : Prop := ∀ t : Nat, t < 32 → (b97 t).toInt = 0 ∨ slT b98 b107 t (b100 t).toInt (b108 t).toInt (b109 t).toInt
theorem stT_cg {b97 b98 b100 b107 b108 b109 c97 c98 c100 c107 c108 c109 : Nat → Int32} (h1 : c97 = b97) (h2 : c98 = b98) (h3 : c100 = b100) (h4 : c107 = b107) (h5 : c108 = b108) (h6 : c109 = b109) (h : stT b97 b98 b100 b107 b108 b109) : stT c97 c98 c100 c107 c108 c109 := by rw [h1, h2, h3, h4, h5, h6]; exact h
theorem stT_off {b97 b98 b100 b107 b108 b109 : Nat → Int32} {i : Nat} {x : Int32} (hx : x.toInt = 0) (h : stT b97 b98 b100 b107 b108 b109) : stT (upd b97 i x) b98 b100 b107 b108 b109 := fun t ht => by
  by_cases e : t = i
  · rw [e, pk_us]; exact .inl hx
  · rw [pk_un e]; exact h t ht
/-- all but one -/
def stX (u : Int) (b97 b98 b100 b107 b108 b109 : Nat → Int32) : Prop := ∀ t : Nat, t < 32 → (t : Int) ≠ u → (b97 t).toInt = 0 ∨ slT b98 b107 t (b100 t).toInt (b108 t).toInt (b109 t).toInt
theorem stX_cg {u : Int} {b97 b98 b100 b107 b108 b109 c97 c98 c100 c107 c108 c109 : Nat → Int32} (h1 : c97 = b97) (h2 : c98 = b98) (h3 : c100 = b100) (h4 : c107 = b107) (h5 : c108 = b108) (h6 : c109 = b109) (h : stX u b97 b98 b100 b107 b108 b109) : stX u c97 c98 c100 c107 c108 c109 := by rw [h1, h2, h3, h4, h5, h6]; exact h
theorem stX_of {u : Int} {b97 b98 b100 b107 b108 b109 : Nat → Int32} (h : stT b97 b98 b100 b107 b108 b109) : stX u b97 b98 b100 b107 b108 b109 := fun t ht _ => h t ht
theorem stX_97 {u : Int} {b97 b98 b100 b107 b108 b109 : Nat → Int32} {i : Nat} {x : Int32} (hi : (i : Int) = u) (h : stX u b97 b98 b100 b107 b108 b109) : stX u (upd b97 i x) b98 b100 b107 b108 b109 := fun t ht hn => by rw [pk_un (show t ≠ i by omega)]; exact h t ht hn
theorem stX_100 {u : Int} {b97 b98 b100 b107 b108 b109 : Nat → Int32} {i : Nat} {x : Int32} (hi : (i : Int) = u) (h : stX u b97 b98 b100 b107 b108 b109) : stX u b97 b98 (upd b100 i x) b107 b108 b109 := fun t ht hn => by rw [pk_un (show t ≠ i by omega)]; exact h t ht hn
theorem stX_108 {u : Int} {b97 b98 b100 b107 b108 b109 : Nat → Int32} {i : Nat} {x : Int32} (hi : (i : Int) = u) (h : stX u b97 b98 b100 b107 b108 b109) : stX u b97 b98 b100 b107 (upd b108 i x) b109 := fun t ht hn => by rw [pk_un (show t ≠ i by omega)]; exact h t ht hn
theorem stX_109 {u : Int} {b97 b98 b100 b107 b108 b109 : Nat → Int32} {i : Nat} {x : Int32} (hi : (i : Int) = u) (h : stX u b97 b98 b100 b107 b108 b109) : stX u b97 b98 b100 b107 b108 (upd b109 i x) := fun t ht hn => by rw [pk_un (show t ≠ i by omega)]; exact h t ht hn
theorem NP_ext {m m' : Nat → Int32} {b : Int} (h : ∀ i : Nat, (i : Int) < b → m' i = m i) (hn : NP m 0 b) : NP m' 0 b ∧ npI m' 0 b = npI m 0 b := by
  have s : sh 0 0 b m m' := fun i h0 h1 h2 => by rw [Int.add_zero]; exact h i.toNat (by omega)
  have e := NP_sh s (by omega) (by omega) (Int.le_refl 0) (Int.le_refl b) hn
  rw [Int.add_zero, Int.add_zero, Int.add_zero] at e
  exact e
theorem wh_ext {m m' : Nat → Int32} {b tag : Int} (h : ∀ i : Nat, (i : Int) < b → m' i = m i) (hn : whP m 0 b tag) : whP m' 0 b tag := by
  have s : sh 0 0 b m m' := fun i h0 h1 h2 => by rw [Int.add_zero]; exact h i.toNat (by omega)
  have e := (whP_sh s (a := 0) (b := b) (by omega) (by omega) (by omega) (by omega) tag).mpr hn
  rw [Int.add_zero, Int.add_zero] at e
  exact e
theorem slT_ext {b98 b107 c98 c107 : Nat → Int32} {t : Nat} {sz rl cl : Int} (h1 : ∀ i : Nat, (i : Int) < sz → c98 (4200 * t + i) = b98 (4200 * t + i)) (h2 : ∀ i : Nat, (i : Int) < cl → c107 (400 * t + rl.toNat + i) = b107 (400 * t + rl.toNat + i)) (h : slT b98 b107 t sz rl cl) : slT c98 c107 t sz rl cl := by
  have e := NP_ext (m := fun i => b107 (400 * t + rl.toNat + i)) (m' := fun i => c107 (400 * t + rl.toNat + i)) h2 h.2.1
  refine ⟨wh_ext (m := fun i => b98 (4200 * t + i)) h1 h.1, e.1, ?_⟩
  rw [e.2]
  exact h.2.2
theorem stX_98 {u : Int} {b97 b98 b100 b107 b108 b109 : Nat → Int32} {i : Nat} {x : Int32} (hr : ∀ t, (b100 t).toInt ≤ 4200) (hi : 4200 * u ≤ (i : Int)) (hi2 : (i : Int) < 4200 * u + 4200) (h : stX u b97 b98 b100 b107 b108 b109) : stX u b97 (upd b98 i x) b100 b107 b108 b109 := fun t ht hn => by
  rcases h t ht hn with h1 | h1
  · exact .inl h1
  · have h2 := hr t
    exact .inr (slT_ext (fun j hj => pk_un (by omega)) (fun _ _ => rfl) h1)
theorem stX_107 {u : Int} {b97 b98 b100 b107 b108 b109 : Nat → Int32} {i : Nat} {x : Int32} (hr : ∀ t, 0 ≤ (b108 t).toInt ∧ (b108 t).toInt ≤ 100 ∧ (b109 t).toInt ≤ 300) (hi : 400 * u ≤ (i : Int)) (hi2 : (i : Int) < 400 * u + 400) (h : stX u b97 b98 b100 b107 b108 b109) : stX u b97 b98 b100 (upd b107 i x) b108 b109 := fun t ht hn => by
  rcases h t ht hn with h1 | h1
  · exact .inl h1
  · have h2 := hr t
    exact .inr (slT_ext (fun _ _ => rfl) (fun j hj => pk_un (by omega)) h1)
theorem stT_of {u : Int} {b97 b98 b100 b107 b108 b109 : Nat → Int32} (h : stX u b97 b98 b100 b107 b108 b109) (k : ∀ t : Nat, (t : Int) = u → slT b98 b107 t (b100 t).toInt (b108 t).toInt (b109 t).toInt) : stT b97 b98 b100 b107 b108 b109 := fun t ht => by
  by_cases e : (t : Int) = u
  · exact .inr (k t e)
  · exact h t ht e
/-- a slot filled: from mem's bytes -/
theorem slT_new {m b98 b107 : Nat → Int32} {t : Nat} {sz rl cl p q : Int} (hw : whP m p (p + sz) 97) (hp : 0 ≤ p) (c1 : cpy b98 m (4200 * (t : Int)) p sz) (hn : NP m q (q + cl)) (hs : q + cl - npI m q (q + cl) ≤ 200) (hq : 0 ≤ q) (hr : 0 ≤ rl) (c2 : cpy b107 m (400 * (t : Int) + rl) q cl) : slT b98 b107 t sz rl cl := by
  have s1 := sh_cpy2 (m := fun i => b98 (4200 * t + i)) (o := 4200 * t) hp (fun _ => rfl) (by omega) c1
  have s2 := sh_cpy2 (m := fun i => b107 (400 * t + rl.toNat + i)) (o := 400 * t + rl.toNat) hq (fun _ => rfl) (by omega) c2
  have e1 := (whP_sh s1 (a := p) (b := p + sz) hp (by omega) (by omega) (by omega) 97).mpr hw
  have e2 := NP_sh s2 hq (by omega) (a := q) (b := q + cl) (by omega) (by omega) hn
  rw [show p + -p = 0 by omega, show p + sz + -p = sz by omega] at e1
  rw [show q + -q = 0 by omega, show q + cl + -q = cl by omega] at e2
  refine ⟨e1, e2.1, ?_⟩
  have e3 := e2.2
  omega
/-- the client that an agent asked for once more -/
def stA (b110 b118 b119 b120 : Nat → Int32) : Prop := ∀ a : Nat, a < 4 → (b110 a).toInt = 2 → NP (fun i => b118 (400 * a + (b119 a).toInt.toNat + i)) 0 (b120 a).toInt ∧ (b120 a).toInt - npI (fun i => b118 (400 * a + (b119 a).toInt.toNat + i)) 0 (b120 a).toInt ≤ 200
theorem stA_cg {b110 b118 b119 b120 c110 c118 c119 c120 : Nat → Int32} (h1 : c110 = b110) (h2 : c118 = b118) (h3 : c119 = b119) (h4 : c120 = b120) (h : stA b110 b118 b119 b120) : stA c110 c118 c119 c120 := by rw [h1, h2, h3, h4]; exact h
theorem stA_off {b110 b118 b119 b120 : Nat → Int32} {i : Nat} {x : Int} (hx : iR x) (hn : x ≠ 2) (h : stA b110 b118 b119 b120) : stA (upd b110 i (iI x)) b118 b119 b120 := fun a ha e => by
  by_cases c : a = i
  · rw [c, pk_us, iI_toInt hx] at e; exact absurd e hn
  · rw [pk_un c] at e; exact h a ha e
/-- a reply that was read: realm, client, ticket -/
def rpA (F T m : Nat → Int32) : Prop := whP m (F (16 * 0 + 3 : Int).toNat).toInt (T (16 * 0 + 3 : Int).toNat).toInt 27 ∧ NP m (F (16 * 0 + 4 : Int).toNat).toInt (T (16 * 0 + 4 : Int).toNat).toInt ∧ whP m (F (16 * 0 + 5 : Int).toNat).toInt (T (16 * 0 + 5 : Int).toNat).toInt 97 ∧ (0 ≤ (F (16 * 0 + 3 : Int).toNat).toInt ∧ 0 ≤ (F (16 * 0 + 4 : Int).toNat).toInt ∧ 0 ≤ (F (16 * 0 + 5 : Int).toNat).toInt) ∧ (T (16 * 0 + 3 : Int).toNat).toInt ≤ 4100 ∧ (T (16 * 0 + 4 : Int).toNat).toInt ≤ 4100 ∧ (T (16 * 0 + 5 : Int).toNat).toInt ≤ 4100
theorem rpA_cg {F T m F' T' m' : Nat → Int32} (h0 : m' = m) (h1 : F' = F) (h2 : T' = T) (h : rpA F T m) : rpA F' T' m' := by rw [h0, h1, h2]; exact h
theorem thF_0 {F T F' T' : Nat → Int32} {ts : List Nat} (k : thF ts F T F' T') (hn : ∀ t ∈ ts, t ≠ 0) : ∀ j : Nat, j < 16 → F' j = F j ∧ T' j = T j := fun j h1 => k j (by omega) (fun t ht => by have h3 := hn t ht; omega)
theorem rpA_T {F T m F' T' : Nat → Int32} {ts : List Nat} (k : thF ts F T F' T') (_ : ∀ t ∈ ts, t < 12) (hn : ∀ t ∈ ts, t ≠ 0) (h : rpA F T m) : rpA F' T' m := by
  have e := thF_0 k hn
  have e3 := e (16 * 0 + 3 : Int).toNat (by decide)
  have e4 := e (16 * 0 + 4 : Int).toNat (by decide)
  have e5 := e (16 * 0 + 5 : Int).toNat (by decide)
  unfold rpA at h ⊢
  rw [e3.1, e3.2, e4.1, e4.2, e5.1, e5.2]
  exact h
theorem rp_sh {F T m m' : Nat → Int32} {lo hi : Int} (k : mmF lo hi m m') (hl : 4200 ≤ lo) (h : rpA F T m) : rpA F T m' ∧ npI m' (F (16 * 0 + 4 : Int).toNat).toInt (T (16 * 0 + 4 : Int).toNat).toInt = npI m (F (16 * 0 + 4 : Int).toNat).toInt (T (16 * 0 + 4 : Int).toNat).toInt := by
  obtain ⟨h3, h4, h5, hf, ht⟩ := h
  have s := sh_of_mmF k (lo2 := 0) (hi2 := 4200) (.inl hl)
  have e3 := (whP_sh s hf.1 (by omega) hf.1 (by omega) 27).mpr h3
  have e4 := NP_sh s (by omega) (by omega) hf.2.1 (by omega) h4
  have e5 := (whP_sh s hf.2.2 (by omega) hf.2.2 (by omega) 97).mpr h5
  rw [Int.add_zero, Int.add_zero] at e3 e5
  rw [Int.add_zero, Int.add_zero, Int.add_zero] at e4
  exact ⟨⟨e3, e4.1, e5, hf, ht⟩, e4.2⟩
theorem rpA_M {F T m m' : Nat → Int32} {lo hi : Int} (k : mmF lo hi m m') (hl : 4200 ≤ lo) (h : rpA F T m) : rpA F T m' := (rp_sh k hl h).1
/-- and it is for the one who asked: realm and client are short -/
def rzA (F T m : Nat → Int32) : Prop := rpA F T m ∧ (T (16 * 0 + 3 : Int).toNat).toInt - (F (16 * 0 + 3 : Int).toNat).toInt ≤ 100 ∧ (T (16 * 0 + 4 : Int).toNat).toInt - npI m (F (16 * 0 + 4 : Int).toNat).toInt (T (16 * 0 + 4 : Int).toNat).toInt ≤ 200
theorem rzA_cg {F T m F' T' m' : Nat → Int32} (h0 : m' = m) (h1 : F' = F) (h2 : T' = T) (h : rzA F T m) : rzA F' T' m' := by rw [h0, h1, h2]; exact h
theorem rzA_T {F T m F' T' : Nat → Int32} {ts : List Nat} (k : thF ts F T F' T') (hj : ∀ t ∈ ts, t < 12) (hn : ∀ t ∈ ts, t ≠ 0) (h : rzA F T m) : rzA F' T' m := by
  have e := thF_0 k hn
  have e3 := e (16 * 0 + 3 : Int).toNat (by decide)
  have e4 := e (16 * 0 + 4 : Int).toNat (by decide)
  refine ⟨rpA_T k hj hn h.1, ?_⟩
  rw [e3.1, e3.2, e4.1, e4.2]
  exact h.2
theorem rzA_M {F T m m' : Nat → Int32} {lo hi : Int} (k : mmF lo hi m m') (hl : 4200 ≤ lo) (h : rzA F T m) : rzA F T m' := by
  have e := rp_sh k hl h.1
  refine ⟨e.1, h.2.1, ?_⟩
  rw [e.2]
  exact h.2.2
theorem rz_1 {F T m : Nat → Int32} {a b c d n : Int} (h : rpA F T m) (ha : a = (F (16 * 0 + 3 : Int).toNat).toInt) (hb : b = (T (16 * 0 + 3 : Int).toNat).toInt) (hc : c = (F (16 * 0 + 4 : Int).toNat).toInt) (hd : d = (T (16 * 0 + 4 : Int).toNat).toInt) (hw : gb m a = 27 → 0 ≤ elI m a b → elE m a b - elI m a b = n) (hn : n ≤ 90) (hp : NP m c d → d - npI m c d ≤ 200) : rzA F T m := by
  subst ha hb hc hd
  refine ⟨h, ?_, hp h.2.1⟩
  have w := h.1
  unfold whP at w
  have e := hw w.1 w.2.1
  rcases el_cases m (a := (F (16 * 0 + 3 : Int).toNat).toInt) (b := (T (16 * 0 + 3 : Int).toNat).toInt) (.inl h.2.2.2.1.1) with ⟨c1, c2, _⟩ | ⟨_, c | c | c | c⟩ <;> omega
def akA (a k : Int) (b118 b119 b120 : Nat → Int32) : Prop := k = 2 → NP (fun i => b118 (400 * a.toNat + (b119 a.toNat).toInt.toNat + i)) 0 (b120 a.toNat).toInt ∧ (b120 a.toNat).toInt - npI (fun i => b118 (400 * a.toNat + (b119 a.toNat).toInt.toNat + i)) 0 (b120 a.toNat).toInt ≤ 200
theorem akA_cg {a k : Int} {b118 b119 b120 c118 c119 c120 : Nat → Int32} (h1 : c118 = b118) (h2 : c119 = b119) (h3 : c120 = b120) (h : akA a k b118 b119 b120) : akA a k c118 c119 c120 := by rw [h1, h2, h3]; exact h
theorem ak_of {a k : Int} {b110 b118 b119 b120 : Nat → Int32} (h : stA b110 b118 b119 b120) (h0 : 0 ≤ a) (h1 : a ≤ 3) (hk : k = (b110 a.toNat).toInt) : akA a k b118 b119 b120 := fun e => h a.toNat (by omega) (by omega)
theorem rz_2 {F T m b118 b119 b120 : Nat → Int32} {a b c d p q r n ag : Int} (h : rpA F T m) (ha : a = (F (16 * 0 + 3 : Int).toNat).toInt) (hb : b = (T (16 * 0 + 3 : Int).toNat).toInt) (hc : c = (F (16 * 0 + 4 : Int).toNat).toInt) (hd : d = (T (16 * 0 + 4 : Int).toNat).toInt) (hr : b - a = r) (hr2 : r ≤ 100) (hk : akA ag 2 b118 b119 b120) (hg : 0 ≤ ag) (hb119 : 0 ≤ (b119 ag.toNat).toInt) (hn : n = (b120 ag.toNat).toInt) (hn0 : 0 ≤ n) (hcp : cpy m b118 13200 (400 * ag + (b119 ag.toNat).toInt) n) (hp : p = 13200) (hq : q = 13200 + n) (hs : NP m c d → NP m p q → d - npI m c d = q - npI m p q) : rzA F T m := by
  subst ha hb hc hd hp hq hn
  have k := hk rfl
  have s := sh_cpy (m := fun i => b118 (400 * ag.toNat + (b119 ag.toNat).toInt.toNat + i)) (o := 400 * ag.toNat + (b119 ag.toNat).toInt.toNat) (by omega) (by omega) (fun _ => rfl) (by omega) hcp
  have e := NP_sh s (Int.le_refl 0) (by omega) (Int.le_refl 0) (Int.le_refl _) k.1
  rw [show (0 : Int) + 13200 = 13200 by decide, show (b120 ag.toNat).toInt + 13200 = 13200 + (b120 ag.toNat).toInt by omega] at e
  have e2 := hs h.2.1 e.1
  have e3 := e.2
  exact ⟨h, by omega, by omega⟩
theorem rs18 : rs 18 0 = [(0, 0, 105), (1, 0, 105), (2, 1, 80), (3, 0, 115), (4, 0, 78), (5, 0, 84), (6, 0, 69)] := by decide +kernel
theorem reply_R {m : Nat → Int32} {a b : Int} {F T : Nat → Int32} (h : sqP (isF m 5) m (rs 18 0) a b) (h0 : 0 ≤ a) (hb : b ≤ 4100) (hp : fdA m b 0 (elI m a b) 18 F T) : rpA F T m := by
  have w := h.1
  unfold whP at w
  have rr := el_rng m (a := a) (b := b) (.inl h0)
  have k3 := fdA_ty hp (nd_all 18 (by decide)) h.2 (by omega) (n := 3) (may := 0) (ty := 115) (by rw [rs18]; decide) (by decide) (by decide)
  have k4 := fdA_ty hp (nd_all 18 (by decide)) h.2 (by omega) (n := 4) (may := 0) (ty := 78) (by rw [rs18]; decide) (by decide) (by decide)
  have k5 := fdA_ty hp (nd_all 18 (by decide)) h.2 (by omega) (n := 5) (may := 0) (ty := 84) (by rw [rs18]; decide) (by decide) (by decide)
  rcases k3 with k | k3
  · exact absurd k.2.2 (by decide)
  rcases k4 with k | k4
  · exact absurd k.2.2 (by decide)
  rcases k5 with k | k5
  · exact absurd k.2.2 (by decide)
  have q3 := k3.2.2.2
  have q4 := k4.2.2.2
  have q5 := k5.2.2.2
  rw [is_115 5] at q3
  rw [is_78] at q4
  rw [is_84] at q5
  exact ⟨q3.1, q4, q5.1, ⟨by omega, by omega, by omega⟩, by omega, by omega, by omega⟩
def z100 (t : Int) (b100 F T : Nat → Int32) : Prop := (b100 t.toNat).toInt = (T (16 * 0 + 5 : Int).toNat).toInt - (F (16 * 0 + 5 : Int).toNat).toInt
def z109 (t : Int) (b109 F T : Nat → Int32) : Prop := (b109 t.toNat).toInt = (T (16 * 0 + 4 : Int).toNat).toInt - (F (16 * 0 + 4 : Int).toNat).toInt
theorem z100_cg {t : Int} {b F T b' F' T' : Nat → Int32} (h0 : F' = F) (h1 : T' = T) (h2 : b' = b) (h : z100 t b F T) : z100 t b' F' T' := by rw [h0, h1, h2]; exact h
theorem z109_cg {t : Int} {b F T b' F' T' : Nat → Int32} (h0 : F' = F) (h1 : T' = T) (h2 : b' = b) (h : z109 t b F T) : z109 t b' F' T' := by rw [h0, h1, h2]; exact h
def c98 (t : Int) (b98 b0 F b100 : Nat → Int32) : Prop := cpy b98 b0 (4200 * t) (F (16 * 0 + 5 : Int).toNat).toInt (b100 t.toNat).toInt
theorem c98_cg {t : Int} {b98 b0 F b100 c98' c0 F' c100 : Nat → Int32} (h0 : c0 = b0) (h1 : F' = F) (h2 : c98' = b98) (h3 : c100 = b100) (h : c98 t b98 b0 F b100) : c98 t c98' c0 F' c100 := by rw [h0, h1, h2, h3]; exact h
def c107 (t : Int) (b107 b0 F b108 b109 : Nat → Int32) : Prop := cpy b107 b0 (400 * t + (b108 t.toNat).toInt) (F (16 * 0 + 4 : Int).toNat).toInt (b109 t.toNat).toInt
theorem st_fin {t : Int} {b97 b98 b100 b107 b108 b109 F T m : Nat → Int32} (hx : stX t b97 b98 b100 b107 b108 b109) (ht : 0 ≤ t) (hz : rzA F T m) (h1 : z100 t b100 F T) (h2 : z109 t b109 F T) (h3 : c98 t b98 m F b100) (h4 : c107 t b107 m F b108 b109) (hr : 0 ≤ (b108 t.toNat).toInt) : stT b97 b98 b100 b107 b108 b109 := stT_of hx (fun t9 e => by
  have e2 : t9 = t.toNat := by omega
  subst e2
  obtain ⟨⟨p3, p4, p5, pf, pt⟩, q3, q4⟩ := hz
  unfold z100 at h1
  unfold z109 at h2
  unfold c98 at h3
  unfold c107 at h4
  refine slT_new (m := m) (p := (F (16 * 0 + 5 : Int).toNat).toInt) (q := (F (16 * 0 + 4 : Int).toNat).toInt) ?_ pf.2.2 ?_ ?_ ?_ pf.2.1 hr ?_
  · rw [h1, show (F (16 * 0 + 5 : Int).toNat).toInt + ((T (16 * 0 + 5 : Int).toNat).toInt - (F (16 * 0 + 5 : Int).toNat).toInt) = (T (16 * 0 + 5 : Int).toNat).toInt by omega]; exact p5
  · rw [show (4200 * ((t.toNat : Nat) : Int)) = 4200 * t by omega]; exact h3
  · rw [h2, show (F (16 * 0 + 4 : Int).toNat).toInt + ((T (16 * 0 + 4 : Int).toNat).toInt - (F (16 * 0 + 4 : Int).toNat).toInt) = (T (16 * 0 + 4 : Int).toNat).toInt by omega]; exact p4
  · rw [h2, show (F (16 * 0 + 4 : Int).toNat).toInt + ((T (16 * 0 + 4 : Int).toNat).toInt - (F (16 * 0 + 4 : Int).toNat).toInt) = (T (16 * 0 + 4 : Int).toNat).toInt by omega]; exact q4
  · rw [show (400 * ((t.toNat : Nat) : Int)) = 400 * t by omega]; exact h4)
theorem rz_cl {F T m : Nat → Int32} (h : rzA F T m) : (T (16 * 0 + 4 : Int).toNat).toInt - (F (16 * 0 + 4 : Int).toNat).toInt ≤ 300 ∧ (T (16 * 0 + 3 : Int).toNat).toInt - (F (16 * 0 + 3 : Int).toNat).toInt ≤ 100 := by
  have s := NP_size h.1.2.2.2.1.2.1 h.1.2.1
  have q := h.2
  omega
theorem i97_cg {b b' : Nat → Int32} {i : Nat} (h : b' = b) (k : (b i).toInt ≠ 0) : (b' i).toInt ≠ 0 := by rw [h]; exact k
theorem wh_of {t : Int} {b97 b98 b100 b107 b108 b109 m : Nat → Int32} (h : stT b97 b98 b100 b107 b108 b109) (h97 : (b97 t.toNat).toInt ≠ 0) (h0 : 0 ≤ t) (h1 : t ≤ 31) (hs : 0 ≤ (b100 t.toNat).toInt) (hc : cpy m b98 22200 (4200 * t) (b100 t.toNat).toInt) : whP m 22200 (22200 + (b100 t.toNat).toInt) 97 := by
  rcases h t.toNat (by omega) with k | k
  · exact absurd k h97
  · have s := sh_cpy (m := fun i => b98 (4200 * t.toNat + i)) (o := 4200 * t.toNat) (by omega) (by omega) (fun _ => rfl) (by omega) hc
    have e := (whP_sh s (a := 0) (b := (b100 t.toNat).toInt) (Int.le_refl 0) (by omega) (Int.le_refl 0) (Int.le_refl _) 97).mpr k.1
    rw [show (0 : Int) + 22200 = 22200 by decide, show (b100 t.toNat).toInt + 22200 = 22200 + (b100 t.toNat).toInt by omega] at e
    exact e
/-- all agents but one -/
def stAX (u : Int) (b110 b118 b119 b120 : Nat → Int32) : Prop := ∀ a : Nat, a < 4 → (a : Int) ≠ u → (b110 a).toInt = 2 → NP (fun i => b118 (400 * a + (b119 a).toInt.toNat + i)) 0 (b120 a).toInt ∧ (b120 a).toInt - npI (fun i => b118 (400 * a + (b119 a).toInt.toNat + i)) 0 (b120 a).toInt ≤ 200
theorem stAX_cg {u : Int} {b110 b118 b119 b120 c110 c118 c119 c120 : Nat → Int32} (h1 : c110 = b110) (h2 : c118 = b118) (h3 : c119 = b119) (h4 : c120 = b120) (h : stAX u b110 b118 b119 b120) : stAX u c110 c118 c119 c120 := by rw [h1, h2, h3, h4]; exact h
theorem stAX_of {u : Int} {b110 b118 b119 b120 : Nat → Int32} {x : Int32} (hu : 0 ≤ u) (h : stA b110 b118 b119 b120) : stAX u (upd b110 u.toNat x) b118 b119 b120 := fun a ha hn e => by
  rw [pk_un (show a ≠ u.toNat by omega)] at e
  exact h a ha e
theorem stAX_119 {u : Int} {b110 b118 b119 b120 : Nat → Int32} {x : Int32} (hu : 0 ≤ u) (h : stAX u b110 b118 b119 b120) : stAX u b110 b118 (upd b119 u.toNat x) b120 := fun a ha hn e => by
  rw [pk_un (show a ≠ u.toNat by omega)]
  exact h a ha hn e
theorem stAX_120 {u : Int} {b110 b118 b119 b120 : Nat → Int32} {x : Int32} (hu : 0 ≤ u) (h : stAX u b110 b118 b119 b120) : stAX u b110 b118 b119 (upd b120 u.toNat x) := fun a ha hn e => by
  rw [pk_un (show a ≠ u.toNat by omega)]
  exact h a ha hn e
theorem stAX_118 {u : Int} {b110 b118 b119 b120 : Nat → Int32} {i : Nat} {x : Int32} (hr : ∀ t, 0 ≤ (b119 t).toInt ∧ (b119 t).toInt ≤ 100 ∧ (b120 t).toInt ≤ 300) (hi : 400 * u ≤ (i : Int)) (hi2 : (i : Int) < 400 * u + 400) (h : stAX u b110 b118 b119 b120) : stAX u b110 (upd b118 i x) b119 b120 := fun a ha hn e => by
  have k := h a ha hn e
  have h2 := hr a
  have q := NP_ext (m := fun i => b118 (400 * a + (b119 a).toInt.toNat + i)) (m' := fun j => upd b118 i x (400 * a + (b119 a).toInt.toNat + j)) (fun j hj => pk_un (by omega)) k.1
  refine ⟨q.1, ?_⟩
  rw [q.2]
  exact k.2
theorem stA_no {u k : Int} {b110 b118 b119 b120 : Nat → Int32} (h : stAX u b110 b118 b119 b120) (hk : (b110 u.toNat).toInt = k) (hn : k ≠ 2) : stA b110 b118 b119 b120 := fun a ha e => by
  by_cases c : (a : Int) = u
  · have c2 : a = u.toNat := by omega
    subst c2
    omega
  · exact h a ha c e
theorem stA_yes {u t : Int} {b97 b98 b100 b107 b108 b109 b110 b118 b119 b120 : Nat → Int32} (h : stAX u b110 b118 b119 b120) (hu : 0 ≤ u) (ht : stT b97 b98 b100 b107 b108 b109) (h97 : (b97 t.toNat).toInt ≠ 0) (h0 : 0 ≤ t) (h1 : t ≤ 31) (e1 : (b119 u.toNat).toInt = (b108 t.toNat).toInt) (e2 : (b120 u.toNat).toInt = (b109 t.toNat).toInt) (hr : 0 ≤ (b108 t.toNat).toInt ∧ (b108 t.toNat).toInt ≤ 100 ∧ (b109 t.toNat).toInt ≤ 300) (hc : cpy b118 b107 (400 * u) (400 * t) 400) : stA b110 b118 b119 b120 := fun a ha e => by
  by_cases c : (a : Int) = u
  · have c2 : a = u.toNat := by omega
    subst c2
    rcases ht t.toNat (by omega) with k | k
    · exact absurd k h97
    · have q := NP_ext (m := fun i => b107 (400 * t.toNat + (b108 t.toNat).toInt.toNat + i)) (m' := fun j => b118 (400 * u.toNat + (b119 u.toNat).toInt.toNat + j)) (fun j hj => by
        have c3 := hc ((b108 t.toNat).toInt + j) (by omega) (by omega)
        show b118 (400 * u.toNat + (b119 u.toNat).toInt.toNat + j) = b107 (400 * t.toNat + (b108 t.toNat).toInt.toNat + j)
        rw [e1, show 400 * u.toNat + (b108 t.toNat).toInt.toNat + j = (400 * u + ((b108 t.toNat).toInt + j)).toNat by omega, c3]
        congr 1
        omega) k.2.1
      rw [e2]
      refine ⟨q.1, ?_⟩
      rw [q.2]
      exact k.2.2
  · exact h a ha c e
def zeq (b c : Nat → Int32) (i j : Nat) : Prop := (b i).toInt = (c j).toInt
theorem zeq_cg {b c b' c' : Nat → Int32} {i j : Nat} (h1 : c' = c) (h2 : b' = b) (h : zeq b c i j) : zeq b' c' i j := by rw [h1, h2]; exact h
/-! What is handed over: a row of tickets, what is told of the first. -/
def htA (x y : Int) (m : Nat → Int32) : Prop := whP m x y 97 ∧ 0 ≤ x ∧ x ≤ y ∧ y ≤ 4100
theorem htA_cg {x y : Int} {m m' : Nat → Int32} (h : m' = m) (k : htA x y m) : htA x y m' := by rw [h]; exact k
theorem htA_M {x y : Int} {m m' : Nat → Int32} {lo hi : Int} (k : mmF lo hi m m') (hl : 4200 ≤ lo) (h : htA x y m) : htA x y m' := by
  have s := sh_of_mmF k (lo2 := 0) (hi2 := 4200) (.inl hl)
  have e := (whP_sh s (a := x) (b := y) h.2.1 (by have := h.2.1; omega) h.2.1 (by have := h.2.2; omega) 97).mpr h.1
  rw [Int.add_zero, Int.add_zero] at e
  exact ⟨e, h.2⟩
def cvA (F T m : Nat → Int32) : Prop := rwP (isF m 4 73) m (F (16 * 5 + 0 : Int).toNat).toInt (T (16 * 5 + 0 : Int).toNat).toInt ∧ 4200 ≤ (F (16 * 5 + 0 : Int).toNat).toInt ∧ (T (16 * 5 + 0 : Int).toNat).toInt ≤ 8400
theorem cvA_cg {F T m F' T' m' : Nat → Int32} (h0 : m' = m) (h1 : F' = F) (h2 : T' = T) (h : cvA F T m) : cvA F' T' m' := by rw [h0, h1, h2]; exact h
theorem cvA_T {F T m F' T' : Nat → Int32} {ts : List Nat} (k : thF ts F T F' T') (_ : ∀ t ∈ ts, t < 12) (hn : ∀ t ∈ ts, t ≠ 5) (h : cvA F T m) : cvA F' T' m := by
  have e := k (16 * 5 + 0 : Int).toNat (by decide) (fun t ht => by have h3 := hn t ht; show 80 < 16 * t ∨ 16 * t + 16 ≤ 80; omega)
  unfold cvA at h ⊢
  rw [e.1, e.2]
  exact h
def ce0 (F T m : Nat → Int32) : Prop := NP m (F (16 * 4 + 2 : Int).toNat).toInt (T (16 * 4 + 2 : Int).toNat).toInt ∧ 4200 ≤ (F (16 * 4 + 2 : Int).toNat).toInt ∧ (T (16 * 4 + 2 : Int).toNat).toInt ≤ 8400
def cnA (F T m : Nat → Int32) : Prop := 0 ≤ (F (16 * 4 + 2 : Int).toNat).toInt → ce0 F T m
theorem cnA_cg {F T m F' T' m' : Nat → Int32} (h0 : m' = m) (h1 : F' = F) (h2 : T' = T) (h : cnA F T m) : cnA F' T' m' := by rw [h0, h1, h2]; exact h
theorem cnA_T {F T m F' T' : Nat → Int32} {ts : List Nat} (k : thF ts F T F' T') (_ : ∀ t ∈ ts, t < 12) (hn : ∀ t ∈ ts, t ≠ 4) (h : cnA F T m) : cnA F' T' m := by
  have e := thF_4 k hn (16 * 4 + 2 : Int).toNat (by decide) (by decide)
  unfold cnA ce0 at h ⊢
  rw [e.1, e.2]
  exact h
def ceA (F T m : Nat → Int32) : Prop := ce0 F T m ∧ (T (16 * 4 + 2 : Int).toNat).toInt - npI m (F (16 * 4 + 2 : Int).toNat).toInt (T (16 * 4 + 2 : Int).toNat).toInt ≤ 44
theorem ceA_cg {F T m F' T' m' : Nat → Int32} (h0 : m' = m) (h1 : F' = F) (h2 : T' = T) (h : ceA F T m) : ceA F' T' m' := by rw [h0, h1, h2]; exact h
theorem ceA_T {F T m F' T' : Nat → Int32} {ts : List Nat} (k : thF ts F T F' T') (_ : ∀ t ∈ ts, t < 12) (hn : ∀ t ∈ ts, t ≠ 4) (h : ceA F T m) : ceA F' T' m := by
  have e := thF_4 k hn (16 * 4 + 2 : Int).toNat (by decide) (by decide)
  unfold ceA ce0 at h ⊢
  rw [e.1, e.2]
  exact h
theorem ceA_M {F T m m' : Nat → Int32} {lo hi : Int} (k : mmF lo hi m m') (hl : 8410 ≤ lo) (h : ceA F T m) : ceA F T m' := by
  have s := sh_of_mmF k (lo2 := 4200) (hi2 := 8410) (.inl hl)
  have e := NP_sh s (by omega) (by omega) h.1.2.1 (by have := h.1.2.2; omega) h.1.1
  rw [Int.add_zero, Int.add_zero, Int.add_zero] at e
  refine ⟨⟨e.1, h.1.2⟩, ?_⟩
  rw [e.2]
  exact h.2
theorem ce_fin {F T m m2 : Nat → Int32} {a b p q P1 Q1 x y z : Int} (h : ce0 F T m) (ha : a = (F (16 * 4 + 2 : Int).toNat).toInt) (hb : b = (T (16 * 4 + 2 : Int).toNat).toInt) (hp : P1 = npI m a b ∧ Q1 = b) (xp : p = P1) (xq : q = Q1) (hm : m2 = m) (hz : z = 1 ↔ gb m2 p = 48 ∧ 0 ≤ elI m2 p q) (hv : z = 1 → x = elI m2 p q ∧ y = elE m2 p q ∧ p + 2 ≤ x ∧ y ≤ q) (hs : y - x ≤ 40) : ceA F T m := by
  subst hm ha hb xp xq
  rw [hp.1, hp.2] at hz hv
  have s := NP_size (by have := h.2.1; omega) h.1
  have w := s.2.2.2
  unfold whP at w
  refine ⟨h, ?_⟩
  have z1 : z = 1 := hz.mpr ⟨w.1, w.2.1⟩
  have v := hv z1
  rcases el_cases m2 (a := npI m2 (F (16 * 4 + 2 : Int).toNat).toInt (T (16 * 4 + 2 : Int).toNat).toInt) (b := (T (16 * 4 + 2 : Int).toNat).toInt) (.inl (by have := h.2.1; omega)) with ⟨c1, c2, _⟩ | ⟨_, c | c | c | c⟩
  · omega
  · omega
  · omega
  · have g := gb_rng m2 (npI m2 (F (16 * 4 + 2 : Int).toNat).toInt (T (16 * 4 + 2 : Int).toNat).toInt + 2)
    have g3 := gb_rng m2 (npI m2 (F (16 * 4 + 2 : Int).toNat).toInt (T (16 * 4 + 2 : Int).toNat).toInt + 3)
    omega
  · have g := gb_rng m2 (npI m2 (F (16 * 4 + 2 : Int).toNat).toInt (T (16 * 4 + 2 : Int).toNat).toInt + 2)
    have g3 := gb_rng m2 (npI m2 (F (16 * 4 + 2 : Int).toNat).toInt (T (16 * 4 + 2 : Int).toNat).toInt + 3)
    have g4 := gb_rng m2 (npI m2 (F (16 * 4 + 2 : Int).toNat).toInt (T (16 * 4 + 2 : Int).toNat).toInt + 4)
    omega
theorem NP_of2 {m : Nat → Int32} {a b : Int} (h : sqP (isF m 2) m (rs 4 0) a b) : NP m a b := by
  unfold NP
  unfold sqP at h ⊢
  rw [rs4] at h ⊢
  refine ⟨h.1, ?_⟩
  have h2 := h.2
  unfold sq at h2 ⊢
  unfold sq at h2 ⊢
  unfold sq at h2 ⊢
  simp only [is_105, is_83, is_115] at h2 ⊢
  exact h2
theorem rs24 : rs 24 0 = [(0, 0, 105), (1, 0, 105), (2, 0, 107), (3, 0, 69)] := by decide +kernel
theorem rs25 : rs 25 0 = [(0, 0, 86), (1, 1, 117), (2, 1, 116), (3, 1, 109), (4, 1, 72), (5, 1, 72)] := by decide +kernel
theorem rs10 : rs 10 0 = [(0, 0, 75), (1, 1, 115), (2, 1, 78), (3, 1, 102), (4, 1, 116), (5, 1, 116), (6, 1, 116), (7, 1, 116), (8, 1, 115), (9, 1, 78), (10, 1, 104)] := by decide +kernel
theorem cred_K {m : Nat → Int32} {a b : Int} {F T : Nat → Int32} (h : sqP (isF m 5) m (rs 24 0) a b) (h0 : 0 ≤ a) (hb : b ≤ 4100) (hp : fdA m b 0 (elI m a b) 24 F T) : rwP (isF m 4 84) m (F (16 * 0 + 2 : Int).toNat).toInt (T (16 * 0 + 2 : Int).toNat).toInt ∧ 0 ≤ (F (16 * 0 + 2 : Int).toNat).toInt ∧ (T (16 * 0 + 2 : Int).toNat).toInt ≤ 4100 := by
  have w := h.1
  unfold whP at w
  have rr := el_rng m (a := a) (b := b) (.inl h0)
  rcases fdA_ty hp (nd_all 24 (by decide)) h.2 (by omega) (n := 2) (may := 0) (ty := 107) (by rw [rs24]; decide) (by decide) (by decide) with k | k
  · exact absurd k.2.2 (by decide)
  · have k5 := k.2.2.2
    rw [is_107] at k5
    exact ⟨k5, by omega, by omega⟩
theorem cred_V {m : Nat → Int32} {a b : Int} {F T : Nat → Int32} (h : sqP (isF m 5) m (rs 25 0) a b) (h0 : 4200 ≤ a) (hb : b ≤ 8400) (hp : fdA m b 5 (elI m a b) 25 F T) : cvA F T m := by
  have w := h.1
  unfold whP at w
  have rr := el_rng m (a := a) (b := b) (.inl (by omega))
  rcases fdA_ty hp (nd_all 25 (by decide)) h.2 (by omega) (n := 0) (may := 0) (ty := 86) (by rw [rs25]; decide) (by decide) (by decide) with k | k
  · exact absurd k.2.2 (by decide)
  · have k5 := k.2.2.2
    rw [is_86] at k5
    exact ⟨k5, by omega, by omega⟩
theorem cred_N {m : Nat → Int32} {a b : Int} {F T : Nat → Int32} (h : sqP (isF m 3) m (rs 10 0) a b) (h0 : 4200 ≤ a) (hb : b ≤ 8400) (hp : fdA m b 4 (elI m a b) 10 F T) : cnA F T m := fun hf => by
  have w := h.1
  unfold whP at w
  have rr := el_rng m (a := a) (b := b) (.inl (by omega))
  rcases fdA_ty hp (nd_all 10 (by decide)) h.2 (by omega) (n := 2) (may := 1) (ty := 78) (by rw [rs10]; decide) (by decide) (by decide) with k | k
  · omega
  · have k5 := k.2.2.2
    rw [is_78] at k5
    exact ⟨NP_of2 k5, by omega, by omega⟩
def yeq (b : Nat → Int32) (i : Nat) (v : Int) : Prop := (b i).toInt = v
theorem yeq_cg {b b' : Nat → Int32} {i : Nat} {v : Int} (h : b' = b) (k : yeq b i v) : yeq b' i v := by rw [h]; exact k
def d98 (t x : Int) (b98 b0 b100 : Nat → Int32) : Prop := cpy b98 b0 (4200 * t) x (b100 t.toNat).toInt
theorem d98_cg {t x : Int} {b98 b0 b100 c98' c0 c100 : Nat → Int32} (h0 : c0 = b0) (h1 : c98' = b98) (h2 : c100 = b100) (h : d98 t x b98 b0 b100) : d98 t x c98' c0 c100 := by rw [h0, h1, h2]; exact h
theorem d98_M {t x : Int} {b98 b0 b0' b100 : Nat → Int32} {lo hi : Int} (k : mmF lo hi b0 b0') (hx : 0 ≤ x) (hl : x + (b100 t.toNat).toInt ≤ lo) (h : d98 t x b98 b0 b100) : d98 t x b98 b0' b100 := fun j h0 h1 => by
  rw [k (x + j).toNat (by omega)]
  exact h j h0 h1
theorem st_finh {t x y p : Int} {b97 b98 b100 b107 b108 b109 F T m : Nat → Int32} (hx : stX t b97 b98 b100 b107 b108 b109) (ht : 0 ≤ t) (hh : htA x y m) (he : ceA F T m) (h1 : yeq b100 t.toNat (y - x)) (h2 : yeq b109 t.toNat ((T (16 * 4 + 2 : Int).toNat).toInt - (F (16 * 4 + 2 : Int).toNat).toInt)) (hp : yeq F (16 * 4 + 2 : Int).toNat p) (h3 : d98 t x b98 m b100) (h4 : cpy b107 m (400 * t + (b108 t.toNat).toInt) p (b109 t.toNat).toInt) (hr : 0 ≤ (b108 t.toNat).toInt) : stT b97 b98 b100 b107 b108 b109 := stT_of hx (fun t9 e => by
  have e2 : t9 = t.toNat := by omega
  subst e2
  unfold yeq at h1 h2 hp
  unfold d98 at h3
  obtain ⟨⟨n1, n2, n3⟩, n4⟩ := he
  rw [hp] at h2 n1 n2 n4
  refine slT_new (m := m) (p := x) (q := p) ?_ hh.2.1 ?_ ?_ ?_ (by omega) hr ?_
  · rw [h1, show x + (y - x) = y by omega]; exact hh.1
  · rw [show (4200 * ((t.toNat : Nat) : Int)) = 4200 * t by omega]; exact h3
  · rw [h2, show p + ((T (16 * 4 + 2 : Int).toNat).toInt - p) = (T (16 * 4 + 2 : Int).toNat).toInt by omega]; exact n1
  · rw [h2, show p + ((T (16 * 4 + 2 : Int).toNat).toInt - p) = (T (16 * 4 + 2 : Int).toNat).toInt by omega]; omega
  · rw [show (400 * ((t.toNat : Nat) : Int)) = 400 * t by omega]; exact h4)
theorem ce0_cg {F T m F' T' m' : Nat → Int32} (h0 : m' = m) (h1 : F' = F) (h2 : T' = T) (h : ce0 F T m) : ce0 F' T' m' := by rw [h0, h1, h2]; exact h
theorem ce_cl {F T m : Nat → Int32} (h : ceA F T m) : (T (16 * 4 + 2 : Int).toNat).toInt - (F (16 * 4 + 2 : Int).toNat).toInt ≤ 100 := by
  have s := NP_size (by have := h.1.2.1; omega) h.1.1
  have q := h.2
  omega
theorem y109_cg {b F T b' F' T' : Nat → Int32} {i : Nat} (h0 : F' = F) (h1 : T' = T) (h2 : b' = b) (k : yeq b i ((T (16 * 4 + 2 : Int).toNat).toInt - (F (16 * 4 + 2 : Int).toNat).toInt)) : yeq b' i ((T' (16 * 4 + 2 : Int).toNat).toInt - (F' (16 * 4 + 2 : Int).toNat).toInt) := by rw [h0, h1, h2]; exact k
