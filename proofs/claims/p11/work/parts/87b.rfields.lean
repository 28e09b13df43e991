/-! The fields of a sequence, as the texts of the reference name them. -/
def ftab : Nat → List (Nat × Int × Int × Int)
  | 3 => [(0, 1, 0, 105), (3, 2, 0, 105), (6, 3, 1, 80), (10, 4, 0, 81)]
  | 4 => [(0, 0, 0, 105), (3, 1, 0, 83)]
  | 5 => [(0, 0, 0, 105), (3, 1, 1, 117), (7, 2, 0, 111)]
  | 6 => [(0, 0, 0, 105), (3, 1, 0, 111)]
  | 7 => [(0, 0, 0, 105), (3, 1, 0, 115), (6, 2, 0, 78), (9, 3, 0, 69)]
  | 8 => [(0, 1, 0, 105), (3, 2, 0, 111)]
  | 9 => [(0, 0, 0, 111), (3, 1, 1, 116), (7, 2, 1, 109), (11, 3, 1, 117), (15, 4, 0, 72), (18, 5, 1, 72)]
  | 10 => [(0, 0, 0, 75), (3, 1, 1, 115), (7, 2, 1, 78), (11, 3, 1, 102), (15, 4, 1, 116), (19, 5, 1, 116), (23, 6, 1, 116), (27, 7, 1, 116), (31, 8, 1, 115), (35, 9, 1, 78), (39, 10, 1, 104)]
  | 11 => [(0, 0, 0, 105), (3, 1, 0, 116)]
  | 12 => [(0, 0, 0, 102), (3, 1, 1, 78), (7, 2, 0, 115), (10, 3, 1, 78), (14, 4, 1, 116), (18, 5, 0, 116), (21, 6, 1, 116), (25, 7, 0, 117), (28, 8, 0, 101), (31, 9, 1, 104), (35, 10, 1, 69), (40, 11, 1, 107)]
  | 13 => [(0, 0, 0, 116), (3, 1, 1, 109)]
  | 14 => [(0, 0, 0, 105), (3, 1, 0, 105), (6, 2, 0, 102), (9, 3, 0, 84), (12, 4, 0, 69)]
  | 15 => [(0, 0, 0, 102), (3, 1, 0, 75), (6, 2, 0, 115), (9, 3, 0, 78), (12, 4, 0, 82), (15, 5, 0, 116), (18, 6, 1, 116), (22, 7, 0, 116), (25, 8, 1, 116), (29, 9, 1, 104), (33, 10, 1, 65)]
  | 16 => [(0, 0, 0, 105), (3, 1, 0, 115), (6, 2, 0, 78), (9, 3, 1, 67), (13, 4, 0, 109), (16, 5, 0, 116), (19, 6, 1, 75), (23, 7, 1, 117), (27, 8, 1, 65)]
  | 17 => [(0, 0, 0, 105), (3, 1, 0, 105), (6, 2, 1, 116), (10, 3, 1, 109), (14, 4, 0, 116), (17, 5, 0, 109), (20, 6, 0, 105), (23, 7, 1, 115), (27, 8, 1, 78), (31, 9, 0, 115), (34, 10, 0, 78), (38, 11, 1, 115), (43, 12, 1, 111)]
  | 18 => [(0, 0, 0, 105), (3, 1, 0, 105), (6, 2, 1, 80), (10, 3, 0, 115), (13, 4, 0, 78), (16, 5, 0, 84), (19, 6, 0, 69)]
  | 19 => [(0, 0, 0, 75), (3, 1, 0, 76), (6, 2, 0, 117), (9, 3, 1, 116), (13, 4, 0, 102), (16, 5, 0, 116), (19, 6, 1, 116), (23, 7, 0, 116), (26, 8, 1, 116), (30, 9, 0, 115), (33, 10, 0, 78), (37, 11, 1, 104)]
  | 20 => [(0, 0, 0, 105), (3, 1, 0, 105), (6, 2, 0, 69)]
  | 21 => [(0, 0, 0, 116), (3, 1, 0, 109), (6, 2, 1, 75), (10, 3, 1, 117)]
  | 22 => [(0, 0, 0, 105), (3, 1, 0, 105), (6, 3, 0, 69)]
  | 23 => [(0, 0, 0, 105), (3, 1, 0, 105), (6, 2, 0, 89), (9, 3, 0, 67)]
  | 24 => [(0, 0, 0, 105), (3, 1, 0, 105), (6, 2, 0, 107), (9, 3, 0, 69)]
  | 25 => [(0, 0, 0, 86), (3, 1, 1, 117), (7, 2, 1, 116), (11, 3, 1, 109), (15, 4, 1, 72), (19, 5, 1, 72)]
  | _ => []
def rs (i k : Nat) : List (Int × Int × Int) := ((ftab i).filter (fun x => decide (k ≤ x.1))).map (fun x => x.2)
def gd (i k : Nat) : Bool := decide (k = zn i) || (ftab i).any (fun x => decide (x.1 = k))
def tyin (i : Nat) (ty : Int) : Bool := (ftab i).any (fun x => decide (x.2.2.2 = ty))
def cz (i k : Nat) : Int := (((zL.getD i []).getD k 0 : Nat) : Int)
def fN (i k : Nat) : Int := ((rs i k).headD (0, 0, 0)).1
def fM (i k : Nat) : Nat := ((rs i k).headD (0, 0, 0)).2.1.toNat
def fY (i k : Nat) : Int := ((rs i k).headD (0, 0, 0)).2.2
def fW (i k : Nat) : Nat := if fN i k < 10 then 1 else 2
def fE (i k : Nat) : Nat := k + fW i k + fM i k + 2
def fchk (i k : Nat) : Bool := decide (rs i k = (fN i k, (fM i k : Int), fY i k) :: rs i (fE i k)) && decide (0 ≤ fN i k ∧ fN i k ≤ 12 ∧ fM i k ≤ 1 ∧ fE i k ≤ zn i) && gd i (fE i k) && tyin i (fY i k) && decide (fW i k = 1 → cz i k = 48 + fN i k) && decide (fW i k = 2 → cz i k = 48 + fN i k / 10 ∧ cz i (k + 1) = 48 + fN i k % 10) && decide (¬ (48 ≤ cz i (k + fW i k) ∧ cz i (k + fW i k) ≤ 57)) && decide (fM i k = 1 ↔ cz i (k + fW i k) = 63) && decide (cz i (k + fW i k + fM i k) = fY i k)
theorem fchk_all : ∀ i, i < 26 → 3 ≤ i → ∀ k, k < 64 → gd i k = true → k < zn i → fchk i k = true := by decide +kernel
theorem zn_l : ∀ i, i < 26 → zn i < 64 := by decide +kernel
theorem cz_lt : ∀ i, i < 26 → ∀ k, k < 64 → cz i k < 256 := by decide +kernel
theorem rs_end : ∀ i, i < 26 → rs i (zn i) = [] := by decide +kernel
theorem gd_0 : ∀ i, i < 26 → 3 ≤ i → gd i 0 = true := by decide +kernel
theorem gd_le {i k : Nat} (hi : i < 26) (h : gd i k = true) : k ≤ zn i := by
  have h2 : ∀ i, i < 26 → ∀ x ∈ ftab i, x.1 ≤ zn i := by decide +kernel
  unfold gd at h
  rw [Bool.or_eq_true] at h
  rcases h with h | h
  · exact Nat.le_of_eq (of_decide_eq_true h)
  · obtain ⟨x, hx, e⟩ := List.any_eq_true.mp h
    have e2 := of_decide_eq_true e
    have h3 := h2 i hi x hx
    omega
def fok (i k : Nat) : Prop := rs i k = (fN i k, (fM i k : Int), fY i k) :: rs i (fE i k) ∧ (0 ≤ fN i k ∧ fN i k ≤ 12 ∧ fM i k ≤ 1 ∧ fE i k ≤ zn i) ∧ gd i (fE i k) = true ∧ tyin i (fY i k) = true ∧ (fW i k = 1 → cz i k = 48 + fN i k) ∧ (fW i k = 2 → cz i k = 48 + fN i k / 10 ∧ cz i (k + 1) = 48 + fN i k % 10) ∧ (¬ (48 ≤ cz i (k + fW i k) ∧ cz i (k + fW i k) ≤ 57)) ∧ (fM i k = 1 ↔ cz i (k + fW i k) = 63) ∧ cz i (k + fW i k + fM i k) = fY i k
theorem fok.r {i k : Nat} (h : fok i k) : rs i k = (fN i k, (fM i k : Int), fY i k) :: rs i (fE i k) := h.1
theorem fok.n {i k : Nat} (h : fok i k) : (0 ≤ fN i k ∧ fN i k ≤ 12 ∧ fM i k ≤ 1 ∧ fE i k ≤ zn i) := h.2.1
theorem fok.g {i k : Nat} (h : fok i k) : gd i (fE i k) = true := h.2.2.1
theorem fok.t {i k : Nat} (h : fok i k) : tyin i (fY i k) = true := h.2.2.2.1
theorem fok.w1 {i k : Nat} (h : fok i k) : (fW i k = 1 → cz i k = 48 + fN i k) := h.2.2.2.2.1
theorem fok.w2 {i k : Nat} (h : fok i k) : (fW i k = 2 → cz i k = 48 + fN i k / 10 ∧ cz i (k + 1) = 48 + fN i k % 10) := h.2.2.2.2.2.1
theorem fok.w3 {i k : Nat} (h : fok i k) : (¬ (48 ≤ cz i (k + fW i k) ∧ cz i (k + fW i k) ≤ 57)) := h.2.2.2.2.2.2.1
theorem fok.m {i k : Nat} (h : fok i k) : (fM i k = 1 ↔ cz i (k + fW i k) = 63) := h.2.2.2.2.2.2.2.1
theorem fok.y {i k : Nat} (h : fok i k) : cz i (k + fW i k + fM i k) = fY i k := h.2.2.2.2.2.2.2.2
theorem fok_of {i k : Nat} (hi : 3 ≤ i ∧ i < 26) (hg : gd i k = true) (hk : k < zn i) : fok i k := by
  have h1 := zn_l i hi.2
  have h := fchk_all i hi.2 hi.1 k (by omega) hg hk
  unfold fchk at h
  simp only [Bool.and_eq_true, decide_eq_true_eq] at h
  obtain ⟨⟨⟨⟨⟨⟨⟨⟨h1, h2⟩, h3⟩, h5⟩, h6⟩, h7⟩, h8⟩, h9⟩, h10⟩ := h
  exact ⟨h1, h2, h3, h5, h6, h7, h8, h9, h10⟩
theorem fW_12 (i k : Nat) : fW i k = 1 ∧ fN i k < 10 ∨ fW i k = 2 ∧ 10 ≤ fN i k := by
  unfold fW
  by_cases h : fN i k < 10
  · rw [if_pos h]; exact .inl ⟨rfl, h⟩
  · rw [if_neg h]; exact .inr ⟨rfl, by omega⟩
theorem cz_of {i : Nat} {k z : Int} (hi : i < nZ) (h0 : 0 ≤ k) (hk : k < zn i) (h : zb i k.toNat &&& 255 = iI z) (hz : 0 ≤ z) (hz2 : z ≤ 255) : cz i k.toNat = z := by
  have h1 := zn_l i hi
  have h2 := cz_lt i hi k.toNat (by omega)
  have h3 : 0 ≤ cz i k.toNat := by unfold cz; omega
  have e1 : zb i k.toNat = iI (cz i k.toNat) := by
    unfold zb cz
    rw [iI_cast]
    have h4 : cz i k.toNat ≤ 2147483647 := by omega
    unfold cz at h4
    omega
  rw [e1, show (255 : Int32) = iI 255 by decide, iI_255] at h
  have h5 := (iI_eq ⟨by omega, by omega⟩ ⟨by omega, by omega⟩).mp h
  omega
/-- the digits of a field's number -/
def Dg (i : Nat) (k0 k n : Int) : Prop := (k = k0 ∧ n = 0) ∨ (k = k0 + 1 ∧ fW i k0.toNat = 1 ∧ n = fN i k0.toNat) ∨ (k = k0 + 1 ∧ fW i k0.toNat = 2 ∧ n = fN i k0.toNat / 10) ∨ (k = k0 + 2 ∧ fW i k0.toNat = 2 ∧ n = fN i k0.toNat)
theorem Dg_at {i : Nat} {k0 k n : Int} (hi : 3 ≤ i ∧ i < 26) (h0 : 0 ≤ k0) (hg : gd i k0.toNat = true) (hk : k0 < zn i) (h : Dg i k0 k n) : (0 ≤ n ∧ n ≤ 12 ∧ k + 2 ≤ zn i ∧ k0 ≤ k ∧ k ≤ k0 + 2) ∧ ((48 ≤ cz i k.toNat ∧ cz i k.toNat ≤ 57 ∧ k < k0 + 2 ∧ Dg i k0 (k + 1) (10 * n + cz i k.toNat - 48)) ∨ (¬ (48 ≤ cz i k.toNat ∧ cz i k.toNat ≤ 57) ∧ k = k0 + fW i k0.toNat ∧ n = fN i k0.toNat)) := by
  have f := fok_of hi hg (by omega)
  have f1 := f.n
  have f2 := f.w1
  have f3 := f.w2
  have f4 := f.w3
  have f5 := fW_12 i k0.toNat
  unfold fE at f1
  rcases h with ⟨e1, e2⟩ | ⟨e1, e2, e3⟩ | ⟨e1, e2, e3⟩ | ⟨e1, e2, e3⟩
  · subst e1 e2
    refine ⟨by omega, .inl ?_⟩
    rcases f5 with ⟨g, g2⟩ | ⟨g, g2⟩
    · have c1 := f2 g
      exact ⟨by omega, by omega, by omega, .inr (.inl ⟨rfl, g, by omega⟩)⟩
    · have c1 := (f3 g).1
      exact ⟨by omega, by omega, by omega, .inr (.inr (.inl ⟨rfl, g, by omega⟩))⟩
  · subst e1
    refine ⟨by omega, .inr ?_⟩
    rw [e2] at f4
    rw [show (k0 + 1).toNat = k0.toNat + 1 by omega]
    exact ⟨f4, by omega, e3⟩
  · subst e1
    have c1 := f3 e2
    refine ⟨by omega, .inl ?_⟩
    rw [show (k0 + 1).toNat = k0.toNat + 1 by omega]
    exact ⟨by omega, by omega, by omega, .inr (.inr (.inr ⟨by omega, e2, by omega⟩))⟩
  · subst e1
    refine ⟨by omega, .inr ?_⟩
    rw [e2] at f4
    rw [show (k0 + 2).toNat = k0.toNat + 2 by omega]
    exact ⟨f4, by omega, e3⟩
theorem f_may {i : Nat} {k0 k : Int} (hi : 3 ≤ i ∧ i < 26) (h0 : 0 ≤ k0) (hg : gd i k0.toNat = true) (hk : k0 < zn i) (e : k = k0 + fW i k0.toNat) : (fM i k0.toNat = 1 ∧ cz i k.toNat = 63 ∧ cz i (k + 1).toNat = fY i k0.toNat ∨ fM i k0.toNat = 0 ∧ cz i k.toNat ≠ 63 ∧ cz i k.toNat = fY i k0.toNat) ∧ k + fM i k0.toNat + 2 = fE i k0.toNat ∧ (fE i k0.toNat : Int) ≤ zn i ∧ k0 < fE i k0.toNat := by
  have f := fok_of hi hg (by omega)
  have f1 := f.n
  have f2 := f.m
  have f3 := f.y
  have f5 := fW_12 i k0.toNat
  have f6 : fE i k0.toNat = k0.toNat + fW i k0.toNat + fM i k0.toNat + 2 := rfl
  subst e
  rw [show (k0 + (fW i k0.toNat : Int)).toNat = k0.toNat + fW i k0.toNat by omega, show (k0 + (fW i k0.toNat : Int) + 1).toNat = k0.toNat + fW i k0.toNat + 1 by omega]
  refine ⟨?_, by omega, by omega, by omega⟩
  by_cases g : fM i k0.toNat = 1
  · rw [g] at f3
    exact .inl ⟨g, f2.mp g, f3⟩
  · have g2 : fM i k0.toNat = 0 := by omega
    rw [g2] at f3
    exact .inr ⟨g2, fun h => g (f2.mpr h), f3⟩
def sqJ (T : Int → Int → Int → Prop) (m : Nat → Int32) (i : Nat) (b p0 k p : Int) : Prop := gd i k.toNat = true ∧ (sq T m b (rs i k.toNat) p ↔ sq T m b (rs i 0) p0)
def thr (m : Nat → Int32) (b p n : Int) : Prop := p < b ∧ gb m p = 160 + n
theorem sqJ_0 {T : Int → Int → Int → Prop} {m : Nat → Int32} {i : Nat} {b p0 : Int} (hi : 3 ≤ i ∧ i < 26) : sqJ T m i b p0 0 p0 := ⟨gd_0 i hi.2 hi.1, Iff.rfl⟩
theorem sqJ_end {T : Int → Int → Int → Prop} {m : Nat → Int32} {i : Nat} {b p0 k p : Int} (hi : 3 ≤ i ∧ i < 26) (h : sqJ T m i b p0 k p) (hk : zn i ≤ k) (h0 : 0 ≤ k) : p = b ↔ sq T m b (rs i 0) p0 := by
  have h1 := gd_le hi.2 h.1
  have h2 := h.2
  rw [show k.toNat = zn i by omega, rs_end i hi.2] at h2
  exact h2
theorem sqJ_skip {T : Int → Int → Int → Prop} {m : Nat → Int32} {i : Nat} {b p0 k p : Int} (hi : 3 ≤ i ∧ i < 26) (h : sqJ T m i b p0 k p) (hk : k < zn i) (h0 : 0 ≤ k) (ht : ¬ thr m b p (fN i k.toNat)) : (fM i k.toNat = 0 → ¬ sq T m b (rs i 0) p0) ∧ (fM i k.toNat = 1 → sqJ T m i b p0 (fE i k.toNat : Int) p) := by
  have f := fok_of hi h.1 (by omega)
  have h2 := h.2
  rw [f.r] at h2
  refine ⟨fun hm hs => ?_, fun hm => ⟨f.g, ?_⟩⟩
  · rcases h2.mpr hs with h3 | h3
    · exact ht h3.1
    · have h4 : (fM i k.toNat : Int) = 1 := h3.2.1
      omega
  · refine Iff.trans ⟨fun h3 => Or.inr ⟨ht, (show (fM i k.toNat : Int) = 1 by omega), h3⟩, fun h3 => ?_⟩ h2
    rcases h3 with h4 | h4
    · exact absurd h4.1 ht
    · exact h4.2.2
theorem sqJ_take {T : Int → Int → Int → Prop} {m : Nat → Int32} {i : Nat} {b p0 k p : Int} (hi : 3 ≤ i ∧ i < 26) (h : sqJ T m i b p0 k p) (hk : k < zn i) (h0 : 0 ≤ k) (ht : thr m b p (fN i k.toNat)) : (¬ (0 ≤ elI m p b ∧ T (fY i k.toNat) (elI m p b) (elE m p b)) → ¬ sq T m b (rs i 0) p0) ∧ (0 ≤ elI m p b → T (fY i k.toNat) (elI m p b) (elE m p b) → sqJ T m i b p0 (fE i k.toNat : Int) (elE m p b)) := by
  have f := fok_of hi h.1 (by omega)
  have h2 := h.2
  rw [f.r] at h2
  refine ⟨fun hm hs => ?_, fun h5 h6 => ⟨f.g, ?_⟩⟩
  · rcases h2.mpr hs with h3 | h3
    · exact hm ⟨h3.2.1, h3.2.2.1⟩
    · exact h3.1 ht
  · refine Iff.trans ⟨fun h3 => .inl ⟨ht, h5, h6, h3⟩, fun h3 => ?_⟩ h2
    rcases h3 with h4 | h4
    · exact h4.2.2.2
    · exact absurd ht h4.1
/-- the places of the fields that were read: outside this thing all is as before -/
def FS (m : Nat → Int32) (b t : Int) (i : Nat) (p0 k p : Int) (F0 T0 F T : Nat → Int32) : Prop :=
  (∀ j : Nat, ((j : Int) < 16 * t ∨ 16 * t + 16 ≤ j) → F j = F0 j ∧ T j = T0 j) ∧ pG2 F T ∧
  ∀ n : Int, 0 ≤ n → n < 16 → fd m b (rs i k.toNat) p n ((F (16 * t + n).toNat).toInt, (T (16 * t + n).toNat).toInt) = fd m b (rs i 0) p0 n (-1, -1)
theorem FS_cg {m : Nat → Int32} {i : Nat} {b t p0 k p : Int} {F0 T0 F T F' T' : Nat → Int32} (h1 : F' = F) (h2 : T' = T) (h : FS m b t i p0 k p F0 T0 F T) : FS m b t i p0 k p F0 T0 F' T' := by rw [h1, h2]; exact h
theorem FS_skip {m : Nat → Int32} {i : Nat} {b t p0 k p : Int} {F0 T0 F T : Nat → Int32} (hi : 3 ≤ i ∧ i < 26) (hg : gd i k.toNat = true) (hk : k < zn i) (h0 : 0 ≤ k) (ht : ¬ thr m b p (fN i k.toNat)) (h : FS m b t i p0 k p F0 T0 F T) : FS m b t i p0 (fE i k.toNat : Int) p F0 T0 F T := by
  have f := fok_of hi hg (by omega)
  refine ⟨h.1, h.2.1, fun n hn hn2 => ?_⟩
  have h3 := h.2.2 n hn hn2
  rw [Int.toNat_natCast, ← h3, f.r]
  exact (if_neg ht).symm
theorem FS_take {m : Nat → Int32} {i : Nat} {b t p0 k p : Int} {F0 T0 F T : Nat → Int32} (hi : 3 ≤ i ∧ i < 26) (hg : gd i k.toNat = true) (hk : k < zn i) (h0 : 0 ≤ k) (ht0 : 0 ≤ t) (ht : thr m b p (fN i k.toNat)) (hp : pr (elI m p b) (elE m p b)) (h : FS m b t i p0 k p F0 T0 F T) : FS m b t i p0 (fE i k.toNat : Int) (elE m p b) F0 T0 (upd F (16 * t + fN i k.toNat).toNat (iI (elI m p b))) (upd T (16 * t + fN i k.toNat).toNat (iI (elE m p b))) := by
  have f := fok_of hi hg (by omega)
  have f1 := f.n
  have r1 : iR (elI m p b) := by unfold pr at hp; exact ⟨by omega, by omega⟩
  have r2 : iR (elE m p b) := by unfold pr at hp; exact ⟨by omega, by omega⟩
  refine ⟨fun j hj => ?_, pG2_up h.2.1 r1 r2 hp, fun n hn hn2 => ?_⟩
  · have e : j ≠ (16 * t + fN i k.toNat).toNat := by omega
    rw [pk_un e, pk_un e]
    exact h.1 j hj
  · have h3 := h.2.2 n hn hn2
    rw [Int.toNat_natCast, ← h3]
    rw [f.r]
    by_cases e : n = fN i k.toNat
    · rw [e, pk_us, pk_us, iI_toInt r1, iI_toInt r2]
      exact ((if_pos ht).trans (if_pos rfl)).symm
    · have e2 : (16 * t + n).toNat ≠ (16 * t + fN i k.toNat).toNat := by omega
      rw [pk_un e2, pk_un e2]
      exact ((if_pos ht).trans (if_neg e)).symm
/-- all places of a thing set to 'not there', up to n -/
def FZ (t n : Int) (F0 T0 F T : Nat → Int32) : Prop := (∀ j : Nat, ((j : Int) < 16 * t ∨ 16 * t + n ≤ j) → F j = F0 j ∧ T j = T0 j) ∧ pG2 F T ∧ ∀ k : Int, 0 ≤ k → k < n → (F (16 * t + k).toNat).toInt = -1 ∧ (T (16 * t + k).toNat).toInt = -1
theorem FZ_cg {t n : Int} {F0 T0 F T F' T' : Nat → Int32} (h1 : F' = F) (h2 : T' = T) (h : FZ t n F0 T0 F T) : FZ t n F0 T0 F' T' := by rw [h1, h2]; exact h
theorem FZ_0 {t : Int} {F T : Nat → Int32} (h : pG2 F T) : FZ t 0 F T F T := ⟨fun _ _ => ⟨rfl, rfl⟩, h, fun k h1 h2 => by omega⟩
theorem FZ_go {t n : Int} {F0 T0 F T : Nat → Int32} (h0 : 0 ≤ t) (h1 : 0 ≤ n) (h : FZ t n F0 T0 F T) : FZ t (n + 1) F0 T0 (upd F (16 * t + n).toNat (iI (-1))) (upd T (16 * t + n).toNat (iI (-1))) := by
  have r1 : iR (-1) := ⟨by decide, by decide⟩
  refine ⟨fun j hj => ?_, pG2_up h.2.1 r1 r1 (.inl ⟨rfl, rfl⟩), fun k hk hk2 => ?_⟩
  · have e : j ≠ (16 * t + n).toNat := by omega
    rw [pk_un e, pk_un e]
    exact h.1 j (by omega)
  · by_cases e : k = n
    · rw [e, pk_us, pk_us, iI_toInt r1]; exact ⟨rfl, rfl⟩
    · have e2 : (16 * t + k).toNat ≠ (16 * t + n).toNat := by omega
      rw [pk_un e2, pk_un e2]
      exact h.2.2 k hk (by omega)
theorem FS_0 {m : Nat → Int32} {i : Nat} {b t p0 n : Int} {F0 T0 F T : Nat → Int32} (hn : n = 16) (h : FZ t n F0 T0 F T) : FS m b t i p0 0 p0 F0 T0 F T := by
  subst hn
  exact ⟨h.1, h.2.1, fun n hn hn2 => by
  have h3 := h.2.2 n hn hn2
  rw [h3.1, h3.2]
  rfl⟩
theorem FS_end {m : Nat → Int32} {i : Nat} {b t p0 k p : Int} {F0 T0 F T : Nat → Int32} (hi : 3 ≤ i ∧ i < 26) (hg : gd i k.toNat = true) (hk : zn i ≤ k) (h : FS m b t i p0 k p F0 T0 F T) (n : Int) (hn : 0 ≤ n) (hn2 : n < 16) : ((F (16 * t + n).toNat).toInt, (T (16 * t + n).toNat).toInt) = fd m b (rs i 0) p0 n (-1, -1) := by
  have h1 := gd_le hi.2 hg
  have h3 := h.2.2 n hn hn2
  rw [show k.toNat = zn i by omega, rs_end i hi.2] at h3
  exact h3
