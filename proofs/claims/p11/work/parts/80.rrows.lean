/-! The reference: numbers within their ranges. rS: all within, numbers outside M and arrays outside N as before. -/
def rI (k : Nat) : Int × Int := match k with
  | 2 => (0, 4000)
  | 3 => (0, 20000)
  | 14 => (0, 1)
  | 18 => (0, 14)
  | 29 => (0, 60)
  | 32 => (0, 64)
  | 36 => (0, 20000)
  | 39 => (0, 30000)
  | 40 => (0, 30000)
  | 42 => (0, 60000)
  | 43 => (0, 12)
  | 54 => (0, 40)
  | 55 => (0, 4000)
  | 57 => (1, 32)
  | 67 => (0, 1)
  | 68 => (0, 1)
  | 69 => (0, 1)
  | 70 => (-1, 11)
  | 72 => (0, 1)
  | 73 => (0, 30000)
  | 74 => (0, 30000)
  | 75 => (-1, 11)
  | 76 => (-1, 11)
  | 78 => (0, 1)
  | 84 => (0, 1)
  | 85 => (0, 1)
  | _ => (-2147483648, 2147483647)
def rB (k : Nat) : Int × Int := match k with
  | 0 => (-128, 127)
  | 1 => (-128, 127)
  | 7 => (-128, 127)
  | 9 => (-128, 127)
  | 10 => (-128, 127)
  | 11 => (-128, 127)
  | 12 => (0, 255)
  | 13 => (0, 255)
  | 16 => (0, 255)
  | 17 => (0, 255)
  | 19 => (-128, 127)
  | 20 => (-128, 127)
  | 22 => (-128, 127)
  | 23 => (-128, 127)
  | 24 => (-128, 127)
  | 25 => (-128, 127)
  | 26 => (-128, 127)
  | 27 => (-128, 127)
  | 28 => (-128, 127)
  | 31 => (-128, 127)
  | 34 => (-128, 127)
  | 35 => (-128, 127)
  | 37 => (-1, 30000)
  | 38 => (-1, 30000)
  | 44 => (-128, 127)
  | 45 => (0, 33)
  | 46 => (0, 2000)
  | 52 => (-128, 127)
  | 53 => (-128, 127)
  | 56 => (-128, 127)
  | 58 => (-128, 127)
  | 59 => (-128, 127)
  | 60 => (-128, 127)
  | 61 => (-128, 127)
  | 62 => (-60000, 60000)
  | 64 => (0, 32)
  | 90 => (-128, 127)
  | 91 => (0, 1)
  | 92 => (-128, 127)
  | 93 => (0, 33)
  | 94 => (-100000, 100000)
  | 96 => (-128, 127)
  | 97 => (0, 1)
  | 98 => (-128, 127)
  | 99 => (-128, 127)
  | 100 => (0, 4200)
  | 102 => (0, 18)
  | 107 => (-128, 127)
  | 108 => (0, 100)
  | 109 => (0, 300)
  | 110 => (-1, 2)
  | 111 => (0, 4)
  | 112 => (0, 18)
  | 113 => (0, 33)
  | 115 => (0, 1)
  | 116 => (-128, 127)
  | 117 => (-128, 127)
  | 118 => (-128, 127)
  | 119 => (0, 100)
  | 120 => (0, 300)
  | 121 => (0, 1)
  | 122 => (0, 18)
  | 126 => (-128, 127)
  | 127 => (-128, 127)
  | 132 => (-128, 127)
  | 133 => (0, 1)
  | 134 => (0, 18)
  | 135 => (-1, 3)
  | 136 => (-128, 127)
  | 142 => (0, 18)
  | 143 => (-128, 127)
  | 144 => (-128, 127)
  | _ => (-2147483648, 2147483647)
def rT (I : Nat → Int32) (B : Nat → Nat → Int32) : Prop := (∀ k, (rI k).1 ≤ (I k).toInt ∧ (I k).toInt ≤ (rI k).2) ∧ ∀ k j, (rB k).1 ≤ (B k j).toInt ∧ (B k j).toInt ≤ (rB k).2
def rS (M N : List Nat) (I0 : Nat → Int32) (B0 : Nat → Nat → Int32) (I : Nat → Int32) (B : Nat → Nat → Int32) : Prop := rT I B ∧ (∀ j, j ∉ M → I j = I0 j) ∧ ∀ j, j ∉ N → B j = B0 j
def rU (I I' : Nat → Int32) (k : Nat) (x : Int32) : Prop := I' k = x ∧ ∀ j, j ≠ k → I' j = I j
def rV (B B' : Nat → Nat → Int32) (k i : Nat) (x : Int32) : Prop := B' k = upd (B k) i x ∧ ∀ j, j ≠ k → B' j = B j
theorem rS_rf {M N : List Nat} {I : Nat → Int32} {B : Nat → Nat → Int32} (h : rT I B) : rS M N I B I B := ⟨h, fun _ _ => rfl, fun _ _ => rfl⟩
theorem rS_call {M N Mc Nc : List Nat} {I0 I I' : Nat → Int32} {B0 B B' : Nat → Nat → Int32} (S : rS M N I0 B0 I B) (S2 : rS Mc Nc I B I' B') (hM : ∀ c ∈ Mc, c ∈ M) (hN : ∀ c ∈ Nc, c ∈ N) : rS M N I0 B0 I' B' := ⟨S2.1, fun j hj => (S2.2.1 j (fun h => hj (hM j h))).trans (S.2.1 j hj), fun j hj => (S2.2.2 j (fun h => hj (hN j h))).trans (S.2.2 j hj)⟩
theorem rS_puti {M N : List Nat} {I0 I : Nat → Int32} {B0 B : Nat → Nat → Int32} {k : Nat} {z lo hi : Int} (S : rS M N I0 B0 I B) (hr : rI k = (lo, hi)) (h0 : lo ≤ z) (h1 : z ≤ hi) (hz : iR z) (hm : k ∈ M) : rS M N I0 B0 (upd I k (iI z)) B := by
  refine ⟨⟨fun j => ?_, S.1.2⟩, fun j hj => ?_, S.2.2⟩
  · by_cases e1 : j = k
    · rw [e1, pk_us, iI_toInt hz, hr]; exact ⟨h0, h1⟩
    · rw [pk_un e1]; exact S.1.1 j
  · have e2 : j ≠ k := fun e1 => hj (by rw [e1]; exact hm)
    rw [pk_un e2]; exact S.2.1 j hj
theorem rU_of {I : Nat → Int32} {k : Nat} {x : Int32} : rU I (upd I k x) k x := ⟨pk_us, fun j hj => pk_un hj⟩
theorem rS_st {M N : List Nat} {I0 I : Nat → Int32} {B0 B : Nat → Nat → Int32} {k i : Nat} {x : Int32} {lo hi : Int} (S : rS M N I0 B0 I B) (hr : rB k = (lo, hi)) (h0 : lo ≤ x.toInt) (h1 : x.toInt ≤ hi) (hm : k ∈ N) : rS M N I0 B0 I (upB B k (upd (B k) i x)) := by
  refine ⟨⟨S.1.1, fun j i2 => ?_⟩, S.2.1, fun j hj => ?_⟩
  · by_cases e1 : j = k
    · rw [e1, upB_s]
      by_cases e2 : i2 = i
      · rw [e2, pk_us, hr]; exact ⟨h0, h1⟩
      · rw [pk_un e2]; exact S.1.2 k i2
    · rw [upB_n e1]; exact S.1.2 j i2
  · have e2 : j ≠ k := fun e1 => hj (by rw [e1]; exact hm)
    rw [upB_n e2]; exact S.2.2 j hj
theorem rV_of {B : Nat → Nat → Int32} {k i : Nat} {x : Int32} : rV B (upB B k (upd (B k) i x)) k i x := ⟨upB_s _ _ _, fun j hj => upB_n hj⟩
theorem nar_byte (x : Int32) : -128 ≤ (vp_nar .byte x).toInt ∧ (vp_nar .byte x).toInt ≤ 127 := by
  rw [vp_nar_byte]
  exact iI_byte (pk_fb x)
theorem nar_bool {x : Int} (h : 0 ≤ x ∧ x ≤ 1) : vp_nar .boolean (iI x) = iI x := by
  unfold vp_nar
  rw [(iI_bool h.1 h.2).1]
def rPv (M N : List Nat) (I : Nat → Int32) (B : Nat → Nat → Int32) (P : mS → Prop) (u : mS) : Prop := rS M N I B u.1 u.2.2.1 ∧ P u
def rPi (M N : List Nat) (I : Nat → Int32) (B : Nat → Nat → Int32) (P : Int → mS → Prop) (r : Int32) (u : mS) : Prop := rS M N I B u.1 u.2.2.1 ∧ ∃ z : Int, r = iI z ∧ P z u
def rPl (M N : List Nat) (I : Nat → Int32) (B : Nat → Nat → Int32) (P : Int64 → mS → Prop) (r : Int64) (u : mS) : Prop := rS M N I B u.1 u.2.2.1 ∧ P r u
section RROWS
variable {p : Program} {l : Launch} {e : Env} {R : Room} {s : State} {m : MethodId} {args : Array Value} {below : List Frame} {meth : Method} {c : Code} {H : Heap} {locs : List Loc} {cells slots : Nat} {Q : State → Prop} {cc : ByteArray} {pc : Nat} {ls : Array Slot} {rest : List Value} {D : mD} {E : mE} {A : Nat → Prop} {h : Nat} {q : Nat → Nat} {I I0 : Nat → Int32} {J : Nat → Int64} {B B0 : Nat → Nat → Int32} {G : Nat → Nat → Int64} {M N Mc Nc : List Nat}
theorem r_geti {k ix : Nat} {lo hi : Int} (X : mX p c cc args s m D E) (Y : mH D E A s.heap h q I J B G H locs) (S : rS M N I0 B0 I B) (hk : k < 145) (hl : Cond.fieldLink R_M ix R_M (F_M k).2.1 (F_M k).2.2.1 ∈ lw_tg) (hv : (mFs q I J)[k]? = some (.int (I k))) (hs : (F_M k).1 = R_M) (hr : rI k = (lo, hi)) (hdg : decode cc pc = .ok (.getfield ix, 3))
    (kk : ∀ z : Int, I k = iI z → lo ≤ z → z ≤ hi → W p l e R s m args below meth c H locs cells slots Q (F0 m (pc + 3) ls (.int (iI z) :: rest))) : W p l e R s m args below meth c H locs cells slots Q (F0 m pc ls (.ref h :: rest)) := by
  refine m_get X Y k hk hl hv hs hdg ?_
  have h1 := S.1.1 k
  rw [hr] at h1
  have h2 := kk _ (iI_of (I k)) h1.1 h1.2
  rw [← iI_of] at h2
  exact h2
theorem r_get0 {k ix : Nat} {z : Int} (X : mX p c cc args s m D E) (Y : mH D E A s.heap h q I J B G H locs) (hk : k < 145) (hl : Cond.fieldLink R_M ix R_M (F_M k).2.1 (F_M k).2.2.1 ∈ lw_tg) (hv : (mFs q I J)[k]? = some (.int (I k))) (hs : (F_M k).1 = R_M) (hz : I k = iI z) (hdg : decode cc pc = .ok (.getfield ix, 3))
    (kk : W p l e R s m args below meth c H locs cells slots Q (F0 m (pc + 3) ls (.int (iI z) :: rest))) : W p l e R s m args below meth c H locs cells slots Q (F0 m pc ls (.ref h :: rest)) := m_get X Y k hk hl hv hs hdg (t_eq hz kk)
theorem r_puti {k ix : Nat} {z lo hi : Int} {ty : FieldType} (X : mX p c cc args s m D E) (Y : mH D E A s.heap h q I J B G H locs) (S : rS M N I0 B0 I B) (hk : k < 145) (hl : Cond.fieldLink R_M ix R_M (F_M k).2.1 (F_M k).2.2.1 ∈ lw_tg) (hs : (F_M k).1 = R_M) (hf : (F_M k).2.2.2 = false) (hd : parseFieldDescriptor (F_M k).2.2.1 = some ty) (hn : narrow ty (.int (iI z)) = .int (iI z)) (hfit : fits ty (.int (iI z)) = true) (hset : (mFs q I J).set k (.int (iI z)) = mFs q (upd I k (iI z)) J) (hlen : k < (mFs q I J).length) (hr : rI k = (lo, hi)) (h0 : lo ≤ z) (h1 : z ≤ hi) (hz : iR z) (hm : k ∈ M) (hdg : decode cc pc = .ok (.putfield ix, 3))
    (kk : ∀ (I1 : Nat → Int32) (H1 : Heap) (locs1 : List Loc), mH D E A s.heap h q I1 J B G H1 locs1 → rS M N I0 B0 I1 B → rU I I1 k (iI z) → W p l e R s m args below meth c H1 locs1 cells slots Q (F0 m (pc + 3) ls rest)) : W p l e R s m args below meth c H locs cells slots Q (F0 m pc ls (.int (iI z) :: .ref h :: rest)) :=
  m_puti X Y k hk hl hs hf hd hn hfit hset hlen hdg (fun H1 locs1 Y1 => kk _ H1 locs1 Y1 (rS_puti S hr h0 h1 hz hm) rU_of)
theorem r_putl {k ix : Nat} {x : Int64} {ty : FieldType} (X : mX p c cc args s m D E) (Y : mH D E A s.heap h q I J B G H locs) (hk : k < 145) (hl : Cond.fieldLink R_M ix R_M (F_M k).2.1 (F_M k).2.2.1 ∈ lw_tg) (hs : (F_M k).1 = R_M) (hf : (F_M k).2.2.2 = false) (hd : parseFieldDescriptor (F_M k).2.2.1 = some ty) (hn : narrow ty (.long x) = .long x) (hfit : fits ty (.long x) = true) (hset : (mFs q I J).set k (.long x) = mFs q I (vp_updL J k x)) (hlen : k < (mFs q I J).length) (hdg : decode cc pc = .ok (.putfield ix, 3))
    (kk : ∀ (J1 : Nat → Int64) (H1 : Heap) (locs1 : List Loc), mH D E A s.heap h q I J1 B G H1 locs1 → W p l e R s m args below meth c H1 locs1 cells slots Q (F0 m (pc + 3) ls rest)) : W p l e R s m args below meth c H locs cells slots Q (F0 m pc ls (.long x :: .ref h :: rest)) :=
  m_putl X Y k hk hl hs hf hd hn hfit hset hlen hdg (fun H1 locs1 Y1 => kk _ H1 locs1 Y1)
theorem r_bald {pp k n : Nat} {i lo hi : Int} (X : mX p c cc args s m D E) (Y : mH D E A s.heap h q I J B G H locs) (S : rS M N I0 B0 I B) (ha : (mW E h q I J B G)[pp]? = some (q k, .inl (E.1, n, .inl (B k)))) (hr : rB k = (lo, hi)) (h0 : 0 ≤ i) (h1 : i < n) (h2 : i ≤ 2147483647) (hdg : decode cc pc = .ok (.baload, 1))
    (kk : ∀ z : Int, z = (B k i.toNat).toInt → lo ≤ z → z ≤ hi → W p l e R s m args below meth c H locs cells slots Q (F0 m (pc + 1) ls (.int (iI z) :: rest))) : W p l e R s m args below meth c H locs cells slots Q (F0 m pc ls (.int (iI i) :: .ref (q k) :: rest)) := by
  refine m_bald X Y ha (iI_in h0 h1 h2) hdg ?_
  rw [iI_cl h0 h2]
  have h3 := S.1.2 k i.toNat
  rw [hr] at h3
  have h4 := kk _ rfl h3.1 h3.2
  rw [← iI_of] at h4
  exact h4
theorem r_zald {pp k n : Nat} {i lo hi : Int} (X : mX p c cc args s m D E) (Y : mH D E A s.heap h q I J B G H locs) (S : rS M N I0 B0 I B) (ha : (mW E h q I J B G)[pp]? = some (q k, .inl (E.2.2.2, n, .inl (B k)))) (hr : rB k = (lo, hi)) (h0 : 0 ≤ i) (h1 : i < n) (h2 : i ≤ 2147483647) (hdg : decode cc pc = .ok (.baload, 1))
    (kk : ∀ z : Int, z = (B k i.toNat).toInt → lo ≤ z → z ≤ hi → W p l e R s m args below meth c H locs cells slots Q (F0 m (pc + 1) ls (.int (iI z) :: rest))) : W p l e R s m args below meth c H locs cells slots Q (F0 m pc ls (.int (iI i) :: .ref (q k) :: rest)) := by
  refine m_zald X Y ha (iI_in h0 h1 h2) hdg ?_
  rw [iI_cl h0 h2]
  have h3 := S.1.2 k i.toNat
  rw [hr] at h3
  have h4 := kk _ rfl h3.1 h3.2
  rw [← iI_of] at h4
  exact h4
theorem r_iald {pp k n : Nat} {i lo hi : Int} (X : mX p c cc args s m D E) (Y : mH D E A s.heap h q I J B G H locs) (S : rS M N I0 B0 I B) (ha : (mW E h q I J B G)[pp]? = some (q k, .inl (E.2.1, n, .inl (B k)))) (hr : rB k = (lo, hi)) (h0 : 0 ≤ i) (h1 : i < n) (h2 : i ≤ 2147483647) (hdg : decode cc pc = .ok (.iaload, 1))
    (kk : ∀ z : Int, z = (B k i.toNat).toInt → lo ≤ z → z ≤ hi → W p l e R s m args below meth c H locs cells slots Q (F0 m (pc + 1) ls (.int (iI z) :: rest))) : W p l e R s m args below meth c H locs cells slots Q (F0 m pc ls (.int (iI i) :: .ref (q k) :: rest)) := by
  refine m_iald X Y ha (iI_in h0 h1 h2) hdg ?_
  rw [iI_cl h0 h2]
  have h3 := S.1.2 k i.toNat
  rw [hr] at h3
  have h4 := kk _ rfl h3.1 h3.2
  rw [← iI_of] at h4
  exact h4
theorem r_lald {pp k n : Nat} {i : Int} (X : mX p c cc args s m D E) (Y : mH D E A s.heap h q I J B G H locs) (ha : (mW E h q I J B G)[pp]? = some (q k, .inl (E.2.2.1, n, .inr (.inl (G k))))) (h0 : 0 ≤ i) (h1 : i < n) (h2 : i ≤ 2147483647) (hdg : decode cc pc = .ok (.laload, 1))
    (kk : ∀ v : Int64, W p l e R s m args below meth c H locs cells slots Q (F0 m (pc + 1) ls (.long v :: rest))) : W p l e R s m args below meth c H locs cells slots Q (F0 m pc ls (.int (iI i) :: .ref (q k) :: rest)) := m_lald X Y ha (iI_in h0 h1 h2) hdg (kk _)
theorem r_bast {pp k n : Nat} {i x : Int} (X : mX p c cc args s m D E) (Y : mH D E A s.heap h q I J B G H locs) (S : rS M N I0 B0 I B) (ha : (mW E h q I J B G)[pp]? = some (q k, .inl (E.1, n, .inl (B k)))) (hset : ∀ f, (mW E h q I J B G).set pp (q k, .inl (E.1, n, .inl f)) = mW E h q I J (upB B k f) G) (hr : rB k = (-128, 127)) (h0 : 0 ≤ i) (h1 : i < n) (h2 : i ≤ 2147483647) (hm : k ∈ N) (hdg : decode cc pc = .ok (.bastore, 1))
    (kk : ∀ (B1 : Nat → Nat → Int32) (H1 : Heap) (locs1 : List Loc), mH D E A s.heap h q I J B1 G H1 locs1 → rS M N I0 B0 I B1 → rV B B1 k i.toNat (vp_nar .byte (iI x)) → W p l e R s m args below meth c H1 locs1 cells slots Q (F0 m (pc + 1) ls rest)) : W p l e R s m args below meth c H locs cells slots Q (F0 m pc ls (.int (iI x) :: .int (iI i) :: .ref (q k) :: rest)) := by
  refine m_bast X Y ha (iI_in h0 h1 h2) (hset _) hdg (fun H1 locs1 Y1 => ?_)
  rw [iI_cl h0 h2] at Y1
  exact kk _ H1 locs1 Y1 (rS_st S hr (nar_byte _).1 (nar_byte _).2 hm) rV_of
theorem r_zast {pp k n : Nat} {i x : Int} (X : mX p c cc args s m D E) (Y : mH D E A s.heap h q I J B G H locs) (S : rS M N I0 B0 I B) (ha : (mW E h q I J B G)[pp]? = some (q k, .inl (E.2.2.2, n, .inl (B k)))) (hset : ∀ f, (mW E h q I J B G).set pp (q k, .inl (E.2.2.2, n, .inl f)) = mW E h q I J (upB B k f) G) (hr : rB k = (0, 1)) (hx : 0 ≤ x ∧ x ≤ 1) (h0 : 0 ≤ i) (h1 : i < n) (h2 : i ≤ 2147483647) (hm : k ∈ N) (hdg : decode cc pc = .ok (.bastore, 1))
    (kk : ∀ (B1 : Nat → Nat → Int32) (H1 : Heap) (locs1 : List Loc), mH D E A s.heap h q I J B1 G H1 locs1 → rS M N I0 B0 I B1 → rV B B1 k i.toNat (vp_nar .boolean (iI x)) → W p l e R s m args below meth c H1 locs1 cells slots Q (F0 m (pc + 1) ls rest)) : W p l e R s m args below meth c H locs cells slots Q (F0 m pc ls (.int (iI x) :: .int (iI i) :: .ref (q k) :: rest)) := by
  refine m_zast X Y ha (iI_in h0 h1 h2) (hset _) hdg (fun H1 locs1 Y1 => ?_)
  rw [iI_cl h0 h2] at Y1
  exact kk _ H1 locs1 Y1 (rS_st S hr (by rw [nar_bool hx]; rw [iI_toInt ⟨by omega, by omega⟩]; exact hx.1) (by rw [nar_bool hx]; rw [iI_toInt ⟨by omega, by omega⟩]; exact hx.2) hm) rV_of
theorem r_iast {pp k n : Nat} {i x : Int} (X : mX p c cc args s m D E) (Y : mH D E A s.heap h q I J B G H locs) (S : rS M N I0 B0 I B) (ha : (mW E h q I J B G)[pp]? = some (q k, .inl (E.2.1, n, .inl (B k)))) (hset : ∀ f, (mW E h q I J B G).set pp (q k, .inl (E.2.1, n, .inl f)) = mW E h q I J (upB B k f) G) {lo hi : Int} (hr : rB k = (lo, hi)) (hx : lo ≤ x ∧ x ≤ hi) (hz : iR x) (h0 : 0 ≤ i) (h1 : i < n) (h2 : i ≤ 2147483647) (hm : k ∈ N) (hdg : decode cc pc = .ok (.iastore, 1))
    (kk : ∀ (B1 : Nat → Nat → Int32) (H1 : Heap) (locs1 : List Loc), mH D E A s.heap h q I J B1 G H1 locs1 → rS M N I0 B0 I B1 → rV B B1 k i.toNat (iI x) → W p l e R s m args below meth c H1 locs1 cells slots Q (F0 m (pc + 1) ls rest)) : W p l e R s m args below meth c H locs cells slots Q (F0 m pc ls (.int (iI x) :: .int (iI i) :: .ref (q k) :: rest)) := by
  refine m_iast X Y ha (iI_in h0 h1 h2) (hset _) hdg (fun H1 locs1 Y1 => ?_)
  rw [iI_cl h0 h2] at Y1
  exact kk _ H1 locs1 Y1 (rS_st S hr (by rw [iI_toInt hz]; exact hx.1) (by rw [iI_toInt hz]; exact hx.2) hm) rV_of
theorem r_last {pp k n : Nat} {i : Int} {x : Int64} (X : mX p c cc args s m D E) (Y : mH D E A s.heap h q I J B G H locs) (ha : (mW E h q I J B G)[pp]? = some (q k, .inl (E.2.2.1, n, .inr (.inl (G k))))) (hset : ∀ f, (mW E h q I J B G).set pp (q k, .inl (E.2.2.1, n, .inr (.inl f))) = mW E h q I J B (upG G k f)) (h0 : 0 ≤ i) (h1 : i < n) (h2 : i ≤ 2147483647) (hdg : decode cc pc = .ok (.lastore, 1))
    (kk : ∀ (G1 : Nat → Nat → Int64) (H1 : Heap) (locs1 : List Loc), mH D E A s.heap h q I J B G1 H1 locs1 → W p l e R s m args below meth c H1 locs1 cells slots Q (F0 m (pc + 1) ls rest)) : W p l e R s m args below meth c H locs cells slots Q (F0 m pc ls (.long x :: .int (iI i) :: .ref (q k) :: rest)) := m_last X Y ha (iI_in h0 h1 h2) (hset _) hdg (fun H1 locs1 Y1 => kk _ H1 locs1 Y1)
theorem r_nv {P : mS → Prop} {a0 : Array Value} {st0 : List Value} (hr : va_Run p l e R s m args below meth c H locs cells slots 0 0 (F0 m pc ls st0) rest (va_Qv (rPv Mc Nc I B P) (mPost D E h q (mA E h q H.size)) (mA E h q H.size) a0) (mA E h q H.size)) (X : mX p c cc args s m D E) (Y : mH D E A s.heap h q I J B G H locs) (hA : ∀ a, s.heap.size ≤ a → A a) (S : rS M N I0 B0 I B) (hM : ∀ c ∈ Mc, c ∈ M) (hN : ∀ c ∈ Nc, c ∈ N)
    (kk : ∀ (u : mS) (H1 : Heap) (locs1 : List Loc), mH D E A s.heap h q u.1 u.2.1 u.2.2.1 u.2.2.2 H1 locs1 → rS M N I0 B0 u.1 u.2.2.1 → rS Mc Nc I B u.1 u.2.2.1 → P u → W p l e R s m args below meth c H1 locs1 cells slots Q (F0 m (pc + 3) ls (rest))) : W p l e R s m args below meth c H locs cells slots Q (F0 m pc ls st0) :=
  va_callv hr Y.2.2 (fun a _ ha => mA_sub Y.2.1 (fun a ha => hA a (Nat.le_trans Y.2.2.1 ha)) a ha) (mA_sub Y.2.1 (fun a ha => hA a (Nat.le_trans Y.2.2.1 ha))) (fun u t H1 locs1 ht hvm hp hB _ _ hS => kk u H1 locs1 (m_back X Y ht hvm hB hA hS) (rS_call S hp.1 hM hN) hp.1 hp.2)
theorem r_ni {P : Int → mS → Prop} {a0 : Array Value} {st0 : List Value} (hr : va_Run p l e R s m args below meth c H locs cells slots 0 0 (F0 m pc ls st0) rest (va_Qi (rPi Mc Nc I B P) (mPost D E h q (mA E h q H.size)) (mA E h q H.size) a0) (mA E h q H.size)) (X : mX p c cc args s m D E) (Y : mH D E A s.heap h q I J B G H locs) (hA : ∀ a, s.heap.size ≤ a → A a) (S : rS M N I0 B0 I B) (hM : ∀ c ∈ Mc, c ∈ M) (hN : ∀ c ∈ Nc, c ∈ N)
    (kk : ∀ (z : Int) (u : mS) (H1 : Heap) (locs1 : List Loc), mH D E A s.heap h q u.1 u.2.1 u.2.2.1 u.2.2.2 H1 locs1 → rS M N I0 B0 u.1 u.2.2.1 → rS Mc Nc I B u.1 u.2.2.1 → P z u → W p l e R s m args below meth c H1 locs1 cells slots Q (F0 m (pc + 3) ls (.int (iI z) :: rest))) : W p l e R s m args below meth c H locs cells slots Q (F0 m pc ls st0) :=
  va_calli hr Y.2.2 (fun a _ ha => mA_sub Y.2.1 (fun a ha => hA a (Nat.le_trans Y.2.2.1 ha)) a ha) (mA_sub Y.2.1 (fun a ha => hA a (Nat.le_trans Y.2.2.1 ha))) (fun r u t H1 locs1 ht hvm hp hB _ _ hS => by
    obtain ⟨h1, z, h2, h3⟩ := hp
    subst h2
    exact kk z u H1 locs1 (m_back X Y ht hvm hB hA hS) (rS_call S h1 hM hN) h1 h3)
theorem r_nl {P : Int64 → mS → Prop} {a0 : Array Value} {st0 : List Value} (hr : va_Run p l e R s m args below meth c H locs cells slots 0 0 (F0 m pc ls st0) rest (va_Ql (rPl Mc Nc I B P) (mPost D E h q (mA E h q H.size)) (mA E h q H.size) a0) (mA E h q H.size)) (X : mX p c cc args s m D E) (Y : mH D E A s.heap h q I J B G H locs) (hA : ∀ a, s.heap.size ≤ a → A a) (S : rS M N I0 B0 I B) (hM : ∀ c ∈ Mc, c ∈ M) (hN : ∀ c ∈ Nc, c ∈ N)
    (kk : ∀ (z : Int64) (u : mS) (H1 : Heap) (locs1 : List Loc), mH D E A s.heap h q u.1 u.2.1 u.2.2.1 u.2.2.2 H1 locs1 → rS M N I0 B0 u.1 u.2.2.1 → rS Mc Nc I B u.1 u.2.2.1 → P z u → W p l e R s m args below meth c H1 locs1 cells slots Q (F0 m (pc + 3) ls (.long z :: rest))) : W p l e R s m args below meth c H locs cells slots Q (F0 m pc ls st0) :=
  va_calll hr Y.2.2 (fun a _ ha => mA_sub Y.2.1 (fun a ha => hA a (Nat.le_trans Y.2.2.1 ha)) a ha) (mA_sub Y.2.1 (fun a ha => hA a (Nat.le_trans Y.2.2.1 ha))) (fun r u t H1 locs1 ht hvm hp hB _ _ hS => kk r u H1 locs1 (m_back X Y ht hvm hB hA hS) (rS_call S hp.1 hM hN) hp.1 hp.2)
theorem m_retl {post : Int64 → mS → Prop} {x : Int64} {AV : Array Value} {QQ : State → Prop} (hQ : QQ = MQ below (va_Ql post (mPost D E h q A) A) AV s 0 0 A) (X : mX p c cc AV s m D E) (Y : mH D E A s.heap h q I J B G H locs) (hr : meth.sig.returnType = some .long) (hlk : meth.locks = false) (hp : post x (I, J, B, G)) (hdg : decode cc pc = .ok (.lreturn, 1)) : W p l e R s m AV below meth c H locs 0 0 QQ (F0 m pc ls [.long x]) := by
  rw [hQ]
  exact W.lret X.1 X.2.1 hr (fun t ht hW => ⟨⟨x, (I, J, B, G), rfl, hp, by rw [ht]; exact Y.1, va_K.moved hW.alike X.2.2.2.2.1, Y.2.1⟩, Y.2.2.F ht⟩) Y.2.2.2.2 hdg
theorem r_charAt {nL i : Nat} {k : Int} (X : mX p c cc args s m D E) (Y : mH D E A s.heap h q I J B G H locs) (hZ : zS D.2.1 D.2.2.1 D.2.2.2 A s s.heap) (hi : i < nZ) (h0 : 0 ≤ k) (h1 : k < zn i) (hml : c.maxLocals = nL) (hsz : ls.size = nL) (hR : 3 + 1 ≤ R.frames ∧ 8 + (2 + 11) + 64 ≤ R.locals) (hw : (rest.map fun v => v.category).sum ≤ 8) (hdg : decode cc pc = .ok (.invokevirtual 344, 3)) (hf : cells ≤ R.cells ∧ slots ≤ R.slots)
    (kk : ∀ (H1 : Heap) (locs1 : List Loc) (z : Int), mH D E A s.heap h q I J B G H1 locs1 → zb i k.toNat &&& 255 = iI z → 0 ≤ z → z ≤ 255 → W p l e R s m args below meth c H1 locs1 cells slots Q (F0 m (pc + 3) ls (.int (iI z) :: rest))) : W p l e R s m args below meth c H locs cells slots Q (F0 m pc ls (.int (iI k) :: .ref (D.2.1 i) :: rest)) := by
  have hs := zn_small i hi
  rw [iI_nat h0 (by omega)]
  refine m_charAt X Y hZ hi (show k.toNat < zn i by omega) hml hsz hR hw hdg hf (fun H1 locs1 Y1 => ?_)
  obtain ⟨z, h2, h3, h4⟩ := iI_and (zb i k.toNat) (c := 255) (by decide) (by decide)
  have e1 : (255 : Int32) = iI 255 := by decide
  rw [e1, h4]
  exact kk H1 locs1 z Y1 (by rw [e1]; exact h4) h2 h3
theorem r_length {nL i : Nat} (X : mX p c cc args s m D E) (Y : mH D E A s.heap h q I J B G H locs) (hZ : zS D.2.1 D.2.2.1 D.2.2.2 A s s.heap) (hi : i < nZ) (hml : c.maxLocals = nL) (hsz : ls.size = nL) (hR : 1 + 1 ≤ R.frames ∧ 8 + (1 + 11) + 20 ≤ R.locals) (hw : (rest.map fun v => v.category).sum ≤ 8) (hdg : decode cc pc = .ok (.invokevirtual 339, 3)) (hf : cells ≤ R.cells ∧ slots ≤ R.slots)
    (kk : ∀ (H1 : Heap) (locs1 : List Loc), mH D E A s.heap h q I J B G H1 locs1 → W p l e R s m args below meth c H1 locs1 cells slots Q (F0 m (pc + 3) ls (.int (iI (zn i)) :: rest))) : W p l e R s m args below meth c H locs cells slots Q (F0 m pc ls (.ref (D.2.1 i) :: rest)) := by
  have hs := zn_small i hi
  refine m_length X Y hZ hi hml hsz hR hw hdg hf (fun H1 locs1 Y1 => ?_)
  rw [show nI (zn i) = iI (zn i : Int) by rw [iI_nat (by omega) (by omega), Int.toNat_natCast]]
  exact kk H1 locs1 Y1
end RROWS
