set_option maxHeartbeats 4000000 in
theorem law_sw {p : Program} {l : Launch} {e : Env} {s : State} {m : MethodId} {below : List Frame} {meth : Method} {c : Code} {b : Nat} {H : Heap} {locs : List Loc} {cells slots : Nat} {ls : Array Slot} {Q : State → Prop} (hx : p.tables.exec = Jvm.exec) (hb : c.code = code) (j : Nat) (hj : j < 32) (h0 : W p l e room_1 s m #[Value.ref b] below meth c H locs cells slots Q (F0 m 160 ls [])) (h1 : W p l e room_1 s m #[Value.ref b] below meth c H locs cells slots Q (F0 m 223 ls [])) (h2 : W p l e room_1 s m #[Value.ref b] below meth c H locs cells slots Q (F0 m 246 ls [])) (h3 : W p l e room_1 s m #[Value.ref b] below meth c H locs cells slots Q (F0 m 279 ls [])) (h4 : W p l e room_1 s m #[Value.ref b] below meth c H locs cells slots Q (F0 m 302 ls [])) (h5 : W p l e room_1 s m #[Value.ref b] below meth c H locs cells slots Q (F0 m 325 ls [])) (h6 : W p l e room_1 s m #[Value.ref b] below meth c H locs cells slots Q (F0 m 338 ls [])) (h7 : W p l e room_1 s m #[Value.ref b] below meth c H locs cells slots Q (F0 m 361 ls [])) (h8 : W p l e room_1 s m #[Value.ref b] below meth c H locs cells slots Q (F0 m 394 ls [])) (h9 : W p l e room_1 s m #[Value.ref b] below meth c H locs cells slots Q (F0 m 437 ls [])) (h10 : W p l e room_1 s m #[Value.ref b] below meth c H locs cells slots Q (F0 m 460 ls [])) (h11 : W p l e room_1 s m #[Value.ref b] below meth c H locs cells slots Q (F0 m 473 ls [])) (h12 : W p l e room_1 s m #[Value.ref b] below meth c H locs cells slots Q (F0 m 506 ls [])) (h13 : W p l e room_1 s m #[Value.ref b] below meth c H locs cells slots Q (F0 m 539 ls [])) (h14 : W p l e room_1 s m #[Value.ref b] below meth c H locs cells slots Q (F0 m 626 ls [])) (h15 : W p l e room_1 s m #[Value.ref b] below meth c H locs cells slots Q (F0 m 649 ls [])) (h16 : W p l e room_1 s m #[Value.ref b] below meth c H locs cells slots Q (F0 m 692 ls [])) (h17 : W p l e room_1 s m #[Value.ref b] below meth c H locs cells slots Q (F0 m 725 ls [])) (h18 : W p l e room_1 s m #[Value.ref b] below meth c H locs cells slots Q (F0 m 768 ls [])) (h19 : W p l e room_1 s m #[Value.ref b] below meth c H locs cells slots Q (F0 m 791 ls [])) (h20 : W p l e room_1 s m #[Value.ref b] below meth c H locs cells slots Q (F0 m 814 ls [])) (h21 : W p l e room_1 s m #[Value.ref b] below meth c H locs cells slots Q (F0 m 847 ls [])) (h22 : W p l e room_1 s m #[Value.ref b] below meth c H locs cells slots Q (F0 m 880 ls [])) (h23 : W p l e room_1 s m #[Value.ref b] below meth c H locs cells slots Q (F0 m 913 ls [])) (h24 : W p l e room_1 s m #[Value.ref b] below meth c H locs cells slots Q (F0 m 936 ls [])) (h25 : W p l e room_1 s m #[Value.ref b] below meth c H locs cells slots Q (F0 m 969 ls [])) (h26 : W p l e room_1 s m #[Value.ref b] below meth c H locs cells slots Q (F0 m 1002 ls [])) (h27 : W p l e room_1 s m #[Value.ref b] below meth c H locs cells slots Q (F0 m 1035 ls [])) (hz : W p l e room_1 s m #[Value.ref b] below meth c H locs cells slots Q (F0 m 1068 ls [])) : W p l e room_1 s m #[Value.ref b] below meth c H locs cells slots Q (F0 m 33 ls [.int (nI j)]) := by
  rcases Nat.lt_or_ge j 28 with hj2 | hj2
  · rcases (show j = 0 ∨ j = 1 ∨ j = 2 ∨ j = 3 ∨ j = 4 ∨ j = 5 ∨ j = 6 ∨ j = 7 ∨ j = 8 ∨ j = 9 ∨ j = 10 ∨ j = 11 ∨ j = 12 ∨ j = 13 ∨ j = 14 ∨ j = 15 ∨ j = 16 ∨ j = 17 ∨ j = 18 ∨ j = 19 ∨ j = 20 ∨ j = 21 ∨ j = 22 ∨ j = 23 ∨ j = 24 ∨ j = 25 ∨ j = 26 ∨ j = 27 by omega) with rfl | rfl | rfl | rfl | rfl | rfl | rfl | rfl | rfl | rfl | rfl | rfl | rfl | rfl | rfl | rfl | rfl | rfl | rfl | rfl | rfl | rfl | rfl | rfl | rfl | rfl | rfl | rfl
    · exact lv_tableIn (x := nI 0) (off := 127) (tgt := 160) hx hb d_law_33 (by decide) (by decide) (by decide) (by decide) h0
    · exact lv_tableIn (x := nI 1) (off := 190) (tgt := 223) hx hb d_law_33 (by decide) (by decide) (by decide) (by decide) h1
    · exact lv_tableIn (x := nI 2) (off := 213) (tgt := 246) hx hb d_law_33 (by decide) (by decide) (by decide) (by decide) h2
    · exact lv_tableIn (x := nI 3) (off := 246) (tgt := 279) hx hb d_law_33 (by decide) (by decide) (by decide) (by decide) h3
    · exact lv_tableIn (x := nI 4) (off := 269) (tgt := 302) hx hb d_law_33 (by decide) (by decide) (by decide) (by decide) h4
    · exact lv_tableIn (x := nI 5) (off := 292) (tgt := 325) hx hb d_law_33 (by decide) (by decide) (by decide) (by decide) h5
    · exact lv_tableIn (x := nI 6) (off := 305) (tgt := 338) hx hb d_law_33 (by decide) (by decide) (by decide) (by decide) h6
    · exact lv_tableIn (x := nI 7) (off := 328) (tgt := 361) hx hb d_law_33 (by decide) (by decide) (by decide) (by decide) h7
    · exact lv_tableIn (x := nI 8) (off := 361) (tgt := 394) hx hb d_law_33 (by decide) (by decide) (by decide) (by decide) h8
    · exact lv_tableIn (x := nI 9) (off := 404) (tgt := 437) hx hb d_law_33 (by decide) (by decide) (by decide) (by decide) h9
    · exact lv_tableIn (x := nI 10) (off := 427) (tgt := 460) hx hb d_law_33 (by decide) (by decide) (by decide) (by decide) h10
    · exact lv_tableIn (x := nI 11) (off := 440) (tgt := 473) hx hb d_law_33 (by decide) (by decide) (by decide) (by decide) h11
    · exact lv_tableIn (x := nI 12) (off := 473) (tgt := 506) hx hb d_law_33 (by decide) (by decide) (by decide) (by decide) h12
    · exact lv_tableIn (x := nI 13) (off := 506) (tgt := 539) hx hb d_law_33 (by decide) (by decide) (by decide) (by decide) h13
    · exact lv_tableIn (x := nI 14) (off := 593) (tgt := 626) hx hb d_law_33 (by decide) (by decide) (by decide) (by decide) h14
    · exact lv_tableIn (x := nI 15) (off := 616) (tgt := 649) hx hb d_law_33 (by decide) (by decide) (by decide) (by decide) h15
    · exact lv_tableIn (x := nI 16) (off := 659) (tgt := 692) hx hb d_law_33 (by decide) (by decide) (by decide) (by decide) h16
    · exact lv_tableIn (x := nI 17) (off := 692) (tgt := 725) hx hb d_law_33 (by decide) (by decide) (by decide) (by decide) h17
    · exact lv_tableIn (x := nI 18) (off := 735) (tgt := 768) hx hb d_law_33 (by decide) (by decide) (by decide) (by decide) h18
    · exact lv_tableIn (x := nI 19) (off := 758) (tgt := 791) hx hb d_law_33 (by decide) (by decide) (by decide) (by decide) h19
    · exact lv_tableIn (x := nI 20) (off := 781) (tgt := 814) hx hb d_law_33 (by decide) (by decide) (by decide) (by decide) h20
    · exact lv_tableIn (x := nI 21) (off := 814) (tgt := 847) hx hb d_law_33 (by decide) (by decide) (by decide) (by decide) h21
    · exact lv_tableIn (x := nI 22) (off := 847) (tgt := 880) hx hb d_law_33 (by decide) (by decide) (by decide) (by decide) h22
    · exact lv_tableIn (x := nI 23) (off := 880) (tgt := 913) hx hb d_law_33 (by decide) (by decide) (by decide) (by decide) h23
    · exact lv_tableIn (x := nI 24) (off := 903) (tgt := 936) hx hb d_law_33 (by decide) (by decide) (by decide) (by decide) h24
    · exact lv_tableIn (x := nI 25) (off := 936) (tgt := 969) hx hb d_law_33 (by decide) (by decide) (by decide) (by decide) h25
    · exact lv_tableIn (x := nI 26) (off := 969) (tgt := 1002) hx hb d_law_33 (by decide) (by decide) (by decide) (by decide) h26
    · exact lv_tableIn (x := nI 27) (off := 1002) (tgt := 1035) hx hb d_law_33 (by decide) (by decide) (by decide) (by decide) h27
  · exact lv_tableOut (x := nI j) (tgt := 1068) hx hb d_law_33 (Or.inr (by rw [nI_toInt (by omega)]; omega)) (by decide) hz
theorem LIv_up {k : Int} {I : Nat → Int32} {B : Nat → Nat → Int32} (h : LIv k I B) : LIv (k + 1) I B := by
  obtain ⟨h1, h2, h3, h4, h5, h6, cn, h7, h8, h9⟩ := h
  exact ⟨h1, h2, h3, h4, h5, vB_le (by omega) h6, cn, h7, h8, by omega⟩
set_option maxHeartbeats 8000000 in
set_option maxRecDepth 100000 in
theorem law_loop {p : Program} {l : Launch} {e : Env} {s : State} {m : MethodId} {below : List Frame} {meth : Method} {c : Code} {b h xo cn0 tp n : Nat} {xs : Nat → Int32} {D : va_G} {E : cE} {T : cT} {D2 : mD} {E2 : mE} {q : Nat → Nat} (C0 : lw_At p s m meth c b n xs) (hn : n ≤ 4096) (X : cX R_law p c code #[Value.ref b] s m D E) (KS : kS T (lA s) s s.heap) (KR : kR T s) (K2 : va_K D2.1 mCl (mTy E2) s) (Z2 : zS D2.2.1 D2.2.2.1 D2.2.2.2 (lA s) s s.heap) (R2 : zR D2.2.1 s) : ∀ (r : Nat) (k : Int) (κ : tK) (L : List Nat) (f : pF) (I : Nat → Int32) (J : Nat → Int64) (B : Nat → Nat → Int32) (G : Nat → Nat → Int64) (H : Heap) (locs : List Loc) (cells slots : Nat) (ls : Array Slot), (513 - k).toNat = r → 0 ≤ k → k ≤ 512 → pH D cCl (lA s) s.heap L f H locs → tW E T κ L f → κ xo = (10, 0) → gF f xo 6 = .ref cn0 → gF f cn0 3 = .ref tp → gF f xo 1 = .ref tp → va_P D2.1 mCl (mW E2 h q I J B G) H → va_D (lA s) (mW E2 h q I J B G) → (∀ (k : Nat) (x : Nat × va_E), (mW E2 h q I J B G)[k]? = some x → x.1 ∉ L) → LIv k I B → (cells : Int) ≤ 1000 + 3 * k → (slots : Int) ≤ 400000 + 4100 * k → lv_has ls 4 [(3, .int (iI (8 * k))), (2, .ref h), (1, .ref xo), (0, .ref b)] → W p l e room_1 s m #[Value.ref b] below meth c H locs cells slots (lw_Z below #[Value.ref b] s) (F0 m 18 ls []) := by
  intro r
  induction r using Nat.strongRecOn with
  | ind r ih =>
    intro k κ L f I J B G H locs cells slots ls hm hk0 hk1 Y hw kx c6 c3 c1 PM DM AP IV hc hs hl
    obtain ⟨hx, hb, hr, hml, hown, hts, hX, hbl, hlocks, hgv⟩ := id C0
    have hbA : ¬ lA s b := Nat.not_le.mpr hbl
    refine lv_iload_n hx hb d_law_18 rfl (lv_at hl 0 rfl) ?_
    refine lv_aload_n hx hb d_law_19 rfl (lv_at hl 3 rfl) ?_
    refine va_slen hx hb hX hbl hbA Y.2.2 d_law_20 ?_
    refine t_eq (y := iI (n : Int)) ((iI_cast (by omega)).symm) ?_
    refine lv_bipush (v := iI 8) hx hb d_law_21 (by decide) ?_
    refine z_isub hx hb d_law_23 ?_
    refine z_icmp_gt (tgt := 1074) hx hb d_law_24 (by decide) ⟨by omega, by omega⟩ ⟨by omega, by omega⟩ (fun h9 => ?_) (fun h9 => ?_)
    · refine lv_iconst (v := 1) hx hb d_law_1074 (by decide) ?_
      refine va_forget (fun q hq => Y.2.2.2.2 q hq) ?_
      refine W.widen (k := 600000) (n := 7302250) (by omega) (by omega) ?_
      exact lw_ret hx hb hr hlocks d_law_1075
    · refine lv_aload_n hx hb d_law_27 rfl (lv_at hl 3 rfl) ?_
      refine lv_iload_n hx hb d_law_28 rfl (lv_at hl 0 rfl) ?_
      refine va_sld hx hb hX hbl hbA Y.2.2 (iI_in (by omega) (by omega) (by omega)) d_law_29 ?_
      refine lv_bipush (v := nI 31) hx hb d_law_30 (by decide) ?_
      refine lv_iand hx hb d_law_32 ?_
      obtain ⟨j, hj, ej⟩ := pk_andE (xs (iI (8 * k)).toNatClampNeg) (m := nI 31) 5 (by decide)
      refine t_eq ej ?_
      have hj : j < 32 := hj
      have go : ∀ (κ : tK) (L : List Nat) (f : pF) (I : Nat → Int32) (J : Nat → Int64) (B : Nat → Nat → Int32) (G : Nat → Nat → Int64) (H : Heap) (locs : List Loc) (cells slots : Nat), pH D cCl (lA s) s.heap L f H locs → tW E T κ L f → κ xo = (10, 0) → gF f xo 6 = .ref cn0 → gF f cn0 3 = .ref tp → gF f xo 1 = .ref tp → va_P D2.1 mCl (mW E2 h q I J B G) H → va_D (lA s) (mW E2 h q I J B G) → (∀ (k : Nat) (x : Nat × va_E), (mW E2 h q I J B G)[k]? = some x → x.1 ∉ L) → LIv (k + 1) I B → (cells : Int) ≤ 1000 + 3 * (k + 1) → (slots : Int) ≤ 400000 + 4100 * (k + 1) → W p l e room_1 s m #[Value.ref b] below meth c H locs cells slots (lw_Z below #[Value.ref b] s) (F0 m 1068 ls []) := by
        intro κ L f I J B G H locs cells slots Y hw kx c6 c3 c1 PM DM AP IV hc hs
        refine lv_iinc (v := iI (8 * (k + 1))) (lv' := [(3, .int (iI (8 * (k + 1)))), (2, .ref h), (1, .ref xo), (0, .ref b)]) hx hb d_law_1068 hl (k := 0) rfl ((iI_add _ _).trans (congrArg iI (by omega))) (by decide) rfl (fun ls hl => ?_)
        refine lv_goto (tgt := 18) hx hb d_law_1071 (by decide) ?_
        exact ih ((513 - (k + 1)).toNat) (by omega) (k + 1) κ L f I J B G H locs cells slots ls rfl (by omega) (by omega) Y hw kx c6 c3 c1 PM DM AP IV hc hs hl
      refine law_sw hx hb j hj ?_ ?_ ?_ ?_ ?_ ?_ ?_ ?_ ?_ ?_ ?_ ?_ ?_ ?_ ?_ ?_ ?_ ?_ ?_ ?_ ?_ ?_ ?_ ?_ ?_ ?_ ?_ ?_ ?_
      · exact law_0 C0 hk0 (by omega) hn X KS KR K2 Z2 R2 Y hw kx c6 c3 c1 PM DM AP IV hc hs hl go
      · exact law_1 C0 hk0 (by omega) hn X KS KR K2 Z2 R2 Y hw kx c6 c3 c1 PM DM AP IV hc hs hl go
      · exact law_2 C0 hk0 (by omega) hn X KS KR K2 Z2 R2 Y hw kx c6 c3 c1 PM DM AP IV hc hs hl go
      · exact law_3 C0 hk0 (by omega) hn X KS KR K2 Z2 R2 Y hw kx c6 c3 c1 PM DM AP IV hc hs hl go
      · exact law_4 C0 hk0 (by omega) hn X KS KR K2 Z2 R2 Y hw kx c6 c3 c1 PM DM AP IV hc hs hl go
      · exact law_5 C0 hk0 (by omega) hn X KS KR K2 Z2 R2 Y hw kx c6 c3 c1 PM DM AP IV hc hs hl go
      · exact law_6 C0 hk0 (by omega) hn X KS KR K2 Z2 R2 Y hw kx c6 c3 c1 PM DM AP IV hc hs hl go
      · exact law_7 C0 hk0 (by omega) hn X KS KR K2 Z2 R2 Y hw kx c6 c3 c1 PM DM AP IV hc hs hl go
      · exact law_8 C0 hk0 (by omega) hn X KS KR K2 Z2 R2 Y hw kx c6 c3 c1 PM DM AP IV hc hs hl go
      · exact law_9 C0 hk0 (by omega) hn X KS KR K2 Z2 R2 Y hw kx c6 c3 c1 PM DM AP IV hc hs hl go
      · exact law_10 C0 hk0 (by omega) hn X KS KR K2 Z2 R2 Y hw kx c6 c3 c1 PM DM AP IV hc hs hl go
      · exact law_11 C0 hk0 (by omega) hn X KS KR K2 Z2 R2 Y hw kx c6 c3 c1 PM DM AP IV hc hs hl go
      · exact law_12 C0 hk0 (by omega) hn X KS KR K2 Z2 R2 Y hw kx c6 c3 c1 PM DM AP IV hc hs hl go
      · exact law_13 C0 hk0 (by omega) hn X KS KR K2 Z2 R2 Y hw kx c6 c3 c1 PM DM AP IV hc hs hl go
      · exact law_14 C0 hk0 (by omega) hn X KS KR K2 Z2 R2 Y hw kx c6 c3 c1 PM DM AP IV hc hs hl go
      · exact law_15 C0 hk0 (by omega) hn X KS KR K2 Z2 R2 Y hw kx c6 c3 c1 PM DM AP IV hc hs hl go
      · exact law_16 C0 hk0 (by omega) hn X KS KR K2 Z2 R2 Y hw kx c6 c3 c1 PM DM AP IV hc hs hl go
      · exact law_17 C0 hk0 (by omega) hn X KS KR K2 Z2 R2 Y hw kx c6 c3 c1 PM DM AP IV hc hs hl go
      · exact law_18 C0 hk0 (by omega) hn X KS KR K2 Z2 R2 Y hw kx c6 c3 c1 PM DM AP IV hc hs hl go
      · exact law_19 C0 hk0 (by omega) hn X KS KR K2 Z2 R2 Y hw kx c6 c3 c1 PM DM AP IV hc hs hl go
      · exact law_20 C0 hk0 (by omega) hn X KS KR K2 Z2 R2 Y hw kx c6 c3 c1 PM DM AP IV hc hs hl go
      · exact law_21 C0 hk0 (by omega) hn X KS KR K2 Z2 R2 Y hw kx c6 c3 c1 PM DM AP IV hc hs hl go
      · exact law_22 C0 hk0 (by omega) hn X KS KR K2 Z2 R2 Y hw kx c6 c3 c1 PM DM AP IV hc hs hl go
      · exact law_23 C0 hk0 (by omega) hn X KS KR K2 Z2 R2 Y hw kx c6 c3 c1 PM DM AP IV hc hs hl go
      · exact law_24 C0 hk0 (by omega) hn X KS KR K2 Z2 R2 Y hw kx c6 c3 c1 PM DM AP IV hc hs hl go
      · exact law_25 C0 hk0 (by omega) hn X KS KR K2 Z2 R2 Y hw kx c6 c3 c1 PM DM AP IV hc hs hl go
      · exact law_26 C0 hk0 (by omega) hn X KS KR K2 Z2 R2 Y hw kx c6 c3 c1 PM DM AP IV hc hs hl go
      · exact law_27 C0 hk0 (by omega) hn X KS KR K2 Z2 R2 Y hw kx c6 c3 c1 PM DM AP IV hc hs hl go
      · exact go κ L f I J B G H locs cells slots Y hw kx c6 c3 c1 PM DM AP (LIv_up IV) (by omega) (by omega)
theorem mFz_0 : ∀ j, j < 145 → defaultValue (t_M j) = vp_V (mFz 0 (fun _ => 0) (fun _ => 0)) j := by decide +kernel
set_option maxHeartbeats 8000000 in
set_option maxRecDepth 100000 in
theorem whole_start {p : Program} {e : Env} {s : State} {m : MethodId} {below : List Frame} {meth : Method} {c : Code} (l : Launch) {b L0 : Nat} {xs : Nat → Int32} (hL : L0 ≤ 4096) (C0 : lw_At p s m meth c b L0 xs) : W p l e room_1 s m #[Value.ref b] below meth c s.heap [] 0 0 (lw_Z below #[Value.ref b] s) (entryFrame m ([Value.ref b] : List Value).toArray 4) := by
  obtain ⟨hx, hb, hr, hml, hown, hts, hX, hbl, hlocks, hgv⟩ := id C0
  have hbA : ¬ lA s b := Nat.not_le.mpr hbl
  have hA : ∀ a, s.heap.size ≤ a → lA s a := fun _ h9 => h9
  have hAn : ∀ a : Nat, a < s.heap.size → ¬ lA s a := fun a ha => Nat.not_le.mpr ha
  have hfl : ∀ w ∈ fNs, w.before #[Value.ref b] s = true := flat_of_before _ hgv
  have hg := tg_of hts
  obtain ⟨T, KS, KR⟩ := kS_at (A := lA s) hts hfl hAn
  obtain ⟨D, E, K1⟩ := cK_at hg KR
  obtain ⟨D0, E2, K2⟩ := mK_at hg
  obtain ⟨z, zv, fv, Z2, R2⟩ := zS_at (A := lA s) hts hfl hAn
  have X : cX R_law p c code #[Value.ref b] s m D E := ⟨hx, hb, hg, hown, K1⟩
  have Y : pH D cCl (lA s) s.heap [] (fun _ => .inr (0, [])) s.heap [] := ⟨fun k q h9 => by simp [va_pl] at h9, ⟨fun i j x y h9 => by simp [va_pl] at h9, fun k q h9 => by simp [va_pl] at h9⟩, va_S.rf⟩
  have hl := lv_entry ([.ref b]) (n := 4) (Nat.le_of_ble_eq_true rfl)
  rw [lg_entry_eq]
  generalize (lg_sl ([.ref b]) ++ List.replicate (4 - (lg_sl ([.ref b])).length) Slot.unset).toArray = ls at hl ⊢
  have hl : lv_has ls 4 [(0, .ref b)] := hl
  refine q_new hx hb hg i_H t_H t_H_ok hown (hg _ ck_L_H) (hg _ mk_H) (hg _ ini_H) K1 Y hA (ci := 0) rfl (fs := [.null, .null, .null, .null, .null, .null, .null, .null, .null]) (fun j hj => match j, hj with | 0, _ => rfl | 1, _ => rfl | 2, _ => rfl | 3, _ => rfl | 4, _ => rfl | 5, _ => rfl | 6, _ => rfl | 7, _ => rfl | 8, _ => rfl | n9 + 9, h9 => absurd (show n9 + 9 < 9 from h9) (by omega)) (by decide) (by decide) d_law_0 (fun xo H hq0 Y => ?_)
  refine lv_dup hx hb d_law_3 rfl ?_
  have mx : xo ∈ [] ++ [xo] := List.mem_append_right _ (List.mem_singleton.mpr rfl)
  refine x_v (x_runI (As := []) (rest := [.ref xo]) (n := 0) X hml hl.1 (c_H_init l D E T (fun _ => (0, 0)) ([] ++ [xo]) _ H.size xo mx rfl q_up (fun a h9 => absurd rfl h9)) (ok_k X Y hA KS KR) kl_L_H_init ks_H_init ki_H_init ini_H rfl ⟨rfl, rfl⟩ hd_H_init.2 ⟨by decide, by decide⟩ rfl (Nat.le_of_ble_eq_true rfl) d_law_4 ⟨by decide, by decide⟩) X Y hA (fun u H locs hp Y => ?_)
  obtain ⟨L, f⟩ := u
  obtain ⟨κ, S1, kx, cn0, tp, c6, c3, c1⟩ := hp
  dsimp only at S1 c6 c3 c1 Y
  have hw : tW E T κ L f := S1.1
  refine lv_astore_n (lv' := [(1, .ref xo), (0, .ref b)]) hx hb d_law_7 rfl hl (by decide) rfl (fun ls hl => ?_)
  refine va_forget (fun q hq => Y.2.2.2.2 q hq) ?_
  have hlt : ∀ a, a ∈ L → a < H.size := fun a ha => by obtain ⟨k, hk⟩ := q_at (f := f) ha; exact (Y.1 k _ hk).lt
  refine va_new (A := fun q => H.size ≤ q) (H0 := H) (ws := []) (ci := 0) (fs := mFz 0 (fun _ => 0) (fun _ => 0)) (C := R_M) (T := F_M) (N := 145) hx hb hg i_M t_M t_M_ok hown (hg _ ck_L_M) (hg _ mk_M) (hg _ ini_M) K2 (fun k q h9 => by simp at h9) ⟨fun i j x y h9 => by simp at h9, fun k q h9 => by simp at h9⟩ va_S.rf (fun _ h9 => h9) rfl mFz_0 (by decide) (by decide) d_law_8 (fun h H1 hP2 hD2 hS2 => ?_)
  have hh : H.size ≤ h := hD2.2 0 _ rfl
  have Y1 : pH D cCl (lA s) s.heap L f H1 [] := ⟨fun k x hk => (Y.1 k x hk).kept (hS2.2.1 x.1 (Y.1 k x hk).lt (Nat.not_le.mpr (Y.1 k x hk).lt)), Y.2.1, Nat.le_trans Y.2.2.1 hS2.1, fun q h1 h2 => (hS2.2.1 q (Nat.lt_of_lt_of_le h1 Y.2.2.1) (Nat.not_le.mpr (Nat.lt_of_lt_of_le h1 Y.2.2.1))).trans (Y.2.2.2.1 q h1 h2), fun q h9 => by simp at h9⟩
  refine lv_dup hx hb d_law_11 rfl ?_
  have hsub : ∀ a, iA h H1.size a → lA s a := fun a h9 => h9.elim (fun h8 => h8 ▸ Nat.le_trans Y.2.2.1 hh) (fun h8 => Nat.le_trans Y1.2.2.1 h8)
  refine va_callv (va_runI (As := []) (rest := [.ref h]) ⟨hx, hb, hml, hown, hg⟩ (c_init l (D0, z, zv, fv) E2 h H1.size) (cwI 0 hg (gd_t ki_init) rfl rfl rfl (hg _ ini_M) (hg _ kl_L_M_init) (hg _ ks_init) rfl hd_init.2 ⟨by decide, by decide⟩) ⟨fun a U g mk x => ⟨x.1, x.2.1, x.2.2.1, va_K.moved (u := U) (U := U.calling g mk a) (Vm.Alike.refl U.vm) x.2.2.2.1, zS_moved (u := U) (Vm.Alike.refl U.vm) x.2.2.2.2.1, fun i hi => vk_R.same (u := U) rfl (x.2.2.2.2.2 i hi)⟩, fun U hU hW => ⟨rfl, by rw [hU], by rw [hU]; exact hP2, va_K.moved hW.alike K2, by rw [hU]; exact zS_narrow (zS_kept (zS_moved hW.alike Z2) Y1.2.2.2.1) hsub, fun i hi => vk_R.warm hW (R2 i hi)⟩⟩ rfl rfl hl.1 rfl (lv_room (Nat.le_of_ble_eq_true rfl)) d_law_12 ⟨by decide, by decide⟩) Y1.2.2 (fun q _ h9 => hsub q h9) hsub (fun u t H2 locs2 ht hvm hw2 hB hz2 hk2 hS3 => ?_)
  obtain ⟨q, I, J, B, G⟩ := u
  obtain ⟨PM, -, DM0⟩ := hB
  rw [ht] at PM
  dsimp only at hw2 PM DM0
  have Y2 : pH D cCl (lA s) s.heap L f H2 locs2 := ⟨fun k x hk => (Y1.1 k x hk).kept (hk2 x.1 (Y1.1 k x hk).lt (fun h9 => h9.elim (fun h8 => absurd (Y.1 k x hk).lt (Nat.not_lt.mpr (h8 ▸ hh))) (fun h8 => absurd (Y1.1 k x hk).lt (Nat.not_lt.mpr h8)))), Y.2.1, hS3⟩
  have DM : va_D (lA s) (mW E2 h q I J B G) := DM0.weaken (fun k x hk h9 => hsub x.1 h9)
  have AP : ∀ (k : Nat) (x : Nat × va_E), (mW E2 h q I J B G)[k]? = some x → x.1 ∉ L := fun k x hk hm => (DM0.2 k x hk).elim (fun h8 => absurd (hlt _ hm) (Nat.not_lt.mpr (h8 ▸ hh))) (fun h8 => absurd (hlt _ hm) (Nat.not_lt.mpr (Nat.le_trans hS2.1 h8)))
  have IV : LIv 0 I B := ⟨hw2.1, hw2.2.1, hw2.2.2.1, hw2.2.2.2.1, hw2.2.2.2.2.1, hw2.2.2.2.2.2.1, 0, hw2.2.2.2.2.2.2, by omega, by omega⟩
  refine lv_astore_n (lv' := [(2, .ref h), (1, .ref xo), (0, .ref b)]) hx hb d_law_15 rfl hl (by decide) rfl (fun ls hl => ?_)
  refine lv_iconst (v := iI (8 * 0)) hx hb d_law_16 (by decide) ?_
  refine lv_istore_n (lv' := [(3, .int (iI (8 * 0))), (2, .ref h), (1, .ref xo), (0, .ref b)]) hx hb d_law_17 rfl hl (by decide) rfl (fun ls hl => ?_)
  refine W.widen (k := 1000) (n := 400000) (by decide) (by decide) ?_
  exact law_loop (D2 := (D0, z, zv, fv)) C0 hL X KS KR K2 Z2 R2 513 0 κ L f I J B G H2 locs2 1000 400000 ls rfl (by omega) (by omega) Y2 hw kx c6 c3 c1 PM DM AP IV (by omega) (by omega) hl
