/-! The law: each of its cases. -/
set_option maxHeartbeats 4000000 in
set_option maxRecDepth 100000 in
theorem law_0 {p : Program} {l : Launch} {e : Env} {s : State} {m : MethodId} {below : List Frame} {meth : Method} {c : Code} {b h xo : Nat} {xs : Nat → Int32} {D : va_G} {E : cE} {T : cT} {L : List Nat} {f : pF} {D2 : mD} {E2 : mE} {q : Nat → Nat} {I : Nat → Int32} {J : Nat → Int64} {B : Nat → Nat → Int32} {G : Nat → Nat → Int64} {H : Heap} {locs : List Loc} {ls : Array Slot} (C0 : lw_At p s m meth c b 8 xs) (X : cX R_law p c code #[Value.ref b] s m D E) (KS : kS T (lA s) s s.heap) (KR : kR T s) (K2 : va_K D2.1 mCl (mTy E2) s) (Z2 : zS D2.2.1 D2.2.2.1 D2.2.2.2 (lA s) s s.heap) (R2 : zR D2.2.1 s) (Y : pH D cCl (lA s) s.heap L f H locs) (m_xo : xo ∈ L) {fsx : List Value} (e_xo : f xo = .inr (0, fsx)) (PM : va_P D2.1 mCl (mW E2 h q I J B G) H) (DM : va_D (lA s) (mW E2 h q I J B G)) (AP : ∀ (k : Nat) (x : Nat × va_E), (mW E2 h q I J B G)[k]? = some x → x.1 ∉ L) (MF : I 2 = nI 0 ∧ I 3 = nI 0 ∧ I 43 = nI 1 ∧ I 4 = nI 1000000000 ∧ (∀ j, B 91 j = nI 0) ∧ (∀ j, B 133 j = nI 0) ∧ B 46 0 = nI 1 ∧ B 45 0 = nI 12 ∧ by8 (B 12) ∧ by8 (B 13) ∧ by8 (B 16) ∧ by8 (B 17)) (hl : lv_has ls 4 [(3, .int (nI 0)), (2, .ref h), (1, .ref xo), (0, .ref b)]) {post : Int32 → cU → Prop} (hM : Met l y_H_feed (k_H_feed :: lw_tg) (kRm 2 42 0 (0)) (va_Pc [.ref xo, .int (xs (nI 1).toNatClampNeg), .int (xs (nI 2).toNatClampNeg), .int (xs (nI 3).toNatClampNeg), .int (xs (nI 4).toNatClampNeg), .int (xs (nI 5).toNatClampNeg)] (kPre D E T L f H.size)) (va_Qi post (cPost D E (pA L H.size)) (pA L H.size)) 0 (0) (pA L H.size)) (hpo : ∀ r u, post r u → r = nI 1) : W p l e room_1 s m #[Value.ref b] below meth c H locs 1000 400000 (lw_Z below #[Value.ref b] s) (F0 m 160 ls []) := by
  obtain ⟨hx, hb, hr, hml, hown, hts, hX, hbl, hlocks, hgv⟩ := id C0
  have hbA : ¬ lA s b := Nat.not_le.mpr hbl
  have hA : ∀ a, s.heap.size ≤ a → lA s a := fun _ h9 => h9
  obtain ⟨hm_L, hm_O, hm_P, hm_W, hm_A, hm_S, hm_V, hm_N, hm_12, hm_13, hm_16, hm_17⟩ := MF
  refine lv_aload_n hx hb d_law_160 rfl (lv_at hl 2 rfl) ?_
  refine lv_aload_n hx hb d_law_161 rfl (lv_at hl 3 rfl) ?_
  refine lv_iload_n hx hb d_law_162 rfl (lv_at hl 0 rfl) ?_
  refine lv_iconst (v := nI 1) hx hb d_law_163 (by decide) ?_
  refine lv_iadd hx hb d_law_164 ?_
  refine t_eq (y := nI 1) (by decide) ?_
  refine va_sld hx hb hX hbl hbA Y.2.2 (vp_in_nI (show 1 < 8 by decide) (by decide)) d_law_165 ?_
  refine lv_aload_n hx hb d_law_166 rfl (lv_at hl 3 rfl) ?_
  refine lv_iload_n hx hb d_law_167 rfl (lv_at hl 0 rfl) ?_
  refine lv_iconst (v := nI 2) hx hb d_law_168 (by decide) ?_
  refine lv_iadd hx hb d_law_169 ?_
  refine t_eq (y := nI 2) (by decide) ?_
  refine va_sld hx hb hX hbl hbA Y.2.2 (vp_in_nI (show 2 < 8 by decide) (by decide)) d_law_170 ?_
  refine lv_aload_n hx hb d_law_171 rfl (lv_at hl 3 rfl) ?_
  refine lv_iload_n hx hb d_law_172 rfl (lv_at hl 0 rfl) ?_
  refine lv_iconst (v := nI 3) hx hb d_law_173 (by decide) ?_
  refine lv_iadd hx hb d_law_174 ?_
  refine t_eq (y := nI 3) (by decide) ?_
  refine va_sld hx hb hX hbl hbA Y.2.2 (vp_in_nI (show 3 < 8 by decide) (by decide)) d_law_175 ?_
  refine lv_aload_n hx hb d_law_176 rfl (lv_at hl 3 rfl) ?_
  refine lv_iload_n hx hb d_law_177 rfl (lv_at hl 0 rfl) ?_
  refine lv_iconst (v := nI 4) hx hb d_law_178 (by decide) ?_
  refine lv_iadd hx hb d_law_179 ?_
  refine t_eq (y := nI 4) (by decide) ?_
  refine va_sld hx hb hX hbl hbA Y.2.2 (vp_in_nI (show 4 < 8 by decide) (by decide)) d_law_180 ?_
  refine lv_aload_n hx hb d_law_181 rfl (lv_at hl 3 rfl) ?_
  refine lv_iload_n hx hb d_law_182 rfl (lv_at hl 0 rfl) ?_
  refine lv_iconst (v := nI 5) hx hb d_law_183 (by decide) ?_
  refine lv_iadd hx hb d_law_184 ?_
  refine t_eq (y := nI 5) (by decide) ?_
  refine va_sld hx hb hX hbl hbA Y.2.2 (vp_in_nI (show 5 < 8 by decide) (by decide)) d_law_185 ?_
  refine l_x (x_runV (As := [.int (xs (nI 1).toNatClampNeg), .int (xs (nI 2).toNatClampNeg), .int (xs (nI 3).toNatClampNeg), .int (xs (nI 4).toNatClampNeg), .int (xs (nI 5).toNatClampNeg)]) (rest := []) (n := 5) X Y hml hl.1 hM (ok_k X Y hA KS KR) m_xo e_xo rfl kl_L_H_feed ks_H_feed kx_H_feed ki_H_feed ini_H ⟨rfl, rfl⟩ hd_H_feed ⟨by decide, by decide⟩ rfl (Nat.le_of_ble_eq_true rfl) d_law_186 ⟨by decide, by decide⟩) Y hA (fun r1 u1 H1 locs1 hp1 hz1 hk1 hS1 => ?_)
  have hr1 := hpo r1 u1 hp1
  have PM1 := l_keep PM AP hk1
  refine lv_aload_n hx hb d_law_189 rfl (lv_at hl 1 rfl) ?_
  refine lv_aload_n hx hb d_law_190 rfl (lv_at hl 3 rfl) ?_
  refine lv_iload_n hx hb d_law_191 rfl (lv_at hl 0 rfl) ?_
  refine lv_iconst (v := nI 1) hx hb d_law_192 (by decide) ?_
  refine lv_iadd hx hb d_law_193 ?_
  refine t_eq (y := nI 1) (by decide) ?_
  refine va_sld hx hb hX hbl hbA hS1 (vp_in_nI (show 1 < 8 by decide) (by decide)) d_law_194 ?_
  refine lv_aload_n hx hb d_law_195 rfl (lv_at hl 3 rfl) ?_
  refine lv_iload_n hx hb d_law_196 rfl (lv_at hl 0 rfl) ?_
  refine lv_iconst (v := nI 2) hx hb d_law_197 (by decide) ?_
  refine lv_iadd hx hb d_law_198 ?_
  refine t_eq (y := nI 2) (by decide) ?_
  refine va_sld hx hb hX hbl hbA hS1 (vp_in_nI (show 2 < 8 by decide) (by decide)) d_law_199 ?_
  refine lv_aload_n hx hb d_law_200 rfl (lv_at hl 3 rfl) ?_
  refine lv_iload_n hx hb d_law_201 rfl (lv_at hl 0 rfl) ?_
  refine lv_iconst (v := nI 3) hx hb d_law_202 (by decide) ?_
  refine lv_iadd hx hb d_law_203 ?_
  refine t_eq (y := nI 3) (by decide) ?_
  refine va_sld hx hb hX hbl hbA hS1 (vp_in_nI (show 3 < 8 by decide) (by decide)) d_law_204 ?_
  refine lv_aload_n hx hb d_law_205 rfl (lv_at hl 3 rfl) ?_
  refine lv_iload_n hx hb d_law_206 rfl (lv_at hl 0 rfl) ?_
  refine lv_iconst (v := nI 4) hx hb d_law_207 (by decide) ?_
  refine lv_iadd hx hb d_law_208 ?_
  refine t_eq (y := nI 4) (by decide) ?_
  refine va_sld hx hb hX hbl hbA hS1 (vp_in_nI (show 4 < 8 by decide) (by decide)) d_law_209 ?_
  refine lv_aload_n hx hb d_law_210 rfl (lv_at hl 3 rfl) ?_
  refine lv_iload_n hx hb d_law_211 rfl (lv_at hl 0 rfl) ?_
  refine lv_iconst (v := nI 5) hx hb d_law_212 (by decide) ?_
  refine lv_iadd hx hb d_law_213 ?_
  refine t_eq (y := nI 5) (by decide) ?_
  refine va_sld hx hb hX hbl hbA hS1 (vp_in_nI (show 5 < 8 by decide) (by decide)) d_law_214 ?_
  refine l_m (As := [.int (xs (nI 1).toNatClampNeg), .int (xs (nI 2).toNatClampNeg), .int (xs (nI 3).toNatClampNeg), .int (xs (nI 4).toNatClampNeg), .int (xs (nI 5).toNatClampNeg)]) (rest := [.int r1]) (n := 5) hx hb X.2.2.1 hown K2 Z2 R2 PM1 DM hS1 hA hml hl.1 (c_feed l D2 E2 h q H1.size I J B G (xs (nI 1).toNatClampNeg) (xs (nI 2).toNatClampNeg) (xs (nI 3).toNatClampNeg) (xs (nI 4).toNatClampNeg) (xs (nI 5).toNatClampNeg) 0 hm_L (by decide)) kl_L_M_feed ks_feed kx_feed ki_feed hd_feed ⟨by decide, by decide⟩ rfl (Nat.le_of_ble_eq_true rfl) d_law_215 ⟨by decide, by decide⟩ (fun r2 u2 H2 locs2 hp2 hS2 => ?_)
  refine lv_icmp_eq (tgt := 1068) hx hb d_law_218 (by decide) (fun c1 => ?_) (fun c1 => absurd (hr1.trans ((hp2.2.2.2.2.1 (by decide)).1).symm) c1)
  exact law_end C0 hS2 hl (by decide) (by decide)
set_option maxHeartbeats 4000000 in
set_option maxRecDepth 100000 in
theorem law_1 {p : Program} {l : Launch} {e : Env} {s : State} {m : MethodId} {below : List Frame} {meth : Method} {c : Code} {b h xo : Nat} {xs : Nat → Int32} {D : va_G} {E : cE} {T : cT} {L : List Nat} {f : pF} {D2 : mD} {E2 : mE} {q : Nat → Nat} {I : Nat → Int32} {J : Nat → Int64} {B : Nat → Nat → Int32} {G : Nat → Nat → Int64} {H : Heap} {locs : List Loc} {ls : Array Slot} (C0 : lw_At p s m meth c b 8 xs) (X : cX R_law p c code #[Value.ref b] s m D E) (KS : kS T (lA s) s s.heap) (KR : kR T s) (K2 : va_K D2.1 mCl (mTy E2) s) (Z2 : zS D2.2.1 D2.2.2.1 D2.2.2.2 (lA s) s s.heap) (R2 : zR D2.2.1 s) (Y : pH D cCl (lA s) s.heap L f H locs) (m_xo : xo ∈ L) {fsx : List Value} (e_xo : f xo = .inr (0, fsx)) (PM : va_P D2.1 mCl (mW E2 h q I J B G) H) (DM : va_D (lA s) (mW E2 h q I J B G)) (AP : ∀ (k : Nat) (x : Nat × va_E), (mW E2 h q I J B G)[k]? = some x → x.1 ∉ L) (MF : I 2 = nI 0 ∧ I 3 = nI 0 ∧ I 43 = nI 1 ∧ I 4 = nI 1000000000 ∧ (∀ j, B 91 j = nI 0) ∧ (∀ j, B 133 j = nI 0) ∧ B 46 0 = nI 1 ∧ B 45 0 = nI 12 ∧ by8 (B 12) ∧ by8 (B 13) ∧ by8 (B 16) ∧ by8 (B 17)) (hl : lv_has ls 4 [(3, .int (nI 0)), (2, .ref h), (1, .ref xo), (0, .ref b)]) {post : Int32 → cU → Prop} (hM : Met l y_H_end (k_H_end :: lw_tg) (kRm 0 0 0 (0)) (va_Pc [.ref xo, .int (xs (nI 1).toNatClampNeg)] (kPre D E T L f H.size)) (va_Qi post (cPost D E (pA L H.size)) (pA L H.size)) 0 (0) (pA L H.size)) (hpo : ∀ r u, post r u → r = (if (xs (nI 1).toNatClampNeg) = nI 0 then nI 1 else nI 0)) : W p l e room_1 s m #[Value.ref b] below meth c H locs 1000 400000 (lw_Z below #[Value.ref b] s) (F0 m 223 ls []) := by
  obtain ⟨hx, hb, hr, hml, hown, hts, hX, hbl, hlocks, hgv⟩ := id C0
  have hbA : ¬ lA s b := Nat.not_le.mpr hbl
  have hA : ∀ a, s.heap.size ≤ a → lA s a := fun _ h9 => h9
  obtain ⟨hm_L, hm_O, hm_P, hm_W, hm_A, hm_S, hm_V, hm_N, hm_12, hm_13, hm_16, hm_17⟩ := MF
  refine lv_aload_n hx hb d_law_223 rfl (lv_at hl 2 rfl) ?_
  refine lv_aload_n hx hb d_law_224 rfl (lv_at hl 3 rfl) ?_
  refine lv_iload_n hx hb d_law_225 rfl (lv_at hl 0 rfl) ?_
  refine lv_iconst (v := nI 1) hx hb d_law_226 (by decide) ?_
  refine lv_iadd hx hb d_law_227 ?_
  refine t_eq (y := nI 1) (by decide) ?_
  refine va_sld hx hb hX hbl hbA Y.2.2 (vp_in_nI (show 1 < 8 by decide) (by decide)) d_law_228 ?_
  refine l_x (x_runV (As := [.int (xs (nI 1).toNatClampNeg)]) (rest := []) (n := 1) X Y hml hl.1 hM (ok_k X Y hA KS KR) m_xo e_xo rfl kl_L_H_end ks_H_end kx_H_end ki_H_end ini_H ⟨rfl, rfl⟩ hd_H_end ⟨by decide, by decide⟩ rfl (Nat.le_of_ble_eq_true rfl) d_law_229 ⟨by decide, by decide⟩) Y hA (fun r1 u1 H1 locs1 hp1 hz1 hk1 hS1 => ?_)
  have hr1 := hpo r1 u1 hp1
  have PM1 := l_keep PM AP hk1
  refine lv_aload_n hx hb d_law_232 rfl (lv_at hl 1 rfl) ?_
  refine lv_aload_n hx hb d_law_233 rfl (lv_at hl 3 rfl) ?_
  refine lv_iload_n hx hb d_law_234 rfl (lv_at hl 0 rfl) ?_
  refine lv_iconst (v := nI 1) hx hb d_law_235 (by decide) ?_
  refine lv_iadd hx hb d_law_236 ?_
  refine t_eq (y := nI 1) (by decide) ?_
  refine va_sld hx hb hX hbl hbA hS1 (vp_in_nI (show 1 < 8 by decide) (by decide)) d_law_237 ?_
  refine l_m (As := [.int (xs (nI 1).toNatClampNeg)]) (rest := [.int r1]) (n := 1) hx hb X.2.2.1 hown K2 Z2 R2 PM1 DM hS1 hA hml hl.1 (c_end_new l D2 E2 h q H1.size I J B G (xs (nI 1).toNatClampNeg) hm_L) kl_L_M_end ks_end kx_end ki_end hd_end ⟨by decide, by decide⟩ rfl (Nat.le_of_ble_eq_true rfl) d_law_238 ⟨by decide, by decide⟩ (fun r2 u2 H2 locs2 hp2 hS2 => ?_)
  refine lv_icmp_eq (tgt := 1068) hx hb d_law_241 (by decide) (fun c1 => ?_) (fun c1 => absurd (hr1.trans (hp2.2.2.2.2).symm) c1)
  exact law_end C0 hS2 hl (by decide) (by decide)
set_option maxHeartbeats 4000000 in
set_option maxRecDepth 100000 in
theorem law_2 {p : Program} {l : Launch} {e : Env} {s : State} {m : MethodId} {below : List Frame} {meth : Method} {c : Code} {b h xo : Nat} {xs : Nat → Int32} {D : va_G} {E : cE} {T : cT} {L : List Nat} {f : pF} {D2 : mD} {E2 : mE} {q : Nat → Nat} {I : Nat → Int32} {J : Nat → Int64} {B : Nat → Nat → Int32} {G : Nat → Nat → Int64} {H : Heap} {locs : List Loc} {ls : Array Slot} (C0 : lw_At p s m meth c b 8 xs) (X : cX R_law p c code #[Value.ref b] s m D E) (KS : kS T (lA s) s s.heap) (KR : kR T s) (K2 : va_K D2.1 mCl (mTy E2) s) (Z2 : zS D2.2.1 D2.2.2.1 D2.2.2.2 (lA s) s s.heap) (R2 : zR D2.2.1 s) (Y : pH D cCl (lA s) s.heap L f H locs) (m_xo : xo ∈ L) {fsx : List Value} (e_xo : f xo = .inr (0, fsx)) (PM : va_P D2.1 mCl (mW E2 h q I J B G) H) (DM : va_D (lA s) (mW E2 h q I J B G)) (AP : ∀ (k : Nat) (x : Nat × va_E), (mW E2 h q I J B G)[k]? = some x → x.1 ∉ L) (MF : I 2 = nI 0 ∧ I 3 = nI 0 ∧ I 43 = nI 1 ∧ I 4 = nI 1000000000 ∧ (∀ j, B 91 j = nI 0) ∧ (∀ j, B 133 j = nI 0) ∧ B 46 0 = nI 1 ∧ B 45 0 = nI 12 ∧ by8 (B 12) ∧ by8 (B 13) ∧ by8 (B 16) ∧ by8 (B 17)) (hl : lv_has ls 4 [(3, .int (nI 0)), (2, .ref h), (1, .ref xo), (0, .ref b)]) {post : Int32 → cU → Prop} (hM : Met l y_H_carry (k_H_carry :: lw_tg) (kRm 2 83 0 (0)) (va_Pc [.ref xo, .int (xs (nI 1).toNatClampNeg), .int (xs (nI 2).toNatClampNeg)] (kPre D E T L f H.size)) (va_Qi post (cPost D E (pA L H.size)) (pA L H.size)) 0 (0) (pA L H.size)) (hpo : ∀ r u, post r u → r = nI 0) : W p l e room_1 s m #[Value.ref b] below meth c H locs 1000 400000 (lw_Z below #[Value.ref b] s) (F0 m 246 ls []) := by
  obtain ⟨hx, hb, hr, hml, hown, hts, hX, hbl, hlocks, hgv⟩ := id C0
  have hbA : ¬ lA s b := Nat.not_le.mpr hbl
  have hA : ∀ a, s.heap.size ≤ a → lA s a := fun _ h9 => h9
  obtain ⟨hm_L, hm_O, hm_P, hm_W, hm_A, hm_S, hm_V, hm_N, hm_12, hm_13, hm_16, hm_17⟩ := MF
  refine lv_aload_n hx hb d_law_246 rfl (lv_at hl 2 rfl) ?_
  refine lv_aload_n hx hb d_law_247 rfl (lv_at hl 3 rfl) ?_
  refine lv_iload_n hx hb d_law_248 rfl (lv_at hl 0 rfl) ?_
  refine lv_iconst (v := nI 1) hx hb d_law_249 (by decide) ?_
  refine lv_iadd hx hb d_law_250 ?_
  refine t_eq (y := nI 1) (by decide) ?_
  refine va_sld hx hb hX hbl hbA Y.2.2 (vp_in_nI (show 1 < 8 by decide) (by decide)) d_law_251 ?_
  refine lv_aload_n hx hb d_law_252 rfl (lv_at hl 3 rfl) ?_
  refine lv_iload_n hx hb d_law_253 rfl (lv_at hl 0 rfl) ?_
  refine lv_iconst (v := nI 2) hx hb d_law_254 (by decide) ?_
  refine lv_iadd hx hb d_law_255 ?_
  refine t_eq (y := nI 2) (by decide) ?_
  refine va_sld hx hb hX hbl hbA Y.2.2 (vp_in_nI (show 2 < 8 by decide) (by decide)) d_law_256 ?_
  refine l_x (x_runV (As := [.int (xs (nI 1).toNatClampNeg), .int (xs (nI 2).toNatClampNeg)]) (rest := []) (n := 2) X Y hml hl.1 hM (ok_k X Y hA KS KR) m_xo e_xo rfl kl_L_H_carry ks_H_carry kx_H_carry ki_H_carry ini_H ⟨rfl, rfl⟩ hd_H_carry ⟨by decide, by decide⟩ rfl (Nat.le_of_ble_eq_true rfl) d_law_257 ⟨by decide, by decide⟩) Y hA (fun r1 u1 H1 locs1 hp1 hz1 hk1 hS1 => ?_)
  have hr1 := hpo r1 u1 hp1
  have PM1 := l_keep PM AP hk1
  refine lv_aload_n hx hb d_law_260 rfl (lv_at hl 1 rfl) ?_
  refine lv_aload_n hx hb d_law_261 rfl (lv_at hl 3 rfl) ?_
  refine lv_iload_n hx hb d_law_262 rfl (lv_at hl 0 rfl) ?_
  refine lv_iconst (v := nI 1) hx hb d_law_263 (by decide) ?_
  refine lv_iadd hx hb d_law_264 ?_
  refine t_eq (y := nI 1) (by decide) ?_
  refine va_sld hx hb hX hbl hbA hS1 (vp_in_nI (show 1 < 8 by decide) (by decide)) d_law_265 ?_
  refine lv_aload_n hx hb d_law_266 rfl (lv_at hl 3 rfl) ?_
  refine lv_iload_n hx hb d_law_267 rfl (lv_at hl 0 rfl) ?_
  refine lv_iconst (v := nI 2) hx hb d_law_268 (by decide) ?_
  refine lv_iadd hx hb d_law_269 ?_
  refine t_eq (y := nI 2) (by decide) ?_
  refine va_sld hx hb hX hbl hbA hS1 (vp_in_nI (show 2 < 8 by decide) (by decide)) d_law_270 ?_
  refine l_m (As := [.int (xs (nI 1).toNatClampNeg), .int (xs (nI 2).toNatClampNeg)]) (rest := [.int r1]) (n := 2) hx hb X.2.2.1 hown K2 Z2 R2 PM1 DM hS1 hA hml hl.1 (c_carry l D2 E2 h q H1.size I J B G (xs (nI 1).toNatClampNeg) (xs (nI 2).toNatClampNeg) 0 hm_O (by decide)) kl_L_M_carry ks_carry kx_carry ki_carry hd_carry ⟨by decide, by decide⟩ rfl (Nat.le_of_ble_eq_true rfl) d_law_271 ⟨by decide, by decide⟩ (fun r2 u2 H2 locs2 hp2 hS2 => ?_)
  refine lv_icmp_eq (tgt := 1068) hx hb d_law_274 (by decide) (fun c1 => ?_) (fun c1 => absurd (hr1.trans (hp2.2.2.2.2.1).symm) c1)
  exact law_end C0 hS2 hl (by decide) (by decide)
set_option maxHeartbeats 4000000 in
set_option maxRecDepth 100000 in
theorem law_3 {p : Program} {l : Launch} {e : Env} {s : State} {m : MethodId} {below : List Frame} {meth : Method} {c : Code} {b h xo : Nat} {xs : Nat → Int32} {D : va_G} {E : cE} {T : cT} {L : List Nat} {f : pF} {D2 : mD} {E2 : mE} {q : Nat → Nat} {I : Nat → Int32} {J : Nat → Int64} {B : Nat → Nat → Int32} {G : Nat → Nat → Int64} {H : Heap} {locs : List Loc} {ls : Array Slot} (C0 : lw_At p s m meth c b 8 xs) (X : cX R_law p c code #[Value.ref b] s m D E) (KS : kS T (lA s) s s.heap) (KR : kR T s) (K2 : va_K D2.1 mCl (mTy E2) s) (Z2 : zS D2.2.1 D2.2.2.1 D2.2.2.2 (lA s) s s.heap) (R2 : zR D2.2.1 s) (Y : pH D cCl (lA s) s.heap L f H locs) (m_xo : xo ∈ L) {fsx : List Value} (e_xo : f xo = .inr (0, fsx)) (PM : va_P D2.1 mCl (mW E2 h q I J B G) H) (DM : va_D (lA s) (mW E2 h q I J B G)) (AP : ∀ (k : Nat) (x : Nat × va_E), (mW E2 h q I J B G)[k]? = some x → x.1 ∉ L) (MF : I 2 = nI 0 ∧ I 3 = nI 0 ∧ I 43 = nI 1 ∧ I 4 = nI 1000000000 ∧ (∀ j, B 91 j = nI 0) ∧ (∀ j, B 133 j = nI 0) ∧ B 46 0 = nI 1 ∧ B 45 0 = nI 12 ∧ by8 (B 12) ∧ by8 (B 13) ∧ by8 (B 16) ∧ by8 (B 17)) (hl : lv_has ls 4 [(3, .int (nI 0)), (2, .ref h), (1, .ref xo), (0, .ref b)]) {post : Int32 → cU → Prop} (hM : Met l y_H_out (k_H_out :: lw_tg) (kRm 1 21 0 (0)) (va_Pc [.ref xo, .int (xs (nI 1).toNatClampNeg)] (kPre D E T L f H.size)) (va_Qi post (cPost D E (pA L H.size)) (pA L H.size)) 0 (0) (pA L H.size)) (hpo : ∀ r u, post r u → r = (if (xs (nI 1).toNatClampNeg) = -1 then nI 0 else (-1))) : W p l e room_1 s m #[Value.ref b] below meth c H locs 1000 400000 (lw_Z below #[Value.ref b] s) (F0 m 279 ls []) := by
  obtain ⟨hx, hb, hr, hml, hown, hts, hX, hbl, hlocks, hgv⟩ := id C0
  have hbA : ¬ lA s b := Nat.not_le.mpr hbl
  have hA : ∀ a, s.heap.size ≤ a → lA s a := fun _ h9 => h9
  obtain ⟨hm_L, hm_O, hm_P, hm_W, hm_A, hm_S, hm_V, hm_N, hm_12, hm_13, hm_16, hm_17⟩ := MF
  refine lv_aload_n hx hb d_law_279 rfl (lv_at hl 2 rfl) ?_
  refine lv_aload_n hx hb d_law_280 rfl (lv_at hl 3 rfl) ?_
  refine lv_iload_n hx hb d_law_281 rfl (lv_at hl 0 rfl) ?_
  refine lv_iconst (v := nI 1) hx hb d_law_282 (by decide) ?_
  refine lv_iadd hx hb d_law_283 ?_
  refine t_eq (y := nI 1) (by decide) ?_
  refine va_sld hx hb hX hbl hbA Y.2.2 (vp_in_nI (show 1 < 8 by decide) (by decide)) d_law_284 ?_
  refine l_x (x_runV (As := [.int (xs (nI 1).toNatClampNeg)]) (rest := []) (n := 1) X Y hml hl.1 hM (ok_k X Y hA KS KR) m_xo e_xo rfl kl_L_H_out ks_H_out kx_H_out ki_H_out ini_H ⟨rfl, rfl⟩ hd_H_out ⟨by decide, by decide⟩ rfl (Nat.le_of_ble_eq_true rfl) d_law_285 ⟨by decide, by decide⟩) Y hA (fun r1 u1 H1 locs1 hp1 hz1 hk1 hS1 => ?_)
  have hr1 := hpo r1 u1 hp1
  have PM1 := l_keep PM AP hk1
  refine lv_aload_n hx hb d_law_288 rfl (lv_at hl 1 rfl) ?_
  refine lv_aload_n hx hb d_law_289 rfl (lv_at hl 3 rfl) ?_
  refine lv_iload_n hx hb d_law_290 rfl (lv_at hl 0 rfl) ?_
  refine lv_iconst (v := nI 1) hx hb d_law_291 (by decide) ?_
  refine lv_iadd hx hb d_law_292 ?_
  refine t_eq (y := nI 1) (by decide) ?_
  refine va_sld hx hb hX hbl hbA hS1 (vp_in_nI (show 1 < 8 by decide) (by decide)) d_law_293 ?_
  refine l_m (As := [.int (xs (nI 1).toNatClampNeg)]) (rest := [.int r1]) (n := 1) hx hb X.2.2.1 hown K2 Z2 R2 PM1 DM hS1 hA hml hl.1 (c_out_new l D2 E2 h q H1.size I J B G (xs (nI 1).toNatClampNeg) hm_O) kl_L_M_out ks_out kx_out ki_out hd_out ⟨by decide, by decide⟩ rfl (Nat.le_of_ble_eq_true rfl) d_law_294 ⟨by decide, by decide⟩ (fun r2 u2 H2 locs2 hp2 hS2 => ?_)
  refine lv_icmp_eq (tgt := 1068) hx hb d_law_297 (by decide) (fun c1 => ?_) (fun c1 => absurd (hr1.trans (hp2.2.2.2.2).symm) c1)
  exact law_end C0 hS2 hl (by decide) (by decide)
set_option maxHeartbeats 4000000 in
set_option maxRecDepth 100000 in
theorem law_4 {p : Program} {l : Launch} {e : Env} {s : State} {m : MethodId} {below : List Frame} {meth : Method} {c : Code} {b h xo : Nat} {xs : Nat → Int32} {D : va_G} {E : cE} {T : cT} {L : List Nat} {f : pF} {D2 : mD} {E2 : mE} {q : Nat → Nat} {I : Nat → Int32} {J : Nat → Int64} {B : Nat → Nat → Int32} {G : Nat → Nat → Int64} {H : Heap} {locs : List Loc} {ls : Array Slot} (C0 : lw_At p s m meth c b 8 xs) (X : cX R_law p c code #[Value.ref b] s m D E) (KS : kS T (lA s) s s.heap) (KR : kR T s) (K2 : va_K D2.1 mCl (mTy E2) s) (Z2 : zS D2.2.1 D2.2.2.1 D2.2.2.2 (lA s) s s.heap) (R2 : zR D2.2.1 s) (Y : pH D cCl (lA s) s.heap L f H locs) (m_xo : xo ∈ L) {fsx : List Value} (e_xo : f xo = .inr (0, fsx)) (PM : va_P D2.1 mCl (mW E2 h q I J B G) H) (DM : va_D (lA s) (mW E2 h q I J B G)) (AP : ∀ (k : Nat) (x : Nat × va_E), (mW E2 h q I J B G)[k]? = some x → x.1 ∉ L) (MF : I 2 = nI 0 ∧ I 3 = nI 0 ∧ I 43 = nI 1 ∧ I 4 = nI 1000000000 ∧ (∀ j, B 91 j = nI 0) ∧ (∀ j, B 133 j = nI 0) ∧ B 46 0 = nI 1 ∧ B 45 0 = nI 12 ∧ by8 (B 12) ∧ by8 (B 13) ∧ by8 (B 16) ∧ by8 (B 17)) (hl : lv_has ls 4 [(3, .int (nI 0)), (2, .ref h), (1, .ref xo), (0, .ref b)]) {post : Int32 → cU → Prop} (hM : Met l y_H_clock (k_H_clock :: lw_tg) (kRm 0 0 0 (0)) (va_Pc [.ref xo, .int (xs (nI 1).toNatClampNeg)] (kPre D E T L f H.size)) (va_Qi post (cPost D E (pA L H.size)) (pA L H.size)) 0 (0) (pA L H.size)) (hpo : ∀ r u, post r u → r = (if (xs (nI 1).toNatClampNeg) < 0 ∨ ¬ (xs (nI 1).toNatClampNeg) ≤ nI 2000000000 then nI 0 else nI 1)) : W p l e room_1 s m #[Value.ref b] below meth c H locs 1000 400000 (lw_Z below #[Value.ref b] s) (F0 m 302 ls []) := by
  obtain ⟨hx, hb, hr, hml, hown, hts, hX, hbl, hlocks, hgv⟩ := id C0
  have hbA : ¬ lA s b := Nat.not_le.mpr hbl
  have hA : ∀ a, s.heap.size ≤ a → lA s a := fun _ h9 => h9
  obtain ⟨hm_L, hm_O, hm_P, hm_W, hm_A, hm_S, hm_V, hm_N, hm_12, hm_13, hm_16, hm_17⟩ := MF
  refine lv_aload_n hx hb d_law_302 rfl (lv_at hl 2 rfl) ?_
  refine lv_aload_n hx hb d_law_303 rfl (lv_at hl 3 rfl) ?_
  refine lv_iload_n hx hb d_law_304 rfl (lv_at hl 0 rfl) ?_
  refine lv_iconst (v := nI 1) hx hb d_law_305 (by decide) ?_
  refine lv_iadd hx hb d_law_306 ?_
  refine t_eq (y := nI 1) (by decide) ?_
  refine va_sld hx hb hX hbl hbA Y.2.2 (vp_in_nI (show 1 < 8 by decide) (by decide)) d_law_307 ?_
  refine l_x (x_runV (As := [.int (xs (nI 1).toNatClampNeg)]) (rest := []) (n := 1) X Y hml hl.1 hM (ok_k X Y hA KS KR) m_xo e_xo rfl kl_L_H_clock ks_H_clock kx_H_clock ki_H_clock ini_H ⟨rfl, rfl⟩ hd_H_clock ⟨by decide, by decide⟩ rfl (Nat.le_of_ble_eq_true rfl) d_law_308 ⟨by decide, by decide⟩) Y hA (fun r1 u1 H1 locs1 hp1 hz1 hk1 hS1 => ?_)
  have hr1 := hpo r1 u1 hp1
  have PM1 := l_keep PM AP hk1
  refine lv_aload_n hx hb d_law_311 rfl (lv_at hl 1 rfl) ?_
  refine lv_aload_n hx hb d_law_312 rfl (lv_at hl 3 rfl) ?_
  refine lv_iload_n hx hb d_law_313 rfl (lv_at hl 0 rfl) ?_
  refine lv_iconst (v := nI 1) hx hb d_law_314 (by decide) ?_
  refine lv_iadd hx hb d_law_315 ?_
  refine t_eq (y := nI 1) (by decide) ?_
  refine va_sld hx hb hX hbl hbA hS1 (vp_in_nI (show 1 < 8 by decide) (by decide)) d_law_316 ?_
  refine l_m (As := [.int (xs (nI 1).toNatClampNeg)]) (rest := [.int r1]) (n := 1) hx hb X.2.2.1 hown K2 Z2 R2 PM1 DM hS1 hA hml hl.1 (c_clock l D2 E2 h q H1.size I J B G (xs (nI 1).toNatClampNeg) ) kl_L_M_clock ks_clock kx_clock ki_clock hd_clock ⟨by decide, by decide⟩ rfl (Nat.le_of_ble_eq_true rfl) d_law_317 ⟨by decide, by decide⟩ (fun r2 u2 H2 locs2 hp2 hS2 => ?_)
  refine lv_icmp_eq (tgt := 1068) hx hb d_law_320 (by decide) (fun c1 => ?_) (fun c1 => absurd (hr1.trans (hp2.2.2.2.2.1).symm) c1)
  exact law_end C0 hS2 hl (by decide) (by decide)
set_option maxHeartbeats 4000000 in
set_option maxRecDepth 100000 in
theorem law_5 {p : Program} {l : Launch} {e : Env} {s : State} {m : MethodId} {below : List Frame} {meth : Method} {c : Code} {b h xo : Nat} {xs : Nat → Int32} {D : va_G} {E : cE} {T : cT} {L : List Nat} {f : pF} {D2 : mD} {E2 : mE} {q : Nat → Nat} {I : Nat → Int32} {J : Nat → Int64} {B : Nat → Nat → Int32} {G : Nat → Nat → Int64} {H : Heap} {locs : List Loc} {ls : Array Slot} (C0 : lw_At p s m meth c b 8 xs) (X : cX R_law p c code #[Value.ref b] s m D E) (KS : kS T (lA s) s s.heap) (KR : kR T s) (K2 : va_K D2.1 mCl (mTy E2) s) (Z2 : zS D2.2.1 D2.2.2.1 D2.2.2.2 (lA s) s s.heap) (R2 : zR D2.2.1 s) (Y : pH D cCl (lA s) s.heap L f H locs) (m_xo : xo ∈ L) {fsx : List Value} (e_xo : f xo = .inr (0, fsx)) (PM : va_P D2.1 mCl (mW E2 h q I J B G) H) (DM : va_D (lA s) (mW E2 h q I J B G)) (AP : ∀ (k : Nat) (x : Nat × va_E), (mW E2 h q I J B G)[k]? = some x → x.1 ∉ L) (MF : I 2 = nI 0 ∧ I 3 = nI 0 ∧ I 43 = nI 1 ∧ I 4 = nI 1000000000 ∧ (∀ j, B 91 j = nI 0) ∧ (∀ j, B 133 j = nI 0) ∧ B 46 0 = nI 1 ∧ B 45 0 = nI 12 ∧ by8 (B 12) ∧ by8 (B 13) ∧ by8 (B 16) ∧ by8 (B 17)) (hl : lv_has ls 4 [(3, .int (nI 0)), (2, .ref h), (1, .ref xo), (0, .ref b)]) {post : Int32 → cU → Prop} (hM : Met l y_H_seed (k_H_seed :: lw_tg) (kRm 2 81 0 (0)) (va_Pc [.ref xo] (kPre D E T L f H.size)) (va_Qi post (cPost D E (pA L H.size)) (pA L H.size)) 0 (0) (pA L H.size)) (hpo : ∀ r u, post r u → r = nI 1) : W p l e room_1 s m #[Value.ref b] below meth c H locs 1000 400000 (lw_Z below #[Value.ref b] s) (F0 m 325 ls []) := by
  obtain ⟨hx, hb, hr, hml, hown, hts, hX, hbl, hlocks, hgv⟩ := id C0
  have hbA : ¬ lA s b := Nat.not_le.mpr hbl
  have hA : ∀ a, s.heap.size ≤ a → lA s a := fun _ h9 => h9
  obtain ⟨hm_L, hm_O, hm_P, hm_W, hm_A, hm_S, hm_V, hm_N, hm_12, hm_13, hm_16, hm_17⟩ := MF
  refine lv_aload_n hx hb d_law_325 rfl (lv_at hl 2 rfl) ?_
  refine l_x (x_runV (As := []) (rest := []) (n := 0) X Y hml hl.1 hM (ok_k X Y hA KS KR) m_xo e_xo rfl kl_L_H_seed ks_H_seed kx_H_seed ki_H_seed ini_H ⟨rfl, rfl⟩ hd_H_seed ⟨by decide, by decide⟩ rfl (Nat.le_of_ble_eq_true rfl) d_law_326 ⟨by decide, by decide⟩) Y hA (fun r1 u1 H1 locs1 hp1 hz1 hk1 hS1 => ?_)
  have hr1 := hpo r1 u1 hp1
  have PM1 := l_keep PM AP hk1
  refine lv_aload_n hx hb d_law_329 rfl (lv_at hl 1 rfl) ?_
  refine l_m (As := []) (rest := [.int r1]) (n := 0) hx hb X.2.2.1 hown K2 Z2 R2 PM1 DM hS1 hA hml hl.1 (c_seed l D2 E2 h q H1.size I J B G  0 hm_L (by decide)) kl_L_M_seed ks_seed kx_seed ki_seed hd_seed ⟨by decide, by decide⟩ rfl (Nat.le_of_ble_eq_true rfl) d_law_330 ⟨by decide, by decide⟩ (fun r2 u2 H2 locs2 hp2 hS2 => ?_)
  refine lv_icmp_eq (tgt := 1068) hx hb d_law_333 (by decide) (fun c1 => ?_) (fun c1 => absurd (hr1.trans ((hp2.2.2.2.2.1 (by decide)).1).symm) c1)
  exact law_end C0 hS2 hl (by decide) (by decide)
set_option maxHeartbeats 4000000 in
set_option maxRecDepth 100000 in
theorem law_6 {p : Program} {l : Launch} {e : Env} {s : State} {m : MethodId} {below : List Frame} {meth : Method} {c : Code} {b h xo : Nat} {xs : Nat → Int32} {D : va_G} {E : cE} {T : cT} {L : List Nat} {f : pF} {D2 : mD} {E2 : mE} {q : Nat → Nat} {I : Nat → Int32} {J : Nat → Int64} {B : Nat → Nat → Int32} {G : Nat → Nat → Int64} {H : Heap} {locs : List Loc} {ls : Array Slot} (C0 : lw_At p s m meth c b 8 xs) (X : cX R_law p c code #[Value.ref b] s m D E) (KS : kS T (lA s) s s.heap) (KR : kR T s) (K2 : va_K D2.1 mCl (mTy E2) s) (Z2 : zS D2.2.1 D2.2.2.1 D2.2.2.2 (lA s) s s.heap) (R2 : zR D2.2.1 s) (Y : pH D cCl (lA s) s.heap L f H locs) (m_xo : xo ∈ L) {fsx : List Value} (e_xo : f xo = .inr (0, fsx)) (PM : va_P D2.1 mCl (mW E2 h q I J B G) H) (DM : va_D (lA s) (mW E2 h q I J B G)) (AP : ∀ (k : Nat) (x : Nat × va_E), (mW E2 h q I J B G)[k]? = some x → x.1 ∉ L) (MF : I 2 = nI 0 ∧ I 3 = nI 0 ∧ I 43 = nI 1 ∧ I 4 = nI 1000000000 ∧ (∀ j, B 91 j = nI 0) ∧ (∀ j, B 133 j = nI 0) ∧ B 46 0 = nI 1 ∧ B 45 0 = nI 12 ∧ by8 (B 12) ∧ by8 (B 13) ∧ by8 (B 16) ∧ by8 (B 17)) (hl : lv_has ls 4 [(3, .int (nI 0)), (2, .ref h), (1, .ref xo), (0, .ref b)]) {post : Int32 → cU → Prop} (hM : Met l y_H_principal (k_H_principal :: lw_tg) (kRm 1 22 0 (0)) (va_Pc [.ref xo, .int (xs (nI 1).toNatClampNeg)] (kPre D E T L f H.size)) (va_Qi post (cPost D E (pA L H.size)) (pA L H.size)) 0 (0) (pA L H.size)) (hpo : ∀ r u, post r u → r = (-1)) : W p l e room_1 s m #[Value.ref b] below meth c H locs 1000 400000 (lw_Z below #[Value.ref b] s) (F0 m 338 ls []) := by
  obtain ⟨hx, hb, hr, hml, hown, hts, hX, hbl, hlocks, hgv⟩ := id C0
  have hbA : ¬ lA s b := Nat.not_le.mpr hbl
  have hA : ∀ a, s.heap.size ≤ a → lA s a := fun _ h9 => h9
  obtain ⟨hm_L, hm_O, hm_P, hm_W, hm_A, hm_S, hm_V, hm_N, hm_12, hm_13, hm_16, hm_17⟩ := MF
  refine lv_aload_n hx hb d_law_338 rfl (lv_at hl 2 rfl) ?_
  refine lv_aload_n hx hb d_law_339 rfl (lv_at hl 3 rfl) ?_
  refine lv_iload_n hx hb d_law_340 rfl (lv_at hl 0 rfl) ?_
  refine lv_iconst (v := nI 1) hx hb d_law_341 (by decide) ?_
  refine lv_iadd hx hb d_law_342 ?_
  refine t_eq (y := nI 1) (by decide) ?_
  refine va_sld hx hb hX hbl hbA Y.2.2 (vp_in_nI (show 1 < 8 by decide) (by decide)) d_law_343 ?_
  refine l_x (x_runV (As := [.int (xs (nI 1).toNatClampNeg)]) (rest := []) (n := 1) X Y hml hl.1 hM (ok_k X Y hA KS KR) m_xo e_xo rfl kl_L_H_principal ks_H_principal kx_H_principal ki_H_principal ini_H ⟨rfl, rfl⟩ hd_H_principal ⟨by decide, by decide⟩ rfl (Nat.le_of_ble_eq_true rfl) d_law_344 ⟨by decide, by decide⟩) Y hA (fun r1 u1 H1 locs1 hp1 hz1 hk1 hS1 => ?_)
  have hr1 := hpo r1 u1 hp1
  have PM1 := l_keep PM AP hk1
  refine lv_aload_n hx hb d_law_347 rfl (lv_at hl 1 rfl) ?_
  refine lv_aload_n hx hb d_law_348 rfl (lv_at hl 3 rfl) ?_
  refine lv_iload_n hx hb d_law_349 rfl (lv_at hl 0 rfl) ?_
  refine lv_iconst (v := nI 1) hx hb d_law_350 (by decide) ?_
  refine lv_iadd hx hb d_law_351 ?_
  refine t_eq (y := nI 1) (by decide) ?_
  refine va_sld hx hb hX hbl hbA hS1 (vp_in_nI (show 1 < 8 by decide) (by decide)) d_law_352 ?_
  refine l_m (As := [.int (xs (nI 1).toNatClampNeg)]) (rest := [.int r1]) (n := 1) hx hb X.2.2.1 hown K2 Z2 R2 PM1 DM hS1 hA hml hl.1 (c_principal_empty l D2 E2 h q H1.size I J B G (xs (nI 1).toNatClampNeg) hm_L) kl_L_M_principal ks_principal kx_principal ki_principal hd_principal ⟨by decide, by decide⟩ rfl (Nat.le_of_ble_eq_true rfl) d_law_353 ⟨by decide, by decide⟩ (fun r2 u2 H2 locs2 hp2 hS2 => ?_)
  refine lv_icmp_eq (tgt := 1068) hx hb d_law_356 (by decide) (fun c1 => ?_) (fun c1 => absurd (hr1.trans (hp2.2.2.2.2.2).symm) c1)
  exact law_end C0 hS2 hl (by decide) (by decide)
set_option maxHeartbeats 4000000 in
set_option maxRecDepth 100000 in
theorem law_7 {p : Program} {l : Launch} {e : Env} {s : State} {m : MethodId} {below : List Frame} {meth : Method} {c : Code} {b h xo : Nat} {xs : Nat → Int32} {D : va_G} {E : cE} {T : cT} {L : List Nat} {f : pF} {D2 : mD} {E2 : mE} {q : Nat → Nat} {I : Nat → Int32} {J : Nat → Int64} {B : Nat → Nat → Int32} {G : Nat → Nat → Int64} {H : Heap} {locs : List Loc} {ls : Array Slot} (C0 : lw_At p s m meth c b 8 xs) (X : cX R_law p c code #[Value.ref b] s m D E) (KS : kS T (lA s) s s.heap) (KR : kR T s) (K2 : va_K D2.1 mCl (mTy E2) s) (Z2 : zS D2.2.1 D2.2.2.1 D2.2.2.2 (lA s) s s.heap) (R2 : zR D2.2.1 s) (Y : pH D cCl (lA s) s.heap L f H locs) (m_xo : xo ∈ L) {fsx : List Value} (e_xo : f xo = .inr (0, fsx)) (PM : va_P D2.1 mCl (mW E2 h q I J B G) H) (DM : va_D (lA s) (mW E2 h q I J B G)) (AP : ∀ (k : Nat) (x : Nat × va_E), (mW E2 h q I J B G)[k]? = some x → x.1 ∉ L) (MF : I 2 = nI 0 ∧ I 3 = nI 0 ∧ I 43 = nI 1 ∧ I 4 = nI 1000000000 ∧ (∀ j, B 91 j = nI 0) ∧ (∀ j, B 133 j = nI 0) ∧ B 46 0 = nI 1 ∧ B 45 0 = nI 12 ∧ by8 (B 12) ∧ by8 (B 13) ∧ by8 (B 16) ∧ by8 (B 17)) (hl : lv_has ls 4 [(3, .int (nI 0)), (2, .ref h), (1, .ref xo), (0, .ref b)]) {post : Int32 → cU → Prop} (hM : Met l y_H_change (k_H_change :: lw_tg) (kRm 8 189 2 (48)) (va_Pc [.ref xo, .int (xs (nI 1).toNatClampNeg), .int (xs (nI 2).toNatClampNeg)] (kPre D E T L f H.size)) (va_Qi post (cPost D E (pA L H.size)) (pA L H.size)) 2 (48) (pA L H.size)) (hpo : ∀ r u, post r u → r = (if (xs (nI 1).toNatClampNeg) = nI 0 ∧ nI 1 ≤ (xs (nI 2).toNatClampNeg) ∧ (xs (nI 2).toNatClampNeg) ≤ nI 200 then nI 2 else (-1))) : W p l e room_1 s m #[Value.ref b] below meth c H locs 1000 400000 (lw_Z below #[Value.ref b] s) (F0 m 361 ls []) := by
  obtain ⟨hx, hb, hr, hml, hown, hts, hX, hbl, hlocks, hgv⟩ := id C0
  have hbA : ¬ lA s b := Nat.not_le.mpr hbl
  have hA : ∀ a, s.heap.size ≤ a → lA s a := fun _ h9 => h9
  obtain ⟨hm_L, hm_O, hm_P, hm_W, hm_A, hm_S, hm_V, hm_N, hm_12, hm_13, hm_16, hm_17⟩ := MF
  refine lv_aload_n hx hb d_law_361 rfl (lv_at hl 2 rfl) ?_
  refine lv_aload_n hx hb d_law_362 rfl (lv_at hl 3 rfl) ?_
  refine lv_iload_n hx hb d_law_363 rfl (lv_at hl 0 rfl) ?_
  refine lv_iconst (v := nI 1) hx hb d_law_364 (by decide) ?_
  refine lv_iadd hx hb d_law_365 ?_
  refine t_eq (y := nI 1) (by decide) ?_
  refine va_sld hx hb hX hbl hbA Y.2.2 (vp_in_nI (show 1 < 8 by decide) (by decide)) d_law_366 ?_
  refine lv_aload_n hx hb d_law_367 rfl (lv_at hl 3 rfl) ?_
  refine lv_iload_n hx hb d_law_368 rfl (lv_at hl 0 rfl) ?_
  refine lv_iconst (v := nI 2) hx hb d_law_369 (by decide) ?_
  refine lv_iadd hx hb d_law_370 ?_
  refine t_eq (y := nI 2) (by decide) ?_
  refine va_sld hx hb hX hbl hbA Y.2.2 (vp_in_nI (show 2 < 8 by decide) (by decide)) d_law_371 ?_
  refine l_x (x_runV (As := [.int (xs (nI 1).toNatClampNeg), .int (xs (nI 2).toNatClampNeg)]) (rest := []) (n := 2) X Y hml hl.1 hM (ok_k X Y hA KS KR) m_xo e_xo rfl kl_L_H_change ks_H_change kx_H_change ki_H_change ini_H ⟨rfl, rfl⟩ hd_H_change ⟨by decide, by decide⟩ rfl (Nat.le_of_ble_eq_true rfl) d_law_372 ⟨by decide, by decide⟩) Y hA (fun r1 u1 H1 locs1 hp1 hz1 hk1 hS1 => ?_)
  have hr1 := hpo r1 u1 hp1
  have PM1 := l_keep PM AP hk1
  refine lv_aload_n hx hb d_law_375 rfl (lv_at hl 1 rfl) ?_
  refine lv_aload_n hx hb d_law_376 rfl (lv_at hl 3 rfl) ?_
  refine lv_iload_n hx hb d_law_377 rfl (lv_at hl 0 rfl) ?_
  refine lv_iconst (v := nI 1) hx hb d_law_378 (by decide) ?_
  refine lv_iadd hx hb d_law_379 ?_
  refine t_eq (y := nI 1) (by decide) ?_
  refine va_sld hx hb hX hbl hbA hS1 (vp_in_nI (show 1 < 8 by decide) (by decide)) d_law_380 ?_
  refine lv_aload_n hx hb d_law_381 rfl (lv_at hl 3 rfl) ?_
  refine lv_iload_n hx hb d_law_382 rfl (lv_at hl 0 rfl) ?_
  refine lv_iconst (v := nI 2) hx hb d_law_383 (by decide) ?_
  refine lv_iadd hx hb d_law_384 ?_
  refine t_eq (y := nI 2) (by decide) ?_
  refine va_sld hx hb hX hbl hbA hS1 (vp_in_nI (show 2 < 8 by decide) (by decide)) d_law_385 ?_
  refine l_m (As := [.int (xs (nI 1).toNatClampNeg), .int (xs (nI 2).toNatClampNeg)]) (rest := [.int r1]) (n := 2) hx hb X.2.2.1 hown K2 Z2 R2 PM1 DM hS1 hA hml hl.1 (c_change_new l D2 E2 h q H1.size I J B G (xs (nI 1).toNatClampNeg) (xs (nI 2).toNatClampNeg) hm_L hm_P hm_V hm_N hm_12 hm_13 hm_16 hm_17) kl_L_M_change ks_change kx_change ki_change hd_change ⟨by decide, by decide⟩ rfl (Nat.le_of_ble_eq_true rfl) d_law_386 ⟨by decide, by decide⟩ (fun r2 u2 H2 locs2 hp2 hS2 => ?_)
  refine lv_icmp_eq (tgt := 1068) hx hb d_law_389 (by decide) (fun c1 => ?_) (fun c1 => absurd (hr1.trans (hp2.2.2.2.2).symm) c1)
  exact law_end C0 hS2 hl (by decide) (by decide)
set_option maxHeartbeats 4000000 in
set_option maxRecDepth 100000 in
theorem law_8 {p : Program} {l : Launch} {e : Env} {s : State} {m : MethodId} {below : List Frame} {meth : Method} {c : Code} {b h xo : Nat} {xs : Nat → Int32} {D : va_G} {E : cE} {T : cT} {L : List Nat} {f : pF} {D2 : mD} {E2 : mE} {q : Nat → Nat} {I : Nat → Int32} {J : Nat → Int64} {B : Nat → Nat → Int32} {G : Nat → Nat → Int64} {H : Heap} {locs : List Loc} {ls : Array Slot} (C0 : lw_At p s m meth c b 8 xs) (X : cX R_law p c code #[Value.ref b] s m D E) (KS : kS T (lA s) s s.heap) (KR : kR T s) (K2 : va_K D2.1 mCl (mTy E2) s) (Z2 : zS D2.2.1 D2.2.2.1 D2.2.2.2 (lA s) s s.heap) (R2 : zR D2.2.1 s) (Y : pH D cCl (lA s) s.heap L f H locs) (m_xo : xo ∈ L) {fsx : List Value} (e_xo : f xo = .inr (0, fsx)) (PM : va_P D2.1 mCl (mW E2 h q I J B G) H) (DM : va_D (lA s) (mW E2 h q I J B G)) (AP : ∀ (k : Nat) (x : Nat × va_E), (mW E2 h q I J B G)[k]? = some x → x.1 ∉ L) (MF : I 2 = nI 0 ∧ I 3 = nI 0 ∧ I 43 = nI 1 ∧ I 4 = nI 1000000000 ∧ (∀ j, B 91 j = nI 0) ∧ (∀ j, B 133 j = nI 0) ∧ B 46 0 = nI 1 ∧ B 45 0 = nI 12 ∧ by8 (B 12) ∧ by8 (B 13) ∧ by8 (B 16) ∧ by8 (B 17)) (hl : lv_has ls 4 [(3, .int (nI 0)), (2, .ref h), (1, .ref xo), (0, .ref b)]) {post : Int32 → cU → Prop} (hM : Met l y_H_policy (k_H_policy :: lw_tg) (kRm 1 22 0 (0)) (va_Pc [.ref xo, .int (xs (nI 1).toNatClampNeg), .int (xs (nI 2).toNatClampNeg), .int (xs (nI 3).toNatClampNeg)] (kPre D E T L f H.size)) (va_Qi post (cPost D E (pA L H.size)) (pA L H.size)) 0 (0) (pA L H.size)) (hpo : ∀ r u, post r u → r = polR (xs (nI 1).toNatClampNeg) (xs (nI 2).toNatClampNeg) (xs (nI 3).toNatClampNeg)) : W p l e room_1 s m #[Value.ref b] below meth c H locs 1000 400000 (lw_Z below #[Value.ref b] s) (F0 m 394 ls []) := by
  obtain ⟨hx, hb, hr, hml, hown, hts, hX, hbl, hlocks, hgv⟩ := id C0
  have hbA : ¬ lA s b := Nat.not_le.mpr hbl
  have hA : ∀ a, s.heap.size ≤ a → lA s a := fun _ h9 => h9
  obtain ⟨hm_L, hm_O, hm_P, hm_W, hm_A, hm_S, hm_V, hm_N, hm_12, hm_13, hm_16, hm_17⟩ := MF
  refine lv_aload_n hx hb d_law_394 rfl (lv_at hl 2 rfl) ?_
  refine lv_aload_n hx hb d_law_395 rfl (lv_at hl 3 rfl) ?_
  refine lv_iload_n hx hb d_law_396 rfl (lv_at hl 0 rfl) ?_
  refine lv_iconst (v := nI 1) hx hb d_law_397 (by decide) ?_
  refine lv_iadd hx hb d_law_398 ?_
  refine t_eq (y := nI 1) (by decide) ?_
  refine va_sld hx hb hX hbl hbA Y.2.2 (vp_in_nI (show 1 < 8 by decide) (by decide)) d_law_399 ?_
  refine lv_aload_n hx hb d_law_400 rfl (lv_at hl 3 rfl) ?_
  refine lv_iload_n hx hb d_law_401 rfl (lv_at hl 0 rfl) ?_
  refine lv_iconst (v := nI 2) hx hb d_law_402 (by decide) ?_
  refine lv_iadd hx hb d_law_403 ?_
  refine t_eq (y := nI 2) (by decide) ?_
  refine va_sld hx hb hX hbl hbA Y.2.2 (vp_in_nI (show 2 < 8 by decide) (by decide)) d_law_404 ?_
  refine lv_aload_n hx hb d_law_405 rfl (lv_at hl 3 rfl) ?_
  refine lv_iload_n hx hb d_law_406 rfl (lv_at hl 0 rfl) ?_
  refine lv_iconst (v := nI 3) hx hb d_law_407 (by decide) ?_
  refine lv_iadd hx hb d_law_408 ?_
  refine t_eq (y := nI 3) (by decide) ?_
  refine va_sld hx hb hX hbl hbA Y.2.2 (vp_in_nI (show 3 < 8 by decide) (by decide)) d_law_409 ?_
  refine l_x (x_runV (As := [.int (xs (nI 1).toNatClampNeg), .int (xs (nI 2).toNatClampNeg), .int (xs (nI 3).toNatClampNeg)]) (rest := []) (n := 3) X Y hml hl.1 hM (ok_k X Y hA KS KR) m_xo e_xo rfl kl_L_H_policy ks_H_policy kx_H_policy ki_H_policy ini_H ⟨rfl, rfl⟩ hd_H_policy ⟨by decide, by decide⟩ rfl (Nat.le_of_ble_eq_true rfl) d_law_410 ⟨by decide, by decide⟩) Y hA (fun r1 u1 H1 locs1 hp1 hz1 hk1 hS1 => ?_)
  have hr1 := hpo r1 u1 hp1
  have PM1 := l_keep PM AP hk1
  refine lv_aload_n hx hb d_law_413 rfl (lv_at hl 1 rfl) ?_
  refine lv_aload_n hx hb d_law_414 rfl (lv_at hl 3 rfl) ?_
  refine lv_iload_n hx hb d_law_415 rfl (lv_at hl 0 rfl) ?_
  refine lv_iconst (v := nI 1) hx hb d_law_416 (by decide) ?_
  refine lv_iadd hx hb d_law_417 ?_
  refine t_eq (y := nI 1) (by decide) ?_
  refine va_sld hx hb hX hbl hbA hS1 (vp_in_nI (show 1 < 8 by decide) (by decide)) d_law_418 ?_
  refine lv_aload_n hx hb d_law_419 rfl (lv_at hl 3 rfl) ?_
  refine lv_iload_n hx hb d_law_420 rfl (lv_at hl 0 rfl) ?_
  refine lv_iconst (v := nI 2) hx hb d_law_421 (by decide) ?_
  refine lv_iadd hx hb d_law_422 ?_
  refine t_eq (y := nI 2) (by decide) ?_
  refine va_sld hx hb hX hbl hbA hS1 (vp_in_nI (show 2 < 8 by decide) (by decide)) d_law_423 ?_
  refine lv_aload_n hx hb d_law_424 rfl (lv_at hl 3 rfl) ?_
  refine lv_iload_n hx hb d_law_425 rfl (lv_at hl 0 rfl) ?_
  refine lv_iconst (v := nI 3) hx hb d_law_426 (by decide) ?_
  refine lv_iadd hx hb d_law_427 ?_
  refine t_eq (y := nI 3) (by decide) ?_
  refine va_sld hx hb hX hbl hbA hS1 (vp_in_nI (show 3 < 8 by decide) (by decide)) d_law_428 ?_
  refine l_m (As := [.int (xs (nI 1).toNatClampNeg), .int (xs (nI 2).toNatClampNeg), .int (xs (nI 3).toNatClampNeg)]) (rest := [.int r1]) (n := 3) hx hb X.2.2.1 hown K2 Z2 R2 PM1 DM hS1 hA hml hl.1 (c_policy_new l D2 E2 h q H1.size I J B G (xs (nI 1).toNatClampNeg) (xs (nI 2).toNatClampNeg) (xs (nI 3).toNatClampNeg) hm_P) kl_L_M_policy ks_policy kx_policy ki_policy hd_policy ⟨by decide, by decide⟩ rfl (Nat.le_of_ble_eq_true rfl) d_law_429 ⟨by decide, by decide⟩ (fun r2 u2 H2 locs2 hp2 hS2 => ?_)
  refine lv_icmp_eq (tgt := 1068) hx hb d_law_432 (by decide) (fun c1 => ?_) (fun c1 => absurd (hr1.trans (hp2.2.2.2.2).symm) c1)
  exact law_end C0 hS2 hl (by decide) (by decide)
set_option maxHeartbeats 4000000 in
set_option maxRecDepth 100000 in
theorem law_9 {p : Program} {l : Launch} {e : Env} {s : State} {m : MethodId} {below : List Frame} {meth : Method} {c : Code} {b h xo : Nat} {xs : Nat → Int32} {D : va_G} {E : cE} {T : cT} {L : List Nat} {f : pF} {D2 : mD} {E2 : mE} {q : Nat → Nat} {I : Nat → Int32} {J : Nat → Int64} {B : Nat → Nat → Int32} {G : Nat → Nat → Int64} {H : Heap} {locs : List Loc} {ls : Array Slot} (C0 : lw_At p s m meth c b 8 xs) (X : cX R_law p c code #[Value.ref b] s m D E) (KS : kS T (lA s) s s.heap) (KR : kR T s) (K2 : va_K D2.1 mCl (mTy E2) s) (Z2 : zS D2.2.1 D2.2.2.1 D2.2.2.2 (lA s) s s.heap) (R2 : zR D2.2.1 s) (Y : pH D cCl (lA s) s.heap L f H locs) (m_xo : xo ∈ L) {fsx : List Value} (e_xo : f xo = .inr (0, fsx)) (PM : va_P D2.1 mCl (mW E2 h q I J B G) H) (DM : va_D (lA s) (mW E2 h q I J B G)) (AP : ∀ (k : Nat) (x : Nat × va_E), (mW E2 h q I J B G)[k]? = some x → x.1 ∉ L) (MF : I 2 = nI 0 ∧ I 3 = nI 0 ∧ I 43 = nI 1 ∧ I 4 = nI 1000000000 ∧ (∀ j, B 91 j = nI 0) ∧ (∀ j, B 133 j = nI 0) ∧ B 46 0 = nI 1 ∧ B 45 0 = nI 12 ∧ by8 (B 12) ∧ by8 (B 13) ∧ by8 (B 16) ∧ by8 (B 17)) (hl : lv_has ls 4 [(3, .int (nI 0)), (2, .ref h), (1, .ref xo), (0, .ref b)]) {post : Int32 → cU → Prop} (hM : Met l y_H_room (k_H_room :: lw_tg) (kRm 0 0 0 (0)) (va_Pc [.ref xo, .int (xs (nI 1).toNatClampNeg)] (kPre D E T L f H.size)) (va_Qi post (cPost D E (pA L H.size)) (pA L H.size)) 0 (0) (pA L H.size)) (hpo : ∀ r u, post r u → r = (if (xs (nI 1).toNatClampNeg) < nI 1 ∨ ¬ (xs (nI 1).toNatClampNeg) ≤ nI 32 then nI 0 else nI 1)) : W p l e room_1 s m #[Value.ref b] below meth c H locs 1000 400000 (lw_Z below #[Value.ref b] s) (F0 m 437 ls []) := by
  obtain ⟨hx, hb, hr, hml, hown, hts, hX, hbl, hlocks, hgv⟩ := id C0
  have hbA : ¬ lA s b := Nat.not_le.mpr hbl
  have hA : ∀ a, s.heap.size ≤ a → lA s a := fun _ h9 => h9
  obtain ⟨hm_L, hm_O, hm_P, hm_W, hm_A, hm_S, hm_V, hm_N, hm_12, hm_13, hm_16, hm_17⟩ := MF
  refine lv_aload_n hx hb d_law_437 rfl (lv_at hl 2 rfl) ?_
  refine lv_aload_n hx hb d_law_438 rfl (lv_at hl 3 rfl) ?_
  refine lv_iload_n hx hb d_law_439 rfl (lv_at hl 0 rfl) ?_
  refine lv_iconst (v := nI 1) hx hb d_law_440 (by decide) ?_
  refine lv_iadd hx hb d_law_441 ?_
  refine t_eq (y := nI 1) (by decide) ?_
  refine va_sld hx hb hX hbl hbA Y.2.2 (vp_in_nI (show 1 < 8 by decide) (by decide)) d_law_442 ?_
  refine l_x (x_runV (As := [.int (xs (nI 1).toNatClampNeg)]) (rest := []) (n := 1) X Y hml hl.1 hM (ok_k X Y hA KS KR) m_xo e_xo rfl kl_L_H_room ks_H_room kx_H_room ki_H_room ini_H ⟨rfl, rfl⟩ hd_H_room ⟨by decide, by decide⟩ rfl (Nat.le_of_ble_eq_true rfl) d_law_443 ⟨by decide, by decide⟩) Y hA (fun r1 u1 H1 locs1 hp1 hz1 hk1 hS1 => ?_)
  have hr1 := hpo r1 u1 hp1
  have PM1 := l_keep PM AP hk1
  refine lv_aload_n hx hb d_law_446 rfl (lv_at hl 1 rfl) ?_
  refine lv_aload_n hx hb d_law_447 rfl (lv_at hl 3 rfl) ?_
  refine lv_iload_n hx hb d_law_448 rfl (lv_at hl 0 rfl) ?_
  refine lv_iconst (v := nI 1) hx hb d_law_449 (by decide) ?_
  refine lv_iadd hx hb d_law_450 ?_
  refine t_eq (y := nI 1) (by decide) ?_
  refine va_sld hx hb hX hbl hbA hS1 (vp_in_nI (show 1 < 8 by decide) (by decide)) d_law_451 ?_
  refine l_m (As := [.int (xs (nI 1).toNatClampNeg)]) (rest := [.int r1]) (n := 1) hx hb X.2.2.1 hown K2 Z2 R2 PM1 DM hS1 hA hml hl.1 (c_room l D2 E2 h q H1.size I J B G (xs (nI 1).toNatClampNeg) ) kl_L_M_room ks_room kx_room ki_room hd_room ⟨by decide, by decide⟩ rfl (Nat.le_of_ble_eq_true rfl) d_law_452 ⟨by decide, by decide⟩ (fun r2 u2 H2 locs2 hp2 hS2 => ?_)
  refine lv_icmp_eq (tgt := 1068) hx hb d_law_455 (by decide) (fun c1 => ?_) (fun c1 => absurd (hr1.trans (hp2.2.2.2.2.1).symm) c1)
  exact law_end C0 hS2 hl (by decide) (by decide)
set_option maxHeartbeats 4000000 in
set_option maxRecDepth 100000 in
theorem law_10 {p : Program} {l : Launch} {e : Env} {s : State} {m : MethodId} {below : List Frame} {meth : Method} {c : Code} {b h xo : Nat} {xs : Nat → Int32} {D : va_G} {E : cE} {T : cT} {L : List Nat} {f : pF} {D2 : mD} {E2 : mE} {q : Nat → Nat} {I : Nat → Int32} {J : Nat → Int64} {B : Nat → Nat → Int32} {G : Nat → Nat → Int64} {H : Heap} {locs : List Loc} {ls : Array Slot} (C0 : lw_At p s m meth c b 8 xs) (X : cX R_law p c code #[Value.ref b] s m D E) (KS : kS T (lA s) s s.heap) (KR : kR T s) (K2 : va_K D2.1 mCl (mTy E2) s) (Z2 : zS D2.2.1 D2.2.2.1 D2.2.2.2 (lA s) s s.heap) (R2 : zR D2.2.1 s) (Y : pH D cCl (lA s) s.heap L f H locs) (m_xo : xo ∈ L) {fsx : List Value} (e_xo : f xo = .inr (0, fsx)) (PM : va_P D2.1 mCl (mW E2 h q I J B G) H) (DM : va_D (lA s) (mW E2 h q I J B G)) (AP : ∀ (k : Nat) (x : Nat × va_E), (mW E2 h q I J B G)[k]? = some x → x.1 ∉ L) (MF : I 2 = nI 0 ∧ I 3 = nI 0 ∧ I 43 = nI 1 ∧ I 4 = nI 1000000000 ∧ (∀ j, B 91 j = nI 0) ∧ (∀ j, B 133 j = nI 0) ∧ B 46 0 = nI 1 ∧ B 45 0 = nI 12 ∧ by8 (B 12) ∧ by8 (B 13) ∧ by8 (B 16) ∧ by8 (B 17)) (hl : lv_has ls 4 [(3, .int (nI 0)), (2, .ref h), (1, .ref xo), (0, .ref b)]) {post : Int32 → cU → Prop} (hM : Met l y_H_kdc (k_H_kdc :: lw_tg) (kRm 8 182 0 (0)) (va_Pc [.ref xo] (kPre D E T L f H.size)) (va_Qi post (cPost D E (pA L H.size)) (pA L H.size)) 0 (0) (pA L H.size)) (hpo : ∀ r u, post r u → r = nI 60) : W p l e room_1 s m #[Value.ref b] below meth c H locs 1000 400000 (lw_Z below #[Value.ref b] s) (F0 m 460 ls []) := by
  obtain ⟨hx, hb, hr, hml, hown, hts, hX, hbl, hlocks, hgv⟩ := id C0
  have hbA : ¬ lA s b := Nat.not_le.mpr hbl
  have hA : ∀ a, s.heap.size ≤ a → lA s a := fun _ h9 => h9
  obtain ⟨hm_L, hm_O, hm_P, hm_W, hm_A, hm_S, hm_V, hm_N, hm_12, hm_13, hm_16, hm_17⟩ := MF
  refine lv_aload_n hx hb d_law_460 rfl (lv_at hl 2 rfl) ?_
  refine l_x (x_runV (As := []) (rest := []) (n := 0) X Y hml hl.1 hM (ok_k X Y hA KS KR) m_xo e_xo rfl kl_L_H_kdc ks_H_kdc kx_H_kdc ki_H_kdc ini_H ⟨rfl, rfl⟩ hd_H_kdc ⟨by decide, by decide⟩ rfl (Nat.le_of_ble_eq_true rfl) d_law_461 ⟨by decide, by decide⟩) Y hA (fun r1 u1 H1 locs1 hp1 hz1 hk1 hS1 => ?_)
  have hr1 := hpo r1 u1 hp1
  have PM1 := l_keep PM AP hk1
  refine lv_aload_n hx hb d_law_464 rfl (lv_at hl 1 rfl) ?_
  refine l_m (As := []) (rest := [.int r1]) (n := 0) hx hb X.2.2.1 hown K2 Z2 R2 PM1 DM hS1 hA hml hl.1 (c_kdc_new l D2 E2 h q H1.size I J B G  hm_L hm_N hm_W) kl_L_M_kdc ks_kdc kx_kdc ki_kdc hd_kdc ⟨by decide, by decide⟩ rfl (Nat.le_of_ble_eq_true rfl) d_law_465 ⟨by decide, by decide⟩ (fun r2 u2 H2 locs2 hp2 hS2 => ?_)
  refine lv_icmp_eq (tgt := 1068) hx hb d_law_468 (by decide) (fun c1 => ?_) (fun c1 => absurd (hr1.trans (hp2.2.2.2.2).symm) c1)
  exact law_end C0 hS2 hl (by decide) (by decide)
set_option maxHeartbeats 4000000 in
set_option maxRecDepth 100000 in
theorem law_11 {p : Program} {l : Launch} {e : Env} {s : State} {m : MethodId} {below : List Frame} {meth : Method} {c : Code} {b h xo : Nat} {xs : Nat → Int32} {D : va_G} {E : cE} {T : cT} {L : List Nat} {f : pF} {D2 : mD} {E2 : mE} {q : Nat → Nat} {I : Nat → Int32} {J : Nat → Int64} {B : Nat → Nat → Int32} {G : Nat → Nat → Int64} {H : Heap} {locs : List Loc} {ls : Array Slot} (C0 : lw_At p s m meth c b 8 xs) (X : cX R_law p c code #[Value.ref b] s m D E) (KS : kS T (lA s) s s.heap) (KR : kR T s) (K2 : va_K D2.1 mCl (mTy E2) s) (Z2 : zS D2.2.1 D2.2.2.1 D2.2.2.2 (lA s) s s.heap) (R2 : zR D2.2.1 s) (Y : pH D cCl (lA s) s.heap L f H locs) (m_xo : xo ∈ L) {fsx : List Value} (e_xo : f xo = .inr (0, fsx)) (PM : va_P D2.1 mCl (mW E2 h q I J B G) H) (DM : va_D (lA s) (mW E2 h q I J B G)) (AP : ∀ (k : Nat) (x : Nat × va_E), (mW E2 h q I J B G)[k]? = some x → x.1 ∉ L) (MF : I 2 = nI 0 ∧ I 3 = nI 0 ∧ I 43 = nI 1 ∧ I 4 = nI 1000000000 ∧ (∀ j, B 91 j = nI 0) ∧ (∀ j, B 133 j = nI 0) ∧ B 46 0 = nI 1 ∧ B 45 0 = nI 12 ∧ by8 (B 12) ∧ by8 (B 13) ∧ by8 (B 16) ∧ by8 (B 17)) (hl : lv_has ls 4 [(3, .int (nI 0)), (2, .ref h), (1, .ref xo), (0, .ref b)]) {post : Int32 → cU → Prop} (hM : Met l y_H_agent (k_H_agent :: lw_tg) (kRm 1 22 0 (0)) (va_Pc [.ref xo, .int (xs (nI 1).toNatClampNeg), .int (xs (nI 2).toNatClampNeg)] (kPre D E T L f H.size)) (va_Qi post (cPost D E (pA L H.size)) (pA L H.size)) 0 (0) (pA L H.size)) (hpo : ∀ r u, post r u → r = nI 0) : W p l e room_1 s m #[Value.ref b] below meth c H locs 1000 400000 (lw_Z below #[Value.ref b] s) (F0 m 473 ls []) := by
  obtain ⟨hx, hb, hr, hml, hown, hts, hX, hbl, hlocks, hgv⟩ := id C0
  have hbA : ¬ lA s b := Nat.not_le.mpr hbl
  have hA : ∀ a, s.heap.size ≤ a → lA s a := fun _ h9 => h9
  obtain ⟨hm_L, hm_O, hm_P, hm_W, hm_A, hm_S, hm_V, hm_N, hm_12, hm_13, hm_16, hm_17⟩ := MF
  refine lv_aload_n hx hb d_law_473 rfl (lv_at hl 2 rfl) ?_
  refine lv_aload_n hx hb d_law_474 rfl (lv_at hl 3 rfl) ?_
  refine lv_iload_n hx hb d_law_475 rfl (lv_at hl 0 rfl) ?_
  refine lv_iconst (v := nI 1) hx hb d_law_476 (by decide) ?_
  refine lv_iadd hx hb d_law_477 ?_
  refine t_eq (y := nI 1) (by decide) ?_
  refine va_sld hx hb hX hbl hbA Y.2.2 (vp_in_nI (show 1 < 8 by decide) (by decide)) d_law_478 ?_
  refine lv_aload_n hx hb d_law_479 rfl (lv_at hl 3 rfl) ?_
  refine lv_iload_n hx hb d_law_480 rfl (lv_at hl 0 rfl) ?_
  refine lv_iconst (v := nI 2) hx hb d_law_481 (by decide) ?_
  refine lv_iadd hx hb d_law_482 ?_
  refine t_eq (y := nI 2) (by decide) ?_
  refine va_sld hx hb hX hbl hbA Y.2.2 (vp_in_nI (show 2 < 8 by decide) (by decide)) d_law_483 ?_
  refine l_x (x_runV (As := [.int (xs (nI 1).toNatClampNeg), .int (xs (nI 2).toNatClampNeg)]) (rest := []) (n := 2) X Y hml hl.1 hM (ok_k X Y hA KS KR) m_xo e_xo rfl kl_L_H_agent ks_H_agent kx_H_agent ki_H_agent ini_H ⟨rfl, rfl⟩ hd_H_agent ⟨by decide, by decide⟩ rfl (Nat.le_of_ble_eq_true rfl) d_law_484 ⟨by decide, by decide⟩) Y hA (fun r1 u1 H1 locs1 hp1 hz1 hk1 hS1 => ?_)
  have hr1 := hpo r1 u1 hp1
  have PM1 := l_keep PM AP hk1
  refine lv_aload_n hx hb d_law_487 rfl (lv_at hl 1 rfl) ?_
  refine lv_aload_n hx hb d_law_488 rfl (lv_at hl 3 rfl) ?_
  refine lv_iload_n hx hb d_law_489 rfl (lv_at hl 0 rfl) ?_
  refine lv_iconst (v := nI 1) hx hb d_law_490 (by decide) ?_
  refine lv_iadd hx hb d_law_491 ?_
  refine t_eq (y := nI 1) (by decide) ?_
  refine va_sld hx hb hX hbl hbA hS1 (vp_in_nI (show 1 < 8 by decide) (by decide)) d_law_492 ?_
  refine lv_aload_n hx hb d_law_493 rfl (lv_at hl 3 rfl) ?_
  refine lv_iload_n hx hb d_law_494 rfl (lv_at hl 0 rfl) ?_
  refine lv_iconst (v := nI 2) hx hb d_law_495 (by decide) ?_
  refine lv_iadd hx hb d_law_496 ?_
  refine t_eq (y := nI 2) (by decide) ?_
  refine va_sld hx hb hX hbl hbA hS1 (vp_in_nI (show 2 < 8 by decide) (by decide)) d_law_497 ?_
  refine l_m (As := [.int (xs (nI 1).toNatClampNeg), .int (xs (nI 2).toNatClampNeg)]) (rest := [.int r1]) (n := 2) hx hb X.2.2.1 hown K2 Z2 R2 PM1 DM hS1 hA hml hl.1 (c_agent_new l D2 E2 h q H1.size I J B G (xs (nI 1).toNatClampNeg) (xs (nI 2).toNatClampNeg) hm_L) kl_L_M_agent ks_agent kx_agent ki_agent hd_agent ⟨by decide, by decide⟩ rfl (Nat.le_of_ble_eq_true rfl) d_law_498 ⟨by decide, by decide⟩ (fun r2 u2 H2 locs2 hp2 hS2 => ?_)
  refine lv_icmp_eq (tgt := 1068) hx hb d_law_501 (by decide) (fun c1 => ?_) (fun c1 => absurd (hr1.trans (hp2.2.2.2.2).symm) c1)
  exact law_end C0 hS2 hl (by decide) (by decide)
set_option maxHeartbeats 4000000 in
set_option maxRecDepth 100000 in
theorem law_12 {p : Program} {l : Launch} {e : Env} {s : State} {m : MethodId} {below : List Frame} {meth : Method} {c : Code} {b h xo : Nat} {xs : Nat → Int32} {D : va_G} {E : cE} {T : cT} {L : List Nat} {f : pF} {D2 : mD} {E2 : mE} {q : Nat → Nat} {I : Nat → Int32} {J : Nat → Int64} {B : Nat → Nat → Int32} {G : Nat → Nat → Int64} {H : Heap} {locs : List Loc} {ls : Array Slot} (C0 : lw_At p s m meth c b 8 xs) (X : cX R_law p c code #[Value.ref b] s m D E) (KS : kS T (lA s) s s.heap) (KR : kR T s) (K2 : va_K D2.1 mCl (mTy E2) s) (Z2 : zS D2.2.1 D2.2.2.1 D2.2.2.2 (lA s) s s.heap) (R2 : zR D2.2.1 s) (Y : pH D cCl (lA s) s.heap L f H locs) (m_xo : xo ∈ L) {fsx : List Value} (e_xo : f xo = .inr (0, fsx)) (PM : va_P D2.1 mCl (mW E2 h q I J B G) H) (DM : va_D (lA s) (mW E2 h q I J B G)) (AP : ∀ (k : Nat) (x : Nat × va_E), (mW E2 h q I J B G)[k]? = some x → x.1 ∉ L) (MF : I 2 = nI 0 ∧ I 3 = nI 0 ∧ I 43 = nI 1 ∧ I 4 = nI 1000000000 ∧ (∀ j, B 91 j = nI 0) ∧ (∀ j, B 133 j = nI 0) ∧ B 46 0 = nI 1 ∧ B 45 0 = nI 12 ∧ by8 (B 12) ∧ by8 (B 13) ∧ by8 (B 16) ∧ by8 (B 17)) (hl : lv_has ls 4 [(3, .int (nI 0)), (2, .ref h), (1, .ref xo), (0, .ref b)]) {post : Int32 → cU → Prop} (hM : Met l y_H_shift (k_H_shift :: lw_tg) (kRm 1 21 0 (0)) (va_Pc [.ref xo, .int (xs (nI 1).toNatClampNeg), .int (xs (nI 2).toNatClampNeg)] (kPre D E T L f H.size)) (va_Qi post (cPost D E (pA L H.size)) (pA L H.size)) 0 (0) (pA L H.size)) (hpo : ∀ r u, post r u → r = nI 0) : W p l e room_1 s m #[Value.ref b] below meth c H locs 1000 400000 (lw_Z below #[Value.ref b] s) (F0 m 506 ls []) := by
  obtain ⟨hx, hb, hr, hml, hown, hts, hX, hbl, hlocks, hgv⟩ := id C0
  have hbA : ¬ lA s b := Nat.not_le.mpr hbl
  have hA : ∀ a, s.heap.size ≤ a → lA s a := fun _ h9 => h9
  obtain ⟨hm_L, hm_O, hm_P, hm_W, hm_A, hm_S, hm_V, hm_N, hm_12, hm_13, hm_16, hm_17⟩ := MF
  refine lv_aload_n hx hb d_law_506 rfl (lv_at hl 2 rfl) ?_
  refine lv_aload_n hx hb d_law_507 rfl (lv_at hl 3 rfl) ?_
  refine lv_iload_n hx hb d_law_508 rfl (lv_at hl 0 rfl) ?_
  refine lv_iconst (v := nI 1) hx hb d_law_509 (by decide) ?_
  refine lv_iadd hx hb d_law_510 ?_
  refine t_eq (y := nI 1) (by decide) ?_
  refine va_sld hx hb hX hbl hbA Y.2.2 (vp_in_nI (show 1 < 8 by decide) (by decide)) d_law_511 ?_
  refine lv_aload_n hx hb d_law_512 rfl (lv_at hl 3 rfl) ?_
  refine lv_iload_n hx hb d_law_513 rfl (lv_at hl 0 rfl) ?_
  refine lv_iconst (v := nI 2) hx hb d_law_514 (by decide) ?_
  refine lv_iadd hx hb d_law_515 ?_
  refine t_eq (y := nI 2) (by decide) ?_
  refine va_sld hx hb hX hbl hbA Y.2.2 (vp_in_nI (show 2 < 8 by decide) (by decide)) d_law_516 ?_
  refine l_x (x_runV (As := [.int (xs (nI 1).toNatClampNeg), .int (xs (nI 2).toNatClampNeg)]) (rest := []) (n := 2) X Y hml hl.1 hM (ok_k X Y hA KS KR) m_xo e_xo rfl kl_L_H_shift ks_H_shift kx_H_shift ki_H_shift ini_H ⟨rfl, rfl⟩ hd_H_shift ⟨by decide, by decide⟩ rfl (Nat.le_of_ble_eq_true rfl) d_law_517 ⟨by decide, by decide⟩) Y hA (fun r1 u1 H1 locs1 hp1 hz1 hk1 hS1 => ?_)
  have hr1 := hpo r1 u1 hp1
  have PM1 := l_keep PM AP hk1
  refine lv_aload_n hx hb d_law_520 rfl (lv_at hl 1 rfl) ?_
  refine lv_aload_n hx hb d_law_521 rfl (lv_at hl 3 rfl) ?_
  refine lv_iload_n hx hb d_law_522 rfl (lv_at hl 0 rfl) ?_
  refine lv_iconst (v := nI 1) hx hb d_law_523 (by decide) ?_
  refine lv_iadd hx hb d_law_524 ?_
  refine t_eq (y := nI 1) (by decide) ?_
  refine va_sld hx hb hX hbl hbA hS1 (vp_in_nI (show 1 < 8 by decide) (by decide)) d_law_525 ?_
  refine lv_aload_n hx hb d_law_526 rfl (lv_at hl 3 rfl) ?_
  refine lv_iload_n hx hb d_law_527 rfl (lv_at hl 0 rfl) ?_
  refine lv_iconst (v := nI 2) hx hb d_law_528 (by decide) ?_
  refine lv_iadd hx hb d_law_529 ?_
  refine t_eq (y := nI 2) (by decide) ?_
  refine va_sld hx hb hX hbl hbA hS1 (vp_in_nI (show 2 < 8 by decide) (by decide)) d_law_530 ?_
  refine l_m (As := [.int (xs (nI 1).toNatClampNeg), .int (xs (nI 2).toNatClampNeg)]) (rest := [.int r1]) (n := 2) hx hb X.2.2.1 hown K2 Z2 R2 PM1 DM hS1 hA hml hl.1 (c_shift_new l D2 E2 h q H1.size I J B G (xs (nI 1).toNatClampNeg) (xs (nI 2).toNatClampNeg) hm_A) kl_L_M_shift ks_shift kx_shift ki_shift hd_shift ⟨by decide, by decide⟩ rfl (Nat.le_of_ble_eq_true rfl) d_law_531 ⟨by decide, by decide⟩ (fun r2 u2 H2 locs2 hp2 hS2 => ?_)
  refine lv_icmp_eq (tgt := 1068) hx hb d_law_534 (by decide) (fun c1 => ?_) (fun c1 => absurd (hr1.trans (hp2.2.2.2.2).symm) c1)
  exact law_end C0 hS2 hl (by decide) (by decide)
set_option maxHeartbeats 4000000 in
set_option maxRecDepth 100000 in
theorem law_13 {p : Program} {l : Launch} {e : Env} {s : State} {m : MethodId} {below : List Frame} {meth : Method} {c : Code} {b h xo : Nat} {xs : Nat → Int32} {D : va_G} {E : cE} {T : cT} {L : List Nat} {f : pF} {D2 : mD} {E2 : mE} {q : Nat → Nat} {I : Nat → Int32} {J : Nat → Int64} {B : Nat → Nat → Int32} {G : Nat → Nat → Int64} {H : Heap} {locs : List Loc} {ls : Array Slot} (C0 : lw_At p s m meth c b 8 xs) (X : cX R_law p c code #[Value.ref b] s m D E) (KS : kS T (lA s) s s.heap) (KR : kR T s) (K2 : va_K D2.1 mCl (mTy E2) s) (Z2 : zS D2.2.1 D2.2.2.1 D2.2.2.2 (lA s) s s.heap) (R2 : zR D2.2.1 s) (Y : pH D cCl (lA s) s.heap L f H locs) (m_xo : xo ∈ L) {fsx : List Value} (e_xo : f xo = .inr (0, fsx)) (PM : va_P D2.1 mCl (mW E2 h q I J B G) H) (DM : va_D (lA s) (mW E2 h q I J B G)) (AP : ∀ (k : Nat) (x : Nat × va_E), (mW E2 h q I J B G)[k]? = some x → x.1 ∉ L) (MF : I 2 = nI 0 ∧ I 3 = nI 0 ∧ I 43 = nI 1 ∧ I 4 = nI 1000000000 ∧ (∀ j, B 91 j = nI 0) ∧ (∀ j, B 133 j = nI 0) ∧ B 46 0 = nI 1 ∧ B 45 0 = nI 12 ∧ by8 (B 12) ∧ by8 (B 13) ∧ by8 (B 16) ∧ by8 (B 17)) (hl : lv_has ls 4 [(3, .int (nI 0)), (2, .ref h), (1, .ref xo), (0, .ref b)]) {post : Int32 → cU → Prop} (hM : Met l y_H_request (k_H_request :: lw_tg) (kRm 1 21 0 (0)) (va_Pc [.ref xo, .int (xs (nI 1).toNatClampNeg), .int (xs (nI 2).toNatClampNeg), .int (xs (nI 3).toNatClampNeg), .int (xs (nI 4).toNatClampNeg), .int (xs (nI 5).toNatClampNeg), .int (xs (nI 6).toNatClampNeg), .int (xs (nI 7).toNatClampNeg)] (kPre D E T L f H.size)) (va_Qi post (cPost D E (pA L H.size)) (pA L H.size)) 0 (0) (pA L H.size)) (hpo : ∀ r u, post r u → r = (-1)) : W p l e room_1 s m #[Value.ref b] below meth c H locs 1000 400000 (lw_Z below #[Value.ref b] s) (F0 m 539 ls []) := by
  obtain ⟨hx, hb, hr, hml, hown, hts, hX, hbl, hlocks, hgv⟩ := id C0
  have hbA : ¬ lA s b := Nat.not_le.mpr hbl
  have hA : ∀ a, s.heap.size ≤ a → lA s a := fun _ h9 => h9
  obtain ⟨hm_L, hm_O, hm_P, hm_W, hm_A, hm_S, hm_V, hm_N, hm_12, hm_13, hm_16, hm_17⟩ := MF
  refine lv_aload_n hx hb d_law_539 rfl (lv_at hl 2 rfl) ?_
  refine lv_aload_n hx hb d_law_540 rfl (lv_at hl 3 rfl) ?_
  refine lv_iload_n hx hb d_law_541 rfl (lv_at hl 0 rfl) ?_
  refine lv_iconst (v := nI 1) hx hb d_law_542 (by decide) ?_
  refine lv_iadd hx hb d_law_543 ?_
  refine t_eq (y := nI 1) (by decide) ?_
  refine va_sld hx hb hX hbl hbA Y.2.2 (vp_in_nI (show 1 < 8 by decide) (by decide)) d_law_544 ?_
  refine lv_aload_n hx hb d_law_545 rfl (lv_at hl 3 rfl) ?_
  refine lv_iload_n hx hb d_law_546 rfl (lv_at hl 0 rfl) ?_
  refine lv_iconst (v := nI 2) hx hb d_law_547 (by decide) ?_
  refine lv_iadd hx hb d_law_548 ?_
  refine t_eq (y := nI 2) (by decide) ?_
  refine va_sld hx hb hX hbl hbA Y.2.2 (vp_in_nI (show 2 < 8 by decide) (by decide)) d_law_549 ?_
  refine lv_aload_n hx hb d_law_550 rfl (lv_at hl 3 rfl) ?_
  refine lv_iload_n hx hb d_law_551 rfl (lv_at hl 0 rfl) ?_
  refine lv_iconst (v := nI 3) hx hb d_law_552 (by decide) ?_
  refine lv_iadd hx hb d_law_553 ?_
  refine t_eq (y := nI 3) (by decide) ?_
  refine va_sld hx hb hX hbl hbA Y.2.2 (vp_in_nI (show 3 < 8 by decide) (by decide)) d_law_554 ?_
  refine lv_aload_n hx hb d_law_555 rfl (lv_at hl 3 rfl) ?_
  refine lv_iload_n hx hb d_law_556 rfl (lv_at hl 0 rfl) ?_
  refine lv_iconst (v := nI 4) hx hb d_law_557 (by decide) ?_
  refine lv_iadd hx hb d_law_558 ?_
  refine t_eq (y := nI 4) (by decide) ?_
  refine va_sld hx hb hX hbl hbA Y.2.2 (vp_in_nI (show 4 < 8 by decide) (by decide)) d_law_559 ?_
  refine lv_aload_n hx hb d_law_560 rfl (lv_at hl 3 rfl) ?_
  refine lv_iload_n hx hb d_law_561 rfl (lv_at hl 0 rfl) ?_
  refine lv_iconst (v := nI 5) hx hb d_law_562 (by decide) ?_
  refine lv_iadd hx hb d_law_563 ?_
  refine t_eq (y := nI 5) (by decide) ?_
  refine va_sld hx hb hX hbl hbA Y.2.2 (vp_in_nI (show 5 < 8 by decide) (by decide)) d_law_564 ?_
  refine lv_aload_n hx hb d_law_565 rfl (lv_at hl 3 rfl) ?_
  refine lv_iload_n hx hb d_law_566 rfl (lv_at hl 0 rfl) ?_
  refine lv_bipush (v := nI 6) hx hb d_law_567 (by decide) ?_
  refine lv_iadd hx hb d_law_569 ?_
  refine t_eq (y := nI 6) (by decide) ?_
  refine va_sld hx hb hX hbl hbA Y.2.2 (vp_in_nI (show 6 < 8 by decide) (by decide)) d_law_570 ?_
  refine lv_aload_n hx hb d_law_571 rfl (lv_at hl 3 rfl) ?_
  refine lv_iload_n hx hb d_law_572 rfl (lv_at hl 0 rfl) ?_
  refine lv_bipush (v := nI 7) hx hb d_law_573 (by decide) ?_
  refine lv_iadd hx hb d_law_575 ?_
  refine t_eq (y := nI 7) (by decide) ?_
  refine va_sld hx hb hX hbl hbA Y.2.2 (vp_in_nI (show 7 < 8 by decide) (by decide)) d_law_576 ?_
  refine l_x (x_runV (As := [.int (xs (nI 1).toNatClampNeg), .int (xs (nI 2).toNatClampNeg), .int (xs (nI 3).toNatClampNeg), .int (xs (nI 4).toNatClampNeg), .int (xs (nI 5).toNatClampNeg), .int (xs (nI 6).toNatClampNeg), .int (xs (nI 7).toNatClampNeg)]) (rest := []) (n := 7) X Y hml hl.1 hM (ok_k X Y hA KS KR) m_xo e_xo rfl kl_L_H_request ks_H_request kx_H_request ki_H_request ini_H ⟨rfl, rfl⟩ hd_H_request ⟨by decide, by decide⟩ rfl (Nat.le_of_ble_eq_true rfl) d_law_577 ⟨by decide, by decide⟩) Y hA (fun r1 u1 H1 locs1 hp1 hz1 hk1 hS1 => ?_)
  have hr1 := hpo r1 u1 hp1
  have PM1 := l_keep PM AP hk1
  refine lv_aload_n hx hb d_law_580 rfl (lv_at hl 1 rfl) ?_
  refine lv_aload_n hx hb d_law_581 rfl (lv_at hl 3 rfl) ?_
  refine lv_iload_n hx hb d_law_582 rfl (lv_at hl 0 rfl) ?_
  refine lv_iconst (v := nI 1) hx hb d_law_583 (by decide) ?_
  refine lv_iadd hx hb d_law_584 ?_
  refine t_eq (y := nI 1) (by decide) ?_
  refine va_sld hx hb hX hbl hbA hS1 (vp_in_nI (show 1 < 8 by decide) (by decide)) d_law_585 ?_
  refine lv_aload_n hx hb d_law_586 rfl (lv_at hl 3 rfl) ?_
  refine lv_iload_n hx hb d_law_587 rfl (lv_at hl 0 rfl) ?_
  refine lv_iconst (v := nI 2) hx hb d_law_588 (by decide) ?_
  refine lv_iadd hx hb d_law_589 ?_
  refine t_eq (y := nI 2) (by decide) ?_
  refine va_sld hx hb hX hbl hbA hS1 (vp_in_nI (show 2 < 8 by decide) (by decide)) d_law_590 ?_
  refine lv_aload_n hx hb d_law_591 rfl (lv_at hl 3 rfl) ?_
  refine lv_iload_n hx hb d_law_592 rfl (lv_at hl 0 rfl) ?_
  refine lv_iconst (v := nI 3) hx hb d_law_593 (by decide) ?_
  refine lv_iadd hx hb d_law_594 ?_
  refine t_eq (y := nI 3) (by decide) ?_
  refine va_sld hx hb hX hbl hbA hS1 (vp_in_nI (show 3 < 8 by decide) (by decide)) d_law_595 ?_
  refine lv_aload_n hx hb d_law_596 rfl (lv_at hl 3 rfl) ?_
  refine lv_iload_n hx hb d_law_597 rfl (lv_at hl 0 rfl) ?_
  refine lv_iconst (v := nI 4) hx hb d_law_598 (by decide) ?_
  refine lv_iadd hx hb d_law_599 ?_
  refine t_eq (y := nI 4) (by decide) ?_
  refine va_sld hx hb hX hbl hbA hS1 (vp_in_nI (show 4 < 8 by decide) (by decide)) d_law_600 ?_
  refine lv_aload_n hx hb d_law_601 rfl (lv_at hl 3 rfl) ?_
  refine lv_iload_n hx hb d_law_602 rfl (lv_at hl 0 rfl) ?_
  refine lv_iconst (v := nI 5) hx hb d_law_603 (by decide) ?_
  refine lv_iadd hx hb d_law_604 ?_
  refine t_eq (y := nI 5) (by decide) ?_
  refine va_sld hx hb hX hbl hbA hS1 (vp_in_nI (show 5 < 8 by decide) (by decide)) d_law_605 ?_
  refine lv_aload_n hx hb d_law_606 rfl (lv_at hl 3 rfl) ?_
  refine lv_iload_n hx hb d_law_607 rfl (lv_at hl 0 rfl) ?_
  refine lv_bipush (v := nI 6) hx hb d_law_608 (by decide) ?_
  refine lv_iadd hx hb d_law_610 ?_
  refine t_eq (y := nI 6) (by decide) ?_
  refine va_sld hx hb hX hbl hbA hS1 (vp_in_nI (show 6 < 8 by decide) (by decide)) d_law_611 ?_
  refine lv_aload_n hx hb d_law_612 rfl (lv_at hl 3 rfl) ?_
  refine lv_iload_n hx hb d_law_613 rfl (lv_at hl 0 rfl) ?_
  refine lv_bipush (v := nI 7) hx hb d_law_614 (by decide) ?_
  refine lv_iadd hx hb d_law_616 ?_
  refine t_eq (y := nI 7) (by decide) ?_
  refine va_sld hx hb hX hbl hbA hS1 (vp_in_nI (show 7 < 8 by decide) (by decide)) d_law_617 ?_
  refine l_m (As := [.int (xs (nI 1).toNatClampNeg), .int (xs (nI 2).toNatClampNeg), .int (xs (nI 3).toNatClampNeg), .int (xs (nI 4).toNatClampNeg), .int (xs (nI 5).toNatClampNeg), .int (xs (nI 6).toNatClampNeg), .int (xs (nI 7).toNatClampNeg)]) (rest := [.int r1]) (n := 7) hx hb X.2.2.1 hown K2 Z2 R2 PM1 DM hS1 hA hml hl.1 (c_request_new l D2 E2 h q H1.size I J B G (xs (nI 1).toNatClampNeg) (xs (nI 2).toNatClampNeg) (xs (nI 3).toNatClampNeg) (xs (nI 4).toNatClampNeg) (xs (nI 5).toNatClampNeg) (xs (nI 6).toNatClampNeg) (xs (nI 7).toNatClampNeg) hm_L) kl_L_M_request ks_request kx_request ki_request hd_request ⟨by decide, by decide⟩ rfl (Nat.le_of_ble_eq_true rfl) d_law_618 ⟨by decide, by decide⟩ (fun r2 u2 H2 locs2 hp2 hS2 => ?_)
  refine lv_icmp_eq (tgt := 1068) hx hb d_law_621 (by decide) (fun c1 => ?_) (fun c1 => absurd (hr1.trans (hp2.2.2.2.2).symm) c1)
  exact law_end C0 hS2 hl (by decide) (by decide)
set_option maxHeartbeats 4000000 in
set_option maxRecDepth 100000 in
theorem law_14 {p : Program} {l : Launch} {e : Env} {s : State} {m : MethodId} {below : List Frame} {meth : Method} {c : Code} {b h xo : Nat} {xs : Nat → Int32} {D : va_G} {E : cE} {T : cT} {L : List Nat} {f : pF} {D2 : mD} {E2 : mE} {q : Nat → Nat} {I : Nat → Int32} {J : Nat → Int64} {B : Nat → Nat → Int32} {G : Nat → Nat → Int64} {H : Heap} {locs : List Loc} {ls : Array Slot} (C0 : lw_At p s m meth c b 8 xs) (X : cX R_law p c code #[Value.ref b] s m D E) (KS : kS T (lA s) s s.heap) (KR : kR T s) (K2 : va_K D2.1 mCl (mTy E2) s) (Z2 : zS D2.2.1 D2.2.2.1 D2.2.2.2 (lA s) s s.heap) (R2 : zR D2.2.1 s) (Y : pH D cCl (lA s) s.heap L f H locs) (m_xo : xo ∈ L) {fsx : List Value} (e_xo : f xo = .inr (0, fsx)) (PM : va_P D2.1 mCl (mW E2 h q I J B G) H) (DM : va_D (lA s) (mW E2 h q I J B G)) (AP : ∀ (k : Nat) (x : Nat × va_E), (mW E2 h q I J B G)[k]? = some x → x.1 ∉ L) (MF : I 2 = nI 0 ∧ I 3 = nI 0 ∧ I 43 = nI 1 ∧ I 4 = nI 1000000000 ∧ (∀ j, B 91 j = nI 0) ∧ (∀ j, B 133 j = nI 0) ∧ B 46 0 = nI 1 ∧ B 45 0 = nI 12 ∧ by8 (B 12) ∧ by8 (B 13) ∧ by8 (B 16) ∧ by8 (B 17)) (hl : lv_has ls 4 [(3, .int (nI 0)), (2, .ref h), (1, .ref xo), (0, .ref b)]) {post : Int32 → cU → Prop} (hM : Met l y_H_take (k_H_take :: lw_tg) (kRm 1 21 0 (0)) (va_Pc [.ref xo, .int (xs (nI 1).toNatClampNeg)] (kPre D E T L f H.size)) (va_Qi post (cPost D E (pA L H.size)) (pA L H.size)) 0 (0) (pA L H.size)) (hpo : ∀ r u, post r u → r = (-1)) : W p l e room_1 s m #[Value.ref b] below meth c H locs 1000 400000 (lw_Z below #[Value.ref b] s) (F0 m 626 ls []) := by
  obtain ⟨hx, hb, hr, hml, hown, hts, hX, hbl, hlocks, hgv⟩ := id C0
  have hbA : ¬ lA s b := Nat.not_le.mpr hbl
  have hA : ∀ a, s.heap.size ≤ a → lA s a := fun _ h9 => h9
  obtain ⟨hm_L, hm_O, hm_P, hm_W, hm_A, hm_S, hm_V, hm_N, hm_12, hm_13, hm_16, hm_17⟩ := MF
  refine lv_aload_n hx hb d_law_626 rfl (lv_at hl 2 rfl) ?_
  refine lv_aload_n hx hb d_law_627 rfl (lv_at hl 3 rfl) ?_
  refine lv_iload_n hx hb d_law_628 rfl (lv_at hl 0 rfl) ?_
  refine lv_iconst (v := nI 1) hx hb d_law_629 (by decide) ?_
  refine lv_iadd hx hb d_law_630 ?_
  refine t_eq (y := nI 1) (by decide) ?_
  refine va_sld hx hb hX hbl hbA Y.2.2 (vp_in_nI (show 1 < 8 by decide) (by decide)) d_law_631 ?_
  refine l_x (x_runV (As := [.int (xs (nI 1).toNatClampNeg)]) (rest := []) (n := 1) X Y hml hl.1 hM (ok_k X Y hA KS KR) m_xo e_xo rfl kl_L_H_take ks_H_take kx_H_take ki_H_take ini_H ⟨rfl, rfl⟩ hd_H_take ⟨by decide, by decide⟩ rfl (Nat.le_of_ble_eq_true rfl) d_law_632 ⟨by decide, by decide⟩) Y hA (fun r1 u1 H1 locs1 hp1 hz1 hk1 hS1 => ?_)
  have hr1 := hpo r1 u1 hp1
  have PM1 := l_keep PM AP hk1
  refine lv_aload_n hx hb d_law_635 rfl (lv_at hl 1 rfl) ?_
  refine lv_aload_n hx hb d_law_636 rfl (lv_at hl 3 rfl) ?_
  refine lv_iload_n hx hb d_law_637 rfl (lv_at hl 0 rfl) ?_
  refine lv_iconst (v := nI 1) hx hb d_law_638 (by decide) ?_
  refine lv_iadd hx hb d_law_639 ?_
  refine t_eq (y := nI 1) (by decide) ?_
  refine va_sld hx hb hX hbl hbA hS1 (vp_in_nI (show 1 < 8 by decide) (by decide)) d_law_640 ?_
  refine l_m (As := [.int (xs (nI 1).toNatClampNeg)]) (rest := [.int r1]) (n := 1) hx hb X.2.2.1 hown K2 Z2 R2 PM1 DM hS1 hA hml hl.1 (c_take_new l D2 E2 h q H1.size I J B G (xs (nI 1).toNatClampNeg) hm_L hm_A) kl_L_M_take ks_take kx_take ki_take hd_take ⟨by decide, by decide⟩ rfl (Nat.le_of_ble_eq_true rfl) d_law_641 ⟨by decide, by decide⟩ (fun r2 u2 H2 locs2 hp2 hS2 => ?_)
  refine lv_icmp_eq (tgt := 1068) hx hb d_law_644 (by decide) (fun c1 => ?_) (fun c1 => absurd (hr1.trans (hp2.2.2.2.2).symm) c1)
  exact law_end C0 hS2 hl (by decide) (by decide)
set_option maxHeartbeats 4000000 in
set_option maxRecDepth 100000 in
theorem law_15 {p : Program} {l : Launch} {e : Env} {s : State} {m : MethodId} {below : List Frame} {meth : Method} {c : Code} {b h xo : Nat} {xs : Nat → Int32} {D : va_G} {E : cE} {T : cT} {L : List Nat} {f : pF} {D2 : mD} {E2 : mE} {q : Nat → Nat} {I : Nat → Int32} {J : Nat → Int64} {B : Nat → Nat → Int32} {G : Nat → Nat → Int64} {H : Heap} {locs : List Loc} {ls : Array Slot} (C0 : lw_At p s m meth c b 8 xs) (X : cX R_law p c code #[Value.ref b] s m D E) (KS : kS T (lA s) s s.heap) (KR : kR T s) (K2 : va_K D2.1 mCl (mTy E2) s) (Z2 : zS D2.2.1 D2.2.2.1 D2.2.2.2 (lA s) s s.heap) (R2 : zR D2.2.1 s) (Y : pH D cCl (lA s) s.heap L f H locs) (m_xo : xo ∈ L) {fsx : List Value} (e_xo : f xo = .inr (0, fsx)) (PM : va_P D2.1 mCl (mW E2 h q I J B G) H) (DM : va_D (lA s) (mW E2 h q I J B G)) (AP : ∀ (k : Nat) (x : Nat × va_E), (mW E2 h q I J B G)[k]? = some x → x.1 ∉ L) (MF : I 2 = nI 0 ∧ I 3 = nI 0 ∧ I 43 = nI 1 ∧ I 4 = nI 1000000000 ∧ (∀ j, B 91 j = nI 0) ∧ (∀ j, B 133 j = nI 0) ∧ B 46 0 = nI 1 ∧ B 45 0 = nI 12 ∧ by8 (B 12) ∧ by8 (B 13) ∧ by8 (B 16) ∧ by8 (B 17)) (hl : lv_has ls 4 [(3, .int (nI 0)), (2, .ref h), (1, .ref xo), (0, .ref b)]) {post : Int32 → cU → Prop} (hM : Met l y_H_ticket (k_H_ticket :: lw_tg) (kRm 2 43 0 (0)) (va_Pc [.ref xo, .int (xs (nI 1).toNatClampNeg), .int (xs (nI 2).toNatClampNeg), .int (xs (nI 3).toNatClampNeg)] (kPre D E T L f H.size)) (va_Qi post (cPost D E (pA L H.size)) (pA L H.size)) 0 (0) (pA L H.size)) (hpo : ∀ r u, post r u → r = (-1)) : W p l e room_1 s m #[Value.ref b] below meth c H locs 1000 400000 (lw_Z below #[Value.ref b] s) (F0 m 649 ls []) := by
  obtain ⟨hx, hb, hr, hml, hown, hts, hX, hbl, hlocks, hgv⟩ := id C0
  have hbA : ¬ lA s b := Nat.not_le.mpr hbl
  have hA : ∀ a, s.heap.size ≤ a → lA s a := fun _ h9 => h9
  obtain ⟨hm_L, hm_O, hm_P, hm_W, hm_A, hm_S, hm_V, hm_N, hm_12, hm_13, hm_16, hm_17⟩ := MF
  refine lv_aload_n hx hb d_law_649 rfl (lv_at hl 2 rfl) ?_
  refine lv_aload_n hx hb d_law_650 rfl (lv_at hl 3 rfl) ?_
  refine lv_iload_n hx hb d_law_651 rfl (lv_at hl 0 rfl) ?_
  refine lv_iconst (v := nI 1) hx hb d_law_652 (by decide) ?_
  refine lv_iadd hx hb d_law_653 ?_
  refine t_eq (y := nI 1) (by decide) ?_
  refine va_sld hx hb hX hbl hbA Y.2.2 (vp_in_nI (show 1 < 8 by decide) (by decide)) d_law_654 ?_
  refine lv_aload_n hx hb d_law_655 rfl (lv_at hl 3 rfl) ?_
  refine lv_iload_n hx hb d_law_656 rfl (lv_at hl 0 rfl) ?_
  refine lv_iconst (v := nI 2) hx hb d_law_657 (by decide) ?_
  refine lv_iadd hx hb d_law_658 ?_
  refine t_eq (y := nI 2) (by decide) ?_
  refine va_sld hx hb hX hbl hbA Y.2.2 (vp_in_nI (show 2 < 8 by decide) (by decide)) d_law_659 ?_
  refine lv_aload_n hx hb d_law_660 rfl (lv_at hl 3 rfl) ?_
  refine lv_iload_n hx hb d_law_661 rfl (lv_at hl 0 rfl) ?_
  refine lv_iconst (v := nI 3) hx hb d_law_662 (by decide) ?_
  refine lv_iadd hx hb d_law_663 ?_
  refine t_eq (y := nI 3) (by decide) ?_
  refine va_sld hx hb hX hbl hbA Y.2.2 (vp_in_nI (show 3 < 8 by decide) (by decide)) d_law_664 ?_
  refine l_x (x_runV (As := [.int (xs (nI 1).toNatClampNeg), .int (xs (nI 2).toNatClampNeg), .int (xs (nI 3).toNatClampNeg)]) (rest := []) (n := 3) X Y hml hl.1 hM (ok_k X Y hA KS KR) m_xo e_xo rfl kl_L_H_ticket ks_H_ticket kx_H_ticket ki_H_ticket ini_H ⟨rfl, rfl⟩ hd_H_ticket ⟨by decide, by decide⟩ rfl (Nat.le_of_ble_eq_true rfl) d_law_665 ⟨by decide, by decide⟩) Y hA (fun r1 u1 H1 locs1 hp1 hz1 hk1 hS1 => ?_)
  have hr1 := hpo r1 u1 hp1
  have PM1 := l_keep PM AP hk1
  refine lv_aload_n hx hb d_law_668 rfl (lv_at hl 1 rfl) ?_
  refine lv_aload_n hx hb d_law_669 rfl (lv_at hl 3 rfl) ?_
  refine lv_iload_n hx hb d_law_670 rfl (lv_at hl 0 rfl) ?_
  refine lv_iconst (v := nI 1) hx hb d_law_671 (by decide) ?_
  refine lv_iadd hx hb d_law_672 ?_
  refine t_eq (y := nI 1) (by decide) ?_
  refine va_sld hx hb hX hbl hbA hS1 (vp_in_nI (show 1 < 8 by decide) (by decide)) d_law_673 ?_
  refine lv_aload_n hx hb d_law_674 rfl (lv_at hl 3 rfl) ?_
  refine lv_iload_n hx hb d_law_675 rfl (lv_at hl 0 rfl) ?_
  refine lv_iconst (v := nI 2) hx hb d_law_676 (by decide) ?_
  refine lv_iadd hx hb d_law_677 ?_
  refine t_eq (y := nI 2) (by decide) ?_
  refine va_sld hx hb hX hbl hbA hS1 (vp_in_nI (show 2 < 8 by decide) (by decide)) d_law_678 ?_
  refine lv_aload_n hx hb d_law_679 rfl (lv_at hl 3 rfl) ?_
  refine lv_iload_n hx hb d_law_680 rfl (lv_at hl 0 rfl) ?_
  refine lv_iconst (v := nI 3) hx hb d_law_681 (by decide) ?_
  refine lv_iadd hx hb d_law_682 ?_
  refine t_eq (y := nI 3) (by decide) ?_
  refine va_sld hx hb hX hbl hbA hS1 (vp_in_nI (show 3 < 8 by decide) (by decide)) d_law_683 ?_
  refine l_m (As := [.int (xs (nI 1).toNatClampNeg), .int (xs (nI 2).toNatClampNeg), .int (xs (nI 3).toNatClampNeg)]) (rest := [.int r1]) (n := 3) hx hb X.2.2.1 hown K2 Z2 R2 PM1 DM hS1 hA hml hl.1 (c_ticket_new l D2 E2 h q H1.size I J B G (xs (nI 1).toNatClampNeg) (xs (nI 2).toNatClampNeg) (xs (nI 3).toNatClampNeg) hm_A) kl_L_M_ticket ks_ticket kx_ticket ki_ticket hd_ticket ⟨by decide, by decide⟩ rfl (Nat.le_of_ble_eq_true rfl) d_law_684 ⟨by decide, by decide⟩ (fun r2 u2 H2 locs2 hp2 hS2 => ?_)
  refine lv_icmp_eq (tgt := 1068) hx hb d_law_687 (by decide) (fun c1 => ?_) (fun c1 => absurd (hr1.trans (hp2.2.2.2.2).symm) c1)
  exact law_end C0 hS2 hl (by decide) (by decide)
set_option maxHeartbeats 4000000 in
set_option maxRecDepth 100000 in
theorem law_16 {p : Program} {l : Launch} {e : Env} {s : State} {m : MethodId} {below : List Frame} {meth : Method} {c : Code} {b h xo : Nat} {xs : Nat → Int32} {D : va_G} {E : cE} {T : cT} {L : List Nat} {f : pF} {D2 : mD} {E2 : mE} {q : Nat → Nat} {I : Nat → Int32} {J : Nat → Int64} {B : Nat → Nat → Int32} {G : Nat → Nat → Int64} {H : Heap} {locs : List Loc} {ls : Array Slot} (C0 : lw_At p s m meth c b 8 xs) (X : cX R_law p c code #[Value.ref b] s m D E) (KS : kS T (lA s) s s.heap) (KR : kR T s) (K2 : va_K D2.1 mCl (mTy E2) s) (Z2 : zS D2.2.1 D2.2.2.1 D2.2.2.2 (lA s) s s.heap) (R2 : zR D2.2.1 s) (Y : pH D cCl (lA s) s.heap L f H locs) (m_xo : xo ∈ L) {fsx : List Value} (e_xo : f xo = .inr (0, fsx)) (PM : va_P D2.1 mCl (mW E2 h q I J B G) H) (DM : va_D (lA s) (mW E2 h q I J B G)) (AP : ∀ (k : Nat) (x : Nat × va_E), (mW E2 h q I J B G)[k]? = some x → x.1 ∉ L) (MF : I 2 = nI 0 ∧ I 3 = nI 0 ∧ I 43 = nI 1 ∧ I 4 = nI 1000000000 ∧ (∀ j, B 91 j = nI 0) ∧ (∀ j, B 133 j = nI 0) ∧ B 46 0 = nI 1 ∧ B 45 0 = nI 12 ∧ by8 (B 12) ∧ by8 (B 13) ∧ by8 (B 16) ∧ by8 (B 17)) (hl : lv_has ls 4 [(3, .int (nI 0)), (2, .ref h), (1, .ref xo), (0, .ref b)]) {post : Int32 → cU → Prop} (hM : Met l y_H_drop (k_H_drop :: lw_tg) (kRm 2 43 0 (0)) (va_Pc [.ref xo, .int (xs (nI 1).toNatClampNeg), .int (xs (nI 2).toNatClampNeg)] (kPre D E T L f H.size)) (va_Qi post (cPost D E (pA L H.size)) (pA L H.size)) 0 (0) (pA L H.size)) (hpo : ∀ r u, post r u → r = nI 0) : W p l e room_1 s m #[Value.ref b] below meth c H locs 1000 400000 (lw_Z below #[Value.ref b] s) (F0 m 692 ls []) := by
  obtain ⟨hx, hb, hr, hml, hown, hts, hX, hbl, hlocks, hgv⟩ := id C0
  have hbA : ¬ lA s b := Nat.not_le.mpr hbl
  have hA : ∀ a, s.heap.size ≤ a → lA s a := fun _ h9 => h9
  obtain ⟨hm_L, hm_O, hm_P, hm_W, hm_A, hm_S, hm_V, hm_N, hm_12, hm_13, hm_16, hm_17⟩ := MF
  refine lv_aload_n hx hb d_law_692 rfl (lv_at hl 2 rfl) ?_
  refine lv_aload_n hx hb d_law_693 rfl (lv_at hl 3 rfl) ?_
  refine lv_iload_n hx hb d_law_694 rfl (lv_at hl 0 rfl) ?_
  refine lv_iconst (v := nI 1) hx hb d_law_695 (by decide) ?_
  refine lv_iadd hx hb d_law_696 ?_
  refine t_eq (y := nI 1) (by decide) ?_
  refine va_sld hx hb hX hbl hbA Y.2.2 (vp_in_nI (show 1 < 8 by decide) (by decide)) d_law_697 ?_
  refine lv_aload_n hx hb d_law_698 rfl (lv_at hl 3 rfl) ?_
  refine lv_iload_n hx hb d_law_699 rfl (lv_at hl 0 rfl) ?_
  refine lv_iconst (v := nI 2) hx hb d_law_700 (by decide) ?_
  refine lv_iadd hx hb d_law_701 ?_
  refine t_eq (y := nI 2) (by decide) ?_
  refine va_sld hx hb hX hbl hbA Y.2.2 (vp_in_nI (show 2 < 8 by decide) (by decide)) d_law_702 ?_
  refine l_x (x_runV (As := [.int (xs (nI 1).toNatClampNeg), .int (xs (nI 2).toNatClampNeg)]) (rest := []) (n := 2) X Y hml hl.1 hM (ok_k X Y hA KS KR) m_xo e_xo rfl kl_L_H_drop ks_H_drop kx_H_drop ki_H_drop ini_H ⟨rfl, rfl⟩ hd_H_drop ⟨by decide, by decide⟩ rfl (Nat.le_of_ble_eq_true rfl) d_law_703 ⟨by decide, by decide⟩) Y hA (fun r1 u1 H1 locs1 hp1 hz1 hk1 hS1 => ?_)
  have hr1 := hpo r1 u1 hp1
  have PM1 := l_keep PM AP hk1
  refine lv_aload_n hx hb d_law_706 rfl (lv_at hl 1 rfl) ?_
  refine lv_aload_n hx hb d_law_707 rfl (lv_at hl 3 rfl) ?_
  refine lv_iload_n hx hb d_law_708 rfl (lv_at hl 0 rfl) ?_
  refine lv_iconst (v := nI 1) hx hb d_law_709 (by decide) ?_
  refine lv_iadd hx hb d_law_710 ?_
  refine t_eq (y := nI 1) (by decide) ?_
  refine va_sld hx hb hX hbl hbA hS1 (vp_in_nI (show 1 < 8 by decide) (by decide)) d_law_711 ?_
  refine lv_aload_n hx hb d_law_712 rfl (lv_at hl 3 rfl) ?_
  refine lv_iload_n hx hb d_law_713 rfl (lv_at hl 0 rfl) ?_
  refine lv_iconst (v := nI 2) hx hb d_law_714 (by decide) ?_
  refine lv_iadd hx hb d_law_715 ?_
  refine t_eq (y := nI 2) (by decide) ?_
  refine va_sld hx hb hX hbl hbA hS1 (vp_in_nI (show 2 < 8 by decide) (by decide)) d_law_716 ?_
  refine l_m (As := [.int (xs (nI 1).toNatClampNeg), .int (xs (nI 2).toNatClampNeg)]) (rest := [.int r1]) (n := 2) hx hb X.2.2.1 hown K2 Z2 R2 PM1 DM hS1 hA hml hl.1 (c_drop_new l D2 E2 h q H1.size I J B G (xs (nI 1).toNatClampNeg) (xs (nI 2).toNatClampNeg) hm_A) kl_L_M_drop ks_drop kx_drop ki_drop hd_drop ⟨by decide, by decide⟩ rfl (Nat.le_of_ble_eq_true rfl) d_law_717 ⟨by decide, by decide⟩ (fun r2 u2 H2 locs2 hp2 hS2 => ?_)
  refine lv_icmp_eq (tgt := 1068) hx hb d_law_720 (by decide) (fun c1 => ?_) (fun c1 => absurd (hr1.trans (hp2.2.2.2.2).symm) c1)
  exact law_end C0 hS2 hl (by decide) (by decide)
set_option maxHeartbeats 4000000 in
set_option maxRecDepth 100000 in
theorem law_17 {p : Program} {l : Launch} {e : Env} {s : State} {m : MethodId} {below : List Frame} {meth : Method} {c : Code} {b h xo : Nat} {xs : Nat → Int32} {D : va_G} {E : cE} {T : cT} {L : List Nat} {f : pF} {D2 : mD} {E2 : mE} {q : Nat → Nat} {I : Nat → Int32} {J : Nat → Int64} {B : Nat → Nat → Int32} {G : Nat → Nat → Int64} {H : Heap} {locs : List Loc} {ls : Array Slot} (C0 : lw_At p s m meth c b 8 xs) (X : cX R_law p c code #[Value.ref b] s m D E) (KS : kS T (lA s) s s.heap) (KR : kR T s) (K2 : va_K D2.1 mCl (mTy E2) s) (Z2 : zS D2.2.1 D2.2.2.1 D2.2.2.2 (lA s) s s.heap) (R2 : zR D2.2.1 s) (Y : pH D cCl (lA s) s.heap L f H locs) (m_xo : xo ∈ L) {fsx : List Value} (e_xo : f xo = .inr (0, fsx)) (PM : va_P D2.1 mCl (mW E2 h q I J B G) H) (DM : va_D (lA s) (mW E2 h q I J B G)) (AP : ∀ (k : Nat) (x : Nat × va_E), (mW E2 h q I J B G)[k]? = some x → x.1 ∉ L) (MF : I 2 = nI 0 ∧ I 3 = nI 0 ∧ I 43 = nI 1 ∧ I 4 = nI 1000000000 ∧ (∀ j, B 91 j = nI 0) ∧ (∀ j, B 133 j = nI 0) ∧ B 46 0 = nI 1 ∧ B 45 0 = nI 12 ∧ by8 (B 12) ∧ by8 (B 13) ∧ by8 (B 16) ∧ by8 (B 17)) (hl : lv_has ls 4 [(3, .int (nI 0)), (2, .ref h), (1, .ref xo), (0, .ref b)]) {post : Int32 → cU → Prop} (hM : Met l y_H_present (k_H_present :: lw_tg) (kRm 2 43 0 (0)) (va_Pc [.ref xo, .int (xs (nI 1).toNatClampNeg), .int (xs (nI 2).toNatClampNeg), .int (xs (nI 3).toNatClampNeg)] (kPre D E T L f H.size)) (va_Qi post (cPost D E (pA L H.size)) (pA L H.size)) 0 (0) (pA L H.size)) (hpo : ∀ r u, post r u → r = (-1)) : W p l e room_1 s m #[Value.ref b] below meth c H locs 1000 400000 (lw_Z below #[Value.ref b] s) (F0 m 725 ls []) := by
  obtain ⟨hx, hb, hr, hml, hown, hts, hX, hbl, hlocks, hgv⟩ := id C0
  have hbA : ¬ lA s b := Nat.not_le.mpr hbl
  have hA : ∀ a, s.heap.size ≤ a → lA s a := fun _ h9 => h9
  obtain ⟨hm_L, hm_O, hm_P, hm_W, hm_A, hm_S, hm_V, hm_N, hm_12, hm_13, hm_16, hm_17⟩ := MF
  refine lv_aload_n hx hb d_law_725 rfl (lv_at hl 2 rfl) ?_
  refine lv_aload_n hx hb d_law_726 rfl (lv_at hl 3 rfl) ?_
  refine lv_iload_n hx hb d_law_727 rfl (lv_at hl 0 rfl) ?_
  refine lv_iconst (v := nI 1) hx hb d_law_728 (by decide) ?_
  refine lv_iadd hx hb d_law_729 ?_
  refine t_eq (y := nI 1) (by decide) ?_
  refine va_sld hx hb hX hbl hbA Y.2.2 (vp_in_nI (show 1 < 8 by decide) (by decide)) d_law_730 ?_
  refine lv_aload_n hx hb d_law_731 rfl (lv_at hl 3 rfl) ?_
  refine lv_iload_n hx hb d_law_732 rfl (lv_at hl 0 rfl) ?_
  refine lv_iconst (v := nI 2) hx hb d_law_733 (by decide) ?_
  refine lv_iadd hx hb d_law_734 ?_
  refine t_eq (y := nI 2) (by decide) ?_
  refine va_sld hx hb hX hbl hbA Y.2.2 (vp_in_nI (show 2 < 8 by decide) (by decide)) d_law_735 ?_
  refine lv_aload_n hx hb d_law_736 rfl (lv_at hl 3 rfl) ?_
  refine lv_iload_n hx hb d_law_737 rfl (lv_at hl 0 rfl) ?_
  refine lv_iconst (v := nI 3) hx hb d_law_738 (by decide) ?_
  refine lv_iadd hx hb d_law_739 ?_
  refine t_eq (y := nI 3) (by decide) ?_
  refine va_sld hx hb hX hbl hbA Y.2.2 (vp_in_nI (show 3 < 8 by decide) (by decide)) d_law_740 ?_
  refine l_x (x_runV (As := [.int (xs (nI 1).toNatClampNeg), .int (xs (nI 2).toNatClampNeg), .int (xs (nI 3).toNatClampNeg)]) (rest := []) (n := 3) X Y hml hl.1 hM (ok_k X Y hA KS KR) m_xo e_xo rfl kl_L_H_present ks_H_present kx_H_present ki_H_present ini_H ⟨rfl, rfl⟩ hd_H_present ⟨by decide, by decide⟩ rfl (Nat.le_of_ble_eq_true rfl) d_law_741 ⟨by decide, by decide⟩) Y hA (fun r1 u1 H1 locs1 hp1 hz1 hk1 hS1 => ?_)
  have hr1 := hpo r1 u1 hp1
  have PM1 := l_keep PM AP hk1
  refine lv_aload_n hx hb d_law_744 rfl (lv_at hl 1 rfl) ?_
  refine lv_aload_n hx hb d_law_745 rfl (lv_at hl 3 rfl) ?_
  refine lv_iload_n hx hb d_law_746 rfl (lv_at hl 0 rfl) ?_
  refine lv_iconst (v := nI 1) hx hb d_law_747 (by decide) ?_
  refine lv_iadd hx hb d_law_748 ?_
  refine t_eq (y := nI 1) (by decide) ?_
  refine va_sld hx hb hX hbl hbA hS1 (vp_in_nI (show 1 < 8 by decide) (by decide)) d_law_749 ?_
  refine lv_aload_n hx hb d_law_750 rfl (lv_at hl 3 rfl) ?_
  refine lv_iload_n hx hb d_law_751 rfl (lv_at hl 0 rfl) ?_
  refine lv_iconst (v := nI 2) hx hb d_law_752 (by decide) ?_
  refine lv_iadd hx hb d_law_753 ?_
  refine t_eq (y := nI 2) (by decide) ?_
  refine va_sld hx hb hX hbl hbA hS1 (vp_in_nI (show 2 < 8 by decide) (by decide)) d_law_754 ?_
  refine lv_aload_n hx hb d_law_755 rfl (lv_at hl 3 rfl) ?_
  refine lv_iload_n hx hb d_law_756 rfl (lv_at hl 0 rfl) ?_
  refine lv_iconst (v := nI 3) hx hb d_law_757 (by decide) ?_
  refine lv_iadd hx hb d_law_758 ?_
  refine t_eq (y := nI 3) (by decide) ?_
  refine va_sld hx hb hX hbl hbA hS1 (vp_in_nI (show 3 < 8 by decide) (by decide)) d_law_759 ?_
  refine l_m (As := [.int (xs (nI 1).toNatClampNeg), .int (xs (nI 2).toNatClampNeg), .int (xs (nI 3).toNatClampNeg)]) (rest := [.int r1]) (n := 3) hx hb X.2.2.1 hown K2 Z2 R2 PM1 DM hS1 hA hml hl.1 (c_present_new l D2 E2 h q H1.size I J B G (xs (nI 1).toNatClampNeg) (xs (nI 2).toNatClampNeg) (xs (nI 3).toNatClampNeg) hm_A) kl_L_M_present ks_present kx_present ki_present hd_present ⟨by decide, by decide⟩ rfl (Nat.le_of_ble_eq_true rfl) d_law_760 ⟨by decide, by decide⟩ (fun r2 u2 H2 locs2 hp2 hS2 => ?_)
  refine lv_icmp_eq (tgt := 1068) hx hb d_law_763 (by decide) (fun c1 => ?_) (fun c1 => absurd (hr1.trans (hp2.2.2.2.2).symm) c1)
  exact law_end C0 hS2 hl (by decide) (by decide)
set_option maxHeartbeats 4000000 in
set_option maxRecDepth 100000 in
theorem law_18 {p : Program} {l : Launch} {e : Env} {s : State} {m : MethodId} {below : List Frame} {meth : Method} {c : Code} {b h xo : Nat} {xs : Nat → Int32} {D : va_G} {E : cE} {T : cT} {L : List Nat} {f : pF} {D2 : mD} {E2 : mE} {q : Nat → Nat} {I : Nat → Int32} {J : Nat → Int64} {B : Nat → Nat → Int32} {G : Nat → Nat → Int64} {H : Heap} {locs : List Loc} {ls : Array Slot} (C0 : lw_At p s m meth c b 8 xs) (X : cX R_law p c code #[Value.ref b] s m D E) (KS : kS T (lA s) s s.heap) (KR : kR T s) (K2 : va_K D2.1 mCl (mTy E2) s) (Z2 : zS D2.2.1 D2.2.2.1 D2.2.2.2 (lA s) s s.heap) (R2 : zR D2.2.1 s) (Y : pH D cCl (lA s) s.heap L f H locs) (m_xo : xo ∈ L) {fsx : List Value} (e_xo : f xo = .inr (0, fsx)) (PM : va_P D2.1 mCl (mW E2 h q I J B G) H) (DM : va_D (lA s) (mW E2 h q I J B G)) (AP : ∀ (k : Nat) (x : Nat × va_E), (mW E2 h q I J B G)[k]? = some x → x.1 ∉ L) (MF : I 2 = nI 0 ∧ I 3 = nI 0 ∧ I 43 = nI 1 ∧ I 4 = nI 1000000000 ∧ (∀ j, B 91 j = nI 0) ∧ (∀ j, B 133 j = nI 0) ∧ B 46 0 = nI 1 ∧ B 45 0 = nI 12 ∧ by8 (B 12) ∧ by8 (B 13) ∧ by8 (B 16) ∧ by8 (B 17)) (hl : lv_has ls 4 [(3, .int (nI 0)), (2, .ref h), (1, .ref xo), (0, .ref b)]) {post : Int32 → cU → Prop} (hM : Met l y_H_serve (k_H_serve :: lw_tg) (kRm 8 180 0 (0)) (va_Pc [.ref xo, .int (xs (nI 1).toNatClampNeg)] (kPre D E T L f H.size)) (va_Qi post (cPost D E (pA L H.size)) (pA L H.size)) 0 (0) (pA L H.size)) (hpo : ∀ r u, post r u → r = (if (xs (nI 1).toNatClampNeg) = nI 0 then (-60) else (-1))) : W p l e room_1 s m #[Value.ref b] below meth c H locs 1000 400000 (lw_Z below #[Value.ref b] s) (F0 m 768 ls []) := by
  obtain ⟨hx, hb, hr, hml, hown, hts, hX, hbl, hlocks, hgv⟩ := id C0
  have hbA : ¬ lA s b := Nat.not_le.mpr hbl
  have hA : ∀ a, s.heap.size ≤ a → lA s a := fun _ h9 => h9
  obtain ⟨hm_L, hm_O, hm_P, hm_W, hm_A, hm_S, hm_V, hm_N, hm_12, hm_13, hm_16, hm_17⟩ := MF
  refine lv_aload_n hx hb d_law_768 rfl (lv_at hl 2 rfl) ?_
  refine lv_aload_n hx hb d_law_769 rfl (lv_at hl 3 rfl) ?_
  refine lv_iload_n hx hb d_law_770 rfl (lv_at hl 0 rfl) ?_
  refine lv_iconst (v := nI 1) hx hb d_law_771 (by decide) ?_
  refine lv_iadd hx hb d_law_772 ?_
  refine t_eq (y := nI 1) (by decide) ?_
  refine va_sld hx hb hX hbl hbA Y.2.2 (vp_in_nI (show 1 < 8 by decide) (by decide)) d_law_773 ?_
  refine l_x (x_runV (As := [.int (xs (nI 1).toNatClampNeg)]) (rest := []) (n := 1) X Y hml hl.1 hM (ok_k X Y hA KS KR) m_xo e_xo rfl kl_L_H_serve ks_H_serve kx_H_serve ki_H_serve ini_H ⟨rfl, rfl⟩ hd_H_serve ⟨by decide, by decide⟩ rfl (Nat.le_of_ble_eq_true rfl) d_law_774 ⟨by decide, by decide⟩) Y hA (fun r1 u1 H1 locs1 hp1 hz1 hk1 hS1 => ?_)
  have hr1 := hpo r1 u1 hp1
  have PM1 := l_keep PM AP hk1
  refine lv_aload_n hx hb d_law_777 rfl (lv_at hl 1 rfl) ?_
  refine lv_aload_n hx hb d_law_778 rfl (lv_at hl 3 rfl) ?_
  refine lv_iload_n hx hb d_law_779 rfl (lv_at hl 0 rfl) ?_
  refine lv_iconst (v := nI 1) hx hb d_law_780 (by decide) ?_
  refine lv_iadd hx hb d_law_781 ?_
  refine t_eq (y := nI 1) (by decide) ?_
  refine va_sld hx hb hX hbl hbA hS1 (vp_in_nI (show 1 < 8 by decide) (by decide)) d_law_782 ?_
  refine l_m (As := [.int (xs (nI 1).toNatClampNeg)]) (rest := [.int r1]) (n := 1) hx hb X.2.2.1 hown K2 Z2 R2 PM1 DM hS1 hA hml hl.1 (c_serve_new l D2 E2 h q H1.size I J B G (xs (nI 1).toNatClampNeg) hm_L hm_P hm_N hm_W) kl_L_M_serve ks_serve kx_serve ki_serve hd_serve ⟨by decide, by decide⟩ rfl (Nat.le_of_ble_eq_true rfl) d_law_783 ⟨by decide, by decide⟩ (fun r2 u2 H2 locs2 hp2 hS2 => ?_)
  refine lv_icmp_eq (tgt := 1068) hx hb d_law_786 (by decide) (fun c1 => ?_) (fun c1 => absurd (hr1.trans (hp2.2.2.2.2).symm) c1)
  exact law_end C0 hS2 hl (by decide) (by decide)
set_option maxHeartbeats 4000000 in
set_option maxRecDepth 100000 in
theorem law_19 {p : Program} {l : Launch} {e : Env} {s : State} {m : MethodId} {below : List Frame} {meth : Method} {c : Code} {b h xo : Nat} {xs : Nat → Int32} {D : va_G} {E : cE} {T : cT} {L : List Nat} {f : pF} {D2 : mD} {E2 : mE} {q : Nat → Nat} {I : Nat → Int32} {J : Nat → Int64} {B : Nat → Nat → Int32} {G : Nat → Nat → Int64} {H : Heap} {locs : List Loc} {ls : Array Slot} (C0 : lw_At p s m meth c b 8 xs) (X : cX R_law p c code #[Value.ref b] s m D E) (KS : kS T (lA s) s s.heap) (KR : kR T s) (K2 : va_K D2.1 mCl (mTy E2) s) (Z2 : zS D2.2.1 D2.2.2.1 D2.2.2.2 (lA s) s s.heap) (R2 : zR D2.2.1 s) (Y : pH D cCl (lA s) s.heap L f H locs) (m_xo : xo ∈ L) {fsx : List Value} (e_xo : f xo = .inr (0, fsx)) (PM : va_P D2.1 mCl (mW E2 h q I J B G) H) (DM : va_D (lA s) (mW E2 h q I J B G)) (AP : ∀ (k : Nat) (x : Nat × va_E), (mW E2 h q I J B G)[k]? = some x → x.1 ∉ L) (MF : I 2 = nI 0 ∧ I 3 = nI 0 ∧ I 43 = nI 1 ∧ I 4 = nI 1000000000 ∧ (∀ j, B 91 j = nI 0) ∧ (∀ j, B 133 j = nI 0) ∧ B 46 0 = nI 1 ∧ B 45 0 = nI 12 ∧ by8 (B 12) ∧ by8 (B 13) ∧ by8 (B 16) ∧ by8 (B 17)) (hl : lv_has ls 4 [(3, .int (nI 0)), (2, .ref h), (1, .ref xo), (0, .ref b)]) {post : Int32 → cU → Prop} (hM : Met l y_H_met (k_H_met :: lw_tg) (kRm 1 21 0 (0)) (va_Pc [.ref xo, .int (xs (nI 1).toNatClampNeg)] (kPre D E T L f H.size)) (va_Qi post (cPost D E (pA L H.size)) (pA L H.size)) 0 (0) (pA L H.size)) (hpo : ∀ r u, post r u → r = (-1)) : W p l e room_1 s m #[Value.ref b] below meth c H locs 1000 400000 (lw_Z below #[Value.ref b] s) (F0 m 791 ls []) := by
  obtain ⟨hx, hb, hr, hml, hown, hts, hX, hbl, hlocks, hgv⟩ := id C0
  have hbA : ¬ lA s b := Nat.not_le.mpr hbl
  have hA : ∀ a, s.heap.size ≤ a → lA s a := fun _ h9 => h9
  obtain ⟨hm_L, hm_O, hm_P, hm_W, hm_A, hm_S, hm_V, hm_N, hm_12, hm_13, hm_16, hm_17⟩ := MF
  refine lv_aload_n hx hb d_law_791 rfl (lv_at hl 2 rfl) ?_
  refine lv_aload_n hx hb d_law_792 rfl (lv_at hl 3 rfl) ?_
  refine lv_iload_n hx hb d_law_793 rfl (lv_at hl 0 rfl) ?_
  refine lv_iconst (v := nI 1) hx hb d_law_794 (by decide) ?_
  refine lv_iadd hx hb d_law_795 ?_
  refine t_eq (y := nI 1) (by decide) ?_
  refine va_sld hx hb hX hbl hbA Y.2.2 (vp_in_nI (show 1 < 8 by decide) (by decide)) d_law_796 ?_
  refine l_x (x_runV (As := [.int (xs (nI 1).toNatClampNeg)]) (rest := []) (n := 1) X Y hml hl.1 hM (ok_k X Y hA KS KR) m_xo e_xo rfl kl_L_H_met ks_H_met kx_H_met ki_H_met ini_H ⟨rfl, rfl⟩ hd_H_met ⟨by decide, by decide⟩ rfl (Nat.le_of_ble_eq_true rfl) d_law_797 ⟨by decide, by decide⟩) Y hA (fun r1 u1 H1 locs1 hp1 hz1 hk1 hS1 => ?_)
  have hr1 := hpo r1 u1 hp1
  have PM1 := l_keep PM AP hk1
  refine lv_aload_n hx hb d_law_800 rfl (lv_at hl 1 rfl) ?_
  refine lv_aload_n hx hb d_law_801 rfl (lv_at hl 3 rfl) ?_
  refine lv_iload_n hx hb d_law_802 rfl (lv_at hl 0 rfl) ?_
  refine lv_iconst (v := nI 1) hx hb d_law_803 (by decide) ?_
  refine lv_iadd hx hb d_law_804 ?_
  refine t_eq (y := nI 1) (by decide) ?_
  refine va_sld hx hb hX hbl hbA hS1 (vp_in_nI (show 1 < 8 by decide) (by decide)) d_law_805 ?_
  refine l_m (As := [.int (xs (nI 1).toNatClampNeg)]) (rest := [.int r1]) (n := 1) hx hb X.2.2.1 hown K2 Z2 R2 PM1 DM hS1 hA hml hl.1 (c_met_new l D2 E2 h q H1.size I J B G (xs (nI 1).toNatClampNeg) hm_L hm_A) kl_L_M_met ks_met kx_met ki_met hd_met ⟨by decide, by decide⟩ rfl (Nat.le_of_ble_eq_true rfl) d_law_806 ⟨by decide, by decide⟩ (fun r2 u2 H2 locs2 hp2 hS2 => ?_)
  refine lv_icmp_eq (tgt := 1068) hx hb d_law_809 (by decide) (fun c1 => ?_) (fun c1 => absurd (hr1.trans (hp2.2.2.2.2).symm) c1)
  exact law_end C0 hS2 hl (by decide) (by decide)
set_option maxHeartbeats 4000000 in
set_option maxRecDepth 100000 in
theorem law_20 {p : Program} {l : Launch} {e : Env} {s : State} {m : MethodId} {below : List Frame} {meth : Method} {c : Code} {b h xo : Nat} {xs : Nat → Int32} {D : va_G} {E : cE} {T : cT} {L : List Nat} {f : pF} {D2 : mD} {E2 : mE} {q : Nat → Nat} {I : Nat → Int32} {J : Nat → Int64} {B : Nat → Nat → Int32} {G : Nat → Nat → Int64} {H : Heap} {locs : List Loc} {ls : Array Slot} (C0 : lw_At p s m meth c b 8 xs) (X : cX R_law p c code #[Value.ref b] s m D E) (KS : kS T (lA s) s s.heap) (KR : kR T s) (K2 : va_K D2.1 mCl (mTy E2) s) (Z2 : zS D2.2.1 D2.2.2.1 D2.2.2.2 (lA s) s s.heap) (R2 : zR D2.2.1 s) (Y : pH D cCl (lA s) s.heap L f H locs) (m_xo : xo ∈ L) {fsx : List Value} (e_xo : f xo = .inr (0, fsx)) (PM : va_P D2.1 mCl (mW E2 h q I J B G) H) (DM : va_D (lA s) (mW E2 h q I J B G)) (AP : ∀ (k : Nat) (x : Nat × va_E), (mW E2 h q I J B G)[k]? = some x → x.1 ∉ L) (MF : I 2 = nI 0 ∧ I 3 = nI 0 ∧ I 43 = nI 1 ∧ I 4 = nI 1000000000 ∧ (∀ j, B 91 j = nI 0) ∧ (∀ j, B 133 j = nI 0) ∧ B 46 0 = nI 1 ∧ B 45 0 = nI 12 ∧ by8 (B 12) ∧ by8 (B 13) ∧ by8 (B 16) ∧ by8 (B 17)) (hl : lv_has ls 4 [(3, .int (nI 0)), (2, .ref h), (1, .ref xo), (0, .ref b)]) {post : Int32 → cU → Prop} (hM : Met l y_H_joins (k_H_joins :: lw_tg) (kRm 1 21 0 (0)) (va_Pc [.ref xo, .int (xs (nI 1).toNatClampNeg), .int (xs (nI 2).toNatClampNeg)] (kPre D E T L f H.size)) (va_Qi post (cPost D E (pA L H.size)) (pA L H.size)) 0 (0) (pA L H.size)) (hpo : ∀ r u, post r u → r = nI 0) : W p l e room_1 s m #[Value.ref b] below meth c H locs 1000 400000 (lw_Z below #[Value.ref b] s) (F0 m 814 ls []) := by
  obtain ⟨hx, hb, hr, hml, hown, hts, hX, hbl, hlocks, hgv⟩ := id C0
  have hbA : ¬ lA s b := Nat.not_le.mpr hbl
  have hA : ∀ a, s.heap.size ≤ a → lA s a := fun _ h9 => h9
  obtain ⟨hm_L, hm_O, hm_P, hm_W, hm_A, hm_S, hm_V, hm_N, hm_12, hm_13, hm_16, hm_17⟩ := MF
  refine lv_aload_n hx hb d_law_814 rfl (lv_at hl 2 rfl) ?_
  refine lv_aload_n hx hb d_law_815 rfl (lv_at hl 3 rfl) ?_
  refine lv_iload_n hx hb d_law_816 rfl (lv_at hl 0 rfl) ?_
  refine lv_iconst (v := nI 1) hx hb d_law_817 (by decide) ?_
  refine lv_iadd hx hb d_law_818 ?_
  refine t_eq (y := nI 1) (by decide) ?_
  refine va_sld hx hb hX hbl hbA Y.2.2 (vp_in_nI (show 1 < 8 by decide) (by decide)) d_law_819 ?_
  refine lv_aload_n hx hb d_law_820 rfl (lv_at hl 3 rfl) ?_
  refine lv_iload_n hx hb d_law_821 rfl (lv_at hl 0 rfl) ?_
  refine lv_iconst (v := nI 2) hx hb d_law_822 (by decide) ?_
  refine lv_iadd hx hb d_law_823 ?_
  refine t_eq (y := nI 2) (by decide) ?_
  refine va_sld hx hb hX hbl hbA Y.2.2 (vp_in_nI (show 2 < 8 by decide) (by decide)) d_law_824 ?_
  refine l_x (x_runV (As := [.int (xs (nI 1).toNatClampNeg), .int (xs (nI 2).toNatClampNeg)]) (rest := []) (n := 2) X Y hml hl.1 hM (ok_k X Y hA KS KR) m_xo e_xo rfl kl_L_H_joins ks_H_joins kx_H_joins ki_H_joins ini_H ⟨rfl, rfl⟩ hd_H_joins ⟨by decide, by decide⟩ rfl (Nat.le_of_ble_eq_true rfl) d_law_825 ⟨by decide, by decide⟩) Y hA (fun r1 u1 H1 locs1 hp1 hz1 hk1 hS1 => ?_)
  have hr1 := hpo r1 u1 hp1
  have PM1 := l_keep PM AP hk1
  refine lv_aload_n hx hb d_law_828 rfl (lv_at hl 1 rfl) ?_
  refine lv_aload_n hx hb d_law_829 rfl (lv_at hl 3 rfl) ?_
  refine lv_iload_n hx hb d_law_830 rfl (lv_at hl 0 rfl) ?_
  refine lv_iconst (v := nI 1) hx hb d_law_831 (by decide) ?_
  refine lv_iadd hx hb d_law_832 ?_
  refine t_eq (y := nI 1) (by decide) ?_
  refine va_sld hx hb hX hbl hbA hS1 (vp_in_nI (show 1 < 8 by decide) (by decide)) d_law_833 ?_
  refine lv_aload_n hx hb d_law_834 rfl (lv_at hl 3 rfl) ?_
  refine lv_iload_n hx hb d_law_835 rfl (lv_at hl 0 rfl) ?_
  refine lv_iconst (v := nI 2) hx hb d_law_836 (by decide) ?_
  refine lv_iadd hx hb d_law_837 ?_
  refine t_eq (y := nI 2) (by decide) ?_
  refine va_sld hx hb hX hbl hbA hS1 (vp_in_nI (show 2 < 8 by decide) (by decide)) d_law_838 ?_
  refine l_m (As := [.int (xs (nI 1).toNatClampNeg), .int (xs (nI 2).toNatClampNeg)]) (rest := [.int r1]) (n := 2) hx hb X.2.2.1 hown K2 Z2 R2 PM1 DM hS1 hA hml hl.1 (c_joins_new l D2 E2 h q H1.size I J B G (xs (nI 1).toNatClampNeg) (xs (nI 2).toNatClampNeg) hm_S) kl_L_M_joins ks_joins kx_joins ki_joins hd_joins ⟨by decide, by decide⟩ rfl (Nat.le_of_ble_eq_true rfl) d_law_839 ⟨by decide, by decide⟩ (fun r2 u2 H2 locs2 hp2 hS2 => ?_)
  refine lv_icmp_eq (tgt := 1068) hx hb d_law_842 (by decide) (fun c1 => ?_) (fun c1 => absurd (hr1.trans (hp2.2.2.2.2).symm) c1)
  exact law_end C0 hS2 hl (by decide) (by decide)
set_option maxHeartbeats 4000000 in
set_option maxRecDepth 100000 in
theorem law_21 {p : Program} {l : Launch} {e : Env} {s : State} {m : MethodId} {below : List Frame} {meth : Method} {c : Code} {b h xo : Nat} {xs : Nat → Int32} {D : va_G} {E : cE} {T : cT} {L : List Nat} {f : pF} {D2 : mD} {E2 : mE} {q : Nat → Nat} {I : Nat → Int32} {J : Nat → Int64} {B : Nat → Nat → Int32} {G : Nat → Nat → Int64} {H : Heap} {locs : List Loc} {ls : Array Slot} (C0 : lw_At p s m meth c b 8 xs) (X : cX R_law p c code #[Value.ref b] s m D E) (KS : kS T (lA s) s s.heap) (KR : kR T s) (K2 : va_K D2.1 mCl (mTy E2) s) (Z2 : zS D2.2.1 D2.2.2.1 D2.2.2.2 (lA s) s s.heap) (R2 : zR D2.2.1 s) (Y : pH D cCl (lA s) s.heap L f H locs) (m_xo : xo ∈ L) {fsx : List Value} (e_xo : f xo = .inr (0, fsx)) (PM : va_P D2.1 mCl (mW E2 h q I J B G) H) (DM : va_D (lA s) (mW E2 h q I J B G)) (AP : ∀ (k : Nat) (x : Nat × va_E), (mW E2 h q I J B G)[k]? = some x → x.1 ∉ L) (MF : I 2 = nI 0 ∧ I 3 = nI 0 ∧ I 43 = nI 1 ∧ I 4 = nI 1000000000 ∧ (∀ j, B 91 j = nI 0) ∧ (∀ j, B 133 j = nI 0) ∧ B 46 0 = nI 1 ∧ B 45 0 = nI 12 ∧ by8 (B 12) ∧ by8 (B 13) ∧ by8 (B 16) ∧ by8 (B 17)) (hl : lv_has ls 4 [(3, .int (nI 0)), (2, .ref h), (1, .ref xo), (0, .ref b)]) {post : Int32 → cU → Prop} (hM : Met l y_H_send (k_H_send :: lw_tg) (kRm 2 43 0 (0)) (va_Pc [.ref xo, .int (xs (nI 1).toNatClampNeg), .int (xs (nI 2).toNatClampNeg)] (kPre D E T L f H.size)) (va_Qi post (cPost D E (pA L H.size)) (pA L H.size)) 0 (0) (pA L H.size)) (hpo : ∀ r u, post r u → r = (-1)) : W p l e room_1 s m #[Value.ref b] below meth c H locs 1000 400000 (lw_Z below #[Value.ref b] s) (F0 m 847 ls []) := by
  obtain ⟨hx, hb, hr, hml, hown, hts, hX, hbl, hlocks, hgv⟩ := id C0
  have hbA : ¬ lA s b := Nat.not_le.mpr hbl
  have hA : ∀ a, s.heap.size ≤ a → lA s a := fun _ h9 => h9
  obtain ⟨hm_L, hm_O, hm_P, hm_W, hm_A, hm_S, hm_V, hm_N, hm_12, hm_13, hm_16, hm_17⟩ := MF
  refine lv_aload_n hx hb d_law_847 rfl (lv_at hl 2 rfl) ?_
  refine lv_aload_n hx hb d_law_848 rfl (lv_at hl 3 rfl) ?_
  refine lv_iload_n hx hb d_law_849 rfl (lv_at hl 0 rfl) ?_
  refine lv_iconst (v := nI 1) hx hb d_law_850 (by decide) ?_
  refine lv_iadd hx hb d_law_851 ?_
  refine t_eq (y := nI 1) (by decide) ?_
  refine va_sld hx hb hX hbl hbA Y.2.2 (vp_in_nI (show 1 < 8 by decide) (by decide)) d_law_852 ?_
  refine lv_aload_n hx hb d_law_853 rfl (lv_at hl 3 rfl) ?_
  refine lv_iload_n hx hb d_law_854 rfl (lv_at hl 0 rfl) ?_
  refine lv_iconst (v := nI 2) hx hb d_law_855 (by decide) ?_
  refine lv_iadd hx hb d_law_856 ?_
  refine t_eq (y := nI 2) (by decide) ?_
  refine va_sld hx hb hX hbl hbA Y.2.2 (vp_in_nI (show 2 < 8 by decide) (by decide)) d_law_857 ?_
  refine l_x (x_runV (As := [.int (xs (nI 1).toNatClampNeg), .int (xs (nI 2).toNatClampNeg)]) (rest := []) (n := 2) X Y hml hl.1 hM (ok_k X Y hA KS KR) m_xo e_xo rfl kl_L_H_send ks_H_send kx_H_send ki_H_send ini_H ⟨rfl, rfl⟩ hd_H_send ⟨by decide, by decide⟩ rfl (Nat.le_of_ble_eq_true rfl) d_law_858 ⟨by decide, by decide⟩) Y hA (fun r1 u1 H1 locs1 hp1 hz1 hk1 hS1 => ?_)
  have hr1 := hpo r1 u1 hp1
  have PM1 := l_keep PM AP hk1
  refine lv_aload_n hx hb d_law_861 rfl (lv_at hl 1 rfl) ?_
  refine lv_aload_n hx hb d_law_862 rfl (lv_at hl 3 rfl) ?_
  refine lv_iload_n hx hb d_law_863 rfl (lv_at hl 0 rfl) ?_
  refine lv_iconst (v := nI 1) hx hb d_law_864 (by decide) ?_
  refine lv_iadd hx hb d_law_865 ?_
  refine t_eq (y := nI 1) (by decide) ?_
  refine va_sld hx hb hX hbl hbA hS1 (vp_in_nI (show 1 < 8 by decide) (by decide)) d_law_866 ?_
  refine lv_aload_n hx hb d_law_867 rfl (lv_at hl 3 rfl) ?_
  refine lv_iload_n hx hb d_law_868 rfl (lv_at hl 0 rfl) ?_
  refine lv_iconst (v := nI 2) hx hb d_law_869 (by decide) ?_
  refine lv_iadd hx hb d_law_870 ?_
  refine t_eq (y := nI 2) (by decide) ?_
  refine va_sld hx hb hX hbl hbA hS1 (vp_in_nI (show 2 < 8 by decide) (by decide)) d_law_871 ?_
  refine l_m (As := [.int (xs (nI 1).toNatClampNeg), .int (xs (nI 2).toNatClampNeg)]) (rest := [.int r1]) (n := 2) hx hb X.2.2.1 hown K2 Z2 R2 PM1 DM hS1 hA hml hl.1 (c_send_new l D2 E2 h q H1.size I J B G (xs (nI 1).toNatClampNeg) (xs (nI 2).toNatClampNeg) hm_L hm_S) kl_L_M_send ks_send kx_send ki_send hd_send ⟨by decide, by decide⟩ rfl (Nat.le_of_ble_eq_true rfl) d_law_872 ⟨by decide, by decide⟩ (fun r2 u2 H2 locs2 hp2 hS2 => ?_)
  refine lv_icmp_eq (tgt := 1068) hx hb d_law_875 (by decide) (fun c1 => ?_) (fun c1 => absurd (hr1.trans (hp2.2.2.2.2).symm) c1)
  exact law_end C0 hS2 hl (by decide) (by decide)
set_option maxHeartbeats 4000000 in
set_option maxRecDepth 100000 in
theorem law_22 {p : Program} {l : Launch} {e : Env} {s : State} {m : MethodId} {below : List Frame} {meth : Method} {c : Code} {b h xo : Nat} {xs : Nat → Int32} {D : va_G} {E : cE} {T : cT} {L : List Nat} {f : pF} {D2 : mD} {E2 : mE} {q : Nat → Nat} {I : Nat → Int32} {J : Nat → Int64} {B : Nat → Nat → Int32} {G : Nat → Nat → Int64} {H : Heap} {locs : List Loc} {ls : Array Slot} (C0 : lw_At p s m meth c b 8 xs) (X : cX R_law p c code #[Value.ref b] s m D E) (KS : kS T (lA s) s s.heap) (KR : kR T s) (K2 : va_K D2.1 mCl (mTy E2) s) (Z2 : zS D2.2.1 D2.2.2.1 D2.2.2.2 (lA s) s s.heap) (R2 : zR D2.2.1 s) (Y : pH D cCl (lA s) s.heap L f H locs) (m_xo : xo ∈ L) {fsx : List Value} (e_xo : f xo = .inr (0, fsx)) (PM : va_P D2.1 mCl (mW E2 h q I J B G) H) (DM : va_D (lA s) (mW E2 h q I J B G)) (AP : ∀ (k : Nat) (x : Nat × va_E), (mW E2 h q I J B G)[k]? = some x → x.1 ∉ L) (MF : I 2 = nI 0 ∧ I 3 = nI 0 ∧ I 43 = nI 1 ∧ I 4 = nI 1000000000 ∧ (∀ j, B 91 j = nI 0) ∧ (∀ j, B 133 j = nI 0) ∧ B 46 0 = nI 1 ∧ B 45 0 = nI 12 ∧ by8 (B 12) ∧ by8 (B 13) ∧ by8 (B 16) ∧ by8 (B 17)) (hl : lv_has ls 4 [(3, .int (nI 0)), (2, .ref h), (1, .ref xo), (0, .ref b)]) {post : Int32 → cU → Prop} (hM : Met l y_H_receive (k_H_receive :: lw_tg) (kRm 2 43 0 (0)) (va_Pc [.ref xo, .int (xs (nI 1).toNatClampNeg), .int (xs (nI 2).toNatClampNeg)] (kPre D E T L f H.size)) (va_Qi post (cPost D E (pA L H.size)) (pA L H.size)) 0 (0) (pA L H.size)) (hpo : ∀ r u, post r u → r = (-1)) : W p l e room_1 s m #[Value.ref b] below meth c H locs 1000 400000 (lw_Z below #[Value.ref b] s) (F0 m 880 ls []) := by
  obtain ⟨hx, hb, hr, hml, hown, hts, hX, hbl, hlocks, hgv⟩ := id C0
  have hbA : ¬ lA s b := Nat.not_le.mpr hbl
  have hA : ∀ a, s.heap.size ≤ a → lA s a := fun _ h9 => h9
  obtain ⟨hm_L, hm_O, hm_P, hm_W, hm_A, hm_S, hm_V, hm_N, hm_12, hm_13, hm_16, hm_17⟩ := MF
  refine lv_aload_n hx hb d_law_880 rfl (lv_at hl 2 rfl) ?_
  refine lv_aload_n hx hb d_law_881 rfl (lv_at hl 3 rfl) ?_
  refine lv_iload_n hx hb d_law_882 rfl (lv_at hl 0 rfl) ?_
  refine lv_iconst (v := nI 1) hx hb d_law_883 (by decide) ?_
  refine lv_iadd hx hb d_law_884 ?_
  refine t_eq (y := nI 1) (by decide) ?_
  refine va_sld hx hb hX hbl hbA Y.2.2 (vp_in_nI (show 1 < 8 by decide) (by decide)) d_law_885 ?_
  refine lv_aload_n hx hb d_law_886 rfl (lv_at hl 3 rfl) ?_
  refine lv_iload_n hx hb d_law_887 rfl (lv_at hl 0 rfl) ?_
  refine lv_iconst (v := nI 2) hx hb d_law_888 (by decide) ?_
  refine lv_iadd hx hb d_law_889 ?_
  refine t_eq (y := nI 2) (by decide) ?_
  refine va_sld hx hb hX hbl hbA Y.2.2 (vp_in_nI (show 2 < 8 by decide) (by decide)) d_law_890 ?_
  refine l_x (x_runV (As := [.int (xs (nI 1).toNatClampNeg), .int (xs (nI 2).toNatClampNeg)]) (rest := []) (n := 2) X Y hml hl.1 hM (ok_k X Y hA KS KR) m_xo e_xo rfl kl_L_H_receive ks_H_receive kx_H_receive ki_H_receive ini_H ⟨rfl, rfl⟩ hd_H_receive ⟨by decide, by decide⟩ rfl (Nat.le_of_ble_eq_true rfl) d_law_891 ⟨by decide, by decide⟩) Y hA (fun r1 u1 H1 locs1 hp1 hz1 hk1 hS1 => ?_)
  have hr1 := hpo r1 u1 hp1
  have PM1 := l_keep PM AP hk1
  refine lv_aload_n hx hb d_law_894 rfl (lv_at hl 1 rfl) ?_
  refine lv_aload_n hx hb d_law_895 rfl (lv_at hl 3 rfl) ?_
  refine lv_iload_n hx hb d_law_896 rfl (lv_at hl 0 rfl) ?_
  refine lv_iconst (v := nI 1) hx hb d_law_897 (by decide) ?_
  refine lv_iadd hx hb d_law_898 ?_
  refine t_eq (y := nI 1) (by decide) ?_
  refine va_sld hx hb hX hbl hbA hS1 (vp_in_nI (show 1 < 8 by decide) (by decide)) d_law_899 ?_
  refine lv_aload_n hx hb d_law_900 rfl (lv_at hl 3 rfl) ?_
  refine lv_iload_n hx hb d_law_901 rfl (lv_at hl 0 rfl) ?_
  refine lv_iconst (v := nI 2) hx hb d_law_902 (by decide) ?_
  refine lv_iadd hx hb d_law_903 ?_
  refine t_eq (y := nI 2) (by decide) ?_
  refine va_sld hx hb hX hbl hbA hS1 (vp_in_nI (show 2 < 8 by decide) (by decide)) d_law_904 ?_
  refine l_m (As := [.int (xs (nI 1).toNatClampNeg), .int (xs (nI 2).toNatClampNeg)]) (rest := [.int r1]) (n := 2) hx hb X.2.2.1 hown K2 Z2 R2 PM1 DM hS1 hA hml hl.1 (c_receive_new l D2 E2 h q H1.size I J B G (xs (nI 1).toNatClampNeg) (xs (nI 2).toNatClampNeg) hm_L hm_S) kl_L_M_receive ks_receive kx_receive ki_receive hd_receive ⟨by decide, by decide⟩ rfl (Nat.le_of_ble_eq_true rfl) d_law_905 ⟨by decide, by decide⟩ (fun r2 u2 H2 locs2 hp2 hS2 => ?_)
  refine lv_icmp_eq (tgt := 1068) hx hb d_law_908 (by decide) (fun c1 => ?_) (fun c1 => absurd (hr1.trans (hp2.2.2.2.2).symm) c1)
  exact law_end C0 hS2 hl (by decide) (by decide)
set_option maxHeartbeats 4000000 in
set_option maxRecDepth 100000 in
theorem law_23 {p : Program} {l : Launch} {e : Env} {s : State} {m : MethodId} {below : List Frame} {meth : Method} {c : Code} {b h xo : Nat} {xs : Nat → Int32} {D : va_G} {E : cE} {T : cT} {L : List Nat} {f : pF} {D2 : mD} {E2 : mE} {q : Nat → Nat} {I : Nat → Int32} {J : Nat → Int64} {B : Nat → Nat → Int32} {G : Nat → Nat → Int64} {H : Heap} {locs : List Loc} {ls : Array Slot} (C0 : lw_At p s m meth c b 8 xs) (X : cX R_law p c code #[Value.ref b] s m D E) (KS : kS T (lA s) s s.heap) (KR : kR T s) (K2 : va_K D2.1 mCl (mTy E2) s) (Z2 : zS D2.2.1 D2.2.2.1 D2.2.2.2 (lA s) s s.heap) (R2 : zR D2.2.1 s) (Y : pH D cCl (lA s) s.heap L f H locs) (m_xo : xo ∈ L) {fsx : List Value} (e_xo : f xo = .inr (0, fsx)) (PM : va_P D2.1 mCl (mW E2 h q I J B G) H) (DM : va_D (lA s) (mW E2 h q I J B G)) (AP : ∀ (k : Nat) (x : Nat × va_E), (mW E2 h q I J B G)[k]? = some x → x.1 ∉ L) (MF : I 2 = nI 0 ∧ I 3 = nI 0 ∧ I 43 = nI 1 ∧ I 4 = nI 1000000000 ∧ (∀ j, B 91 j = nI 0) ∧ (∀ j, B 133 j = nI 0) ∧ B 46 0 = nI 1 ∧ B 45 0 = nI 12 ∧ by8 (B 12) ∧ by8 (B 13) ∧ by8 (B 16) ∧ by8 (B 17)) (hl : lv_has ls 4 [(3, .int (nI 0)), (2, .ref h), (1, .ref xo), (0, .ref b)]) {post : Int32 → cU → Prop} (hM : Met l y_H_ends (k_H_ends :: lw_tg) (kRm 1 21 0 (0)) (va_Pc [.ref xo, .int (xs (nI 1).toNatClampNeg)] (kPre D E T L f H.size)) (va_Qi post (cPost D E (pA L H.size)) (pA L H.size)) 0 (0) (pA L H.size)) (hpo : ∀ r u, post r u → r = nI 0) : W p l e room_1 s m #[Value.ref b] below meth c H locs 1000 400000 (lw_Z below #[Value.ref b] s) (F0 m 913 ls []) := by
  obtain ⟨hx, hb, hr, hml, hown, hts, hX, hbl, hlocks, hgv⟩ := id C0
  have hbA : ¬ lA s b := Nat.not_le.mpr hbl
  have hA : ∀ a, s.heap.size ≤ a → lA s a := fun _ h9 => h9
  obtain ⟨hm_L, hm_O, hm_P, hm_W, hm_A, hm_S, hm_V, hm_N, hm_12, hm_13, hm_16, hm_17⟩ := MF
  refine lv_aload_n hx hb d_law_913 rfl (lv_at hl 2 rfl) ?_
  refine lv_aload_n hx hb d_law_914 rfl (lv_at hl 3 rfl) ?_
  refine lv_iload_n hx hb d_law_915 rfl (lv_at hl 0 rfl) ?_
  refine lv_iconst (v := nI 1) hx hb d_law_916 (by decide) ?_
  refine lv_iadd hx hb d_law_917 ?_
  refine t_eq (y := nI 1) (by decide) ?_
  refine va_sld hx hb hX hbl hbA Y.2.2 (vp_in_nI (show 1 < 8 by decide) (by decide)) d_law_918 ?_
  refine l_x (x_runV (As := [.int (xs (nI 1).toNatClampNeg)]) (rest := []) (n := 1) X Y hml hl.1 hM (ok_k X Y hA KS KR) m_xo e_xo rfl kl_L_H_ends ks_H_ends kx_H_ends ki_H_ends ini_H ⟨rfl, rfl⟩ hd_H_ends ⟨by decide, by decide⟩ rfl (Nat.le_of_ble_eq_true rfl) d_law_919 ⟨by decide, by decide⟩) Y hA (fun r1 u1 H1 locs1 hp1 hz1 hk1 hS1 => ?_)
  have hr1 := hpo r1 u1 hp1
  have PM1 := l_keep PM AP hk1
  refine lv_aload_n hx hb d_law_922 rfl (lv_at hl 1 rfl) ?_
  refine lv_aload_n hx hb d_law_923 rfl (lv_at hl 3 rfl) ?_
  refine lv_iload_n hx hb d_law_924 rfl (lv_at hl 0 rfl) ?_
  refine lv_iconst (v := nI 1) hx hb d_law_925 (by decide) ?_
  refine lv_iadd hx hb d_law_926 ?_
  refine t_eq (y := nI 1) (by decide) ?_
  refine va_sld hx hb hX hbl hbA hS1 (vp_in_nI (show 1 < 8 by decide) (by decide)) d_law_927 ?_
  refine l_m (As := [.int (xs (nI 1).toNatClampNeg)]) (rest := [.int r1]) (n := 1) hx hb X.2.2.1 hown K2 Z2 R2 PM1 DM hS1 hA hml hl.1 (c_ends_new l D2 E2 h q H1.size I J B G (xs (nI 1).toNatClampNeg) hm_S) kl_L_M_ends ks_ends kx_ends ki_ends hd_ends ⟨by decide, by decide⟩ rfl (Nat.le_of_ble_eq_true rfl) d_law_928 ⟨by decide, by decide⟩ (fun r2 u2 H2 locs2 hp2 hS2 => ?_)
  refine lv_icmp_eq (tgt := 1068) hx hb d_law_931 (by decide) (fun c1 => ?_) (fun c1 => absurd (hr1.trans (hp2.2.2.2.2).symm) c1)
  exact law_end C0 hS2 hl (by decide) (by decide)
set_option maxHeartbeats 4000000 in
set_option maxRecDepth 100000 in
theorem law_24 {p : Program} {l : Launch} {e : Env} {s : State} {m : MethodId} {below : List Frame} {meth : Method} {c : Code} {b h xo : Nat} {xs : Nat → Int32} {D : va_G} {E : cE} {T : cT} {L : List Nat} {f : pF} {D2 : mD} {E2 : mE} {q : Nat → Nat} {I : Nat → Int32} {J : Nat → Int64} {B : Nat → Nat → Int32} {G : Nat → Nat → Int64} {H : Heap} {locs : List Loc} {ls : Array Slot} (C0 : lw_At p s m meth c b 8 xs) (X : cX R_law p c code #[Value.ref b] s m D E) (KS : kS T (lA s) s s.heap) (KR : kR T s) (K2 : va_K D2.1 mCl (mTy E2) s) (Z2 : zS D2.2.1 D2.2.2.1 D2.2.2.2 (lA s) s s.heap) (R2 : zR D2.2.1 s) (Y : pH D cCl (lA s) s.heap L f H locs) (m_xo : xo ∈ L) {fsx : List Value} (e_xo : f xo = .inr (0, fsx)) (PM : va_P D2.1 mCl (mW E2 h q I J B G) H) (DM : va_D (lA s) (mW E2 h q I J B G)) (AP : ∀ (k : Nat) (x : Nat × va_E), (mW E2 h q I J B G)[k]? = some x → x.1 ∉ L) (MF : I 2 = nI 0 ∧ I 3 = nI 0 ∧ I 43 = nI 1 ∧ I 4 = nI 1000000000 ∧ (∀ j, B 91 j = nI 0) ∧ (∀ j, B 133 j = nI 0) ∧ B 46 0 = nI 1 ∧ B 45 0 = nI 12 ∧ by8 (B 12) ∧ by8 (B 13) ∧ by8 (B 16) ∧ by8 (B 17)) (hl : lv_has ls 4 [(3, .int (nI 0)), (2, .ref h), (1, .ref xo), (0, .ref b)]) {post : Int32 → cU → Prop} (hM : Met l y_H_assure (k_H_assure :: lw_tg) (kRm 2 43 0 (0)) (va_Pc [.ref xo, .int (xs (nI 1).toNatClampNeg), .int (xs (nI 2).toNatClampNeg)] (kPre D E T L f H.size)) (va_Qi post (cPost D E (pA L H.size)) (pA L H.size)) 0 (0) (pA L H.size)) (hpo : ∀ r u, post r u → r = (-1)) : W p l e room_1 s m #[Value.ref b] below meth c H locs 1000 400000 (lw_Z below #[Value.ref b] s) (F0 m 936 ls []) := by
  obtain ⟨hx, hb, hr, hml, hown, hts, hX, hbl, hlocks, hgv⟩ := id C0
  have hbA : ¬ lA s b := Nat.not_le.mpr hbl
  have hA : ∀ a, s.heap.size ≤ a → lA s a := fun _ h9 => h9
  obtain ⟨hm_L, hm_O, hm_P, hm_W, hm_A, hm_S, hm_V, hm_N, hm_12, hm_13, hm_16, hm_17⟩ := MF
  refine lv_aload_n hx hb d_law_936 rfl (lv_at hl 2 rfl) ?_
  refine lv_aload_n hx hb d_law_937 rfl (lv_at hl 3 rfl) ?_
  refine lv_iload_n hx hb d_law_938 rfl (lv_at hl 0 rfl) ?_
  refine lv_iconst (v := nI 1) hx hb d_law_939 (by decide) ?_
  refine lv_iadd hx hb d_law_940 ?_
  refine t_eq (y := nI 1) (by decide) ?_
  refine va_sld hx hb hX hbl hbA Y.2.2 (vp_in_nI (show 1 < 8 by decide) (by decide)) d_law_941 ?_
  refine lv_aload_n hx hb d_law_942 rfl (lv_at hl 3 rfl) ?_
  refine lv_iload_n hx hb d_law_943 rfl (lv_at hl 0 rfl) ?_
  refine lv_iconst (v := nI 2) hx hb d_law_944 (by decide) ?_
  refine lv_iadd hx hb d_law_945 ?_
  refine t_eq (y := nI 2) (by decide) ?_
  refine va_sld hx hb hX hbl hbA Y.2.2 (vp_in_nI (show 2 < 8 by decide) (by decide)) d_law_946 ?_
  refine l_x (x_runV (As := [.int (xs (nI 1).toNatClampNeg), .int (xs (nI 2).toNatClampNeg)]) (rest := []) (n := 2) X Y hml hl.1 hM (ok_k X Y hA KS KR) m_xo e_xo rfl kl_L_H_assure ks_H_assure kx_H_assure ki_H_assure ini_H ⟨rfl, rfl⟩ hd_H_assure ⟨by decide, by decide⟩ rfl (Nat.le_of_ble_eq_true rfl) d_law_947 ⟨by decide, by decide⟩) Y hA (fun r1 u1 H1 locs1 hp1 hz1 hk1 hS1 => ?_)
  have hr1 := hpo r1 u1 hp1
  have PM1 := l_keep PM AP hk1
  refine lv_aload_n hx hb d_law_950 rfl (lv_at hl 1 rfl) ?_
  refine lv_aload_n hx hb d_law_951 rfl (lv_at hl 3 rfl) ?_
  refine lv_iload_n hx hb d_law_952 rfl (lv_at hl 0 rfl) ?_
  refine lv_iconst (v := nI 1) hx hb d_law_953 (by decide) ?_
  refine lv_iadd hx hb d_law_954 ?_
  refine t_eq (y := nI 1) (by decide) ?_
  refine va_sld hx hb hX hbl hbA hS1 (vp_in_nI (show 1 < 8 by decide) (by decide)) d_law_955 ?_
  refine lv_aload_n hx hb d_law_956 rfl (lv_at hl 3 rfl) ?_
  refine lv_iload_n hx hb d_law_957 rfl (lv_at hl 0 rfl) ?_
  refine lv_iconst (v := nI 2) hx hb d_law_958 (by decide) ?_
  refine lv_iadd hx hb d_law_959 ?_
  refine t_eq (y := nI 2) (by decide) ?_
  refine va_sld hx hb hX hbl hbA hS1 (vp_in_nI (show 2 < 8 by decide) (by decide)) d_law_960 ?_
  refine l_m (As := [.int (xs (nI 1).toNatClampNeg), .int (xs (nI 2).toNatClampNeg)]) (rest := [.int r1]) (n := 2) hx hb X.2.2.1 hown K2 Z2 R2 PM1 DM hS1 hA hml hl.1 (c_assure_new l D2 E2 h q H1.size I J B G (xs (nI 1).toNatClampNeg) (xs (nI 2).toNatClampNeg) hm_L hm_S) kl_L_M_assure ks_assure kx_assure ki_assure hd_assure ⟨by decide, by decide⟩ rfl (Nat.le_of_ble_eq_true rfl) d_law_961 ⟨by decide, by decide⟩ (fun r2 u2 H2 locs2 hp2 hS2 => ?_)
  refine lv_icmp_eq (tgt := 1068) hx hb d_law_964 (by decide) (fun c1 => ?_) (fun c1 => absurd (hr1.trans (hp2.2.2.2.2).symm) c1)
  exact law_end C0 hS2 hl (by decide) (by decide)
set_option maxHeartbeats 4000000 in
set_option maxRecDepth 100000 in
theorem law_25 {p : Program} {l : Launch} {e : Env} {s : State} {m : MethodId} {below : List Frame} {meth : Method} {c : Code} {b h xo : Nat} {xs : Nat → Int32} {D : va_G} {E : cE} {T : cT} {L : List Nat} {f : pF} {D2 : mD} {E2 : mE} {q : Nat → Nat} {I : Nat → Int32} {J : Nat → Int64} {B : Nat → Nat → Int32} {G : Nat → Nat → Int64} {H : Heap} {locs : List Loc} {ls : Array Slot} (C0 : lw_At p s m meth c b 8 xs) (X : cX R_law p c code #[Value.ref b] s m D E) (KS : kS T (lA s) s s.heap) (KR : kR T s) (K2 : va_K D2.1 mCl (mTy E2) s) (Z2 : zS D2.2.1 D2.2.2.1 D2.2.2.2 (lA s) s s.heap) (R2 : zR D2.2.1 s) (Y : pH D cCl (lA s) s.heap L f H locs) (m_xo : xo ∈ L) {fsx : List Value} (e_xo : f xo = .inr (0, fsx)) (PM : va_P D2.1 mCl (mW E2 h q I J B G) H) (DM : va_D (lA s) (mW E2 h q I J B G)) (AP : ∀ (k : Nat) (x : Nat × va_E), (mW E2 h q I J B G)[k]? = some x → x.1 ∉ L) (MF : I 2 = nI 0 ∧ I 3 = nI 0 ∧ I 43 = nI 1 ∧ I 4 = nI 1000000000 ∧ (∀ j, B 91 j = nI 0) ∧ (∀ j, B 133 j = nI 0) ∧ B 46 0 = nI 1 ∧ B 45 0 = nI 12 ∧ by8 (B 12) ∧ by8 (B 13) ∧ by8 (B 16) ∧ by8 (B 17)) (hl : lv_has ls 4 [(3, .int (nI 0)), (2, .ref h), (1, .ref xo), (0, .ref b)]) {post : Int32 → cU → Prop} (hM : Met l y_H_assured (k_H_assured :: lw_tg) (kRm 2 43 0 (0)) (va_Pc [.ref xo, .int (xs (nI 1).toNatClampNeg), .int (xs (nI 2).toNatClampNeg)] (kPre D E T L f H.size)) (va_Qi post (cPost D E (pA L H.size)) (pA L H.size)) 0 (0) (pA L H.size)) (hpo : ∀ r u, post r u → r = (-1)) : W p l e room_1 s m #[Value.ref b] below meth c H locs 1000 400000 (lw_Z below #[Value.ref b] s) (F0 m 969 ls []) := by
  obtain ⟨hx, hb, hr, hml, hown, hts, hX, hbl, hlocks, hgv⟩ := id C0
  have hbA : ¬ lA s b := Nat.not_le.mpr hbl
  have hA : ∀ a, s.heap.size ≤ a → lA s a := fun _ h9 => h9
  obtain ⟨hm_L, hm_O, hm_P, hm_W, hm_A, hm_S, hm_V, hm_N, hm_12, hm_13, hm_16, hm_17⟩ := MF
  refine lv_aload_n hx hb d_law_969 rfl (lv_at hl 2 rfl) ?_
  refine lv_aload_n hx hb d_law_970 rfl (lv_at hl 3 rfl) ?_
  refine lv_iload_n hx hb d_law_971 rfl (lv_at hl 0 rfl) ?_
  refine lv_iconst (v := nI 1) hx hb d_law_972 (by decide) ?_
  refine lv_iadd hx hb d_law_973 ?_
  refine t_eq (y := nI 1) (by decide) ?_
  refine va_sld hx hb hX hbl hbA Y.2.2 (vp_in_nI (show 1 < 8 by decide) (by decide)) d_law_974 ?_
  refine lv_aload_n hx hb d_law_975 rfl (lv_at hl 3 rfl) ?_
  refine lv_iload_n hx hb d_law_976 rfl (lv_at hl 0 rfl) ?_
  refine lv_iconst (v := nI 2) hx hb d_law_977 (by decide) ?_
  refine lv_iadd hx hb d_law_978 ?_
  refine t_eq (y := nI 2) (by decide) ?_
  refine va_sld hx hb hX hbl hbA Y.2.2 (vp_in_nI (show 2 < 8 by decide) (by decide)) d_law_979 ?_
  refine l_x (x_runV (As := [.int (xs (nI 1).toNatClampNeg), .int (xs (nI 2).toNatClampNeg)]) (rest := []) (n := 2) X Y hml hl.1 hM (ok_k X Y hA KS KR) m_xo e_xo rfl kl_L_H_assured ks_H_assured kx_H_assured ki_H_assured ini_H ⟨rfl, rfl⟩ hd_H_assured ⟨by decide, by decide⟩ rfl (Nat.le_of_ble_eq_true rfl) d_law_980 ⟨by decide, by decide⟩) Y hA (fun r1 u1 H1 locs1 hp1 hz1 hk1 hS1 => ?_)
  have hr1 := hpo r1 u1 hp1
  have PM1 := l_keep PM AP hk1
  refine lv_aload_n hx hb d_law_983 rfl (lv_at hl 1 rfl) ?_
  refine lv_aload_n hx hb d_law_984 rfl (lv_at hl 3 rfl) ?_
  refine lv_iload_n hx hb d_law_985 rfl (lv_at hl 0 rfl) ?_
  refine lv_iconst (v := nI 1) hx hb d_law_986 (by decide) ?_
  refine lv_iadd hx hb d_law_987 ?_
  refine t_eq (y := nI 1) (by decide) ?_
  refine va_sld hx hb hX hbl hbA hS1 (vp_in_nI (show 1 < 8 by decide) (by decide)) d_law_988 ?_
  refine lv_aload_n hx hb d_law_989 rfl (lv_at hl 3 rfl) ?_
  refine lv_iload_n hx hb d_law_990 rfl (lv_at hl 0 rfl) ?_
  refine lv_iconst (v := nI 2) hx hb d_law_991 (by decide) ?_
  refine lv_iadd hx hb d_law_992 ?_
  refine t_eq (y := nI 2) (by decide) ?_
  refine va_sld hx hb hX hbl hbA hS1 (vp_in_nI (show 2 < 8 by decide) (by decide)) d_law_993 ?_
  refine l_m (As := [.int (xs (nI 1).toNatClampNeg), .int (xs (nI 2).toNatClampNeg)]) (rest := [.int r1]) (n := 2) hx hb X.2.2.1 hown K2 Z2 R2 PM1 DM hS1 hA hml hl.1 (c_assured_new l D2 E2 h q H1.size I J B G (xs (nI 1).toNatClampNeg) (xs (nI 2).toNatClampNeg) hm_L hm_S) kl_L_M_assured ks_assured kx_assured ki_assured hd_assured ⟨by decide, by decide⟩ rfl (Nat.le_of_ble_eq_true rfl) d_law_994 ⟨by decide, by decide⟩ (fun r2 u2 H2 locs2 hp2 hS2 => ?_)
  refine lv_icmp_eq (tgt := 1068) hx hb d_law_997 (by decide) (fun c1 => ?_) (fun c1 => absurd (hr1.trans (hp2.2.2.2.2).symm) c1)
  exact law_end C0 hS2 hl (by decide) (by decide)
set_option maxHeartbeats 4000000 in
set_option maxRecDepth 100000 in
theorem law_26 {p : Program} {l : Launch} {e : Env} {s : State} {m : MethodId} {below : List Frame} {meth : Method} {c : Code} {b h xo : Nat} {xs : Nat → Int32} {D : va_G} {E : cE} {T : cT} {L : List Nat} {f : pF} {D2 : mD} {E2 : mE} {q : Nat → Nat} {I : Nat → Int32} {J : Nat → Int64} {B : Nat → Nat → Int32} {G : Nat → Nat → Int64} {H : Heap} {locs : List Loc} {ls : Array Slot} (C0 : lw_At p s m meth c b 8 xs) (X : cX R_law p c code #[Value.ref b] s m D E) (KS : kS T (lA s) s s.heap) (KR : kR T s) (K2 : va_K D2.1 mCl (mTy E2) s) (Z2 : zS D2.2.1 D2.2.2.1 D2.2.2.2 (lA s) s s.heap) (R2 : zR D2.2.1 s) (Y : pH D cCl (lA s) s.heap L f H locs) (m_xo : xo ∈ L) {fsx : List Value} (e_xo : f xo = .inr (0, fsx)) (PM : va_P D2.1 mCl (mW E2 h q I J B G) H) (DM : va_D (lA s) (mW E2 h q I J B G)) (AP : ∀ (k : Nat) (x : Nat × va_E), (mW E2 h q I J B G)[k]? = some x → x.1 ∉ L) (MF : I 2 = nI 0 ∧ I 3 = nI 0 ∧ I 43 = nI 1 ∧ I 4 = nI 1000000000 ∧ (∀ j, B 91 j = nI 0) ∧ (∀ j, B 133 j = nI 0) ∧ B 46 0 = nI 1 ∧ B 45 0 = nI 12 ∧ by8 (B 12) ∧ by8 (B 13) ∧ by8 (B 16) ∧ by8 (B 17)) (hl : lv_has ls 4 [(3, .int (nI 0)), (2, .ref h), (1, .ref xo), (0, .ref b)]) {post : Int32 → cU → Prop} (hM : Met l y_H_hand (k_H_hand :: lw_tg) (kRm 2 43 0 (0)) (va_Pc [.ref xo, .int (xs (nI 1).toNatClampNeg), .int (xs (nI 2).toNatClampNeg)] (kPre D E T L f H.size)) (va_Qi post (cPost D E (pA L H.size)) (pA L H.size)) 0 (0) (pA L H.size)) (hpo : ∀ r u, post r u → r = (-1)) : W p l e room_1 s m #[Value.ref b] below meth c H locs 1000 400000 (lw_Z below #[Value.ref b] s) (F0 m 1002 ls []) := by
  obtain ⟨hx, hb, hr, hml, hown, hts, hX, hbl, hlocks, hgv⟩ := id C0
  have hbA : ¬ lA s b := Nat.not_le.mpr hbl
  have hA : ∀ a, s.heap.size ≤ a → lA s a := fun _ h9 => h9
  obtain ⟨hm_L, hm_O, hm_P, hm_W, hm_A, hm_S, hm_V, hm_N, hm_12, hm_13, hm_16, hm_17⟩ := MF
  refine lv_aload_n hx hb d_law_1002 rfl (lv_at hl 2 rfl) ?_
  refine lv_aload_n hx hb d_law_1003 rfl (lv_at hl 3 rfl) ?_
  refine lv_iload_n hx hb d_law_1004 rfl (lv_at hl 0 rfl) ?_
  refine lv_iconst (v := nI 1) hx hb d_law_1005 (by decide) ?_
  refine lv_iadd hx hb d_law_1006 ?_
  refine t_eq (y := nI 1) (by decide) ?_
  refine va_sld hx hb hX hbl hbA Y.2.2 (vp_in_nI (show 1 < 8 by decide) (by decide)) d_law_1007 ?_
  refine lv_aload_n hx hb d_law_1008 rfl (lv_at hl 3 rfl) ?_
  refine lv_iload_n hx hb d_law_1009 rfl (lv_at hl 0 rfl) ?_
  refine lv_iconst (v := nI 2) hx hb d_law_1010 (by decide) ?_
  refine lv_iadd hx hb d_law_1011 ?_
  refine t_eq (y := nI 2) (by decide) ?_
  refine va_sld hx hb hX hbl hbA Y.2.2 (vp_in_nI (show 2 < 8 by decide) (by decide)) d_law_1012 ?_
  refine l_x (x_runV (As := [.int (xs (nI 1).toNatClampNeg), .int (xs (nI 2).toNatClampNeg)]) (rest := []) (n := 2) X Y hml hl.1 hM (ok_k X Y hA KS KR) m_xo e_xo rfl kl_L_H_hand ks_H_hand kx_H_hand ki_H_hand ini_H ⟨rfl, rfl⟩ hd_H_hand ⟨by decide, by decide⟩ rfl (Nat.le_of_ble_eq_true rfl) d_law_1013 ⟨by decide, by decide⟩) Y hA (fun r1 u1 H1 locs1 hp1 hz1 hk1 hS1 => ?_)
  have hr1 := hpo r1 u1 hp1
  have PM1 := l_keep PM AP hk1
  refine lv_aload_n hx hb d_law_1016 rfl (lv_at hl 1 rfl) ?_
  refine lv_aload_n hx hb d_law_1017 rfl (lv_at hl 3 rfl) ?_
  refine lv_iload_n hx hb d_law_1018 rfl (lv_at hl 0 rfl) ?_
  refine lv_iconst (v := nI 1) hx hb d_law_1019 (by decide) ?_
  refine lv_iadd hx hb d_law_1020 ?_
  refine t_eq (y := nI 1) (by decide) ?_
  refine va_sld hx hb hX hbl hbA hS1 (vp_in_nI (show 1 < 8 by decide) (by decide)) d_law_1021 ?_
  refine lv_aload_n hx hb d_law_1022 rfl (lv_at hl 3 rfl) ?_
  refine lv_iload_n hx hb d_law_1023 rfl (lv_at hl 0 rfl) ?_
  refine lv_iconst (v := nI 2) hx hb d_law_1024 (by decide) ?_
  refine lv_iadd hx hb d_law_1025 ?_
  refine t_eq (y := nI 2) (by decide) ?_
  refine va_sld hx hb hX hbl hbA hS1 (vp_in_nI (show 2 < 8 by decide) (by decide)) d_law_1026 ?_
  refine l_m (As := [.int (xs (nI 1).toNatClampNeg), .int (xs (nI 2).toNatClampNeg)]) (rest := [.int r1]) (n := 2) hx hb X.2.2.1 hown K2 Z2 R2 PM1 DM hS1 hA hml hl.1 (c_hand_new l D2 E2 h q H1.size I J B G (xs (nI 1).toNatClampNeg) (xs (nI 2).toNatClampNeg) hm_S) kl_L_M_hand ks_hand kx_hand ki_hand hd_hand ⟨by decide, by decide⟩ rfl (Nat.le_of_ble_eq_true rfl) d_law_1027 ⟨by decide, by decide⟩ (fun r2 u2 H2 locs2 hp2 hS2 => ?_)
  refine lv_icmp_eq (tgt := 1068) hx hb d_law_1030 (by decide) (fun c1 => ?_) (fun c1 => absurd (hr1.trans (hp2.2.2.2.2).symm) c1)
  exact law_end C0 hS2 hl (by decide) (by decide)
set_option maxHeartbeats 4000000 in
set_option maxRecDepth 100000 in
theorem law_27 {p : Program} {l : Launch} {e : Env} {s : State} {m : MethodId} {below : List Frame} {meth : Method} {c : Code} {b h xo : Nat} {xs : Nat → Int32} {D : va_G} {E : cE} {T : cT} {L : List Nat} {f : pF} {D2 : mD} {E2 : mE} {q : Nat → Nat} {I : Nat → Int32} {J : Nat → Int64} {B : Nat → Nat → Int32} {G : Nat → Nat → Int64} {H : Heap} {locs : List Loc} {ls : Array Slot} (C0 : lw_At p s m meth c b 8 xs) (X : cX R_law p c code #[Value.ref b] s m D E) (KS : kS T (lA s) s s.heap) (KR : kR T s) (K2 : va_K D2.1 mCl (mTy E2) s) (Z2 : zS D2.2.1 D2.2.2.1 D2.2.2.2 (lA s) s s.heap) (R2 : zR D2.2.1 s) (Y : pH D cCl (lA s) s.heap L f H locs) (m_xo : xo ∈ L) {fsx : List Value} (e_xo : f xo = .inr (0, fsx)) (PM : va_P D2.1 mCl (mW E2 h q I J B G) H) (DM : va_D (lA s) (mW E2 h q I J B G)) (AP : ∀ (k : Nat) (x : Nat × va_E), (mW E2 h q I J B G)[k]? = some x → x.1 ∉ L) (MF : I 2 = nI 0 ∧ I 3 = nI 0 ∧ I 43 = nI 1 ∧ I 4 = nI 1000000000 ∧ (∀ j, B 91 j = nI 0) ∧ (∀ j, B 133 j = nI 0) ∧ B 46 0 = nI 1 ∧ B 45 0 = nI 12 ∧ by8 (B 12) ∧ by8 (B 13) ∧ by8 (B 16) ∧ by8 (B 17)) (hl : lv_has ls 4 [(3, .int (nI 0)), (2, .ref h), (1, .ref xo), (0, .ref b)]) {post : Int32 → cU → Prop} (hM : Met l y_H_handed (k_H_handed :: lw_tg) (kRm 1 21 0 (0)) (va_Pc [.ref xo, .int (xs (nI 1).toNatClampNeg), .int (xs (nI 2).toNatClampNeg)] (kPre D E T L f H.size)) (va_Qi post (cPost D E (pA L H.size)) (pA L H.size)) 0 (0) (pA L H.size)) (hpo : ∀ r u, post r u → r = (-1)) : W p l e room_1 s m #[Value.ref b] below meth c H locs 1000 400000 (lw_Z below #[Value.ref b] s) (F0 m 1035 ls []) := by
  obtain ⟨hx, hb, hr, hml, hown, hts, hX, hbl, hlocks, hgv⟩ := id C0
  have hbA : ¬ lA s b := Nat.not_le.mpr hbl
  have hA : ∀ a, s.heap.size ≤ a → lA s a := fun _ h9 => h9
  obtain ⟨hm_L, hm_O, hm_P, hm_W, hm_A, hm_S, hm_V, hm_N, hm_12, hm_13, hm_16, hm_17⟩ := MF
  refine lv_aload_n hx hb d_law_1035 rfl (lv_at hl 2 rfl) ?_
  refine lv_aload_n hx hb d_law_1036 rfl (lv_at hl 3 rfl) ?_
  refine lv_iload_n hx hb d_law_1037 rfl (lv_at hl 0 rfl) ?_
  refine lv_iconst (v := nI 1) hx hb d_law_1038 (by decide) ?_
  refine lv_iadd hx hb d_law_1039 ?_
  refine t_eq (y := nI 1) (by decide) ?_
  refine va_sld hx hb hX hbl hbA Y.2.2 (vp_in_nI (show 1 < 8 by decide) (by decide)) d_law_1040 ?_
  refine lv_aload_n hx hb d_law_1041 rfl (lv_at hl 3 rfl) ?_
  refine lv_iload_n hx hb d_law_1042 rfl (lv_at hl 0 rfl) ?_
  refine lv_iconst (v := nI 2) hx hb d_law_1043 (by decide) ?_
  refine lv_iadd hx hb d_law_1044 ?_
  refine t_eq (y := nI 2) (by decide) ?_
  refine va_sld hx hb hX hbl hbA Y.2.2 (vp_in_nI (show 2 < 8 by decide) (by decide)) d_law_1045 ?_
  refine l_x (x_runV (As := [.int (xs (nI 1).toNatClampNeg), .int (xs (nI 2).toNatClampNeg)]) (rest := []) (n := 2) X Y hml hl.1 hM (ok_k X Y hA KS KR) m_xo e_xo rfl kl_L_H_handed ks_H_handed kx_H_handed ki_H_handed ini_H ⟨rfl, rfl⟩ hd_H_handed ⟨by decide, by decide⟩ rfl (Nat.le_of_ble_eq_true rfl) d_law_1046 ⟨by decide, by decide⟩) Y hA (fun r1 u1 H1 locs1 hp1 hz1 hk1 hS1 => ?_)
  have hr1 := hpo r1 u1 hp1
  have PM1 := l_keep PM AP hk1
  refine lv_aload_n hx hb d_law_1049 rfl (lv_at hl 1 rfl) ?_
  refine lv_aload_n hx hb d_law_1050 rfl (lv_at hl 3 rfl) ?_
  refine lv_iload_n hx hb d_law_1051 rfl (lv_at hl 0 rfl) ?_
  refine lv_iconst (v := nI 1) hx hb d_law_1052 (by decide) ?_
  refine lv_iadd hx hb d_law_1053 ?_
  refine t_eq (y := nI 1) (by decide) ?_
  refine va_sld hx hb hX hbl hbA hS1 (vp_in_nI (show 1 < 8 by decide) (by decide)) d_law_1054 ?_
  refine lv_aload_n hx hb d_law_1055 rfl (lv_at hl 3 rfl) ?_
  refine lv_iload_n hx hb d_law_1056 rfl (lv_at hl 0 rfl) ?_
  refine lv_iconst (v := nI 2) hx hb d_law_1057 (by decide) ?_
  refine lv_iadd hx hb d_law_1058 ?_
  refine t_eq (y := nI 2) (by decide) ?_
  refine va_sld hx hb hX hbl hbA hS1 (vp_in_nI (show 2 < 8 by decide) (by decide)) d_law_1059 ?_
  refine l_m (As := [.int (xs (nI 1).toNatClampNeg), .int (xs (nI 2).toNatClampNeg)]) (rest := [.int r1]) (n := 2) hx hb X.2.2.1 hown K2 Z2 R2 PM1 DM hS1 hA hml hl.1 (c_handed_new l D2 E2 h q H1.size I J B G (xs (nI 1).toNatClampNeg) (xs (nI 2).toNatClampNeg) hm_L hm_S) kl_L_M_handed ks_handed kx_handed ki_handed hd_handed ⟨by decide, by decide⟩ rfl (Nat.le_of_ble_eq_true rfl) d_law_1060 ⟨by decide, by decide⟩ (fun r2 u2 H2 locs2 hp2 hS2 => ?_)
  refine lv_icmp_eq (tgt := 1068) hx hb d_law_1063 (by decide) (fun c1 => ?_) (fun c1 => absurd (hr1.trans (hp2.2.2.2.2).symm) c1)
  exact law_end C0 hS2 hl (by decide) (by decide)
set_option maxHeartbeats 4000000 in
theorem law_sw {p : Program} {l : Launch} {e : Env} {s : State} {m : MethodId} {below : List Frame} {meth : Method} {c : Code} {b : Nat} {H : Heap} {locs : List Loc} {cells slots : Nat} {ls : Array Slot} {Q : State → Prop} (hx : p.tables.exec = Jvm.exec) (hb : c.code = code) (j : Nat) (hj : j < 32) (h0 : W p l e room_1 s m #[Value.ref b] below meth c H locs cells slots Q (F0 m 160 ls [])) (h1 : W p l e room_1 s m #[Value.ref b] below meth c H locs cells slots Q (F0 m 223 ls [])) (h2 : W p l e room_1 s m #[Value.ref b] below meth c H locs cells slots Q (F0 m 246 ls [])) (h3 : W p l e room_1 s m #[Value.ref b] below meth c H locs cells slots Q (F0 m 279 ls [])) (h4 : W p l e room_1 s m #[Value.ref b] below meth c H locs cells slots Q (F0 m 302 ls [])) (h5 : W p l e room_1 s m #[Value.ref b] below meth c H locs cells slots Q (F0 m 325 ls [])) (h6 : W p l e room_1 s m #[Value.ref b] below meth c H locs cells slots Q (F0 m 338 ls [])) (h7 : W p l e room_1 s m #[Value.ref b] below meth c H locs cells slots Q (F0 m 361 ls [])) (h8 : W p l e room_1 s m #[Value.ref b] below meth c H locs cells slots Q (F0 m 394 ls [])) (h9 : W p l e room_1 s m #[Value.ref b] below meth c H locs cells slots Q (F0 m 437 ls [])) (h10 : W p l e room_1 s m #[Value.ref b] below meth c H locs cells slots Q (F0 m 460 ls [])) (h11 : W p l e room_1 s m #[Value.ref b] below meth c H locs cells slots Q (F0 m 473 ls [])) (h12 : W p l e room_1 s m #[Value.ref b] below meth c H locs cells slots Q (F0 m 506 ls [])) (h13 : W p l e room_1 s m #[Value.ref b] below meth c H locs cells slots Q (F0 m 539 ls [])) (h14 : W p l e room_1 s m #[Value.ref b] below meth c H locs cells slots Q (F0 m 626 ls [])) (h15 : W p l e room_1 s m #[Value.ref b] below meth c H locs cells slots Q (F0 m 649 ls [])) (h16 : W p l e room_1 s m #[Value.ref b] below meth c H locs cells slots Q (F0 m 692 ls [])) (h17 : W p l e room_1 s m #[Value.ref b] below meth c H locs cells slots Q (F0 m 725 ls [])) (h18 : W p l e room_1 s m #[Value.ref b] below meth c H locs cells slots Q (F0 m 768 ls [])) (h19 : W p l e room_1 s m #[Value.ref b] below meth c H locs cells slots Q (F0 m 791 ls [])) (h20 : W p l e room_1 s m #[Value.ref b] below meth c H locs cells slots Q (F0 m 814 ls [])) (h21 : W p l e room_1 s m #[Value.ref b] below meth c H locs cells slots Q (F0 m 847 ls [])) (h22 : W p l e room_1 s m #[Value.ref b] below meth c H locs cells slots Q (F0 m 880 ls [])) (h23 : W p l e room_1 s m #[Value.ref b] below meth c H locs cells slots Q (F0 m 913 ls [])) (h24 : W p l e room_1 s m #[Value.ref b] below meth c H locs cells slots Q (F0 m 936 ls [])) (h25 : W p l e room_1 s m #[Value.ref b] below meth c H locs cells slots Q (F0 m 969 ls [])) (h26 : W p l e room_1 s m #[Value.ref b] below meth c H locs cells slots Q (F0 m 1002 ls [])) (h27 : W p l e room_1 s m #[Value.ref b] below meth c H locs cells slots Q (F0 m 1035 ls [])) (hz : W p l e room_1 s m #[Value.ref b] below meth c H locs cells slots Q (F0 m 1068 ls [])) : W p l e room_1 s m #[Value.ref b] below meth c H locs cells slots Q (F0 m 33 ls [.int (nI j)]) := by
  rcases Nat.lt_or_ge j 28 with hj2 | hj2
  · rcases (show j = 0 ∨ j = 1 ∨ j = 2 ∨ j = 3 ∨ j = 4 ∨ j = 5 ∨ j = 6 ∨ j = 7 ∨ j = 8 ∨ j = 9 ∨ j = 10 ∨ j = 11 ∨ j = 12 ∨ j = 13 ∨ j = 14 ∨ j = 15 ∨ j = 16 ∨ j = 17 ∨ j = 18 ∨ j = 19 ∨ j = 20 ∨ j = 21 ∨ j = 22 ∨ j = 23 ∨ j = 24 ∨ j = 25 ∨ j = 26 ∨ j = 27 by omega) with rfl | rfl | rfl | rfl | rfl | rfl | rfl | rfl | rfl | rfl | rfl | rfl | rfl | rfl | rfl | rfl | rfl | rfl | rfl | rfl | rfl | rfl | rfl | rfl | rfl | rfl | rfl | rfl
    · exact lv_tableIn (x := nI 0) (off := 127) (tgt := 160) hx hb d_law_33 (by decide) (by decide) (by decide) (by decide) h0
    · exact lv_tableIn (x := nI 1) (off := 190) (tgt := 223) hx hb d_law_33 (by decide) (by decide) (by decide) (by decide) h1
    · exact lv_tableIn (x := nI 2) (off := 213) (tgt := 246) hx hb d_law_33 (by decide) (by decide) (by decide) (by decide) h2
    · exact lv_tableIn (x := nI 3) (off := 246) (tgt := 279) hx hb d_law_33 (by decide) (by decide) (by decide) (by decide) h3
    · exact lv_tableIn (x := nI 4) (off := 269) (tgt := 302) hx hb d_law_33 (by decide) (by decide) (by decide) (by decide) h4
    · exact lv_tableIn (x := nI 5) (off := 292) (tgt := 325) hx hb d_law_33 (by decide) (by decide) (by decide) (by decide) h5
    · exact lv_tableIn (x := nI 6) (off := 305) (tgt := 338) hx hb d_law_33 (by decide) (by decide) (by decide) (by decide) h6
    · exact lv_tableIn (x := nI 7) (off := 328) (tgt := 361) hx hb d_law_33 (by decide) (by decide) (by decide) (by decide) h7
    · exact lv_tableIn (x := nI 8) (off := 361) (tgt := 394) hx hb d_law_33 (by decide) (by decide) (by decide) (by decide) h8
    · exact lv_tableIn (x := nI 9) (off := 404) (tgt := 437) hx hb d_law_33 (by decide) (by decide) (by decide) (by decide) h9
    · exact lv_tableIn (x := nI 10) (off := 427) (tgt := 460) hx hb d_law_33 (by decide) (by decide) (by decide) (by decide) h10
    · exact lv_tableIn (x := nI 11) (off := 440) (tgt := 473) hx hb d_law_33 (by decide) (by decide) (by decide) (by decide) h11
    · exact lv_tableIn (x := nI 12) (off := 473) (tgt := 506) hx hb d_law_33 (by decide) (by decide) (by decide) (by decide) h12
    · exact lv_tableIn (x := nI 13) (off := 506) (tgt := 539) hx hb d_law_33 (by decide) (by decide) (by decide) (by decide) h13
    · exact lv_tableIn (x := nI 14) (off := 593) (tgt := 626) hx hb d_law_33 (by decide) (by decide) (by decide) (by decide) h14
    · exact lv_tableIn (x := nI 15) (off := 616) (tgt := 649) hx hb d_law_33 (by decide) (by decide) (by decide) (by decide) h15
    · exact lv_tableIn (x := nI 16) (off := 659) (tgt := 692) hx hb d_law_33 (by decide) (by decide) (by decide) (by decide) h16
    · exact lv_tableIn (x := nI 17) (off := 692) (tgt := 725) hx hb d_law_33 (by decide) (by decide) (by decide) (by decide) h17
    · exact lv_tableIn (x := nI 18) (off := 735) (tgt := 768) hx hb d_law_33 (by decide) (by decide) (by decide) (by decide) h18
    · exact lv_tableIn (x := nI 19) (off := 758) (tgt := 791) hx hb d_law_33 (by decide) (by decide) (by decide) (by decide) h19
    · exact lv_tableIn (x := nI 20) (off := 781) (tgt := 814) hx hb d_law_33 (by decide) (by decide) (by decide) (by decide) h20
    · exact lv_tableIn (x := nI 21) (off := 814) (tgt := 847) hx hb d_law_33 (by decide) (by decide) (by decide) (by decide) h21
    · exact lv_tableIn (x := nI 22) (off := 847) (tgt := 880) hx hb d_law_33 (by decide) (by decide) (by decide) (by decide) h22
    · exact lv_tableIn (x := nI 23) (off := 880) (tgt := 913) hx hb d_law_33 (by decide) (by decide) (by decide) (by decide) h23
    · exact lv_tableIn (x := nI 24) (off := 903) (tgt := 936) hx hb d_law_33 (by decide) (by decide) (by decide) (by decide) h24
    · exact lv_tableIn (x := nI 25) (off := 936) (tgt := 969) hx hb d_law_33 (by decide) (by decide) (by decide) (by decide) h25
    · exact lv_tableIn (x := nI 26) (off := 969) (tgt := 1002) hx hb d_law_33 (by decide) (by decide) (by decide) (by decide) h26
    · exact lv_tableIn (x := nI 27) (off := 1002) (tgt := 1035) hx hb d_law_33 (by decide) (by decide) (by decide) (by decide) h27
  · exact lv_tableOut (x := nI j) (tgt := 1068) hx hb d_law_33 (Or.inr (by rw [nI_toInt (by omega)]; omega)) (by decide) hz
