set_option maxHeartbeats 4000000 in
set_option maxRecDepth 100000 in
theorem law_0 {p : Program} {l : Launch} {e : Env} {s : State} {m : MethodId} {below : List Frame} {meth : Method} {c : Code} {b h xo cn0 tp n : Nat} {k : Int} {xs : Nat → Int32} {D : va_G} {E : cE} {T : cT} {κ : tK} {L : List Nat} {f : pF} {D2 : mD} {E2 : mE} {q : Nat → Nat} {I : Nat → Int32} {J : Nat → Int64} {B : Nat → Nat → Int32} {G : Nat → Nat → Int64} {H : Heap} {locs : List Loc} {cells slots : Nat} {ls : Array Slot} (C0 : lw_At p s m meth c b n xs) (hk0 : 0 ≤ k) (hk : 8 * k + 8 ≤ n) (hn : n ≤ 4096) (X : cX R_law p c code #[Value.ref b] s m D E) (KS : kS T (lA s) s s.heap) (KR : kR T s) (K2 : va_K D2.1 mCl (mTy E2) s) (Z2 : zS D2.2.1 D2.2.2.1 D2.2.2.2 (lA s) s s.heap) (R2 : zR D2.2.1 s) (Y : pH D cCl (lA s) s.heap L f H locs) (hw : tW E T κ L f) (kx : κ xo = (10, 0)) (c6 : gF f xo 6 = .ref cn0) (c3 : gF f cn0 3 = .ref tp) (c1 : gF f xo 1 = .ref tp) (PM : va_P D2.1 mCl (mW E2 h q I J B G) H) (DM : va_D (lA s) (mW E2 h q I J B G)) (AP : ∀ (k : Nat) (x : Nat × va_E), (mW E2 h q I J B G)[k]? = some x → x.1 ∉ L) (IV : LIv k I B) (hc : (cells : Int) ≤ 1000 + 3 * k) (hs : (slots : Int) ≤ 400000 + 4100 * k) (hl : lv_has ls 4 [(3, .int (iI (8 * k))), (2, .ref h), (1, .ref xo), (0, .ref b)]) (kk : ∀ (κ : tK) (L : List Nat) (f : pF) (I : Nat → Int32) (J : Nat → Int64) (B : Nat → Nat → Int32) (G : Nat → Nat → Int64) (H : Heap) (locs : List Loc) (cells slots : Nat), pH D cCl (lA s) s.heap L f H locs → tW E T κ L f → κ xo = (10, 0) → gF f xo 6 = .ref cn0 → gF f cn0 3 = .ref tp → gF f xo 1 = .ref tp → va_P D2.1 mCl (mW E2 h q I J B G) H → va_D (lA s) (mW E2 h q I J B G) → (∀ (k : Nat) (x : Nat × va_E), (mW E2 h q I J B G)[k]? = some x → x.1 ∉ L) → LIv (k + 1) I B → (cells : Int) ≤ 1000 + 3 * (k + 1) → (slots : Int) ≤ 400000 + 4100 * (k + 1) → W p l e room_1 s m #[Value.ref b] below meth c H locs cells slots (lw_Z below #[Value.ref b] s) (F0 m 1068 ls [])) : W p l e room_1 s m #[Value.ref b] below meth c H locs cells slots (lw_Z below #[Value.ref b] s) (F0 m 160 ls []) := by
  obtain ⟨hx, hb, hr, hml, hown, hts, hX, hbl, hlocks, hgv⟩ := id C0
  have hbA : ¬ lA s b := Nat.not_le.mpr hbl
  have hA : ∀ a, s.heap.size ≤ a → lA s a := fun _ h9 => h9
  obtain ⟨hT, f_P1, f_P2, f_FT, f_FA, f_V, cn, gcn, lcn, ucn⟩ := IV
  have S0 : tS E T (tFr κ L [] []) κ L f κ L f := tS_rf hw
  refine lv_aload_n hx hb d_law_160 rfl (lv_at hl 2 rfl) ?_
  refine lv_aload_n hx hb d_law_161 rfl (lv_at hl 3 rfl) ?_
  refine lv_iload_n hx hb d_law_162 rfl (lv_at hl 0 rfl) ?_
  refine lv_iconst (v := iI 1) hx hb d_law_163 (by decide) ?_
  refine z_iadd hx hb d_law_164 ?_
  refine va_sld hx hb hX hbl hbA Y.2.2 (iI_in (by omega) (by omega) (by omega)) d_law_165 ?_
  refine t_eq (iI_of _) ?_
  refine lv_aload_n hx hb d_law_166 rfl (lv_at hl 3 rfl) ?_
  refine lv_iload_n hx hb d_law_167 rfl (lv_at hl 0 rfl) ?_
  refine lv_iconst (v := iI 2) hx hb d_law_168 (by decide) ?_
  refine z_iadd hx hb d_law_169 ?_
  refine va_sld hx hb hX hbl hbA Y.2.2 (iI_in (by omega) (by omega) (by omega)) d_law_170 ?_
  refine t_eq (iI_of _) ?_
  refine lv_aload_n hx hb d_law_171 rfl (lv_at hl 3 rfl) ?_
  refine lv_iload_n hx hb d_law_172 rfl (lv_at hl 0 rfl) ?_
  refine lv_iconst (v := iI 3) hx hb d_law_173 (by decide) ?_
  refine z_iadd hx hb d_law_174 ?_
  refine va_sld hx hb hX hbl hbA Y.2.2 (iI_in (by omega) (by omega) (by omega)) d_law_175 ?_
  refine t_eq (iI_of _) ?_
  refine lv_aload_n hx hb d_law_176 rfl (lv_at hl 3 rfl) ?_
  refine lv_iload_n hx hb d_law_177 rfl (lv_at hl 0 rfl) ?_
  refine lv_iconst (v := iI 4) hx hb d_law_178 (by decide) ?_
  refine z_iadd hx hb d_law_179 ?_
  refine va_sld hx hb hX hbl hbA Y.2.2 (iI_in (by omega) (by omega) (by omega)) d_law_180 ?_
  refine t_eq (iI_of _) ?_
  refine lv_aload_n hx hb d_law_181 rfl (lv_at hl 3 rfl) ?_
  refine lv_iload_n hx hb d_law_182 rfl (lv_at hl 0 rfl) ?_
  refine lv_iconst (v := iI 5) hx hb d_law_183 (by decide) ?_
  refine z_iadd hx hb d_law_184 ?_
  refine va_sld hx hb hX hbl hbA Y.2.2 (iI_in (by omega) (by omega) (by omega)) d_law_185 ?_
  refine t_eq (iI_of _) ?_
  refine lx_i (t_runV (As := [.int (iI (xs (iI (8 * k + 1)).toNatClampNeg).toInt), .int (iI (xs (iI (8 * k + 2)).toNatClampNeg).toInt), .int (iI (xs (iI (8 * k + 3)).toNatClampNeg).toInt), .int (iI (xs (iI (8 * k + 4)).toNatClampNeg).toInt), .int (iI (xs (iI (8 * k + 5)).toNatClampNeg).toInt)]) (rest := []) (n := 5) X Y S0 kx hml hl.1 (c_H_feed l D E T κ L f H.size xo kx (xs (iI (8 * k + 1)).toNatClampNeg).toInt (iI_r _).1 (iI_r _).2 (xs (iI (8 * k + 2)).toNatClampNeg).toInt (iI_r _).1 (iI_r _).2 (xs (iI (8 * k + 3)).toNatClampNeg).toInt (iI_r _).1 (iI_r _).2 (xs (iI (8 * k + 4)).toNatClampNeg).toInt (iI_r _).1 (iI_r _).2 (xs (iI (8 * k + 5)).toNatClampNeg).toInt (iI_r _).1 (iI_r _).2 hw) (ok_k X Y hA KS KR) rfl kl_L_H_feed ks_H_feed kx_H_feed ki_H_feed ini_H ⟨rfl, rfl⟩ hd_H_feed ⟨by decide, by decide⟩ rfl (Nat.le_of_ble_eq_true rfl) d_law_186 ⟨by show cells + 0 ≤ 600000; omega, by show slots + 0 ≤ 7302250; omega⟩) X Y hA PM AP (fun r1 u1 H1 locs1 hp1 Y1 PM1 AP1 => ?_)
  obtain ⟨L1, f1⟩ := u1
  dsimp only at Y1 AP1
  obtain ⟨e1, S1, z1, ez1, q1⟩ := hp1
  dsimp only at e1 S1
  subst e1
  have N1 := lc_next S1 hw kx c6 c3 c1 (by decide) (by decide)
  refine lv_pop hx hb d_law_189 rfl ?_
  refine lv_aload_n hx hb d_law_190 rfl (lv_at hl 1 rfl) ?_
  refine lv_aload_n hx hb d_law_191 rfl (lv_at hl 3 rfl) ?_
  refine lv_iload_n hx hb d_law_192 rfl (lv_at hl 0 rfl) ?_
  refine lv_iconst (v := iI 1) hx hb d_law_193 (by decide) ?_
  refine z_iadd hx hb d_law_194 ?_
  refine va_sld hx hb hX hbl hbA Y1.2.2 (iI_in (by omega) (by omega) (by omega)) d_law_195 ?_
  refine t_eq (iI_of _) ?_
  refine lv_aload_n hx hb d_law_196 rfl (lv_at hl 3 rfl) ?_
  refine lv_iload_n hx hb d_law_197 rfl (lv_at hl 0 rfl) ?_
  refine lv_iconst (v := iI 2) hx hb d_law_198 (by decide) ?_
  refine z_iadd hx hb d_law_199 ?_
  refine va_sld hx hb hX hbl hbA Y1.2.2 (iI_in (by omega) (by omega) (by omega)) d_law_200 ?_
  refine t_eq (iI_of _) ?_
  refine lv_aload_n hx hb d_law_201 rfl (lv_at hl 3 rfl) ?_
  refine lv_iload_n hx hb d_law_202 rfl (lv_at hl 0 rfl) ?_
  refine lv_iconst (v := iI 3) hx hb d_law_203 (by decide) ?_
  refine z_iadd hx hb d_law_204 ?_
  refine va_sld hx hb hX hbl hbA Y1.2.2 (iI_in (by omega) (by omega) (by omega)) d_law_205 ?_
  refine t_eq (iI_of _) ?_
  refine lv_aload_n hx hb d_law_206 rfl (lv_at hl 3 rfl) ?_
  refine lv_iload_n hx hb d_law_207 rfl (lv_at hl 0 rfl) ?_
  refine lv_iconst (v := iI 4) hx hb d_law_208 (by decide) ?_
  refine z_iadd hx hb d_law_209 ?_
  refine va_sld hx hb hX hbl hbA Y1.2.2 (iI_in (by omega) (by omega) (by omega)) d_law_210 ?_
  refine t_eq (iI_of _) ?_
  refine lv_aload_n hx hb d_law_211 rfl (lv_at hl 3 rfl) ?_
  refine lv_iload_n hx hb d_law_212 rfl (lv_at hl 0 rfl) ?_
  refine lv_iconst (v := iI 5) hx hb d_law_213 (by decide) ?_
  refine z_iadd hx hb d_law_214 ?_
  refine va_sld hx hb hX hbl hbA Y1.2.2 (iI_in (by omega) (by omega) (by omega)) d_law_215 ?_
  refine t_eq (iI_of _) ?_
  refine lm_i (As := [.int (iI (xs (iI (8 * k + 1)).toNatClampNeg).toInt), .int (iI (xs (iI (8 * k + 2)).toNatClampNeg).toInt), .int (iI (xs (iI (8 * k + 3)).toNatClampNeg).toInt), .int (iI (xs (iI (8 * k + 4)).toNatClampNeg).toInt), .int (iI (xs (iI (8 * k + 5)).toNatClampNeg).toInt)]) (rest := []) (n := 5) hx hb X.2.2.1 hown K2 Z2 R2 Y1 PM1 DM AP1 hA hml hl.1 (r_M_feed l D2 E2 h q H1.size I J B G (xs (iI (8 * k + 1)).toNatClampNeg).toInt (iI_r _).1 (iI_r _).2 (xs (iI (8 * k + 2)).toNatClampNeg).toInt (iI_r _).1 (iI_r _).2 (xs (iI (8 * k + 3)).toNatClampNeg).toInt (iI_r _).1 (iI_r _).2 (xs (iI (8 * k + 4)).toNatClampNeg).toInt (iI_r _).1 (iI_r _).2 (xs (iI (8 * k + 5)).toNatClampNeg).toInt (iI_r _).1 (iI_r _).2 hT) kl_L_M_feed ks_M_feed kx_M_feed ki_M_feed hd_M_feed ⟨by decide, by decide⟩ rfl (Nat.le_of_ble_eq_true rfl) d_law_216 ⟨by show cells + 0 ≤ 600000; omega, by show slots + 0 ≤ 7302250; omega⟩ (fun r2 u2 H2 locs2 hp2 Y2 PM2 DM2 AP2 => ?_)
  obtain ⟨I2, J2, B2, G2⟩ := u2
  obtain ⟨S2, z2, ez2, q2⟩ := hp2
  dsimp only at S2 q2 PM2 DM2 AP2
  obtain ⟨lz, uz⟩ := q2
  have IV2 : LIv (k + 1) I2 B2 := ⟨S2.1, (pG1_cg (S2.2.1 39 (by decide)) (S2.2.1 40 (by decide)) f_P1), (pG2_cg (S2.2.2 37 (by decide)) (S2.2.2 38 (by decide)) f_P2), (stT_cg (S2.2.2 97 (by decide)) (S2.2.2 98 (by decide)) (S2.2.2 100 (by decide)) (S2.2.2 107 (by decide)) (S2.2.2 108 (by decide)) (S2.2.2 109 (by decide)) f_FT), (stA_cg (S2.2.2 110 (by decide)) (S2.2.2 118 (by decide)) (S2.2.2 119 (by decide)) (S2.2.2 120 (by decide)) f_FA), (vB_le (show 1 + k ≤ 1 + (k + 1) by omega) (vB_cg (S2.2.2 46 (by decide)) f_V)), ⟨cn, (S2.2.1 33 (by decide)).trans gcn, by omega, by omega⟩⟩
  refine lv_pop hx hb d_law_219 rfl ?_
  refine lv_goto (tgt := 1068) hx hb d_law_220 (by decide) ?_
  exact kk κ L1 f1 I2 J2 B2 G2 H2 locs2 _ _ Y2 N1.1 N1.2.1 N1.2.2.1 N1.2.2.2.1 N1.2.2.2.2 PM2 DM2 AP2 IV2 (by omega) (by omega)
set_option maxHeartbeats 4000000 in
set_option maxRecDepth 100000 in
theorem law_1 {p : Program} {l : Launch} {e : Env} {s : State} {m : MethodId} {below : List Frame} {meth : Method} {c : Code} {b h xo cn0 tp n : Nat} {k : Int} {xs : Nat → Int32} {D : va_G} {E : cE} {T : cT} {κ : tK} {L : List Nat} {f : pF} {D2 : mD} {E2 : mE} {q : Nat → Nat} {I : Nat → Int32} {J : Nat → Int64} {B : Nat → Nat → Int32} {G : Nat → Nat → Int64} {H : Heap} {locs : List Loc} {cells slots : Nat} {ls : Array Slot} (C0 : lw_At p s m meth c b n xs) (hk0 : 0 ≤ k) (hk : 8 * k + 8 ≤ n) (hn : n ≤ 4096) (X : cX R_law p c code #[Value.ref b] s m D E) (KS : kS T (lA s) s s.heap) (KR : kR T s) (K2 : va_K D2.1 mCl (mTy E2) s) (Z2 : zS D2.2.1 D2.2.2.1 D2.2.2.2 (lA s) s s.heap) (R2 : zR D2.2.1 s) (Y : pH D cCl (lA s) s.heap L f H locs) (hw : tW E T κ L f) (kx : κ xo = (10, 0)) (c6 : gF f xo 6 = .ref cn0) (c3 : gF f cn0 3 = .ref tp) (c1 : gF f xo 1 = .ref tp) (PM : va_P D2.1 mCl (mW E2 h q I J B G) H) (DM : va_D (lA s) (mW E2 h q I J B G)) (AP : ∀ (k : Nat) (x : Nat × va_E), (mW E2 h q I J B G)[k]? = some x → x.1 ∉ L) (IV : LIv k I B) (hc : (cells : Int) ≤ 1000 + 3 * k) (hs : (slots : Int) ≤ 400000 + 4100 * k) (hl : lv_has ls 4 [(3, .int (iI (8 * k))), (2, .ref h), (1, .ref xo), (0, .ref b)]) (kk : ∀ (κ : tK) (L : List Nat) (f : pF) (I : Nat → Int32) (J : Nat → Int64) (B : Nat → Nat → Int32) (G : Nat → Nat → Int64) (H : Heap) (locs : List Loc) (cells slots : Nat), pH D cCl (lA s) s.heap L f H locs → tW E T κ L f → κ xo = (10, 0) → gF f xo 6 = .ref cn0 → gF f cn0 3 = .ref tp → gF f xo 1 = .ref tp → va_P D2.1 mCl (mW E2 h q I J B G) H → va_D (lA s) (mW E2 h q I J B G) → (∀ (k : Nat) (x : Nat × va_E), (mW E2 h q I J B G)[k]? = some x → x.1 ∉ L) → LIv (k + 1) I B → (cells : Int) ≤ 1000 + 3 * (k + 1) → (slots : Int) ≤ 400000 + 4100 * (k + 1) → W p l e room_1 s m #[Value.ref b] below meth c H locs cells slots (lw_Z below #[Value.ref b] s) (F0 m 1068 ls [])) : W p l e room_1 s m #[Value.ref b] below meth c H locs cells slots (lw_Z below #[Value.ref b] s) (F0 m 223 ls []) := by
  obtain ⟨hx, hb, hr, hml, hown, hts, hX, hbl, hlocks, hgv⟩ := id C0
  have hbA : ¬ lA s b := Nat.not_le.mpr hbl
  have hA : ∀ a, s.heap.size ≤ a → lA s a := fun _ h9 => h9
  obtain ⟨hT, f_P1, f_P2, f_FT, f_FA, f_V, cn, gcn, lcn, ucn⟩ := IV
  have S0 : tS E T (tFr κ L [] []) κ L f κ L f := tS_rf hw
  refine lv_aload_n hx hb d_law_223 rfl (lv_at hl 2 rfl) ?_
  refine lv_aload_n hx hb d_law_224 rfl (lv_at hl 3 rfl) ?_
  refine lv_iload_n hx hb d_law_225 rfl (lv_at hl 0 rfl) ?_
  refine lv_iconst (v := iI 1) hx hb d_law_226 (by decide) ?_
  refine z_iadd hx hb d_law_227 ?_
  refine va_sld hx hb hX hbl hbA Y.2.2 (iI_in (by omega) (by omega) (by omega)) d_law_228 ?_
  refine t_eq (iI_of _) ?_
  refine lx_i (t_runV (As := [.int (iI (xs (iI (8 * k + 1)).toNatClampNeg).toInt)]) (rest := []) (n := 1) X Y S0 kx hml hl.1 (c_H_end l D E T κ L f H.size xo kx (xs (iI (8 * k + 1)).toNatClampNeg).toInt (iI_r _).1 (iI_r _).2 hw) (ok_k X Y hA KS KR) rfl kl_L_H_end ks_H_end kx_H_end ki_H_end ini_H ⟨rfl, rfl⟩ hd_H_end ⟨by decide, by decide⟩ rfl (Nat.le_of_ble_eq_true rfl) d_law_229 ⟨by show cells + 0 ≤ 600000; omega, by show slots + 0 ≤ 7302250; omega⟩) X Y hA PM AP (fun r1 u1 H1 locs1 hp1 Y1 PM1 AP1 => ?_)
  obtain ⟨L1, f1⟩ := u1
  dsimp only at Y1 AP1
  obtain ⟨e1, S1, z1, ez1, q1⟩ := hp1
  dsimp only at e1 S1
  subst e1
  have N1 := lc_next S1 hw kx c6 c3 c1 (by decide) (by decide)
  refine lv_pop hx hb d_law_232 rfl ?_
  refine lv_aload_n hx hb d_law_233 rfl (lv_at hl 1 rfl) ?_
  refine lv_aload_n hx hb d_law_234 rfl (lv_at hl 3 rfl) ?_
  refine lv_iload_n hx hb d_law_235 rfl (lv_at hl 0 rfl) ?_
  refine lv_iconst (v := iI 1) hx hb d_law_236 (by decide) ?_
  refine z_iadd hx hb d_law_237 ?_
  refine va_sld hx hb hX hbl hbA Y1.2.2 (iI_in (by omega) (by omega) (by omega)) d_law_238 ?_
  refine t_eq (iI_of _) ?_
  refine lm_i (As := [.int (iI (xs (iI (8 * k + 1)).toNatClampNeg).toInt)]) (rest := []) (n := 1) hx hb X.2.2.1 hown K2 Z2 R2 Y1 PM1 DM AP1 hA hml hl.1 (r_M_end l D2 E2 h q H1.size I J B G (xs (iI (8 * k + 1)).toNatClampNeg).toInt (iI_r _).1 (iI_r _).2 hT) kl_L_M_end ks_M_end kx_M_end ki_M_end hd_M_end ⟨by decide, by decide⟩ rfl (Nat.le_of_ble_eq_true rfl) d_law_239 ⟨by show cells + 0 ≤ 600000; omega, by show slots + 0 ≤ 7302250; omega⟩ (fun r2 u2 H2 locs2 hp2 Y2 PM2 DM2 AP2 => ?_)
  obtain ⟨I2, J2, B2, G2⟩ := u2
  obtain ⟨S2, z2, ez2, q2⟩ := hp2
  dsimp only at S2 q2 PM2 DM2 AP2
  obtain ⟨lz, uz⟩ := q2
  have IV2 : LIv (k + 1) I2 B2 := ⟨S2.1, (pG1_cg (S2.2.1 39 (by decide)) (S2.2.1 40 (by decide)) f_P1), (pG2_cg (S2.2.2 37 (by decide)) (S2.2.2 38 (by decide)) f_P2), (stT_cg (S2.2.2 97 (by decide)) (S2.2.2 98 (by decide)) (S2.2.2 100 (by decide)) (S2.2.2 107 (by decide)) (S2.2.2 108 (by decide)) (S2.2.2 109 (by decide)) f_FT), (stA_cg (S2.2.2 110 (by decide)) (S2.2.2 118 (by decide)) (S2.2.2 119 (by decide)) (S2.2.2 120 (by decide)) f_FA), (vB_le (show 1 + k ≤ 1 + (k + 1) by omega) (vB_cg (S2.2.2 46 (by decide)) f_V)), ⟨cn, (S2.2.1 33 (by decide)).trans gcn, by omega, by omega⟩⟩
  refine lv_pop hx hb d_law_242 rfl ?_
  refine lv_goto (tgt := 1068) hx hb d_law_243 (by decide) ?_
  exact kk κ L1 f1 I2 J2 B2 G2 H2 locs2 _ _ Y2 N1.1 N1.2.1 N1.2.2.1 N1.2.2.2.1 N1.2.2.2.2 PM2 DM2 AP2 IV2 (by omega) (by omega)
set_option maxHeartbeats 4000000 in
set_option maxRecDepth 100000 in
theorem law_2 {p : Program} {l : Launch} {e : Env} {s : State} {m : MethodId} {below : List Frame} {meth : Method} {c : Code} {b h xo cn0 tp n : Nat} {k : Int} {xs : Nat → Int32} {D : va_G} {E : cE} {T : cT} {κ : tK} {L : List Nat} {f : pF} {D2 : mD} {E2 : mE} {q : Nat → Nat} {I : Nat → Int32} {J : Nat → Int64} {B : Nat → Nat → Int32} {G : Nat → Nat → Int64} {H : Heap} {locs : List Loc} {cells slots : Nat} {ls : Array Slot} (C0 : lw_At p s m meth c b n xs) (hk0 : 0 ≤ k) (hk : 8 * k + 8 ≤ n) (hn : n ≤ 4096) (X : cX R_law p c code #[Value.ref b] s m D E) (KS : kS T (lA s) s s.heap) (KR : kR T s) (K2 : va_K D2.1 mCl (mTy E2) s) (Z2 : zS D2.2.1 D2.2.2.1 D2.2.2.2 (lA s) s s.heap) (R2 : zR D2.2.1 s) (Y : pH D cCl (lA s) s.heap L f H locs) (hw : tW E T κ L f) (kx : κ xo = (10, 0)) (c6 : gF f xo 6 = .ref cn0) (c3 : gF f cn0 3 = .ref tp) (c1 : gF f xo 1 = .ref tp) (PM : va_P D2.1 mCl (mW E2 h q I J B G) H) (DM : va_D (lA s) (mW E2 h q I J B G)) (AP : ∀ (k : Nat) (x : Nat × va_E), (mW E2 h q I J B G)[k]? = some x → x.1 ∉ L) (IV : LIv k I B) (hc : (cells : Int) ≤ 1000 + 3 * k) (hs : (slots : Int) ≤ 400000 + 4100 * k) (hl : lv_has ls 4 [(3, .int (iI (8 * k))), (2, .ref h), (1, .ref xo), (0, .ref b)]) (kk : ∀ (κ : tK) (L : List Nat) (f : pF) (I : Nat → Int32) (J : Nat → Int64) (B : Nat → Nat → Int32) (G : Nat → Nat → Int64) (H : Heap) (locs : List Loc) (cells slots : Nat), pH D cCl (lA s) s.heap L f H locs → tW E T κ L f → κ xo = (10, 0) → gF f xo 6 = .ref cn0 → gF f cn0 3 = .ref tp → gF f xo 1 = .ref tp → va_P D2.1 mCl (mW E2 h q I J B G) H → va_D (lA s) (mW E2 h q I J B G) → (∀ (k : Nat) (x : Nat × va_E), (mW E2 h q I J B G)[k]? = some x → x.1 ∉ L) → LIv (k + 1) I B → (cells : Int) ≤ 1000 + 3 * (k + 1) → (slots : Int) ≤ 400000 + 4100 * (k + 1) → W p l e room_1 s m #[Value.ref b] below meth c H locs cells slots (lw_Z below #[Value.ref b] s) (F0 m 1068 ls [])) : W p l e room_1 s m #[Value.ref b] below meth c H locs cells slots (lw_Z below #[Value.ref b] s) (F0 m 246 ls []) := by
  obtain ⟨hx, hb, hr, hml, hown, hts, hX, hbl, hlocks, hgv⟩ := id C0
  have hbA : ¬ lA s b := Nat.not_le.mpr hbl
  have hA : ∀ a, s.heap.size ≤ a → lA s a := fun _ h9 => h9
  obtain ⟨hT, f_P1, f_P2, f_FT, f_FA, f_V, cn, gcn, lcn, ucn⟩ := IV
  have S0 : tS E T (tFr κ L [] []) κ L f κ L f := tS_rf hw
  refine lv_aload_n hx hb d_law_246 rfl (lv_at hl 2 rfl) ?_
  refine lv_aload_n hx hb d_law_247 rfl (lv_at hl 3 rfl) ?_
  refine lv_iload_n hx hb d_law_248 rfl (lv_at hl 0 rfl) ?_
  refine lv_iconst (v := iI 1) hx hb d_law_249 (by decide) ?_
  refine z_iadd hx hb d_law_250 ?_
  refine va_sld hx hb hX hbl hbA Y.2.2 (iI_in (by omega) (by omega) (by omega)) d_law_251 ?_
  refine t_eq (iI_of _) ?_
  refine lv_aload_n hx hb d_law_252 rfl (lv_at hl 3 rfl) ?_
  refine lv_iload_n hx hb d_law_253 rfl (lv_at hl 0 rfl) ?_
  refine lv_iconst (v := iI 2) hx hb d_law_254 (by decide) ?_
  refine z_iadd hx hb d_law_255 ?_
  refine va_sld hx hb hX hbl hbA Y.2.2 (iI_in (by omega) (by omega) (by omega)) d_law_256 ?_
  refine t_eq (iI_of _) ?_
  refine lx_i (t_runV (As := [.int (iI (xs (iI (8 * k + 1)).toNatClampNeg).toInt), .int (iI (xs (iI (8 * k + 2)).toNatClampNeg).toInt)]) (rest := []) (n := 2) X Y S0 kx hml hl.1 (c_H_carry l D E T κ L f H.size xo kx (xs (iI (8 * k + 1)).toNatClampNeg).toInt (iI_r _).1 (iI_r _).2 (xs (iI (8 * k + 2)).toNatClampNeg).toInt (iI_r _).1 (iI_r _).2 hw) (ok_k X Y hA KS KR) rfl kl_L_H_carry ks_H_carry kx_H_carry ki_H_carry ini_H ⟨rfl, rfl⟩ hd_H_carry ⟨by decide, by decide⟩ rfl (Nat.le_of_ble_eq_true rfl) d_law_257 ⟨by show cells + 0 ≤ 600000; omega, by show slots + 0 ≤ 7302250; omega⟩) X Y hA PM AP (fun r1 u1 H1 locs1 hp1 Y1 PM1 AP1 => ?_)
  obtain ⟨L1, f1⟩ := u1
  dsimp only at Y1 AP1
  obtain ⟨e1, S1, z1, ez1, q1⟩ := hp1
  dsimp only at e1 S1
  subst e1
  have N1 := lc_next S1 hw kx c6 c3 c1 (by decide) (by decide)
  refine lv_pop hx hb d_law_260 rfl ?_
  refine lv_aload_n hx hb d_law_261 rfl (lv_at hl 1 rfl) ?_
  refine lv_aload_n hx hb d_law_262 rfl (lv_at hl 3 rfl) ?_
  refine lv_iload_n hx hb d_law_263 rfl (lv_at hl 0 rfl) ?_
  refine lv_iconst (v := iI 1) hx hb d_law_264 (by decide) ?_
  refine z_iadd hx hb d_law_265 ?_
  refine va_sld hx hb hX hbl hbA Y1.2.2 (iI_in (by omega) (by omega) (by omega)) d_law_266 ?_
  refine t_eq (iI_of _) ?_
  refine lv_aload_n hx hb d_law_267 rfl (lv_at hl 3 rfl) ?_
  refine lv_iload_n hx hb d_law_268 rfl (lv_at hl 0 rfl) ?_
  refine lv_iconst (v := iI 2) hx hb d_law_269 (by decide) ?_
  refine z_iadd hx hb d_law_270 ?_
  refine va_sld hx hb hX hbl hbA Y1.2.2 (iI_in (by omega) (by omega) (by omega)) d_law_271 ?_
  refine t_eq (iI_of _) ?_
  refine lm_i (As := [.int (iI (xs (iI (8 * k + 1)).toNatClampNeg).toInt), .int (iI (xs (iI (8 * k + 2)).toNatClampNeg).toInt)]) (rest := []) (n := 2) hx hb X.2.2.1 hown K2 Z2 R2 Y1 PM1 DM AP1 hA hml hl.1 (r_M_carry l D2 E2 h q H1.size I J B G (xs (iI (8 * k + 1)).toNatClampNeg).toInt (iI_r _).1 (iI_r _).2 (xs (iI (8 * k + 2)).toNatClampNeg).toInt (iI_r _).1 (iI_r _).2 hT) kl_L_M_carry ks_M_carry kx_M_carry ki_M_carry hd_M_carry ⟨by decide, by decide⟩ rfl (Nat.le_of_ble_eq_true rfl) d_law_272 ⟨by show cells + 0 ≤ 600000; omega, by show slots + 0 ≤ 7302250; omega⟩ (fun r2 u2 H2 locs2 hp2 Y2 PM2 DM2 AP2 => ?_)
  obtain ⟨I2, J2, B2, G2⟩ := u2
  obtain ⟨S2, z2, ez2, q2⟩ := hp2
  dsimp only at S2 q2 PM2 DM2 AP2
  obtain ⟨lz, uz⟩ := q2
  have IV2 : LIv (k + 1) I2 B2 := ⟨S2.1, (pG1_cg (S2.2.1 39 (by decide)) (S2.2.1 40 (by decide)) f_P1), (pG2_cg (S2.2.2 37 (by decide)) (S2.2.2 38 (by decide)) f_P2), (stT_cg (S2.2.2 97 (by decide)) (S2.2.2 98 (by decide)) (S2.2.2 100 (by decide)) (S2.2.2 107 (by decide)) (S2.2.2 108 (by decide)) (S2.2.2 109 (by decide)) f_FT), (stA_cg (S2.2.2 110 (by decide)) (S2.2.2 118 (by decide)) (S2.2.2 119 (by decide)) (S2.2.2 120 (by decide)) f_FA), (vB_le (show 1 + k ≤ 1 + (k + 1) by omega) (vB_cg (S2.2.2 46 (by decide)) f_V)), ⟨cn, (S2.2.1 33 (by decide)).trans gcn, by omega, by omega⟩⟩
  refine lv_pop hx hb d_law_275 rfl ?_
  refine lv_goto (tgt := 1068) hx hb d_law_276 (by decide) ?_
  exact kk κ L1 f1 I2 J2 B2 G2 H2 locs2 _ _ Y2 N1.1 N1.2.1 N1.2.2.1 N1.2.2.2.1 N1.2.2.2.2 PM2 DM2 AP2 IV2 (by omega) (by omega)
set_option maxHeartbeats 4000000 in
set_option maxRecDepth 100000 in
theorem law_3 {p : Program} {l : Launch} {e : Env} {s : State} {m : MethodId} {below : List Frame} {meth : Method} {c : Code} {b h xo cn0 tp n : Nat} {k : Int} {xs : Nat → Int32} {D : va_G} {E : cE} {T : cT} {κ : tK} {L : List Nat} {f : pF} {D2 : mD} {E2 : mE} {q : Nat → Nat} {I : Nat → Int32} {J : Nat → Int64} {B : Nat → Nat → Int32} {G : Nat → Nat → Int64} {H : Heap} {locs : List Loc} {cells slots : Nat} {ls : Array Slot} (C0 : lw_At p s m meth c b n xs) (hk0 : 0 ≤ k) (hk : 8 * k + 8 ≤ n) (hn : n ≤ 4096) (X : cX R_law p c code #[Value.ref b] s m D E) (KS : kS T (lA s) s s.heap) (KR : kR T s) (K2 : va_K D2.1 mCl (mTy E2) s) (Z2 : zS D2.2.1 D2.2.2.1 D2.2.2.2 (lA s) s s.heap) (R2 : zR D2.2.1 s) (Y : pH D cCl (lA s) s.heap L f H locs) (hw : tW E T κ L f) (kx : κ xo = (10, 0)) (c6 : gF f xo 6 = .ref cn0) (c3 : gF f cn0 3 = .ref tp) (c1 : gF f xo 1 = .ref tp) (PM : va_P D2.1 mCl (mW E2 h q I J B G) H) (DM : va_D (lA s) (mW E2 h q I J B G)) (AP : ∀ (k : Nat) (x : Nat × va_E), (mW E2 h q I J B G)[k]? = some x → x.1 ∉ L) (IV : LIv k I B) (hc : (cells : Int) ≤ 1000 + 3 * k) (hs : (slots : Int) ≤ 400000 + 4100 * k) (hl : lv_has ls 4 [(3, .int (iI (8 * k))), (2, .ref h), (1, .ref xo), (0, .ref b)]) (kk : ∀ (κ : tK) (L : List Nat) (f : pF) (I : Nat → Int32) (J : Nat → Int64) (B : Nat → Nat → Int32) (G : Nat → Nat → Int64) (H : Heap) (locs : List Loc) (cells slots : Nat), pH D cCl (lA s) s.heap L f H locs → tW E T κ L f → κ xo = (10, 0) → gF f xo 6 = .ref cn0 → gF f cn0 3 = .ref tp → gF f xo 1 = .ref tp → va_P D2.1 mCl (mW E2 h q I J B G) H → va_D (lA s) (mW E2 h q I J B G) → (∀ (k : Nat) (x : Nat × va_E), (mW E2 h q I J B G)[k]? = some x → x.1 ∉ L) → LIv (k + 1) I B → (cells : Int) ≤ 1000 + 3 * (k + 1) → (slots : Int) ≤ 400000 + 4100 * (k + 1) → W p l e room_1 s m #[Value.ref b] below meth c H locs cells slots (lw_Z below #[Value.ref b] s) (F0 m 1068 ls [])) : W p l e room_1 s m #[Value.ref b] below meth c H locs cells slots (lw_Z below #[Value.ref b] s) (F0 m 279 ls []) := by
  obtain ⟨hx, hb, hr, hml, hown, hts, hX, hbl, hlocks, hgv⟩ := id C0
  have hbA : ¬ lA s b := Nat.not_le.mpr hbl
  have hA : ∀ a, s.heap.size ≤ a → lA s a := fun _ h9 => h9
  obtain ⟨hT, f_P1, f_P2, f_FT, f_FA, f_V, cn, gcn, lcn, ucn⟩ := IV
  have S0 : tS E T (tFr κ L [] []) κ L f κ L f := tS_rf hw
  refine lv_aload_n hx hb d_law_279 rfl (lv_at hl 2 rfl) ?_
  refine lv_aload_n hx hb d_law_280 rfl (lv_at hl 3 rfl) ?_
  refine lv_iload_n hx hb d_law_281 rfl (lv_at hl 0 rfl) ?_
  refine lv_iconst (v := iI 1) hx hb d_law_282 (by decide) ?_
  refine z_iadd hx hb d_law_283 ?_
  refine va_sld hx hb hX hbl hbA Y.2.2 (iI_in (by omega) (by omega) (by omega)) d_law_284 ?_
  refine t_eq (iI_of _) ?_
  refine lx_i (t_runV (As := [.int (iI (xs (iI (8 * k + 1)).toNatClampNeg).toInt)]) (rest := []) (n := 1) X Y S0 kx hml hl.1 (c_H_out l D E T κ L f H.size xo kx (xs (iI (8 * k + 1)).toNatClampNeg).toInt (iI_r _).1 (iI_r _).2 hw) (ok_k X Y hA KS KR) rfl kl_L_H_out ks_H_out kx_H_out ki_H_out ini_H ⟨rfl, rfl⟩ hd_H_out ⟨by decide, by decide⟩ rfl (Nat.le_of_ble_eq_true rfl) d_law_285 ⟨by show cells + 0 ≤ 600000; omega, by show slots + 0 ≤ 7302250; omega⟩) X Y hA PM AP (fun r1 u1 H1 locs1 hp1 Y1 PM1 AP1 => ?_)
  obtain ⟨L1, f1⟩ := u1
  dsimp only at Y1 AP1
  obtain ⟨e1, e2, z1, ez1, q1⟩ := hp1
  dsimp only at e1 e2
  subst e1 e2
  have N1 := lc_next (M := []) S0 hw kx c6 c3 c1 (by decide) (by decide)
  refine lv_pop hx hb d_law_288 rfl ?_
  refine lv_aload_n hx hb d_law_289 rfl (lv_at hl 1 rfl) ?_
  refine lv_aload_n hx hb d_law_290 rfl (lv_at hl 3 rfl) ?_
  refine lv_iload_n hx hb d_law_291 rfl (lv_at hl 0 rfl) ?_
  refine lv_iconst (v := iI 1) hx hb d_law_292 (by decide) ?_
  refine z_iadd hx hb d_law_293 ?_
  refine va_sld hx hb hX hbl hbA Y1.2.2 (iI_in (by omega) (by omega) (by omega)) d_law_294 ?_
  refine t_eq (iI_of _) ?_
  refine lm_i (As := [.int (iI (xs (iI (8 * k + 1)).toNatClampNeg).toInt)]) (rest := []) (n := 1) hx hb X.2.2.1 hown K2 Z2 R2 Y1 PM1 DM AP1 hA hml hl.1 (r_M_out l D2 E2 h q H1.size I J B G (xs (iI (8 * k + 1)).toNatClampNeg).toInt (iI_r _).1 (iI_r _).2 hT) kl_L_M_out ks_M_out kx_M_out ki_M_out hd_M_out ⟨by decide, by decide⟩ rfl (Nat.le_of_ble_eq_true rfl) d_law_295 ⟨by show cells + 0 ≤ 600000; omega, by show slots + 0 ≤ 7302250; omega⟩ (fun r2 u2 H2 locs2 hp2 Y2 PM2 DM2 AP2 => ?_)
  obtain ⟨I2, J2, B2, G2⟩ := u2
  obtain ⟨S2, z2, ez2, q2⟩ := hp2
  dsimp only at S2 q2 PM2 DM2 AP2
  obtain ⟨lz, uz⟩ := q2
  have IV2 : LIv (k + 1) I2 B2 := ⟨S2.1, (pG1_cg (S2.2.1 39 (by decide)) (S2.2.1 40 (by decide)) f_P1), (pG2_cg (S2.2.2 37 (by decide)) (S2.2.2 38 (by decide)) f_P2), (stT_cg (S2.2.2 97 (by decide)) (S2.2.2 98 (by decide)) (S2.2.2 100 (by decide)) (S2.2.2 107 (by decide)) (S2.2.2 108 (by decide)) (S2.2.2 109 (by decide)) f_FT), (stA_cg (S2.2.2 110 (by decide)) (S2.2.2 118 (by decide)) (S2.2.2 119 (by decide)) (S2.2.2 120 (by decide)) f_FA), (vB_le (show 1 + k ≤ 1 + (k + 1) by omega) (vB_cg (S2.2.2 46 (by decide)) f_V)), ⟨cn, (S2.2.1 33 (by decide)).trans gcn, by omega, by omega⟩⟩
  refine lv_pop hx hb d_law_298 rfl ?_
  refine lv_goto (tgt := 1068) hx hb d_law_299 (by decide) ?_
  exact kk κ L1 f1 I2 J2 B2 G2 H2 locs2 _ _ Y2 N1.1 N1.2.1 N1.2.2.1 N1.2.2.2.1 N1.2.2.2.2 PM2 DM2 AP2 IV2 (by omega) (by omega)
set_option maxHeartbeats 4000000 in
set_option maxRecDepth 100000 in
theorem law_4 {p : Program} {l : Launch} {e : Env} {s : State} {m : MethodId} {below : List Frame} {meth : Method} {c : Code} {b h xo cn0 tp n : Nat} {k : Int} {xs : Nat → Int32} {D : va_G} {E : cE} {T : cT} {κ : tK} {L : List Nat} {f : pF} {D2 : mD} {E2 : mE} {q : Nat → Nat} {I : Nat → Int32} {J : Nat → Int64} {B : Nat → Nat → Int32} {G : Nat → Nat → Int64} {H : Heap} {locs : List Loc} {cells slots : Nat} {ls : Array Slot} (C0 : lw_At p s m meth c b n xs) (hk0 : 0 ≤ k) (hk : 8 * k + 8 ≤ n) (hn : n ≤ 4096) (X : cX R_law p c code #[Value.ref b] s m D E) (KS : kS T (lA s) s s.heap) (KR : kR T s) (K2 : va_K D2.1 mCl (mTy E2) s) (Z2 : zS D2.2.1 D2.2.2.1 D2.2.2.2 (lA s) s s.heap) (R2 : zR D2.2.1 s) (Y : pH D cCl (lA s) s.heap L f H locs) (hw : tW E T κ L f) (kx : κ xo = (10, 0)) (c6 : gF f xo 6 = .ref cn0) (c3 : gF f cn0 3 = .ref tp) (c1 : gF f xo 1 = .ref tp) (PM : va_P D2.1 mCl (mW E2 h q I J B G) H) (DM : va_D (lA s) (mW E2 h q I J B G)) (AP : ∀ (k : Nat) (x : Nat × va_E), (mW E2 h q I J B G)[k]? = some x → x.1 ∉ L) (IV : LIv k I B) (hc : (cells : Int) ≤ 1000 + 3 * k) (hs : (slots : Int) ≤ 400000 + 4100 * k) (hl : lv_has ls 4 [(3, .int (iI (8 * k))), (2, .ref h), (1, .ref xo), (0, .ref b)]) (kk : ∀ (κ : tK) (L : List Nat) (f : pF) (I : Nat → Int32) (J : Nat → Int64) (B : Nat → Nat → Int32) (G : Nat → Nat → Int64) (H : Heap) (locs : List Loc) (cells slots : Nat), pH D cCl (lA s) s.heap L f H locs → tW E T κ L f → κ xo = (10, 0) → gF f xo 6 = .ref cn0 → gF f cn0 3 = .ref tp → gF f xo 1 = .ref tp → va_P D2.1 mCl (mW E2 h q I J B G) H → va_D (lA s) (mW E2 h q I J B G) → (∀ (k : Nat) (x : Nat × va_E), (mW E2 h q I J B G)[k]? = some x → x.1 ∉ L) → LIv (k + 1) I B → (cells : Int) ≤ 1000 + 3 * (k + 1) → (slots : Int) ≤ 400000 + 4100 * (k + 1) → W p l e room_1 s m #[Value.ref b] below meth c H locs cells slots (lw_Z below #[Value.ref b] s) (F0 m 1068 ls [])) : W p l e room_1 s m #[Value.ref b] below meth c H locs cells slots (lw_Z below #[Value.ref b] s) (F0 m 302 ls []) := by
  obtain ⟨hx, hb, hr, hml, hown, hts, hX, hbl, hlocks, hgv⟩ := id C0
  have hbA : ¬ lA s b := Nat.not_le.mpr hbl
  have hA : ∀ a, s.heap.size ≤ a → lA s a := fun _ h9 => h9
  obtain ⟨hT, f_P1, f_P2, f_FT, f_FA, f_V, cn, gcn, lcn, ucn⟩ := IV
  have S0 : tS E T (tFr κ L [] []) κ L f κ L f := tS_rf hw
  refine lv_aload_n hx hb d_law_302 rfl (lv_at hl 2 rfl) ?_
  refine lv_aload_n hx hb d_law_303 rfl (lv_at hl 3 rfl) ?_
  refine lv_iload_n hx hb d_law_304 rfl (lv_at hl 0 rfl) ?_
  refine lv_iconst (v := iI 1) hx hb d_law_305 (by decide) ?_
  refine z_iadd hx hb d_law_306 ?_
  refine va_sld hx hb hX hbl hbA Y.2.2 (iI_in (by omega) (by omega) (by omega)) d_law_307 ?_
  refine t_eq (iI_of _) ?_
  refine lx_i (t_runV (As := [.int (iI (xs (iI (8 * k + 1)).toNatClampNeg).toInt)]) (rest := []) (n := 1) X Y S0 kx hml hl.1 (c_H_clockX l D E T κ L f H.size xo kx (xs (iI (8 * k + 1)).toNatClampNeg).toInt (iI_r _).1 (iI_r _).2 hw) (ok_k X Y hA KS KR) rfl kl_L_H_clock ks_H_clock kx_H_clock ki_H_clock ini_H ⟨rfl, rfl⟩ hd_H_clock ⟨by decide, by decide⟩ rfl (Nat.le_of_ble_eq_true rfl) d_law_308 ⟨by show cells + 0 ≤ 600000; omega, by show slots + 0 ≤ 7302250; omega⟩) X Y hA PM AP (fun r1 u1 H1 locs1 hp1 Y1 PM1 AP1 => ?_)
  obtain ⟨L1, f1⟩ := u1
  dsimp only at Y1 AP1
  obtain ⟨e1, S1, z1, ez1, q1⟩ := hp1
  dsimp only at e1 S1
  subst e1
  have N1 := lc_next S1 hw kx c6 c3 c1 (by decide) (by decide)
  refine lv_pop hx hb d_law_311 rfl ?_
  refine lv_aload_n hx hb d_law_312 rfl (lv_at hl 1 rfl) ?_
  refine lv_aload_n hx hb d_law_313 rfl (lv_at hl 3 rfl) ?_
  refine lv_iload_n hx hb d_law_314 rfl (lv_at hl 0 rfl) ?_
  refine lv_iconst (v := iI 1) hx hb d_law_315 (by decide) ?_
  refine z_iadd hx hb d_law_316 ?_
  refine va_sld hx hb hX hbl hbA Y1.2.2 (iI_in (by omega) (by omega) (by omega)) d_law_317 ?_
  refine t_eq (iI_of _) ?_
  refine lm_i (As := [.int (iI (xs (iI (8 * k + 1)).toNatClampNeg).toInt)]) (rest := []) (n := 1) hx hb X.2.2.1 hown K2 Z2 R2 Y1 PM1 DM AP1 hA hml hl.1 (r_M_clock_x l D2 E2 h q H1.size I J B G (xs (iI (8 * k + 1)).toNatClampNeg).toInt (iI_r _).1 (iI_r _).2 hT) kl_L_M_clock ks_M_clock kx_M_clock ki_M_clock hd_M_clock ⟨by decide, by decide⟩ rfl (Nat.le_of_ble_eq_true rfl) d_law_318 ⟨by show cells + 0 ≤ 600000; omega, by show slots + 0 ≤ 7302250; omega⟩ (fun r2 u2 H2 locs2 hp2 Y2 PM2 DM2 AP2 => ?_)
  obtain ⟨I2, J2, B2, G2⟩ := u2
  obtain ⟨S2, z2, ez2, q2⟩ := hp2
  dsimp only at S2 q2 PM2 DM2 AP2
  obtain ⟨lz, uz, xp⟩ := q2
  have IV2 : LIv (k + 1) I2 B2 := ⟨S2.1, (pG1_cg (S2.2.1 39 (by decide)) (S2.2.1 40 (by decide)) f_P1), (pG2_cg (S2.2.2 37 (by decide)) (S2.2.2 38 (by decide)) f_P2), (stT_cg (S2.2.2 97 (by decide)) (S2.2.2 98 (by decide)) (S2.2.2 100 (by decide)) (S2.2.2 107 (by decide)) (S2.2.2 108 (by decide)) (S2.2.2 109 (by decide)) f_FT), (stA_cg (S2.2.2 110 (by decide)) (S2.2.2 118 (by decide)) (S2.2.2 119 (by decide)) (S2.2.2 120 (by decide)) f_FA), (vB_le (show 1 + k ≤ 1 + (k + 1) by omega) (vB_cg (S2.2.2 46 (by decide)) f_V)), ⟨cn, (S2.2.1 33 (by decide)).trans gcn, by omega, by omega⟩⟩
  refine lv_pop hx hb d_law_321 rfl ?_
  refine lv_goto (tgt := 1068) hx hb d_law_322 (by decide) ?_
  exact kk κ L1 f1 I2 J2 B2 G2 H2 locs2 _ _ Y2 N1.1 N1.2.1 N1.2.2.1 N1.2.2.2.1 N1.2.2.2.2 PM2 DM2 AP2 IV2 (by omega) (by omega)
set_option maxHeartbeats 4000000 in
set_option maxRecDepth 100000 in
theorem law_5 {p : Program} {l : Launch} {e : Env} {s : State} {m : MethodId} {below : List Frame} {meth : Method} {c : Code} {b h xo cn0 tp n : Nat} {k : Int} {xs : Nat → Int32} {D : va_G} {E : cE} {T : cT} {κ : tK} {L : List Nat} {f : pF} {D2 : mD} {E2 : mE} {q : Nat → Nat} {I : Nat → Int32} {J : Nat → Int64} {B : Nat → Nat → Int32} {G : Nat → Nat → Int64} {H : Heap} {locs : List Loc} {cells slots : Nat} {ls : Array Slot} (C0 : lw_At p s m meth c b n xs) (hk0 : 0 ≤ k) (hk : 8 * k + 8 ≤ n) (hn : n ≤ 4096) (X : cX R_law p c code #[Value.ref b] s m D E) (KS : kS T (lA s) s s.heap) (KR : kR T s) (K2 : va_K D2.1 mCl (mTy E2) s) (Z2 : zS D2.2.1 D2.2.2.1 D2.2.2.2 (lA s) s s.heap) (R2 : zR D2.2.1 s) (Y : pH D cCl (lA s) s.heap L f H locs) (hw : tW E T κ L f) (kx : κ xo = (10, 0)) (c6 : gF f xo 6 = .ref cn0) (c3 : gF f cn0 3 = .ref tp) (c1 : gF f xo 1 = .ref tp) (PM : va_P D2.1 mCl (mW E2 h q I J B G) H) (DM : va_D (lA s) (mW E2 h q I J B G)) (AP : ∀ (k : Nat) (x : Nat × va_E), (mW E2 h q I J B G)[k]? = some x → x.1 ∉ L) (IV : LIv k I B) (hc : (cells : Int) ≤ 1000 + 3 * k) (hs : (slots : Int) ≤ 400000 + 4100 * k) (hl : lv_has ls 4 [(3, .int (iI (8 * k))), (2, .ref h), (1, .ref xo), (0, .ref b)]) (kk : ∀ (κ : tK) (L : List Nat) (f : pF) (I : Nat → Int32) (J : Nat → Int64) (B : Nat → Nat → Int32) (G : Nat → Nat → Int64) (H : Heap) (locs : List Loc) (cells slots : Nat), pH D cCl (lA s) s.heap L f H locs → tW E T κ L f → κ xo = (10, 0) → gF f xo 6 = .ref cn0 → gF f cn0 3 = .ref tp → gF f xo 1 = .ref tp → va_P D2.1 mCl (mW E2 h q I J B G) H → va_D (lA s) (mW E2 h q I J B G) → (∀ (k : Nat) (x : Nat × va_E), (mW E2 h q I J B G)[k]? = some x → x.1 ∉ L) → LIv (k + 1) I B → (cells : Int) ≤ 1000 + 3 * (k + 1) → (slots : Int) ≤ 400000 + 4100 * (k + 1) → W p l e room_1 s m #[Value.ref b] below meth c H locs cells slots (lw_Z below #[Value.ref b] s) (F0 m 1068 ls [])) : W p l e room_1 s m #[Value.ref b] below meth c H locs cells slots (lw_Z below #[Value.ref b] s) (F0 m 325 ls []) := by
  obtain ⟨hx, hb, hr, hml, hown, hts, hX, hbl, hlocks, hgv⟩ := id C0
  have hbA : ¬ lA s b := Nat.not_le.mpr hbl
  have hA : ∀ a, s.heap.size ≤ a → lA s a := fun _ h9 => h9
  obtain ⟨hT, f_P1, f_P2, f_FT, f_FA, f_V, cn, gcn, lcn, ucn⟩ := IV
  have S0 : tS E T (tFr κ L [] []) κ L f κ L f := tS_rf hw
  refine lv_aload_n hx hb d_law_325 rfl (lv_at hl 2 rfl) ?_
  refine lx_i (t_runV (As := []) (rest := []) (n := 0) X Y S0 kx hml hl.1 (c_H_seed l D E T κ L f H.size xo kx  hw) (ok_k X Y hA KS KR) rfl kl_L_H_seed ks_H_seed kx_H_seed ki_H_seed ini_H ⟨rfl, rfl⟩ hd_H_seed ⟨by decide, by decide⟩ rfl (Nat.le_of_ble_eq_true rfl) d_law_326 ⟨by show cells + 0 ≤ 600000; omega, by show slots + 0 ≤ 7302250; omega⟩) X Y hA PM AP (fun r1 u1 H1 locs1 hp1 Y1 PM1 AP1 => ?_)
  obtain ⟨L1, f1⟩ := u1
  dsimp only at Y1 AP1
  obtain ⟨e1, S1, z1, ez1, q1⟩ := hp1
  dsimp only at e1 S1
  subst e1
  have N1 := lc_next S1 hw kx c6 c3 c1 (by decide) (by decide)
  refine lv_pop hx hb d_law_329 rfl ?_
  refine lv_aload_n hx hb d_law_330 rfl (lv_at hl 1 rfl) ?_
  refine lm_i (As := []) (rest := []) (n := 0) hx hb X.2.2.1 hown K2 Z2 R2 Y1 PM1 DM AP1 hA hml hl.1 (r_M_seed_x l D2 E2 h q H1.size I J B G hT cn gcn (by omega) (by omega)) kl_L_M_seed ks_M_seed kx_M_seed ki_M_seed hd_M_seed ⟨by decide, by decide⟩ rfl (Nat.le_of_ble_eq_true rfl) d_law_331 ⟨by show cells + 0 ≤ 600000; omega, by show slots + 0 ≤ 7302250; omega⟩ (fun r2 u2 H2 locs2 hp2 Y2 PM2 DM2 AP2 => ?_)
  obtain ⟨I2, J2, B2, G2⟩ := u2
  obtain ⟨S2, z2, ez2, q2⟩ := hp2
  dsimp only at S2 q2 PM2 DM2 AP2
  obtain ⟨lz, uz, xp⟩ := q2
  obtain ⟨v9, e9, k9, l9, m9⟩ := xp
  have IV2 : LIv (k + 1) I2 B2 := ⟨S2.1, (pG1_cg (S2.2.1 39 (by decide)) (S2.2.1 40 (by decide)) f_P1), (pG2_cg (S2.2.2 37 (by decide)) (S2.2.2 38 (by decide)) f_P2), (stT_cg (S2.2.2 97 (by decide)) (S2.2.2 98 (by decide)) (S2.2.2 100 (by decide)) (S2.2.2 107 (by decide)) (S2.2.2 108 (by decide)) (S2.2.2 109 (by decide)) f_FT), (stA_cg (S2.2.2 110 (by decide)) (S2.2.2 118 (by decide)) (S2.2.2 119 (by decide)) (S2.2.2 120 (by decide)) f_FA), (vB_le (show 1 + k ≤ 1 + (k + 1) by omega) (vB_cg (S2.2.2 46 (by decide)) f_V)), ⟨v9, e9, by omega, by omega⟩⟩
  refine lv_pop hx hb d_law_334 rfl ?_
  refine lv_goto (tgt := 1068) hx hb d_law_335 (by decide) ?_
  exact kk κ L1 f1 I2 J2 B2 G2 H2 locs2 _ _ Y2 N1.1 N1.2.1 N1.2.2.1 N1.2.2.2.1 N1.2.2.2.2 PM2 DM2 AP2 IV2 (by omega) (by omega)
set_option maxHeartbeats 4000000 in
set_option maxRecDepth 100000 in
theorem law_6 {p : Program} {l : Launch} {e : Env} {s : State} {m : MethodId} {below : List Frame} {meth : Method} {c : Code} {b h xo cn0 tp n : Nat} {k : Int} {xs : Nat → Int32} {D : va_G} {E : cE} {T : cT} {κ : tK} {L : List Nat} {f : pF} {D2 : mD} {E2 : mE} {q : Nat → Nat} {I : Nat → Int32} {J : Nat → Int64} {B : Nat → Nat → Int32} {G : Nat → Nat → Int64} {H : Heap} {locs : List Loc} {cells slots : Nat} {ls : Array Slot} (C0 : lw_At p s m meth c b n xs) (hk0 : 0 ≤ k) (hk : 8 * k + 8 ≤ n) (hn : n ≤ 4096) (X : cX R_law p c code #[Value.ref b] s m D E) (KS : kS T (lA s) s s.heap) (KR : kR T s) (K2 : va_K D2.1 mCl (mTy E2) s) (Z2 : zS D2.2.1 D2.2.2.1 D2.2.2.2 (lA s) s s.heap) (R2 : zR D2.2.1 s) (Y : pH D cCl (lA s) s.heap L f H locs) (hw : tW E T κ L f) (kx : κ xo = (10, 0)) (c6 : gF f xo 6 = .ref cn0) (c3 : gF f cn0 3 = .ref tp) (c1 : gF f xo 1 = .ref tp) (PM : va_P D2.1 mCl (mW E2 h q I J B G) H) (DM : va_D (lA s) (mW E2 h q I J B G)) (AP : ∀ (k : Nat) (x : Nat × va_E), (mW E2 h q I J B G)[k]? = some x → x.1 ∉ L) (IV : LIv k I B) (hc : (cells : Int) ≤ 1000 + 3 * k) (hs : (slots : Int) ≤ 400000 + 4100 * k) (hl : lv_has ls 4 [(3, .int (iI (8 * k))), (2, .ref h), (1, .ref xo), (0, .ref b)]) (kk : ∀ (κ : tK) (L : List Nat) (f : pF) (I : Nat → Int32) (J : Nat → Int64) (B : Nat → Nat → Int32) (G : Nat → Nat → Int64) (H : Heap) (locs : List Loc) (cells slots : Nat), pH D cCl (lA s) s.heap L f H locs → tW E T κ L f → κ xo = (10, 0) → gF f xo 6 = .ref cn0 → gF f cn0 3 = .ref tp → gF f xo 1 = .ref tp → va_P D2.1 mCl (mW E2 h q I J B G) H → va_D (lA s) (mW E2 h q I J B G) → (∀ (k : Nat) (x : Nat × va_E), (mW E2 h q I J B G)[k]? = some x → x.1 ∉ L) → LIv (k + 1) I B → (cells : Int) ≤ 1000 + 3 * (k + 1) → (slots : Int) ≤ 400000 + 4100 * (k + 1) → W p l e room_1 s m #[Value.ref b] below meth c H locs cells slots (lw_Z below #[Value.ref b] s) (F0 m 1068 ls [])) : W p l e room_1 s m #[Value.ref b] below meth c H locs cells slots (lw_Z below #[Value.ref b] s) (F0 m 338 ls []) := by
  obtain ⟨hx, hb, hr, hml, hown, hts, hX, hbl, hlocks, hgv⟩ := id C0
  have hbA : ¬ lA s b := Nat.not_le.mpr hbl
  have hA : ∀ a, s.heap.size ≤ a → lA s a := fun _ h9 => h9
  obtain ⟨hT, f_P1, f_P2, f_FT, f_FA, f_V, cn, gcn, lcn, ucn⟩ := IV
  have S0 : tS E T (tFr κ L [] []) κ L f κ L f := tS_rf hw
  refine lv_aload_n hx hb d_law_338 rfl (lv_at hl 2 rfl) ?_
  refine lv_aload_n hx hb d_law_339 rfl (lv_at hl 3 rfl) ?_
  refine lv_iload_n hx hb d_law_340 rfl (lv_at hl 0 rfl) ?_
  refine lv_iconst (v := iI 1) hx hb d_law_341 (by decide) ?_
  refine z_iadd hx hb d_law_342 ?_
  refine va_sld hx hb hX hbl hbA Y.2.2 (iI_in (by omega) (by omega) (by omega)) d_law_343 ?_
  refine t_eq (iI_of _) ?_
  refine lx_i (t_runV (As := [.int (iI (xs (iI (8 * k + 1)).toNatClampNeg).toInt)]) (rest := []) (n := 1) X Y S0 kx hml hl.1 (c_H_principal l D E T κ L f H.size xo kx (xs (iI (8 * k + 1)).toNatClampNeg).toInt (iI_r _).1 (iI_r _).2 hw) (ok_k X Y hA KS KR) rfl kl_L_H_principal ks_H_principal kx_H_principal ki_H_principal ini_H ⟨rfl, rfl⟩ hd_H_principal ⟨by decide, by decide⟩ rfl (Nat.le_of_ble_eq_true rfl) d_law_344 ⟨by show cells + 2 ≤ 600000; omega, by show slots + 64 ≤ 7302250; omega⟩) X Y hA PM AP (fun r1 u1 H1 locs1 hp1 Y1 PM1 AP1 => ?_)
  obtain ⟨L1, f1⟩ := u1
  dsimp only at Y1 AP1
  obtain ⟨κ1, S1, z1, ez1, q1⟩ := hp1
  dsimp only at S1 q1
  have N1 := lc_next S1 hw kx c6 c3 c1 (by decide) (by decide)
  refine lv_pop hx hb d_law_347 rfl ?_
  refine lv_aload_n hx hb d_law_348 rfl (lv_at hl 1 rfl) ?_
  refine lv_aload_n hx hb d_law_349 rfl (lv_at hl 3 rfl) ?_
  refine lv_iload_n hx hb d_law_350 rfl (lv_at hl 0 rfl) ?_
  refine lv_iconst (v := iI 1) hx hb d_law_351 (by decide) ?_
  refine z_iadd hx hb d_law_352 ?_
  refine va_sld hx hb hX hbl hbA Y1.2.2 (iI_in (by omega) (by omega) (by omega)) d_law_353 ?_
  refine t_eq (iI_of _) ?_
  refine lm_i (As := [.int (iI (xs (iI (8 * k + 1)).toNatClampNeg).toInt)]) (rest := []) (n := 1) hx hb X.2.2.1 hown K2 Z2 R2 Y1 PM1 DM AP1 hA hml hl.1 (r_M_principal l D2 E2 h q H1.size I J B G (xs (iI (8 * k + 1)).toNatClampNeg).toInt (iI_r _).1 (iI_r _).2 hT (1 + k) (by omega) f_V) kl_L_M_principal ks_M_principal kx_M_principal ki_M_principal hd_M_principal ⟨by decide, by decide⟩ rfl (Nat.le_of_ble_eq_true rfl) d_law_354 ⟨by show cells + 2 ≤ 600000; omega, by show slots + 64 ≤ 7302250; omega⟩ (fun r2 u2 H2 locs2 hp2 Y2 PM2 DM2 AP2 => ?_)
  obtain ⟨I2, J2, B2, G2⟩ := u2
  obtain ⟨S2, z2, ez2, q2⟩ := hp2
  dsimp only at S2 q2 PM2 DM2 AP2
  obtain ⟨lz, uz, g_V1⟩ := q2
  have IV2 : LIv (k + 1) I2 B2 := ⟨S2.1, (pG1_cg (S2.2.1 39 (by decide)) (S2.2.1 40 (by decide)) f_P1), (pG2_cg (S2.2.2 37 (by decide)) (S2.2.2 38 (by decide)) f_P2), (stT_cg (S2.2.2 97 (by decide)) (S2.2.2 98 (by decide)) (S2.2.2 100 (by decide)) (S2.2.2 107 (by decide)) (S2.2.2 108 (by decide)) (S2.2.2 109 (by decide)) f_FT), (stA_cg (S2.2.2 110 (by decide)) (S2.2.2 118 (by decide)) (S2.2.2 119 (by decide)) (S2.2.2 120 (by decide)) f_FA), (vB_cst (by omega) g_V1), ⟨cn, (S2.2.1 33 (by decide)).trans gcn, by omega, by omega⟩⟩
  refine lv_pop hx hb d_law_357 rfl ?_
  refine lv_goto (tgt := 1068) hx hb d_law_358 (by decide) ?_
  exact kk κ1 L1 f1 I2 J2 B2 G2 H2 locs2 _ _ Y2 N1.1 N1.2.1 N1.2.2.1 N1.2.2.2.1 N1.2.2.2.2 PM2 DM2 AP2 IV2 (by omega) (by omega)
set_option maxHeartbeats 4000000 in
set_option maxRecDepth 100000 in
theorem law_7 {p : Program} {l : Launch} {e : Env} {s : State} {m : MethodId} {below : List Frame} {meth : Method} {c : Code} {b h xo cn0 tp n : Nat} {k : Int} {xs : Nat → Int32} {D : va_G} {E : cE} {T : cT} {κ : tK} {L : List Nat} {f : pF} {D2 : mD} {E2 : mE} {q : Nat → Nat} {I : Nat → Int32} {J : Nat → Int64} {B : Nat → Nat → Int32} {G : Nat → Nat → Int64} {H : Heap} {locs : List Loc} {cells slots : Nat} {ls : Array Slot} (C0 : lw_At p s m meth c b n xs) (hk0 : 0 ≤ k) (hk : 8 * k + 8 ≤ n) (hn : n ≤ 4096) (X : cX R_law p c code #[Value.ref b] s m D E) (KS : kS T (lA s) s s.heap) (KR : kR T s) (K2 : va_K D2.1 mCl (mTy E2) s) (Z2 : zS D2.2.1 D2.2.2.1 D2.2.2.2 (lA s) s s.heap) (R2 : zR D2.2.1 s) (Y : pH D cCl (lA s) s.heap L f H locs) (hw : tW E T κ L f) (kx : κ xo = (10, 0)) (c6 : gF f xo 6 = .ref cn0) (c3 : gF f cn0 3 = .ref tp) (c1 : gF f xo 1 = .ref tp) (PM : va_P D2.1 mCl (mW E2 h q I J B G) H) (DM : va_D (lA s) (mW E2 h q I J B G)) (AP : ∀ (k : Nat) (x : Nat × va_E), (mW E2 h q I J B G)[k]? = some x → x.1 ∉ L) (IV : LIv k I B) (hc : (cells : Int) ≤ 1000 + 3 * k) (hs : (slots : Int) ≤ 400000 + 4100 * k) (hl : lv_has ls 4 [(3, .int (iI (8 * k))), (2, .ref h), (1, .ref xo), (0, .ref b)]) (kk : ∀ (κ : tK) (L : List Nat) (f : pF) (I : Nat → Int32) (J : Nat → Int64) (B : Nat → Nat → Int32) (G : Nat → Nat → Int64) (H : Heap) (locs : List Loc) (cells slots : Nat), pH D cCl (lA s) s.heap L f H locs → tW E T κ L f → κ xo = (10, 0) → gF f xo 6 = .ref cn0 → gF f cn0 3 = .ref tp → gF f xo 1 = .ref tp → va_P D2.1 mCl (mW E2 h q I J B G) H → va_D (lA s) (mW E2 h q I J B G) → (∀ (k : Nat) (x : Nat × va_E), (mW E2 h q I J B G)[k]? = some x → x.1 ∉ L) → LIv (k + 1) I B → (cells : Int) ≤ 1000 + 3 * (k + 1) → (slots : Int) ≤ 400000 + 4100 * (k + 1) → W p l e room_1 s m #[Value.ref b] below meth c H locs cells slots (lw_Z below #[Value.ref b] s) (F0 m 1068 ls [])) : W p l e room_1 s m #[Value.ref b] below meth c H locs cells slots (lw_Z below #[Value.ref b] s) (F0 m 361 ls []) := by
  obtain ⟨hx, hb, hr, hml, hown, hts, hX, hbl, hlocks, hgv⟩ := id C0
  have hbA : ¬ lA s b := Nat.not_le.mpr hbl
  have hA : ∀ a, s.heap.size ≤ a → lA s a := fun _ h9 => h9
  obtain ⟨hT, f_P1, f_P2, f_FT, f_FA, f_V, cn, gcn, lcn, ucn⟩ := IV
  have S0 : tS E T (tFr κ L [] []) κ L f κ L f := tS_rf hw
  refine lv_aload_n hx hb d_law_361 rfl (lv_at hl 2 rfl) ?_
  refine lv_aload_n hx hb d_law_362 rfl (lv_at hl 3 rfl) ?_
  refine lv_iload_n hx hb d_law_363 rfl (lv_at hl 0 rfl) ?_
  refine lv_iconst (v := iI 1) hx hb d_law_364 (by decide) ?_
  refine z_iadd hx hb d_law_365 ?_
  refine va_sld hx hb hX hbl hbA Y.2.2 (iI_in (by omega) (by omega) (by omega)) d_law_366 ?_
  refine t_eq (iI_of _) ?_
  refine lv_aload_n hx hb d_law_367 rfl (lv_at hl 3 rfl) ?_
  refine lv_iload_n hx hb d_law_368 rfl (lv_at hl 0 rfl) ?_
  refine lv_iconst (v := iI 2) hx hb d_law_369 (by decide) ?_
  refine z_iadd hx hb d_law_370 ?_
  refine va_sld hx hb hX hbl hbA Y.2.2 (iI_in (by omega) (by omega) (by omega)) d_law_371 ?_
  refine t_eq (iI_of _) ?_
  refine lx_i (t_runV (As := [.int (iI (xs (iI (8 * k + 1)).toNatClampNeg).toInt), .int (iI (xs (iI (8 * k + 2)).toNatClampNeg).toInt)]) (rest := []) (n := 2) X Y S0 kx hml hl.1 (c_H_change l D E T κ L f H.size xo kx (xs (iI (8 * k + 1)).toNatClampNeg).toInt (iI_r _).1 (iI_r _).2 (xs (iI (8 * k + 2)).toNatClampNeg).toInt (iI_r _).1 (iI_r _).2 hw) (ok_k X Y hA KS KR) rfl kl_L_H_change ks_H_change kx_H_change ki_H_change ini_H ⟨rfl, rfl⟩ hd_H_change ⟨by decide, by decide⟩ rfl (Nat.le_of_ble_eq_true rfl) d_law_372 ⟨by show cells + 2 ≤ 600000; omega, by show slots + 64 ≤ 7302250; omega⟩) X Y hA PM AP (fun r1 u1 H1 locs1 hp1 Y1 PM1 AP1 => ?_)
  obtain ⟨L1, f1⟩ := u1
  dsimp only at Y1 AP1
  obtain ⟨κ1, S1, z1, ez1, q1⟩ := hp1
  dsimp only at S1 q1
  have N1 := lc_next S1 hw kx c6 c3 c1 (by decide) (by decide)
  refine lv_pop hx hb d_law_375 rfl ?_
  refine lv_aload_n hx hb d_law_376 rfl (lv_at hl 1 rfl) ?_
  refine lv_aload_n hx hb d_law_377 rfl (lv_at hl 3 rfl) ?_
  refine lv_iload_n hx hb d_law_378 rfl (lv_at hl 0 rfl) ?_
  refine lv_iconst (v := iI 1) hx hb d_law_379 (by decide) ?_
  refine z_iadd hx hb d_law_380 ?_
  refine va_sld hx hb hX hbl hbA Y1.2.2 (iI_in (by omega) (by omega) (by omega)) d_law_381 ?_
  refine t_eq (iI_of _) ?_
  refine lv_aload_n hx hb d_law_382 rfl (lv_at hl 3 rfl) ?_
  refine lv_iload_n hx hb d_law_383 rfl (lv_at hl 0 rfl) ?_
  refine lv_iconst (v := iI 2) hx hb d_law_384 (by decide) ?_
  refine z_iadd hx hb d_law_385 ?_
  refine va_sld hx hb hX hbl hbA Y1.2.2 (iI_in (by omega) (by omega) (by omega)) d_law_386 ?_
  refine t_eq (iI_of _) ?_
  refine lm_i (As := [.int (iI (xs (iI (8 * k + 1)).toNatClampNeg).toInt), .int (iI (xs (iI (8 * k + 2)).toNatClampNeg).toInt)]) (rest := []) (n := 2) hx hb X.2.2.1 hown K2 Z2 R2 Y1 PM1 DM AP1 hA hml hl.1 (r_M_change l D2 E2 h q H1.size I J B G (xs (iI (8 * k + 1)).toNatClampNeg).toInt (iI_r _).1 (iI_r _).2 (xs (iI (8 * k + 2)).toNatClampNeg).toInt (iI_r _).1 (iI_r _).2 hT (1 + k) (by omega) f_V) kl_L_M_change ks_M_change kx_M_change ki_M_change hd_M_change ⟨by decide, by decide⟩ rfl (Nat.le_of_ble_eq_true rfl) d_law_387 ⟨by show cells + 2 ≤ 600000; omega, by show slots + 64 ≤ 7302250; omega⟩ (fun r2 u2 H2 locs2 hp2 Y2 PM2 DM2 AP2 => ?_)
  obtain ⟨I2, J2, B2, G2⟩ := u2
  obtain ⟨S2, z2, ez2, q2⟩ := hp2
  dsimp only at S2 q2 PM2 DM2 AP2
  obtain ⟨lz, uz, g_V1⟩ := q2
  have IV2 : LIv (k + 1) I2 B2 := ⟨S2.1, (pG1_cg (S2.2.1 39 (by decide)) (S2.2.1 40 (by decide)) f_P1), (pG2_cg (S2.2.2 37 (by decide)) (S2.2.2 38 (by decide)) f_P2), (stT_cg (S2.2.2 97 (by decide)) (S2.2.2 98 (by decide)) (S2.2.2 100 (by decide)) (S2.2.2 107 (by decide)) (S2.2.2 108 (by decide)) (S2.2.2 109 (by decide)) f_FT), (stA_cg (S2.2.2 110 (by decide)) (S2.2.2 118 (by decide)) (S2.2.2 119 (by decide)) (S2.2.2 120 (by decide)) f_FA), (vB_cst (by omega) g_V1), ⟨cn, (S2.2.1 33 (by decide)).trans gcn, by omega, by omega⟩⟩
  refine lv_pop hx hb d_law_390 rfl ?_
  refine lv_goto (tgt := 1068) hx hb d_law_391 (by decide) ?_
  exact kk κ1 L1 f1 I2 J2 B2 G2 H2 locs2 _ _ Y2 N1.1 N1.2.1 N1.2.2.1 N1.2.2.2.1 N1.2.2.2.2 PM2 DM2 AP2 IV2 (by omega) (by omega)
set_option maxHeartbeats 4000000 in
set_option maxRecDepth 100000 in
theorem law_8 {p : Program} {l : Launch} {e : Env} {s : State} {m : MethodId} {below : List Frame} {meth : Method} {c : Code} {b h xo cn0 tp n : Nat} {k : Int} {xs : Nat → Int32} {D : va_G} {E : cE} {T : cT} {κ : tK} {L : List Nat} {f : pF} {D2 : mD} {E2 : mE} {q : Nat → Nat} {I : Nat → Int32} {J : Nat → Int64} {B : Nat → Nat → Int32} {G : Nat → Nat → Int64} {H : Heap} {locs : List Loc} {cells slots : Nat} {ls : Array Slot} (C0 : lw_At p s m meth c b n xs) (hk0 : 0 ≤ k) (hk : 8 * k + 8 ≤ n) (hn : n ≤ 4096) (X : cX R_law p c code #[Value.ref b] s m D E) (KS : kS T (lA s) s s.heap) (KR : kR T s) (K2 : va_K D2.1 mCl (mTy E2) s) (Z2 : zS D2.2.1 D2.2.2.1 D2.2.2.2 (lA s) s s.heap) (R2 : zR D2.2.1 s) (Y : pH D cCl (lA s) s.heap L f H locs) (hw : tW E T κ L f) (kx : κ xo = (10, 0)) (c6 : gF f xo 6 = .ref cn0) (c3 : gF f cn0 3 = .ref tp) (c1 : gF f xo 1 = .ref tp) (PM : va_P D2.1 mCl (mW E2 h q I J B G) H) (DM : va_D (lA s) (mW E2 h q I J B G)) (AP : ∀ (k : Nat) (x : Nat × va_E), (mW E2 h q I J B G)[k]? = some x → x.1 ∉ L) (IV : LIv k I B) (hc : (cells : Int) ≤ 1000 + 3 * k) (hs : (slots : Int) ≤ 400000 + 4100 * k) (hl : lv_has ls 4 [(3, .int (iI (8 * k))), (2, .ref h), (1, .ref xo), (0, .ref b)]) (kk : ∀ (κ : tK) (L : List Nat) (f : pF) (I : Nat → Int32) (J : Nat → Int64) (B : Nat → Nat → Int32) (G : Nat → Nat → Int64) (H : Heap) (locs : List Loc) (cells slots : Nat), pH D cCl (lA s) s.heap L f H locs → tW E T κ L f → κ xo = (10, 0) → gF f xo 6 = .ref cn0 → gF f cn0 3 = .ref tp → gF f xo 1 = .ref tp → va_P D2.1 mCl (mW E2 h q I J B G) H → va_D (lA s) (mW E2 h q I J B G) → (∀ (k : Nat) (x : Nat × va_E), (mW E2 h q I J B G)[k]? = some x → x.1 ∉ L) → LIv (k + 1) I B → (cells : Int) ≤ 1000 + 3 * (k + 1) → (slots : Int) ≤ 400000 + 4100 * (k + 1) → W p l e room_1 s m #[Value.ref b] below meth c H locs cells slots (lw_Z below #[Value.ref b] s) (F0 m 1068 ls [])) : W p l e room_1 s m #[Value.ref b] below meth c H locs cells slots (lw_Z below #[Value.ref b] s) (F0 m 394 ls []) := by
  obtain ⟨hx, hb, hr, hml, hown, hts, hX, hbl, hlocks, hgv⟩ := id C0
  have hbA : ¬ lA s b := Nat.not_le.mpr hbl
  have hA : ∀ a, s.heap.size ≤ a → lA s a := fun _ h9 => h9
  obtain ⟨hT, f_P1, f_P2, f_FT, f_FA, f_V, cn, gcn, lcn, ucn⟩ := IV
  have S0 : tS E T (tFr κ L [] []) κ L f κ L f := tS_rf hw
  refine lv_aload_n hx hb d_law_394 rfl (lv_at hl 2 rfl) ?_
  refine lv_aload_n hx hb d_law_395 rfl (lv_at hl 3 rfl) ?_
  refine lv_iload_n hx hb d_law_396 rfl (lv_at hl 0 rfl) ?_
  refine lv_iconst (v := iI 1) hx hb d_law_397 (by decide) ?_
  refine z_iadd hx hb d_law_398 ?_
  refine va_sld hx hb hX hbl hbA Y.2.2 (iI_in (by omega) (by omega) (by omega)) d_law_399 ?_
  refine t_eq (iI_of _) ?_
  refine lv_aload_n hx hb d_law_400 rfl (lv_at hl 3 rfl) ?_
  refine lv_iload_n hx hb d_law_401 rfl (lv_at hl 0 rfl) ?_
  refine lv_iconst (v := iI 2) hx hb d_law_402 (by decide) ?_
  refine z_iadd hx hb d_law_403 ?_
  refine va_sld hx hb hX hbl hbA Y.2.2 (iI_in (by omega) (by omega) (by omega)) d_law_404 ?_
  refine t_eq (iI_of _) ?_
  refine lv_aload_n hx hb d_law_405 rfl (lv_at hl 3 rfl) ?_
  refine lv_iload_n hx hb d_law_406 rfl (lv_at hl 0 rfl) ?_
  refine lv_iconst (v := iI 3) hx hb d_law_407 (by decide) ?_
  refine z_iadd hx hb d_law_408 ?_
  refine va_sld hx hb hX hbl hbA Y.2.2 (iI_in (by omega) (by omega) (by omega)) d_law_409 ?_
  refine t_eq (iI_of _) ?_
  refine lx_i (t_runV (As := [.int (iI (xs (iI (8 * k + 1)).toNatClampNeg).toInt), .int (iI (xs (iI (8 * k + 2)).toNatClampNeg).toInt), .int (iI (xs (iI (8 * k + 3)).toNatClampNeg).toInt)]) (rest := []) (n := 3) X Y S0 kx hml hl.1 (c_H_policy l D E T κ L f H.size xo kx (xs (iI (8 * k + 1)).toNatClampNeg).toInt (iI_r _).1 (iI_r _).2 (xs (iI (8 * k + 2)).toNatClampNeg).toInt (iI_r _).1 (iI_r _).2 (xs (iI (8 * k + 3)).toNatClampNeg).toInt (iI_r _).1 (iI_r _).2 hw) (ok_k X Y hA KS KR) rfl kl_L_H_policy ks_H_policy kx_H_policy ki_H_policy ini_H ⟨rfl, rfl⟩ hd_H_policy ⟨by decide, by decide⟩ rfl (Nat.le_of_ble_eq_true rfl) d_law_410 ⟨by show cells + 0 ≤ 600000; omega, by show slots + 0 ≤ 7302250; omega⟩) X Y hA PM AP (fun r1 u1 H1 locs1 hp1 Y1 PM1 AP1 => ?_)
  obtain ⟨L1, f1⟩ := u1
  dsimp only at Y1 AP1
  obtain ⟨e1, S1, z1, ez1, q1⟩ := hp1
  dsimp only at e1 S1
  subst e1
  have N1 := lc_next S1 hw kx c6 c3 c1 (by decide) (by decide)
  refine lv_pop hx hb d_law_413 rfl ?_
  refine lv_aload_n hx hb d_law_414 rfl (lv_at hl 1 rfl) ?_
  refine lv_aload_n hx hb d_law_415 rfl (lv_at hl 3 rfl) ?_
  refine lv_iload_n hx hb d_law_416 rfl (lv_at hl 0 rfl) ?_
  refine lv_iconst (v := iI 1) hx hb d_law_417 (by decide) ?_
  refine z_iadd hx hb d_law_418 ?_
  refine va_sld hx hb hX hbl hbA Y1.2.2 (iI_in (by omega) (by omega) (by omega)) d_law_419 ?_
  refine t_eq (iI_of _) ?_
  refine lv_aload_n hx hb d_law_420 rfl (lv_at hl 3 rfl) ?_
  refine lv_iload_n hx hb d_law_421 rfl (lv_at hl 0 rfl) ?_
  refine lv_iconst (v := iI 2) hx hb d_law_422 (by decide) ?_
  refine z_iadd hx hb d_law_423 ?_
  refine va_sld hx hb hX hbl hbA Y1.2.2 (iI_in (by omega) (by omega) (by omega)) d_law_424 ?_
  refine t_eq (iI_of _) ?_
  refine lv_aload_n hx hb d_law_425 rfl (lv_at hl 3 rfl) ?_
  refine lv_iload_n hx hb d_law_426 rfl (lv_at hl 0 rfl) ?_
  refine lv_iconst (v := iI 3) hx hb d_law_427 (by decide) ?_
  refine z_iadd hx hb d_law_428 ?_
  refine va_sld hx hb hX hbl hbA Y1.2.2 (iI_in (by omega) (by omega) (by omega)) d_law_429 ?_
  refine t_eq (iI_of _) ?_
  refine lm_i (As := [.int (iI (xs (iI (8 * k + 1)).toNatClampNeg).toInt), .int (iI (xs (iI (8 * k + 2)).toNatClampNeg).toInt), .int (iI (xs (iI (8 * k + 3)).toNatClampNeg).toInt)]) (rest := []) (n := 3) hx hb X.2.2.1 hown K2 Z2 R2 Y1 PM1 DM AP1 hA hml hl.1 (r_M_policy l D2 E2 h q H1.size I J B G (xs (iI (8 * k + 1)).toNatClampNeg).toInt (iI_r _).1 (iI_r _).2 (xs (iI (8 * k + 2)).toNatClampNeg).toInt (iI_r _).1 (iI_r _).2 (xs (iI (8 * k + 3)).toNatClampNeg).toInt (iI_r _).1 (iI_r _).2 hT) kl_L_M_policy ks_M_policy kx_M_policy ki_M_policy hd_M_policy ⟨by decide, by decide⟩ rfl (Nat.le_of_ble_eq_true rfl) d_law_430 ⟨by show cells + 0 ≤ 600000; omega, by show slots + 0 ≤ 7302250; omega⟩ (fun r2 u2 H2 locs2 hp2 Y2 PM2 DM2 AP2 => ?_)
  obtain ⟨I2, J2, B2, G2⟩ := u2
  obtain ⟨S2, z2, ez2, q2⟩ := hp2
  dsimp only at S2 q2 PM2 DM2 AP2
  obtain ⟨lz, uz⟩ := q2
  have IV2 : LIv (k + 1) I2 B2 := ⟨S2.1, (pG1_cg (S2.2.1 39 (by decide)) (S2.2.1 40 (by decide)) f_P1), (pG2_cg (S2.2.2 37 (by decide)) (S2.2.2 38 (by decide)) f_P2), (stT_cg (S2.2.2 97 (by decide)) (S2.2.2 98 (by decide)) (S2.2.2 100 (by decide)) (S2.2.2 107 (by decide)) (S2.2.2 108 (by decide)) (S2.2.2 109 (by decide)) f_FT), (stA_cg (S2.2.2 110 (by decide)) (S2.2.2 118 (by decide)) (S2.2.2 119 (by decide)) (S2.2.2 120 (by decide)) f_FA), (vB_le (show 1 + k ≤ 1 + (k + 1) by omega) (vB_cg (S2.2.2 46 (by decide)) f_V)), ⟨cn, (S2.2.1 33 (by decide)).trans gcn, by omega, by omega⟩⟩
  refine lv_pop hx hb d_law_433 rfl ?_
  refine lv_goto (tgt := 1068) hx hb d_law_434 (by decide) ?_
  exact kk κ L1 f1 I2 J2 B2 G2 H2 locs2 _ _ Y2 N1.1 N1.2.1 N1.2.2.1 N1.2.2.2.1 N1.2.2.2.2 PM2 DM2 AP2 IV2 (by omega) (by omega)
set_option maxHeartbeats 4000000 in
set_option maxRecDepth 100000 in
theorem law_9 {p : Program} {l : Launch} {e : Env} {s : State} {m : MethodId} {below : List Frame} {meth : Method} {c : Code} {b h xo cn0 tp n : Nat} {k : Int} {xs : Nat → Int32} {D : va_G} {E : cE} {T : cT} {κ : tK} {L : List Nat} {f : pF} {D2 : mD} {E2 : mE} {q : Nat → Nat} {I : Nat → Int32} {J : Nat → Int64} {B : Nat → Nat → Int32} {G : Nat → Nat → Int64} {H : Heap} {locs : List Loc} {cells slots : Nat} {ls : Array Slot} (C0 : lw_At p s m meth c b n xs) (hk0 : 0 ≤ k) (hk : 8 * k + 8 ≤ n) (hn : n ≤ 4096) (X : cX R_law p c code #[Value.ref b] s m D E) (KS : kS T (lA s) s s.heap) (KR : kR T s) (K2 : va_K D2.1 mCl (mTy E2) s) (Z2 : zS D2.2.1 D2.2.2.1 D2.2.2.2 (lA s) s s.heap) (R2 : zR D2.2.1 s) (Y : pH D cCl (lA s) s.heap L f H locs) (hw : tW E T κ L f) (kx : κ xo = (10, 0)) (c6 : gF f xo 6 = .ref cn0) (c3 : gF f cn0 3 = .ref tp) (c1 : gF f xo 1 = .ref tp) (PM : va_P D2.1 mCl (mW E2 h q I J B G) H) (DM : va_D (lA s) (mW E2 h q I J B G)) (AP : ∀ (k : Nat) (x : Nat × va_E), (mW E2 h q I J B G)[k]? = some x → x.1 ∉ L) (IV : LIv k I B) (hc : (cells : Int) ≤ 1000 + 3 * k) (hs : (slots : Int) ≤ 400000 + 4100 * k) (hl : lv_has ls 4 [(3, .int (iI (8 * k))), (2, .ref h), (1, .ref xo), (0, .ref b)]) (kk : ∀ (κ : tK) (L : List Nat) (f : pF) (I : Nat → Int32) (J : Nat → Int64) (B : Nat → Nat → Int32) (G : Nat → Nat → Int64) (H : Heap) (locs : List Loc) (cells slots : Nat), pH D cCl (lA s) s.heap L f H locs → tW E T κ L f → κ xo = (10, 0) → gF f xo 6 = .ref cn0 → gF f cn0 3 = .ref tp → gF f xo 1 = .ref tp → va_P D2.1 mCl (mW E2 h q I J B G) H → va_D (lA s) (mW E2 h q I J B G) → (∀ (k : Nat) (x : Nat × va_E), (mW E2 h q I J B G)[k]? = some x → x.1 ∉ L) → LIv (k + 1) I B → (cells : Int) ≤ 1000 + 3 * (k + 1) → (slots : Int) ≤ 400000 + 4100 * (k + 1) → W p l e room_1 s m #[Value.ref b] below meth c H locs cells slots (lw_Z below #[Value.ref b] s) (F0 m 1068 ls [])) : W p l e room_1 s m #[Value.ref b] below meth c H locs cells slots (lw_Z below #[Value.ref b] s) (F0 m 437 ls []) := by
  obtain ⟨hx, hb, hr, hml, hown, hts, hX, hbl, hlocks, hgv⟩ := id C0
  have hbA : ¬ lA s b := Nat.not_le.mpr hbl
  have hA : ∀ a, s.heap.size ≤ a → lA s a := fun _ h9 => h9
  obtain ⟨hT, f_P1, f_P2, f_FT, f_FA, f_V, cn, gcn, lcn, ucn⟩ := IV
  have S0 : tS E T (tFr κ L [] []) κ L f κ L f := tS_rf hw
  refine lv_aload_n hx hb d_law_437 rfl (lv_at hl 2 rfl) ?_
  refine lv_aload_n hx hb d_law_438 rfl (lv_at hl 3 rfl) ?_
  refine lv_iload_n hx hb d_law_439 rfl (lv_at hl 0 rfl) ?_
  refine lv_iconst (v := iI 1) hx hb d_law_440 (by decide) ?_
  refine z_iadd hx hb d_law_441 ?_
  refine va_sld hx hb hX hbl hbA Y.2.2 (iI_in (by omega) (by omega) (by omega)) d_law_442 ?_
  refine t_eq (iI_of _) ?_
  refine lx_i (t_runV (As := [.int (iI (xs (iI (8 * k + 1)).toNatClampNeg).toInt)]) (rest := []) (n := 1) X Y S0 kx hml hl.1 (c_H_roomX l D E T κ L f H.size xo kx (xs (iI (8 * k + 1)).toNatClampNeg).toInt (iI_r _).1 (iI_r _).2 hw) (ok_k X Y hA KS KR) rfl kl_L_H_room ks_H_room kx_H_room ki_H_room ini_H ⟨rfl, rfl⟩ hd_H_room ⟨by decide, by decide⟩ rfl (Nat.le_of_ble_eq_true rfl) d_law_443 ⟨by show cells + 0 ≤ 600000; omega, by show slots + 0 ≤ 7302250; omega⟩) X Y hA PM AP (fun r1 u1 H1 locs1 hp1 Y1 PM1 AP1 => ?_)
  obtain ⟨L1, f1⟩ := u1
  dsimp only at Y1 AP1
  obtain ⟨e1, S1, z1, ez1, q1⟩ := hp1
  dsimp only at e1 S1
  subst e1
  have N1 := lc_next S1 hw kx c6 c3 c1 (by decide) (by decide)
  refine lv_aload_n hx hb d_law_446 rfl (lv_at hl 1 rfl) ?_
  refine lv_aload_n hx hb d_law_447 rfl (lv_at hl 3 rfl) ?_
  refine lv_iload_n hx hb d_law_448 rfl (lv_at hl 0 rfl) ?_
  refine lv_iconst (v := iI 1) hx hb d_law_449 (by decide) ?_
  refine z_iadd hx hb d_law_450 ?_
  refine va_sld hx hb hX hbl hbA Y1.2.2 (iI_in (by omega) (by omega) (by omega)) d_law_451 ?_
  refine t_eq (iI_of _) ?_
  refine lm_i (As := [.int (iI (xs (iI (8 * k + 1)).toNatClampNeg).toInt)]) (rest := [.int r1]) (n := 1) hx hb X.2.2.1 hown K2 Z2 R2 Y1 PM1 DM AP1 hA hml hl.1 (r_M_room_x l D2 E2 h q H1.size I J B G (xs (iI (8 * k + 1)).toNatClampNeg).toInt (iI_r _).1 (iI_r _).2 hT) kl_L_M_room ks_M_room kx_M_room ki_M_room hd_M_room ⟨by decide, by decide⟩ rfl (Nat.le_of_ble_eq_true rfl) d_law_452 ⟨by show cells + 0 ≤ 600000; omega, by show slots + 0 ≤ 7302250; omega⟩ (fun r2 u2 H2 locs2 hp2 Y2 PM2 DM2 AP2 => ?_)
  obtain ⟨I2, J2, B2, G2⟩ := u2
  obtain ⟨S2, z2, ez2, q2⟩ := hp2
  dsimp only at S2 q2 PM2 DM2 AP2
  obtain ⟨lz, uz, xp⟩ := q2
  have IV2 : LIv (k + 1) I2 B2 := ⟨S2.1, (pG1_cg (S2.2.1 39 (by decide)) (S2.2.1 40 (by decide)) f_P1), (pG2_cg (S2.2.2 37 (by decide)) (S2.2.2 38 (by decide)) f_P2), (stT_cg (S2.2.2 97 (by decide)) (S2.2.2 98 (by decide)) (S2.2.2 100 (by decide)) (S2.2.2 107 (by decide)) (S2.2.2 108 (by decide)) (S2.2.2 109 (by decide)) f_FT), (stA_cg (S2.2.2 110 (by decide)) (S2.2.2 118 (by decide)) (S2.2.2 119 (by decide)) (S2.2.2 120 (by decide)) f_FA), (vB_le (show 1 + k ≤ 1 + (k + 1) by omega) (vB_cg (S2.2.2 46 (by decide)) f_V)), ⟨cn, (S2.2.1 33 (by decide)).trans gcn, by omega, by omega⟩⟩
  subst ez1 ez2
  refine z_icmp_eq (tgt := 1068) hx hb d_law_455 (by decide) ⟨by omega, by omega⟩ ⟨by omega, by omega⟩ (fun _ => ?_) (fun h9 => absurd (show z1 = z2 by have h8 := q1.2.2; omega) h9)
  exact kk κ L1 f1 I2 J2 B2 G2 H2 locs2 _ _ Y2 N1.1 N1.2.1 N1.2.2.1 N1.2.2.2.1 N1.2.2.2.2 PM2 DM2 AP2 IV2 (by omega) (by omega)
set_option maxHeartbeats 4000000 in
set_option maxRecDepth 100000 in
theorem law_10 {p : Program} {l : Launch} {e : Env} {s : State} {m : MethodId} {below : List Frame} {meth : Method} {c : Code} {b h xo cn0 tp n : Nat} {k : Int} {xs : Nat → Int32} {D : va_G} {E : cE} {T : cT} {κ : tK} {L : List Nat} {f : pF} {D2 : mD} {E2 : mE} {q : Nat → Nat} {I : Nat → Int32} {J : Nat → Int64} {B : Nat → Nat → Int32} {G : Nat → Nat → Int64} {H : Heap} {locs : List Loc} {cells slots : Nat} {ls : Array Slot} (C0 : lw_At p s m meth c b n xs) (hk0 : 0 ≤ k) (hk : 8 * k + 8 ≤ n) (hn : n ≤ 4096) (X : cX R_law p c code #[Value.ref b] s m D E) (KS : kS T (lA s) s s.heap) (KR : kR T s) (K2 : va_K D2.1 mCl (mTy E2) s) (Z2 : zS D2.2.1 D2.2.2.1 D2.2.2.2 (lA s) s s.heap) (R2 : zR D2.2.1 s) (Y : pH D cCl (lA s) s.heap L f H locs) (hw : tW E T κ L f) (kx : κ xo = (10, 0)) (c6 : gF f xo 6 = .ref cn0) (c3 : gF f cn0 3 = .ref tp) (c1 : gF f xo 1 = .ref tp) (PM : va_P D2.1 mCl (mW E2 h q I J B G) H) (DM : va_D (lA s) (mW E2 h q I J B G)) (AP : ∀ (k : Nat) (x : Nat × va_E), (mW E2 h q I J B G)[k]? = some x → x.1 ∉ L) (IV : LIv k I B) (hc : (cells : Int) ≤ 1000 + 3 * k) (hs : (slots : Int) ≤ 400000 + 4100 * k) (hl : lv_has ls 4 [(3, .int (iI (8 * k))), (2, .ref h), (1, .ref xo), (0, .ref b)]) (kk : ∀ (κ : tK) (L : List Nat) (f : pF) (I : Nat → Int32) (J : Nat → Int64) (B : Nat → Nat → Int32) (G : Nat → Nat → Int64) (H : Heap) (locs : List Loc) (cells slots : Nat), pH D cCl (lA s) s.heap L f H locs → tW E T κ L f → κ xo = (10, 0) → gF f xo 6 = .ref cn0 → gF f cn0 3 = .ref tp → gF f xo 1 = .ref tp → va_P D2.1 mCl (mW E2 h q I J B G) H → va_D (lA s) (mW E2 h q I J B G) → (∀ (k : Nat) (x : Nat × va_E), (mW E2 h q I J B G)[k]? = some x → x.1 ∉ L) → LIv (k + 1) I B → (cells : Int) ≤ 1000 + 3 * (k + 1) → (slots : Int) ≤ 400000 + 4100 * (k + 1) → W p l e room_1 s m #[Value.ref b] below meth c H locs cells slots (lw_Z below #[Value.ref b] s) (F0 m 1068 ls [])) : W p l e room_1 s m #[Value.ref b] below meth c H locs cells slots (lw_Z below #[Value.ref b] s) (F0 m 460 ls []) := by
  obtain ⟨hx, hb, hr, hml, hown, hts, hX, hbl, hlocks, hgv⟩ := id C0
  have hbA : ¬ lA s b := Nat.not_le.mpr hbl
  have hA : ∀ a, s.heap.size ≤ a → lA s a := fun _ h9 => h9
  obtain ⟨hT, f_P1, f_P2, f_FT, f_FA, f_V, cn, gcn, lcn, ucn⟩ := IV
  have S0 : tS E T (tFr κ L [] []) κ L f κ L f := tS_rf hw
  refine lv_aload_n hx hb d_law_460 rfl (lv_at hl 2 rfl) ?_
  refine lx_i (t_runV (As := []) (rest := []) (n := 0) X Y S0 kx hml hl.1 (c_H_kdcX l D E T κ L f H.size xo kx  hw cn0 tp c6 c3 c1) (ok_k X Y hA KS KR) rfl kl_L_H_kdc ks_H_kdc kx_H_kdc ki_H_kdc ini_H ⟨rfl, rfl⟩ hd_H_kdc ⟨by decide, by decide⟩ rfl (Nat.le_of_ble_eq_true rfl) d_law_461 ⟨by show cells + 3 ≤ 600000; omega, by show slots + 96 ≤ 7302250; omega⟩) X Y hA PM AP (fun r1 u1 H1 locs1 hp1 Y1 PM1 AP1 => ?_)
  obtain ⟨L1, f1⟩ := u1
  dsimp only at Y1 AP1
  obtain ⟨κ1, S1, z1, ez1, q1⟩ := hp1
  dsimp only at S1 q1
  have N1 : tW E T κ1 L1 f1 ∧ κ1 xo = (10, 0) ∧ gF f1 xo 6 = .ref cn0 ∧ gF f1 cn0 3 = .ref tp ∧ gF f1 xo 1 = .ref tp := ⟨S1.1, (S1.2.2.1 xo (by rw [kx]; decide)).trans kx, q1.2.2⟩
  refine lv_pop hx hb d_law_464 rfl ?_
  refine lv_aload_n hx hb d_law_465 rfl (lv_at hl 1 rfl) ?_
  refine lm_i (As := []) (rest := []) (n := 0) hx hb X.2.2.1 hown K2 Z2 R2 Y1 PM1 DM AP1 hA hml hl.1 (r_M_kdc l D2 E2 h q H1.size I J B G hT cn gcn (by omega) (by omega) f_P1 f_P2) kl_L_M_kdc ks_M_kdc kx_M_kdc ki_M_kdc hd_M_kdc ⟨by decide, by decide⟩ rfl (Nat.le_of_ble_eq_true rfl) d_law_466 ⟨by show cells + 3 ≤ 600000; omega, by show slots + 96 ≤ 7302250; omega⟩ (fun r2 u2 H2 locs2 hp2 Y2 PM2 DM2 AP2 => ?_)
  obtain ⟨I2, J2, B2, G2⟩ := u2
  obtain ⟨S2, z2, ez2, q2⟩ := hp2
  dsimp only at S2 q2 PM2 DM2 AP2
  obtain ⟨lz, uz, xp, g_P1, g_P2⟩ := q2
  obtain ⟨v9, e9, l9, m9⟩ := xp
  have IV2 : LIv (k + 1) I2 B2 := ⟨S2.1, g_P1, g_P2, (stT_cg (S2.2.2 97 (by decide)) (S2.2.2 98 (by decide)) (S2.2.2 100 (by decide)) (S2.2.2 107 (by decide)) (S2.2.2 108 (by decide)) (S2.2.2 109 (by decide)) f_FT), (stA_cg (S2.2.2 110 (by decide)) (S2.2.2 118 (by decide)) (S2.2.2 119 (by decide)) (S2.2.2 120 (by decide)) f_FA), (vB_le (show 1 + k ≤ 1 + (k + 1) by omega) (vB_cg (S2.2.2 46 (by decide)) f_V)), ⟨v9, e9, by omega, by omega⟩⟩
  refine lv_pop hx hb d_law_469 rfl ?_
  refine lv_goto (tgt := 1068) hx hb d_law_470 (by decide) ?_
  exact kk κ1 L1 f1 I2 J2 B2 G2 H2 locs2 _ _ Y2 N1.1 N1.2.1 N1.2.2.1 N1.2.2.2.1 N1.2.2.2.2 PM2 DM2 AP2 IV2 (by omega) (by omega)
set_option maxHeartbeats 4000000 in
set_option maxRecDepth 100000 in
theorem law_11 {p : Program} {l : Launch} {e : Env} {s : State} {m : MethodId} {below : List Frame} {meth : Method} {c : Code} {b h xo cn0 tp n : Nat} {k : Int} {xs : Nat → Int32} {D : va_G} {E : cE} {T : cT} {κ : tK} {L : List Nat} {f : pF} {D2 : mD} {E2 : mE} {q : Nat → Nat} {I : Nat → Int32} {J : Nat → Int64} {B : Nat → Nat → Int32} {G : Nat → Nat → Int64} {H : Heap} {locs : List Loc} {cells slots : Nat} {ls : Array Slot} (C0 : lw_At p s m meth c b n xs) (hk0 : 0 ≤ k) (hk : 8 * k + 8 ≤ n) (hn : n ≤ 4096) (X : cX R_law p c code #[Value.ref b] s m D E) (KS : kS T (lA s) s s.heap) (KR : kR T s) (K2 : va_K D2.1 mCl (mTy E2) s) (Z2 : zS D2.2.1 D2.2.2.1 D2.2.2.2 (lA s) s s.heap) (R2 : zR D2.2.1 s) (Y : pH D cCl (lA s) s.heap L f H locs) (hw : tW E T κ L f) (kx : κ xo = (10, 0)) (c6 : gF f xo 6 = .ref cn0) (c3 : gF f cn0 3 = .ref tp) (c1 : gF f xo 1 = .ref tp) (PM : va_P D2.1 mCl (mW E2 h q I J B G) H) (DM : va_D (lA s) (mW E2 h q I J B G)) (AP : ∀ (k : Nat) (x : Nat × va_E), (mW E2 h q I J B G)[k]? = some x → x.1 ∉ L) (IV : LIv k I B) (hc : (cells : Int) ≤ 1000 + 3 * k) (hs : (slots : Int) ≤ 400000 + 4100 * k) (hl : lv_has ls 4 [(3, .int (iI (8 * k))), (2, .ref h), (1, .ref xo), (0, .ref b)]) (kk : ∀ (κ : tK) (L : List Nat) (f : pF) (I : Nat → Int32) (J : Nat → Int64) (B : Nat → Nat → Int32) (G : Nat → Nat → Int64) (H : Heap) (locs : List Loc) (cells slots : Nat), pH D cCl (lA s) s.heap L f H locs → tW E T κ L f → κ xo = (10, 0) → gF f xo 6 = .ref cn0 → gF f cn0 3 = .ref tp → gF f xo 1 = .ref tp → va_P D2.1 mCl (mW E2 h q I J B G) H → va_D (lA s) (mW E2 h q I J B G) → (∀ (k : Nat) (x : Nat × va_E), (mW E2 h q I J B G)[k]? = some x → x.1 ∉ L) → LIv (k + 1) I B → (cells : Int) ≤ 1000 + 3 * (k + 1) → (slots : Int) ≤ 400000 + 4100 * (k + 1) → W p l e room_1 s m #[Value.ref b] below meth c H locs cells slots (lw_Z below #[Value.ref b] s) (F0 m 1068 ls [])) : W p l e room_1 s m #[Value.ref b] below meth c H locs cells slots (lw_Z below #[Value.ref b] s) (F0 m 473 ls []) := by
  obtain ⟨hx, hb, hr, hml, hown, hts, hX, hbl, hlocks, hgv⟩ := id C0
  have hbA : ¬ lA s b := Nat.not_le.mpr hbl
  have hA : ∀ a, s.heap.size ≤ a → lA s a := fun _ h9 => h9
  obtain ⟨hT, f_P1, f_P2, f_FT, f_FA, f_V, cn, gcn, lcn, ucn⟩ := IV
  have S0 : tS E T (tFr κ L [] []) κ L f κ L f := tS_rf hw
  refine lv_aload_n hx hb d_law_473 rfl (lv_at hl 2 rfl) ?_
  refine lv_aload_n hx hb d_law_474 rfl (lv_at hl 3 rfl) ?_
  refine lv_iload_n hx hb d_law_475 rfl (lv_at hl 0 rfl) ?_
  refine lv_iconst (v := iI 1) hx hb d_law_476 (by decide) ?_
  refine z_iadd hx hb d_law_477 ?_
  refine va_sld hx hb hX hbl hbA Y.2.2 (iI_in (by omega) (by omega) (by omega)) d_law_478 ?_
  refine t_eq (iI_of _) ?_
  refine lv_aload_n hx hb d_law_479 rfl (lv_at hl 3 rfl) ?_
  refine lv_iload_n hx hb d_law_480 rfl (lv_at hl 0 rfl) ?_
  refine lv_iconst (v := iI 2) hx hb d_law_481 (by decide) ?_
  refine z_iadd hx hb d_law_482 ?_
  refine va_sld hx hb hX hbl hbA Y.2.2 (iI_in (by omega) (by omega) (by omega)) d_law_483 ?_
  refine t_eq (iI_of _) ?_
  refine lx_i (t_runV (As := [.int (iI (xs (iI (8 * k + 1)).toNatClampNeg).toInt), .int (iI (xs (iI (8 * k + 2)).toNatClampNeg).toInt)]) (rest := []) (n := 2) X Y S0 kx hml hl.1 (c_H_agent l D E T κ L f H.size xo kx (xs (iI (8 * k + 1)).toNatClampNeg).toInt (iI_r _).1 (iI_r _).2 (xs (iI (8 * k + 2)).toNatClampNeg).toInt (iI_r _).1 (iI_r _).2 hw) (ok_k X Y hA KS KR) rfl kl_L_H_agent ks_H_agent kx_H_agent ki_H_agent ini_H ⟨rfl, rfl⟩ hd_H_agent ⟨by decide, by decide⟩ rfl (Nat.le_of_ble_eq_true rfl) d_law_484 ⟨by show cells + 2 ≤ 600000; omega, by show slots + 64 ≤ 7302250; omega⟩) X Y hA PM AP (fun r1 u1 H1 locs1 hp1 Y1 PM1 AP1 => ?_)
  obtain ⟨L1, f1⟩ := u1
  dsimp only at Y1 AP1
  obtain ⟨κ1, S1, z1, ez1, q1⟩ := hp1
  dsimp only at S1 q1
  have N1 := lc_next S1 hw kx c6 c3 c1 (by decide) (by decide)
  refine lv_pop hx hb d_law_487 rfl ?_
  refine lv_aload_n hx hb d_law_488 rfl (lv_at hl 1 rfl) ?_
  refine lv_aload_n hx hb d_law_489 rfl (lv_at hl 3 rfl) ?_
  refine lv_iload_n hx hb d_law_490 rfl (lv_at hl 0 rfl) ?_
  refine lv_iconst (v := iI 1) hx hb d_law_491 (by decide) ?_
  refine z_iadd hx hb d_law_492 ?_
  refine va_sld hx hb hX hbl hbA Y1.2.2 (iI_in (by omega) (by omega) (by omega)) d_law_493 ?_
  refine t_eq (iI_of _) ?_
  refine lv_aload_n hx hb d_law_494 rfl (lv_at hl 3 rfl) ?_
  refine lv_iload_n hx hb d_law_495 rfl (lv_at hl 0 rfl) ?_
  refine lv_iconst (v := iI 2) hx hb d_law_496 (by decide) ?_
  refine z_iadd hx hb d_law_497 ?_
  refine va_sld hx hb hX hbl hbA Y1.2.2 (iI_in (by omega) (by omega) (by omega)) d_law_498 ?_
  refine t_eq (iI_of _) ?_
  refine lm_i (As := [.int (iI (xs (iI (8 * k + 1)).toNatClampNeg).toInt), .int (iI (xs (iI (8 * k + 2)).toNatClampNeg).toInt)]) (rest := []) (n := 2) hx hb X.2.2.1 hown K2 Z2 R2 Y1 PM1 DM AP1 hA hml hl.1 (r_M_agent l D2 E2 h q H1.size I J B G (xs (iI (8 * k + 1)).toNatClampNeg).toInt (iI_r _).1 (iI_r _).2 (xs (iI (8 * k + 2)).toNatClampNeg).toInt (iI_r _).1 (iI_r _).2 hT f_FT f_FA) kl_L_M_agent ks_M_agent kx_M_agent ki_M_agent hd_M_agent ⟨by decide, by decide⟩ rfl (Nat.le_of_ble_eq_true rfl) d_law_499 ⟨by show cells + 2 ≤ 600000; omega, by show slots + 64 ≤ 7302250; omega⟩ (fun r2 u2 H2 locs2 hp2 Y2 PM2 DM2 AP2 => ?_)
  obtain ⟨I2, J2, B2, G2⟩ := u2
  obtain ⟨S2, z2, ez2, q2⟩ := hp2
  dsimp only at S2 q2 PM2 DM2 AP2
  obtain ⟨lz, uz, g_FT, g_FA⟩ := q2
  have IV2 : LIv (k + 1) I2 B2 := ⟨S2.1, (pG1_cg (S2.2.1 39 (by decide)) (S2.2.1 40 (by decide)) f_P1), (pG2_cg (S2.2.2 37 (by decide)) (S2.2.2 38 (by decide)) f_P2), g_FT, g_FA, (vB_le (show 1 + k ≤ 1 + (k + 1) by omega) (vB_cg (S2.2.2 46 (by decide)) f_V)), ⟨cn, (S2.2.1 33 (by decide)).trans gcn, by omega, by omega⟩⟩
  refine lv_pop hx hb d_law_502 rfl ?_
  refine lv_goto (tgt := 1068) hx hb d_law_503 (by decide) ?_
  exact kk κ1 L1 f1 I2 J2 B2 G2 H2 locs2 _ _ Y2 N1.1 N1.2.1 N1.2.2.1 N1.2.2.2.1 N1.2.2.2.2 PM2 DM2 AP2 IV2 (by omega) (by omega)
set_option maxHeartbeats 4000000 in
set_option maxRecDepth 100000 in
theorem law_12 {p : Program} {l : Launch} {e : Env} {s : State} {m : MethodId} {below : List Frame} {meth : Method} {c : Code} {b h xo cn0 tp n : Nat} {k : Int} {xs : Nat → Int32} {D : va_G} {E : cE} {T : cT} {κ : tK} {L : List Nat} {f : pF} {D2 : mD} {E2 : mE} {q : Nat → Nat} {I : Nat → Int32} {J : Nat → Int64} {B : Nat → Nat → Int32} {G : Nat → Nat → Int64} {H : Heap} {locs : List Loc} {cells slots : Nat} {ls : Array Slot} (C0 : lw_At p s m meth c b n xs) (hk0 : 0 ≤ k) (hk : 8 * k + 8 ≤ n) (hn : n ≤ 4096) (X : cX R_law p c code #[Value.ref b] s m D E) (KS : kS T (lA s) s s.heap) (KR : kR T s) (K2 : va_K D2.1 mCl (mTy E2) s) (Z2 : zS D2.2.1 D2.2.2.1 D2.2.2.2 (lA s) s s.heap) (R2 : zR D2.2.1 s) (Y : pH D cCl (lA s) s.heap L f H locs) (hw : tW E T κ L f) (kx : κ xo = (10, 0)) (c6 : gF f xo 6 = .ref cn0) (c3 : gF f cn0 3 = .ref tp) (c1 : gF f xo 1 = .ref tp) (PM : va_P D2.1 mCl (mW E2 h q I J B G) H) (DM : va_D (lA s) (mW E2 h q I J B G)) (AP : ∀ (k : Nat) (x : Nat × va_E), (mW E2 h q I J B G)[k]? = some x → x.1 ∉ L) (IV : LIv k I B) (hc : (cells : Int) ≤ 1000 + 3 * k) (hs : (slots : Int) ≤ 400000 + 4100 * k) (hl : lv_has ls 4 [(3, .int (iI (8 * k))), (2, .ref h), (1, .ref xo), (0, .ref b)]) (kk : ∀ (κ : tK) (L : List Nat) (f : pF) (I : Nat → Int32) (J : Nat → Int64) (B : Nat → Nat → Int32) (G : Nat → Nat → Int64) (H : Heap) (locs : List Loc) (cells slots : Nat), pH D cCl (lA s) s.heap L f H locs → tW E T κ L f → κ xo = (10, 0) → gF f xo 6 = .ref cn0 → gF f cn0 3 = .ref tp → gF f xo 1 = .ref tp → va_P D2.1 mCl (mW E2 h q I J B G) H → va_D (lA s) (mW E2 h q I J B G) → (∀ (k : Nat) (x : Nat × va_E), (mW E2 h q I J B G)[k]? = some x → x.1 ∉ L) → LIv (k + 1) I B → (cells : Int) ≤ 1000 + 3 * (k + 1) → (slots : Int) ≤ 400000 + 4100 * (k + 1) → W p l e room_1 s m #[Value.ref b] below meth c H locs cells slots (lw_Z below #[Value.ref b] s) (F0 m 1068 ls [])) : W p l e room_1 s m #[Value.ref b] below meth c H locs cells slots (lw_Z below #[Value.ref b] s) (F0 m 506 ls []) := by
  obtain ⟨hx, hb, hr, hml, hown, hts, hX, hbl, hlocks, hgv⟩ := id C0
  have hbA : ¬ lA s b := Nat.not_le.mpr hbl
  have hA : ∀ a, s.heap.size ≤ a → lA s a := fun _ h9 => h9
  obtain ⟨hT, f_P1, f_P2, f_FT, f_FA, f_V, cn, gcn, lcn, ucn⟩ := IV
  have S0 : tS E T (tFr κ L [] []) κ L f κ L f := tS_rf hw
  refine lv_aload_n hx hb d_law_506 rfl (lv_at hl 2 rfl) ?_
  refine lv_aload_n hx hb d_law_507 rfl (lv_at hl 3 rfl) ?_
  refine lv_iload_n hx hb d_law_508 rfl (lv_at hl 0 rfl) ?_
  refine lv_iconst (v := iI 1) hx hb d_law_509 (by decide) ?_
  refine z_iadd hx hb d_law_510 ?_
  refine va_sld hx hb hX hbl hbA Y.2.2 (iI_in (by omega) (by omega) (by omega)) d_law_511 ?_
  refine t_eq (iI_of _) ?_
  refine lv_aload_n hx hb d_law_512 rfl (lv_at hl 3 rfl) ?_
  refine lv_iload_n hx hb d_law_513 rfl (lv_at hl 0 rfl) ?_
  refine lv_iconst (v := iI 2) hx hb d_law_514 (by decide) ?_
  refine z_iadd hx hb d_law_515 ?_
  refine va_sld hx hb hX hbl hbA Y.2.2 (iI_in (by omega) (by omega) (by omega)) d_law_516 ?_
  refine t_eq (iI_of _) ?_
  refine lx_i (t_runV (As := [.int (iI (xs (iI (8 * k + 1)).toNatClampNeg).toInt), .int (iI (xs (iI (8 * k + 2)).toNatClampNeg).toInt)]) (rest := []) (n := 2) X Y S0 kx hml hl.1 (c_H_shift l D E T κ L f H.size xo kx (xs (iI (8 * k + 1)).toNatClampNeg).toInt (iI_r _).1 (iI_r _).2 (xs (iI (8 * k + 2)).toNatClampNeg).toInt (iI_r _).1 (iI_r _).2 hw) (ok_k X Y hA KS KR) rfl kl_L_H_shift ks_H_shift kx_H_shift ki_H_shift ini_H ⟨rfl, rfl⟩ hd_H_shift ⟨by decide, by decide⟩ rfl (Nat.le_of_ble_eq_true rfl) d_law_517 ⟨by show cells + 0 ≤ 600000; omega, by show slots + 0 ≤ 7302250; omega⟩) X Y hA PM AP (fun r1 u1 H1 locs1 hp1 Y1 PM1 AP1 => ?_)
  obtain ⟨L1, f1⟩ := u1
  dsimp only at Y1 AP1
  obtain ⟨e1, S1, z1, ez1, q1⟩ := hp1
  dsimp only at e1 S1
  subst e1
  have N1 := lc_next S1 hw kx c6 c3 c1 (by decide) (by decide)
  refine lv_pop hx hb d_law_520 rfl ?_
  refine lv_aload_n hx hb d_law_521 rfl (lv_at hl 1 rfl) ?_
  refine lv_aload_n hx hb d_law_522 rfl (lv_at hl 3 rfl) ?_
  refine lv_iload_n hx hb d_law_523 rfl (lv_at hl 0 rfl) ?_
  refine lv_iconst (v := iI 1) hx hb d_law_524 (by decide) ?_
  refine z_iadd hx hb d_law_525 ?_
  refine va_sld hx hb hX hbl hbA Y1.2.2 (iI_in (by omega) (by omega) (by omega)) d_law_526 ?_
  refine t_eq (iI_of _) ?_
  refine lv_aload_n hx hb d_law_527 rfl (lv_at hl 3 rfl) ?_
  refine lv_iload_n hx hb d_law_528 rfl (lv_at hl 0 rfl) ?_
  refine lv_iconst (v := iI 2) hx hb d_law_529 (by decide) ?_
  refine z_iadd hx hb d_law_530 ?_
  refine va_sld hx hb hX hbl hbA Y1.2.2 (iI_in (by omega) (by omega) (by omega)) d_law_531 ?_
  refine t_eq (iI_of _) ?_
  refine lm_i (As := [.int (iI (xs (iI (8 * k + 1)).toNatClampNeg).toInt), .int (iI (xs (iI (8 * k + 2)).toNatClampNeg).toInt)]) (rest := []) (n := 2) hx hb X.2.2.1 hown K2 Z2 R2 Y1 PM1 DM AP1 hA hml hl.1 (r_M_shift l D2 E2 h q H1.size I J B G (xs (iI (8 * k + 1)).toNatClampNeg).toInt (iI_r _).1 (iI_r _).2 (xs (iI (8 * k + 2)).toNatClampNeg).toInt (iI_r _).1 (iI_r _).2 hT) kl_L_M_shift ks_M_shift kx_M_shift ki_M_shift hd_M_shift ⟨by decide, by decide⟩ rfl (Nat.le_of_ble_eq_true rfl) d_law_532 ⟨by show cells + 0 ≤ 600000; omega, by show slots + 0 ≤ 7302250; omega⟩ (fun r2 u2 H2 locs2 hp2 Y2 PM2 DM2 AP2 => ?_)
  obtain ⟨I2, J2, B2, G2⟩ := u2
  obtain ⟨S2, z2, ez2, q2⟩ := hp2
  dsimp only at S2 q2 PM2 DM2 AP2
  obtain ⟨lz, uz⟩ := q2
  have IV2 : LIv (k + 1) I2 B2 := ⟨S2.1, (pG1_cg (S2.2.1 39 (by decide)) (S2.2.1 40 (by decide)) f_P1), (pG2_cg (S2.2.2 37 (by decide)) (S2.2.2 38 (by decide)) f_P2), (stT_cg (S2.2.2 97 (by decide)) (S2.2.2 98 (by decide)) (S2.2.2 100 (by decide)) (S2.2.2 107 (by decide)) (S2.2.2 108 (by decide)) (S2.2.2 109 (by decide)) f_FT), (stA_cg (S2.2.2 110 (by decide)) (S2.2.2 118 (by decide)) (S2.2.2 119 (by decide)) (S2.2.2 120 (by decide)) f_FA), (vB_le (show 1 + k ≤ 1 + (k + 1) by omega) (vB_cg (S2.2.2 46 (by decide)) f_V)), ⟨cn, (S2.2.1 33 (by decide)).trans gcn, by omega, by omega⟩⟩
  refine lv_pop hx hb d_law_535 rfl ?_
  refine lv_goto (tgt := 1068) hx hb d_law_536 (by decide) ?_
  exact kk κ L1 f1 I2 J2 B2 G2 H2 locs2 _ _ Y2 N1.1 N1.2.1 N1.2.2.1 N1.2.2.2.1 N1.2.2.2.2 PM2 DM2 AP2 IV2 (by omega) (by omega)
set_option maxHeartbeats 4000000 in
set_option maxRecDepth 100000 in
theorem law_13 {p : Program} {l : Launch} {e : Env} {s : State} {m : MethodId} {below : List Frame} {meth : Method} {c : Code} {b h xo cn0 tp n : Nat} {k : Int} {xs : Nat → Int32} {D : va_G} {E : cE} {T : cT} {κ : tK} {L : List Nat} {f : pF} {D2 : mD} {E2 : mE} {q : Nat → Nat} {I : Nat → Int32} {J : Nat → Int64} {B : Nat → Nat → Int32} {G : Nat → Nat → Int64} {H : Heap} {locs : List Loc} {cells slots : Nat} {ls : Array Slot} (C0 : lw_At p s m meth c b n xs) (hk0 : 0 ≤ k) (hk : 8 * k + 8 ≤ n) (hn : n ≤ 4096) (X : cX R_law p c code #[Value.ref b] s m D E) (KS : kS T (lA s) s s.heap) (KR : kR T s) (K2 : va_K D2.1 mCl (mTy E2) s) (Z2 : zS D2.2.1 D2.2.2.1 D2.2.2.2 (lA s) s s.heap) (R2 : zR D2.2.1 s) (Y : pH D cCl (lA s) s.heap L f H locs) (hw : tW E T κ L f) (kx : κ xo = (10, 0)) (c6 : gF f xo 6 = .ref cn0) (c3 : gF f cn0 3 = .ref tp) (c1 : gF f xo 1 = .ref tp) (PM : va_P D2.1 mCl (mW E2 h q I J B G) H) (DM : va_D (lA s) (mW E2 h q I J B G)) (AP : ∀ (k : Nat) (x : Nat × va_E), (mW E2 h q I J B G)[k]? = some x → x.1 ∉ L) (IV : LIv k I B) (hc : (cells : Int) ≤ 1000 + 3 * k) (hs : (slots : Int) ≤ 400000 + 4100 * k) (hl : lv_has ls 4 [(3, .int (iI (8 * k))), (2, .ref h), (1, .ref xo), (0, .ref b)]) (kk : ∀ (κ : tK) (L : List Nat) (f : pF) (I : Nat → Int32) (J : Nat → Int64) (B : Nat → Nat → Int32) (G : Nat → Nat → Int64) (H : Heap) (locs : List Loc) (cells slots : Nat), pH D cCl (lA s) s.heap L f H locs → tW E T κ L f → κ xo = (10, 0) → gF f xo 6 = .ref cn0 → gF f cn0 3 = .ref tp → gF f xo 1 = .ref tp → va_P D2.1 mCl (mW E2 h q I J B G) H → va_D (lA s) (mW E2 h q I J B G) → (∀ (k : Nat) (x : Nat × va_E), (mW E2 h q I J B G)[k]? = some x → x.1 ∉ L) → LIv (k + 1) I B → (cells : Int) ≤ 1000 + 3 * (k + 1) → (slots : Int) ≤ 400000 + 4100 * (k + 1) → W p l e room_1 s m #[Value.ref b] below meth c H locs cells slots (lw_Z below #[Value.ref b] s) (F0 m 1068 ls [])) : W p l e room_1 s m #[Value.ref b] below meth c H locs cells slots (lw_Z below #[Value.ref b] s) (F0 m 539 ls []) := by
  obtain ⟨hx, hb, hr, hml, hown, hts, hX, hbl, hlocks, hgv⟩ := id C0
  have hbA : ¬ lA s b := Nat.not_le.mpr hbl
  have hA : ∀ a, s.heap.size ≤ a → lA s a := fun _ h9 => h9
  obtain ⟨hT, f_P1, f_P2, f_FT, f_FA, f_V, cn, gcn, lcn, ucn⟩ := IV
  have S0 : tS E T (tFr κ L [] []) κ L f κ L f := tS_rf hw
  refine lv_aload_n hx hb d_law_539 rfl (lv_at hl 2 rfl) ?_
  refine lv_aload_n hx hb d_law_540 rfl (lv_at hl 3 rfl) ?_
  refine lv_iload_n hx hb d_law_541 rfl (lv_at hl 0 rfl) ?_
  refine lv_iconst (v := iI 1) hx hb d_law_542 (by decide) ?_
  refine z_iadd hx hb d_law_543 ?_
  refine va_sld hx hb hX hbl hbA Y.2.2 (iI_in (by omega) (by omega) (by omega)) d_law_544 ?_
  refine t_eq (iI_of _) ?_
  refine lv_aload_n hx hb d_law_545 rfl (lv_at hl 3 rfl) ?_
  refine lv_iload_n hx hb d_law_546 rfl (lv_at hl 0 rfl) ?_
  refine lv_iconst (v := iI 2) hx hb d_law_547 (by decide) ?_
  refine z_iadd hx hb d_law_548 ?_
  refine va_sld hx hb hX hbl hbA Y.2.2 (iI_in (by omega) (by omega) (by omega)) d_law_549 ?_
  refine t_eq (iI_of _) ?_
  refine lv_aload_n hx hb d_law_550 rfl (lv_at hl 3 rfl) ?_
  refine lv_iload_n hx hb d_law_551 rfl (lv_at hl 0 rfl) ?_
  refine lv_iconst (v := iI 3) hx hb d_law_552 (by decide) ?_
  refine z_iadd hx hb d_law_553 ?_
  refine va_sld hx hb hX hbl hbA Y.2.2 (iI_in (by omega) (by omega) (by omega)) d_law_554 ?_
  refine t_eq (iI_of _) ?_
  refine lv_aload_n hx hb d_law_555 rfl (lv_at hl 3 rfl) ?_
  refine lv_iload_n hx hb d_law_556 rfl (lv_at hl 0 rfl) ?_
  refine lv_iconst (v := iI 4) hx hb d_law_557 (by decide) ?_
  refine z_iadd hx hb d_law_558 ?_
  refine va_sld hx hb hX hbl hbA Y.2.2 (iI_in (by omega) (by omega) (by omega)) d_law_559 ?_
  refine t_eq (iI_of _) ?_
  refine lv_aload_n hx hb d_law_560 rfl (lv_at hl 3 rfl) ?_
  refine lv_iload_n hx hb d_law_561 rfl (lv_at hl 0 rfl) ?_
  refine lv_iconst (v := iI 5) hx hb d_law_562 (by decide) ?_
  refine z_iadd hx hb d_law_563 ?_
  refine va_sld hx hb hX hbl hbA Y.2.2 (iI_in (by omega) (by omega) (by omega)) d_law_564 ?_
  refine t_eq (iI_of _) ?_
  refine lv_aload_n hx hb d_law_565 rfl (lv_at hl 3 rfl) ?_
  refine lv_iload_n hx hb d_law_566 rfl (lv_at hl 0 rfl) ?_
  refine lv_bipush (v := iI 6) hx hb d_law_567 (by decide) ?_
  refine z_iadd hx hb d_law_569 ?_
  refine va_sld hx hb hX hbl hbA Y.2.2 (iI_in (by omega) (by omega) (by omega)) d_law_570 ?_
  refine t_eq (iI_of _) ?_
  refine lv_aload_n hx hb d_law_571 rfl (lv_at hl 3 rfl) ?_
  refine lv_iload_n hx hb d_law_572 rfl (lv_at hl 0 rfl) ?_
  refine lv_bipush (v := iI 7) hx hb d_law_573 (by decide) ?_
  refine z_iadd hx hb d_law_575 ?_
  refine va_sld hx hb hX hbl hbA Y.2.2 (iI_in (by omega) (by omega) (by omega)) d_law_576 ?_
  refine t_eq (iI_of _) ?_
  refine lx_i (t_runV (As := [.int (iI (xs (iI (8 * k + 1)).toNatClampNeg).toInt), .int (iI (xs (iI (8 * k + 2)).toNatClampNeg).toInt), .int (iI (xs (iI (8 * k + 3)).toNatClampNeg).toInt), .int (iI (xs (iI (8 * k + 4)).toNatClampNeg).toInt), .int (iI (xs (iI (8 * k + 5)).toNatClampNeg).toInt), .int (iI (xs (iI (8 * k + 6)).toNatClampNeg).toInt), .int (iI (xs (iI (8 * k + 7)).toNatClampNeg).toInt)]) (rest := []) (n := 7) X Y S0 kx hml hl.1 (c_H_request l D E T κ L f H.size xo kx (xs (iI (8 * k + 1)).toNatClampNeg).toInt (iI_r _).1 (iI_r _).2 (xs (iI (8 * k + 2)).toNatClampNeg).toInt (iI_r _).1 (iI_r _).2 (xs (iI (8 * k + 3)).toNatClampNeg).toInt (iI_r _).1 (iI_r _).2 (xs (iI (8 * k + 4)).toNatClampNeg).toInt (iI_r _).1 (iI_r _).2 (xs (iI (8 * k + 5)).toNatClampNeg).toInt (iI_r _).1 (iI_r _).2 (xs (iI (8 * k + 6)).toNatClampNeg).toInt (iI_r _).1 (iI_r _).2 (xs (iI (8 * k + 7)).toNatClampNeg).toInt (iI_r _).1 (iI_r _).2 hw) (ok_k X Y hA KS KR) rfl kl_L_H_request ks_H_request kx_H_request ki_H_request ini_H ⟨rfl, rfl⟩ hd_H_request ⟨by decide, by decide⟩ rfl (Nat.le_of_ble_eq_true rfl) d_law_577 ⟨by show cells + 1 ≤ 600000; omega, by show slots + 32 ≤ 7302250; omega⟩) X Y hA PM AP (fun r1 u1 H1 locs1 hp1 Y1 PM1 AP1 => ?_)
  obtain ⟨L1, f1⟩ := u1
  dsimp only at Y1 AP1
  obtain ⟨κ1, S1, z1, ez1, q1⟩ := hp1
  dsimp only at S1 q1
  have N1 := lc_next S1 hw kx c6 c3 c1 (by decide) (by decide)
  refine lv_pop hx hb d_law_580 rfl ?_
  refine lv_aload_n hx hb d_law_581 rfl (lv_at hl 1 rfl) ?_
  refine lv_aload_n hx hb d_law_582 rfl (lv_at hl 3 rfl) ?_
  refine lv_iload_n hx hb d_law_583 rfl (lv_at hl 0 rfl) ?_
  refine lv_iconst (v := iI 1) hx hb d_law_584 (by decide) ?_
  refine z_iadd hx hb d_law_585 ?_
  refine va_sld hx hb hX hbl hbA Y1.2.2 (iI_in (by omega) (by omega) (by omega)) d_law_586 ?_
  refine t_eq (iI_of _) ?_
  refine lv_aload_n hx hb d_law_587 rfl (lv_at hl 3 rfl) ?_
  refine lv_iload_n hx hb d_law_588 rfl (lv_at hl 0 rfl) ?_
  refine lv_iconst (v := iI 2) hx hb d_law_589 (by decide) ?_
  refine z_iadd hx hb d_law_590 ?_
  refine va_sld hx hb hX hbl hbA Y1.2.2 (iI_in (by omega) (by omega) (by omega)) d_law_591 ?_
  refine t_eq (iI_of _) ?_
  refine lv_aload_n hx hb d_law_592 rfl (lv_at hl 3 rfl) ?_
  refine lv_iload_n hx hb d_law_593 rfl (lv_at hl 0 rfl) ?_
  refine lv_iconst (v := iI 3) hx hb d_law_594 (by decide) ?_
  refine z_iadd hx hb d_law_595 ?_
  refine va_sld hx hb hX hbl hbA Y1.2.2 (iI_in (by omega) (by omega) (by omega)) d_law_596 ?_
  refine t_eq (iI_of _) ?_
  refine lv_aload_n hx hb d_law_597 rfl (lv_at hl 3 rfl) ?_
  refine lv_iload_n hx hb d_law_598 rfl (lv_at hl 0 rfl) ?_
  refine lv_iconst (v := iI 4) hx hb d_law_599 (by decide) ?_
  refine z_iadd hx hb d_law_600 ?_
  refine va_sld hx hb hX hbl hbA Y1.2.2 (iI_in (by omega) (by omega) (by omega)) d_law_601 ?_
  refine t_eq (iI_of _) ?_
  refine lv_aload_n hx hb d_law_602 rfl (lv_at hl 3 rfl) ?_
  refine lv_iload_n hx hb d_law_603 rfl (lv_at hl 0 rfl) ?_
  refine lv_iconst (v := iI 5) hx hb d_law_604 (by decide) ?_
  refine z_iadd hx hb d_law_605 ?_
  refine va_sld hx hb hX hbl hbA Y1.2.2 (iI_in (by omega) (by omega) (by omega)) d_law_606 ?_
  refine t_eq (iI_of _) ?_
  refine lv_aload_n hx hb d_law_607 rfl (lv_at hl 3 rfl) ?_
  refine lv_iload_n hx hb d_law_608 rfl (lv_at hl 0 rfl) ?_
  refine lv_bipush (v := iI 6) hx hb d_law_609 (by decide) ?_
  refine z_iadd hx hb d_law_611 ?_
  refine va_sld hx hb hX hbl hbA Y1.2.2 (iI_in (by omega) (by omega) (by omega)) d_law_612 ?_
  refine t_eq (iI_of _) ?_
  refine lv_aload_n hx hb d_law_613 rfl (lv_at hl 3 rfl) ?_
  refine lv_iload_n hx hb d_law_614 rfl (lv_at hl 0 rfl) ?_
  refine lv_bipush (v := iI 7) hx hb d_law_615 (by decide) ?_
  refine z_iadd hx hb d_law_617 ?_
  refine va_sld hx hb hX hbl hbA Y1.2.2 (iI_in (by omega) (by omega) (by omega)) d_law_618 ?_
  refine t_eq (iI_of _) ?_
  refine lm_i (As := [.int (iI (xs (iI (8 * k + 1)).toNatClampNeg).toInt), .int (iI (xs (iI (8 * k + 2)).toNatClampNeg).toInt), .int (iI (xs (iI (8 * k + 3)).toNatClampNeg).toInt), .int (iI (xs (iI (8 * k + 4)).toNatClampNeg).toInt), .int (iI (xs (iI (8 * k + 5)).toNatClampNeg).toInt), .int (iI (xs (iI (8 * k + 6)).toNatClampNeg).toInt), .int (iI (xs (iI (8 * k + 7)).toNatClampNeg).toInt)]) (rest := []) (n := 7) hx hb X.2.2.1 hown K2 Z2 R2 Y1 PM1 DM AP1 hA hml hl.1 (r_M_request l D2 E2 h q H1.size I J B G (xs (iI (8 * k + 1)).toNatClampNeg).toInt (iI_r _).1 (iI_r _).2 (xs (iI (8 * k + 2)).toNatClampNeg).toInt (iI_r _).1 (iI_r _).2 (xs (iI (8 * k + 3)).toNatClampNeg).toInt (iI_r _).1 (iI_r _).2 (xs (iI (8 * k + 4)).toNatClampNeg).toInt (iI_r _).1 (iI_r _).2 (xs (iI (8 * k + 5)).toNatClampNeg).toInt (iI_r _).1 (iI_r _).2 (xs (iI (8 * k + 6)).toNatClampNeg).toInt (iI_r _).1 (iI_r _).2 (xs (iI (8 * k + 7)).toNatClampNeg).toInt (iI_r _).1 (iI_r _).2 hT cn gcn (by omega) (by omega) f_FT f_FA) kl_L_M_request ks_M_request kx_M_request ki_M_request hd_M_request ⟨by decide, by decide⟩ rfl (Nat.le_of_ble_eq_true rfl) d_law_619 ⟨by show cells + 1 ≤ 600000; omega, by show slots + 32 ≤ 7302250; omega⟩ (fun r2 u2 H2 locs2 hp2 Y2 PM2 DM2 AP2 => ?_)
  obtain ⟨I2, J2, B2, G2⟩ := u2
  obtain ⟨S2, z2, ez2, q2⟩ := hp2
  dsimp only at S2 q2 PM2 DM2 AP2
  obtain ⟨lz, uz, xp, g_FT, g_FA⟩ := q2
  obtain ⟨v9, e9, l9, m9⟩ := xp
  have IV2 : LIv (k + 1) I2 B2 := ⟨S2.1, (pG1_cg (S2.2.1 39 (by decide)) (S2.2.1 40 (by decide)) f_P1), (pG2_cg (S2.2.2 37 (by decide)) (S2.2.2 38 (by decide)) f_P2), g_FT, g_FA, (vB_le (show 1 + k ≤ 1 + (k + 1) by omega) (vB_cg (S2.2.2 46 (by decide)) f_V)), ⟨v9, e9, by omega, by omega⟩⟩
  refine lv_pop hx hb d_law_622 rfl ?_
  refine lv_goto (tgt := 1068) hx hb d_law_623 (by decide) ?_
  exact kk κ1 L1 f1 I2 J2 B2 G2 H2 locs2 _ _ Y2 N1.1 N1.2.1 N1.2.2.1 N1.2.2.2.1 N1.2.2.2.2 PM2 DM2 AP2 IV2 (by omega) (by omega)
set_option maxHeartbeats 4000000 in
set_option maxRecDepth 100000 in
theorem law_14 {p : Program} {l : Launch} {e : Env} {s : State} {m : MethodId} {below : List Frame} {meth : Method} {c : Code} {b h xo cn0 tp n : Nat} {k : Int} {xs : Nat → Int32} {D : va_G} {E : cE} {T : cT} {κ : tK} {L : List Nat} {f : pF} {D2 : mD} {E2 : mE} {q : Nat → Nat} {I : Nat → Int32} {J : Nat → Int64} {B : Nat → Nat → Int32} {G : Nat → Nat → Int64} {H : Heap} {locs : List Loc} {cells slots : Nat} {ls : Array Slot} (C0 : lw_At p s m meth c b n xs) (hk0 : 0 ≤ k) (hk : 8 * k + 8 ≤ n) (hn : n ≤ 4096) (X : cX R_law p c code #[Value.ref b] s m D E) (KS : kS T (lA s) s s.heap) (KR : kR T s) (K2 : va_K D2.1 mCl (mTy E2) s) (Z2 : zS D2.2.1 D2.2.2.1 D2.2.2.2 (lA s) s s.heap) (R2 : zR D2.2.1 s) (Y : pH D cCl (lA s) s.heap L f H locs) (hw : tW E T κ L f) (kx : κ xo = (10, 0)) (c6 : gF f xo 6 = .ref cn0) (c3 : gF f cn0 3 = .ref tp) (c1 : gF f xo 1 = .ref tp) (PM : va_P D2.1 mCl (mW E2 h q I J B G) H) (DM : va_D (lA s) (mW E2 h q I J B G)) (AP : ∀ (k : Nat) (x : Nat × va_E), (mW E2 h q I J B G)[k]? = some x → x.1 ∉ L) (IV : LIv k I B) (hc : (cells : Int) ≤ 1000 + 3 * k) (hs : (slots : Int) ≤ 400000 + 4100 * k) (hl : lv_has ls 4 [(3, .int (iI (8 * k))), (2, .ref h), (1, .ref xo), (0, .ref b)]) (kk : ∀ (κ : tK) (L : List Nat) (f : pF) (I : Nat → Int32) (J : Nat → Int64) (B : Nat → Nat → Int32) (G : Nat → Nat → Int64) (H : Heap) (locs : List Loc) (cells slots : Nat), pH D cCl (lA s) s.heap L f H locs → tW E T κ L f → κ xo = (10, 0) → gF f xo 6 = .ref cn0 → gF f cn0 3 = .ref tp → gF f xo 1 = .ref tp → va_P D2.1 mCl (mW E2 h q I J B G) H → va_D (lA s) (mW E2 h q I J B G) → (∀ (k : Nat) (x : Nat × va_E), (mW E2 h q I J B G)[k]? = some x → x.1 ∉ L) → LIv (k + 1) I B → (cells : Int) ≤ 1000 + 3 * (k + 1) → (slots : Int) ≤ 400000 + 4100 * (k + 1) → W p l e room_1 s m #[Value.ref b] below meth c H locs cells slots (lw_Z below #[Value.ref b] s) (F0 m 1068 ls [])) : W p l e room_1 s m #[Value.ref b] below meth c H locs cells slots (lw_Z below #[Value.ref b] s) (F0 m 626 ls []) := by
  obtain ⟨hx, hb, hr, hml, hown, hts, hX, hbl, hlocks, hgv⟩ := id C0
  have hbA : ¬ lA s b := Nat.not_le.mpr hbl
  have hA : ∀ a, s.heap.size ≤ a → lA s a := fun _ h9 => h9
  obtain ⟨hT, f_P1, f_P2, f_FT, f_FA, f_V, cn, gcn, lcn, ucn⟩ := IV
  have S0 : tS E T (tFr κ L [] []) κ L f κ L f := tS_rf hw
  refine lv_aload_n hx hb d_law_626 rfl (lv_at hl 2 rfl) ?_
  refine lv_aload_n hx hb d_law_627 rfl (lv_at hl 3 rfl) ?_
  refine lv_iload_n hx hb d_law_628 rfl (lv_at hl 0 rfl) ?_
  refine lv_iconst (v := iI 1) hx hb d_law_629 (by decide) ?_
  refine z_iadd hx hb d_law_630 ?_
  refine va_sld hx hb hX hbl hbA Y.2.2 (iI_in (by omega) (by omega) (by omega)) d_law_631 ?_
  refine t_eq (iI_of _) ?_
  refine lx_i (t_runV (As := [.int (iI (xs (iI (8 * k + 1)).toNatClampNeg).toInt)]) (rest := []) (n := 1) X Y S0 kx hml hl.1 (c_H_take l D E T κ L f H.size xo kx (xs (iI (8 * k + 1)).toNatClampNeg).toInt (iI_r _).1 (iI_r _).2 hw) (ok_k X Y hA KS KR) rfl kl_L_H_take ks_H_take kx_H_take ki_H_take ini_H ⟨rfl, rfl⟩ hd_H_take ⟨by decide, by decide⟩ rfl (Nat.le_of_ble_eq_true rfl) d_law_632 ⟨by show cells + 3 ≤ 600000; omega, by show slots + 4035 ≤ 7302250; omega⟩) X Y hA PM AP (fun r1 u1 H1 locs1 hp1 Y1 PM1 AP1 => ?_)
  obtain ⟨L1, f1⟩ := u1
  dsimp only at Y1 AP1
  obtain ⟨κ1, S1, z1, ez1, q1⟩ := hp1
  dsimp only at S1 q1
  have N1 := lc_next S1 hw kx c6 c3 c1 (by decide) (by decide)
  refine lv_pop hx hb d_law_635 rfl ?_
  refine lv_aload_n hx hb d_law_636 rfl (lv_at hl 1 rfl) ?_
  refine lv_aload_n hx hb d_law_637 rfl (lv_at hl 3 rfl) ?_
  refine lv_iload_n hx hb d_law_638 rfl (lv_at hl 0 rfl) ?_
  refine lv_iconst (v := iI 1) hx hb d_law_639 (by decide) ?_
  refine z_iadd hx hb d_law_640 ?_
  refine va_sld hx hb hX hbl hbA Y1.2.2 (iI_in (by omega) (by omega) (by omega)) d_law_641 ?_
  refine t_eq (iI_of _) ?_
  refine lm_i (As := [.int (iI (xs (iI (8 * k + 1)).toNatClampNeg).toInt)]) (rest := []) (n := 1) hx hb X.2.2.1 hown K2 Z2 R2 Y1 PM1 DM AP1 hA hml hl.1 (r_M_take l D2 E2 h q H1.size I J B G (xs (iI (8 * k + 1)).toNatClampNeg).toInt (iI_r _).1 (iI_r _).2 hT f_P1 f_P2 f_FT f_FA) kl_L_M_take ks_M_take kx_M_take ki_M_take hd_M_take ⟨by decide, by decide⟩ rfl (Nat.le_of_ble_eq_true rfl) d_law_642 ⟨by show cells + 3 ≤ 600000; omega, by show slots + 4035 ≤ 7302250; omega⟩ (fun r2 u2 H2 locs2 hp2 Y2 PM2 DM2 AP2 => ?_)
  obtain ⟨I2, J2, B2, G2⟩ := u2
  obtain ⟨S2, z2, ez2, q2⟩ := hp2
  dsimp only at S2 q2 PM2 DM2 AP2
  obtain ⟨lz, uz, g_P1, g_P2, g_FT, g_FA⟩ := q2
  have IV2 : LIv (k + 1) I2 B2 := ⟨S2.1, g_P1, g_P2, g_FT, g_FA, (vB_le (show 1 + k ≤ 1 + (k + 1) by omega) (vB_cg (S2.2.2 46 (by decide)) f_V)), ⟨cn, (S2.2.1 33 (by decide)).trans gcn, by omega, by omega⟩⟩
  refine lv_pop hx hb d_law_645 rfl ?_
  refine lv_goto (tgt := 1068) hx hb d_law_646 (by decide) ?_
  exact kk κ1 L1 f1 I2 J2 B2 G2 H2 locs2 _ _ Y2 N1.1 N1.2.1 N1.2.2.1 N1.2.2.2.1 N1.2.2.2.2 PM2 DM2 AP2 IV2 (by omega) (by omega)
set_option maxHeartbeats 4000000 in
set_option maxRecDepth 100000 in
theorem law_15 {p : Program} {l : Launch} {e : Env} {s : State} {m : MethodId} {below : List Frame} {meth : Method} {c : Code} {b h xo cn0 tp n : Nat} {k : Int} {xs : Nat → Int32} {D : va_G} {E : cE} {T : cT} {κ : tK} {L : List Nat} {f : pF} {D2 : mD} {E2 : mE} {q : Nat → Nat} {I : Nat → Int32} {J : Nat → Int64} {B : Nat → Nat → Int32} {G : Nat → Nat → Int64} {H : Heap} {locs : List Loc} {cells slots : Nat} {ls : Array Slot} (C0 : lw_At p s m meth c b n xs) (hk0 : 0 ≤ k) (hk : 8 * k + 8 ≤ n) (hn : n ≤ 4096) (X : cX R_law p c code #[Value.ref b] s m D E) (KS : kS T (lA s) s s.heap) (KR : kR T s) (K2 : va_K D2.1 mCl (mTy E2) s) (Z2 : zS D2.2.1 D2.2.2.1 D2.2.2.2 (lA s) s s.heap) (R2 : zR D2.2.1 s) (Y : pH D cCl (lA s) s.heap L f H locs) (hw : tW E T κ L f) (kx : κ xo = (10, 0)) (c6 : gF f xo 6 = .ref cn0) (c3 : gF f cn0 3 = .ref tp) (c1 : gF f xo 1 = .ref tp) (PM : va_P D2.1 mCl (mW E2 h q I J B G) H) (DM : va_D (lA s) (mW E2 h q I J B G)) (AP : ∀ (k : Nat) (x : Nat × va_E), (mW E2 h q I J B G)[k]? = some x → x.1 ∉ L) (IV : LIv k I B) (hc : (cells : Int) ≤ 1000 + 3 * k) (hs : (slots : Int) ≤ 400000 + 4100 * k) (hl : lv_has ls 4 [(3, .int (iI (8 * k))), (2, .ref h), (1, .ref xo), (0, .ref b)]) (kk : ∀ (κ : tK) (L : List Nat) (f : pF) (I : Nat → Int32) (J : Nat → Int64) (B : Nat → Nat → Int32) (G : Nat → Nat → Int64) (H : Heap) (locs : List Loc) (cells slots : Nat), pH D cCl (lA s) s.heap L f H locs → tW E T κ L f → κ xo = (10, 0) → gF f xo 6 = .ref cn0 → gF f cn0 3 = .ref tp → gF f xo 1 = .ref tp → va_P D2.1 mCl (mW E2 h q I J B G) H → va_D (lA s) (mW E2 h q I J B G) → (∀ (k : Nat) (x : Nat × va_E), (mW E2 h q I J B G)[k]? = some x → x.1 ∉ L) → LIv (k + 1) I B → (cells : Int) ≤ 1000 + 3 * (k + 1) → (slots : Int) ≤ 400000 + 4100 * (k + 1) → W p l e room_1 s m #[Value.ref b] below meth c H locs cells slots (lw_Z below #[Value.ref b] s) (F0 m 1068 ls [])) : W p l e room_1 s m #[Value.ref b] below meth c H locs cells slots (lw_Z below #[Value.ref b] s) (F0 m 649 ls []) := by
  obtain ⟨hx, hb, hr, hml, hown, hts, hX, hbl, hlocks, hgv⟩ := id C0
  have hbA : ¬ lA s b := Nat.not_le.mpr hbl
  have hA : ∀ a, s.heap.size ≤ a → lA s a := fun _ h9 => h9
  obtain ⟨hT, f_P1, f_P2, f_FT, f_FA, f_V, cn, gcn, lcn, ucn⟩ := IV
  have S0 : tS E T (tFr κ L [] []) κ L f κ L f := tS_rf hw
  refine lv_aload_n hx hb d_law_649 rfl (lv_at hl 2 rfl) ?_
  refine lv_aload_n hx hb d_law_650 rfl (lv_at hl 3 rfl) ?_
  refine lv_iload_n hx hb d_law_651 rfl (lv_at hl 0 rfl) ?_
  refine lv_iconst (v := iI 1) hx hb d_law_652 (by decide) ?_
  refine z_iadd hx hb d_law_653 ?_
  refine va_sld hx hb hX hbl hbA Y.2.2 (iI_in (by omega) (by omega) (by omega)) d_law_654 ?_
  refine t_eq (iI_of _) ?_
  refine lv_aload_n hx hb d_law_655 rfl (lv_at hl 3 rfl) ?_
  refine lv_iload_n hx hb d_law_656 rfl (lv_at hl 0 rfl) ?_
  refine lv_iconst (v := iI 2) hx hb d_law_657 (by decide) ?_
  refine z_iadd hx hb d_law_658 ?_
  refine va_sld hx hb hX hbl hbA Y.2.2 (iI_in (by omega) (by omega) (by omega)) d_law_659 ?_
  refine t_eq (iI_of _) ?_
  refine lv_aload_n hx hb d_law_660 rfl (lv_at hl 3 rfl) ?_
  refine lv_iload_n hx hb d_law_661 rfl (lv_at hl 0 rfl) ?_
  refine lv_iconst (v := iI 3) hx hb d_law_662 (by decide) ?_
  refine z_iadd hx hb d_law_663 ?_
  refine va_sld hx hb hX hbl hbA Y.2.2 (iI_in (by omega) (by omega) (by omega)) d_law_664 ?_
  refine t_eq (iI_of _) ?_
  refine lx_i (t_runV (As := [.int (iI (xs (iI (8 * k + 1)).toNatClampNeg).toInt), .int (iI (xs (iI (8 * k + 2)).toNatClampNeg).toInt), .int (iI (xs (iI (8 * k + 3)).toNatClampNeg).toInt)]) (rest := []) (n := 3) X Y S0 kx hml hl.1 (c_H_ticket l D E T κ L f H.size xo kx (xs (iI (8 * k + 1)).toNatClampNeg).toInt (iI_r _).1 (iI_r _).2 (xs (iI (8 * k + 2)).toNatClampNeg).toInt (iI_r _).1 (iI_r _).2 (xs (iI (8 * k + 3)).toNatClampNeg).toInt (iI_r _).1 (iI_r _).2 hw) (ok_k X Y hA KS KR) rfl kl_L_H_ticket ks_H_ticket kx_H_ticket ki_H_ticket ini_H ⟨rfl, rfl⟩ hd_H_ticket ⟨by decide, by decide⟩ rfl (Nat.le_of_ble_eq_true rfl) d_law_665 ⟨by show cells + 0 ≤ 600000; omega, by show slots + 0 ≤ 7302250; omega⟩) X Y hA PM AP (fun r1 u1 H1 locs1 hp1 Y1 PM1 AP1 => ?_)
  obtain ⟨L1, f1⟩ := u1
  dsimp only at Y1 AP1
  obtain ⟨e1, e2, z1, ez1, q1⟩ := hp1
  dsimp only at e1 e2
  subst e1 e2
  have N1 := lc_next (M := []) S0 hw kx c6 c3 c1 (by decide) (by decide)
  refine lv_pop hx hb d_law_668 rfl ?_
  refine lv_aload_n hx hb d_law_669 rfl (lv_at hl 1 rfl) ?_
  refine lv_aload_n hx hb d_law_670 rfl (lv_at hl 3 rfl) ?_
  refine lv_iload_n hx hb d_law_671 rfl (lv_at hl 0 rfl) ?_
  refine lv_iconst (v := iI 1) hx hb d_law_672 (by decide) ?_
  refine z_iadd hx hb d_law_673 ?_
  refine va_sld hx hb hX hbl hbA Y1.2.2 (iI_in (by omega) (by omega) (by omega)) d_law_674 ?_
  refine t_eq (iI_of _) ?_
  refine lv_aload_n hx hb d_law_675 rfl (lv_at hl 3 rfl) ?_
  refine lv_iload_n hx hb d_law_676 rfl (lv_at hl 0 rfl) ?_
  refine lv_iconst (v := iI 2) hx hb d_law_677 (by decide) ?_
  refine z_iadd hx hb d_law_678 ?_
  refine va_sld hx hb hX hbl hbA Y1.2.2 (iI_in (by omega) (by omega) (by omega)) d_law_679 ?_
  refine t_eq (iI_of _) ?_
  refine lv_aload_n hx hb d_law_680 rfl (lv_at hl 3 rfl) ?_
  refine lv_iload_n hx hb d_law_681 rfl (lv_at hl 0 rfl) ?_
  refine lv_iconst (v := iI 3) hx hb d_law_682 (by decide) ?_
  refine z_iadd hx hb d_law_683 ?_
  refine va_sld hx hb hX hbl hbA Y1.2.2 (iI_in (by omega) (by omega) (by omega)) d_law_684 ?_
  refine t_eq (iI_of _) ?_
  refine lm_i (As := [.int (iI (xs (iI (8 * k + 1)).toNatClampNeg).toInt), .int (iI (xs (iI (8 * k + 2)).toNatClampNeg).toInt), .int (iI (xs (iI (8 * k + 3)).toNatClampNeg).toInt)]) (rest := []) (n := 3) hx hb X.2.2.1 hown K2 Z2 R2 Y1 PM1 DM AP1 hA hml hl.1 (r_M_ticket l D2 E2 h q H1.size I J B G (xs (iI (8 * k + 1)).toNatClampNeg).toInt (iI_r _).1 (iI_r _).2 (xs (iI (8 * k + 2)).toNatClampNeg).toInt (iI_r _).1 (iI_r _).2 (xs (iI (8 * k + 3)).toNatClampNeg).toInt (iI_r _).1 (iI_r _).2 hT) kl_L_M_ticket ks_M_ticket kx_M_ticket ki_M_ticket hd_M_ticket ⟨by decide, by decide⟩ rfl (Nat.le_of_ble_eq_true rfl) d_law_685 ⟨by show cells + 0 ≤ 600000; omega, by show slots + 0 ≤ 7302250; omega⟩ (fun r2 u2 H2 locs2 hp2 Y2 PM2 DM2 AP2 => ?_)
  obtain ⟨I2, J2, B2, G2⟩ := u2
  obtain ⟨S2, z2, ez2, q2⟩ := hp2
  dsimp only at S2 q2 PM2 DM2 AP2
  obtain ⟨lz, uz⟩ := q2
  have IV2 : LIv (k + 1) I2 B2 := ⟨S2.1, (pG1_cg (S2.2.1 39 (by decide)) (S2.2.1 40 (by decide)) f_P1), (pG2_cg (S2.2.2 37 (by decide)) (S2.2.2 38 (by decide)) f_P2), (stT_cg (S2.2.2 97 (by decide)) (S2.2.2 98 (by decide)) (S2.2.2 100 (by decide)) (S2.2.2 107 (by decide)) (S2.2.2 108 (by decide)) (S2.2.2 109 (by decide)) f_FT), (stA_cg (S2.2.2 110 (by decide)) (S2.2.2 118 (by decide)) (S2.2.2 119 (by decide)) (S2.2.2 120 (by decide)) f_FA), (vB_le (show 1 + k ≤ 1 + (k + 1) by omega) (vB_cg (S2.2.2 46 (by decide)) f_V)), ⟨cn, (S2.2.1 33 (by decide)).trans gcn, by omega, by omega⟩⟩
  refine lv_pop hx hb d_law_688 rfl ?_
  refine lv_goto (tgt := 1068) hx hb d_law_689 (by decide) ?_
  exact kk κ L1 f1 I2 J2 B2 G2 H2 locs2 _ _ Y2 N1.1 N1.2.1 N1.2.2.1 N1.2.2.2.1 N1.2.2.2.2 PM2 DM2 AP2 IV2 (by omega) (by omega)
set_option maxHeartbeats 4000000 in
set_option maxRecDepth 100000 in
theorem law_16 {p : Program} {l : Launch} {e : Env} {s : State} {m : MethodId} {below : List Frame} {meth : Method} {c : Code} {b h xo cn0 tp n : Nat} {k : Int} {xs : Nat → Int32} {D : va_G} {E : cE} {T : cT} {κ : tK} {L : List Nat} {f : pF} {D2 : mD} {E2 : mE} {q : Nat → Nat} {I : Nat → Int32} {J : Nat → Int64} {B : Nat → Nat → Int32} {G : Nat → Nat → Int64} {H : Heap} {locs : List Loc} {cells slots : Nat} {ls : Array Slot} (C0 : lw_At p s m meth c b n xs) (hk0 : 0 ≤ k) (hk : 8 * k + 8 ≤ n) (hn : n ≤ 4096) (X : cX R_law p c code #[Value.ref b] s m D E) (KS : kS T (lA s) s s.heap) (KR : kR T s) (K2 : va_K D2.1 mCl (mTy E2) s) (Z2 : zS D2.2.1 D2.2.2.1 D2.2.2.2 (lA s) s s.heap) (R2 : zR D2.2.1 s) (Y : pH D cCl (lA s) s.heap L f H locs) (hw : tW E T κ L f) (kx : κ xo = (10, 0)) (c6 : gF f xo 6 = .ref cn0) (c3 : gF f cn0 3 = .ref tp) (c1 : gF f xo 1 = .ref tp) (PM : va_P D2.1 mCl (mW E2 h q I J B G) H) (DM : va_D (lA s) (mW E2 h q I J B G)) (AP : ∀ (k : Nat) (x : Nat × va_E), (mW E2 h q I J B G)[k]? = some x → x.1 ∉ L) (IV : LIv k I B) (hc : (cells : Int) ≤ 1000 + 3 * k) (hs : (slots : Int) ≤ 400000 + 4100 * k) (hl : lv_has ls 4 [(3, .int (iI (8 * k))), (2, .ref h), (1, .ref xo), (0, .ref b)]) (kk : ∀ (κ : tK) (L : List Nat) (f : pF) (I : Nat → Int32) (J : Nat → Int64) (B : Nat → Nat → Int32) (G : Nat → Nat → Int64) (H : Heap) (locs : List Loc) (cells slots : Nat), pH D cCl (lA s) s.heap L f H locs → tW E T κ L f → κ xo = (10, 0) → gF f xo 6 = .ref cn0 → gF f cn0 3 = .ref tp → gF f xo 1 = .ref tp → va_P D2.1 mCl (mW E2 h q I J B G) H → va_D (lA s) (mW E2 h q I J B G) → (∀ (k : Nat) (x : Nat × va_E), (mW E2 h q I J B G)[k]? = some x → x.1 ∉ L) → LIv (k + 1) I B → (cells : Int) ≤ 1000 + 3 * (k + 1) → (slots : Int) ≤ 400000 + 4100 * (k + 1) → W p l e room_1 s m #[Value.ref b] below meth c H locs cells slots (lw_Z below #[Value.ref b] s) (F0 m 1068 ls [])) : W p l e room_1 s m #[Value.ref b] below meth c H locs cells slots (lw_Z below #[Value.ref b] s) (F0 m 692 ls []) := by
  obtain ⟨hx, hb, hr, hml, hown, hts, hX, hbl, hlocks, hgv⟩ := id C0
  have hbA : ¬ lA s b := Nat.not_le.mpr hbl
  have hA : ∀ a, s.heap.size ≤ a → lA s a := fun _ h9 => h9
  obtain ⟨hT, f_P1, f_P2, f_FT, f_FA, f_V, cn, gcn, lcn, ucn⟩ := IV
  have S0 : tS E T (tFr κ L [] []) κ L f κ L f := tS_rf hw
  refine lv_aload_n hx hb d_law_692 rfl (lv_at hl 2 rfl) ?_
  refine lv_aload_n hx hb d_law_693 rfl (lv_at hl 3 rfl) ?_
  refine lv_iload_n hx hb d_law_694 rfl (lv_at hl 0 rfl) ?_
  refine lv_iconst (v := iI 1) hx hb d_law_695 (by decide) ?_
  refine z_iadd hx hb d_law_696 ?_
  refine va_sld hx hb hX hbl hbA Y.2.2 (iI_in (by omega) (by omega) (by omega)) d_law_697 ?_
  refine t_eq (iI_of _) ?_
  refine lv_aload_n hx hb d_law_698 rfl (lv_at hl 3 rfl) ?_
  refine lv_iload_n hx hb d_law_699 rfl (lv_at hl 0 rfl) ?_
  refine lv_iconst (v := iI 2) hx hb d_law_700 (by decide) ?_
  refine z_iadd hx hb d_law_701 ?_
  refine va_sld hx hb hX hbl hbA Y.2.2 (iI_in (by omega) (by omega) (by omega)) d_law_702 ?_
  refine t_eq (iI_of _) ?_
  refine lx_i (t_runV (As := [.int (iI (xs (iI (8 * k + 1)).toNatClampNeg).toInt), .int (iI (xs (iI (8 * k + 2)).toNatClampNeg).toInt)]) (rest := []) (n := 2) X Y S0 kx hml hl.1 (c_H_drop l D E T κ L f H.size xo kx (xs (iI (8 * k + 1)).toNatClampNeg).toInt (iI_r _).1 (iI_r _).2 (xs (iI (8 * k + 2)).toNatClampNeg).toInt (iI_r _).1 (iI_r _).2 hw) (ok_k X Y hA KS KR) rfl kl_L_H_drop ks_H_drop kx_H_drop ki_H_drop ini_H ⟨rfl, rfl⟩ hd_H_drop ⟨by decide, by decide⟩ rfl (Nat.le_of_ble_eq_true rfl) d_law_703 ⟨by show cells + 0 ≤ 600000; omega, by show slots + 0 ≤ 7302250; omega⟩) X Y hA PM AP (fun r1 u1 H1 locs1 hp1 Y1 PM1 AP1 => ?_)
  obtain ⟨L1, f1⟩ := u1
  dsimp only at Y1 AP1
  obtain ⟨e1, S1, z1, ez1, q1⟩ := hp1
  dsimp only at e1 S1
  subst e1
  have N1 := lc_next S1 hw kx c6 c3 c1 (by decide) (by decide)
  refine lv_pop hx hb d_law_706 rfl ?_
  refine lv_aload_n hx hb d_law_707 rfl (lv_at hl 1 rfl) ?_
  refine lv_aload_n hx hb d_law_708 rfl (lv_at hl 3 rfl) ?_
  refine lv_iload_n hx hb d_law_709 rfl (lv_at hl 0 rfl) ?_
  refine lv_iconst (v := iI 1) hx hb d_law_710 (by decide) ?_
  refine z_iadd hx hb d_law_711 ?_
  refine va_sld hx hb hX hbl hbA Y1.2.2 (iI_in (by omega) (by omega) (by omega)) d_law_712 ?_
  refine t_eq (iI_of _) ?_
  refine lv_aload_n hx hb d_law_713 rfl (lv_at hl 3 rfl) ?_
  refine lv_iload_n hx hb d_law_714 rfl (lv_at hl 0 rfl) ?_
  refine lv_iconst (v := iI 2) hx hb d_law_715 (by decide) ?_
  refine z_iadd hx hb d_law_716 ?_
  refine va_sld hx hb hX hbl hbA Y1.2.2 (iI_in (by omega) (by omega) (by omega)) d_law_717 ?_
  refine t_eq (iI_of _) ?_
  refine lm_i (As := [.int (iI (xs (iI (8 * k + 1)).toNatClampNeg).toInt), .int (iI (xs (iI (8 * k + 2)).toNatClampNeg).toInt)]) (rest := []) (n := 2) hx hb X.2.2.1 hown K2 Z2 R2 Y1 PM1 DM AP1 hA hml hl.1 (r_M_drop l D2 E2 h q H1.size I J B G (xs (iI (8 * k + 1)).toNatClampNeg).toInt (iI_r _).1 (iI_r _).2 (xs (iI (8 * k + 2)).toNatClampNeg).toInt (iI_r _).1 (iI_r _).2 hT f_FT) kl_L_M_drop ks_M_drop kx_M_drop ki_M_drop hd_M_drop ⟨by decide, by decide⟩ rfl (Nat.le_of_ble_eq_true rfl) d_law_718 ⟨by show cells + 0 ≤ 600000; omega, by show slots + 0 ≤ 7302250; omega⟩ (fun r2 u2 H2 locs2 hp2 Y2 PM2 DM2 AP2 => ?_)
  obtain ⟨I2, J2, B2, G2⟩ := u2
  obtain ⟨S2, z2, ez2, q2⟩ := hp2
  dsimp only at S2 q2 PM2 DM2 AP2
  obtain ⟨lz, uz, g_FT⟩ := q2
  have IV2 : LIv (k + 1) I2 B2 := ⟨S2.1, (pG1_cg (S2.2.1 39 (by decide)) (S2.2.1 40 (by decide)) f_P1), (pG2_cg (S2.2.2 37 (by decide)) (S2.2.2 38 (by decide)) f_P2), g_FT, (stA_cg (S2.2.2 110 (by decide)) (S2.2.2 118 (by decide)) (S2.2.2 119 (by decide)) (S2.2.2 120 (by decide)) f_FA), (vB_le (show 1 + k ≤ 1 + (k + 1) by omega) (vB_cg (S2.2.2 46 (by decide)) f_V)), ⟨cn, (S2.2.1 33 (by decide)).trans gcn, by omega, by omega⟩⟩
  refine lv_pop hx hb d_law_721 rfl ?_
  refine lv_goto (tgt := 1068) hx hb d_law_722 (by decide) ?_
  exact kk κ L1 f1 I2 J2 B2 G2 H2 locs2 _ _ Y2 N1.1 N1.2.1 N1.2.2.1 N1.2.2.2.1 N1.2.2.2.2 PM2 DM2 AP2 IV2 (by omega) (by omega)
set_option maxHeartbeats 4000000 in
set_option maxRecDepth 100000 in
theorem law_17 {p : Program} {l : Launch} {e : Env} {s : State} {m : MethodId} {below : List Frame} {meth : Method} {c : Code} {b h xo cn0 tp n : Nat} {k : Int} {xs : Nat → Int32} {D : va_G} {E : cE} {T : cT} {κ : tK} {L : List Nat} {f : pF} {D2 : mD} {E2 : mE} {q : Nat → Nat} {I : Nat → Int32} {J : Nat → Int64} {B : Nat → Nat → Int32} {G : Nat → Nat → Int64} {H : Heap} {locs : List Loc} {cells slots : Nat} {ls : Array Slot} (C0 : lw_At p s m meth c b n xs) (hk0 : 0 ≤ k) (hk : 8 * k + 8 ≤ n) (hn : n ≤ 4096) (X : cX R_law p c code #[Value.ref b] s m D E) (KS : kS T (lA s) s s.heap) (KR : kR T s) (K2 : va_K D2.1 mCl (mTy E2) s) (Z2 : zS D2.2.1 D2.2.2.1 D2.2.2.2 (lA s) s s.heap) (R2 : zR D2.2.1 s) (Y : pH D cCl (lA s) s.heap L f H locs) (hw : tW E T κ L f) (kx : κ xo = (10, 0)) (c6 : gF f xo 6 = .ref cn0) (c3 : gF f cn0 3 = .ref tp) (c1 : gF f xo 1 = .ref tp) (PM : va_P D2.1 mCl (mW E2 h q I J B G) H) (DM : va_D (lA s) (mW E2 h q I J B G)) (AP : ∀ (k : Nat) (x : Nat × va_E), (mW E2 h q I J B G)[k]? = some x → x.1 ∉ L) (IV : LIv k I B) (hc : (cells : Int) ≤ 1000 + 3 * k) (hs : (slots : Int) ≤ 400000 + 4100 * k) (hl : lv_has ls 4 [(3, .int (iI (8 * k))), (2, .ref h), (1, .ref xo), (0, .ref b)]) (kk : ∀ (κ : tK) (L : List Nat) (f : pF) (I : Nat → Int32) (J : Nat → Int64) (B : Nat → Nat → Int32) (G : Nat → Nat → Int64) (H : Heap) (locs : List Loc) (cells slots : Nat), pH D cCl (lA s) s.heap L f H locs → tW E T κ L f → κ xo = (10, 0) → gF f xo 6 = .ref cn0 → gF f cn0 3 = .ref tp → gF f xo 1 = .ref tp → va_P D2.1 mCl (mW E2 h q I J B G) H → va_D (lA s) (mW E2 h q I J B G) → (∀ (k : Nat) (x : Nat × va_E), (mW E2 h q I J B G)[k]? = some x → x.1 ∉ L) → LIv (k + 1) I B → (cells : Int) ≤ 1000 + 3 * (k + 1) → (slots : Int) ≤ 400000 + 4100 * (k + 1) → W p l e room_1 s m #[Value.ref b] below meth c H locs cells slots (lw_Z below #[Value.ref b] s) (F0 m 1068 ls [])) : W p l e room_1 s m #[Value.ref b] below meth c H locs cells slots (lw_Z below #[Value.ref b] s) (F0 m 725 ls []) := by
  obtain ⟨hx, hb, hr, hml, hown, hts, hX, hbl, hlocks, hgv⟩ := id C0
  have hbA : ¬ lA s b := Nat.not_le.mpr hbl
  have hA : ∀ a, s.heap.size ≤ a → lA s a := fun _ h9 => h9
  obtain ⟨hT, f_P1, f_P2, f_FT, f_FA, f_V, cn, gcn, lcn, ucn⟩ := IV
  have S0 : tS E T (tFr κ L [] []) κ L f κ L f := tS_rf hw
  refine lv_aload_n hx hb d_law_725 rfl (lv_at hl 2 rfl) ?_
  refine lv_aload_n hx hb d_law_726 rfl (lv_at hl 3 rfl) ?_
  refine lv_iload_n hx hb d_law_727 rfl (lv_at hl 0 rfl) ?_
  refine lv_iconst (v := iI 1) hx hb d_law_728 (by decide) ?_
  refine z_iadd hx hb d_law_729 ?_
  refine va_sld hx hb hX hbl hbA Y.2.2 (iI_in (by omega) (by omega) (by omega)) d_law_730 ?_
  refine t_eq (iI_of _) ?_
  refine lv_aload_n hx hb d_law_731 rfl (lv_at hl 3 rfl) ?_
  refine lv_iload_n hx hb d_law_732 rfl (lv_at hl 0 rfl) ?_
  refine lv_iconst (v := iI 2) hx hb d_law_733 (by decide) ?_
  refine z_iadd hx hb d_law_734 ?_
  refine va_sld hx hb hX hbl hbA Y.2.2 (iI_in (by omega) (by omega) (by omega)) d_law_735 ?_
  refine t_eq (iI_of _) ?_
  refine lv_aload_n hx hb d_law_736 rfl (lv_at hl 3 rfl) ?_
  refine lv_iload_n hx hb d_law_737 rfl (lv_at hl 0 rfl) ?_
  refine lv_iconst (v := iI 3) hx hb d_law_738 (by decide) ?_
  refine z_iadd hx hb d_law_739 ?_
  refine va_sld hx hb hX hbl hbA Y.2.2 (iI_in (by omega) (by omega) (by omega)) d_law_740 ?_
  refine t_eq (iI_of _) ?_
  refine lx_i (t_runV (As := [.int (iI (xs (iI (8 * k + 1)).toNatClampNeg).toInt), .int (iI (xs (iI (8 * k + 2)).toNatClampNeg).toInt), .int (iI (xs (iI (8 * k + 3)).toNatClampNeg).toInt)]) (rest := []) (n := 3) X Y S0 kx hml hl.1 (c_H_present l D E T κ L f H.size xo kx (xs (iI (8 * k + 1)).toNatClampNeg).toInt (iI_r _).1 (iI_r _).2 (xs (iI (8 * k + 2)).toNatClampNeg).toInt (iI_r _).1 (iI_r _).2 (xs (iI (8 * k + 3)).toNatClampNeg).toInt (iI_r _).1 (iI_r _).2 hw) (ok_k X Y hA KS KR) rfl kl_L_H_present ks_H_present kx_H_present ki_H_present ini_H ⟨rfl, rfl⟩ hd_H_present ⟨by decide, by decide⟩ rfl (Nat.le_of_ble_eq_true rfl) d_law_741 ⟨by show cells + 1 ≤ 600000; omega, by show slots + 32 ≤ 7302250; omega⟩) X Y hA PM AP (fun r1 u1 H1 locs1 hp1 Y1 PM1 AP1 => ?_)
  obtain ⟨L1, f1⟩ := u1
  dsimp only at Y1 AP1
  obtain ⟨κ1, S1, z1, ez1, q1⟩ := hp1
  dsimp only at S1 q1
  have N1 := lc_next S1 hw kx c6 c3 c1 (by decide) (by decide)
  refine lv_pop hx hb d_law_744 rfl ?_
  refine lv_aload_n hx hb d_law_745 rfl (lv_at hl 1 rfl) ?_
  refine lv_aload_n hx hb d_law_746 rfl (lv_at hl 3 rfl) ?_
  refine lv_iload_n hx hb d_law_747 rfl (lv_at hl 0 rfl) ?_
  refine lv_iconst (v := iI 1) hx hb d_law_748 (by decide) ?_
  refine z_iadd hx hb d_law_749 ?_
  refine va_sld hx hb hX hbl hbA Y1.2.2 (iI_in (by omega) (by omega) (by omega)) d_law_750 ?_
  refine t_eq (iI_of _) ?_
  refine lv_aload_n hx hb d_law_751 rfl (lv_at hl 3 rfl) ?_
  refine lv_iload_n hx hb d_law_752 rfl (lv_at hl 0 rfl) ?_
  refine lv_iconst (v := iI 2) hx hb d_law_753 (by decide) ?_
  refine z_iadd hx hb d_law_754 ?_
  refine va_sld hx hb hX hbl hbA Y1.2.2 (iI_in (by omega) (by omega) (by omega)) d_law_755 ?_
  refine t_eq (iI_of _) ?_
  refine lv_aload_n hx hb d_law_756 rfl (lv_at hl 3 rfl) ?_
  refine lv_iload_n hx hb d_law_757 rfl (lv_at hl 0 rfl) ?_
  refine lv_iconst (v := iI 3) hx hb d_law_758 (by decide) ?_
  refine z_iadd hx hb d_law_759 ?_
  refine va_sld hx hb hX hbl hbA Y1.2.2 (iI_in (by omega) (by omega) (by omega)) d_law_760 ?_
  refine t_eq (iI_of _) ?_
  refine lm_i (As := [.int (iI (xs (iI (8 * k + 1)).toNatClampNeg).toInt), .int (iI (xs (iI (8 * k + 2)).toNatClampNeg).toInt), .int (iI (xs (iI (8 * k + 3)).toNatClampNeg).toInt)]) (rest := []) (n := 3) hx hb X.2.2.1 hown K2 Z2 R2 Y1 PM1 DM AP1 hA hml hl.1 (r_M_present l D2 E2 h q H1.size I J B G (xs (iI (8 * k + 1)).toNatClampNeg).toInt (iI_r _).1 (iI_r _).2 (xs (iI (8 * k + 2)).toNatClampNeg).toInt (iI_r _).1 (iI_r _).2 (xs (iI (8 * k + 3)).toNatClampNeg).toInt (iI_r _).1 (iI_r _).2 hT cn gcn (by omega) (by omega)) kl_L_M_present ks_M_present kx_M_present ki_M_present hd_M_present ⟨by decide, by decide⟩ rfl (Nat.le_of_ble_eq_true rfl) d_law_761 ⟨by show cells + 1 ≤ 600000; omega, by show slots + 32 ≤ 7302250; omega⟩ (fun r2 u2 H2 locs2 hp2 Y2 PM2 DM2 AP2 => ?_)
  obtain ⟨I2, J2, B2, G2⟩ := u2
  obtain ⟨S2, z2, ez2, q2⟩ := hp2
  dsimp only at S2 q2 PM2 DM2 AP2
  obtain ⟨lz, uz, xp⟩ := q2
  obtain ⟨v9, e9, l9, m9⟩ := xp
  have IV2 : LIv (k + 1) I2 B2 := ⟨S2.1, (pG1_cg (S2.2.1 39 (by decide)) (S2.2.1 40 (by decide)) f_P1), (pG2_cg (S2.2.2 37 (by decide)) (S2.2.2 38 (by decide)) f_P2), (stT_cg (S2.2.2 97 (by decide)) (S2.2.2 98 (by decide)) (S2.2.2 100 (by decide)) (S2.2.2 107 (by decide)) (S2.2.2 108 (by decide)) (S2.2.2 109 (by decide)) f_FT), (stA_cg (S2.2.2 110 (by decide)) (S2.2.2 118 (by decide)) (S2.2.2 119 (by decide)) (S2.2.2 120 (by decide)) f_FA), (vB_le (show 1 + k ≤ 1 + (k + 1) by omega) (vB_cg (S2.2.2 46 (by decide)) f_V)), ⟨v9, e9, by omega, by omega⟩⟩
  refine lv_pop hx hb d_law_764 rfl ?_
  refine lv_goto (tgt := 1068) hx hb d_law_765 (by decide) ?_
  exact kk κ1 L1 f1 I2 J2 B2 G2 H2 locs2 _ _ Y2 N1.1 N1.2.1 N1.2.2.1 N1.2.2.2.1 N1.2.2.2.2 PM2 DM2 AP2 IV2 (by omega) (by omega)
set_option maxHeartbeats 4000000 in
set_option maxRecDepth 100000 in
theorem law_18 {p : Program} {l : Launch} {e : Env} {s : State} {m : MethodId} {below : List Frame} {meth : Method} {c : Code} {b h xo cn0 tp n : Nat} {k : Int} {xs : Nat → Int32} {D : va_G} {E : cE} {T : cT} {κ : tK} {L : List Nat} {f : pF} {D2 : mD} {E2 : mE} {q : Nat → Nat} {I : Nat → Int32} {J : Nat → Int64} {B : Nat → Nat → Int32} {G : Nat → Nat → Int64} {H : Heap} {locs : List Loc} {cells slots : Nat} {ls : Array Slot} (C0 : lw_At p s m meth c b n xs) (hk0 : 0 ≤ k) (hk : 8 * k + 8 ≤ n) (hn : n ≤ 4096) (X : cX R_law p c code #[Value.ref b] s m D E) (KS : kS T (lA s) s s.heap) (KR : kR T s) (K2 : va_K D2.1 mCl (mTy E2) s) (Z2 : zS D2.2.1 D2.2.2.1 D2.2.2.2 (lA s) s s.heap) (R2 : zR D2.2.1 s) (Y : pH D cCl (lA s) s.heap L f H locs) (hw : tW E T κ L f) (kx : κ xo = (10, 0)) (c6 : gF f xo 6 = .ref cn0) (c3 : gF f cn0 3 = .ref tp) (c1 : gF f xo 1 = .ref tp) (PM : va_P D2.1 mCl (mW E2 h q I J B G) H) (DM : va_D (lA s) (mW E2 h q I J B G)) (AP : ∀ (k : Nat) (x : Nat × va_E), (mW E2 h q I J B G)[k]? = some x → x.1 ∉ L) (IV : LIv k I B) (hc : (cells : Int) ≤ 1000 + 3 * k) (hs : (slots : Int) ≤ 400000 + 4100 * k) (hl : lv_has ls 4 [(3, .int (iI (8 * k))), (2, .ref h), (1, .ref xo), (0, .ref b)]) (kk : ∀ (κ : tK) (L : List Nat) (f : pF) (I : Nat → Int32) (J : Nat → Int64) (B : Nat → Nat → Int32) (G : Nat → Nat → Int64) (H : Heap) (locs : List Loc) (cells slots : Nat), pH D cCl (lA s) s.heap L f H locs → tW E T κ L f → κ xo = (10, 0) → gF f xo 6 = .ref cn0 → gF f cn0 3 = .ref tp → gF f xo 1 = .ref tp → va_P D2.1 mCl (mW E2 h q I J B G) H → va_D (lA s) (mW E2 h q I J B G) → (∀ (k : Nat) (x : Nat × va_E), (mW E2 h q I J B G)[k]? = some x → x.1 ∉ L) → LIv (k + 1) I B → (cells : Int) ≤ 1000 + 3 * (k + 1) → (slots : Int) ≤ 400000 + 4100 * (k + 1) → W p l e room_1 s m #[Value.ref b] below meth c H locs cells slots (lw_Z below #[Value.ref b] s) (F0 m 1068 ls [])) : W p l e room_1 s m #[Value.ref b] below meth c H locs cells slots (lw_Z below #[Value.ref b] s) (F0 m 768 ls []) := by
  obtain ⟨hx, hb, hr, hml, hown, hts, hX, hbl, hlocks, hgv⟩ := id C0
  have hbA : ¬ lA s b := Nat.not_le.mpr hbl
  have hA : ∀ a, s.heap.size ≤ a → lA s a := fun _ h9 => h9
  obtain ⟨hT, f_P1, f_P2, f_FT, f_FA, f_V, cn, gcn, lcn, ucn⟩ := IV
  have S0 : tS E T (tFr κ L [] []) κ L f κ L f := tS_rf hw
  refine lv_aload_n hx hb d_law_768 rfl (lv_at hl 2 rfl) ?_
  refine lv_aload_n hx hb d_law_769 rfl (lv_at hl 3 rfl) ?_
  refine lv_iload_n hx hb d_law_770 rfl (lv_at hl 0 rfl) ?_
  refine lv_iconst (v := iI 1) hx hb d_law_771 (by decide) ?_
  refine z_iadd hx hb d_law_772 ?_
  refine va_sld hx hb hX hbl hbA Y.2.2 (iI_in (by omega) (by omega) (by omega)) d_law_773 ?_
  refine t_eq (iI_of _) ?_
  refine lx_i (t_runV (As := [.int (iI (xs (iI (8 * k + 1)).toNatClampNeg).toInt)]) (rest := []) (n := 1) X Y S0 kx hml hl.1 (c_H_serve l D E T κ L f H.size xo kx (xs (iI (8 * k + 1)).toNatClampNeg).toInt (iI_r _).1 (iI_r _).2 hw) (ok_k X Y hA KS KR) rfl kl_L_H_serve ks_H_serve kx_H_serve ki_H_serve ini_H ⟨rfl, rfl⟩ hd_H_serve ⟨by decide, by decide⟩ rfl (Nat.le_of_ble_eq_true rfl) d_law_774 ⟨by show cells + 3 ≤ 600000; omega, by show slots + 96 ≤ 7302250; omega⟩) X Y hA PM AP (fun r1 u1 H1 locs1 hp1 Y1 PM1 AP1 => ?_)
  obtain ⟨L1, f1⟩ := u1
  dsimp only at Y1 AP1
  obtain ⟨κ1, S1, z1, ez1, q1⟩ := hp1
  dsimp only at S1 q1
  have N1 := lc_next S1 hw kx c6 c3 c1 (by decide) (by decide)
  refine lv_pop hx hb d_law_777 rfl ?_
  refine lv_aload_n hx hb d_law_778 rfl (lv_at hl 1 rfl) ?_
  refine lv_aload_n hx hb d_law_779 rfl (lv_at hl 3 rfl) ?_
  refine lv_iload_n hx hb d_law_780 rfl (lv_at hl 0 rfl) ?_
  refine lv_iconst (v := iI 1) hx hb d_law_781 (by decide) ?_
  refine z_iadd hx hb d_law_782 ?_
  refine va_sld hx hb hX hbl hbA Y1.2.2 (iI_in (by omega) (by omega) (by omega)) d_law_783 ?_
  refine t_eq (iI_of _) ?_
  refine lm_i (As := [.int (iI (xs (iI (8 * k + 1)).toNatClampNeg).toInt)]) (rest := []) (n := 1) hx hb X.2.2.1 hown K2 Z2 R2 Y1 PM1 DM AP1 hA hml hl.1 (r_M_serve l D2 E2 h q H1.size I J B G (xs (iI (8 * k + 1)).toNatClampNeg).toInt (iI_r _).1 (iI_r _).2 hT cn gcn (by omega) (by omega) f_P1 f_P2) kl_L_M_serve ks_M_serve kx_M_serve ki_M_serve hd_M_serve ⟨by decide, by decide⟩ rfl (Nat.le_of_ble_eq_true rfl) d_law_784 ⟨by show cells + 3 ≤ 600000; omega, by show slots + 96 ≤ 7302250; omega⟩ (fun r2 u2 H2 locs2 hp2 Y2 PM2 DM2 AP2 => ?_)
  obtain ⟨I2, J2, B2, G2⟩ := u2
  obtain ⟨S2, z2, ez2, q2⟩ := hp2
  dsimp only at S2 q2 PM2 DM2 AP2
  obtain ⟨lz, uz, xp, g_P1, g_P2⟩ := q2
  obtain ⟨v9, e9, l9, m9⟩ := xp
  have IV2 : LIv (k + 1) I2 B2 := ⟨S2.1, g_P1, g_P2, (stT_cg (S2.2.2 97 (by decide)) (S2.2.2 98 (by decide)) (S2.2.2 100 (by decide)) (S2.2.2 107 (by decide)) (S2.2.2 108 (by decide)) (S2.2.2 109 (by decide)) f_FT), (stA_cg (S2.2.2 110 (by decide)) (S2.2.2 118 (by decide)) (S2.2.2 119 (by decide)) (S2.2.2 120 (by decide)) f_FA), (vB_le (show 1 + k ≤ 1 + (k + 1) by omega) (vB_cg (S2.2.2 46 (by decide)) f_V)), ⟨v9, e9, by omega, by omega⟩⟩
  refine lv_pop hx hb d_law_787 rfl ?_
  refine lv_goto (tgt := 1068) hx hb d_law_788 (by decide) ?_
  exact kk κ1 L1 f1 I2 J2 B2 G2 H2 locs2 _ _ Y2 N1.1 N1.2.1 N1.2.2.1 N1.2.2.2.1 N1.2.2.2.2 PM2 DM2 AP2 IV2 (by omega) (by omega)
set_option maxHeartbeats 4000000 in
set_option maxRecDepth 100000 in
theorem law_19 {p : Program} {l : Launch} {e : Env} {s : State} {m : MethodId} {below : List Frame} {meth : Method} {c : Code} {b h xo cn0 tp n : Nat} {k : Int} {xs : Nat → Int32} {D : va_G} {E : cE} {T : cT} {κ : tK} {L : List Nat} {f : pF} {D2 : mD} {E2 : mE} {q : Nat → Nat} {I : Nat → Int32} {J : Nat → Int64} {B : Nat → Nat → Int32} {G : Nat → Nat → Int64} {H : Heap} {locs : List Loc} {cells slots : Nat} {ls : Array Slot} (C0 : lw_At p s m meth c b n xs) (hk0 : 0 ≤ k) (hk : 8 * k + 8 ≤ n) (hn : n ≤ 4096) (X : cX R_law p c code #[Value.ref b] s m D E) (KS : kS T (lA s) s s.heap) (KR : kR T s) (K2 : va_K D2.1 mCl (mTy E2) s) (Z2 : zS D2.2.1 D2.2.2.1 D2.2.2.2 (lA s) s s.heap) (R2 : zR D2.2.1 s) (Y : pH D cCl (lA s) s.heap L f H locs) (hw : tW E T κ L f) (kx : κ xo = (10, 0)) (c6 : gF f xo 6 = .ref cn0) (c3 : gF f cn0 3 = .ref tp) (c1 : gF f xo 1 = .ref tp) (PM : va_P D2.1 mCl (mW E2 h q I J B G) H) (DM : va_D (lA s) (mW E2 h q I J B G)) (AP : ∀ (k : Nat) (x : Nat × va_E), (mW E2 h q I J B G)[k]? = some x → x.1 ∉ L) (IV : LIv k I B) (hc : (cells : Int) ≤ 1000 + 3 * k) (hs : (slots : Int) ≤ 400000 + 4100 * k) (hl : lv_has ls 4 [(3, .int (iI (8 * k))), (2, .ref h), (1, .ref xo), (0, .ref b)]) (kk : ∀ (κ : tK) (L : List Nat) (f : pF) (I : Nat → Int32) (J : Nat → Int64) (B : Nat → Nat → Int32) (G : Nat → Nat → Int64) (H : Heap) (locs : List Loc) (cells slots : Nat), pH D cCl (lA s) s.heap L f H locs → tW E T κ L f → κ xo = (10, 0) → gF f xo 6 = .ref cn0 → gF f cn0 3 = .ref tp → gF f xo 1 = .ref tp → va_P D2.1 mCl (mW E2 h q I J B G) H → va_D (lA s) (mW E2 h q I J B G) → (∀ (k : Nat) (x : Nat × va_E), (mW E2 h q I J B G)[k]? = some x → x.1 ∉ L) → LIv (k + 1) I B → (cells : Int) ≤ 1000 + 3 * (k + 1) → (slots : Int) ≤ 400000 + 4100 * (k + 1) → W p l e room_1 s m #[Value.ref b] below meth c H locs cells slots (lw_Z below #[Value.ref b] s) (F0 m 1068 ls [])) : W p l e room_1 s m #[Value.ref b] below meth c H locs cells slots (lw_Z below #[Value.ref b] s) (F0 m 791 ls []) := by
  obtain ⟨hx, hb, hr, hml, hown, hts, hX, hbl, hlocks, hgv⟩ := id C0
  have hbA : ¬ lA s b := Nat.not_le.mpr hbl
  have hA : ∀ a, s.heap.size ≤ a → lA s a := fun _ h9 => h9
  obtain ⟨hT, f_P1, f_P2, f_FT, f_FA, f_V, cn, gcn, lcn, ucn⟩ := IV
  have S0 : tS E T (tFr κ L [] []) κ L f κ L f := tS_rf hw
  refine lv_aload_n hx hb d_law_791 rfl (lv_at hl 2 rfl) ?_
  refine lv_aload_n hx hb d_law_792 rfl (lv_at hl 3 rfl) ?_
  refine lv_iload_n hx hb d_law_793 rfl (lv_at hl 0 rfl) ?_
  refine lv_iconst (v := iI 1) hx hb d_law_794 (by decide) ?_
  refine z_iadd hx hb d_law_795 ?_
  refine va_sld hx hb hX hbl hbA Y.2.2 (iI_in (by omega) (by omega) (by omega)) d_law_796 ?_
  refine t_eq (iI_of _) ?_
  refine lx_i (t_runV (As := [.int (iI (xs (iI (8 * k + 1)).toNatClampNeg).toInt)]) (rest := []) (n := 1) X Y S0 kx hml hl.1 (c_H_met l D E T κ L f H.size xo kx (xs (iI (8 * k + 1)).toNatClampNeg).toInt (iI_r _).1 (iI_r _).2 hw) (ok_k X Y hA KS KR) rfl kl_L_H_met ks_H_met kx_H_met ki_H_met ini_H ⟨rfl, rfl⟩ hd_H_met ⟨by decide, by decide⟩ rfl (Nat.le_of_ble_eq_true rfl) d_law_797 ⟨by show cells + 0 ≤ 600000; omega, by show slots + 0 ≤ 7302250; omega⟩) X Y hA PM AP (fun r1 u1 H1 locs1 hp1 Y1 PM1 AP1 => ?_)
  obtain ⟨L1, f1⟩ := u1
  dsimp only at Y1 AP1
  obtain ⟨e1, S1, z1, ez1, q1⟩ := hp1
  dsimp only at e1 S1
  subst e1
  have N1 := lc_next S1 hw kx c6 c3 c1 (by decide) (by decide)
  refine lv_pop hx hb d_law_800 rfl ?_
  refine lv_aload_n hx hb d_law_801 rfl (lv_at hl 1 rfl) ?_
  refine lv_aload_n hx hb d_law_802 rfl (lv_at hl 3 rfl) ?_
  refine lv_iload_n hx hb d_law_803 rfl (lv_at hl 0 rfl) ?_
  refine lv_iconst (v := iI 1) hx hb d_law_804 (by decide) ?_
  refine z_iadd hx hb d_law_805 ?_
  refine va_sld hx hb hX hbl hbA Y1.2.2 (iI_in (by omega) (by omega) (by omega)) d_law_806 ?_
  refine t_eq (iI_of _) ?_
  refine lm_i (As := [.int (iI (xs (iI (8 * k + 1)).toNatClampNeg).toInt)]) (rest := []) (n := 1) hx hb X.2.2.1 hown K2 Z2 R2 Y1 PM1 DM AP1 hA hml hl.1 (r_M_met l D2 E2 h q H1.size I J B G (xs (iI (8 * k + 1)).toNatClampNeg).toInt (iI_r _).1 (iI_r _).2 hT f_P1 f_P2) kl_L_M_met ks_M_met kx_M_met ki_M_met hd_M_met ⟨by decide, by decide⟩ rfl (Nat.le_of_ble_eq_true rfl) d_law_807 ⟨by show cells + 0 ≤ 600000; omega, by show slots + 0 ≤ 7302250; omega⟩ (fun r2 u2 H2 locs2 hp2 Y2 PM2 DM2 AP2 => ?_)
  obtain ⟨I2, J2, B2, G2⟩ := u2
  obtain ⟨S2, z2, ez2, q2⟩ := hp2
  dsimp only at S2 q2 PM2 DM2 AP2
  obtain ⟨lz, uz, g_P1, g_P2⟩ := q2
  have IV2 : LIv (k + 1) I2 B2 := ⟨S2.1, g_P1, g_P2, (stT_cg (S2.2.2 97 (by decide)) (S2.2.2 98 (by decide)) (S2.2.2 100 (by decide)) (S2.2.2 107 (by decide)) (S2.2.2 108 (by decide)) (S2.2.2 109 (by decide)) f_FT), (stA_cg (S2.2.2 110 (by decide)) (S2.2.2 118 (by decide)) (S2.2.2 119 (by decide)) (S2.2.2 120 (by decide)) f_FA), (vB_le (show 1 + k ≤ 1 + (k + 1) by omega) (vB_cg (S2.2.2 46 (by decide)) f_V)), ⟨cn, (S2.2.1 33 (by decide)).trans gcn, by omega, by omega⟩⟩
  refine lv_pop hx hb d_law_810 rfl ?_
  refine lv_goto (tgt := 1068) hx hb d_law_811 (by decide) ?_
  exact kk κ L1 f1 I2 J2 B2 G2 H2 locs2 _ _ Y2 N1.1 N1.2.1 N1.2.2.1 N1.2.2.2.1 N1.2.2.2.2 PM2 DM2 AP2 IV2 (by omega) (by omega)
set_option maxHeartbeats 4000000 in
set_option maxRecDepth 100000 in
theorem law_20 {p : Program} {l : Launch} {e : Env} {s : State} {m : MethodId} {below : List Frame} {meth : Method} {c : Code} {b h xo cn0 tp n : Nat} {k : Int} {xs : Nat → Int32} {D : va_G} {E : cE} {T : cT} {κ : tK} {L : List Nat} {f : pF} {D2 : mD} {E2 : mE} {q : Nat → Nat} {I : Nat → Int32} {J : Nat → Int64} {B : Nat → Nat → Int32} {G : Nat → Nat → Int64} {H : Heap} {locs : List Loc} {cells slots : Nat} {ls : Array Slot} (C0 : lw_At p s m meth c b n xs) (hk0 : 0 ≤ k) (hk : 8 * k + 8 ≤ n) (hn : n ≤ 4096) (X : cX R_law p c code #[Value.ref b] s m D E) (KS : kS T (lA s) s s.heap) (KR : kR T s) (K2 : va_K D2.1 mCl (mTy E2) s) (Z2 : zS D2.2.1 D2.2.2.1 D2.2.2.2 (lA s) s s.heap) (R2 : zR D2.2.1 s) (Y : pH D cCl (lA s) s.heap L f H locs) (hw : tW E T κ L f) (kx : κ xo = (10, 0)) (c6 : gF f xo 6 = .ref cn0) (c3 : gF f cn0 3 = .ref tp) (c1 : gF f xo 1 = .ref tp) (PM : va_P D2.1 mCl (mW E2 h q I J B G) H) (DM : va_D (lA s) (mW E2 h q I J B G)) (AP : ∀ (k : Nat) (x : Nat × va_E), (mW E2 h q I J B G)[k]? = some x → x.1 ∉ L) (IV : LIv k I B) (hc : (cells : Int) ≤ 1000 + 3 * k) (hs : (slots : Int) ≤ 400000 + 4100 * k) (hl : lv_has ls 4 [(3, .int (iI (8 * k))), (2, .ref h), (1, .ref xo), (0, .ref b)]) (kk : ∀ (κ : tK) (L : List Nat) (f : pF) (I : Nat → Int32) (J : Nat → Int64) (B : Nat → Nat → Int32) (G : Nat → Nat → Int64) (H : Heap) (locs : List Loc) (cells slots : Nat), pH D cCl (lA s) s.heap L f H locs → tW E T κ L f → κ xo = (10, 0) → gF f xo 6 = .ref cn0 → gF f cn0 3 = .ref tp → gF f xo 1 = .ref tp → va_P D2.1 mCl (mW E2 h q I J B G) H → va_D (lA s) (mW E2 h q I J B G) → (∀ (k : Nat) (x : Nat × va_E), (mW E2 h q I J B G)[k]? = some x → x.1 ∉ L) → LIv (k + 1) I B → (cells : Int) ≤ 1000 + 3 * (k + 1) → (slots : Int) ≤ 400000 + 4100 * (k + 1) → W p l e room_1 s m #[Value.ref b] below meth c H locs cells slots (lw_Z below #[Value.ref b] s) (F0 m 1068 ls [])) : W p l e room_1 s m #[Value.ref b] below meth c H locs cells slots (lw_Z below #[Value.ref b] s) (F0 m 814 ls []) := by
  obtain ⟨hx, hb, hr, hml, hown, hts, hX, hbl, hlocks, hgv⟩ := id C0
  have hbA : ¬ lA s b := Nat.not_le.mpr hbl
  have hA : ∀ a, s.heap.size ≤ a → lA s a := fun _ h9 => h9
  obtain ⟨hT, f_P1, f_P2, f_FT, f_FA, f_V, cn, gcn, lcn, ucn⟩ := IV
  have S0 : tS E T (tFr κ L [] []) κ L f κ L f := tS_rf hw
  refine lv_aload_n hx hb d_law_814 rfl (lv_at hl 2 rfl) ?_
  refine lv_aload_n hx hb d_law_815 rfl (lv_at hl 3 rfl) ?_
  refine lv_iload_n hx hb d_law_816 rfl (lv_at hl 0 rfl) ?_
  refine lv_iconst (v := iI 1) hx hb d_law_817 (by decide) ?_
  refine z_iadd hx hb d_law_818 ?_
  refine va_sld hx hb hX hbl hbA Y.2.2 (iI_in (by omega) (by omega) (by omega)) d_law_819 ?_
  refine t_eq (iI_of _) ?_
  refine lv_aload_n hx hb d_law_820 rfl (lv_at hl 3 rfl) ?_
  refine lv_iload_n hx hb d_law_821 rfl (lv_at hl 0 rfl) ?_
  refine lv_iconst (v := iI 2) hx hb d_law_822 (by decide) ?_
  refine z_iadd hx hb d_law_823 ?_
  refine va_sld hx hb hX hbl hbA Y.2.2 (iI_in (by omega) (by omega) (by omega)) d_law_824 ?_
  refine t_eq (iI_of _) ?_
  refine lx_i (t_runV (As := [.int (iI (xs (iI (8 * k + 1)).toNatClampNeg).toInt), .int (iI (xs (iI (8 * k + 2)).toNatClampNeg).toInt)]) (rest := []) (n := 2) X Y S0 kx hml hl.1 (c_H_joins l D E T κ L f H.size xo kx (xs (iI (8 * k + 1)).toNatClampNeg).toInt (iI_r _).1 (iI_r _).2 (xs (iI (8 * k + 2)).toNatClampNeg).toInt (iI_r _).1 (iI_r _).2 hw) (ok_k X Y hA KS KR) rfl kl_L_H_joins ks_H_joins kx_H_joins ki_H_joins ini_H ⟨rfl, rfl⟩ hd_H_joins ⟨by decide, by decide⟩ rfl (Nat.le_of_ble_eq_true rfl) d_law_825 ⟨by show cells + 0 ≤ 600000; omega, by show slots + 0 ≤ 7302250; omega⟩) X Y hA PM AP (fun r1 u1 H1 locs1 hp1 Y1 PM1 AP1 => ?_)
  obtain ⟨L1, f1⟩ := u1
  dsimp only at Y1 AP1
  obtain ⟨e1, S1, z1, ez1, q1⟩ := hp1
  dsimp only at e1 S1
  subst e1
  have N1 := lc_next S1 hw kx c6 c3 c1 (by decide) (by decide)
  refine lv_pop hx hb d_law_828 rfl ?_
  refine lv_aload_n hx hb d_law_829 rfl (lv_at hl 1 rfl) ?_
  refine lv_aload_n hx hb d_law_830 rfl (lv_at hl 3 rfl) ?_
  refine lv_iload_n hx hb d_law_831 rfl (lv_at hl 0 rfl) ?_
  refine lv_iconst (v := iI 1) hx hb d_law_832 (by decide) ?_
  refine z_iadd hx hb d_law_833 ?_
  refine va_sld hx hb hX hbl hbA Y1.2.2 (iI_in (by omega) (by omega) (by omega)) d_law_834 ?_
  refine t_eq (iI_of _) ?_
  refine lv_aload_n hx hb d_law_835 rfl (lv_at hl 3 rfl) ?_
  refine lv_iload_n hx hb d_law_836 rfl (lv_at hl 0 rfl) ?_
  refine lv_iconst (v := iI 2) hx hb d_law_837 (by decide) ?_
  refine z_iadd hx hb d_law_838 ?_
  refine va_sld hx hb hX hbl hbA Y1.2.2 (iI_in (by omega) (by omega) (by omega)) d_law_839 ?_
  refine t_eq (iI_of _) ?_
  refine lm_i (As := [.int (iI (xs (iI (8 * k + 1)).toNatClampNeg).toInt), .int (iI (xs (iI (8 * k + 2)).toNatClampNeg).toInt)]) (rest := []) (n := 2) hx hb X.2.2.1 hown K2 Z2 R2 Y1 PM1 DM AP1 hA hml hl.1 (r_M_joins l D2 E2 h q H1.size I J B G (xs (iI (8 * k + 1)).toNatClampNeg).toInt (iI_r _).1 (iI_r _).2 (xs (iI (8 * k + 2)).toNatClampNeg).toInt (iI_r _).1 (iI_r _).2 hT) kl_L_M_joins ks_M_joins kx_M_joins ki_M_joins hd_M_joins ⟨by decide, by decide⟩ rfl (Nat.le_of_ble_eq_true rfl) d_law_840 ⟨by show cells + 0 ≤ 600000; omega, by show slots + 0 ≤ 7302250; omega⟩ (fun r2 u2 H2 locs2 hp2 Y2 PM2 DM2 AP2 => ?_)
  obtain ⟨I2, J2, B2, G2⟩ := u2
  obtain ⟨S2, z2, ez2, q2⟩ := hp2
  dsimp only at S2 q2 PM2 DM2 AP2
  obtain ⟨lz, uz⟩ := q2
  have IV2 : LIv (k + 1) I2 B2 := ⟨S2.1, (pG1_cg (S2.2.1 39 (by decide)) (S2.2.1 40 (by decide)) f_P1), (pG2_cg (S2.2.2 37 (by decide)) (S2.2.2 38 (by decide)) f_P2), (stT_cg (S2.2.2 97 (by decide)) (S2.2.2 98 (by decide)) (S2.2.2 100 (by decide)) (S2.2.2 107 (by decide)) (S2.2.2 108 (by decide)) (S2.2.2 109 (by decide)) f_FT), (stA_cg (S2.2.2 110 (by decide)) (S2.2.2 118 (by decide)) (S2.2.2 119 (by decide)) (S2.2.2 120 (by decide)) f_FA), (vB_le (show 1 + k ≤ 1 + (k + 1) by omega) (vB_cg (S2.2.2 46 (by decide)) f_V)), ⟨cn, (S2.2.1 33 (by decide)).trans gcn, by omega, by omega⟩⟩
  refine lv_pop hx hb d_law_843 rfl ?_
  refine lv_goto (tgt := 1068) hx hb d_law_844 (by decide) ?_
  exact kk κ L1 f1 I2 J2 B2 G2 H2 locs2 _ _ Y2 N1.1 N1.2.1 N1.2.2.1 N1.2.2.2.1 N1.2.2.2.2 PM2 DM2 AP2 IV2 (by omega) (by omega)
set_option maxHeartbeats 4000000 in
set_option maxRecDepth 100000 in
theorem law_21 {p : Program} {l : Launch} {e : Env} {s : State} {m : MethodId} {below : List Frame} {meth : Method} {c : Code} {b h xo cn0 tp n : Nat} {k : Int} {xs : Nat → Int32} {D : va_G} {E : cE} {T : cT} {κ : tK} {L : List Nat} {f : pF} {D2 : mD} {E2 : mE} {q : Nat → Nat} {I : Nat → Int32} {J : Nat → Int64} {B : Nat → Nat → Int32} {G : Nat → Nat → Int64} {H : Heap} {locs : List Loc} {cells slots : Nat} {ls : Array Slot} (C0 : lw_At p s m meth c b n xs) (hk0 : 0 ≤ k) (hk : 8 * k + 8 ≤ n) (hn : n ≤ 4096) (X : cX R_law p c code #[Value.ref b] s m D E) (KS : kS T (lA s) s s.heap) (KR : kR T s) (K2 : va_K D2.1 mCl (mTy E2) s) (Z2 : zS D2.2.1 D2.2.2.1 D2.2.2.2 (lA s) s s.heap) (R2 : zR D2.2.1 s) (Y : pH D cCl (lA s) s.heap L f H locs) (hw : tW E T κ L f) (kx : κ xo = (10, 0)) (c6 : gF f xo 6 = .ref cn0) (c3 : gF f cn0 3 = .ref tp) (c1 : gF f xo 1 = .ref tp) (PM : va_P D2.1 mCl (mW E2 h q I J B G) H) (DM : va_D (lA s) (mW E2 h q I J B G)) (AP : ∀ (k : Nat) (x : Nat × va_E), (mW E2 h q I J B G)[k]? = some x → x.1 ∉ L) (IV : LIv k I B) (hc : (cells : Int) ≤ 1000 + 3 * k) (hs : (slots : Int) ≤ 400000 + 4100 * k) (hl : lv_has ls 4 [(3, .int (iI (8 * k))), (2, .ref h), (1, .ref xo), (0, .ref b)]) (kk : ∀ (κ : tK) (L : List Nat) (f : pF) (I : Nat → Int32) (J : Nat → Int64) (B : Nat → Nat → Int32) (G : Nat → Nat → Int64) (H : Heap) (locs : List Loc) (cells slots : Nat), pH D cCl (lA s) s.heap L f H locs → tW E T κ L f → κ xo = (10, 0) → gF f xo 6 = .ref cn0 → gF f cn0 3 = .ref tp → gF f xo 1 = .ref tp → va_P D2.1 mCl (mW E2 h q I J B G) H → va_D (lA s) (mW E2 h q I J B G) → (∀ (k : Nat) (x : Nat × va_E), (mW E2 h q I J B G)[k]? = some x → x.1 ∉ L) → LIv (k + 1) I B → (cells : Int) ≤ 1000 + 3 * (k + 1) → (slots : Int) ≤ 400000 + 4100 * (k + 1) → W p l e room_1 s m #[Value.ref b] below meth c H locs cells slots (lw_Z below #[Value.ref b] s) (F0 m 1068 ls [])) : W p l e room_1 s m #[Value.ref b] below meth c H locs cells slots (lw_Z below #[Value.ref b] s) (F0 m 847 ls []) := by
  obtain ⟨hx, hb, hr, hml, hown, hts, hX, hbl, hlocks, hgv⟩ := id C0
  have hbA : ¬ lA s b := Nat.not_le.mpr hbl
  have hA : ∀ a, s.heap.size ≤ a → lA s a := fun _ h9 => h9
  obtain ⟨hT, f_P1, f_P2, f_FT, f_FA, f_V, cn, gcn, lcn, ucn⟩ := IV
  have S0 : tS E T (tFr κ L [] []) κ L f κ L f := tS_rf hw
  refine lv_aload_n hx hb d_law_847 rfl (lv_at hl 2 rfl) ?_
  refine lv_aload_n hx hb d_law_848 rfl (lv_at hl 3 rfl) ?_
  refine lv_iload_n hx hb d_law_849 rfl (lv_at hl 0 rfl) ?_
  refine lv_iconst (v := iI 1) hx hb d_law_850 (by decide) ?_
  refine z_iadd hx hb d_law_851 ?_
  refine va_sld hx hb hX hbl hbA Y.2.2 (iI_in (by omega) (by omega) (by omega)) d_law_852 ?_
  refine t_eq (iI_of _) ?_
  refine lv_aload_n hx hb d_law_853 rfl (lv_at hl 3 rfl) ?_
  refine lv_iload_n hx hb d_law_854 rfl (lv_at hl 0 rfl) ?_
  refine lv_iconst (v := iI 2) hx hb d_law_855 (by decide) ?_
  refine z_iadd hx hb d_law_856 ?_
  refine va_sld hx hb hX hbl hbA Y.2.2 (iI_in (by omega) (by omega) (by omega)) d_law_857 ?_
  refine t_eq (iI_of _) ?_
  refine lx_i (t_runV (As := [.int (iI (xs (iI (8 * k + 1)).toNatClampNeg).toInt), .int (iI (xs (iI (8 * k + 2)).toNatClampNeg).toInt)]) (rest := []) (n := 2) X Y S0 kx hml hl.1 (c_H_send l D E T κ L f H.size xo kx (xs (iI (8 * k + 1)).toNatClampNeg).toInt (iI_r _).1 (iI_r _).2 (xs (iI (8 * k + 2)).toNatClampNeg).toInt (iI_r _).1 (iI_r _).2 hw) (ok_k X Y hA KS KR) rfl kl_L_H_send ks_H_send kx_H_send ki_H_send ini_H ⟨rfl, rfl⟩ hd_H_send ⟨by decide, by decide⟩ rfl (Nat.le_of_ble_eq_true rfl) d_law_858 ⟨by show cells + 0 ≤ 600000; omega, by show slots + 0 ≤ 7302250; omega⟩) X Y hA PM AP (fun r1 u1 H1 locs1 hp1 Y1 PM1 AP1 => ?_)
  obtain ⟨L1, f1⟩ := u1
  dsimp only at Y1 AP1
  obtain ⟨e1, S1, z1, ez1, q1⟩ := hp1
  dsimp only at e1 S1
  subst e1
  have N1 := lc_next S1 hw kx c6 c3 c1 (by decide) (by decide)
  refine lv_pop hx hb d_law_861 rfl ?_
  refine lv_aload_n hx hb d_law_862 rfl (lv_at hl 1 rfl) ?_
  refine lv_aload_n hx hb d_law_863 rfl (lv_at hl 3 rfl) ?_
  refine lv_iload_n hx hb d_law_864 rfl (lv_at hl 0 rfl) ?_
  refine lv_iconst (v := iI 1) hx hb d_law_865 (by decide) ?_
  refine z_iadd hx hb d_law_866 ?_
  refine va_sld hx hb hX hbl hbA Y1.2.2 (iI_in (by omega) (by omega) (by omega)) d_law_867 ?_
  refine t_eq (iI_of _) ?_
  refine lv_aload_n hx hb d_law_868 rfl (lv_at hl 3 rfl) ?_
  refine lv_iload_n hx hb d_law_869 rfl (lv_at hl 0 rfl) ?_
  refine lv_iconst (v := iI 2) hx hb d_law_870 (by decide) ?_
  refine z_iadd hx hb d_law_871 ?_
  refine va_sld hx hb hX hbl hbA Y1.2.2 (iI_in (by omega) (by omega) (by omega)) d_law_872 ?_
  refine t_eq (iI_of _) ?_
  refine lm_i (As := [.int (iI (xs (iI (8 * k + 1)).toNatClampNeg).toInt), .int (iI (xs (iI (8 * k + 2)).toNatClampNeg).toInt)]) (rest := []) (n := 2) hx hb X.2.2.1 hown K2 Z2 R2 Y1 PM1 DM AP1 hA hml hl.1 (r_M_send l D2 E2 h q H1.size I J B G (xs (iI (8 * k + 1)).toNatClampNeg).toInt (iI_r _).1 (iI_r _).2 (xs (iI (8 * k + 2)).toNatClampNeg).toInt (iI_r _).1 (iI_r _).2 hT cn gcn (by omega) (by omega)) kl_L_M_send ks_M_send kx_M_send ki_M_send hd_M_send ⟨by decide, by decide⟩ rfl (Nat.le_of_ble_eq_true rfl) d_law_873 ⟨by show cells + 0 ≤ 600000; omega, by show slots + 0 ≤ 7302250; omega⟩ (fun r2 u2 H2 locs2 hp2 Y2 PM2 DM2 AP2 => ?_)
  obtain ⟨I2, J2, B2, G2⟩ := u2
  obtain ⟨S2, z2, ez2, q2⟩ := hp2
  dsimp only at S2 q2 PM2 DM2 AP2
  obtain ⟨lz, uz, xp⟩ := q2
  obtain ⟨v9, e9, l9, m9⟩ := xp
  have IV2 : LIv (k + 1) I2 B2 := ⟨S2.1, (pG1_cg (S2.2.1 39 (by decide)) (S2.2.1 40 (by decide)) f_P1), (pG2_cg (S2.2.2 37 (by decide)) (S2.2.2 38 (by decide)) f_P2), (stT_cg (S2.2.2 97 (by decide)) (S2.2.2 98 (by decide)) (S2.2.2 100 (by decide)) (S2.2.2 107 (by decide)) (S2.2.2 108 (by decide)) (S2.2.2 109 (by decide)) f_FT), (stA_cg (S2.2.2 110 (by decide)) (S2.2.2 118 (by decide)) (S2.2.2 119 (by decide)) (S2.2.2 120 (by decide)) f_FA), (vB_le (show 1 + k ≤ 1 + (k + 1) by omega) (vB_cg (S2.2.2 46 (by decide)) f_V)), ⟨v9, e9, by omega, by omega⟩⟩
  refine lv_pop hx hb d_law_876 rfl ?_
  refine lv_goto (tgt := 1068) hx hb d_law_877 (by decide) ?_
  exact kk κ L1 f1 I2 J2 B2 G2 H2 locs2 _ _ Y2 N1.1 N1.2.1 N1.2.2.1 N1.2.2.2.1 N1.2.2.2.2 PM2 DM2 AP2 IV2 (by omega) (by omega)
set_option maxHeartbeats 4000000 in
set_option maxRecDepth 100000 in
theorem law_22 {p : Program} {l : Launch} {e : Env} {s : State} {m : MethodId} {below : List Frame} {meth : Method} {c : Code} {b h xo cn0 tp n : Nat} {k : Int} {xs : Nat → Int32} {D : va_G} {E : cE} {T : cT} {κ : tK} {L : List Nat} {f : pF} {D2 : mD} {E2 : mE} {q : Nat → Nat} {I : Nat → Int32} {J : Nat → Int64} {B : Nat → Nat → Int32} {G : Nat → Nat → Int64} {H : Heap} {locs : List Loc} {cells slots : Nat} {ls : Array Slot} (C0 : lw_At p s m meth c b n xs) (hk0 : 0 ≤ k) (hk : 8 * k + 8 ≤ n) (hn : n ≤ 4096) (X : cX R_law p c code #[Value.ref b] s m D E) (KS : kS T (lA s) s s.heap) (KR : kR T s) (K2 : va_K D2.1 mCl (mTy E2) s) (Z2 : zS D2.2.1 D2.2.2.1 D2.2.2.2 (lA s) s s.heap) (R2 : zR D2.2.1 s) (Y : pH D cCl (lA s) s.heap L f H locs) (hw : tW E T κ L f) (kx : κ xo = (10, 0)) (c6 : gF f xo 6 = .ref cn0) (c3 : gF f cn0 3 = .ref tp) (c1 : gF f xo 1 = .ref tp) (PM : va_P D2.1 mCl (mW E2 h q I J B G) H) (DM : va_D (lA s) (mW E2 h q I J B G)) (AP : ∀ (k : Nat) (x : Nat × va_E), (mW E2 h q I J B G)[k]? = some x → x.1 ∉ L) (IV : LIv k I B) (hc : (cells : Int) ≤ 1000 + 3 * k) (hs : (slots : Int) ≤ 400000 + 4100 * k) (hl : lv_has ls 4 [(3, .int (iI (8 * k))), (2, .ref h), (1, .ref xo), (0, .ref b)]) (kk : ∀ (κ : tK) (L : List Nat) (f : pF) (I : Nat → Int32) (J : Nat → Int64) (B : Nat → Nat → Int32) (G : Nat → Nat → Int64) (H : Heap) (locs : List Loc) (cells slots : Nat), pH D cCl (lA s) s.heap L f H locs → tW E T κ L f → κ xo = (10, 0) → gF f xo 6 = .ref cn0 → gF f cn0 3 = .ref tp → gF f xo 1 = .ref tp → va_P D2.1 mCl (mW E2 h q I J B G) H → va_D (lA s) (mW E2 h q I J B G) → (∀ (k : Nat) (x : Nat × va_E), (mW E2 h q I J B G)[k]? = some x → x.1 ∉ L) → LIv (k + 1) I B → (cells : Int) ≤ 1000 + 3 * (k + 1) → (slots : Int) ≤ 400000 + 4100 * (k + 1) → W p l e room_1 s m #[Value.ref b] below meth c H locs cells slots (lw_Z below #[Value.ref b] s) (F0 m 1068 ls [])) : W p l e room_1 s m #[Value.ref b] below meth c H locs cells slots (lw_Z below #[Value.ref b] s) (F0 m 880 ls []) := by
  obtain ⟨hx, hb, hr, hml, hown, hts, hX, hbl, hlocks, hgv⟩ := id C0
  have hbA : ¬ lA s b := Nat.not_le.mpr hbl
  have hA : ∀ a, s.heap.size ≤ a → lA s a := fun _ h9 => h9
  obtain ⟨hT, f_P1, f_P2, f_FT, f_FA, f_V, cn, gcn, lcn, ucn⟩ := IV
  have S0 : tS E T (tFr κ L [] []) κ L f κ L f := tS_rf hw
  refine lv_aload_n hx hb d_law_880 rfl (lv_at hl 2 rfl) ?_
  refine lv_aload_n hx hb d_law_881 rfl (lv_at hl 3 rfl) ?_
  refine lv_iload_n hx hb d_law_882 rfl (lv_at hl 0 rfl) ?_
  refine lv_iconst (v := iI 1) hx hb d_law_883 (by decide) ?_
  refine z_iadd hx hb d_law_884 ?_
  refine va_sld hx hb hX hbl hbA Y.2.2 (iI_in (by omega) (by omega) (by omega)) d_law_885 ?_
  refine t_eq (iI_of _) ?_
  refine lv_aload_n hx hb d_law_886 rfl (lv_at hl 3 rfl) ?_
  refine lv_iload_n hx hb d_law_887 rfl (lv_at hl 0 rfl) ?_
  refine lv_iconst (v := iI 2) hx hb d_law_888 (by decide) ?_
  refine z_iadd hx hb d_law_889 ?_
  refine va_sld hx hb hX hbl hbA Y.2.2 (iI_in (by omega) (by omega) (by omega)) d_law_890 ?_
  refine t_eq (iI_of _) ?_
  refine lx_i (t_runV (As := [.int (iI (xs (iI (8 * k + 1)).toNatClampNeg).toInt), .int (iI (xs (iI (8 * k + 2)).toNatClampNeg).toInt)]) (rest := []) (n := 2) X Y S0 kx hml hl.1 (c_H_receive l D E T κ L f H.size xo kx (xs (iI (8 * k + 1)).toNatClampNeg).toInt (iI_r _).1 (iI_r _).2 (xs (iI (8 * k + 2)).toNatClampNeg).toInt (iI_r _).1 (iI_r _).2 hw) (ok_k X Y hA KS KR) rfl kl_L_H_receive ks_H_receive kx_H_receive ki_H_receive ini_H ⟨rfl, rfl⟩ hd_H_receive ⟨by decide, by decide⟩ rfl (Nat.le_of_ble_eq_true rfl) d_law_891 ⟨by show cells + 0 ≤ 600000; omega, by show slots + 0 ≤ 7302250; omega⟩) X Y hA PM AP (fun r1 u1 H1 locs1 hp1 Y1 PM1 AP1 => ?_)
  obtain ⟨L1, f1⟩ := u1
  dsimp only at Y1 AP1
  obtain ⟨e1, S1, z1, ez1, q1⟩ := hp1
  dsimp only at e1 S1
  subst e1
  have N1 := lc_next S1 hw kx c6 c3 c1 (by decide) (by decide)
  refine lv_pop hx hb d_law_894 rfl ?_
  refine lv_aload_n hx hb d_law_895 rfl (lv_at hl 1 rfl) ?_
  refine lv_aload_n hx hb d_law_896 rfl (lv_at hl 3 rfl) ?_
  refine lv_iload_n hx hb d_law_897 rfl (lv_at hl 0 rfl) ?_
  refine lv_iconst (v := iI 1) hx hb d_law_898 (by decide) ?_
  refine z_iadd hx hb d_law_899 ?_
  refine va_sld hx hb hX hbl hbA Y1.2.2 (iI_in (by omega) (by omega) (by omega)) d_law_900 ?_
  refine t_eq (iI_of _) ?_
  refine lv_aload_n hx hb d_law_901 rfl (lv_at hl 3 rfl) ?_
  refine lv_iload_n hx hb d_law_902 rfl (lv_at hl 0 rfl) ?_
  refine lv_iconst (v := iI 2) hx hb d_law_903 (by decide) ?_
  refine z_iadd hx hb d_law_904 ?_
  refine va_sld hx hb hX hbl hbA Y1.2.2 (iI_in (by omega) (by omega) (by omega)) d_law_905 ?_
  refine t_eq (iI_of _) ?_
  refine lm_i (As := [.int (iI (xs (iI (8 * k + 1)).toNatClampNeg).toInt), .int (iI (xs (iI (8 * k + 2)).toNatClampNeg).toInt)]) (rest := []) (n := 2) hx hb X.2.2.1 hown K2 Z2 R2 Y1 PM1 DM AP1 hA hml hl.1 (r_M_receive l D2 E2 h q H1.size I J B G (xs (iI (8 * k + 1)).toNatClampNeg).toInt (iI_r _).1 (iI_r _).2 (xs (iI (8 * k + 2)).toNatClampNeg).toInt (iI_r _).1 (iI_r _).2 hT f_P1 f_P2) kl_L_M_receive ks_M_receive kx_M_receive ki_M_receive hd_M_receive ⟨by decide, by decide⟩ rfl (Nat.le_of_ble_eq_true rfl) d_law_906 ⟨by show cells + 0 ≤ 600000; omega, by show slots + 0 ≤ 7302250; omega⟩ (fun r2 u2 H2 locs2 hp2 Y2 PM2 DM2 AP2 => ?_)
  obtain ⟨I2, J2, B2, G2⟩ := u2
  obtain ⟨S2, z2, ez2, q2⟩ := hp2
  dsimp only at S2 q2 PM2 DM2 AP2
  obtain ⟨lz, uz, g_P1, g_P2⟩ := q2
  have IV2 : LIv (k + 1) I2 B2 := ⟨S2.1, g_P1, g_P2, (stT_cg (S2.2.2 97 (by decide)) (S2.2.2 98 (by decide)) (S2.2.2 100 (by decide)) (S2.2.2 107 (by decide)) (S2.2.2 108 (by decide)) (S2.2.2 109 (by decide)) f_FT), (stA_cg (S2.2.2 110 (by decide)) (S2.2.2 118 (by decide)) (S2.2.2 119 (by decide)) (S2.2.2 120 (by decide)) f_FA), (vB_le (show 1 + k ≤ 1 + (k + 1) by omega) (vB_cg (S2.2.2 46 (by decide)) f_V)), ⟨cn, (S2.2.1 33 (by decide)).trans gcn, by omega, by omega⟩⟩
  refine lv_pop hx hb d_law_909 rfl ?_
  refine lv_goto (tgt := 1068) hx hb d_law_910 (by decide) ?_
  exact kk κ L1 f1 I2 J2 B2 G2 H2 locs2 _ _ Y2 N1.1 N1.2.1 N1.2.2.1 N1.2.2.2.1 N1.2.2.2.2 PM2 DM2 AP2 IV2 (by omega) (by omega)
set_option maxHeartbeats 4000000 in
set_option maxRecDepth 100000 in
theorem law_23 {p : Program} {l : Launch} {e : Env} {s : State} {m : MethodId} {below : List Frame} {meth : Method} {c : Code} {b h xo cn0 tp n : Nat} {k : Int} {xs : Nat → Int32} {D : va_G} {E : cE} {T : cT} {κ : tK} {L : List Nat} {f : pF} {D2 : mD} {E2 : mE} {q : Nat → Nat} {I : Nat → Int32} {J : Nat → Int64} {B : Nat → Nat → Int32} {G : Nat → Nat → Int64} {H : Heap} {locs : List Loc} {cells slots : Nat} {ls : Array Slot} (C0 : lw_At p s m meth c b n xs) (hk0 : 0 ≤ k) (hk : 8 * k + 8 ≤ n) (hn : n ≤ 4096) (X : cX R_law p c code #[Value.ref b] s m D E) (KS : kS T (lA s) s s.heap) (KR : kR T s) (K2 : va_K D2.1 mCl (mTy E2) s) (Z2 : zS D2.2.1 D2.2.2.1 D2.2.2.2 (lA s) s s.heap) (R2 : zR D2.2.1 s) (Y : pH D cCl (lA s) s.heap L f H locs) (hw : tW E T κ L f) (kx : κ xo = (10, 0)) (c6 : gF f xo 6 = .ref cn0) (c3 : gF f cn0 3 = .ref tp) (c1 : gF f xo 1 = .ref tp) (PM : va_P D2.1 mCl (mW E2 h q I J B G) H) (DM : va_D (lA s) (mW E2 h q I J B G)) (AP : ∀ (k : Nat) (x : Nat × va_E), (mW E2 h q I J B G)[k]? = some x → x.1 ∉ L) (IV : LIv k I B) (hc : (cells : Int) ≤ 1000 + 3 * k) (hs : (slots : Int) ≤ 400000 + 4100 * k) (hl : lv_has ls 4 [(3, .int (iI (8 * k))), (2, .ref h), (1, .ref xo), (0, .ref b)]) (kk : ∀ (κ : tK) (L : List Nat) (f : pF) (I : Nat → Int32) (J : Nat → Int64) (B : Nat → Nat → Int32) (G : Nat → Nat → Int64) (H : Heap) (locs : List Loc) (cells slots : Nat), pH D cCl (lA s) s.heap L f H locs → tW E T κ L f → κ xo = (10, 0) → gF f xo 6 = .ref cn0 → gF f cn0 3 = .ref tp → gF f xo 1 = .ref tp → va_P D2.1 mCl (mW E2 h q I J B G) H → va_D (lA s) (mW E2 h q I J B G) → (∀ (k : Nat) (x : Nat × va_E), (mW E2 h q I J B G)[k]? = some x → x.1 ∉ L) → LIv (k + 1) I B → (cells : Int) ≤ 1000 + 3 * (k + 1) → (slots : Int) ≤ 400000 + 4100 * (k + 1) → W p l e room_1 s m #[Value.ref b] below meth c H locs cells slots (lw_Z below #[Value.ref b] s) (F0 m 1068 ls [])) : W p l e room_1 s m #[Value.ref b] below meth c H locs cells slots (lw_Z below #[Value.ref b] s) (F0 m 913 ls []) := by
  obtain ⟨hx, hb, hr, hml, hown, hts, hX, hbl, hlocks, hgv⟩ := id C0
  have hbA : ¬ lA s b := Nat.not_le.mpr hbl
  have hA : ∀ a, s.heap.size ≤ a → lA s a := fun _ h9 => h9
  obtain ⟨hT, f_P1, f_P2, f_FT, f_FA, f_V, cn, gcn, lcn, ucn⟩ := IV
  have S0 : tS E T (tFr κ L [] []) κ L f κ L f := tS_rf hw
  refine lv_aload_n hx hb d_law_913 rfl (lv_at hl 2 rfl) ?_
  refine lv_aload_n hx hb d_law_914 rfl (lv_at hl 3 rfl) ?_
  refine lv_iload_n hx hb d_law_915 rfl (lv_at hl 0 rfl) ?_
  refine lv_iconst (v := iI 1) hx hb d_law_916 (by decide) ?_
  refine z_iadd hx hb d_law_917 ?_
  refine va_sld hx hb hX hbl hbA Y.2.2 (iI_in (by omega) (by omega) (by omega)) d_law_918 ?_
  refine t_eq (iI_of _) ?_
  refine lx_i (t_runV (As := [.int (iI (xs (iI (8 * k + 1)).toNatClampNeg).toInt)]) (rest := []) (n := 1) X Y S0 kx hml hl.1 (c_H_ends l D E T κ L f H.size xo kx (xs (iI (8 * k + 1)).toNatClampNeg).toInt (iI_r _).1 (iI_r _).2 hw) (ok_k X Y hA KS KR) rfl kl_L_H_ends ks_H_ends kx_H_ends ki_H_ends ini_H ⟨rfl, rfl⟩ hd_H_ends ⟨by decide, by decide⟩ rfl (Nat.le_of_ble_eq_true rfl) d_law_919 ⟨by show cells + 0 ≤ 600000; omega, by show slots + 0 ≤ 7302250; omega⟩) X Y hA PM AP (fun r1 u1 H1 locs1 hp1 Y1 PM1 AP1 => ?_)
  obtain ⟨L1, f1⟩ := u1
  dsimp only at Y1 AP1
  obtain ⟨e1, S1, z1, ez1, q1⟩ := hp1
  dsimp only at e1 S1
  subst e1
  have N1 := lc_next S1 hw kx c6 c3 c1 (by decide) (by decide)
  refine lv_pop hx hb d_law_922 rfl ?_
  refine lv_aload_n hx hb d_law_923 rfl (lv_at hl 1 rfl) ?_
  refine lv_aload_n hx hb d_law_924 rfl (lv_at hl 3 rfl) ?_
  refine lv_iload_n hx hb d_law_925 rfl (lv_at hl 0 rfl) ?_
  refine lv_iconst (v := iI 1) hx hb d_law_926 (by decide) ?_
  refine z_iadd hx hb d_law_927 ?_
  refine va_sld hx hb hX hbl hbA Y1.2.2 (iI_in (by omega) (by omega) (by omega)) d_law_928 ?_
  refine t_eq (iI_of _) ?_
  refine lm_i (As := [.int (iI (xs (iI (8 * k + 1)).toNatClampNeg).toInt)]) (rest := []) (n := 1) hx hb X.2.2.1 hown K2 Z2 R2 Y1 PM1 DM AP1 hA hml hl.1 (r_M_ends l D2 E2 h q H1.size I J B G (xs (iI (8 * k + 1)).toNatClampNeg).toInt (iI_r _).1 (iI_r _).2 hT) kl_L_M_ends ks_M_ends kx_M_ends ki_M_ends hd_M_ends ⟨by decide, by decide⟩ rfl (Nat.le_of_ble_eq_true rfl) d_law_929 ⟨by show cells + 0 ≤ 600000; omega, by show slots + 0 ≤ 7302250; omega⟩ (fun r2 u2 H2 locs2 hp2 Y2 PM2 DM2 AP2 => ?_)
  obtain ⟨I2, J2, B2, G2⟩ := u2
  obtain ⟨S2, z2, ez2, q2⟩ := hp2
  dsimp only at S2 q2 PM2 DM2 AP2
  obtain ⟨lz, uz⟩ := q2
  have IV2 : LIv (k + 1) I2 B2 := ⟨S2.1, (pG1_cg (S2.2.1 39 (by decide)) (S2.2.1 40 (by decide)) f_P1), (pG2_cg (S2.2.2 37 (by decide)) (S2.2.2 38 (by decide)) f_P2), (stT_cg (S2.2.2 97 (by decide)) (S2.2.2 98 (by decide)) (S2.2.2 100 (by decide)) (S2.2.2 107 (by decide)) (S2.2.2 108 (by decide)) (S2.2.2 109 (by decide)) f_FT), (stA_cg (S2.2.2 110 (by decide)) (S2.2.2 118 (by decide)) (S2.2.2 119 (by decide)) (S2.2.2 120 (by decide)) f_FA), (vB_le (show 1 + k ≤ 1 + (k + 1) by omega) (vB_cg (S2.2.2 46 (by decide)) f_V)), ⟨cn, (S2.2.1 33 (by decide)).trans gcn, by omega, by omega⟩⟩
  refine lv_pop hx hb d_law_932 rfl ?_
  refine lv_goto (tgt := 1068) hx hb d_law_933 (by decide) ?_
  exact kk κ L1 f1 I2 J2 B2 G2 H2 locs2 _ _ Y2 N1.1 N1.2.1 N1.2.2.1 N1.2.2.2.1 N1.2.2.2.2 PM2 DM2 AP2 IV2 (by omega) (by omega)
set_option maxHeartbeats 4000000 in
set_option maxRecDepth 100000 in
theorem law_24 {p : Program} {l : Launch} {e : Env} {s : State} {m : MethodId} {below : List Frame} {meth : Method} {c : Code} {b h xo cn0 tp n : Nat} {k : Int} {xs : Nat → Int32} {D : va_G} {E : cE} {T : cT} {κ : tK} {L : List Nat} {f : pF} {D2 : mD} {E2 : mE} {q : Nat → Nat} {I : Nat → Int32} {J : Nat → Int64} {B : Nat → Nat → Int32} {G : Nat → Nat → Int64} {H : Heap} {locs : List Loc} {cells slots : Nat} {ls : Array Slot} (C0 : lw_At p s m meth c b n xs) (hk0 : 0 ≤ k) (hk : 8 * k + 8 ≤ n) (hn : n ≤ 4096) (X : cX R_law p c code #[Value.ref b] s m D E) (KS : kS T (lA s) s s.heap) (KR : kR T s) (K2 : va_K D2.1 mCl (mTy E2) s) (Z2 : zS D2.2.1 D2.2.2.1 D2.2.2.2 (lA s) s s.heap) (R2 : zR D2.2.1 s) (Y : pH D cCl (lA s) s.heap L f H locs) (hw : tW E T κ L f) (kx : κ xo = (10, 0)) (c6 : gF f xo 6 = .ref cn0) (c3 : gF f cn0 3 = .ref tp) (c1 : gF f xo 1 = .ref tp) (PM : va_P D2.1 mCl (mW E2 h q I J B G) H) (DM : va_D (lA s) (mW E2 h q I J B G)) (AP : ∀ (k : Nat) (x : Nat × va_E), (mW E2 h q I J B G)[k]? = some x → x.1 ∉ L) (IV : LIv k I B) (hc : (cells : Int) ≤ 1000 + 3 * k) (hs : (slots : Int) ≤ 400000 + 4100 * k) (hl : lv_has ls 4 [(3, .int (iI (8 * k))), (2, .ref h), (1, .ref xo), (0, .ref b)]) (kk : ∀ (κ : tK) (L : List Nat) (f : pF) (I : Nat → Int32) (J : Nat → Int64) (B : Nat → Nat → Int32) (G : Nat → Nat → Int64) (H : Heap) (locs : List Loc) (cells slots : Nat), pH D cCl (lA s) s.heap L f H locs → tW E T κ L f → κ xo = (10, 0) → gF f xo 6 = .ref cn0 → gF f cn0 3 = .ref tp → gF f xo 1 = .ref tp → va_P D2.1 mCl (mW E2 h q I J B G) H → va_D (lA s) (mW E2 h q I J B G) → (∀ (k : Nat) (x : Nat × va_E), (mW E2 h q I J B G)[k]? = some x → x.1 ∉ L) → LIv (k + 1) I B → (cells : Int) ≤ 1000 + 3 * (k + 1) → (slots : Int) ≤ 400000 + 4100 * (k + 1) → W p l e room_1 s m #[Value.ref b] below meth c H locs cells slots (lw_Z below #[Value.ref b] s) (F0 m 1068 ls [])) : W p l e room_1 s m #[Value.ref b] below meth c H locs cells slots (lw_Z below #[Value.ref b] s) (F0 m 936 ls []) := by
  obtain ⟨hx, hb, hr, hml, hown, hts, hX, hbl, hlocks, hgv⟩ := id C0
  have hbA : ¬ lA s b := Nat.not_le.mpr hbl
  have hA : ∀ a, s.heap.size ≤ a → lA s a := fun _ h9 => h9
  obtain ⟨hT, f_P1, f_P2, f_FT, f_FA, f_V, cn, gcn, lcn, ucn⟩ := IV
  have S0 : tS E T (tFr κ L [] []) κ L f κ L f := tS_rf hw
  refine lv_aload_n hx hb d_law_936 rfl (lv_at hl 2 rfl) ?_
  refine lv_aload_n hx hb d_law_937 rfl (lv_at hl 3 rfl) ?_
  refine lv_iload_n hx hb d_law_938 rfl (lv_at hl 0 rfl) ?_
  refine lv_iconst (v := iI 1) hx hb d_law_939 (by decide) ?_
  refine z_iadd hx hb d_law_940 ?_
  refine va_sld hx hb hX hbl hbA Y.2.2 (iI_in (by omega) (by omega) (by omega)) d_law_941 ?_
  refine t_eq (iI_of _) ?_
  refine lv_aload_n hx hb d_law_942 rfl (lv_at hl 3 rfl) ?_
  refine lv_iload_n hx hb d_law_943 rfl (lv_at hl 0 rfl) ?_
  refine lv_iconst (v := iI 2) hx hb d_law_944 (by decide) ?_
  refine z_iadd hx hb d_law_945 ?_
  refine va_sld hx hb hX hbl hbA Y.2.2 (iI_in (by omega) (by omega) (by omega)) d_law_946 ?_
  refine t_eq (iI_of _) ?_
  refine lx_i (t_runV (As := [.int (iI (xs (iI (8 * k + 1)).toNatClampNeg).toInt), .int (iI (xs (iI (8 * k + 2)).toNatClampNeg).toInt)]) (rest := []) (n := 2) X Y S0 kx hml hl.1 (c_H_assure l D E T κ L f H.size xo kx (xs (iI (8 * k + 1)).toNatClampNeg).toInt (iI_r _).1 (iI_r _).2 (xs (iI (8 * k + 2)).toNatClampNeg).toInt (iI_r _).1 (iI_r _).2 hw) (ok_k X Y hA KS KR) rfl kl_L_H_assure ks_H_assure kx_H_assure ki_H_assure ini_H ⟨rfl, rfl⟩ hd_H_assure ⟨by decide, by decide⟩ rfl (Nat.le_of_ble_eq_true rfl) d_law_947 ⟨by show cells + 0 ≤ 600000; omega, by show slots + 0 ≤ 7302250; omega⟩) X Y hA PM AP (fun r1 u1 H1 locs1 hp1 Y1 PM1 AP1 => ?_)
  obtain ⟨L1, f1⟩ := u1
  dsimp only at Y1 AP1
  obtain ⟨e1, S1, z1, ez1, q1⟩ := hp1
  dsimp only at e1 S1
  subst e1
  have N1 := lc_next S1 hw kx c6 c3 c1 (by decide) (by decide)
  refine lv_pop hx hb d_law_950 rfl ?_
  refine lv_aload_n hx hb d_law_951 rfl (lv_at hl 1 rfl) ?_
  refine lv_aload_n hx hb d_law_952 rfl (lv_at hl 3 rfl) ?_
  refine lv_iload_n hx hb d_law_953 rfl (lv_at hl 0 rfl) ?_
  refine lv_iconst (v := iI 1) hx hb d_law_954 (by decide) ?_
  refine z_iadd hx hb d_law_955 ?_
  refine va_sld hx hb hX hbl hbA Y1.2.2 (iI_in (by omega) (by omega) (by omega)) d_law_956 ?_
  refine t_eq (iI_of _) ?_
  refine lv_aload_n hx hb d_law_957 rfl (lv_at hl 3 rfl) ?_
  refine lv_iload_n hx hb d_law_958 rfl (lv_at hl 0 rfl) ?_
  refine lv_iconst (v := iI 2) hx hb d_law_959 (by decide) ?_
  refine z_iadd hx hb d_law_960 ?_
  refine va_sld hx hb hX hbl hbA Y1.2.2 (iI_in (by omega) (by omega) (by omega)) d_law_961 ?_
  refine t_eq (iI_of _) ?_
  refine lm_i (As := [.int (iI (xs (iI (8 * k + 1)).toNatClampNeg).toInt), .int (iI (xs (iI (8 * k + 2)).toNatClampNeg).toInt)]) (rest := []) (n := 2) hx hb X.2.2.1 hown K2 Z2 R2 Y1 PM1 DM AP1 hA hml hl.1 (r_M_assure l D2 E2 h q H1.size I J B G (xs (iI (8 * k + 1)).toNatClampNeg).toInt (iI_r _).1 (iI_r _).2 (xs (iI (8 * k + 2)).toNatClampNeg).toInt (iI_r _).1 (iI_r _).2 hT) kl_L_M_assure ks_M_assure kx_M_assure ki_M_assure hd_M_assure ⟨by decide, by decide⟩ rfl (Nat.le_of_ble_eq_true rfl) d_law_962 ⟨by show cells + 0 ≤ 600000; omega, by show slots + 0 ≤ 7302250; omega⟩ (fun r2 u2 H2 locs2 hp2 Y2 PM2 DM2 AP2 => ?_)
  obtain ⟨I2, J2, B2, G2⟩ := u2
  obtain ⟨S2, z2, ez2, q2⟩ := hp2
  dsimp only at S2 q2 PM2 DM2 AP2
  obtain ⟨lz, uz⟩ := q2
  have IV2 : LIv (k + 1) I2 B2 := ⟨S2.1, (pG1_cg (S2.2.1 39 (by decide)) (S2.2.1 40 (by decide)) f_P1), (pG2_cg (S2.2.2 37 (by decide)) (S2.2.2 38 (by decide)) f_P2), (stT_cg (S2.2.2 97 (by decide)) (S2.2.2 98 (by decide)) (S2.2.2 100 (by decide)) (S2.2.2 107 (by decide)) (S2.2.2 108 (by decide)) (S2.2.2 109 (by decide)) f_FT), (stA_cg (S2.2.2 110 (by decide)) (S2.2.2 118 (by decide)) (S2.2.2 119 (by decide)) (S2.2.2 120 (by decide)) f_FA), (vB_le (show 1 + k ≤ 1 + (k + 1) by omega) (vB_cg (S2.2.2 46 (by decide)) f_V)), ⟨cn, (S2.2.1 33 (by decide)).trans gcn, by omega, by omega⟩⟩
  refine lv_pop hx hb d_law_965 rfl ?_
  refine lv_goto (tgt := 1068) hx hb d_law_966 (by decide) ?_
  exact kk κ L1 f1 I2 J2 B2 G2 H2 locs2 _ _ Y2 N1.1 N1.2.1 N1.2.2.1 N1.2.2.2.1 N1.2.2.2.2 PM2 DM2 AP2 IV2 (by omega) (by omega)
set_option maxHeartbeats 4000000 in
set_option maxRecDepth 100000 in
theorem law_25 {p : Program} {l : Launch} {e : Env} {s : State} {m : MethodId} {below : List Frame} {meth : Method} {c : Code} {b h xo cn0 tp n : Nat} {k : Int} {xs : Nat → Int32} {D : va_G} {E : cE} {T : cT} {κ : tK} {L : List Nat} {f : pF} {D2 : mD} {E2 : mE} {q : Nat → Nat} {I : Nat → Int32} {J : Nat → Int64} {B : Nat → Nat → Int32} {G : Nat → Nat → Int64} {H : Heap} {locs : List Loc} {cells slots : Nat} {ls : Array Slot} (C0 : lw_At p s m meth c b n xs) (hk0 : 0 ≤ k) (hk : 8 * k + 8 ≤ n) (hn : n ≤ 4096) (X : cX R_law p c code #[Value.ref b] s m D E) (KS : kS T (lA s) s s.heap) (KR : kR T s) (K2 : va_K D2.1 mCl (mTy E2) s) (Z2 : zS D2.2.1 D2.2.2.1 D2.2.2.2 (lA s) s s.heap) (R2 : zR D2.2.1 s) (Y : pH D cCl (lA s) s.heap L f H locs) (hw : tW E T κ L f) (kx : κ xo = (10, 0)) (c6 : gF f xo 6 = .ref cn0) (c3 : gF f cn0 3 = .ref tp) (c1 : gF f xo 1 = .ref tp) (PM : va_P D2.1 mCl (mW E2 h q I J B G) H) (DM : va_D (lA s) (mW E2 h q I J B G)) (AP : ∀ (k : Nat) (x : Nat × va_E), (mW E2 h q I J B G)[k]? = some x → x.1 ∉ L) (IV : LIv k I B) (hc : (cells : Int) ≤ 1000 + 3 * k) (hs : (slots : Int) ≤ 400000 + 4100 * k) (hl : lv_has ls 4 [(3, .int (iI (8 * k))), (2, .ref h), (1, .ref xo), (0, .ref b)]) (kk : ∀ (κ : tK) (L : List Nat) (f : pF) (I : Nat → Int32) (J : Nat → Int64) (B : Nat → Nat → Int32) (G : Nat → Nat → Int64) (H : Heap) (locs : List Loc) (cells slots : Nat), pH D cCl (lA s) s.heap L f H locs → tW E T κ L f → κ xo = (10, 0) → gF f xo 6 = .ref cn0 → gF f cn0 3 = .ref tp → gF f xo 1 = .ref tp → va_P D2.1 mCl (mW E2 h q I J B G) H → va_D (lA s) (mW E2 h q I J B G) → (∀ (k : Nat) (x : Nat × va_E), (mW E2 h q I J B G)[k]? = some x → x.1 ∉ L) → LIv (k + 1) I B → (cells : Int) ≤ 1000 + 3 * (k + 1) → (slots : Int) ≤ 400000 + 4100 * (k + 1) → W p l e room_1 s m #[Value.ref b] below meth c H locs cells slots (lw_Z below #[Value.ref b] s) (F0 m 1068 ls [])) : W p l e room_1 s m #[Value.ref b] below meth c H locs cells slots (lw_Z below #[Value.ref b] s) (F0 m 969 ls []) := by
  obtain ⟨hx, hb, hr, hml, hown, hts, hX, hbl, hlocks, hgv⟩ := id C0
  have hbA : ¬ lA s b := Nat.not_le.mpr hbl
  have hA : ∀ a, s.heap.size ≤ a → lA s a := fun _ h9 => h9
  obtain ⟨hT, f_P1, f_P2, f_FT, f_FA, f_V, cn, gcn, lcn, ucn⟩ := IV
  have S0 : tS E T (tFr κ L [] []) κ L f κ L f := tS_rf hw
  refine lv_aload_n hx hb d_law_969 rfl (lv_at hl 2 rfl) ?_
  refine lv_aload_n hx hb d_law_970 rfl (lv_at hl 3 rfl) ?_
  refine lv_iload_n hx hb d_law_971 rfl (lv_at hl 0 rfl) ?_
  refine lv_iconst (v := iI 1) hx hb d_law_972 (by decide) ?_
  refine z_iadd hx hb d_law_973 ?_
  refine va_sld hx hb hX hbl hbA Y.2.2 (iI_in (by omega) (by omega) (by omega)) d_law_974 ?_
  refine t_eq (iI_of _) ?_
  refine lv_aload_n hx hb d_law_975 rfl (lv_at hl 3 rfl) ?_
  refine lv_iload_n hx hb d_law_976 rfl (lv_at hl 0 rfl) ?_
  refine lv_iconst (v := iI 2) hx hb d_law_977 (by decide) ?_
  refine z_iadd hx hb d_law_978 ?_
  refine va_sld hx hb hX hbl hbA Y.2.2 (iI_in (by omega) (by omega) (by omega)) d_law_979 ?_
  refine t_eq (iI_of _) ?_
  refine lx_i (t_runV (As := [.int (iI (xs (iI (8 * k + 1)).toNatClampNeg).toInt), .int (iI (xs (iI (8 * k + 2)).toNatClampNeg).toInt)]) (rest := []) (n := 2) X Y S0 kx hml hl.1 (c_H_assured l D E T κ L f H.size xo kx (xs (iI (8 * k + 1)).toNatClampNeg).toInt (iI_r _).1 (iI_r _).2 (xs (iI (8 * k + 2)).toNatClampNeg).toInt (iI_r _).1 (iI_r _).2 hw) (ok_k X Y hA KS KR) rfl kl_L_H_assured ks_H_assured kx_H_assured ki_H_assured ini_H ⟨rfl, rfl⟩ hd_H_assured ⟨by decide, by decide⟩ rfl (Nat.le_of_ble_eq_true rfl) d_law_980 ⟨by show cells + 0 ≤ 600000; omega, by show slots + 0 ≤ 7302250; omega⟩) X Y hA PM AP (fun r1 u1 H1 locs1 hp1 Y1 PM1 AP1 => ?_)
  obtain ⟨L1, f1⟩ := u1
  dsimp only at Y1 AP1
  obtain ⟨e1, S1, z1, ez1, q1⟩ := hp1
  dsimp only at e1 S1
  subst e1
  have N1 := lc_next S1 hw kx c6 c3 c1 (by decide) (by decide)
  refine lv_pop hx hb d_law_983 rfl ?_
  refine lv_aload_n hx hb d_law_984 rfl (lv_at hl 1 rfl) ?_
  refine lv_aload_n hx hb d_law_985 rfl (lv_at hl 3 rfl) ?_
  refine lv_iload_n hx hb d_law_986 rfl (lv_at hl 0 rfl) ?_
  refine lv_iconst (v := iI 1) hx hb d_law_987 (by decide) ?_
  refine z_iadd hx hb d_law_988 ?_
  refine va_sld hx hb hX hbl hbA Y1.2.2 (iI_in (by omega) (by omega) (by omega)) d_law_989 ?_
  refine t_eq (iI_of _) ?_
  refine lv_aload_n hx hb d_law_990 rfl (lv_at hl 3 rfl) ?_
  refine lv_iload_n hx hb d_law_991 rfl (lv_at hl 0 rfl) ?_
  refine lv_iconst (v := iI 2) hx hb d_law_992 (by decide) ?_
  refine z_iadd hx hb d_law_993 ?_
  refine va_sld hx hb hX hbl hbA Y1.2.2 (iI_in (by omega) (by omega) (by omega)) d_law_994 ?_
  refine t_eq (iI_of _) ?_
  refine lm_i (As := [.int (iI (xs (iI (8 * k + 1)).toNatClampNeg).toInt), .int (iI (xs (iI (8 * k + 2)).toNatClampNeg).toInt)]) (rest := []) (n := 2) hx hb X.2.2.1 hown K2 Z2 R2 Y1 PM1 DM AP1 hA hml hl.1 (r_M_assured l D2 E2 h q H1.size I J B G (xs (iI (8 * k + 1)).toNatClampNeg).toInt (iI_r _).1 (iI_r _).2 (xs (iI (8 * k + 2)).toNatClampNeg).toInt (iI_r _).1 (iI_r _).2 hT f_P1 f_P2) kl_L_M_assured ks_M_assured kx_M_assured ki_M_assured hd_M_assured ⟨by decide, by decide⟩ rfl (Nat.le_of_ble_eq_true rfl) d_law_995 ⟨by show cells + 0 ≤ 600000; omega, by show slots + 0 ≤ 7302250; omega⟩ (fun r2 u2 H2 locs2 hp2 Y2 PM2 DM2 AP2 => ?_)
  obtain ⟨I2, J2, B2, G2⟩ := u2
  obtain ⟨S2, z2, ez2, q2⟩ := hp2
  dsimp only at S2 q2 PM2 DM2 AP2
  obtain ⟨lz, uz, g_P1, g_P2⟩ := q2
  have IV2 : LIv (k + 1) I2 B2 := ⟨S2.1, g_P1, g_P2, (stT_cg (S2.2.2 97 (by decide)) (S2.2.2 98 (by decide)) (S2.2.2 100 (by decide)) (S2.2.2 107 (by decide)) (S2.2.2 108 (by decide)) (S2.2.2 109 (by decide)) f_FT), (stA_cg (S2.2.2 110 (by decide)) (S2.2.2 118 (by decide)) (S2.2.2 119 (by decide)) (S2.2.2 120 (by decide)) f_FA), (vB_le (show 1 + k ≤ 1 + (k + 1) by omega) (vB_cg (S2.2.2 46 (by decide)) f_V)), ⟨cn, (S2.2.1 33 (by decide)).trans gcn, by omega, by omega⟩⟩
  refine lv_pop hx hb d_law_998 rfl ?_
  refine lv_goto (tgt := 1068) hx hb d_law_999 (by decide) ?_
  exact kk κ L1 f1 I2 J2 B2 G2 H2 locs2 _ _ Y2 N1.1 N1.2.1 N1.2.2.1 N1.2.2.2.1 N1.2.2.2.2 PM2 DM2 AP2 IV2 (by omega) (by omega)
set_option maxHeartbeats 4000000 in
set_option maxRecDepth 100000 in
theorem law_26 {p : Program} {l : Launch} {e : Env} {s : State} {m : MethodId} {below : List Frame} {meth : Method} {c : Code} {b h xo cn0 tp n : Nat} {k : Int} {xs : Nat → Int32} {D : va_G} {E : cE} {T : cT} {κ : tK} {L : List Nat} {f : pF} {D2 : mD} {E2 : mE} {q : Nat → Nat} {I : Nat → Int32} {J : Nat → Int64} {B : Nat → Nat → Int32} {G : Nat → Nat → Int64} {H : Heap} {locs : List Loc} {cells slots : Nat} {ls : Array Slot} (C0 : lw_At p s m meth c b n xs) (hk0 : 0 ≤ k) (hk : 8 * k + 8 ≤ n) (hn : n ≤ 4096) (X : cX R_law p c code #[Value.ref b] s m D E) (KS : kS T (lA s) s s.heap) (KR : kR T s) (K2 : va_K D2.1 mCl (mTy E2) s) (Z2 : zS D2.2.1 D2.2.2.1 D2.2.2.2 (lA s) s s.heap) (R2 : zR D2.2.1 s) (Y : pH D cCl (lA s) s.heap L f H locs) (hw : tW E T κ L f) (kx : κ xo = (10, 0)) (c6 : gF f xo 6 = .ref cn0) (c3 : gF f cn0 3 = .ref tp) (c1 : gF f xo 1 = .ref tp) (PM : va_P D2.1 mCl (mW E2 h q I J B G) H) (DM : va_D (lA s) (mW E2 h q I J B G)) (AP : ∀ (k : Nat) (x : Nat × va_E), (mW E2 h q I J B G)[k]? = some x → x.1 ∉ L) (IV : LIv k I B) (hc : (cells : Int) ≤ 1000 + 3 * k) (hs : (slots : Int) ≤ 400000 + 4100 * k) (hl : lv_has ls 4 [(3, .int (iI (8 * k))), (2, .ref h), (1, .ref xo), (0, .ref b)]) (kk : ∀ (κ : tK) (L : List Nat) (f : pF) (I : Nat → Int32) (J : Nat → Int64) (B : Nat → Nat → Int32) (G : Nat → Nat → Int64) (H : Heap) (locs : List Loc) (cells slots : Nat), pH D cCl (lA s) s.heap L f H locs → tW E T κ L f → κ xo = (10, 0) → gF f xo 6 = .ref cn0 → gF f cn0 3 = .ref tp → gF f xo 1 = .ref tp → va_P D2.1 mCl (mW E2 h q I J B G) H → va_D (lA s) (mW E2 h q I J B G) → (∀ (k : Nat) (x : Nat × va_E), (mW E2 h q I J B G)[k]? = some x → x.1 ∉ L) → LIv (k + 1) I B → (cells : Int) ≤ 1000 + 3 * (k + 1) → (slots : Int) ≤ 400000 + 4100 * (k + 1) → W p l e room_1 s m #[Value.ref b] below meth c H locs cells slots (lw_Z below #[Value.ref b] s) (F0 m 1068 ls [])) : W p l e room_1 s m #[Value.ref b] below meth c H locs cells slots (lw_Z below #[Value.ref b] s) (F0 m 1002 ls []) := by
  obtain ⟨hx, hb, hr, hml, hown, hts, hX, hbl, hlocks, hgv⟩ := id C0
  have hbA : ¬ lA s b := Nat.not_le.mpr hbl
  have hA : ∀ a, s.heap.size ≤ a → lA s a := fun _ h9 => h9
  obtain ⟨hT, f_P1, f_P2, f_FT, f_FA, f_V, cn, gcn, lcn, ucn⟩ := IV
  have S0 : tS E T (tFr κ L [] []) κ L f κ L f := tS_rf hw
  refine lv_aload_n hx hb d_law_1002 rfl (lv_at hl 2 rfl) ?_
  refine lv_aload_n hx hb d_law_1003 rfl (lv_at hl 3 rfl) ?_
  refine lv_iload_n hx hb d_law_1004 rfl (lv_at hl 0 rfl) ?_
  refine lv_iconst (v := iI 1) hx hb d_law_1005 (by decide) ?_
  refine z_iadd hx hb d_law_1006 ?_
  refine va_sld hx hb hX hbl hbA Y.2.2 (iI_in (by omega) (by omega) (by omega)) d_law_1007 ?_
  refine t_eq (iI_of _) ?_
  refine lv_aload_n hx hb d_law_1008 rfl (lv_at hl 3 rfl) ?_
  refine lv_iload_n hx hb d_law_1009 rfl (lv_at hl 0 rfl) ?_
  refine lv_iconst (v := iI 2) hx hb d_law_1010 (by decide) ?_
  refine z_iadd hx hb d_law_1011 ?_
  refine va_sld hx hb hX hbl hbA Y.2.2 (iI_in (by omega) (by omega) (by omega)) d_law_1012 ?_
  refine t_eq (iI_of _) ?_
  refine lx_i (t_runV (As := [.int (iI (xs (iI (8 * k + 1)).toNatClampNeg).toInt), .int (iI (xs (iI (8 * k + 2)).toNatClampNeg).toInt)]) (rest := []) (n := 2) X Y S0 kx hml hl.1 (c_H_hand l D E T κ L f H.size xo kx (xs (iI (8 * k + 1)).toNatClampNeg).toInt (iI_r _).1 (iI_r _).2 (xs (iI (8 * k + 2)).toNatClampNeg).toInt (iI_r _).1 (iI_r _).2 hw) (ok_k X Y hA KS KR) rfl kl_L_H_hand ks_H_hand kx_H_hand ki_H_hand ini_H ⟨rfl, rfl⟩ hd_H_hand ⟨by decide, by decide⟩ rfl (Nat.le_of_ble_eq_true rfl) d_law_1013 ⟨by show cells + 0 ≤ 600000; omega, by show slots + 0 ≤ 7302250; omega⟩) X Y hA PM AP (fun r1 u1 H1 locs1 hp1 Y1 PM1 AP1 => ?_)
  obtain ⟨L1, f1⟩ := u1
  dsimp only at Y1 AP1
  obtain ⟨e1, S1, z1, ez1, q1⟩ := hp1
  dsimp only at e1 S1
  subst e1
  have N1 := lc_next S1 hw kx c6 c3 c1 (by decide) (by decide)
  refine lv_pop hx hb d_law_1016 rfl ?_
  refine lv_aload_n hx hb d_law_1017 rfl (lv_at hl 1 rfl) ?_
  refine lv_aload_n hx hb d_law_1018 rfl (lv_at hl 3 rfl) ?_
  refine lv_iload_n hx hb d_law_1019 rfl (lv_at hl 0 rfl) ?_
  refine lv_iconst (v := iI 1) hx hb d_law_1020 (by decide) ?_
  refine z_iadd hx hb d_law_1021 ?_
  refine va_sld hx hb hX hbl hbA Y1.2.2 (iI_in (by omega) (by omega) (by omega)) d_law_1022 ?_
  refine t_eq (iI_of _) ?_
  refine lv_aload_n hx hb d_law_1023 rfl (lv_at hl 3 rfl) ?_
  refine lv_iload_n hx hb d_law_1024 rfl (lv_at hl 0 rfl) ?_
  refine lv_iconst (v := iI 2) hx hb d_law_1025 (by decide) ?_
  refine z_iadd hx hb d_law_1026 ?_
  refine va_sld hx hb hX hbl hbA Y1.2.2 (iI_in (by omega) (by omega) (by omega)) d_law_1027 ?_
  refine t_eq (iI_of _) ?_
  refine lm_i (As := [.int (iI (xs (iI (8 * k + 1)).toNatClampNeg).toInt), .int (iI (xs (iI (8 * k + 2)).toNatClampNeg).toInt)]) (rest := []) (n := 2) hx hb X.2.2.1 hown K2 Z2 R2 Y1 PM1 DM AP1 hA hml hl.1 (r_M_hand l D2 E2 h q H1.size I J B G (xs (iI (8 * k + 1)).toNatClampNeg).toInt (iI_r _).1 (iI_r _).2 (xs (iI (8 * k + 2)).toNatClampNeg).toInt (iI_r _).1 (iI_r _).2 hT cn gcn (by omega) (by omega) f_P1 f_P2 f_FT) kl_L_M_hand ks_M_hand kx_M_hand ki_M_hand hd_M_hand ⟨by decide, by decide⟩ rfl (Nat.le_of_ble_eq_true rfl) d_law_1028 ⟨by show cells + 0 ≤ 600000; omega, by show slots + 0 ≤ 7302250; omega⟩ (fun r2 u2 H2 locs2 hp2 Y2 PM2 DM2 AP2 => ?_)
  obtain ⟨I2, J2, B2, G2⟩ := u2
  obtain ⟨S2, z2, ez2, q2⟩ := hp2
  dsimp only at S2 q2 PM2 DM2 AP2
  obtain ⟨lz, uz, xp, g_P1, g_P2⟩ := q2
  obtain ⟨v9, e9, l9, m9⟩ := xp
  have IV2 : LIv (k + 1) I2 B2 := ⟨S2.1, g_P1, g_P2, (stT_cg (S2.2.2 97 (by decide)) (S2.2.2 98 (by decide)) (S2.2.2 100 (by decide)) (S2.2.2 107 (by decide)) (S2.2.2 108 (by decide)) (S2.2.2 109 (by decide)) f_FT), (stA_cg (S2.2.2 110 (by decide)) (S2.2.2 118 (by decide)) (S2.2.2 119 (by decide)) (S2.2.2 120 (by decide)) f_FA), (vB_le (show 1 + k ≤ 1 + (k + 1) by omega) (vB_cg (S2.2.2 46 (by decide)) f_V)), ⟨v9, e9, by omega, by omega⟩⟩
  refine lv_pop hx hb d_law_1031 rfl ?_
  refine lv_goto (tgt := 1068) hx hb d_law_1032 (by decide) ?_
  exact kk κ L1 f1 I2 J2 B2 G2 H2 locs2 _ _ Y2 N1.1 N1.2.1 N1.2.2.1 N1.2.2.2.1 N1.2.2.2.2 PM2 DM2 AP2 IV2 (by omega) (by omega)
set_option maxHeartbeats 4000000 in
set_option maxRecDepth 100000 in
theorem law_27 {p : Program} {l : Launch} {e : Env} {s : State} {m : MethodId} {below : List Frame} {meth : Method} {c : Code} {b h xo cn0 tp n : Nat} {k : Int} {xs : Nat → Int32} {D : va_G} {E : cE} {T : cT} {κ : tK} {L : List Nat} {f : pF} {D2 : mD} {E2 : mE} {q : Nat → Nat} {I : Nat → Int32} {J : Nat → Int64} {B : Nat → Nat → Int32} {G : Nat → Nat → Int64} {H : Heap} {locs : List Loc} {cells slots : Nat} {ls : Array Slot} (C0 : lw_At p s m meth c b n xs) (hk0 : 0 ≤ k) (hk : 8 * k + 8 ≤ n) (hn : n ≤ 4096) (X : cX R_law p c code #[Value.ref b] s m D E) (KS : kS T (lA s) s s.heap) (KR : kR T s) (K2 : va_K D2.1 mCl (mTy E2) s) (Z2 : zS D2.2.1 D2.2.2.1 D2.2.2.2 (lA s) s s.heap) (R2 : zR D2.2.1 s) (Y : pH D cCl (lA s) s.heap L f H locs) (hw : tW E T κ L f) (kx : κ xo = (10, 0)) (c6 : gF f xo 6 = .ref cn0) (c3 : gF f cn0 3 = .ref tp) (c1 : gF f xo 1 = .ref tp) (PM : va_P D2.1 mCl (mW E2 h q I J B G) H) (DM : va_D (lA s) (mW E2 h q I J B G)) (AP : ∀ (k : Nat) (x : Nat × va_E), (mW E2 h q I J B G)[k]? = some x → x.1 ∉ L) (IV : LIv k I B) (hc : (cells : Int) ≤ 1000 + 3 * k) (hs : (slots : Int) ≤ 400000 + 4100 * k) (hl : lv_has ls 4 [(3, .int (iI (8 * k))), (2, .ref h), (1, .ref xo), (0, .ref b)]) (kk : ∀ (κ : tK) (L : List Nat) (f : pF) (I : Nat → Int32) (J : Nat → Int64) (B : Nat → Nat → Int32) (G : Nat → Nat → Int64) (H : Heap) (locs : List Loc) (cells slots : Nat), pH D cCl (lA s) s.heap L f H locs → tW E T κ L f → κ xo = (10, 0) → gF f xo 6 = .ref cn0 → gF f cn0 3 = .ref tp → gF f xo 1 = .ref tp → va_P D2.1 mCl (mW E2 h q I J B G) H → va_D (lA s) (mW E2 h q I J B G) → (∀ (k : Nat) (x : Nat × va_E), (mW E2 h q I J B G)[k]? = some x → x.1 ∉ L) → LIv (k + 1) I B → (cells : Int) ≤ 1000 + 3 * (k + 1) → (slots : Int) ≤ 400000 + 4100 * (k + 1) → W p l e room_1 s m #[Value.ref b] below meth c H locs cells slots (lw_Z below #[Value.ref b] s) (F0 m 1068 ls [])) : W p l e room_1 s m #[Value.ref b] below meth c H locs cells slots (lw_Z below #[Value.ref b] s) (F0 m 1035 ls []) := by
  obtain ⟨hx, hb, hr, hml, hown, hts, hX, hbl, hlocks, hgv⟩ := id C0
  have hbA : ¬ lA s b := Nat.not_le.mpr hbl
  have hA : ∀ a, s.heap.size ≤ a → lA s a := fun _ h9 => h9
  obtain ⟨hT, f_P1, f_P2, f_FT, f_FA, f_V, cn, gcn, lcn, ucn⟩ := IV
  have S0 : tS E T (tFr κ L [] []) κ L f κ L f := tS_rf hw
  refine lv_aload_n hx hb d_law_1035 rfl (lv_at hl 2 rfl) ?_
  refine lv_aload_n hx hb d_law_1036 rfl (lv_at hl 3 rfl) ?_
  refine lv_iload_n hx hb d_law_1037 rfl (lv_at hl 0 rfl) ?_
  refine lv_iconst (v := iI 1) hx hb d_law_1038 (by decide) ?_
  refine z_iadd hx hb d_law_1039 ?_
  refine va_sld hx hb hX hbl hbA Y.2.2 (iI_in (by omega) (by omega) (by omega)) d_law_1040 ?_
  refine t_eq (iI_of _) ?_
  refine lv_aload_n hx hb d_law_1041 rfl (lv_at hl 3 rfl) ?_
  refine lv_iload_n hx hb d_law_1042 rfl (lv_at hl 0 rfl) ?_
  refine lv_iconst (v := iI 2) hx hb d_law_1043 (by decide) ?_
  refine z_iadd hx hb d_law_1044 ?_
  refine va_sld hx hb hX hbl hbA Y.2.2 (iI_in (by omega) (by omega) (by omega)) d_law_1045 ?_
  refine t_eq (iI_of _) ?_
  refine lx_i (t_runV (As := [.int (iI (xs (iI (8 * k + 1)).toNatClampNeg).toInt), .int (iI (xs (iI (8 * k + 2)).toNatClampNeg).toInt)]) (rest := []) (n := 2) X Y S0 kx hml hl.1 (c_H_handed l D E T κ L f H.size xo kx (xs (iI (8 * k + 1)).toNatClampNeg).toInt (iI_r _).1 (iI_r _).2 (xs (iI (8 * k + 2)).toNatClampNeg).toInt (iI_r _).1 (iI_r _).2 hw) (ok_k X Y hA KS KR) rfl kl_L_H_handed ks_H_handed kx_H_handed ki_H_handed ini_H ⟨rfl, rfl⟩ hd_H_handed ⟨by decide, by decide⟩ rfl (Nat.le_of_ble_eq_true rfl) d_law_1046 ⟨by show cells + 3 ≤ 600000; omega, by show slots + 4035 ≤ 7302250; omega⟩) X Y hA PM AP (fun r1 u1 H1 locs1 hp1 Y1 PM1 AP1 => ?_)
  obtain ⟨L1, f1⟩ := u1
  dsimp only at Y1 AP1
  obtain ⟨κ1, S1, z1, ez1, q1⟩ := hp1
  dsimp only at S1 q1
  have N1 := lc_next S1 hw kx c6 c3 c1 (by decide) (by decide)
  refine lv_pop hx hb d_law_1049 rfl ?_
  refine lv_aload_n hx hb d_law_1050 rfl (lv_at hl 1 rfl) ?_
  refine lv_aload_n hx hb d_law_1051 rfl (lv_at hl 3 rfl) ?_
  refine lv_iload_n hx hb d_law_1052 rfl (lv_at hl 0 rfl) ?_
  refine lv_iconst (v := iI 1) hx hb d_law_1053 (by decide) ?_
  refine z_iadd hx hb d_law_1054 ?_
  refine va_sld hx hb hX hbl hbA Y1.2.2 (iI_in (by omega) (by omega) (by omega)) d_law_1055 ?_
  refine t_eq (iI_of _) ?_
  refine lv_aload_n hx hb d_law_1056 rfl (lv_at hl 3 rfl) ?_
  refine lv_iload_n hx hb d_law_1057 rfl (lv_at hl 0 rfl) ?_
  refine lv_iconst (v := iI 2) hx hb d_law_1058 (by decide) ?_
  refine z_iadd hx hb d_law_1059 ?_
  refine va_sld hx hb hX hbl hbA Y1.2.2 (iI_in (by omega) (by omega) (by omega)) d_law_1060 ?_
  refine t_eq (iI_of _) ?_
  refine lm_i (As := [.int (iI (xs (iI (8 * k + 1)).toNatClampNeg).toInt), .int (iI (xs (iI (8 * k + 2)).toNatClampNeg).toInt)]) (rest := []) (n := 2) hx hb X.2.2.1 hown K2 Z2 R2 Y1 PM1 DM AP1 hA hml hl.1 (r_M_handed l D2 E2 h q H1.size I J B G (xs (iI (8 * k + 1)).toNatClampNeg).toInt (iI_r _).1 (iI_r _).2 (xs (iI (8 * k + 2)).toNatClampNeg).toInt (iI_r _).1 (iI_r _).2 hT f_P1 f_P2 f_FT) kl_L_M_handed ks_M_handed kx_M_handed ki_M_handed hd_M_handed ⟨by decide, by decide⟩ rfl (Nat.le_of_ble_eq_true rfl) d_law_1061 ⟨by show cells + 3 ≤ 600000; omega, by show slots + 4035 ≤ 7302250; omega⟩ (fun r2 u2 H2 locs2 hp2 Y2 PM2 DM2 AP2 => ?_)
  obtain ⟨I2, J2, B2, G2⟩ := u2
  obtain ⟨S2, z2, ez2, q2⟩ := hp2
  dsimp only at S2 q2 PM2 DM2 AP2
  obtain ⟨lz, uz, g_P1, g_P2, g_FT⟩ := q2
  have IV2 : LIv (k + 1) I2 B2 := ⟨S2.1, g_P1, g_P2, g_FT, (stA_cg (S2.2.2 110 (by decide)) (S2.2.2 118 (by decide)) (S2.2.2 119 (by decide)) (S2.2.2 120 (by decide)) f_FA), (vB_le (show 1 + k ≤ 1 + (k + 1) by omega) (vB_cg (S2.2.2 46 (by decide)) f_V)), ⟨cn, (S2.2.1 33 (by decide)).trans gcn, by omega, by omega⟩⟩
  refine lv_pop hx hb d_law_1064 rfl ?_
  refine lv_goto (tgt := 1068) hx hb d_law_1065 (by decide) ?_
  exact kk κ1 L1 f1 I2 J2 B2 G2 H2 locs2 _ _ Y2 N1.1 N1.2.1 N1.2.2.1 N1.2.2.2.1 N1.2.2.2.2 PM2 DM2 AP2 IV2 (by omega) (by omega)
