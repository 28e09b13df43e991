set_option maxHeartbeats 4000000 in
set_option maxRecDepth 100000 in
theorem c_Ha_compress (l : Launch) (D : va_G) (E : cE) (T : cT) (κ : tK) (L : List Nat) (f : pF) (sz : Nat) (h : Nat) (k0 : κ h = (16, 0)) (hw : tW E T κ L f) : Met l y_Ha_compress (k_Ha_compress :: lw_tg) (kRm 1 60 0 0) (va_Pc [.ref h] (kPre D E T L f sz)) (va_Qv (nPv E T [2, 3, 4] κ L f (fun (g : pF) => True)) (cPost D E (pA L sz)) (pA L sz)) 0 0 (pA L sz) := by
  refine k_enter (own := R_Ha) (by decide) rfl (Nat.le_of_ble_eq_true rfl) (fun p e s m below meth c ls AV QQ H locs hQQ X Y hA hin hr hlk hml hl KS KR => ?_)
  have hl : lv_has ls 9 [(0, .ref h)] := hl
  have S : tS E T (tFr κ L [2, 3, 4] []) κ L f κ L f := tS_rf hw
  refine lv_iconst (v := iI 0) X.1 X.2.1 d_Ha_compress_0 (by decide) ?_
  have J3 : ∀ (n5 : Nat) (z2 : Int) (f1 : pF) (H : Heap) (locs : List Loc) (ls : Array Slot), (16 - z2).toNat = n5 → (0 ≤ z2) → (z2 ≤ 16) → pH D cCl (pA L sz) s.heap L f1 H locs → tS E T (tFr κ L [2, 3, 4] []) κ L f κ L f1 → lv_has ls 9 [(0, .ref h), (1, .int (iI z2))] → W p l e (kRm 1 60 0 0) s m AV below meth c H locs 0 0 QQ (F0 m 2 ls []) := by
    intro n5
    induction n5 using Nat.strongRecOn with
    | ind n5 ih4 =>
      intro z2 f1 H locs ls hm6 l2 u2 Y S hl
      refine lv_iload_n X.1 X.2.1 d_Ha_compress_2 rfl (lv_at hl 1 rfl) ?_
      refine lv_bipush (v := iI 16) X.1 X.2.1 d_Ha_compress_3 (by decide) ?_
      refine z_icmp_ge (tgt := 82) X.1 X.2.1 d_Ha_compress_5 (by decide) ⟨by omega, by omega⟩ ⟨by omega, by omega⟩ (fun h7 => ?_) (fun h7 => ?_)
      · refine lv_bipush (v := iI 16) X.1 X.2.1 d_Ha_compress_82 (by decide) ?_
        have J10 : ∀ (n12 : Nat) (z9 : Int) (f8 : pF) (H : Heap) (locs : List Loc) (ls : Array Slot), (80 - z9).toNat = n12 → (16 ≤ z9) → (z9 ≤ 80) → pH D cCl (pA L sz) s.heap L f8 H locs → tS E T (tFr κ L [2, 3, 4] []) κ L f κ L f8 → lv_has ls 9 [(0, .ref h), (1, .int (iI z9))] → W p l e (kRm 1 60 0 0) s m AV below meth c H locs 0 0 QQ (F0 m 85 ls []) := by
          intro n12
          induction n12 using Nat.strongRecOn with
          | ind n12 ih11 =>
            intro z9 f8 H locs ls hm13 l9 u9 Y S hl
            refine lv_iload_n X.1 X.2.1 d_Ha_compress_85 rfl (lv_at hl 1 rfl) ?_
            refine lv_bipush (v := iI 80) X.1 X.2.1 d_Ha_compress_86 (by decide) ?_
            refine z_icmp_ge (tgt := 150) X.1 X.2.1 d_Ha_compress_88 (by decide) ⟨by omega, by omega⟩ ⟨by omega, by omega⟩ (fun h14 => ?_) (fun h14 => ?_)
            · refine lv_aload_n X.1 X.2.1 d_Ha_compress_150 rfl (lv_at hl 0 rfl) ?_
              refine t_getr (ci := 6) X Y S k0 rfl i_Ha 2 (by decide) rfl (k1 := 2) (k2 := 5) rfl rfl lk_Ha_17 (fun _ h9 => h9) d_Ha_compress_151 (fun b15 e15 k15 => ?_)
              refine lv_iconst (v := iI 0) X.1 X.2.1 d_Ha_compress_154 (by decide) ?_
              refine t_iald2 X Y S k15 (by omega) (by omega) (by omega) d_Ha_compress_155 (fun z16 l16 u16 => ?_)
              refine lv_istore_n (lv' := [(1, .int (iI z16)), (0, .ref h)]) X.1 X.2.1 d_Ha_compress_156 rfl hl (by decide) rfl (fun ls hl => ?_)
              refine lv_aload_n X.1 X.2.1 d_Ha_compress_157 rfl (lv_at hl 1 rfl) ?_
              refine t_get0 (ci := 6) X Y S k0 rfl i_Ha 2 (by decide) rfl lk_Ha_17 (fun _ h9 => h9) d_Ha_compress_158 e15 ?_
              refine lv_iconst (v := iI 1) X.1 X.2.1 d_Ha_compress_161 (by decide) ?_
              refine t_iald2 X Y S k15 (by omega) (by omega) (by omega) d_Ha_compress_162 (fun z17 l17 u17 => ?_)
              refine lv_istore_n (lv' := [(2, .int (iI z17)), (1, .int (iI z16)), (0, .ref h)]) X.1 X.2.1 d_Ha_compress_163 rfl hl (by decide) rfl (fun ls hl => ?_)
              refine lv_aload_n X.1 X.2.1 d_Ha_compress_164 rfl (lv_at hl 2 rfl) ?_
              refine t_get0 (ci := 6) X Y S k0 rfl i_Ha 2 (by decide) rfl lk_Ha_17 (fun _ h9 => h9) d_Ha_compress_165 e15 ?_
              refine lv_iconst (v := iI 2) X.1 X.2.1 d_Ha_compress_168 (by decide) ?_
              refine t_iald2 X Y S k15 (by omega) (by omega) (by omega) d_Ha_compress_169 (fun z18 l18 u18 => ?_)
              refine lv_istore_n (lv' := [(3, .int (iI z18)), (2, .int (iI z17)), (1, .int (iI z16)), (0, .ref h)]) X.1 X.2.1 d_Ha_compress_170 rfl hl (by decide) rfl (fun ls hl => ?_)
              refine lv_aload_n X.1 X.2.1 d_Ha_compress_171 rfl (lv_at hl 3 rfl) ?_
              refine t_get0 (ci := 6) X Y S k0 rfl i_Ha 2 (by decide) rfl lk_Ha_17 (fun _ h9 => h9) d_Ha_compress_172 e15 ?_
              refine lv_iconst (v := iI 3) X.1 X.2.1 d_Ha_compress_175 (by decide) ?_
              refine t_iald2 X Y S k15 (by omega) (by omega) (by omega) d_Ha_compress_176 (fun z19 l19 u19 => ?_)
              refine lv_istore (lv' := [(4, .int (iI z19)), (3, .int (iI z18)), (2, .int (iI z17)), (1, .int (iI z16)), (0, .ref h)]) X.1 X.2.1 d_Ha_compress_177 hl (by decide) rfl (fun ls hl => ?_)
              refine lv_aload_n X.1 X.2.1 d_Ha_compress_179 rfl (lv_at hl 4 rfl) ?_
              refine t_get0 (ci := 6) X Y S k0 rfl i_Ha 2 (by decide) rfl lk_Ha_17 (fun _ h9 => h9) d_Ha_compress_180 e15 ?_
              refine lv_iconst (v := iI 4) X.1 X.2.1 d_Ha_compress_183 (by decide) ?_
              refine t_iald2 X Y S k15 (by omega) (by omega) (by omega) d_Ha_compress_184 (fun z20 l20 u20 => ?_)
              refine lv_istore (lv' := [(5, .int (iI z20)), (4, .int (iI z19)), (3, .int (iI z18)), (2, .int (iI z17)), (1, .int (iI z16)), (0, .ref h)]) X.1 X.2.1 d_Ha_compress_185 hl (by decide) rfl (fun ls hl => ?_)
              refine lv_iconst (v := iI 0) X.1 X.2.1 d_Ha_compress_187 (by decide) ?_
              have J27 : ∀ (n29 : Nat) (z21 : Int) (z22 : Int) (z23 : Int) (z24 : Int) (z25 : Int) (z26 : Int) (H : Heap) (locs : List Loc) (ls : Array Slot), (80 - z26).toNat = n29 → ((-2147483648) ≤ z21) → (z21 ≤ 2147483647) → ((-2147483648) ≤ z22) → (z22 ≤ 2147483647) → ((-2147483648) ≤ z23) → (z23 ≤ 2147483647) → ((-2147483648) ≤ z24) → (z24 ≤ 2147483647) → ((-2147483648) ≤ z25) → (z25 ≤ 2147483647) → (0 ≤ z26) → (z26 ≤ 80) → pH D cCl (pA L sz) s.heap L f8 H locs → tS E T (tFr κ L [2, 3, 4] []) κ L f κ L f8 → lv_has ls 9 [(0, .ref h), (1, .int (iI z21)), (2, .int (iI z22)), (3, .int (iI z23)), (4, .int (iI z24)), (5, .int (iI z25)), (6, .int (iI z26))] → W p l e (kRm 1 60 0 0) s m AV below meth c H locs 0 0 QQ (F0 m 190 ls []) := by
                intro n29
                induction n29 using Nat.strongRecOn with
                | ind n29 ih28 =>
                  intro z21 z22 z23 z24 z25 z26 H locs ls hm30 l21 u21 l22 u22 l23 u23 l24 u24 l25 u25 l26 u26 Y S hl
                  refine lv_iload X.1 X.2.1 d_Ha_compress_190 (lv_at hl 6 rfl) ?_
                  refine lv_bipush (v := iI 80) X.1 X.2.1 d_Ha_compress_192 (by decide) ?_
                  refine z_icmp_ge (tgt := 333) X.1 X.2.1 d_Ha_compress_194 (by decide) ⟨by omega, by omega⟩ ⟨by omega, by omega⟩ (fun h31 => ?_) (fun h31 => ?_)
                  · refine lv_aload_n X.1 X.2.1 d_Ha_compress_333 rfl (lv_at hl 0 rfl) ?_
                    refine t_get0 (ci := 6) X Y S k0 rfl i_Ha 2 (by decide) rfl lk_Ha_17 (fun _ h9 => h9) d_Ha_compress_334 e15 ?_
                    refine lv_iconst (v := iI 0) X.1 X.2.1 d_Ha_compress_337 (by decide) ?_
                    refine lv_dup2_11 X.1 X.2.1 d_Ha_compress_338 rfl rfl ?_
                    refine t_iald2 X Y S k15 (by omega) (by omega) (by omega) d_Ha_compress_339 (fun z32 l32 u32 => ?_)
                    refine lv_iload_n X.1 X.2.1 d_Ha_compress_340 rfl (lv_at hl 1 rfl) ?_
                    refine lv_iadd X.1 X.2.1 d_Ha_compress_341 ?_
                    refine t_u (fun z33 l33 u33 => ?_)
                    refine t_iast2 X Y S k15 (by omega) (by omega) (by omega) (nF_of S k15 (by decide)) d_Ha_compress_342 (fun f34 H locs Y S w34 => ?_)
                    refine lv_aload_n X.1 X.2.1 d_Ha_compress_343 rfl (lv_at hl 0 rfl) ?_
                    refine t_get0 (ci := 6) X Y S k0 rfl i_Ha 2 (by decide) rfl lk_Ha_17 (fun _ h9 => h9) d_Ha_compress_344 ((gF_same (w34 _ (k_ne k0 k15 (by decide))) 2).trans e15) ?_
                    refine lv_iconst (v := iI 1) X.1 X.2.1 d_Ha_compress_347 (by decide) ?_
                    refine lv_dup2_11 X.1 X.2.1 d_Ha_compress_348 rfl rfl ?_
                    refine t_iald2 X Y S k15 (by omega) (by omega) (by omega) d_Ha_compress_349 (fun z35 l35 u35 => ?_)
                    refine lv_iload_n X.1 X.2.1 d_Ha_compress_350 rfl (lv_at hl 2 rfl) ?_
                    refine lv_iadd X.1 X.2.1 d_Ha_compress_351 ?_
                    refine t_u (fun z36 l36 u36 => ?_)
                    refine t_iast2 X Y S k15 (by omega) (by omega) (by omega) (nF_of S k15 (by decide)) d_Ha_compress_352 (fun f37 H locs Y S w37 => ?_)
                    refine lv_aload_n X.1 X.2.1 d_Ha_compress_353 rfl (lv_at hl 0 rfl) ?_
                    refine t_get0 (ci := 6) X Y S k0 rfl i_Ha 2 (by decide) rfl lk_Ha_17 (fun _ h9 => h9) d_Ha_compress_354 ((gF_same (w37 _ (k_ne k0 k15 (by decide))) 2).trans ((gF_same (w34 _ (k_ne k0 k15 (by decide))) 2).trans e15)) ?_
                    refine lv_iconst (v := iI 2) X.1 X.2.1 d_Ha_compress_357 (by decide) ?_
                    refine lv_dup2_11 X.1 X.2.1 d_Ha_compress_358 rfl rfl ?_
                    refine t_iald2 X Y S k15 (by omega) (by omega) (by omega) d_Ha_compress_359 (fun z38 l38 u38 => ?_)
                    refine lv_iload_n X.1 X.2.1 d_Ha_compress_360 rfl (lv_at hl 3 rfl) ?_
                    refine lv_iadd X.1 X.2.1 d_Ha_compress_361 ?_
                    refine t_u (fun z39 l39 u39 => ?_)
                    refine t_iast2 X Y S k15 (by omega) (by omega) (by omega) (nF_of S k15 (by decide)) d_Ha_compress_362 (fun f40 H locs Y S w40 => ?_)
                    refine lv_aload_n X.1 X.2.1 d_Ha_compress_363 rfl (lv_at hl 0 rfl) ?_
                    refine t_get0 (ci := 6) X Y S k0 rfl i_Ha 2 (by decide) rfl lk_Ha_17 (fun _ h9 => h9) d_Ha_compress_364 ((gF_same (w40 _ (k_ne k0 k15 (by decide))) 2).trans ((gF_same (w37 _ (k_ne k0 k15 (by decide))) 2).trans ((gF_same (w34 _ (k_ne k0 k15 (by decide))) 2).trans e15))) ?_
                    refine lv_iconst (v := iI 3) X.1 X.2.1 d_Ha_compress_367 (by decide) ?_
                    refine lv_dup2_11 X.1 X.2.1 d_Ha_compress_368 rfl rfl ?_
                    refine t_iald2 X Y S k15 (by omega) (by omega) (by omega) d_Ha_compress_369 (fun z41 l41 u41 => ?_)
                    refine lv_iload X.1 X.2.1 d_Ha_compress_370 (lv_at hl 4 rfl) ?_
                    refine lv_iadd X.1 X.2.1 d_Ha_compress_372 ?_
                    refine t_u (fun z42 l42 u42 => ?_)
                    refine t_iast2 X Y S k15 (by omega) (by omega) (by omega) (nF_of S k15 (by decide)) d_Ha_compress_373 (fun f43 H locs Y S w43 => ?_)
                    refine lv_aload_n X.1 X.2.1 d_Ha_compress_374 rfl (lv_at hl 0 rfl) ?_
                    refine t_get0 (ci := 6) X Y S k0 rfl i_Ha 2 (by decide) rfl lk_Ha_17 (fun _ h9 => h9) d_Ha_compress_375 ((gF_same (w43 _ (k_ne k0 k15 (by decide))) 2).trans ((gF_same (w40 _ (k_ne k0 k15 (by decide))) 2).trans ((gF_same (w37 _ (k_ne k0 k15 (by decide))) 2).trans ((gF_same (w34 _ (k_ne k0 k15 (by decide))) 2).trans e15)))) ?_
                    refine lv_iconst (v := iI 4) X.1 X.2.1 d_Ha_compress_378 (by decide) ?_
                    refine lv_dup2_11 X.1 X.2.1 d_Ha_compress_379 rfl rfl ?_
                    refine t_iald2 X Y S k15 (by omega) (by omega) (by omega) d_Ha_compress_380 (fun z44 l44 u44 => ?_)
                    refine lv_iload X.1 X.2.1 d_Ha_compress_381 (lv_at hl 5 rfl) ?_
                    refine lv_iadd X.1 X.2.1 d_Ha_compress_383 ?_
                    refine t_u (fun z45 l45 u45 => ?_)
                    refine t_iast2 X Y S k15 (by omega) (by omega) (by omega) (nF_of S k15 (by decide)) d_Ha_compress_384 (fun f46 H locs Y S w46 => ?_)
                    exact c_retv hQQ X Y hr hlk ⟨rfl, S, trivial⟩ d_Ha_compress_385
                  · refine lv_iload X.1 X.2.1 d_Ha_compress_197 (lv_at hl 6 rfl) ?_
                    refine lv_bipush (v := iI 20) X.1 X.2.1 d_Ha_compress_199 (by decide) ?_
                    have J48 : ∀ (z47 : Int) (H : Heap) (locs : List Loc) (ls : Array Slot), ((-2147483648) ≤ z47) → (z47 ≤ 2147483647) → pH D cCl (pA L sz) s.heap L f8 H locs → tS E T (tFr κ L [2, 3, 4] []) κ L f κ L f8 → lv_has ls 9 [(0, .ref h), (1, .int (iI z21)), (2, .int (iI z22)), (3, .int (iI z23)), (4, .int (iI z24)), (5, .int (iI z25)), (6, .int (iI z26)), (7, .int (iI z47))] → W p l e (kRm 1 60 0 0) s m AV below meth c H locs 0 0 QQ (F0 m 282 ls []) := by
                      intro z47 H locs ls l47 u47 Y S hl
                      refine lv_iload_n X.1 X.2.1 d_Ha_compress_282 rfl (lv_at hl 1 rfl) ?_
                      refine lv_iconst (v := iI 5) X.1 X.2.1 d_Ha_compress_283 (by decide) ?_
                      refine lv_ishl X.1 X.2.1 d_Ha_compress_284 ?_
                      refine t_u (fun z52 l52 u52 => ?_)
                      refine lv_iload_n X.1 X.2.1 d_Ha_compress_285 rfl (lv_at hl 1 rfl) ?_
                      refine lv_bipush (v := iI 27) X.1 X.2.1 d_Ha_compress_286 (by decide) ?_
                      refine lv_iushr X.1 X.2.1 d_Ha_compress_288 rfl ?_
                      refine t_u (fun z53 l53 u53 => ?_)
                      refine lv_ior X.1 X.2.1 d_Ha_compress_289 ?_
                      refine t_u (fun z54 l54 u54 => ?_)
                      refine lv_iload X.1 X.2.1 d_Ha_compress_290 (lv_at hl 7 rfl) ?_
                      refine lv_iadd X.1 X.2.1 d_Ha_compress_292 ?_
                      refine t_u (fun z55 l55 u55 => ?_)
                      refine lv_iload X.1 X.2.1 d_Ha_compress_293 (lv_at hl 5 rfl) ?_
                      refine lv_iadd X.1 X.2.1 d_Ha_compress_295 ?_
                      refine t_u (fun z56 l56 u56 => ?_)
                      refine lv_aload_n X.1 X.2.1 d_Ha_compress_296 rfl (lv_at hl 0 rfl) ?_
                      refine t_getr (ci := 6) X Y S k0 rfl i_Ha 0 (by decide) rfl (k1 := 2) (k2 := 80) rfl rfl lk_Ha_7 (fun _ h9 => h9) d_Ha_compress_297 (fun b57 e57 k57 => ?_)
                      refine lv_iload X.1 X.2.1 d_Ha_compress_300 (lv_at hl 6 rfl) ?_
                      refine t_iald2 X Y S k57 (by omega) (by omega) (by omega) d_Ha_compress_302 (fun z58 l58 u58 => ?_)
                      refine lv_iadd X.1 X.2.1 d_Ha_compress_303 ?_
                      refine t_u (fun z59 l59 u59 => ?_)
                      refine lv_istore (lv' := [(8, .int (iI z59)), (0, .ref h), (1, .int (iI z21)), (2, .int (iI z22)), (3, .int (iI z23)), (4, .int (iI z24)), (5, .int (iI z25)), (6, .int (iI z26)), (7, .int (iI z47))]) X.1 X.2.1 d_Ha_compress_304 hl (by decide) rfl (fun ls hl => ?_)
                      refine lv_iload X.1 X.2.1 d_Ha_compress_306 (lv_at hl 5 rfl) ?_
                      refine lv_istore (lv' := [(5, .int (iI z24)), (8, .int (iI z59)), (0, .ref h), (1, .int (iI z21)), (2, .int (iI z22)), (3, .int (iI z23)), (4, .int (iI z24)), (6, .int (iI z26)), (7, .int (iI z47))]) X.1 X.2.1 d_Ha_compress_308 hl (by decide) rfl (fun ls hl => ?_)
                      refine lv_iload_n X.1 X.2.1 d_Ha_compress_310 rfl (lv_at hl 5 rfl) ?_
                      refine lv_istore (lv' := [(4, .int (iI z23)), (5, .int (iI z24)), (8, .int (iI z59)), (0, .ref h), (1, .int (iI z21)), (2, .int (iI z22)), (3, .int (iI z23)), (6, .int (iI z26)), (7, .int (iI z47))]) X.1 X.2.1 d_Ha_compress_311 hl (by decide) rfl (fun ls hl => ?_)
                      refine lv_iload_n X.1 X.2.1 d_Ha_compress_313 rfl (lv_at hl 5 rfl) ?_
                      refine lv_bipush (v := iI 30) X.1 X.2.1 d_Ha_compress_314 (by decide) ?_
                      refine lv_ishl X.1 X.2.1 d_Ha_compress_316 ?_
                      refine t_u (fun z60 l60 u60 => ?_)
                      refine lv_iload_n X.1 X.2.1 d_Ha_compress_317 rfl (lv_at hl 5 rfl) ?_
                      refine lv_iconst (v := iI 2) X.1 X.2.1 d_Ha_compress_318 (by decide) ?_
                      refine lv_iushr X.1 X.2.1 d_Ha_compress_319 rfl ?_
                      refine t_u (fun z61 l61 u61 => ?_)
                      refine lv_ior X.1 X.2.1 d_Ha_compress_320 ?_
                      refine t_u (fun z62 l62 u62 => ?_)
                      refine lv_istore_n (lv' := [(3, .int (iI z62)), (4, .int (iI z23)), (5, .int (iI z24)), (8, .int (iI z59)), (0, .ref h), (1, .int (iI z21)), (2, .int (iI z22)), (6, .int (iI z26)), (7, .int (iI z47))]) X.1 X.2.1 d_Ha_compress_321 rfl hl (by decide) rfl (fun ls hl => ?_)
                      refine lv_iload_n X.1 X.2.1 d_Ha_compress_322 rfl (lv_at hl 5 rfl) ?_
                      refine lv_istore_n (lv' := [(2, .int (iI z21)), (3, .int (iI z62)), (4, .int (iI z23)), (5, .int (iI z24)), (8, .int (iI z59)), (0, .ref h), (1, .int (iI z21)), (6, .int (iI z26)), (7, .int (iI z47))]) X.1 X.2.1 d_Ha_compress_323 rfl hl (by decide) rfl (fun ls hl => ?_)
                      refine lv_iload X.1 X.2.1 d_Ha_compress_324 (lv_at hl 4 rfl) ?_
                      refine lv_istore_n (lv' := [(1, .int (iI z59)), (2, .int (iI z21)), (3, .int (iI z62)), (4, .int (iI z23)), (5, .int (iI z24)), (8, .int (iI z59)), (0, .ref h), (6, .int (iI z26)), (7, .int (iI z47))]) X.1 X.2.1 d_Ha_compress_326 rfl hl (by decide) rfl (fun ls hl => ?_)
                      refine lv_iinc (v := iI (z26 + 1)) (lv' := [(6, .int (iI (z26 + 1))), (1, .int (iI z59)), (2, .int (iI z21)), (3, .int (iI z62)), (4, .int (iI z23)), (5, .int (iI z24)), (8, .int (iI z59)), (0, .ref h), (7, .int (iI z47))]) X.1 X.2.1 d_Ha_compress_327 hl (k := 7) rfl ((iI_add _ _).trans (congrArg iI (by omega))) (by decide) rfl (fun ls hl => ?_)
                      refine lv_goto (tgt := 190) X.1 X.2.1 d_Ha_compress_330 (by decide) ?_
                      exact ih28 ((80 - (z26 + 1)).toNat) (by omega) z59 z21 z62 z23 z24 (z26 + 1) _ _ _ rfl (by omega) (by omega) (by omega) (by omega) (by omega) (by omega) (by omega) (by omega) (by omega) (by omega) (by omega) (by omega) Y S (lv_sub hl [7, 1, 2, 3, 4, 5, 0] rfl)
                    refine z_icmp_ge (tgt := 222) X.1 X.2.1 d_Ha_compress_201 (by decide) ⟨by omega, by omega⟩ ⟨by omega, by omega⟩ (fun h63 => ?_) (fun h63 => ?_)
                    · refine lv_iload X.1 X.2.1 d_Ha_compress_222 (lv_at hl 6 rfl) ?_
                      refine lv_bipush (v := iI 40) X.1 X.2.1 d_Ha_compress_224 (by decide) ?_
                      refine z_icmp_ge (tgt := 243) X.1 X.2.1 d_Ha_compress_226 (by decide) ⟨by omega, by omega⟩ ⟨by omega, by omega⟩ (fun h64 => ?_) (fun h64 => ?_)
                      · refine lv_iload X.1 X.2.1 d_Ha_compress_243 (lv_at hl 6 rfl) ?_
                        refine lv_bipush (v := iI 60) X.1 X.2.1 d_Ha_compress_245 (by decide) ?_
                        refine z_icmp_ge (tgt := 271) X.1 X.2.1 d_Ha_compress_247 (by decide) ⟨by omega, by omega⟩ ⟨by omega, by omega⟩ (fun h65 => ?_) (fun h65 => ?_)
                        · refine lv_iload_n X.1 X.2.1 d_Ha_compress_271 rfl (lv_at hl 2 rfl) ?_
                          refine lv_iload_n X.1 X.2.1 d_Ha_compress_272 rfl (lv_at hl 3 rfl) ?_
                          refine lv_ixor X.1 X.2.1 d_Ha_compress_273 ?_
                          refine t_u (fun z66 l66 u66 => ?_)
                          refine lv_iload X.1 X.2.1 d_Ha_compress_274 (lv_at hl 4 rfl) ?_
                          refine lv_ixor X.1 X.2.1 d_Ha_compress_276 ?_
                          refine t_u (fun z67 l67 u67 => ?_)
                          refine lv_ldc (v := (-899497514)) X.1 X.2.1 X.2.2.2.1 (X.2.2.1 _ cn_Ha_60) d_Ha_compress_277 ?_
                          refine t_eq (y := iI (-899497514)) (by decide) ?_
                          refine lv_iadd X.1 X.2.1 d_Ha_compress_279 ?_
                          refine t_u (fun z68 l68 u68 => ?_)
                          refine lv_istore (lv' := [(7, .int (iI z68)), (0, .ref h), (1, .int (iI z21)), (2, .int (iI z22)), (3, .int (iI z23)), (4, .int (iI z24)), (5, .int (iI z25)), (6, .int (iI z26))]) X.1 X.2.1 d_Ha_compress_280 hl (by decide) rfl (fun ls hl => ?_)
                          exact J48 z68 _ _ _ (by omega) (by omega) Y S (lv_sub hl [1, 2, 3, 4, 5, 6, 7, 0] rfl)
                        · refine lv_iload_n X.1 X.2.1 d_Ha_compress_250 rfl (lv_at hl 2 rfl) ?_
                          refine lv_iload_n X.1 X.2.1 d_Ha_compress_251 rfl (lv_at hl 3 rfl) ?_
                          refine lv_iand X.1 X.2.1 d_Ha_compress_252 ?_
                          refine t_u (fun z70 l70 u70 => ?_)
                          refine lv_iload_n X.1 X.2.1 d_Ha_compress_253 rfl (lv_at hl 2 rfl) ?_
                          refine lv_iload X.1 X.2.1 d_Ha_compress_254 (lv_at hl 4 rfl) ?_
                          refine lv_iand X.1 X.2.1 d_Ha_compress_256 ?_
                          refine t_u (fun z72 l72 u72 => ?_)
                          refine lv_ior X.1 X.2.1 d_Ha_compress_257 ?_
                          refine t_u (fun z73 l73 u73 => ?_)
                          refine lv_iload_n X.1 X.2.1 d_Ha_compress_258 rfl (lv_at hl 3 rfl) ?_
                          refine lv_iload X.1 X.2.1 d_Ha_compress_259 (lv_at hl 4 rfl) ?_
                          refine lv_iand X.1 X.2.1 d_Ha_compress_261 ?_
                          refine t_u (fun z75 l75 u75 => ?_)
                          refine lv_ior X.1 X.2.1 d_Ha_compress_262 ?_
                          refine t_u (fun z76 l76 u76 => ?_)
                          refine lv_ldc (v := (-1894007588)) X.1 X.2.1 X.2.2.2.1 (X.2.2.1 _ cn_Ha_59) d_Ha_compress_263 ?_
                          refine t_eq (y := iI (-1894007588)) (by decide) ?_
                          refine lv_iadd X.1 X.2.1 d_Ha_compress_265 ?_
                          refine t_u (fun z77 l77 u77 => ?_)
                          refine lv_istore (lv' := [(7, .int (iI z77)), (0, .ref h), (1, .int (iI z21)), (2, .int (iI z22)), (3, .int (iI z23)), (4, .int (iI z24)), (5, .int (iI z25)), (6, .int (iI z26))]) X.1 X.2.1 d_Ha_compress_266 hl (by decide) rfl (fun ls hl => ?_)
                          refine lv_goto (tgt := 282) X.1 X.2.1 d_Ha_compress_268 (by decide) ?_
                          exact J48 z77 _ _ _ (by omega) (by omega) Y S (lv_sub hl [1, 2, 3, 4, 5, 6, 7, 0] rfl)
                      · refine lv_iload_n X.1 X.2.1 d_Ha_compress_229 rfl (lv_at hl 2 rfl) ?_
                        refine lv_iload_n X.1 X.2.1 d_Ha_compress_230 rfl (lv_at hl 3 rfl) ?_
                        refine lv_ixor X.1 X.2.1 d_Ha_compress_231 ?_
                        refine t_u (fun z78 l78 u78 => ?_)
                        refine lv_iload X.1 X.2.1 d_Ha_compress_232 (lv_at hl 4 rfl) ?_
                        refine lv_ixor X.1 X.2.1 d_Ha_compress_234 ?_
                        refine t_u (fun z79 l79 u79 => ?_)
                        refine lv_ldc (v := (1859775393)) X.1 X.2.1 X.2.2.2.1 (X.2.2.1 _ cn_Ha_58) d_Ha_compress_235 ?_
                        refine t_eq (y := iI 1859775393) (by decide) ?_
                        refine lv_iadd X.1 X.2.1 d_Ha_compress_237 ?_
                        refine t_u (fun z80 l80 u80 => ?_)
                        refine lv_istore (lv' := [(7, .int (iI z80)), (0, .ref h), (1, .int (iI z21)), (2, .int (iI z22)), (3, .int (iI z23)), (4, .int (iI z24)), (5, .int (iI z25)), (6, .int (iI z26))]) X.1 X.2.1 d_Ha_compress_238 hl (by decide) rfl (fun ls hl => ?_)
                        refine lv_goto (tgt := 282) X.1 X.2.1 d_Ha_compress_240 (by decide) ?_
                        exact J48 z80 _ _ _ (by omega) (by omega) Y S (lv_sub hl [1, 2, 3, 4, 5, 6, 7, 0] rfl)
                    · refine lv_iload_n X.1 X.2.1 d_Ha_compress_204 rfl (lv_at hl 2 rfl) ?_
                      refine lv_iload_n X.1 X.2.1 d_Ha_compress_205 rfl (lv_at hl 3 rfl) ?_
                      refine lv_iand X.1 X.2.1 d_Ha_compress_206 ?_
                      refine t_u (fun z82 l82 u82 => ?_)
                      refine lv_iload_n X.1 X.2.1 d_Ha_compress_207 rfl (lv_at hl 2 rfl) ?_
                      refine lv_iconst (v := iI (-1)) X.1 X.2.1 d_Ha_compress_208 (by decide) ?_
                      refine lv_ixor X.1 X.2.1 d_Ha_compress_209 ?_
                      refine t_u (fun z83 l83 u83 => ?_)
                      refine lv_iload X.1 X.2.1 d_Ha_compress_210 (lv_at hl 4 rfl) ?_
                      refine lv_iand X.1 X.2.1 d_Ha_compress_212 ?_
                      refine t_u (fun z85 l85 u85 => ?_)
                      refine lv_ior X.1 X.2.1 d_Ha_compress_213 ?_
                      refine t_u (fun z86 l86 u86 => ?_)
                      refine lv_ldc (v := (1518500249)) X.1 X.2.1 X.2.2.2.1 (X.2.2.1 _ cn_Ha_57) d_Ha_compress_214 ?_
                      refine t_eq (y := iI 1518500249) (by decide) ?_
                      refine lv_iadd X.1 X.2.1 d_Ha_compress_216 ?_
                      refine t_u (fun z87 l87 u87 => ?_)
                      refine lv_istore (lv' := [(7, .int (iI z87)), (0, .ref h), (1, .int (iI z21)), (2, .int (iI z22)), (3, .int (iI z23)), (4, .int (iI z24)), (5, .int (iI z25)), (6, .int (iI z26))]) X.1 X.2.1 d_Ha_compress_217 hl (by decide) rfl (fun ls hl => ?_)
                      refine lv_goto (tgt := 282) X.1 X.2.1 d_Ha_compress_219 (by decide) ?_
                      exact J48 z87 _ _ _ (by omega) (by omega) Y S (lv_sub hl [1, 2, 3, 4, 5, 6, 7, 0] rfl)
              refine lv_istore (lv' := [(6, .int (iI 0)), (5, .int (iI z20)), (4, .int (iI z19)), (3, .int (iI z18)), (2, .int (iI z17)), (1, .int (iI z16)), (0, .ref h)]) X.1 X.2.1 d_Ha_compress_188 hl (by decide) rfl (fun ls hl => ?_)
              exact J27 _ z16 z17 z18 z19 z20 0 _ _ _ rfl (by omega) (by omega) (by omega) (by omega) (by omega) (by omega) (by omega) (by omega) (by omega) (by omega) (by omega) (by omega) Y S (lv_sub hl [6, 5, 4, 3, 2, 1, 0] rfl)
            · refine lv_aload_n X.1 X.2.1 d_Ha_compress_91 rfl (lv_at hl 0 rfl) ?_
              refine t_getr (ci := 6) X Y S k0 rfl i_Ha 0 (by decide) rfl (k1 := 2) (k2 := 80) rfl rfl lk_Ha_7 (fun _ h9 => h9) d_Ha_compress_92 (fun b88 e88 k88 => ?_)
              refine lv_iload_n X.1 X.2.1 d_Ha_compress_95 rfl (lv_at hl 1 rfl) ?_
              refine lv_iconst (v := iI 3) X.1 X.2.1 d_Ha_compress_96 (by decide) ?_
              refine z_isub X.1 X.2.1 d_Ha_compress_97 ?_
              refine t_iald2 X Y S k88 (by omega) (by omega) (by omega) d_Ha_compress_98 (fun z89 l89 u89 => ?_)
              refine lv_aload_n X.1 X.2.1 d_Ha_compress_99 rfl (lv_at hl 0 rfl) ?_
              refine t_get0 (ci := 6) X Y S k0 rfl i_Ha 0 (by decide) rfl lk_Ha_7 (fun _ h9 => h9) d_Ha_compress_100 e88 ?_
              refine lv_iload_n X.1 X.2.1 d_Ha_compress_103 rfl (lv_at hl 1 rfl) ?_
              refine lv_bipush (v := iI 8) X.1 X.2.1 d_Ha_compress_104 (by decide) ?_
              refine z_isub X.1 X.2.1 d_Ha_compress_106 ?_
              refine t_iald2 X Y S k88 (by omega) (by omega) (by omega) d_Ha_compress_107 (fun z90 l90 u90 => ?_)
              refine lv_ixor X.1 X.2.1 d_Ha_compress_108 ?_
              refine t_u (fun z91 l91 u91 => ?_)
              refine lv_aload_n X.1 X.2.1 d_Ha_compress_109 rfl (lv_at hl 0 rfl) ?_
              refine t_get0 (ci := 6) X Y S k0 rfl i_Ha 0 (by decide) rfl lk_Ha_7 (fun _ h9 => h9) d_Ha_compress_110 e88 ?_
              refine lv_iload_n X.1 X.2.1 d_Ha_compress_113 rfl (lv_at hl 1 rfl) ?_
              refine lv_bipush (v := iI 14) X.1 X.2.1 d_Ha_compress_114 (by decide) ?_
              refine z_isub X.1 X.2.1 d_Ha_compress_116 ?_
              refine t_iald2 X Y S k88 (by omega) (by omega) (by omega) d_Ha_compress_117 (fun z92 l92 u92 => ?_)
              refine lv_ixor X.1 X.2.1 d_Ha_compress_118 ?_
              refine t_u (fun z93 l93 u93 => ?_)
              refine lv_aload_n X.1 X.2.1 d_Ha_compress_119 rfl (lv_at hl 0 rfl) ?_
              refine t_get0 (ci := 6) X Y S k0 rfl i_Ha 0 (by decide) rfl lk_Ha_7 (fun _ h9 => h9) d_Ha_compress_120 e88 ?_
              refine lv_iload_n X.1 X.2.1 d_Ha_compress_123 rfl (lv_at hl 1 rfl) ?_
              refine lv_bipush (v := iI 16) X.1 X.2.1 d_Ha_compress_124 (by decide) ?_
              refine z_isub X.1 X.2.1 d_Ha_compress_126 ?_
              refine t_iald2 X Y S k88 (by omega) (by omega) (by omega) d_Ha_compress_127 (fun z94 l94 u94 => ?_)
              refine lv_ixor X.1 X.2.1 d_Ha_compress_128 ?_
              refine t_u (fun z95 l95 u95 => ?_)
              refine lv_istore_n (lv' := [(2, .int (iI z95)), (0, .ref h), (1, .int (iI z9))]) X.1 X.2.1 d_Ha_compress_129 rfl hl (by decide) rfl (fun ls hl => ?_)
              refine lv_aload_n X.1 X.2.1 d_Ha_compress_130 rfl (lv_at hl 1 rfl) ?_
              refine t_get0 (ci := 6) X Y S k0 rfl i_Ha 0 (by decide) rfl lk_Ha_7 (fun _ h9 => h9) d_Ha_compress_131 e88 ?_
              refine lv_iload_n X.1 X.2.1 d_Ha_compress_134 rfl (lv_at hl 2 rfl) ?_
              refine lv_iload_n X.1 X.2.1 d_Ha_compress_135 rfl (lv_at hl 0 rfl) ?_
              refine lv_iconst (v := iI 1) X.1 X.2.1 d_Ha_compress_136 (by decide) ?_
              refine lv_ishl X.1 X.2.1 d_Ha_compress_137 ?_
              refine t_u (fun z96 l96 u96 => ?_)
              refine lv_iload_n X.1 X.2.1 d_Ha_compress_138 rfl (lv_at hl 0 rfl) ?_
              refine lv_bipush (v := iI 31) X.1 X.2.1 d_Ha_compress_139 (by decide) ?_
              refine lv_iushr X.1 X.2.1 d_Ha_compress_141 rfl ?_
              refine t_u (fun z97 l97 u97 => ?_)
              refine lv_ior X.1 X.2.1 d_Ha_compress_142 ?_
              refine t_u (fun z98 l98 u98 => ?_)
              refine t_iast2 X Y S k88 (by omega) (by omega) (by omega) (nF_of S k88 (by decide)) d_Ha_compress_143 (fun f99 H locs Y S w99 => ?_)
              refine lv_iinc (v := iI (z9 + 1)) (lv' := [(1, .int (iI (z9 + 1))), (2, .int (iI z95)), (0, .ref h)]) X.1 X.2.1 d_Ha_compress_144 hl (k := 2) rfl ((iI_add _ _).trans (congrArg iI (by omega))) (by decide) rfl (fun ls hl => ?_)
              refine lv_goto (tgt := 85) X.1 X.2.1 d_Ha_compress_147 (by decide) ?_
              exact ih11 ((80 - (z9 + 1)).toNat) (by omega) (z9 + 1) f99 _ _ _ rfl (by omega) (by omega) Y S (lv_sub hl [2, 0] rfl)
        refine lv_istore_n (lv' := [(1, .int (iI 16)), (0, .ref h)]) X.1 X.2.1 d_Ha_compress_84 rfl hl (by decide) rfl (fun ls hl => ?_)
        exact J10 _ 16 f1 _ _ _ rfl (by omega) (by omega) Y S (lv_sub hl [1, 0] rfl)
      · refine lv_aload_n X.1 X.2.1 d_Ha_compress_8 rfl (lv_at hl 0 rfl) ?_
        refine t_getr (ci := 6) X Y S k0 rfl i_Ha 0 (by decide) rfl (k1 := 2) (k2 := 80) rfl rfl lk_Ha_7 (fun _ h9 => h9) d_Ha_compress_9 (fun b100 e100 k100 => ?_)
        refine lv_iload_n X.1 X.2.1 d_Ha_compress_12 rfl (lv_at hl 1 rfl) ?_
        refine lv_aload_n X.1 X.2.1 d_Ha_compress_13 rfl (lv_at hl 0 rfl) ?_
        refine t_getr (ci := 6) X Y S k0 rfl i_Ha 1 (by decide) rfl (k1 := 1) (k2 := 64) rfl rfl lk_Ha_13 (fun _ h9 => h9) d_Ha_compress_14 (fun b101 e101 k101 => ?_)
        refine lv_iconst (v := iI 4) X.1 X.2.1 d_Ha_compress_17 (by decide) ?_
        refine lv_iload_n X.1 X.2.1 d_Ha_compress_18 rfl (lv_at hl 1 rfl) ?_
        refine z_imul X.1 X.2.1 d_Ha_compress_19 ?_
        refine t_bald X Y S (Or.inl k101) (by omega) (by omega) (by omega) d_Ha_compress_20 (fun z102 l102 u102 => ?_)
        refine lv_bipush (v := iI 24) X.1 X.2.1 d_Ha_compress_21 (by decide) ?_
        refine lv_ishl X.1 X.2.1 d_Ha_compress_23 ?_
        refine t_u (fun z103 l103 u103 => ?_)
        refine lv_aload_n X.1 X.2.1 d_Ha_compress_24 rfl (lv_at hl 0 rfl) ?_
        refine t_get0 (ci := 6) X Y S k0 rfl i_Ha 1 (by decide) rfl lk_Ha_13 (fun _ h9 => h9) d_Ha_compress_25 e101 ?_
        refine lv_iconst (v := iI 4) X.1 X.2.1 d_Ha_compress_28 (by decide) ?_
        refine lv_iload_n X.1 X.2.1 d_Ha_compress_29 rfl (lv_at hl 1 rfl) ?_
        refine z_imul X.1 X.2.1 d_Ha_compress_30 ?_
        refine lv_iconst (v := iI 1) X.1 X.2.1 d_Ha_compress_31 (by decide) ?_
        refine z_iadd X.1 X.2.1 d_Ha_compress_32 ?_
        refine t_bald X Y S (Or.inl k101) (by omega) (by omega) (by omega) d_Ha_compress_33 (fun z104 l104 u104 => ?_)
        refine lv_sipush (v := iI 255) X.1 X.2.1 d_Ha_compress_34 (by decide) ?_
        refine z_iand X.1 X.2.1 (by omega) (by omega) d_Ha_compress_37 (fun z105 l105 u105 => ?_)
        refine lv_bipush (v := iI 16) X.1 X.2.1 d_Ha_compress_38 (by decide) ?_
        refine lv_ishl X.1 X.2.1 d_Ha_compress_40 ?_
        refine t_u (fun z106 l106 u106 => ?_)
        refine lv_ior X.1 X.2.1 d_Ha_compress_41 ?_
        refine t_u (fun z107 l107 u107 => ?_)
        refine lv_aload_n X.1 X.2.1 d_Ha_compress_42 rfl (lv_at hl 0 rfl) ?_
        refine t_get0 (ci := 6) X Y S k0 rfl i_Ha 1 (by decide) rfl lk_Ha_13 (fun _ h9 => h9) d_Ha_compress_43 e101 ?_
        refine lv_iconst (v := iI 4) X.1 X.2.1 d_Ha_compress_46 (by decide) ?_
        refine lv_iload_n X.1 X.2.1 d_Ha_compress_47 rfl (lv_at hl 1 rfl) ?_
        refine z_imul X.1 X.2.1 d_Ha_compress_48 ?_
        refine lv_iconst (v := iI 2) X.1 X.2.1 d_Ha_compress_49 (by decide) ?_
        refine z_iadd X.1 X.2.1 d_Ha_compress_50 ?_
        refine t_bald X Y S (Or.inl k101) (by omega) (by omega) (by omega) d_Ha_compress_51 (fun z108 l108 u108 => ?_)
        refine lv_sipush (v := iI 255) X.1 X.2.1 d_Ha_compress_52 (by decide) ?_
        refine z_iand X.1 X.2.1 (by omega) (by omega) d_Ha_compress_55 (fun z109 l109 u109 => ?_)
        refine lv_bipush (v := iI 8) X.1 X.2.1 d_Ha_compress_56 (by decide) ?_
        refine lv_ishl X.1 X.2.1 d_Ha_compress_58 ?_
        refine t_u (fun z110 l110 u110 => ?_)
        refine lv_ior X.1 X.2.1 d_Ha_compress_59 ?_
        refine t_u (fun z111 l111 u111 => ?_)
        refine lv_aload_n X.1 X.2.1 d_Ha_compress_60 rfl (lv_at hl 0 rfl) ?_
        refine t_get0 (ci := 6) X Y S k0 rfl i_Ha 1 (by decide) rfl lk_Ha_13 (fun _ h9 => h9) d_Ha_compress_61 e101 ?_
        refine lv_iconst (v := iI 4) X.1 X.2.1 d_Ha_compress_64 (by decide) ?_
        refine lv_iload_n X.1 X.2.1 d_Ha_compress_65 rfl (lv_at hl 1 rfl) ?_
        refine z_imul X.1 X.2.1 d_Ha_compress_66 ?_
        refine lv_iconst (v := iI 3) X.1 X.2.1 d_Ha_compress_67 (by decide) ?_
        refine z_iadd X.1 X.2.1 d_Ha_compress_68 ?_
        refine t_bald X Y S (Or.inl k101) (by omega) (by omega) (by omega) d_Ha_compress_69 (fun z112 l112 u112 => ?_)
        refine lv_sipush (v := iI 255) X.1 X.2.1 d_Ha_compress_70 (by decide) ?_
        refine z_iand X.1 X.2.1 (by omega) (by omega) d_Ha_compress_73 (fun z113 l113 u113 => ?_)
        refine lv_ior X.1 X.2.1 d_Ha_compress_74 ?_
        refine t_u (fun z114 l114 u114 => ?_)
        refine t_iast2 X Y S k100 (by omega) (by omega) (by omega) (nF_of S k100 (by decide)) d_Ha_compress_75 (fun f115 H locs Y S w115 => ?_)
        refine lv_iinc (v := iI (z2 + 1)) (lv' := [(1, .int (iI (z2 + 1))), (0, .ref h)]) X.1 X.2.1 d_Ha_compress_76 hl (k := 1) rfl ((iI_add _ _).trans (congrArg iI (by omega))) (by decide) rfl (fun ls hl => ?_)
        refine lv_goto (tgt := 2) X.1 X.2.1 d_Ha_compress_79 (by decide) ?_
        exact ih4 ((16 - (z2 + 1)).toNat) (by omega) (z2 + 1) f115 _ _ _ rfl (by omega) (by omega) Y S (lv_sub hl [1, 0] rfl)
  refine lv_istore_n (lv' := [(1, .int (iI 0)), (0, .ref h)]) X.1 X.2.1 d_Ha_compress_1 rfl hl (by decide) rfl (fun ls hl => ?_)
  exact J3 _ 0 f _ _ _ rfl (by omega) (by omega) Y S (lv_sub hl [1, 0] rfl)
set_option maxHeartbeats 4000000 in
set_option maxRecDepth 100000 in
theorem c_Ha_pad (l : Launch) (D : va_G) (E : cE) (T : cT) (κ : tK) (L : List Nat) (f : pF) (sz : Nat) (h : Nat) (k0 : κ h = (16, 0)) (a1 n1 : Nat) (k1 : tSrc T κ a1 n1) (x1 : n1 ≤ 12288) (a2 : Int) (l_a2 : (-1) ≤ a2) (u_a2 : a2 ≤ 20200) (a3 : Int) (l_a3 : (-40400) ≤ a3) (u_a3 : a3 ≤ 40400) (a4 : Int) (l_a4 : (-2147483648) ≤ a4) (u_a4 : a4 ≤ 2147483647) (hw : tW E T κ L f) : Met l y_Ha_pad (k_Ha_pad :: lw_tg) (kRm 2 88 0 0) (va_Pc [.ref h, .ref a1, .int (iI a2), .int (iI a3), .int (iI a4)] (kPre D E T L f sz)) (va_Qv (nPv E T [1, 2, 3, 4] κ L f (fun (g : pF) => True)) (cPost D E (pA L sz)) (pA L sz)) 0 0 (pA L sz) := by
  refine k_enter (own := R_Ha) (by decide) rfl (Nat.le_of_ble_eq_true rfl) (fun p e s m below meth c ls AV QQ H locs hQQ X Y hA hin hr hlk hml hl KS KR => ?_)
  have hl : lv_has ls 7 [(0, .ref h), (1, .ref a1), (2, .int (iI a2)), (3, .int (iI a3)), (4, .int (iI a4))] := hl
  have S : tS E T (tFr κ L [1, 2, 3, 4] []) κ L f κ L f := tS_rf hw
  refine lv_iconst (v := iI 0) X.1 X.2.1 d_Ha_pad_0 (by decide) ?_
  have J3 : ∀ (n5 : Nat) (z2 : Int) (f1 : pF) (H : Heap) (locs : List Loc) (ls : Array Slot), (64 - z2).toNat = n5 → (0 ≤ z2) → (z2 ≤ 64) → pH D cCl (pA L sz) s.heap L f1 H locs → tS E T (tFr κ L [1, 2, 3, 4] []) κ L f κ L f1 → lv_has ls 7 [(0, .ref h), (1, .ref a1), (2, .int (iI a2)), (3, .int (iI a3)), (4, .int (iI a4)), (5, .int (iI z2))] → W p l e (kRm 2 88 0 0) s m AV below meth c H locs 0 0 QQ (F0 m 3 ls []) := by
    intro n5
    induction n5 using Nat.strongRecOn with
    | ind n5 ih4 =>
      intro z2 f1 H locs ls hm6 l2 u2 Y S hl
      refine lv_iload X.1 X.2.1 d_Ha_pad_3 (lv_at hl 5 rfl) ?_
      refine lv_bipush (v := iI 64) X.1 X.2.1 d_Ha_pad_5 (by decide) ?_
      refine z_icmp_ge (tgt := 69) X.1 X.2.1 d_Ha_pad_7 (by decide) ⟨by omega, by omega⟩ ⟨by omega, by omega⟩ (fun h7 => ?_) (fun h7 => ?_)
      · refine lv_aload_n X.1 X.2.1 d_Ha_pad_69 rfl (lv_at hl 0 rfl) ?_
        refine t_getr (ci := 6) X Y S k0 rfl i_Ha 2 (by decide) rfl (k1 := 2) (k2 := 5) rfl rfl lk_Ha_17 (fun _ h9 => h9) d_Ha_pad_70 (fun b8 e8 k8 => ?_)
        refine lv_iconst (v := iI 0) X.1 X.2.1 d_Ha_pad_73 (by decide) ?_
        refine lv_ldc (v := (1732584193)) X.1 X.2.1 X.2.2.2.1 (X.2.2.1 _ cn_Ha_39) d_Ha_pad_74 ?_
        refine t_eq (y := iI 1732584193) (by decide) ?_
        refine t_iast2 X Y S k8 (by omega) (by omega) (by omega) (nF_of S k8 (by decide)) d_Ha_pad_76 (fun f9 H locs Y S w9 => ?_)
        refine lv_aload_n X.1 X.2.1 d_Ha_pad_77 rfl (lv_at hl 0 rfl) ?_
        refine t_get0 (ci := 6) X Y S k0 rfl i_Ha 2 (by decide) rfl lk_Ha_17 (fun _ h9 => h9) d_Ha_pad_78 ((gF_same (w9 _ (k_ne k0 k8 (by decide))) 2).trans e8) ?_
        refine lv_iconst (v := iI 1) X.1 X.2.1 d_Ha_pad_81 (by decide) ?_
        refine lv_ldc (v := (-271733879)) X.1 X.2.1 X.2.2.2.1 (X.2.2.1 _ cn_Ha_40) d_Ha_pad_82 ?_
        refine t_eq (y := iI (-271733879)) (by decide) ?_
        refine t_iast2 X Y S k8 (by omega) (by omega) (by omega) (nF_of S k8 (by decide)) d_Ha_pad_84 (fun f10 H locs Y S w10 => ?_)
        refine lv_aload_n X.1 X.2.1 d_Ha_pad_85 rfl (lv_at hl 0 rfl) ?_
        refine t_get0 (ci := 6) X Y S k0 rfl i_Ha 2 (by decide) rfl lk_Ha_17 (fun _ h9 => h9) d_Ha_pad_86 ((gF_same (w10 _ (k_ne k0 k8 (by decide))) 2).trans ((gF_same (w9 _ (k_ne k0 k8 (by decide))) 2).trans e8)) ?_
        refine lv_iconst (v := iI 2) X.1 X.2.1 d_Ha_pad_89 (by decide) ?_
        refine lv_ldc (v := (-1732584194)) X.1 X.2.1 X.2.2.2.1 (X.2.2.1 _ cn_Ha_41) d_Ha_pad_90 ?_
        refine t_eq (y := iI (-1732584194)) (by decide) ?_
        refine t_iast2 X Y S k8 (by omega) (by omega) (by omega) (nF_of S k8 (by decide)) d_Ha_pad_92 (fun f11 H locs Y S w11 => ?_)
        refine lv_aload_n X.1 X.2.1 d_Ha_pad_93 rfl (lv_at hl 0 rfl) ?_
        refine t_get0 (ci := 6) X Y S k0 rfl i_Ha 2 (by decide) rfl lk_Ha_17 (fun _ h9 => h9) d_Ha_pad_94 ((gF_same (w11 _ (k_ne k0 k8 (by decide))) 2).trans ((gF_same (w10 _ (k_ne k0 k8 (by decide))) 2).trans ((gF_same (w9 _ (k_ne k0 k8 (by decide))) 2).trans e8))) ?_
        refine lv_iconst (v := iI 3) X.1 X.2.1 d_Ha_pad_97 (by decide) ?_
        refine lv_ldc (v := (271733878)) X.1 X.2.1 X.2.2.2.1 (X.2.2.1 _ cn_Ha_42) d_Ha_pad_98 ?_
        refine t_eq (y := iI 271733878) (by decide) ?_
        refine t_iast2 X Y S k8 (by omega) (by omega) (by omega) (nF_of S k8 (by decide)) d_Ha_pad_100 (fun f12 H locs Y S w12 => ?_)
        refine lv_aload_n X.1 X.2.1 d_Ha_pad_101 rfl (lv_at hl 0 rfl) ?_
        refine t_get0 (ci := 6) X Y S k0 rfl i_Ha 2 (by decide) rfl lk_Ha_17 (fun _ h9 => h9) d_Ha_pad_102 ((gF_same (w12 _ (k_ne k0 k8 (by decide))) 2).trans ((gF_same (w11 _ (k_ne k0 k8 (by decide))) 2).trans ((gF_same (w10 _ (k_ne k0 k8 (by decide))) 2).trans ((gF_same (w9 _ (k_ne k0 k8 (by decide))) 2).trans e8)))) ?_
        refine lv_iconst (v := iI 4) X.1 X.2.1 d_Ha_pad_105 (by decide) ?_
        refine lv_ldc (v := (-1009589776)) X.1 X.2.1 X.2.2.2.1 (X.2.2.1 _ cn_Ha_43) d_Ha_pad_106 ?_
        refine t_eq (y := iI (-1009589776)) (by decide) ?_
        refine t_iast2 X Y S k8 (by omega) (by omega) (by omega) (nF_of S k8 (by decide)) d_Ha_pad_108 (fun f13 H locs Y S w13 => ?_)
        refine lv_aload_n X.1 X.2.1 d_Ha_pad_109 rfl (lv_at hl 0 rfl) ?_
        refine t_nv (t_runV (As := []) (rest := []) (n := 0) X Y S k0 hml hl.1 (c_Ha_compress l D E T κ L f13 H.size h k0 S.1) (ok_k X Y hA KS KR) rfl kl_Ha_Ha_compress ks_Ha_compress kx_Ha_compress ki_Ha_compress ini_Ha ⟨rfl, rfl⟩ hd_Ha_compress ⟨Nat.le_of_ble_eq_true rfl, Nat.le_of_ble_eq_true rfl⟩ rfl (Nat.le_of_ble_eq_true rfl) d_Ha_pad_110 ⟨Nat.le_of_ble_eq_true rfl, Nat.le_of_ble_eq_true rfl⟩) X Y hA S (by decide) (fun f14 H locs Y S s14 p14 => ?_)
        exact c_retv hQQ X Y hr hlk ⟨rfl, S, trivial⟩ d_Ha_pad_113
      · refine lv_iload X.1 X.2.1 d_Ha_pad_10 (lv_at hl 5 rfl) ?_
        refine lv_iload_n X.1 X.2.1 d_Ha_pad_12 rfl (lv_at hl 3 rfl) ?_
        have J15 : ∀  (H : Heap) (locs : List Loc) (ls : Array Slot), pH D cCl (pA L sz) s.heap L f1 H locs → tS E T (tFr κ L [1, 2, 3, 4] []) κ L f κ L f1 → lv_has ls 7 [(0, .ref h), (1, .ref a1), (2, .int (iI a2)), (3, .int (iI a3)), (4, .int (iI a4)), (5, .int (iI z2))] → W p l e (kRm 2 88 0 0) s m AV below meth c H locs 0 0 QQ (F0 m 33 ls []) := by
          intro  H locs ls  Y S hl
          refine lv_iconst (v := iI 0) X.1 X.2.1 d_Ha_pad_33 (by decide) ?_
          refine lv_istore (lv' := [(6, .int (iI 0)), (0, .ref h), (1, .ref a1), (2, .int (iI a2)), (3, .int (iI a3)), (4, .int (iI a4)), (5, .int (iI z2))]) X.1 X.2.1 d_Ha_pad_34 hl (by decide) rfl (fun ls hl => ?_)
          refine lv_aload_n X.1 X.2.1 d_Ha_pad_36 rfl (lv_at hl 1 rfl) ?_
          refine t_getr (ci := 6) X Y S k0 rfl i_Ha 1 (by decide) rfl (k1 := 1) (k2 := 64) rfl rfl lk_Ha_13 (fun _ h9 => h9) d_Ha_pad_37 (fun b19 e19 k19 => ?_)
          refine lv_iload X.1 X.2.1 d_Ha_pad_40 (lv_at hl 6 rfl) ?_
          refine lv_iload X.1 X.2.1 d_Ha_pad_42 (lv_at hl 0 rfl) ?_
          have J20 : ∀  (H : Heap) (locs : List Loc) (ls : Array Slot), pH D cCl (pA L sz) s.heap L f1 H locs → tS E T (tFr κ L [1, 2, 3, 4] []) κ L f κ L f1 → lv_has ls 7 [(0, .ref h), (1, .ref a1), (2, .int (iI a2)), (3, .int (iI a3)), (4, .int (iI a4)), (5, .int (iI z2))] → W p l e (kRm 2 88 0 0) s m AV below meth c H locs 0 0 QQ (F0 m 61 ls [.int (iI a4), .int (iI z2), .ref b19]) := by
            intro  H locs ls  Y S hl
            refine lv_i2b X.1 X.2.1 d_Ha_pad_61 rfl ?_
            refine t_u (fun z24 l24 u24 => ?_)
            refine t_bast X Y S k19 (by omega) (by omega) (by omega) (nF_of S k19 (by decide)) d_Ha_pad_62 (fun f25 H locs Y S w25 => ?_)
            refine lv_iinc (v := iI (z2 + 1)) (lv' := [(5, .int (iI (z2 + 1))), (0, .ref h), (1, .ref a1), (2, .int (iI a2)), (3, .int (iI a3)), (4, .int (iI a4))]) X.1 X.2.1 d_Ha_pad_63 hl (k := 5) rfl ((iI_add _ _).trans (congrArg iI (by omega))) (by decide) rfl (fun ls hl => ?_)
            refine lv_goto (tgt := 3) X.1 X.2.1 d_Ha_pad_66 (by decide) ?_
            exact ih4 ((64 - (z2 + 1)).toNat) (by omega) (z2 + 1) f25 _ _ _ rfl (by omega) (by omega) Y S (lv_sub hl [1, 2, 3, 4, 5, 0] rfl)
          refine z_if_eq (tgt := 59) X.1 X.2.1 d_Ha_pad_44 (by decide) ⟨by omega, by omega⟩ (fun h26 => ?_) (fun h26 => False.elim (by omega))
          · refine lv_iload X.1 X.2.1 d_Ha_pad_59 (lv_at hl 5 rfl) ?_
            exact J20  _ _ _  Y S (lv_sub hl [1, 2, 3, 4, 5, 6] rfl)
        refine z_icmp_ge (tgt := 33) X.1 X.2.1 d_Ha_pad_13 (by decide) ⟨by omega, by omega⟩ ⟨by omega, by omega⟩ (fun h27 => ?_) (fun h27 => ?_)
        · exact J15  _ _ _  Y S (lv_sub hl [0, 1, 2, 3, 4, 5] rfl)
        · refine lv_iload_n X.1 X.2.1 d_Ha_pad_16 rfl (lv_at hl 2 rfl) ?_
          refine z_if_lt (tgt := 33) X.1 X.2.1 d_Ha_pad_17 (by decide) ⟨by omega, by omega⟩ (fun h28 => ?_) (fun h28 => ?_)
          · exact J15  _ _ _  Y S (lv_sub hl [0, 1, 2, 3, 4, 5] rfl)
          · refine lv_iload_n X.1 X.2.1 d_Ha_pad_20 rfl (lv_at hl 2 rfl) ?_
            refine lv_iload X.1 X.2.1 d_Ha_pad_21 (lv_at hl 5 rfl) ?_
            refine z_iadd X.1 X.2.1 d_Ha_pad_23 ?_
            refine lv_aload_n X.1 X.2.1 d_Ha_pad_24 rfl (lv_at hl 1 rfl) ?_
            refine t_alen X Y S KS k1 (by omega) d_Ha_pad_25 ?_
            refine z_icmp_ge (tgt := 33) X.1 X.2.1 d_Ha_pad_26 (by decide) ⟨by omega, by omega⟩ ⟨by omega, by omega⟩ (fun h29 => ?_) (fun h29 => ?_)
            · exact J15  _ _ _  Y S (lv_sub hl [0, 1, 2, 3, 4, 5] rfl)
            · refine lv_iconst (v := iI 1) X.1 X.2.1 d_Ha_pad_29 (by decide) ?_
              refine lv_goto (tgt := 34) X.1 X.2.1 d_Ha_pad_30 (by decide) ?_
              refine lv_istore (lv' := [(6, .int (iI 1)), (0, .ref h), (1, .ref a1), (2, .int (iI a2)), (3, .int (iI a3)), (4, .int (iI a4)), (5, .int (iI z2))]) X.1 X.2.1 d_Ha_pad_34 hl (by decide) rfl (fun ls hl => ?_)
              refine lv_aload_n X.1 X.2.1 d_Ha_pad_36 rfl (lv_at hl 1 rfl) ?_
              refine t_getr (ci := 6) X Y S k0 rfl i_Ha 1 (by decide) rfl (k1 := 1) (k2 := 64) rfl rfl lk_Ha_13 (fun _ h9 => h9) d_Ha_pad_37 (fun b30 e30 k30 => ?_)
              refine lv_iload X.1 X.2.1 d_Ha_pad_40 (lv_at hl 6 rfl) ?_
              refine lv_iload X.1 X.2.1 d_Ha_pad_42 (lv_at hl 0 rfl) ?_
              have J32 : ∀ (z31 : Int) (H : Heap) (locs : List Loc) (ls : Array Slot), ((-2147483648) ≤ z31) → (z31 ≤ 2147483647) → pH D cCl (pA L sz) s.heap L f1 H locs → tS E T (tFr κ L [1, 2, 3, 4] []) κ L f κ L f1 → lv_has ls 7 [(0, .ref h), (1, .ref a1), (2, .int (iI a2)), (3, .int (iI a3)), (4, .int (iI a4)), (5, .int (iI z2))] → W p l e (kRm 2 88 0 0) s m AV below meth c H locs 0 0 QQ (F0 m 61 ls [.int (iI z31), .int (iI z2), .ref b30]) := by
                intro z31 H locs ls l31 u31 Y S hl
                refine lv_i2b X.1 X.2.1 d_Ha_pad_61 rfl ?_
                refine t_u (fun z36 l36 u36 => ?_)
                refine t_bast X Y S k30 (by omega) (by omega) (by omega) (nF_of S k30 (by decide)) d_Ha_pad_62 (fun f37 H locs Y S w37 => ?_)
                refine lv_iinc (v := iI (z2 + 1)) (lv' := [(5, .int (iI (z2 + 1))), (0, .ref h), (1, .ref a1), (2, .int (iI a2)), (3, .int (iI a3)), (4, .int (iI a4))]) X.1 X.2.1 d_Ha_pad_63 hl (k := 5) rfl ((iI_add _ _).trans (congrArg iI (by omega))) (by decide) rfl (fun ls hl => ?_)
                refine lv_goto (tgt := 3) X.1 X.2.1 d_Ha_pad_66 (by decide) ?_
                exact ih4 ((64 - (z2 + 1)).toNat) (by omega) (z2 + 1) f37 _ _ _ rfl (by omega) (by omega) Y S (lv_sub hl [1, 2, 3, 4, 5, 0] rfl)
              refine z_if_eq (tgt := 59) X.1 X.2.1 d_Ha_pad_44 (by decide) ⟨by omega, by omega⟩ (fun h38 => False.elim (by omega)) (fun h38 => ?_)
              · refine lv_aload_n X.1 X.2.1 d_Ha_pad_47 rfl (lv_at hl 2 rfl) ?_
                refine lv_iload_n X.1 X.2.1 d_Ha_pad_48 rfl (lv_at hl 3 rfl) ?_
                refine lv_iload X.1 X.2.1 d_Ha_pad_49 (lv_at hl 6 rfl) ?_
                refine z_iadd X.1 X.2.1 d_Ha_pad_51 ?_
                refine t_bald X Y S k1 (by omega) (by omega) (by omega) d_Ha_pad_52 (fun z39 l39 u39 => ?_)
                refine lv_iload X.1 X.2.1 d_Ha_pad_53 (lv_at hl 5 rfl) ?_
                refine lv_ixor X.1 X.2.1 d_Ha_pad_55 ?_
                refine t_u (fun z40 l40 u40 => ?_)
                refine lv_goto (tgt := 61) X.1 X.2.1 d_Ha_pad_56 (by decide) ?_
                exact J32 z40 _ _ _ (by omega) (by omega) Y S (lv_sub hl [1, 2, 3, 4, 5, 6] rfl)
  refine lv_istore (lv' := [(5, .int (iI 0)), (0, .ref h), (1, .ref a1), (2, .int (iI a2)), (3, .int (iI a3)), (4, .int (iI a4))]) X.1 X.2.1 d_Ha_pad_1 hl (by decide) rfl (fun ls hl => ?_)
  exact J3 _ 0 f _ _ _ rfl (by omega) (by omega) Y S (lv_sub hl [1, 2, 3, 4, 5, 0] rfl)
set_option maxHeartbeats 4000000 in
set_option maxRecDepth 100000 in
theorem c_Ha_setKey (l : Launch) (D : va_G) (E : cE) (T : cT) (κ : tK) (L : List Nat) (f : pF) (sz : Nat) (h : Nat) (k0 : κ h = (16, 0)) (a1 n1 : Nat) (k1 : tSrc T κ a1 n1) (x1 : n1 ≤ 12288) (a2 : Int) (l_a2 : (-1) ≤ a2) (u_a2 : a2 ≤ 20200) (a3 : Int) (l_a3 : (-40400) ≤ a3) (u_a3 : a3 ≤ 40400) (hw : tW E T κ L f) : Met l y_Ha_setKey (k_Ha_setKey :: lw_tg) (kRm 3 114 0 0) (va_Pc [.ref h, .ref a1, .int (iI a2), .int (iI a3)] (kPre D E T L f sz)) (va_Qv (nPv E T [1, 2, 3, 4] κ L f (fun (g : pF) => True)) (cPost D E (pA L sz)) (pA L sz)) 0 0 (pA L sz) := by
  refine k_enter (own := R_Ha) (by decide) rfl (Nat.le_of_ble_eq_true rfl) (fun p e s m below meth c ls AV QQ H locs hQQ X Y hA hin hr hlk hml hl KS KR => ?_)
  have hl : lv_has ls 4 [(0, .ref h), (1, .ref a1), (2, .int (iI a2)), (3, .int (iI a3))] := hl
  have S : tS E T (tFr κ L [1, 2, 3, 4] []) κ L f κ L f := tS_rf hw
  refine lv_aload_n X.1 X.2.1 d_Ha_setKey_0 rfl (lv_at hl 0 rfl) ?_
  refine lv_aload_n X.1 X.2.1 d_Ha_setKey_1 rfl (lv_at hl 1 rfl) ?_
  refine lv_iload_n X.1 X.2.1 d_Ha_setKey_2 rfl (lv_at hl 2 rfl) ?_
  refine lv_iload_n X.1 X.2.1 d_Ha_setKey_3 rfl (lv_at hl 3 rfl) ?_
  refine lv_bipush (v := iI 54) X.1 X.2.1 d_Ha_setKey_4 (by decide) ?_
  refine t_nv (t_runV (As := [.ref a1, .int (iI a2), .int (iI a3), .int (iI 54)]) (rest := []) (n := 4) X Y S k0 hml hl.1 (c_Ha_pad l D E T κ L f H.size h k0 a1 n1 k1 (by omega) a2 (by omega) (by omega) a3 (by omega) (by omega) 54 (by omega) (by omega) S.1) (ok_k X Y hA KS KR) rfl kl_Ha_Ha_pad ks_Ha_pad kx_Ha_pad ki_Ha_pad ini_Ha ⟨rfl, rfl⟩ hd_Ha_pad ⟨Nat.le_of_ble_eq_true rfl, Nat.le_of_ble_eq_true rfl⟩ rfl (Nat.le_of_ble_eq_true rfl) d_Ha_setKey_6 ⟨Nat.le_of_ble_eq_true rfl, Nat.le_of_ble_eq_true rfl⟩) X Y hA S (by decide) (fun f1 H locs Y S s1 p1 => ?_)
  refine lv_aload_n X.1 X.2.1 d_Ha_setKey_9 rfl (lv_at hl 0 rfl) ?_
  refine t_getr (ci := 6) X Y S k0 rfl i_Ha 2 (by decide) rfl (k1 := 2) (k2 := 5) rfl rfl lk_Ha_17 (fun _ h9 => h9) d_Ha_setKey_10 (fun b2 e2 k2 => ?_)
  refine lv_iconst (v := iI 0) X.1 X.2.1 d_Ha_setKey_13 (by decide) ?_
  refine lv_aload_n X.1 X.2.1 d_Ha_setKey_14 rfl (lv_at hl 0 rfl) ?_
  refine t_getr (ci := 6) X Y S k0 rfl i_Ha 3 (by decide) rfl (k1 := 2) (k2 := 5) rfl rfl lk_Ha_20 (fun _ h9 => h9) d_Ha_setKey_15 (fun b3 e3 k3 => ?_)
  refine lv_iconst (v := iI 0) X.1 X.2.1 d_Ha_setKey_18 (by decide) ?_
  refine lv_iconst (v := iI 5) X.1 X.2.1 d_Ha_setKey_19 (by decide) ?_
  refine t_copyI (Or.inl rfl) X Y S (hml.trans hl.1.symm) kl_Ha_copy k2 k3 (by omega) (by omega) (by omega) (by omega) (by omega) (by omega) (by omega) (nF_of S k3 (by decide)) (Nat.le_of_ble_eq_true rfl) (Nat.le_of_ble_eq_true rfl) d_Ha_setKey_20 (fun f4 H locs Y S w4 => ?_)
  refine lv_aload_n X.1 X.2.1 d_Ha_setKey_23 rfl (lv_at hl 0 rfl) ?_
  refine lv_aload_n X.1 X.2.1 d_Ha_setKey_24 rfl (lv_at hl 1 rfl) ?_
  refine lv_iload_n X.1 X.2.1 d_Ha_setKey_25 rfl (lv_at hl 2 rfl) ?_
  refine lv_iload_n X.1 X.2.1 d_Ha_setKey_26 rfl (lv_at hl 3 rfl) ?_
  refine lv_bipush (v := iI 92) X.1 X.2.1 d_Ha_setKey_27 (by decide) ?_
  refine t_nv (t_runV (As := [.ref a1, .int (iI a2), .int (iI a3), .int (iI 92)]) (rest := []) (n := 4) X Y S k0 hml hl.1 (c_Ha_pad l D E T κ L f4 H.size h k0 a1 n1 k1 (by omega) a2 (by omega) (by omega) a3 (by omega) (by omega) 92 (by omega) (by omega) S.1) (ok_k X Y hA KS KR) rfl kl_Ha_Ha_pad ks_Ha_pad kx_Ha_pad ki_Ha_pad ini_Ha ⟨rfl, rfl⟩ hd_Ha_pad ⟨Nat.le_of_ble_eq_true rfl, Nat.le_of_ble_eq_true rfl⟩ rfl (Nat.le_of_ble_eq_true rfl) d_Ha_setKey_29 ⟨Nat.le_of_ble_eq_true rfl, Nat.le_of_ble_eq_true rfl⟩) X Y hA S (by decide) (fun f5 H locs Y S s5 p5 => ?_)
  refine lv_aload_n X.1 X.2.1 d_Ha_setKey_32 rfl (lv_at hl 0 rfl) ?_
  refine t_get0 (ci := 6) X Y S k0 rfl i_Ha 2 (by decide) rfl lk_Ha_17 (fun _ h9 => h9) d_Ha_setKey_33 ((gF_same (s5.2.2.2 _ ⟨(t_obj S.1 k0).1, nM_of k0 (by decide), by simp⟩).1 2).trans ((gF_same (w4 _ (k_ne k0 k3 (by decide))) 2).trans e2)) ?_
  refine lv_iconst (v := iI 0) X.1 X.2.1 d_Ha_setKey_36 (by decide) ?_
  refine lv_aload_n X.1 X.2.1 d_Ha_setKey_37 rfl (lv_at hl 0 rfl) ?_
  refine t_getr (ci := 6) X Y S k0 rfl i_Ha 4 (by decide) rfl (k1 := 2) (k2 := 5) rfl rfl lk_Ha_23 (fun _ h9 => h9) d_Ha_setKey_38 (fun b6 e6 k6 => ?_)
  refine lv_iconst (v := iI 0) X.1 X.2.1 d_Ha_setKey_41 (by decide) ?_
  refine lv_iconst (v := iI 5) X.1 X.2.1 d_Ha_setKey_42 (by decide) ?_
  refine t_copyI (Or.inl rfl) X Y S (hml.trans hl.1.symm) kl_Ha_copy k2 k6 (by omega) (by omega) (by omega) (by omega) (by omega) (by omega) (by omega) (nF_of S k6 (by decide)) (Nat.le_of_ble_eq_true rfl) (Nat.le_of_ble_eq_true rfl) d_Ha_setKey_43 (fun f7 H locs Y S w7 => ?_)
  exact c_retv hQQ X Y hr hlk ⟨rfl, S, trivial⟩ d_Ha_setKey_46
set_option maxHeartbeats 4000000 in
set_option maxRecDepth 100000 in
theorem c_Ha_begin (l : Launch) (D : va_G) (E : cE) (T : cT) (κ : tK) (L : List Nat) (f : pF) (sz : Nat) (h : Nat) (k0 : κ h = (16, 0)) (hw : tW E T κ L f) : Met l y_Ha_begin (k_Ha_begin :: lw_tg) (kRm 1 60 0 0) (va_Pc [.ref h] (kPre D E T L f sz)) (va_Qv (nPv E T [1, 2, 3, 16] κ L f (fun (g : pF) => (∃ fl : Int, gF g h 5 = .int (iI fl) ∧ 0 ≤ fl ∧ fl ≤ 63))) (cPost D E (pA L sz)) (pA L sz)) 0 0 (pA L sz) := by
  refine k_enter (own := R_Ha) (by decide) rfl (Nat.le_of_ble_eq_true rfl) (fun p e s m below meth c ls AV QQ H locs hQQ X Y hA hin hr hlk hml hl KS KR => ?_)
  have hl : lv_has ls 1 [(0, .ref h)] := hl
  have S : tS E T (tFr κ L [1, 2, 3, 16] []) κ L f κ L f := tS_rf hw
  refine lv_aload_n X.1 X.2.1 d_Ha_begin_0 rfl (lv_at hl 0 rfl) ?_
  refine t_getr (ci := 6) X Y S k0 rfl i_Ha 3 (by decide) rfl (k1 := 2) (k2 := 5) rfl rfl lk_Ha_20 (fun _ h9 => h9) d_Ha_begin_1 (fun b1 e1 k1 => ?_)
  refine lv_iconst (v := iI 0) X.1 X.2.1 d_Ha_begin_4 (by decide) ?_
  refine lv_aload_n X.1 X.2.1 d_Ha_begin_5 rfl (lv_at hl 0 rfl) ?_
  refine t_getr (ci := 6) X Y S k0 rfl i_Ha 2 (by decide) rfl (k1 := 2) (k2 := 5) rfl rfl lk_Ha_17 (fun _ h9 => h9) d_Ha_begin_6 (fun b2 e2 k2 => ?_)
  refine lv_iconst (v := iI 0) X.1 X.2.1 d_Ha_begin_9 (by decide) ?_
  refine lv_iconst (v := iI 5) X.1 X.2.1 d_Ha_begin_10 (by decide) ?_
  refine t_copyI (Or.inl rfl) X Y S (hml.trans hl.1.symm) kl_Ha_copy k1 k2 (by omega) (by omega) (by omega) (by omega) (by omega) (by omega) (by omega) (nF_of S k2 (by decide)) (Nat.le_of_ble_eq_true rfl) (Nat.le_of_ble_eq_true rfl) d_Ha_begin_11 (fun f3 H locs Y S w3 => ?_)
  refine lv_aload_n X.1 X.2.1 d_Ha_begin_14 rfl (lv_at hl 0 rfl) ?_
  refine lv_iconst (v := iI 0) X.1 X.2.1 d_Ha_begin_15 (by decide) ?_
  refine t_put (ci := 6) X Y S k0 rfl i_Ha t_Ha t_Ha_ok n_Ha 5 (by decide) rfl lk_Ha_47 (fun _ h9 => h9) rfl (t_Ha_ok 5 (by decide)) rfl rfl ⟨_, rfl, (show (0 : Int) ≤ 0 by omega), (show 0 ≤ (64 : Int) by omega)⟩ (nF_of S k0 (by decide)) d_Ha_begin_16 (fun f4 H locs Y S w4 => ?_)
  refine lv_aload_n X.1 X.2.1 d_Ha_begin_19 rfl (lv_at hl 0 rfl) ?_
  refine lv_bipush (v := iI 64) X.1 X.2.1 d_Ha_begin_20 (by decide) ?_
  refine t_put (ci := 6) X Y S k0 rfl i_Ha t_Ha t_Ha_ok n_Ha 6 (by decide) rfl lk_Ha_51 (fun _ h9 => h9) rfl (t_Ha_ok 6 (by decide)) rfl rfl ⟨_, rfl, (show ((-2147483648) : Int) ≤ 64 by omega), (show 64 ≤ (2147483647 : Int) by omega)⟩ (nF_of S k0 (by decide)) d_Ha_begin_22 (fun f5 H locs Y S w5 => ?_)
  exact c_retv hQQ X Y hr hlk ⟨rfl, S, ⟨0, ((gF_put w5 (Or.inr (by decide))).trans w4.2.1), by omega, by omega⟩⟩ d_Ha_begin_25
set_option maxHeartbeats 4000000 in
set_option maxRecDepth 100000 in
theorem c_Ha_add (l : Launch) (D : va_G) (E : cE) (T : cT) (κ : tK) (L : List Nat) (f : pF) (sz : Nat) (h : Nat) (k0 : κ h = (16, 0)) (a1 n1 : Nat) (k1 : tSrc T κ a1 n1) (x1 : n1 ≤ 12288) (a2 : Int) (l_a2 : (-20200) ≤ a2) (u_a2 : a2 ≤ 20200) (a3 : Int) (l_a3 : (-40400) ≤ a3) (u_a3 : a3 ≤ 40400) (hw : tW E T κ L f) (fl : Int) (g0 : gF f h 5 = .int (iI fl)) (g1 : 0 ≤ fl) (g2 : fl ≤ 63) : Met l y_Ha_add (k_Ha_add :: lw_tg) (kRm 2 88 0 0) (va_Pc [.ref h, .ref a1, .int (iI a2), .int (iI a3)] (kPre D E T L f sz)) (va_Qv (nPv E T [1, 2, 3, 4, 16] κ L f (fun (g : pF) => (∃ fl : Int, gF g h 5 = .int (iI fl) ∧ 0 ≤ fl ∧ fl ≤ 63))) (cPost D E (pA L sz)) (pA L sz)) 0 0 (pA L sz) := by
  refine k_enter (own := R_Ha) (by decide) rfl (Nat.le_of_ble_eq_true rfl) (fun p e s m below meth c ls AV QQ H locs hQQ X Y hA hin hr hlk hml hl KS KR => ?_)
  have hl : lv_has ls 5 [(0, .ref h), (1, .ref a1), (2, .int (iI a2)), (3, .int (iI a3))] := hl
  have S : tS E T (tFr κ L [1, 2, 3, 4, 16] []) κ L f κ L f := tS_rf hw
  refine lv_iload_n X.1 X.2.1 d_Ha_add_0 rfl (lv_at hl 2 rfl) ?_
  refine z_if_lt (tgt := 16) X.1 X.2.1 d_Ha_add_1 (by decide) ⟨by omega, by omega⟩ (fun h1 => ?_) (fun h1 => ?_)
  · exact c_retv hQQ X Y hr hlk ⟨rfl, S, ⟨fl, g0, by omega, by omega⟩⟩ d_Ha_add_16
  · refine lv_iload_n X.1 X.2.1 d_Ha_add_4 rfl (lv_at hl 3 rfl) ?_
    refine z_if_lt (tgt := 16) X.1 X.2.1 d_Ha_add_5 (by decide) ⟨by omega, by omega⟩ (fun h2 => ?_) (fun h2 => ?_)
    · exact c_retv hQQ X Y hr hlk ⟨rfl, S, ⟨fl, g0, by omega, by omega⟩⟩ d_Ha_add_16
    · refine lv_iload_n X.1 X.2.1 d_Ha_add_8 rfl (lv_at hl 3 rfl) ?_
      refine lv_aload_n X.1 X.2.1 d_Ha_add_9 rfl (lv_at hl 1 rfl) ?_
      refine t_alen X Y S KS k1 (by omega) d_Ha_add_10 ?_
      refine lv_iload_n X.1 X.2.1 d_Ha_add_11 rfl (lv_at hl 2 rfl) ?_
      refine z_isub X.1 X.2.1 d_Ha_add_12 ?_
      refine z_icmp_le (tgt := 17) X.1 X.2.1 d_Ha_add_13 (by decide) ⟨by omega, by omega⟩ ⟨by omega, by omega⟩ (fun h3 => ?_) (fun h3 => ?_)
      · refine lv_iload_n X.1 X.2.1 d_Ha_add_17 rfl (lv_at hl 2 rfl) ?_
        have J7 : ∀ (n9 : Nat) (z5 : Int) (z6 : Int) (f4 : pF) (H : Heap) (locs : List Loc) (ls : Array Slot), (32488 - z5).toNat = n9 → (0 ≤ z5) → (z5 ≤ 32488) → (gF f4 h 5 = .int (iI z6)) → (0 ≤ z6) → (z6 ≤ 63) → pH D cCl (pA L sz) s.heap L f4 H locs → tS E T (tFr κ L [1, 2, 3, 4, 16] []) κ L f κ L f4 → lv_has ls 5 [(0, .ref h), (1, .ref a1), (2, .int (iI a2)), (3, .int (iI a3)), (4, .int (iI z5))] → W p l e (kRm 2 88 0 0) s m AV below meth c H locs 0 0 QQ (F0 m 20 ls []) := by
          intro n9
          induction n9 using Nat.strongRecOn with
          | ind n9 ih8 =>
            intro z5 z6 f4 H locs ls hm10 l5 u5 e6 l6 u6 Y S hl
            refine lv_iload X.1 X.2.1 d_Ha_add_20 (lv_at hl 4 rfl) ?_
            refine lv_iload_n X.1 X.2.1 d_Ha_add_22 rfl (lv_at hl 2 rfl) ?_
            refine lv_iload_n X.1 X.2.1 d_Ha_add_23 rfl (lv_at hl 3 rfl) ?_
            refine z_iadd X.1 X.2.1 d_Ha_add_24 ?_
            refine z_icmp_ge (tgt := 75) X.1 X.2.1 d_Ha_add_25 (by decide) ⟨by omega, by omega⟩ ⟨by omega, by omega⟩ (fun h11 => ?_) (fun h11 => ?_)
            · refine lv_aload_n X.1 X.2.1 d_Ha_add_75 rfl (lv_at hl 0 rfl) ?_
              refine lv_dup X.1 X.2.1 d_Ha_add_76 rfl ?_
              refine t_geti (ci := 6) X Y S k0 rfl i_Ha 6 (by decide) rfl lk_Ha_51 (fun _ h9 => h9) d_Ha_add_77 (fun z12 e12 l12 u12 => ?_)
              refine lv_iload_n X.1 X.2.1 d_Ha_add_80 rfl (lv_at hl 3 rfl) ?_
              refine lv_iadd X.1 X.2.1 d_Ha_add_81 ?_
              refine t_u (fun z13 l13 u13 => ?_)
              refine t_put (ci := 6) X Y S k0 rfl i_Ha t_Ha t_Ha_ok n_Ha 6 (by decide) rfl lk_Ha_51 (fun _ h9 => h9) rfl (t_Ha_ok 6 (by decide)) rfl rfl ⟨_, rfl, (show ((-2147483648) : Int) ≤ z13 by omega), (show z13 ≤ (2147483647 : Int) by omega)⟩ (nF_of S k0 (by decide)) d_Ha_add_82 (fun f14 H locs Y S w14 => ?_)
              exact c_retv hQQ X Y hr hlk ⟨rfl, S, ⟨z6, ((gF_put w14 (Or.inr (by decide))).trans e6), by omega, by omega⟩⟩ d_Ha_add_85
            · refine lv_aload_n X.1 X.2.1 d_Ha_add_28 rfl (lv_at hl 0 rfl) ?_
              refine t_getr (ci := 6) X Y S k0 rfl i_Ha 1 (by decide) rfl (k1 := 1) (k2 := 64) rfl rfl lk_Ha_13 (fun _ h9 => h9) d_Ha_add_29 (fun b15 e15 k15 => ?_)
              refine lv_aload_n X.1 X.2.1 d_Ha_add_32 rfl (lv_at hl 0 rfl) ?_
              refine t_get0 (ci := 6) X Y S k0 rfl i_Ha 5 (by decide) rfl lk_Ha_47 (fun _ h9 => h9) d_Ha_add_33 e6 ?_
              refine lv_aload_n X.1 X.2.1 d_Ha_add_36 rfl (lv_at hl 1 rfl) ?_
              refine lv_iload X.1 X.2.1 d_Ha_add_37 (lv_at hl 4 rfl) ?_
              refine t_bald X Y S k1 (by omega) (by omega) (by omega) d_Ha_add_39 (fun z16 l16 u16 => ?_)
              refine t_bast X Y S k15 (by omega) (by omega) (by omega) (nF_of S k15 (by decide)) d_Ha_add_40 (fun f17 H locs Y S w17 => ?_)
              refine lv_aload_n X.1 X.2.1 d_Ha_add_41 rfl (lv_at hl 0 rfl) ?_
              refine lv_dup X.1 X.2.1 d_Ha_add_42 rfl ?_
              refine t_get0 (ci := 6) X Y S k0 rfl i_Ha 5 (by decide) rfl lk_Ha_47 (fun _ h9 => h9) d_Ha_add_43 ((gF_same (w17 _ (k_ne k0 k15 (by decide))) 5).trans e6) ?_
              refine lv_iconst (v := iI 1) X.1 X.2.1 d_Ha_add_46 (by decide) ?_
              refine z_iadd X.1 X.2.1 d_Ha_add_47 ?_
              refine t_put (ci := 6) X Y S k0 rfl i_Ha t_Ha t_Ha_ok n_Ha 5 (by decide) rfl lk_Ha_47 (fun _ h9 => h9) rfl (t_Ha_ok 5 (by decide)) rfl rfl ⟨_, rfl, (show (0 : Int) ≤ z6 + 1 by omega), (show z6 + 1 ≤ (64 : Int) by omega)⟩ (nF_of S k0 (by decide)) d_Ha_add_48 (fun f18 H locs Y S w18 => ?_)
              refine lv_aload_n X.1 X.2.1 d_Ha_add_51 rfl (lv_at hl 0 rfl) ?_
              refine t_get0 (ci := 6) X Y S k0 rfl i_Ha 5 (by decide) rfl lk_Ha_47 (fun _ h9 => h9) d_Ha_add_52 w18.2.1 ?_
              refine lv_bipush (v := iI 64) X.1 X.2.1 d_Ha_add_55 (by decide) ?_
              have J21 : ∀ (z20 : Int) (f19 : pF) (H : Heap) (locs : List Loc) (ls : Array Slot), (gF f19 h 5 = .int (iI z20)) → (0 ≤ z20) → (z20 ≤ 63) → pH D cCl (pA L sz) s.heap L f19 H locs → tS E T (tFr κ L [1, 2, 3, 4, 16] []) κ L f κ L f19 → lv_has ls 5 [(0, .ref h), (1, .ref a1), (2, .int (iI a2)), (3, .int (iI a3)), (4, .int (iI z5))] → W p l e (kRm 2 88 0 0) s m AV below meth c H locs 0 0 QQ (F0 m 69 ls []) := by
                intro z20 f19 H locs ls e20 l20 u20 Y S hl
                refine lv_iinc (v := iI (z5 + 1)) (lv' := [(4, .int (iI (z5 + 1))), (0, .ref h), (1, .ref a1), (2, .int (iI a2)), (3, .int (iI a3))]) X.1 X.2.1 d_Ha_add_69 hl (k := 4) rfl ((iI_add _ _).trans (congrArg iI (by omega))) (by decide) rfl (fun ls hl => ?_)
                refine lv_goto (tgt := 20) X.1 X.2.1 d_Ha_add_72 (by decide) ?_
                exact ih8 ((32488 - (z5 + 1)).toNat) (by omega) (z5 + 1) z20 f19 _ _ _ rfl (by omega) (by omega) e20 (by omega) (by omega) Y S (lv_sub hl [1, 2, 3, 4, 0] rfl)
              refine z_icmp_ne (tgt := 69) X.1 X.2.1 d_Ha_add_57 (by decide) ⟨by omega, by omega⟩ ⟨by omega, by omega⟩ (fun h25 => ?_) (fun h25 => ?_)
              · exact J21 (z6 + 1) f18 _ _ _ w18.2.1 (by omega) (by omega) Y S (lv_sub hl [0, 1, 2, 3, 4] rfl)
              · refine lv_aload_n X.1 X.2.1 d_Ha_add_60 rfl (lv_at hl 0 rfl) ?_
                refine t_nv (t_runV (As := []) (rest := []) (n := 0) X Y S k0 hml hl.1 (c_Ha_compress l D E T κ L f18 H.size h k0 S.1) (ok_k X Y hA KS KR) rfl kl_Ha_Ha_compress ks_Ha_compress kx_Ha_compress ki_Ha_compress ini_Ha ⟨rfl, rfl⟩ hd_Ha_compress ⟨Nat.le_of_ble_eq_true rfl, Nat.le_of_ble_eq_true rfl⟩ rfl (Nat.le_of_ble_eq_true rfl) d_Ha_add_61 ⟨Nat.le_of_ble_eq_true rfl, Nat.le_of_ble_eq_true rfl⟩) X Y hA S (by decide) (fun f26 H locs Y S s26 p26 => ?_)
                refine lv_aload_n X.1 X.2.1 d_Ha_add_64 rfl (lv_at hl 0 rfl) ?_
                refine lv_iconst (v := iI 0) X.1 X.2.1 d_Ha_add_65 (by decide) ?_
                refine t_put (ci := 6) X Y S k0 rfl i_Ha t_Ha t_Ha_ok n_Ha 5 (by decide) rfl lk_Ha_47 (fun _ h9 => h9) rfl (t_Ha_ok 5 (by decide)) rfl rfl ⟨_, rfl, (show (0 : Int) ≤ 0 by omega), (show 0 ≤ (64 : Int) by omega)⟩ (nF_of S k0 (by decide)) d_Ha_add_66 (fun f27 H locs Y S w27 => ?_)
                exact J21 0 f27 _ _ _ w27.2.1 (by omega) (by omega) Y S (lv_sub hl [0, 1, 2, 3, 4] rfl)
        refine lv_istore (lv' := [(4, .int (iI a2)), (0, .ref h), (1, .ref a1), (2, .int (iI a2)), (3, .int (iI a3))]) X.1 X.2.1 d_Ha_add_18 hl (by decide) rfl (fun ls hl => ?_)
        exact J7 _ a2 fl f _ _ _ rfl (by omega) (by omega) g0 (by omega) (by omega) Y S (lv_sub hl [1, 2, 3, 4, 0] rfl)
      · exact c_retv hQQ X Y hr hlk ⟨rfl, S, ⟨fl, g0, by omega, by omega⟩⟩ d_Ha_add_16
set_option maxHeartbeats 4000000 in
set_option maxRecDepth 100000 in
theorem c_Ha_close (l : Launch) (D : va_G) (E : cE) (T : cT) (κ : tK) (L : List Nat) (f : pF) (sz : Nat) (h : Nat) (k0 : κ h = (16, 0)) (hw : tW E T κ L f) (fl : Int) (g0 : gF f h 5 = .int (iI fl)) (g1 : 0 ≤ fl) (g2 : fl ≤ 63) : Met l y_Ha_close (k_Ha_close :: lw_tg) (kRm 2 88 0 0) (va_Pc [.ref h] (kPre D E T L f sz)) (va_Qv (nPv E T [1, 2, 3, 4] κ L f (fun (g : pF) => True)) (cPost D E (pA L sz)) (pA L sz)) 0 0 (pA L sz) := by
  refine k_enter (own := R_Ha) (by decide) rfl (Nat.le_of_ble_eq_true rfl) (fun p e s m below meth c ls AV QQ H locs hQQ X Y hA hin hr hlk hml hl KS KR => ?_)
  have hl : lv_has ls 3 [(0, .ref h)] := hl
  have S : tS E T (tFr κ L [1, 2, 3, 4] []) κ L f κ L f := tS_rf hw
  refine lv_aload_n X.1 X.2.1 d_Ha_close_0 rfl (lv_at hl 0 rfl) ?_
  refine t_getr (ci := 6) X Y S k0 rfl i_Ha 1 (by decide) rfl (k1 := 1) (k2 := 64) rfl rfl lk_Ha_13 (fun _ h9 => h9) d_Ha_close_1 (fun b1 e1 k1 => ?_)
  refine lv_aload_n X.1 X.2.1 d_Ha_close_4 rfl (lv_at hl 0 rfl) ?_
  refine t_get0 (ci := 6) X Y S k0 rfl i_Ha 5 (by decide) rfl lk_Ha_47 (fun _ h9 => h9) d_Ha_close_5 g0 ?_
  refine lv_bipush (v := iI (-128)) X.1 X.2.1 d_Ha_close_8 (by decide) ?_
  refine t_bast X Y S k1 (by omega) (by omega) (by omega) (nF_of S k1 (by decide)) d_Ha_close_10 (fun f2 H locs Y S w2 => ?_)
  refine lv_aload_n X.1 X.2.1 d_Ha_close_11 rfl (lv_at hl 0 rfl) ?_
  refine t_get0 (ci := 6) X Y S k0 rfl i_Ha 5 (by decide) rfl lk_Ha_47 (fun _ h9 => h9) d_Ha_close_12 ((gF_same (w2 _ (k_ne k0 k1 (by decide))) 5).trans g0) ?_
  refine lv_iconst (v := iI 1) X.1 X.2.1 d_Ha_close_15 (by decide) ?_
  refine z_iadd X.1 X.2.1 d_Ha_close_16 ?_
  have J5 : ∀ (n7 : Nat) (z4 : Int) (f3 : pF) (H : Heap) (locs : List Loc) (ls : Array Slot), (64 - z4).toNat = n7 → (1 ≤ z4) → (z4 ≤ 64) → pH D cCl (pA L sz) s.heap L f3 H locs → tS E T (tFr κ L [1, 2, 3, 4] []) κ L f κ L f3 → lv_has ls 3 [(0, .ref h), (1, .int (iI z4))] → W p l e (kRm 2 88 0 0) s m AV below meth c H locs 0 0 QQ (F0 m 18 ls []) := by
    intro n7
    induction n7 using Nat.strongRecOn with
    | ind n7 ih6 =>
      intro z4 f3 H locs ls hm8 l4 u4 Y S hl
      refine lv_iload_n X.1 X.2.1 d_Ha_close_18 rfl (lv_at hl 1 rfl) ?_
      refine lv_bipush (v := iI 64) X.1 X.2.1 d_Ha_close_19 (by decide) ?_
      refine z_icmp_ge (tgt := 37) X.1 X.2.1 d_Ha_close_21 (by decide) ⟨by omega, by omega⟩ ⟨by omega, by omega⟩ (fun h9 => ?_) (fun h9 => ?_)
      · refine lv_aload_n X.1 X.2.1 d_Ha_close_37 rfl (lv_at hl 0 rfl) ?_
        refine t_geti (ci := 6) X Y S k0 rfl i_Ha 5 (by decide) rfl lk_Ha_47 (fun _ h9 => h9) d_Ha_close_38 (fun z10 e10 l10 u10 => ?_)
        refine lv_bipush (v := iI 56) X.1 X.2.1 d_Ha_close_41 (by decide) ?_
        have J12 : ∀ (f11 : pF) (H : Heap) (locs : List Loc) (ls : Array Slot), pH D cCl (pA L sz) s.heap L f11 H locs → tS E T (tFr κ L [1, 2, 3, 4] []) κ L f κ L f11 → lv_has ls 3 [(0, .ref h)] → W p l e (kRm 2 88 0 0) s m AV below meth c H locs 0 0 QQ (F0 m 71 ls []) := by
          intro f11 H locs ls  Y S hl
          refine lv_aload_n X.1 X.2.1 d_Ha_close_71 rfl (lv_at hl 0 rfl) ?_
          refine t_geti (ci := 6) X Y S k0 rfl i_Ha 6 (by decide) rfl lk_Ha_51 (fun _ h9 => h9) d_Ha_close_72 (fun z16 e16 l16 u16 => ?_)
          refine lv_bipush (v := iI 8) X.1 X.2.1 d_Ha_close_75 (by decide) ?_
          refine lv_imul X.1 X.2.1 d_Ha_close_77 ?_
          refine t_u (fun z17 l17 u17 => ?_)
          refine lv_istore_n (lv' := [(1, .int (iI z17)), (0, .ref h)]) X.1 X.2.1 d_Ha_close_78 rfl hl (by decide) rfl (fun ls hl => ?_)
          refine lv_iconst (v := iI 0) X.1 X.2.1 d_Ha_close_79 (by decide) ?_
          have J20 : ∀ (n22 : Nat) (z19 : Int) (f18 : pF) (H : Heap) (locs : List Loc) (ls : Array Slot), (4 - z19).toNat = n22 → (0 ≤ z19) → (z19 ≤ 4) → pH D cCl (pA L sz) s.heap L f18 H locs → tS E T (tFr κ L [1, 2, 3, 4] []) κ L f κ L f18 → lv_has ls 3 [(0, .ref h), (1, .int (iI z17)), (2, .int (iI z19))] → W p l e (kRm 2 88 0 0) s m AV below meth c H locs 0 0 QQ (F0 m 81 ls []) := by
            intro n22
            induction n22 using Nat.strongRecOn with
            | ind n22 ih21 =>
              intro z19 f18 H locs ls hm23 l19 u19 Y S hl
              refine lv_iload_n X.1 X.2.1 d_Ha_close_81 rfl (lv_at hl 2 rfl) ?_
              refine lv_iconst (v := iI 4) X.1 X.2.1 d_Ha_close_82 (by decide) ?_
              refine z_icmp_ge (tgt := 108) X.1 X.2.1 d_Ha_close_83 (by decide) ⟨by omega, by omega⟩ ⟨by omega, by omega⟩ (fun h24 => ?_) (fun h24 => ?_)
              · refine lv_aload_n X.1 X.2.1 d_Ha_close_108 rfl (lv_at hl 0 rfl) ?_
                refine t_nv (t_runV (As := []) (rest := []) (n := 0) X Y S k0 hml hl.1 (c_Ha_compress l D E T κ L f18 H.size h k0 S.1) (ok_k X Y hA KS KR) rfl kl_Ha_Ha_compress ks_Ha_compress kx_Ha_compress ki_Ha_compress ini_Ha ⟨rfl, rfl⟩ hd_Ha_compress ⟨Nat.le_of_ble_eq_true rfl, Nat.le_of_ble_eq_true rfl⟩ rfl (Nat.le_of_ble_eq_true rfl) d_Ha_close_109 ⟨Nat.le_of_ble_eq_true rfl, Nat.le_of_ble_eq_true rfl⟩) X Y hA S (by decide) (fun f25 H locs Y S s25 p25 => ?_)
                refine lv_iconst (v := iI 0) X.1 X.2.1 d_Ha_close_112 (by decide) ?_
                have J28 : ∀ (n30 : Nat) (z27 : Int) (f26 : pF) (H : Heap) (locs : List Loc) (ls : Array Slot), (20 - z27).toNat = n30 → (0 ≤ z27) → (z27 ≤ 20) → pH D cCl (pA L sz) s.heap L f26 H locs → tS E T (tFr κ L [1, 2, 3, 4] []) κ L f κ L f26 → lv_has ls 3 [(0, .ref h), (2, .int (iI z27))] → W p l e (kRm 2 88 0 0) s m AV below meth c H locs 0 0 QQ (F0 m 114 ls []) := by
                  intro n30
                  induction n30 using Nat.strongRecOn with
                  | ind n30 ih29 =>
                    intro z27 f26 H locs ls hm31 l27 u27 Y S hl
                    refine lv_iload_n X.1 X.2.1 d_Ha_close_114 rfl (lv_at hl 1 rfl) ?_
                    refine lv_bipush (v := iI 20) X.1 X.2.1 d_Ha_close_115 (by decide) ?_
                    refine z_icmp_ge (tgt := 151) X.1 X.2.1 d_Ha_close_117 (by decide) ⟨by omega, by omega⟩ ⟨by omega, by omega⟩ (fun h32 => ?_) (fun h32 => ?_)
                    · exact c_retv hQQ X Y hr hlk ⟨rfl, S, trivial⟩ d_Ha_close_151
                    · refine lv_aload_n X.1 X.2.1 d_Ha_close_120 rfl (lv_at hl 0 rfl) ?_
                      refine t_getr (ci := 6) X Y S k0 rfl i_Ha 7 (by decide) rfl (k1 := 1) (k2 := 20) rfl rfl lk_Ha_26 (fun _ h9 => h9) d_Ha_close_121 (fun b33 e33 k33 => ?_)
                      refine lv_iload_n X.1 X.2.1 d_Ha_close_124 rfl (lv_at hl 1 rfl) ?_
                      refine lv_aload_n X.1 X.2.1 d_Ha_close_125 rfl (lv_at hl 0 rfl) ?_
                      refine t_getr (ci := 6) X Y S k0 rfl i_Ha 2 (by decide) rfl (k1 := 2) (k2 := 5) rfl rfl lk_Ha_17 (fun _ h9 => h9) d_Ha_close_126 (fun b34 e34 k34 => ?_)
                      refine lv_iload_n X.1 X.2.1 d_Ha_close_129 rfl (lv_at hl 1 rfl) ?_
                      refine lv_iconst (v := iI 4) X.1 X.2.1 d_Ha_close_130 (by decide) ?_
                      refine z_idiv X.1 X.2.1 (by omega) (by omega) ⟨by decide, by decide⟩ d_Ha_close_131 ?_
                      refine t_iald2 X Y S k34 (by omega) (by omega) (by omega) d_Ha_close_132 (fun z35 l35 u35 => ?_)
                      refine lv_bipush (v := iI 24) X.1 X.2.1 d_Ha_close_133 (by decide) ?_
                      refine lv_iload_n X.1 X.2.1 d_Ha_close_135 rfl (lv_at hl 1 rfl) ?_
                      refine lv_iconst (v := iI 4) X.1 X.2.1 d_Ha_close_136 (by decide) ?_
                      refine z_irem X.1 X.2.1 (by omega) (by omega) ⟨by decide, by decide⟩ d_Ha_close_137 ?_
                      refine lv_bipush (v := iI 8) X.1 X.2.1 d_Ha_close_138 (by decide) ?_
                      refine z_imul X.1 X.2.1 d_Ha_close_140 ?_
                      refine z_isub X.1 X.2.1 d_Ha_close_141 ?_
                      refine lv_ishr X.1 X.2.1 d_Ha_close_142 ?_
                      refine t_u (fun z36 l36 u36 => ?_)
                      refine lv_i2b X.1 X.2.1 d_Ha_close_143 rfl ?_
                      refine t_u (fun z37 l37 u37 => ?_)
                      refine t_bast X Y S k33 (by omega) (by omega) (by omega) (nF_of S k33 (by decide)) d_Ha_close_144 (fun f38 H locs Y S w38 => ?_)
                      refine lv_iinc (v := iI (z27 + 1)) (lv' := [(2, .int (iI (z27 + 1))), (0, .ref h)]) X.1 X.2.1 d_Ha_close_145 hl (k := 1) rfl ((iI_add _ _).trans (congrArg iI (by omega))) (by decide) rfl (fun ls hl => ?_)
                      refine lv_goto (tgt := 114) X.1 X.2.1 d_Ha_close_148 (by decide) ?_
                      exact ih29 ((20 - (z27 + 1)).toNat) (by omega) (z27 + 1) f38 _ _ _ rfl (by omega) (by omega) Y S (lv_sub hl [1, 0] rfl)
                refine lv_istore_n (lv' := [(2, .int (iI 0)), (0, .ref h), (1, .int (iI z17))]) X.1 X.2.1 d_Ha_close_113 rfl hl (by decide) rfl (fun ls hl => ?_)
                exact J28 _ 0 f25 _ _ _ rfl (by omega) (by omega) Y S (lv_sub hl [1, 0] rfl)
              · refine lv_aload_n X.1 X.2.1 d_Ha_close_86 rfl (lv_at hl 0 rfl) ?_
                refine t_getr (ci := 6) X Y S k0 rfl i_Ha 1 (by decide) rfl (k1 := 1) (k2 := 64) rfl rfl lk_Ha_13 (fun _ h9 => h9) d_Ha_close_87 (fun b39 e39 k39 => ?_)
                refine lv_bipush (v := iI 63) X.1 X.2.1 d_Ha_close_90 (by decide) ?_
                refine lv_iload_n X.1 X.2.1 d_Ha_close_92 rfl (lv_at hl 2 rfl) ?_
                refine z_isub X.1 X.2.1 d_Ha_close_93 ?_
                refine lv_iload_n X.1 X.2.1 d_Ha_close_94 rfl (lv_at hl 1 rfl) ?_
                refine lv_bipush (v := iI 8) X.1 X.2.1 d_Ha_close_95 (by decide) ?_
                refine lv_iload_n X.1 X.2.1 d_Ha_close_97 rfl (lv_at hl 2 rfl) ?_
                refine z_imul X.1 X.2.1 d_Ha_close_98 ?_
                refine lv_ishr X.1 X.2.1 d_Ha_close_99 ?_
                refine t_u (fun z40 l40 u40 => ?_)
                refine lv_i2b X.1 X.2.1 d_Ha_close_100 rfl ?_
                refine t_u (fun z41 l41 u41 => ?_)
                refine t_bast X Y S k39 (by omega) (by omega) (by omega) (nF_of S k39 (by decide)) d_Ha_close_101 (fun f42 H locs Y S w42 => ?_)
                refine lv_iinc (v := iI (z19 + 1)) (lv' := [(2, .int (iI (z19 + 1))), (0, .ref h), (1, .int (iI z17))]) X.1 X.2.1 d_Ha_close_102 hl (k := 2) rfl ((iI_add _ _).trans (congrArg iI (by omega))) (by decide) rfl (fun ls hl => ?_)
                refine lv_goto (tgt := 81) X.1 X.2.1 d_Ha_close_105 (by decide) ?_
                exact ih21 ((4 - (z19 + 1)).toNat) (by omega) (z19 + 1) f42 _ _ _ rfl (by omega) (by omega) Y S (lv_sub hl [1, 2, 0] rfl)
          refine lv_istore_n (lv' := [(2, .int (iI 0)), (1, .int (iI z17)), (0, .ref h)]) X.1 X.2.1 d_Ha_close_80 rfl hl (by decide) rfl (fun ls hl => ?_)
          exact J20 _ 0 f11 _ _ _ rfl (by omega) (by omega) Y S (lv_sub hl [2, 1, 0] rfl)
        refine z_icmp_lt (tgt := 71) X.1 X.2.1 d_Ha_close_43 (by decide) ⟨by omega, by omega⟩ ⟨by omega, by omega⟩ (fun h43 => ?_) (fun h43 => ?_)
        · exact J12 f3 _ _ _  Y S (lv_sub hl [0] rfl)
        · refine lv_aload_n X.1 X.2.1 d_Ha_close_46 rfl (lv_at hl 0 rfl) ?_
          refine t_nv (t_runV (As := []) (rest := []) (n := 0) X Y S k0 hml hl.1 (c_Ha_compress l D E T κ L f3 H.size h k0 S.1) (ok_k X Y hA KS KR) rfl kl_Ha_Ha_compress ks_Ha_compress kx_Ha_compress ki_Ha_compress ini_Ha ⟨rfl, rfl⟩ hd_Ha_compress ⟨Nat.le_of_ble_eq_true rfl, Nat.le_of_ble_eq_true rfl⟩ rfl (Nat.le_of_ble_eq_true rfl) d_Ha_close_47 ⟨Nat.le_of_ble_eq_true rfl, Nat.le_of_ble_eq_true rfl⟩) X Y hA S (by decide) (fun f44 H locs Y S s44 p44 => ?_)
          refine lv_iconst (v := iI 0) X.1 X.2.1 d_Ha_close_50 (by decide) ?_
          have J47 : ∀ (n49 : Nat) (z46 : Int) (f45 : pF) (H : Heap) (locs : List Loc) (ls : Array Slot), (64 - z46).toNat = n49 → (0 ≤ z46) → (z46 ≤ 64) → pH D cCl (pA L sz) s.heap L f45 H locs → tS E T (tFr κ L [1, 2, 3, 4] []) κ L f κ L f45 → lv_has ls 3 [(0, .ref h), (1, .int (iI z46))] → W p l e (kRm 2 88 0 0) s m AV below meth c H locs 0 0 QQ (F0 m 52 ls []) := by
            intro n49
            induction n49 using Nat.strongRecOn with
            | ind n49 ih48 =>
              intro z46 f45 H locs ls hm50 l46 u46 Y S hl
              refine lv_iload_n X.1 X.2.1 d_Ha_close_52 rfl (lv_at hl 1 rfl) ?_
              refine lv_bipush (v := iI 64) X.1 X.2.1 d_Ha_close_53 (by decide) ?_
              refine z_icmp_ge (tgt := 71) X.1 X.2.1 d_Ha_close_55 (by decide) ⟨by omega, by omega⟩ ⟨by omega, by omega⟩ (fun h51 => ?_) (fun h51 => ?_)
              · exact J12 f45 _ _ _  Y S (lv_sub hl [0] rfl)
              · refine lv_aload_n X.1 X.2.1 d_Ha_close_58 rfl (lv_at hl 0 rfl) ?_
                refine t_getr (ci := 6) X Y S k0 rfl i_Ha 1 (by decide) rfl (k1 := 1) (k2 := 64) rfl rfl lk_Ha_13 (fun _ h9 => h9) d_Ha_close_59 (fun b52 e52 k52 => ?_)
                refine lv_iload_n X.1 X.2.1 d_Ha_close_62 rfl (lv_at hl 1 rfl) ?_
                refine lv_iconst (v := iI 0) X.1 X.2.1 d_Ha_close_63 (by decide) ?_
                refine t_bast X Y S k52 (by omega) (by omega) (by omega) (nF_of S k52 (by decide)) d_Ha_close_64 (fun f53 H locs Y S w53 => ?_)
                refine lv_iinc (v := iI (z46 + 1)) (lv' := [(1, .int (iI (z46 + 1))), (0, .ref h)]) X.1 X.2.1 d_Ha_close_65 hl (k := 1) rfl ((iI_add _ _).trans (congrArg iI (by omega))) (by decide) rfl (fun ls hl => ?_)
                refine lv_goto (tgt := 52) X.1 X.2.1 d_Ha_close_68 (by decide) ?_
                exact ih48 ((64 - (z46 + 1)).toNat) (by omega) (z46 + 1) f53 _ _ _ rfl (by omega) (by omega) Y S (lv_sub hl [1, 0] rfl)
          refine lv_istore_n (lv' := [(1, .int (iI 0)), (0, .ref h)]) X.1 X.2.1 d_Ha_close_51 rfl hl (by decide) rfl (fun ls hl => ?_)
          exact J47 _ 0 f44 _ _ _ rfl (by omega) (by omega) Y S (lv_sub hl [1, 0] rfl)
      · refine lv_aload_n X.1 X.2.1 d_Ha_close_24 rfl (lv_at hl 0 rfl) ?_
        refine t_getr (ci := 6) X Y S k0 rfl i_Ha 1 (by decide) rfl (k1 := 1) (k2 := 64) rfl rfl lk_Ha_13 (fun _ h9 => h9) d_Ha_close_25 (fun b54 e54 k54 => ?_)
        refine lv_iload_n X.1 X.2.1 d_Ha_close_28 rfl (lv_at hl 1 rfl) ?_
        refine lv_iconst (v := iI 0) X.1 X.2.1 d_Ha_close_29 (by decide) ?_
        refine t_bast X Y S k54 (by omega) (by omega) (by omega) (nF_of S k54 (by decide)) d_Ha_close_30 (fun f55 H locs Y S w55 => ?_)
        refine lv_iinc (v := iI (z4 + 1)) (lv' := [(1, .int (iI (z4 + 1))), (0, .ref h)]) X.1 X.2.1 d_Ha_close_31 hl (k := 1) rfl ((iI_add _ _).trans (congrArg iI (by omega))) (by decide) rfl (fun ls hl => ?_)
        refine lv_goto (tgt := 18) X.1 X.2.1 d_Ha_close_34 (by decide) ?_
        exact ih6 ((64 - (z4 + 1)).toNat) (by omega) (z4 + 1) f55 _ _ _ rfl (by omega) (by omega) Y S (lv_sub hl [1, 0] rfl)
  refine lv_istore_n (lv' := [(1, .int (iI (fl + 1))), (0, .ref h)]) X.1 X.2.1 d_Ha_close_17 rfl hl (by decide) rfl (fun ls hl => ?_)
  exact J5 _ (fl + 1) f2 _ _ _ rfl (by omega) (by omega) Y S (lv_sub hl [1, 0] rfl)
set_option maxHeartbeats 4000000 in
set_option maxRecDepth 100000 in
theorem c_Ha_finish (l : Launch) (D : va_G) (E : cE) (T : cT) (κ : tK) (L : List Nat) (f : pF) (sz : Nat) (h : Nat) (k0 : κ h = (16, 0)) (hw : tW E T κ L f) (fl : Int) (g0 : gF f h 5 = .int (iI fl)) (g1 : 0 ≤ fl) (g2 : fl ≤ 63) : Met l y_Ha_finish (k_Ha_finish :: lw_tg) (kRm 3 110 0 0) (va_Pc [.ref h] (kPre D E T L f sz)) (va_Qv (nPv E T [1, 2, 3, 4, 16] κ L f (fun (g : pF) => True)) (cPost D E (pA L sz)) (pA L sz)) 0 0 (pA L sz) := by
  refine k_enter (own := R_Ha) (by decide) rfl (Nat.le_of_ble_eq_true rfl) (fun p e s m below meth c ls AV QQ H locs hQQ X Y hA hin hr hlk hml hl KS KR => ?_)
  have hl : lv_has ls 1 [(0, .ref h)] := hl
  have S : tS E T (tFr κ L [1, 2, 3, 4, 16] []) κ L f κ L f := tS_rf hw
  refine lv_aload_n X.1 X.2.1 d_Ha_finish_0 rfl (lv_at hl 0 rfl) ?_
  refine t_nv (t_runV (As := []) (rest := []) (n := 0) X Y S k0 hml hl.1 (c_Ha_close l D E T κ L f H.size h k0 S.1 fl g0 (by omega) (by omega)) (ok_k X Y hA KS KR) rfl kl_Ha_Ha_close ks_Ha_close kx_Ha_close ki_Ha_close ini_Ha ⟨rfl, rfl⟩ hd_Ha_close ⟨Nat.le_of_ble_eq_true rfl, Nat.le_of_ble_eq_true rfl⟩ rfl (Nat.le_of_ble_eq_true rfl) d_Ha_finish_1 ⟨Nat.le_of_ble_eq_true rfl, Nat.le_of_ble_eq_true rfl⟩) X Y hA S (by decide) (fun f1 H locs Y S s1 p1 => ?_)
  refine lv_aload_n X.1 X.2.1 d_Ha_finish_4 rfl (lv_at hl 0 rfl) ?_
  refine t_getr (ci := 6) X Y S k0 rfl i_Ha 4 (by decide) rfl (k1 := 2) (k2 := 5) rfl rfl lk_Ha_23 (fun _ h9 => h9) d_Ha_finish_5 (fun b2 e2 k2 => ?_)
  refine lv_iconst (v := iI 0) X.1 X.2.1 d_Ha_finish_8 (by decide) ?_
  refine lv_aload_n X.1 X.2.1 d_Ha_finish_9 rfl (lv_at hl 0 rfl) ?_
  refine t_getr (ci := 6) X Y S k0 rfl i_Ha 2 (by decide) rfl (k1 := 2) (k2 := 5) rfl rfl lk_Ha_17 (fun _ h9 => h9) d_Ha_finish_10 (fun b3 e3 k3 => ?_)
  refine lv_iconst (v := iI 0) X.1 X.2.1 d_Ha_finish_13 (by decide) ?_
  refine lv_iconst (v := iI 5) X.1 X.2.1 d_Ha_finish_14 (by decide) ?_
  refine t_copyI (Or.inl rfl) X Y S (hml.trans hl.1.symm) kl_Ha_copy k2 k3 (by omega) (by omega) (by omega) (by omega) (by omega) (by omega) (by omega) (nF_of S k3 (by decide)) (Nat.le_of_ble_eq_true rfl) (Nat.le_of_ble_eq_true rfl) d_Ha_finish_15 (fun f4 H locs Y S w4 => ?_)
  refine lv_aload_n X.1 X.2.1 d_Ha_finish_18 rfl (lv_at hl 0 rfl) ?_
  refine t_getr (ci := 6) X Y S k0 rfl i_Ha 7 (by decide) rfl (k1 := 1) (k2 := 20) rfl rfl lk_Ha_26 (fun _ h9 => h9) d_Ha_finish_19 (fun b5 e5 k5 => ?_)
  refine lv_iconst (v := iI 0) X.1 X.2.1 d_Ha_finish_22 (by decide) ?_
  refine lv_aload_n X.1 X.2.1 d_Ha_finish_23 rfl (lv_at hl 0 rfl) ?_
  refine t_getr (ci := 6) X Y S k0 rfl i_Ha 1 (by decide) rfl (k1 := 1) (k2 := 64) rfl rfl lk_Ha_13 (fun _ h9 => h9) d_Ha_finish_24 (fun b6 e6 k6 => ?_)
  refine lv_iconst (v := iI 0) X.1 X.2.1 d_Ha_finish_27 (by decide) ?_
  refine lv_bipush (v := iI 20) X.1 X.2.1 d_Ha_finish_28 (by decide) ?_
  refine t_copyB X Y S KS (hml.trans hl.1.symm) kl_Ha_copy (Or.inl k5) k6 (by omega) (by omega) (by omega) (by omega) (by omega) (by omega) (by omega) (nF_of S k6 (by decide)) (Nat.le_of_ble_eq_true rfl) (Nat.le_of_ble_eq_true rfl) d_Ha_finish_30 (fun f7 H locs Y S w7 => ?_)
  refine lv_aload_n X.1 X.2.1 d_Ha_finish_33 rfl (lv_at hl 0 rfl) ?_
  refine lv_bipush (v := iI 20) X.1 X.2.1 d_Ha_finish_34 (by decide) ?_
  refine t_put (ci := 6) X Y S k0 rfl i_Ha t_Ha t_Ha_ok n_Ha 5 (by decide) rfl lk_Ha_47 (fun _ h9 => h9) rfl (t_Ha_ok 5 (by decide)) rfl rfl ⟨_, rfl, (show (0 : Int) ≤ 20 by omega), (show 20 ≤ (64 : Int) by omega)⟩ (nF_of S k0 (by decide)) d_Ha_finish_36 (fun f8 H locs Y S w8 => ?_)
  refine lv_aload_n X.1 X.2.1 d_Ha_finish_39 rfl (lv_at hl 0 rfl) ?_
  refine lv_bipush (v := iI 84) X.1 X.2.1 d_Ha_finish_40 (by decide) ?_
  refine t_put (ci := 6) X Y S k0 rfl i_Ha t_Ha t_Ha_ok n_Ha 6 (by decide) rfl lk_Ha_51 (fun _ h9 => h9) rfl (t_Ha_ok 6 (by decide)) rfl rfl ⟨_, rfl, (show ((-2147483648) : Int) ≤ 84 by omega), (show 84 ≤ (2147483647 : Int) by omega)⟩ (nF_of S k0 (by decide)) d_Ha_finish_42 (fun f9 H locs Y S w9 => ?_)
  refine lv_aload_n X.1 X.2.1 d_Ha_finish_45 rfl (lv_at hl 0 rfl) ?_
  refine t_nv (t_runV (As := []) (rest := []) (n := 0) X Y S k0 hml hl.1 (c_Ha_close l D E T κ L f9 H.size h k0 S.1 20 ((gF_put w9 (Or.inr (by decide))).trans w8.2.1) (by omega) (by omega)) (ok_k X Y hA KS KR) rfl kl_Ha_Ha_close ks_Ha_close kx_Ha_close ki_Ha_close ini_Ha ⟨rfl, rfl⟩ hd_Ha_close ⟨Nat.le_of_ble_eq_true rfl, Nat.le_of_ble_eq_true rfl⟩ rfl (Nat.le_of_ble_eq_true rfl) d_Ha_finish_46 ⟨Nat.le_of_ble_eq_true rfl, Nat.le_of_ble_eq_true rfl⟩) X Y hA S (by decide) (fun f10 H locs Y S s10 p10 => ?_)
  exact c_retv hQQ X Y hr hlk ⟨rfl, S, trivial⟩ d_Ha_finish_49
