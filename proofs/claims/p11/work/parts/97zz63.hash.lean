set_option maxHeartbeats 4000000 in
set_option maxRecDepth 100000 in
theorem c_Ha_compress (l : Launch) (D : va_G) (E : cE) (T : cT) (κ : tK) (L : List Nat) (f : pF) (sz : Nat) (h : Nat) (k0 : κ h = (16, 0)) (hw : tW E T κ L f) : Met l y_Ha_compress (k_Ha_compress :: lw_tg) (kRm 1 60 0 0) (va_Pc [.ref h] (kPre D E T L f sz)) (va_Qv (nPv E T [2, 3, 4] κ L f (fun (g : pF) => True)) (cPost D E (pA L sz)) (pA L sz)) 0 0 (pA L sz) := by
  refine k_enter (own := R_Ha) (by decide) rfl (Nat.le_of_ble_eq_true rfl) (fun p e s m below meth c ls AV QQ H locs hQQ X Y hA hin hr hlk hml hl KS KR => ?_)
  have hl : lv_has ls 9 [(0, .ref h)] := hl
  have S : tS E T (tFr κ L [2, 3, 4] []) κ L f κ L f := tS_rf hw
  refine lv_iconst (v := iI 0) X.1 X.2.1 d_Ha_compress_0 (by decide) ?_
  have J103 : ∀ (n105 : Nat) (z102 : Int) (f101 : pF) (H : Heap) (locs : List Loc) (ls : Array Slot), (16 - z102).toNat = n105 → (0 ≤ z102) → (z102 ≤ 16) → pH D cCl (pA L sz) s.heap L f101 H locs → tS E T (tFr κ L [2, 3, 4] []) κ L f κ L f101 → lv_has ls 9 [(0, .ref h), (1, .int (iI z102))] → W p l e (kRm 1 60 0 0) s m AV below meth c H locs 0 0 QQ (F0 m 2 ls []) := by
    intro n105
    induction n105 using Nat.strongRecOn with
    | ind n105 ih104 =>
      intro z102 f101 H locs ls hm106 l102 u102 Y S hl
      refine lv_iload_n X.1 X.2.1 d_Ha_compress_2 rfl (lv_at hl 1 rfl) ?_
      refine lv_bipush (v := iI 16) X.1 X.2.1 d_Ha_compress_3 (by decide) ?_
      refine z_icmp_ge (tgt := 82) X.1 X.2.1 d_Ha_compress_5 (by decide) ⟨by omega, by omega⟩ ⟨by omega, by omega⟩ (fun h107 => ?_) (fun h107 => ?_)
      · refine lv_bipush (v := iI 16) X.1 X.2.1 d_Ha_compress_82 (by decide) ?_
        have J110 : ∀ (n112 : Nat) (z109 : Int) (f108 : pF) (H : Heap) (locs : List Loc) (ls : Array Slot), (80 - z109).toNat = n112 → (16 ≤ z109) → (z109 ≤ 80) → pH D cCl (pA L sz) s.heap L f108 H locs → tS E T (tFr κ L [2, 3, 4] []) κ L f κ L f108 → lv_has ls 9 [(0, .ref h), (1, .int (iI z109))] → W p l e (kRm 1 60 0 0) s m AV below meth c H locs 0 0 QQ (F0 m 85 ls []) := by
          intro n112
          induction n112 using Nat.strongRecOn with
          | ind n112 ih111 =>
            intro z109 f108 H locs ls hm113 l109 u109 Y S hl
            refine lv_iload_n X.1 X.2.1 d_Ha_compress_85 rfl (lv_at hl 1 rfl) ?_
            refine lv_bipush (v := iI 80) X.1 X.2.1 d_Ha_compress_86 (by decide) ?_
            refine z_icmp_ge (tgt := 150) X.1 X.2.1 d_Ha_compress_88 (by decide) ⟨by omega, by omega⟩ ⟨by omega, by omega⟩ (fun h114 => ?_) (fun h114 => ?_)
            · refine lv_aload_n X.1 X.2.1 d_Ha_compress_150 rfl (lv_at hl 0 rfl) ?_
              refine t_getr (ci := 6) X Y S k0 rfl i_Ha 2 (by decide) rfl (k1 := 2) (k2 := 5) rfl rfl lk_Ha_17 (fun _ h9 => h9) d_Ha_compress_151 (fun b115 e115 k115 => ?_)
              refine lv_iconst (v := iI 0) X.1 X.2.1 d_Ha_compress_154 (by decide) ?_
              refine t_iald2 X Y S k115 (by omega) (by omega) (by omega) d_Ha_compress_155 (fun z116 l116 u116 => ?_)
              refine lv_istore_n (lv' := [(1, .int (iI z116)), (0, .ref h)]) X.1 X.2.1 d_Ha_compress_156 rfl hl (by decide) rfl (fun ls hl => ?_)
              refine lv_aload_n X.1 X.2.1 d_Ha_compress_157 rfl (lv_at hl 1 rfl) ?_
              refine t_get0 (ci := 6) X Y S k0 rfl i_Ha 2 (by decide) rfl lk_Ha_17 (fun _ h9 => h9) d_Ha_compress_158 e115 ?_
              refine lv_iconst (v := iI 1) X.1 X.2.1 d_Ha_compress_161 (by decide) ?_
              refine t_iald2 X Y S k115 (by omega) (by omega) (by omega) d_Ha_compress_162 (fun z117 l117 u117 => ?_)
              refine lv_istore_n (lv' := [(2, .int (iI z117)), (1, .int (iI z116)), (0, .ref h)]) X.1 X.2.1 d_Ha_compress_163 rfl hl (by decide) rfl (fun ls hl => ?_)
              refine lv_aload_n X.1 X.2.1 d_Ha_compress_164 rfl (lv_at hl 2 rfl) ?_
              refine t_get0 (ci := 6) X Y S k0 rfl i_Ha 2 (by decide) rfl lk_Ha_17 (fun _ h9 => h9) d_Ha_compress_165 e115 ?_
              refine lv_iconst (v := iI 2) X.1 X.2.1 d_Ha_compress_168 (by decide) ?_
              refine t_iald2 X Y S k115 (by omega) (by omega) (by omega) d_Ha_compress_169 (fun z118 l118 u118 => ?_)
              refine lv_istore_n (lv' := [(3, .int (iI z118)), (2, .int (iI z117)), (1, .int (iI z116)), (0, .ref h)]) X.1 X.2.1 d_Ha_compress_170 rfl hl (by decide) rfl (fun ls hl => ?_)
              refine lv_aload_n X.1 X.2.1 d_Ha_compress_171 rfl (lv_at hl 3 rfl) ?_
              refine t_get0 (ci := 6) X Y S k0 rfl i_Ha 2 (by decide) rfl lk_Ha_17 (fun _ h9 => h9) d_Ha_compress_172 e115 ?_
              refine lv_iconst (v := iI 3) X.1 X.2.1 d_Ha_compress_175 (by decide) ?_
              refine t_iald2 X Y S k115 (by omega) (by omega) (by omega) d_Ha_compress_176 (fun z119 l119 u119 => ?_)
              refine lv_istore (lv' := [(4, .int (iI z119)), (3, .int (iI z118)), (2, .int (iI z117)), (1, .int (iI z116)), (0, .ref h)]) X.1 X.2.1 d_Ha_compress_177 hl (by decide) rfl (fun ls hl => ?_)
              refine lv_aload_n X.1 X.2.1 d_Ha_compress_179 rfl (lv_at hl 4 rfl) ?_
              refine t_get0 (ci := 6) X Y S k0 rfl i_Ha 2 (by decide) rfl lk_Ha_17 (fun _ h9 => h9) d_Ha_compress_180 e115 ?_
              refine lv_iconst (v := iI 4) X.1 X.2.1 d_Ha_compress_183 (by decide) ?_
              refine t_iald2 X Y S k115 (by omega) (by omega) (by omega) d_Ha_compress_184 (fun z120 l120 u120 => ?_)
              refine lv_istore (lv' := [(5, .int (iI z120)), (4, .int (iI z119)), (3, .int (iI z118)), (2, .int (iI z117)), (1, .int (iI z116)), (0, .ref h)]) X.1 X.2.1 d_Ha_compress_185 hl (by decide) rfl (fun ls hl => ?_)
              refine lv_iconst (v := iI 0) X.1 X.2.1 d_Ha_compress_187 (by decide) ?_
              have J127 : ∀ (n129 : Nat) (z121 : Int) (z122 : Int) (z123 : Int) (z124 : Int) (z125 : Int) (z126 : Int) (H : Heap) (locs : List Loc) (ls : Array Slot), (80 - z126).toNat = n129 → ((-2147483648) ≤ z121) → (z121 ≤ 2147483647) → ((-2147483648) ≤ z122) → (z122 ≤ 2147483647) → ((-2147483648) ≤ z123) → (z123 ≤ 2147483647) → ((-2147483648) ≤ z124) → (z124 ≤ 2147483647) → ((-2147483648) ≤ z125) → (z125 ≤ 2147483647) → (0 ≤ z126) → (z126 ≤ 80) → pH D cCl (pA L sz) s.heap L f108 H locs → tS E T (tFr κ L [2, 3, 4] []) κ L f κ L f108 → lv_has ls 9 [(0, .ref h), (1, .int (iI z121)), (2, .int (iI z122)), (3, .int (iI z123)), (4, .int (iI z124)), (5, .int (iI z125)), (6, .int (iI z126))] → W p l e (kRm 1 60 0 0) s m AV below meth c H locs 0 0 QQ (F0 m 190 ls []) := by
                intro n129
                induction n129 using Nat.strongRecOn with
                | ind n129 ih128 =>
                  intro z121 z122 z123 z124 z125 z126 H locs ls hm130 l121 u121 l122 u122 l123 u123 l124 u124 l125 u125 l126 u126 Y S hl
                  refine lv_iload X.1 X.2.1 d_Ha_compress_190 (lv_at hl 6 rfl) ?_
                  refine lv_bipush (v := iI 80) X.1 X.2.1 d_Ha_compress_192 (by decide) ?_
                  refine z_icmp_ge (tgt := 333) X.1 X.2.1 d_Ha_compress_194 (by decide) ⟨by omega, by omega⟩ ⟨by omega, by omega⟩ (fun h131 => ?_) (fun h131 => ?_)
                  · refine lv_aload_n X.1 X.2.1 d_Ha_compress_333 rfl (lv_at hl 0 rfl) ?_
                    refine t_get0 (ci := 6) X Y S k0 rfl i_Ha 2 (by decide) rfl lk_Ha_17 (fun _ h9 => h9) d_Ha_compress_334 e115 ?_
                    refine lv_iconst (v := iI 0) X.1 X.2.1 d_Ha_compress_337 (by decide) ?_
                    refine lv_dup2_11 X.1 X.2.1 d_Ha_compress_338 rfl rfl ?_
                    refine t_iald2 X Y S k115 (by omega) (by omega) (by omega) d_Ha_compress_339 (fun z132 l132 u132 => ?_)
                    refine lv_iload_n X.1 X.2.1 d_Ha_compress_340 rfl (lv_at hl 1 rfl) ?_
                    refine lv_iadd X.1 X.2.1 d_Ha_compress_341 ?_
                    refine t_u (fun z133 l133 u133 => ?_)
                    refine t_iast2 X Y S k115 (by omega) (by omega) (by omega) (nF_of S k115 (by decide)) d_Ha_compress_342 (fun f134 H locs Y S w134 => ?_)
                    refine lv_aload_n X.1 X.2.1 d_Ha_compress_343 rfl (lv_at hl 0 rfl) ?_
                    refine t_get0 (ci := 6) X Y S k0 rfl i_Ha 2 (by decide) rfl lk_Ha_17 (fun _ h9 => h9) d_Ha_compress_344 ((gF_same (w134 _ (k_ne k0 k115 (by decide))) 2).trans e115) ?_
                    refine lv_iconst (v := iI 1) X.1 X.2.1 d_Ha_compress_347 (by decide) ?_
                    refine lv_dup2_11 X.1 X.2.1 d_Ha_compress_348 rfl rfl ?_
                    refine t_iald2 X Y S k115 (by omega) (by omega) (by omega) d_Ha_compress_349 (fun z135 l135 u135 => ?_)
                    refine lv_iload_n X.1 X.2.1 d_Ha_compress_350 rfl (lv_at hl 2 rfl) ?_
                    refine lv_iadd X.1 X.2.1 d_Ha_compress_351 ?_
                    refine t_u (fun z136 l136 u136 => ?_)
                    refine t_iast2 X Y S k115 (by omega) (by omega) (by omega) (nF_of S k115 (by decide)) d_Ha_compress_352 (fun f137 H locs Y S w137 => ?_)
                    refine lv_aload_n X.1 X.2.1 d_Ha_compress_353 rfl (lv_at hl 0 rfl) ?_
                    refine t_get0 (ci := 6) X Y S k0 rfl i_Ha 2 (by decide) rfl lk_Ha_17 (fun _ h9 => h9) d_Ha_compress_354 ((gF_same (w137 _ (k_ne k0 k115 (by decide))) 2).trans ((gF_same (w134 _ (k_ne k0 k115 (by decide))) 2).trans e115)) ?_
                    refine lv_iconst (v := iI 2) X.1 X.2.1 d_Ha_compress_357 (by decide) ?_
                    refine lv_dup2_11 X.1 X.2.1 d_Ha_compress_358 rfl rfl ?_
                    refine t_iald2 X Y S k115 (by omega) (by omega) (by omega) d_Ha_compress_359 (fun z138 l138 u138 => ?_)
                    refine lv_iload_n X.1 X.2.1 d_Ha_compress_360 rfl (lv_at hl 3 rfl) ?_
                    refine lv_iadd X.1 X.2.1 d_Ha_compress_361 ?_
                    refine t_u (fun z139 l139 u139 => ?_)
                    refine t_iast2 X Y S k115 (by omega) (by omega) (by omega) (nF_of S k115 (by decide)) d_Ha_compress_362 (fun f140 H locs Y S w140 => ?_)
                    refine lv_aload_n X.1 X.2.1 d_Ha_compress_363 rfl (lv_at hl 0 rfl) ?_
                    refine t_get0 (ci := 6) X Y S k0 rfl i_Ha 2 (by decide) rfl lk_Ha_17 (fun _ h9 => h9) d_Ha_compress_364 ((gF_same (w140 _ (k_ne k0 k115 (by decide))) 2).trans ((gF_same (w137 _ (k_ne k0 k115 (by decide))) 2).trans ((gF_same (w134 _ (k_ne k0 k115 (by decide))) 2).trans e115))) ?_
                    refine lv_iconst (v := iI 3) X.1 X.2.1 d_Ha_compress_367 (by decide) ?_
                    refine lv_dup2_11 X.1 X.2.1 d_Ha_compress_368 rfl rfl ?_
                    refine t_iald2 X Y S k115 (by omega) (by omega) (by omega) d_Ha_compress_369 (fun z141 l141 u141 => ?_)
                    refine lv_iload X.1 X.2.1 d_Ha_compress_370 (lv_at hl 4 rfl) ?_
                    refine lv_iadd X.1 X.2.1 d_Ha_compress_372 ?_
                    refine t_u (fun z142 l142 u142 => ?_)
                    refine t_iast2 X Y S k115 (by omega) (by omega) (by omega) (nF_of S k115 (by decide)) d_Ha_compress_373 (fun f143 H locs Y S w143 => ?_)
                    refine lv_aload_n X.1 X.2.1 d_Ha_compress_374 rfl (lv_at hl 0 rfl) ?_
                    refine t_get0 (ci := 6) X Y S k0 rfl i_Ha 2 (by decide) rfl lk_Ha_17 (fun _ h9 => h9) d_Ha_compress_375 ((gF_same (w143 _ (k_ne k0 k115 (by decide))) 2).trans ((gF_same (w140 _ (k_ne k0 k115 (by decide))) 2).trans ((gF_same (w137 _ (k_ne k0 k115 (by decide))) 2).trans ((gF_same (w134 _ (k_ne k0 k115 (by decide))) 2).trans e115)))) ?_
                    refine lv_iconst (v := iI 4) X.1 X.2.1 d_Ha_compress_378 (by decide) ?_
                    refine lv_dup2_11 X.1 X.2.1 d_Ha_compress_379 rfl rfl ?_
                    refine t_iald2 X Y S k115 (by omega) (by omega) (by omega) d_Ha_compress_380 (fun z144 l144 u144 => ?_)
                    refine lv_iload X.1 X.2.1 d_Ha_compress_381 (lv_at hl 5 rfl) ?_
                    refine lv_iadd X.1 X.2.1 d_Ha_compress_383 ?_
                    refine t_u (fun z145 l145 u145 => ?_)
                    refine t_iast2 X Y S k115 (by omega) (by omega) (by omega) (nF_of S k115 (by decide)) d_Ha_compress_384 (fun f146 H locs Y S w146 => ?_)
                    exact c_retv hQQ X Y hr hlk ⟨rfl, S, trivial⟩ d_Ha_compress_385
                  · refine lv_iload X.1 X.2.1 d_Ha_compress_197 (lv_at hl 6 rfl) ?_
                    refine lv_bipush (v := iI 20) X.1 X.2.1 d_Ha_compress_199 (by decide) ?_
                    have J148 : ∀ (z147 : Int) (H : Heap) (locs : List Loc) (ls : Array Slot), ((-2147483648) ≤ z147) → (z147 ≤ 2147483647) → pH D cCl (pA L sz) s.heap L f108 H locs → tS E T (tFr κ L [2, 3, 4] []) κ L f κ L f108 → lv_has ls 9 [(0, .ref h), (1, .int (iI z121)), (2, .int (iI z122)), (3, .int (iI z123)), (4, .int (iI z124)), (5, .int (iI z125)), (6, .int (iI z126)), (7, .int (iI z147))] → W p l e (kRm 1 60 0 0) s m AV below meth c H locs 0 0 QQ (F0 m 282 ls []) := by
                      intro z147 H locs ls l147 u147 Y S hl
                      refine lv_iload_n X.1 X.2.1 d_Ha_compress_282 rfl (lv_at hl 1 rfl) ?_
                      refine lv_iconst (v := iI 5) X.1 X.2.1 d_Ha_compress_283 (by decide) ?_
                      refine lv_ishl X.1 X.2.1 d_Ha_compress_284 ?_
                      refine t_u (fun z152 l152 u152 => ?_)
                      refine lv_iload_n X.1 X.2.1 d_Ha_compress_285 rfl (lv_at hl 1 rfl) ?_
                      refine lv_bipush (v := iI 27) X.1 X.2.1 d_Ha_compress_286 (by decide) ?_
                      refine lv_iushr X.1 X.2.1 d_Ha_compress_288 rfl ?_
                      refine t_u (fun z153 l153 u153 => ?_)
                      refine lv_ior X.1 X.2.1 d_Ha_compress_289 ?_
                      refine t_u (fun z154 l154 u154 => ?_)
                      refine lv_iload X.1 X.2.1 d_Ha_compress_290 (lv_at hl 7 rfl) ?_
                      refine lv_iadd X.1 X.2.1 d_Ha_compress_292 ?_
                      refine t_u (fun z155 l155 u155 => ?_)
                      refine lv_iload X.1 X.2.1 d_Ha_compress_293 (lv_at hl 5 rfl) ?_
                      refine lv_iadd X.1 X.2.1 d_Ha_compress_295 ?_
                      refine t_u (fun z156 l156 u156 => ?_)
                      refine lv_aload_n X.1 X.2.1 d_Ha_compress_296 rfl (lv_at hl 0 rfl) ?_
                      refine t_getr (ci := 6) X Y S k0 rfl i_Ha 0 (by decide) rfl (k1 := 2) (k2 := 80) rfl rfl lk_Ha_7 (fun _ h9 => h9) d_Ha_compress_297 (fun b157 e157 k157 => ?_)
                      refine lv_iload X.1 X.2.1 d_Ha_compress_300 (lv_at hl 6 rfl) ?_
                      refine t_iald2 X Y S k157 (by omega) (by omega) (by omega) d_Ha_compress_302 (fun z158 l158 u158 => ?_)
                      refine lv_iadd X.1 X.2.1 d_Ha_compress_303 ?_
                      refine t_u (fun z159 l159 u159 => ?_)
                      refine lv_istore (lv' := [(8, .int (iI z159)), (0, .ref h), (1, .int (iI z121)), (2, .int (iI z122)), (3, .int (iI z123)), (4, .int (iI z124)), (5, .int (iI z125)), (6, .int (iI z126)), (7, .int (iI z147))]) X.1 X.2.1 d_Ha_compress_304 hl (by decide) rfl (fun ls hl => ?_)
                      refine lv_iload X.1 X.2.1 d_Ha_compress_306 (lv_at hl 5 rfl) ?_
                      refine lv_istore (lv' := [(5, .int (iI z124)), (8, .int (iI z159)), (0, .ref h), (1, .int (iI z121)), (2, .int (iI z122)), (3, .int (iI z123)), (4, .int (iI z124)), (6, .int (iI z126)), (7, .int (iI z147))]) X.1 X.2.1 d_Ha_compress_308 hl (by decide) rfl (fun ls hl => ?_)
                      refine lv_iload_n X.1 X.2.1 d_Ha_compress_310 rfl (lv_at hl 5 rfl) ?_
                      refine lv_istore (lv' := [(4, .int (iI z123)), (5, .int (iI z124)), (8, .int (iI z159)), (0, .ref h), (1, .int (iI z121)), (2, .int (iI z122)), (3, .int (iI z123)), (6, .int (iI z126)), (7, .int (iI z147))]) X.1 X.2.1 d_Ha_compress_311 hl (by decide) rfl (fun ls hl => ?_)
                      refine lv_iload_n X.1 X.2.1 d_Ha_compress_313 rfl (lv_at hl 5 rfl) ?_
                      refine lv_bipush (v := iI 30) X.1 X.2.1 d_Ha_compress_314 (by decide) ?_
                      refine lv_ishl X.1 X.2.1 d_Ha_compress_316 ?_
                      refine t_u (fun z160 l160 u160 => ?_)
                      refine lv_iload_n X.1 X.2.1 d_Ha_compress_317 rfl (lv_at hl 5 rfl) ?_
                      refine lv_iconst (v := iI 2) X.1 X.2.1 d_Ha_compress_318 (by decide) ?_
                      refine lv_iushr X.1 X.2.1 d_Ha_compress_319 rfl ?_
                      refine t_u (fun z161 l161 u161 => ?_)
                      refine lv_ior X.1 X.2.1 d_Ha_compress_320 ?_
                      refine t_u (fun z162 l162 u162 => ?_)
                      refine lv_istore_n (lv' := [(3, .int (iI z162)), (4, .int (iI z123)), (5, .int (iI z124)), (8, .int (iI z159)), (0, .ref h), (1, .int (iI z121)), (2, .int (iI z122)), (6, .int (iI z126)), (7, .int (iI z147))]) X.1 X.2.1 d_Ha_compress_321 rfl hl (by decide) rfl (fun ls hl => ?_)
                      refine lv_iload_n X.1 X.2.1 d_Ha_compress_322 rfl (lv_at hl 5 rfl) ?_
                      refine lv_istore_n (lv' := [(2, .int (iI z121)), (3, .int (iI z162)), (4, .int (iI z123)), (5, .int (iI z124)), (8, .int (iI z159)), (0, .ref h), (1, .int (iI z121)), (6, .int (iI z126)), (7, .int (iI z147))]) X.1 X.2.1 d_Ha_compress_323 rfl hl (by decide) rfl (fun ls hl => ?_)
                      refine lv_iload X.1 X.2.1 d_Ha_compress_324 (lv_at hl 4 rfl) ?_
                      refine lv_istore_n (lv' := [(1, .int (iI z159)), (2, .int (iI z121)), (3, .int (iI z162)), (4, .int (iI z123)), (5, .int (iI z124)), (8, .int (iI z159)), (0, .ref h), (6, .int (iI z126)), (7, .int (iI z147))]) X.1 X.2.1 d_Ha_compress_326 rfl hl (by decide) rfl (fun ls hl => ?_)
                      refine lv_iinc (v := iI (z126 + 1)) (lv' := [(6, .int (iI (z126 + 1))), (1, .int (iI z159)), (2, .int (iI z121)), (3, .int (iI z162)), (4, .int (iI z123)), (5, .int (iI z124)), (8, .int (iI z159)), (0, .ref h), (7, .int (iI z147))]) X.1 X.2.1 d_Ha_compress_327 hl (k := 7) rfl ((iI_add _ _).trans (congrArg iI (by omega))) (by decide) rfl (fun ls hl => ?_)
                      refine lv_goto (tgt := 190) X.1 X.2.1 d_Ha_compress_330 (by decide) ?_
                      exact ih128 ((80 - (z126 + 1)).toNat) (by omega) z159 z121 z162 z123 z124 (z126 + 1) _ _ _ rfl (by omega) (by omega) (by omega) (by omega) (by omega) (by omega) (by omega) (by omega) (by omega) (by omega) (by omega) (by omega) Y S (lv_sub hl [7, 1, 2, 3, 4, 5, 0] rfl)
                    refine z_icmp_ge (tgt := 222) X.1 X.2.1 d_Ha_compress_201 (by decide) ⟨by omega, by omega⟩ ⟨by omega, by omega⟩ (fun h163 => ?_) (fun h163 => ?_)
                    · refine lv_iload X.1 X.2.1 d_Ha_compress_222 (lv_at hl 6 rfl) ?_
                      refine lv_bipush (v := iI 40) X.1 X.2.1 d_Ha_compress_224 (by decide) ?_
                      refine z_icmp_ge (tgt := 243) X.1 X.2.1 d_Ha_compress_226 (by decide) ⟨by omega, by omega⟩ ⟨by omega, by omega⟩ (fun h164 => ?_) (fun h164 => ?_)
                      · refine lv_iload X.1 X.2.1 d_Ha_compress_243 (lv_at hl 6 rfl) ?_
                        refine lv_bipush (v := iI 60) X.1 X.2.1 d_Ha_compress_245 (by decide) ?_
                        refine z_icmp_ge (tgt := 271) X.1 X.2.1 d_Ha_compress_247 (by decide) ⟨by omega, by omega⟩ ⟨by omega, by omega⟩ (fun h165 => ?_) (fun h165 => ?_)
                        · refine lv_iload_n X.1 X.2.1 d_Ha_compress_271 rfl (lv_at hl 2 rfl) ?_
                          refine lv_iload_n X.1 X.2.1 d_Ha_compress_272 rfl (lv_at hl 3 rfl) ?_
                          refine lv_ixor X.1 X.2.1 d_Ha_compress_273 ?_
                          refine t_u (fun z166 l166 u166 => ?_)
                          refine lv_iload X.1 X.2.1 d_Ha_compress_274 (lv_at hl 4 rfl) ?_
                          refine lv_ixor X.1 X.2.1 d_Ha_compress_276 ?_
                          refine t_u (fun z167 l167 u167 => ?_)
                          refine lv_ldc (v := (-899497514)) X.1 X.2.1 X.2.2.2.1 (X.2.2.1 _ cn_Ha_60) d_Ha_compress_277 ?_
                          refine t_eq (y := iI (-899497514)) (by decide) ?_
                          refine lv_iadd X.1 X.2.1 d_Ha_compress_279 ?_
                          refine t_u (fun z168 l168 u168 => ?_)
                          refine lv_istore (lv' := [(7, .int (iI z168)), (0, .ref h), (1, .int (iI z121)), (2, .int (iI z122)), (3, .int (iI z123)), (4, .int (iI z124)), (5, .int (iI z125)), (6, .int (iI z126))]) X.1 X.2.1 d_Ha_compress_280 hl (by decide) rfl (fun ls hl => ?_)
                          exact J148 z168 _ _ _ (by omega) (by omega) Y S (lv_sub hl [1, 2, 3, 4, 5, 6, 7, 0] rfl)
                        · refine lv_iload_n X.1 X.2.1 d_Ha_compress_250 rfl (lv_at hl 2 rfl) ?_
                          refine lv_iload_n X.1 X.2.1 d_Ha_compress_251 rfl (lv_at hl 3 rfl) ?_
                          refine lv_iand X.1 X.2.1 d_Ha_compress_252 ?_
                          refine t_u (fun z170 l170 u170 => ?_)
                          refine lv_iload_n X.1 X.2.1 d_Ha_compress_253 rfl (lv_at hl 2 rfl) ?_
                          refine lv_iload X.1 X.2.1 d_Ha_compress_254 (lv_at hl 4 rfl) ?_
                          refine lv_iand X.1 X.2.1 d_Ha_compress_256 ?_
                          refine t_u (fun z172 l172 u172 => ?_)
                          refine lv_ior X.1 X.2.1 d_Ha_compress_257 ?_
                          refine t_u (fun z173 l173 u173 => ?_)
                          refine lv_iload_n X.1 X.2.1 d_Ha_compress_258 rfl (lv_at hl 3 rfl) ?_
                          refine lv_iload X.1 X.2.1 d_Ha_compress_259 (lv_at hl 4 rfl) ?_
                          refine lv_iand X.1 X.2.1 d_Ha_compress_261 ?_
                          refine t_u (fun z175 l175 u175 => ?_)
                          refine lv_ior X.1 X.2.1 d_Ha_compress_262 ?_
                          refine t_u (fun z176 l176 u176 => ?_)
                          refine lv_ldc (v := (-1894007588)) X.1 X.2.1 X.2.2.2.1 (X.2.2.1 _ cn_Ha_59) d_Ha_compress_263 ?_
                          refine t_eq (y := iI (-1894007588)) (by decide) ?_
                          refine lv_iadd X.1 X.2.1 d_Ha_compress_265 ?_
                          refine t_u (fun z177 l177 u177 => ?_)
                          refine lv_istore (lv' := [(7, .int (iI z177)), (0, .ref h), (1, .int (iI z121)), (2, .int (iI z122)), (3, .int (iI z123)), (4, .int (iI z124)), (5, .int (iI z125)), (6, .int (iI z126))]) X.1 X.2.1 d_Ha_compress_266 hl (by decide) rfl (fun ls hl => ?_)
                          refine lv_goto (tgt := 282) X.1 X.2.1 d_Ha_compress_268 (by decide) ?_
                          exact J148 z177 _ _ _ (by omega) (by omega) Y S (lv_sub hl [1, 2, 3, 4, 5, 6, 7, 0] rfl)
                      · refine lv_iload_n X.1 X.2.1 d_Ha_compress_229 rfl (lv_at hl 2 rfl) ?_
                        refine lv_iload_n X.1 X.2.1 d_Ha_compress_230 rfl (lv_at hl 3 rfl) ?_
                        refine lv_ixor X.1 X.2.1 d_Ha_compress_231 ?_
                        refine t_u (fun z178 l178 u178 => ?_)
                        refine lv_iload X.1 X.2.1 d_Ha_compress_232 (lv_at hl 4 rfl) ?_
                        refine lv_ixor X.1 X.2.1 d_Ha_compress_234 ?_
                        refine t_u (fun z179 l179 u179 => ?_)
                        refine lv_ldc (v := (1859775393)) X.1 X.2.1 X.2.2.2.1 (X.2.2.1 _ cn_Ha_58) d_Ha_compress_235 ?_
                        refine t_eq (y := iI 1859775393) (by decide) ?_
                        refine lv_iadd X.1 X.2.1 d_Ha_compress_237 ?_
                        refine t_u (fun z180 l180 u180 => ?_)
                        refine lv_istore (lv' := [(7, .int (iI z180)), (0, .ref h), (1, .int (iI z121)), (2, .int (iI z122)), (3, .int (iI z123)), (4, .int (iI z124)), (5, .int (iI z125)), (6, .int (iI z126))]) X.1 X.2.1 d_Ha_compress_238 hl (by decide) rfl (fun ls hl => ?_)
                        refine lv_goto (tgt := 282) X.1 X.2.1 d_Ha_compress_240 (by decide) ?_
                        exact J148 z180 _ _ _ (by omega) (by omega) Y S (lv_sub hl [1, 2, 3, 4, 5, 6, 7, 0] rfl)
                    · refine lv_iload_n X.1 X.2.1 d_Ha_compress_204 rfl (lv_at hl 2 rfl) ?_
                      refine lv_iload_n X.1 X.2.1 d_Ha_compress_205 rfl (lv_at hl 3 rfl) ?_
                      refine lv_iand X.1 X.2.1 d_Ha_compress_206 ?_
                      refine t_u (fun z182 l182 u182 => ?_)
                      refine lv_iload_n X.1 X.2.1 d_Ha_compress_207 rfl (lv_at hl 2 rfl) ?_
                      refine lv_iconst (v := iI (-1)) X.1 X.2.1 d_Ha_compress_208 (by decide) ?_
                      refine lv_ixor X.1 X.2.1 d_Ha_compress_209 ?_
                      refine t_u (fun z183 l183 u183 => ?_)
                      refine lv_iload X.1 X.2.1 d_Ha_compress_210 (lv_at hl 4 rfl) ?_
                      refine lv_iand X.1 X.2.1 d_Ha_compress_212 ?_
                      refine t_u (fun z185 l185 u185 => ?_)
                      refine lv_ior X.1 X.2.1 d_Ha_compress_213 ?_
                      refine t_u (fun z186 l186 u186 => ?_)
                      refine lv_ldc (v := (1518500249)) X.1 X.2.1 X.2.2.2.1 (X.2.2.1 _ cn_Ha_57) d_Ha_compress_214 ?_
                      refine t_eq (y := iI 1518500249) (by decide) ?_
                      refine lv_iadd X.1 X.2.1 d_Ha_compress_216 ?_
                      refine t_u (fun z187 l187 u187 => ?_)
                      refine lv_istore (lv' := [(7, .int (iI z187)), (0, .ref h), (1, .int (iI z121)), (2, .int (iI z122)), (3, .int (iI z123)), (4, .int (iI z124)), (5, .int (iI z125)), (6, .int (iI z126))]) X.1 X.2.1 d_Ha_compress_217 hl (by decide) rfl (fun ls hl => ?_)
                      refine lv_goto (tgt := 282) X.1 X.2.1 d_Ha_compress_219 (by decide) ?_
                      exact J148 z187 _ _ _ (by omega) (by omega) Y S (lv_sub hl [1, 2, 3, 4, 5, 6, 7, 0] rfl)
              refine lv_istore (lv' := [(6, .int (iI 0)), (5, .int (iI z120)), (4, .int (iI z119)), (3, .int (iI z118)), (2, .int (iI z117)), (1, .int (iI z116)), (0, .ref h)]) X.1 X.2.1 d_Ha_compress_188 hl (by decide) rfl (fun ls hl => ?_)
              exact J127 _ z116 z117 z118 z119 z120 0 _ _ _ rfl (by omega) (by omega) (by omega) (by omega) (by omega) (by omega) (by omega) (by omega) (by omega) (by omega) (by omega) (by omega) Y S (lv_sub hl [6, 5, 4, 3, 2, 1, 0] rfl)
            · refine lv_aload_n X.1 X.2.1 d_Ha_compress_91 rfl (lv_at hl 0 rfl) ?_
              refine t_getr (ci := 6) X Y S k0 rfl i_Ha 0 (by decide) rfl (k1 := 2) (k2 := 80) rfl rfl lk_Ha_7 (fun _ h9 => h9) d_Ha_compress_92 (fun b188 e188 k188 => ?_)
              refine lv_iload_n X.1 X.2.1 d_Ha_compress_95 rfl (lv_at hl 1 rfl) ?_
              refine lv_iconst (v := iI 3) X.1 X.2.1 d_Ha_compress_96 (by decide) ?_
              refine z_isub X.1 X.2.1 d_Ha_compress_97 ?_
              refine t_iald2 X Y S k188 (by omega) (by omega) (by omega) d_Ha_compress_98 (fun z189 l189 u189 => ?_)
              refine lv_aload_n X.1 X.2.1 d_Ha_compress_99 rfl (lv_at hl 0 rfl) ?_
              refine t_get0 (ci := 6) X Y S k0 rfl i_Ha 0 (by decide) rfl lk_Ha_7 (fun _ h9 => h9) d_Ha_compress_100 e188 ?_
              refine lv_iload_n X.1 X.2.1 d_Ha_compress_103 rfl (lv_at hl 1 rfl) ?_
              refine lv_bipush (v := iI 8) X.1 X.2.1 d_Ha_compress_104 (by decide) ?_
              refine z_isub X.1 X.2.1 d_Ha_compress_106 ?_
              refine t_iald2 X Y S k188 (by omega) (by omega) (by omega) d_Ha_compress_107 (fun z190 l190 u190 => ?_)
              refine lv_ixor X.1 X.2.1 d_Ha_compress_108 ?_
              refine t_u (fun z191 l191 u191 => ?_)
              refine lv_aload_n X.1 X.2.1 d_Ha_compress_109 rfl (lv_at hl 0 rfl) ?_
              refine t_get0 (ci := 6) X Y S k0 rfl i_Ha 0 (by decide) rfl lk_Ha_7 (fun _ h9 => h9) d_Ha_compress_110 e188 ?_
              refine lv_iload_n X.1 X.2.1 d_Ha_compress_113 rfl (lv_at hl 1 rfl) ?_
              refine lv_bipush (v := iI 14) X.1 X.2.1 d_Ha_compress_114 (by decide) ?_
              refine z_isub X.1 X.2.1 d_Ha_compress_116 ?_
              refine t_iald2 X Y S k188 (by omega) (by omega) (by omega) d_Ha_compress_117 (fun z192 l192 u192 => ?_)
              refine lv_ixor X.1 X.2.1 d_Ha_compress_118 ?_
              refine t_u (fun z193 l193 u193 => ?_)
              refine lv_aload_n X.1 X.2.1 d_Ha_compress_119 rfl (lv_at hl 0 rfl) ?_
              refine t_get0 (ci := 6) X Y S k0 rfl i_Ha 0 (by decide) rfl lk_Ha_7 (fun _ h9 => h9) d_Ha_compress_120 e188 ?_
              refine lv_iload_n X.1 X.2.1 d_Ha_compress_123 rfl (lv_at hl 1 rfl) ?_
              refine lv_bipush (v := iI 16) X.1 X.2.1 d_Ha_compress_124 (by decide) ?_
              refine z_isub X.1 X.2.1 d_Ha_compress_126 ?_
              refine t_iald2 X Y S k188 (by omega) (by omega) (by omega) d_Ha_compress_127 (fun z194 l194 u194 => ?_)
              refine lv_ixor X.1 X.2.1 d_Ha_compress_128 ?_
              refine t_u (fun z195 l195 u195 => ?_)
              refine lv_istore_n (lv' := [(2, .int (iI z195)), (0, .ref h), (1, .int (iI z109))]) X.1 X.2.1 d_Ha_compress_129 rfl hl (by decide) rfl (fun ls hl => ?_)
              refine lv_aload_n X.1 X.2.1 d_Ha_compress_130 rfl (lv_at hl 1 rfl) ?_
              refine t_get0 (ci := 6) X Y S k0 rfl i_Ha 0 (by decide) rfl lk_Ha_7 (fun _ h9 => h9) d_Ha_compress_131 e188 ?_
              refine lv_iload_n X.1 X.2.1 d_Ha_compress_134 rfl (lv_at hl 2 rfl) ?_
              refine lv_iload_n X.1 X.2.1 d_Ha_compress_135 rfl (lv_at hl 0 rfl) ?_
              refine lv_iconst (v := iI 1) X.1 X.2.1 d_Ha_compress_136 (by decide) ?_
              refine lv_ishl X.1 X.2.1 d_Ha_compress_137 ?_
              refine t_u (fun z196 l196 u196 => ?_)
              refine lv_iload_n X.1 X.2.1 d_Ha_compress_138 rfl (lv_at hl 0 rfl) ?_
              refine lv_bipush (v := iI 31) X.1 X.2.1 d_Ha_compress_139 (by decide) ?_
              refine lv_iushr X.1 X.2.1 d_Ha_compress_141 rfl ?_
              refine t_u (fun z197 l197 u197 => ?_)
              refine lv_ior X.1 X.2.1 d_Ha_compress_142 ?_
              refine t_u (fun z198 l198 u198 => ?_)
              refine t_iast2 X Y S k188 (by omega) (by omega) (by omega) (nF_of S k188 (by decide)) d_Ha_compress_143 (fun f199 H locs Y S w199 => ?_)
              refine lv_iinc (v := iI (z109 + 1)) (lv' := [(1, .int (iI (z109 + 1))), (2, .int (iI z195)), (0, .ref h)]) X.1 X.2.1 d_Ha_compress_144 hl (k := 2) rfl ((iI_add _ _).trans (congrArg iI (by omega))) (by decide) rfl (fun ls hl => ?_)
              refine lv_goto (tgt := 85) X.1 X.2.1 d_Ha_compress_147 (by decide) ?_
              exact ih111 ((80 - (z109 + 1)).toNat) (by omega) (z109 + 1) f199 _ _ _ rfl (by omega) (by omega) Y S (lv_sub hl [2, 0] rfl)
        refine lv_istore_n (lv' := [(1, .int (iI 16)), (0, .ref h)]) X.1 X.2.1 d_Ha_compress_84 rfl hl (by decide) rfl (fun ls hl => ?_)
        exact J110 _ 16 f101 _ _ _ rfl (by omega) (by omega) Y S (lv_sub hl [1, 0] rfl)
      · refine lv_aload_n X.1 X.2.1 d_Ha_compress_8 rfl (lv_at hl 0 rfl) ?_
        refine t_getr (ci := 6) X Y S k0 rfl i_Ha 0 (by decide) rfl (k1 := 2) (k2 := 80) rfl rfl lk_Ha_7 (fun _ h9 => h9) d_Ha_compress_9 (fun b200 e200 k200 => ?_)
        refine lv_iload_n X.1 X.2.1 d_Ha_compress_12 rfl (lv_at hl 1 rfl) ?_
        refine lv_aload_n X.1 X.2.1 d_Ha_compress_13 rfl (lv_at hl 0 rfl) ?_
        refine t_getr (ci := 6) X Y S k0 rfl i_Ha 1 (by decide) rfl (k1 := 1) (k2 := 64) rfl rfl lk_Ha_13 (fun _ h9 => h9) d_Ha_compress_14 (fun b201 e201 k201 => ?_)
        refine lv_iconst (v := iI 4) X.1 X.2.1 d_Ha_compress_17 (by decide) ?_
        refine lv_iload_n X.1 X.2.1 d_Ha_compress_18 rfl (lv_at hl 1 rfl) ?_
        refine z_imul X.1 X.2.1 d_Ha_compress_19 ?_
        refine t_bald X Y S (Or.inl k201) (by omega) (by omega) (by omega) d_Ha_compress_20 (fun z202 l202 u202 => ?_)
        refine lv_bipush (v := iI 24) X.1 X.2.1 d_Ha_compress_21 (by decide) ?_
        refine lv_ishl X.1 X.2.1 d_Ha_compress_23 ?_
        refine t_u (fun z203 l203 u203 => ?_)
        refine lv_aload_n X.1 X.2.1 d_Ha_compress_24 rfl (lv_at hl 0 rfl) ?_
        refine t_get0 (ci := 6) X Y S k0 rfl i_Ha 1 (by decide) rfl lk_Ha_13 (fun _ h9 => h9) d_Ha_compress_25 e201 ?_
        refine lv_iconst (v := iI 4) X.1 X.2.1 d_Ha_compress_28 (by decide) ?_
        refine lv_iload_n X.1 X.2.1 d_Ha_compress_29 rfl (lv_at hl 1 rfl) ?_
        refine z_imul X.1 X.2.1 d_Ha_compress_30 ?_
        refine lv_iconst (v := iI 1) X.1 X.2.1 d_Ha_compress_31 (by decide) ?_
        refine z_iadd X.1 X.2.1 d_Ha_compress_32 ?_
        refine t_bald X Y S (Or.inl k201) (by omega) (by omega) (by omega) d_Ha_compress_33 (fun z204 l204 u204 => ?_)
        refine lv_sipush (v := iI 255) X.1 X.2.1 d_Ha_compress_34 (by decide) ?_
        refine z_iand X.1 X.2.1 (by omega) (by omega) d_Ha_compress_37 (fun z205 l205 u205 => ?_)
        refine lv_bipush (v := iI 16) X.1 X.2.1 d_Ha_compress_38 (by decide) ?_
        refine lv_ishl X.1 X.2.1 d_Ha_compress_40 ?_
        refine t_u (fun z206 l206 u206 => ?_)
        refine lv_ior X.1 X.2.1 d_Ha_compress_41 ?_
        refine t_u (fun z207 l207 u207 => ?_)
        refine lv_aload_n X.1 X.2.1 d_Ha_compress_42 rfl (lv_at hl 0 rfl) ?_
        refine t_get0 (ci := 6) X Y S k0 rfl i_Ha 1 (by decide) rfl lk_Ha_13 (fun _ h9 => h9) d_Ha_compress_43 e201 ?_
        refine lv_iconst (v := iI 4) X.1 X.2.1 d_Ha_compress_46 (by decide) ?_
        refine lv_iload_n X.1 X.2.1 d_Ha_compress_47 rfl (lv_at hl 1 rfl) ?_
        refine z_imul X.1 X.2.1 d_Ha_compress_48 ?_
        refine lv_iconst (v := iI 2) X.1 X.2.1 d_Ha_compress_49 (by decide) ?_
        refine z_iadd X.1 X.2.1 d_Ha_compress_50 ?_
        refine t_bald X Y S (Or.inl k201) (by omega) (by omega) (by omega) d_Ha_compress_51 (fun z208 l208 u208 => ?_)
        refine lv_sipush (v := iI 255) X.1 X.2.1 d_Ha_compress_52 (by decide) ?_
        refine z_iand X.1 X.2.1 (by omega) (by omega) d_Ha_compress_55 (fun z209 l209 u209 => ?_)
        refine lv_bipush (v := iI 8) X.1 X.2.1 d_Ha_compress_56 (by decide) ?_
        refine lv_ishl X.1 X.2.1 d_Ha_compress_58 ?_
        refine t_u (fun z210 l210 u210 => ?_)
        refine lv_ior X.1 X.2.1 d_Ha_compress_59 ?_
        refine t_u (fun z211 l211 u211 => ?_)
        refine lv_aload_n X.1 X.2.1 d_Ha_compress_60 rfl (lv_at hl 0 rfl) ?_
        refine t_get0 (ci := 6) X Y S k0 rfl i_Ha 1 (by decide) rfl lk_Ha_13 (fun _ h9 => h9) d_Ha_compress_61 e201 ?_
        refine lv_iconst (v := iI 4) X.1 X.2.1 d_Ha_compress_64 (by decide) ?_
        refine lv_iload_n X.1 X.2.1 d_Ha_compress_65 rfl (lv_at hl 1 rfl) ?_
        refine z_imul X.1 X.2.1 d_Ha_compress_66 ?_
        refine lv_iconst (v := iI 3) X.1 X.2.1 d_Ha_compress_67 (by decide) ?_
        refine z_iadd X.1 X.2.1 d_Ha_compress_68 ?_
        refine t_bald X Y S (Or.inl k201) (by omega) (by omega) (by omega) d_Ha_compress_69 (fun z212 l212 u212 => ?_)
        refine lv_sipush (v := iI 255) X.1 X.2.1 d_Ha_compress_70 (by decide) ?_
        refine z_iand X.1 X.2.1 (by omega) (by omega) d_Ha_compress_73 (fun z213 l213 u213 => ?_)
        refine lv_ior X.1 X.2.1 d_Ha_compress_74 ?_
        refine t_u (fun z214 l214 u214 => ?_)
        refine t_iast2 X Y S k200 (by omega) (by omega) (by omega) (nF_of S k200 (by decide)) d_Ha_compress_75 (fun f215 H locs Y S w215 => ?_)
        refine lv_iinc (v := iI (z102 + 1)) (lv' := [(1, .int (iI (z102 + 1))), (0, .ref h)]) X.1 X.2.1 d_Ha_compress_76 hl (k := 1) rfl ((iI_add _ _).trans (congrArg iI (by omega))) (by decide) rfl (fun ls hl => ?_)
        refine lv_goto (tgt := 2) X.1 X.2.1 d_Ha_compress_79 (by decide) ?_
        exact ih104 ((16 - (z102 + 1)).toNat) (by omega) (z102 + 1) f215 _ _ _ rfl (by omega) (by omega) Y S (lv_sub hl [1, 0] rfl)
  refine lv_istore_n (lv' := [(1, .int (iI 0)), (0, .ref h)]) X.1 X.2.1 d_Ha_compress_1 rfl hl (by decide) rfl (fun ls hl => ?_)
  exact J103 _ 0 f _ _ _ rfl (by omega) (by omega) Y S (lv_sub hl [1, 0] rfl)
set_option maxHeartbeats 4000000 in
set_option maxRecDepth 100000 in
theorem c_Ha_pad (l : Launch) (D : va_G) (E : cE) (T : cT) (κ : tK) (L : List Nat) (f : pF) (sz : Nat) (h : Nat) (k0 : κ h = (16, 0)) (a1 n1 : Nat) (k1 : tSrc T κ a1 n1) (x1 : n1 ≤ 12288) (a2 : Int) (l_a2 : (-1) ≤ a2) (u_a2 : a2 ≤ 20200) (a3 : Int) (l_a3 : (-40400) ≤ a3) (u_a3 : a3 ≤ 40400) (a4 : Int) (l_a4 : (-2147483648) ≤ a4) (u_a4 : a4 ≤ 2147483647) (hw : tW E T κ L f) : Met l y_Ha_pad (k_Ha_pad :: lw_tg) (kRm 2 88 0 0) (va_Pc [.ref h, .ref a1, .int (iI a2), .int (iI a3), .int (iI a4)] (kPre D E T L f sz)) (va_Qv (nPv E T [1, 2, 3, 4] κ L f (fun (g : pF) => True)) (cPost D E (pA L sz)) (pA L sz)) 0 0 (pA L sz) := by
  refine k_enter (own := R_Ha) (by decide) rfl (Nat.le_of_ble_eq_true rfl) (fun p e s m below meth c ls AV QQ H locs hQQ X Y hA hin hr hlk hml hl KS KR => ?_)
  have hl : lv_has ls 7 [(0, .ref h), (1, .ref a1), (2, .int (iI a2)), (3, .int (iI a3)), (4, .int (iI a4))] := hl
  have S : tS E T (tFr κ L [1, 2, 3, 4] []) κ L f κ L f := tS_rf hw
  refine lv_iconst (v := iI 0) X.1 X.2.1 d_Ha_pad_0 (by decide) ?_
  have J103 : ∀ (n105 : Nat) (z102 : Int) (f101 : pF) (H : Heap) (locs : List Loc) (ls : Array Slot), (64 - z102).toNat = n105 → (0 ≤ z102) → (z102 ≤ 64) → pH D cCl (pA L sz) s.heap L f101 H locs → tS E T (tFr κ L [1, 2, 3, 4] []) κ L f κ L f101 → lv_has ls 7 [(0, .ref h), (1, .ref a1), (2, .int (iI a2)), (3, .int (iI a3)), (4, .int (iI a4)), (5, .int (iI z102))] → W p l e (kRm 2 88 0 0) s m AV below meth c H locs 0 0 QQ (F0 m 3 ls []) := by
    intro n105
    induction n105 using Nat.strongRecOn with
    | ind n105 ih104 =>
      intro z102 f101 H locs ls hm106 l102 u102 Y S hl
      refine lv_iload X.1 X.2.1 d_Ha_pad_3 (lv_at hl 5 rfl) ?_
      refine lv_bipush (v := iI 64) X.1 X.2.1 d_Ha_pad_5 (by decide) ?_
      refine z_icmp_ge (tgt := 69) X.1 X.2.1 d_Ha_pad_7 (by decide) ⟨by omega, by omega⟩ ⟨by omega, by omega⟩ (fun h107 => ?_) (fun h107 => ?_)
      · refine lv_aload_n X.1 X.2.1 d_Ha_pad_69 rfl (lv_at hl 0 rfl) ?_
        refine t_getr (ci := 6) X Y S k0 rfl i_Ha 2 (by decide) rfl (k1 := 2) (k2 := 5) rfl rfl lk_Ha_17 (fun _ h9 => h9) d_Ha_pad_70 (fun b108 e108 k108 => ?_)
        refine lv_iconst (v := iI 0) X.1 X.2.1 d_Ha_pad_73 (by decide) ?_
        refine lv_ldc (v := (1732584193)) X.1 X.2.1 X.2.2.2.1 (X.2.2.1 _ cn_Ha_39) d_Ha_pad_74 ?_
        refine t_eq (y := iI 1732584193) (by decide) ?_
        refine t_iast2 X Y S k108 (by omega) (by omega) (by omega) (nF_of S k108 (by decide)) d_Ha_pad_76 (fun f109 H locs Y S w109 => ?_)
        refine lv_aload_n X.1 X.2.1 d_Ha_pad_77 rfl (lv_at hl 0 rfl) ?_
        refine t_get0 (ci := 6) X Y S k0 rfl i_Ha 2 (by decide) rfl lk_Ha_17 (fun _ h9 => h9) d_Ha_pad_78 ((gF_same (w109 _ (k_ne k0 k108 (by decide))) 2).trans e108) ?_
        refine lv_iconst (v := iI 1) X.1 X.2.1 d_Ha_pad_81 (by decide) ?_
        refine lv_ldc (v := (-271733879)) X.1 X.2.1 X.2.2.2.1 (X.2.2.1 _ cn_Ha_40) d_Ha_pad_82 ?_
        refine t_eq (y := iI (-271733879)) (by decide) ?_
        refine t_iast2 X Y S k108 (by omega) (by omega) (by omega) (nF_of S k108 (by decide)) d_Ha_pad_84 (fun f110 H locs Y S w110 => ?_)
        refine lv_aload_n X.1 X.2.1 d_Ha_pad_85 rfl (lv_at hl 0 rfl) ?_
        refine t_get0 (ci := 6) X Y S k0 rfl i_Ha 2 (by decide) rfl lk_Ha_17 (fun _ h9 => h9) d_Ha_pad_86 ((gF_same (w110 _ (k_ne k0 k108 (by decide))) 2).trans ((gF_same (w109 _ (k_ne k0 k108 (by decide))) 2).trans e108)) ?_
        refine lv_iconst (v := iI 2) X.1 X.2.1 d_Ha_pad_89 (by decide) ?_
        refine lv_ldc (v := (-1732584194)) X.1 X.2.1 X.2.2.2.1 (X.2.2.1 _ cn_Ha_41) d_Ha_pad_90 ?_
        refine t_eq (y := iI (-1732584194)) (by decide) ?_
        refine t_iast2 X Y S k108 (by omega) (by omega) (by omega) (nF_of S k108 (by decide)) d_Ha_pad_92 (fun f111 H locs Y S w111 => ?_)
        refine lv_aload_n X.1 X.2.1 d_Ha_pad_93 rfl (lv_at hl 0 rfl) ?_
        refine t_get0 (ci := 6) X Y S k0 rfl i_Ha 2 (by decide) rfl lk_Ha_17 (fun _ h9 => h9) d_Ha_pad_94 ((gF_same (w111 _ (k_ne k0 k108 (by decide))) 2).trans ((gF_same (w110 _ (k_ne k0 k108 (by decide))) 2).trans ((gF_same (w109 _ (k_ne k0 k108 (by decide))) 2).trans e108))) ?_
        refine lv_iconst (v := iI 3) X.1 X.2.1 d_Ha_pad_97 (by decide) ?_
        refine lv_ldc (v := (271733878)) X.1 X.2.1 X.2.2.2.1 (X.2.2.1 _ cn_Ha_42) d_Ha_pad_98 ?_
        refine t_eq (y := iI 271733878) (by decide) ?_
        refine t_iast2 X Y S k108 (by omega) (by omega) (by omega) (nF_of S k108 (by decide)) d_Ha_pad_100 (fun f112 H locs Y S w112 => ?_)
        refine lv_aload_n X.1 X.2.1 d_Ha_pad_101 rfl (lv_at hl 0 rfl) ?_
        refine t_get0 (ci := 6) X Y S k0 rfl i_Ha 2 (by decide) rfl lk_Ha_17 (fun _ h9 => h9) d_Ha_pad_102 ((gF_same (w112 _ (k_ne k0 k108 (by decide))) 2).trans ((gF_same (w111 _ (k_ne k0 k108 (by decide))) 2).trans ((gF_same (w110 _ (k_ne k0 k108 (by decide))) 2).trans ((gF_same (w109 _ (k_ne k0 k108 (by decide))) 2).trans e108)))) ?_
        refine lv_iconst (v := iI 4) X.1 X.2.1 d_Ha_pad_105 (by decide) ?_
        refine lv_ldc (v := (-1009589776)) X.1 X.2.1 X.2.2.2.1 (X.2.2.1 _ cn_Ha_43) d_Ha_pad_106 ?_
        refine t_eq (y := iI (-1009589776)) (by decide) ?_
        refine t_iast2 X Y S k108 (by omega) (by omega) (by omega) (nF_of S k108 (by decide)) d_Ha_pad_108 (fun f113 H locs Y S w113 => ?_)
        refine lv_aload_n X.1 X.2.1 d_Ha_pad_109 rfl (lv_at hl 0 rfl) ?_
        refine t_nv (t_runV (As := []) (rest := []) (n := 0) X Y S k0 hml hl.1 (c_Ha_compress l D E T κ L f113 H.size h k0 S.1) (ok_k X Y hA KS KR) rfl kl_Ha_Ha_compress ks_Ha_compress kx_Ha_compress ki_Ha_compress ini_Ha ⟨rfl, rfl⟩ hd_Ha_compress ⟨Nat.le_of_ble_eq_true rfl, Nat.le_of_ble_eq_true rfl⟩ rfl (Nat.le_of_ble_eq_true rfl) d_Ha_pad_110 ⟨Nat.le_of_ble_eq_true rfl, Nat.le_of_ble_eq_true rfl⟩) X Y hA S (by decide) (fun f114 H locs Y S s114 p114 => ?_)
        exact c_retv hQQ X Y hr hlk ⟨rfl, S, trivial⟩ d_Ha_pad_113
      · refine lv_iload X.1 X.2.1 d_Ha_pad_10 (lv_at hl 5 rfl) ?_
        refine lv_iload_n X.1 X.2.1 d_Ha_pad_12 rfl (lv_at hl 3 rfl) ?_
        have J115 : ∀  (H : Heap) (locs : List Loc) (ls : Array Slot), pH D cCl (pA L sz) s.heap L f101 H locs → tS E T (tFr κ L [1, 2, 3, 4] []) κ L f κ L f101 → lv_has ls 7 [(0, .ref h), (1, .ref a1), (2, .int (iI a2)), (3, .int (iI a3)), (4, .int (iI a4)), (5, .int (iI z102))] → W p l e (kRm 2 88 0 0) s m AV below meth c H locs 0 0 QQ (F0 m 33 ls []) := by
          intro  H locs ls  Y S hl
          refine lv_iconst (v := iI 0) X.1 X.2.1 d_Ha_pad_33 (by decide) ?_
          refine lv_istore (lv' := [(6, .int (iI 0)), (0, .ref h), (1, .ref a1), (2, .int (iI a2)), (3, .int (iI a3)), (4, .int (iI a4)), (5, .int (iI z102))]) X.1 X.2.1 d_Ha_pad_34 hl (by decide) rfl (fun ls hl => ?_)
          refine lv_aload_n X.1 X.2.1 d_Ha_pad_36 rfl (lv_at hl 1 rfl) ?_
          refine t_getr (ci := 6) X Y S k0 rfl i_Ha 1 (by decide) rfl (k1 := 1) (k2 := 64) rfl rfl lk_Ha_13 (fun _ h9 => h9) d_Ha_pad_37 (fun b119 e119 k119 => ?_)
          refine lv_iload X.1 X.2.1 d_Ha_pad_40 (lv_at hl 6 rfl) ?_
          refine lv_iload X.1 X.2.1 d_Ha_pad_42 (lv_at hl 0 rfl) ?_
          have J120 : ∀  (H : Heap) (locs : List Loc) (ls : Array Slot), pH D cCl (pA L sz) s.heap L f101 H locs → tS E T (tFr κ L [1, 2, 3, 4] []) κ L f κ L f101 → lv_has ls 7 [(0, .ref h), (1, .ref a1), (2, .int (iI a2)), (3, .int (iI a3)), (4, .int (iI a4)), (5, .int (iI z102))] → W p l e (kRm 2 88 0 0) s m AV below meth c H locs 0 0 QQ (F0 m 61 ls [.int (iI a4), .int (iI z102), .ref b119]) := by
            intro  H locs ls  Y S hl
            refine lv_i2b X.1 X.2.1 d_Ha_pad_61 rfl ?_
            refine t_u (fun z124 l124 u124 => ?_)
            refine t_bast X Y S k119 (by omega) (by omega) (by omega) (nF_of S k119 (by decide)) d_Ha_pad_62 (fun f125 H locs Y S w125 => ?_)
            refine lv_iinc (v := iI (z102 + 1)) (lv' := [(5, .int (iI (z102 + 1))), (0, .ref h), (1, .ref a1), (2, .int (iI a2)), (3, .int (iI a3)), (4, .int (iI a4))]) X.1 X.2.1 d_Ha_pad_63 hl (k := 5) rfl ((iI_add _ _).trans (congrArg iI (by omega))) (by decide) rfl (fun ls hl => ?_)
            refine lv_goto (tgt := 3) X.1 X.2.1 d_Ha_pad_66 (by decide) ?_
            exact ih104 ((64 - (z102 + 1)).toNat) (by omega) (z102 + 1) f125 _ _ _ rfl (by omega) (by omega) Y S (lv_sub hl [1, 2, 3, 4, 5, 0] rfl)
          refine z_if_eq (tgt := 59) X.1 X.2.1 d_Ha_pad_44 (by decide) ⟨by omega, by omega⟩ (fun h126 => ?_) (fun h126 => False.elim (by omega))
          · refine lv_iload X.1 X.2.1 d_Ha_pad_59 (lv_at hl 5 rfl) ?_
            exact J120  _ _ _  Y S (lv_sub hl [1, 2, 3, 4, 5, 6] rfl)
        refine z_icmp_ge (tgt := 33) X.1 X.2.1 d_Ha_pad_13 (by decide) ⟨by omega, by omega⟩ ⟨by omega, by omega⟩ (fun h127 => ?_) (fun h127 => ?_)
        · exact J115  _ _ _  Y S (lv_sub hl [0, 1, 2, 3, 4, 5] rfl)
        · refine lv_iload_n X.1 X.2.1 d_Ha_pad_16 rfl (lv_at hl 2 rfl) ?_
          refine z_if_lt (tgt := 33) X.1 X.2.1 d_Ha_pad_17 (by decide) ⟨by omega, by omega⟩ (fun h128 => ?_) (fun h128 => ?_)
          · exact J115  _ _ _  Y S (lv_sub hl [0, 1, 2, 3, 4, 5] rfl)
          · refine lv_iload_n X.1 X.2.1 d_Ha_pad_20 rfl (lv_at hl 2 rfl) ?_
            refine lv_iload X.1 X.2.1 d_Ha_pad_21 (lv_at hl 5 rfl) ?_
            refine z_iadd X.1 X.2.1 d_Ha_pad_23 ?_
            refine lv_aload_n X.1 X.2.1 d_Ha_pad_24 rfl (lv_at hl 1 rfl) ?_
            refine t_alen X Y S KS k1 (by omega) d_Ha_pad_25 ?_
            refine z_icmp_ge (tgt := 33) X.1 X.2.1 d_Ha_pad_26 (by decide) ⟨by omega, by omega⟩ ⟨by omega, by omega⟩ (fun h129 => ?_) (fun h129 => ?_)
            · exact J115  _ _ _  Y S (lv_sub hl [0, 1, 2, 3, 4, 5] rfl)
            · refine lv_iconst (v := iI 1) X.1 X.2.1 d_Ha_pad_29 (by decide) ?_
              refine lv_goto (tgt := 34) X.1 X.2.1 d_Ha_pad_30 (by decide) ?_
              refine lv_istore (lv' := [(6, .int (iI 1)), (0, .ref h), (1, .ref a1), (2, .int (iI a2)), (3, .int (iI a3)), (4, .int (iI a4)), (5, .int (iI z102))]) X.1 X.2.1 d_Ha_pad_34 hl (by decide) rfl (fun ls hl => ?_)
              refine lv_aload_n X.1 X.2.1 d_Ha_pad_36 rfl (lv_at hl 1 rfl) ?_
              refine t_getr (ci := 6) X Y S k0 rfl i_Ha 1 (by decide) rfl (k1 := 1) (k2 := 64) rfl rfl lk_Ha_13 (fun _ h9 => h9) d_Ha_pad_37 (fun b130 e130 k130 => ?_)
              refine lv_iload X.1 X.2.1 d_Ha_pad_40 (lv_at hl 6 rfl) ?_
              refine lv_iload X.1 X.2.1 d_Ha_pad_42 (lv_at hl 0 rfl) ?_
              have J132 : ∀ (z131 : Int) (H : Heap) (locs : List Loc) (ls : Array Slot), ((-2147483648) ≤ z131) → (z131 ≤ 2147483647) → pH D cCl (pA L sz) s.heap L f101 H locs → tS E T (tFr κ L [1, 2, 3, 4] []) κ L f κ L f101 → lv_has ls 7 [(0, .ref h), (1, .ref a1), (2, .int (iI a2)), (3, .int (iI a3)), (4, .int (iI a4)), (5, .int (iI z102))] → W p l e (kRm 2 88 0 0) s m AV below meth c H locs 0 0 QQ (F0 m 61 ls [.int (iI z131), .int (iI z102), .ref b130]) := by
                intro z131 H locs ls l131 u131 Y S hl
                refine lv_i2b X.1 X.2.1 d_Ha_pad_61 rfl ?_
                refine t_u (fun z136 l136 u136 => ?_)
                refine t_bast X Y S k130 (by omega) (by omega) (by omega) (nF_of S k130 (by decide)) d_Ha_pad_62 (fun f137 H locs Y S w137 => ?_)
                refine lv_iinc (v := iI (z102 + 1)) (lv' := [(5, .int (iI (z102 + 1))), (0, .ref h), (1, .ref a1), (2, .int (iI a2)), (3, .int (iI a3)), (4, .int (iI a4))]) X.1 X.2.1 d_Ha_pad_63 hl (k := 5) rfl ((iI_add _ _).trans (congrArg iI (by omega))) (by decide) rfl (fun ls hl => ?_)
                refine lv_goto (tgt := 3) X.1 X.2.1 d_Ha_pad_66 (by decide) ?_
                exact ih104 ((64 - (z102 + 1)).toNat) (by omega) (z102 + 1) f137 _ _ _ rfl (by omega) (by omega) Y S (lv_sub hl [1, 2, 3, 4, 5, 0] rfl)
              refine z_if_eq (tgt := 59) X.1 X.2.1 d_Ha_pad_44 (by decide) ⟨by omega, by omega⟩ (fun h138 => False.elim (by omega)) (fun h138 => ?_)
              · refine lv_aload_n X.1 X.2.1 d_Ha_pad_47 rfl (lv_at hl 2 rfl) ?_
                refine lv_iload_n X.1 X.2.1 d_Ha_pad_48 rfl (lv_at hl 3 rfl) ?_
                refine lv_iload X.1 X.2.1 d_Ha_pad_49 (lv_at hl 6 rfl) ?_
                refine z_iadd X.1 X.2.1 d_Ha_pad_51 ?_
                refine t_bald X Y S k1 (by omega) (by omega) (by omega) d_Ha_pad_52 (fun z139 l139 u139 => ?_)
                refine lv_iload X.1 X.2.1 d_Ha_pad_53 (lv_at hl 5 rfl) ?_
                refine lv_ixor X.1 X.2.1 d_Ha_pad_55 ?_
                refine t_u (fun z140 l140 u140 => ?_)
                refine lv_goto (tgt := 61) X.1 X.2.1 d_Ha_pad_56 (by decide) ?_
                exact J132 z140 _ _ _ (by omega) (by omega) Y S (lv_sub hl [1, 2, 3, 4, 5, 6] rfl)
  refine lv_istore (lv' := [(5, .int (iI 0)), (0, .ref h), (1, .ref a1), (2, .int (iI a2)), (3, .int (iI a3)), (4, .int (iI a4))]) X.1 X.2.1 d_Ha_pad_1 hl (by decide) rfl (fun ls hl => ?_)
  exact J103 _ 0 f _ _ _ rfl (by omega) (by omega) Y S (lv_sub hl [1, 2, 3, 4, 5, 0] rfl)
set_option maxHeartbeats 4000000 in
set_option maxRecDepth 100000 in
theorem c_Ha_setKey (l : Launch) (D : va_G) (E : cE) (T : cT) (κ : tK) (L : List Nat) (f : pF) (sz : Nat) (h : Nat) (k0 : κ h = (16, 0)) (a1 n1 : Nat) (k1 : tSrc T κ a1 n1) (x1 : n1 ≤ 12288) (a2 : Int) (l_a2 : (-1) ≤ a2) (u_a2 : a2 ≤ 20200) (a3 : Int) (l_a3 : (-40400) ≤ a3) (u_a3 : a3 ≤ 40400) (hw : tW E T κ L f) : Met l y_Ha_setKey (k_Ha_setKey :: lw_tg) (kRm 3 114 0 0) (va_Pc [.ref h, .ref a1, .int (iI a2), .int (iI a3)] (kPre D E T L f sz)) (va_Qv (nPv E T [1, 2, 3, 4] κ L f (fun (g : pF) => True)) (cPost D E (pA L sz)) (pA L sz)) 0 0 (pA L sz) := by
  refine k_enter (own := R_Ha) (by decide) rfl (Nat.le_of_ble_eq_true rfl) (fun p e s m below meth c ls AV QQ H locs hQQ X Y hA hin hr hlk hml hl KS KR => ?_)
  have hl : lv_has ls 4 [(0, .ref h), (1, .ref a1), (2, .int (iI a2)), (3, .int (iI a3))] := hl
  have S : tS E T (tFr κ L [1, 2, 3, 4] []) κ L f κ L f := tS_rf hw
  refine lv_aload_n X.1 X.2.1 d_Ha_setKey_0 rfl (lv_at hl 0 rfl) ?_
  refine lv_aload_n X.1 X.2.1 d_Ha_setKey_1 rfl (lv_at hl 1 rfl) ?_
  refine lv_iload_n X.1 X.2.1 d_Ha_setKey_2 rfl (lv_at hl 2 rfl) ?_
  refine lv_iload_n X.1 X.2.1 d_Ha_setKey_3 rfl (lv_at hl 3 rfl) ?_
  refine lv_bipush (v := iI 54) X.1 X.2.1 d_Ha_setKey_4 (by decide) ?_
  refine t_nv (t_runV (As := [.ref a1, .int (iI a2), .int (iI a3), .int (iI 54)]) (rest := []) (n := 4) X Y S k0 hml hl.1 (c_Ha_pad l D E T κ L f H.size h k0 a1 n1 k1 (by omega) a2 (by omega) (by omega) a3 (by omega) (by omega) 54 (by omega) (by omega) S.1) (ok_k X Y hA KS KR) rfl kl_Ha_Ha_pad ks_Ha_pad kx_Ha_pad ki_Ha_pad ini_Ha ⟨rfl, rfl⟩ hd_Ha_pad ⟨Nat.le_of_ble_eq_true rfl, Nat.le_of_ble_eq_true rfl⟩ rfl (Nat.le_of_ble_eq_true rfl) d_Ha_setKey_6 ⟨Nat.le_of_ble_eq_true rfl, Nat.le_of_ble_eq_true rfl⟩) X Y hA S (by decide) (fun f101 H locs Y S s101 p101 => ?_)
  refine lv_aload_n X.1 X.2.1 d_Ha_setKey_9 rfl (lv_at hl 0 rfl) ?_
  refine t_getr (ci := 6) X Y S k0 rfl i_Ha 2 (by decide) rfl (k1 := 2) (k2 := 5) rfl rfl lk_Ha_17 (fun _ h9 => h9) d_Ha_setKey_10 (fun b102 e102 k102 => ?_)
  refine lv_iconst (v := iI 0) X.1 X.2.1 d_Ha_setKey_13 (by decide) ?_
  refine lv_aload_n X.1 X.2.1 d_Ha_setKey_14 rfl (lv_at hl 0 rfl) ?_
  refine t_getr (ci := 6) X Y S k0 rfl i_Ha 3 (by decide) rfl (k1 := 2) (k2 := 5) rfl rfl lk_Ha_20 (fun _ h9 => h9) d_Ha_setKey_15 (fun b103 e103 k103 => ?_)
  refine lv_iconst (v := iI 0) X.1 X.2.1 d_Ha_setKey_18 (by decide) ?_
  refine lv_iconst (v := iI 5) X.1 X.2.1 d_Ha_setKey_19 (by decide) ?_
  refine t_copyI (Or.inl rfl) X Y S (hml.trans hl.1.symm) kl_Ha_copy k102 k103 (by omega) (by omega) (by omega) (by omega) (by omega) (by omega) (by omega) (nF_of S k103 (by decide)) (Nat.le_of_ble_eq_true rfl) (Nat.le_of_ble_eq_true rfl) d_Ha_setKey_20 (fun f104 H locs Y S w104 => ?_)
  refine lv_aload_n X.1 X.2.1 d_Ha_setKey_23 rfl (lv_at hl 0 rfl) ?_
  refine lv_aload_n X.1 X.2.1 d_Ha_setKey_24 rfl (lv_at hl 1 rfl) ?_
  refine lv_iload_n X.1 X.2.1 d_Ha_setKey_25 rfl (lv_at hl 2 rfl) ?_
  refine lv_iload_n X.1 X.2.1 d_Ha_setKey_26 rfl (lv_at hl 3 rfl) ?_
  refine lv_bipush (v := iI 92) X.1 X.2.1 d_Ha_setKey_27 (by decide) ?_
  refine t_nv (t_runV (As := [.ref a1, .int (iI a2), .int (iI a3), .int (iI 92)]) (rest := []) (n := 4) X Y S k0 hml hl.1 (c_Ha_pad l D E T κ L f104 H.size h k0 a1 n1 k1 (by omega) a2 (by omega) (by omega) a3 (by omega) (by omega) 92 (by omega) (by omega) S.1) (ok_k X Y hA KS KR) rfl kl_Ha_Ha_pad ks_Ha_pad kx_Ha_pad ki_Ha_pad ini_Ha ⟨rfl, rfl⟩ hd_Ha_pad ⟨Nat.le_of_ble_eq_true rfl, Nat.le_of_ble_eq_true rfl⟩ rfl (Nat.le_of_ble_eq_true rfl) d_Ha_setKey_29 ⟨Nat.le_of_ble_eq_true rfl, Nat.le_of_ble_eq_true rfl⟩) X Y hA S (by decide) (fun f105 H locs Y S s105 p105 => ?_)
  refine lv_aload_n X.1 X.2.1 d_Ha_setKey_32 rfl (lv_at hl 0 rfl) ?_
  refine t_get0 (ci := 6) X Y S k0 rfl i_Ha 2 (by decide) rfl lk_Ha_17 (fun _ h9 => h9) d_Ha_setKey_33 ((gF_same (s105.2.2.2 _ ⟨(t_obj S.1 k0).1, nM_of k0 (by decide), by simp⟩).1 2).trans ((gF_same (w104 _ (k_ne k0 k103 (by decide))) 2).trans e102)) ?_
  refine lv_iconst (v := iI 0) X.1 X.2.1 d_Ha_setKey_36 (by decide) ?_
  refine lv_aload_n X.1 X.2.1 d_Ha_setKey_37 rfl (lv_at hl 0 rfl) ?_
  refine t_getr (ci := 6) X Y S k0 rfl i_Ha 4 (by decide) rfl (k1 := 2) (k2 := 5) rfl rfl lk_Ha_23 (fun _ h9 => h9) d_Ha_setKey_38 (fun b106 e106 k106 => ?_)
  refine lv_iconst (v := iI 0) X.1 X.2.1 d_Ha_setKey_41 (by decide) ?_
  refine lv_iconst (v := iI 5) X.1 X.2.1 d_Ha_setKey_42 (by decide) ?_
  refine t_copyI (Or.inl rfl) X Y S (hml.trans hl.1.symm) kl_Ha_copy k102 k106 (by omega) (by omega) (by omega) (by omega) (by omega) (by omega) (by omega) (nF_of S k106 (by decide)) (Nat.le_of_ble_eq_true rfl) (Nat.le_of_ble_eq_true rfl) d_Ha_setKey_43 (fun f107 H locs Y S w107 => ?_)
  exact c_retv hQQ X Y hr hlk ⟨rfl, S, trivial⟩ d_Ha_setKey_46
set_option maxHeartbeats 4000000 in
set_option maxRecDepth 100000 in
theorem c_Ha_begin (l : Launch) (D : va_G) (E : cE) (T : cT) (κ : tK) (L : List Nat) (f : pF) (sz : Nat) (h : Nat) (k0 : κ h = (16, 0)) (hw : tW E T κ L f) : Met l y_Ha_begin (k_Ha_begin :: lw_tg) (kRm 1 60 0 0) (va_Pc [.ref h] (kPre D E T L f sz)) (va_Qv (nPv E T [1, 2, 3, 16] κ L f (fun (g : pF) => (∃ fl : Int, gF g h 5 = .int (iI fl) ∧ 0 ≤ fl ∧ fl ≤ 63))) (cPost D E (pA L sz)) (pA L sz)) 0 0 (pA L sz) := by
  refine k_enter (own := R_Ha) (by decide) rfl (Nat.le_of_ble_eq_true rfl) (fun p e s m below meth c ls AV QQ H locs hQQ X Y hA hin hr hlk hml hl KS KR => ?_)
  have hl : lv_has ls 1 [(0, .ref h)] := hl
  have S : tS E T (tFr κ L [1, 2, 3, 16] []) κ L f κ L f := tS_rf hw
  refine lv_aload_n X.1 X.2.1 d_Ha_begin_0 rfl (lv_at hl 0 rfl) ?_
  refine t_getr (ci := 6) X Y S k0 rfl i_Ha 3 (by decide) rfl (k1 := 2) (k2 := 5) rfl rfl lk_Ha_20 (fun _ h9 => h9) d_Ha_begin_1 (fun b101 e101 k101 => ?_)
  refine lv_iconst (v := iI 0) X.1 X.2.1 d_Ha_begin_4 (by decide) ?_
  refine lv_aload_n X.1 X.2.1 d_Ha_begin_5 rfl (lv_at hl 0 rfl) ?_
  refine t_getr (ci := 6) X Y S k0 rfl i_Ha 2 (by decide) rfl (k1 := 2) (k2 := 5) rfl rfl lk_Ha_17 (fun _ h9 => h9) d_Ha_begin_6 (fun b102 e102 k102 => ?_)
  refine lv_iconst (v := iI 0) X.1 X.2.1 d_Ha_begin_9 (by decide) ?_
  refine lv_iconst (v := iI 5) X.1 X.2.1 d_Ha_begin_10 (by decide) ?_
  refine t_copyI (Or.inl rfl) X Y S (hml.trans hl.1.symm) kl_Ha_copy k101 k102 (by omega) (by omega) (by omega) (by omega) (by omega) (by omega) (by omega) (nF_of S k102 (by decide)) (Nat.le_of_ble_eq_true rfl) (Nat.le_of_ble_eq_true rfl) d_Ha_begin_11 (fun f103 H locs Y S w103 => ?_)
  refine lv_aload_n X.1 X.2.1 d_Ha_begin_14 rfl (lv_at hl 0 rfl) ?_
  refine lv_iconst (v := iI 0) X.1 X.2.1 d_Ha_begin_15 (by decide) ?_
  refine t_put (ci := 6) X Y S k0 rfl i_Ha t_Ha t_Ha_ok n_Ha 5 (by decide) rfl lk_Ha_47 (fun _ h9 => h9) rfl (t_Ha_ok 5 (by decide)) rfl rfl ⟨_, rfl, (show (0 : Int) ≤ 0 by omega), (show 0 ≤ (64 : Int) by omega)⟩ (nF_of S k0 (by decide)) d_Ha_begin_16 (fun f104 H locs Y S w104 => ?_)
  refine lv_aload_n X.1 X.2.1 d_Ha_begin_19 rfl (lv_at hl 0 rfl) ?_
  refine lv_bipush (v := iI 64) X.1 X.2.1 d_Ha_begin_20 (by decide) ?_
  refine t_put (ci := 6) X Y S k0 rfl i_Ha t_Ha t_Ha_ok n_Ha 6 (by decide) rfl lk_Ha_51 (fun _ h9 => h9) rfl (t_Ha_ok 6 (by decide)) rfl rfl ⟨_, rfl, (show ((-2147483648) : Int) ≤ 64 by omega), (show 64 ≤ (2147483647 : Int) by omega)⟩ (nF_of S k0 (by decide)) d_Ha_begin_22 (fun f105 H locs Y S w105 => ?_)
  exact c_retv hQQ X Y hr hlk ⟨rfl, S, ⟨0, ((gF_put w105 (Or.inr (by decide))).trans w104.2.1), by omega, by omega⟩⟩ d_Ha_begin_25
set_option maxHeartbeats 4000000 in
set_option maxRecDepth 100000 in
theorem c_Ha_add (l : Launch) (D : va_G) (E : cE) (T : cT) (κ : tK) (L : List Nat) (f : pF) (sz : Nat) (h : Nat) (k0 : κ h = (16, 0)) (a1 n1 : Nat) (k1 : tSrc T κ a1 n1) (x1 : n1 ≤ 12288) (a2 : Int) (l_a2 : (-20200) ≤ a2) (u_a2 : a2 ≤ 20200) (a3 : Int) (l_a3 : (-40400) ≤ a3) (u_a3 : a3 ≤ 40400) (hw : tW E T κ L f) (fl : Int) (g0 : gF f h 5 = .int (iI fl)) (g1 : 0 ≤ fl) (g2 : fl ≤ 63) : Met l y_Ha_add (k_Ha_add :: lw_tg) (kRm 2 88 0 0) (va_Pc [.ref h, .ref a1, .int (iI a2), .int (iI a3)] (kPre D E T L f sz)) (va_Qv (nPv E T [1, 2, 3, 4, 16] κ L f (fun (g : pF) => (∃ fl : Int, gF g h 5 = .int (iI fl) ∧ 0 ≤ fl ∧ fl ≤ 63))) (cPost D E (pA L sz)) (pA L sz)) 0 0 (pA L sz) := by
  refine k_enter (own := R_Ha) (by decide) rfl (Nat.le_of_ble_eq_true rfl) (fun p e s m below meth c ls AV QQ H locs hQQ X Y hA hin hr hlk hml hl KS KR => ?_)
  have hl : lv_has ls 5 [(0, .ref h), (1, .ref a1), (2, .int (iI a2)), (3, .int (iI a3))] := hl
  have S : tS E T (tFr κ L [1, 2, 3, 4, 16] []) κ L f κ L f := tS_rf hw
  refine lv_iload_n X.1 X.2.1 d_Ha_add_0 rfl (lv_at hl 2 rfl) ?_
  refine z_if_lt (tgt := 16) X.1 X.2.1 d_Ha_add_1 (by decide) ⟨by omega, by omega⟩ (fun h101 => ?_) (fun h101 => ?_)
  · exact c_retv hQQ X Y hr hlk ⟨rfl, S, ⟨fl, g0, by omega, by omega⟩⟩ d_Ha_add_16
  · refine lv_iload_n X.1 X.2.1 d_Ha_add_4 rfl (lv_at hl 3 rfl) ?_
    refine z_if_lt (tgt := 16) X.1 X.2.1 d_Ha_add_5 (by decide) ⟨by omega, by omega⟩ (fun h102 => ?_) (fun h102 => ?_)
    · exact c_retv hQQ X Y hr hlk ⟨rfl, S, ⟨fl, g0, by omega, by omega⟩⟩ d_Ha_add_16
    · refine lv_iload_n X.1 X.2.1 d_Ha_add_8 rfl (lv_at hl 3 rfl) ?_
      refine lv_aload_n X.1 X.2.1 d_Ha_add_9 rfl (lv_at hl 1 rfl) ?_
      refine t_alen X Y S KS k1 (by omega) d_Ha_add_10 ?_
      refine lv_iload_n X.1 X.2.1 d_Ha_add_11 rfl (lv_at hl 2 rfl) ?_
      refine z_isub X.1 X.2.1 d_Ha_add_12 ?_
      refine z_icmp_le (tgt := 17) X.1 X.2.1 d_Ha_add_13 (by decide) ⟨by omega, by omega⟩ ⟨by omega, by omega⟩ (fun h103 => ?_) (fun h103 => ?_)
      · refine lv_iload_n X.1 X.2.1 d_Ha_add_17 rfl (lv_at hl 2 rfl) ?_
        have J107 : ∀ (n109 : Nat) (z105 : Int) (z106 : Int) (f104 : pF) (H : Heap) (locs : List Loc) (ls : Array Slot), (32488 - z105).toNat = n109 → (0 ≤ z105) → (z105 ≤ 32488) → (gF f104 h 5 = .int (iI z106)) → (0 ≤ z106) → (z106 ≤ 63) → pH D cCl (pA L sz) s.heap L f104 H locs → tS E T (tFr κ L [1, 2, 3, 4, 16] []) κ L f κ L f104 → lv_has ls 5 [(0, .ref h), (1, .ref a1), (2, .int (iI a2)), (3, .int (iI a3)), (4, .int (iI z105))] → W p l e (kRm 2 88 0 0) s m AV below meth c H locs 0 0 QQ (F0 m 20 ls []) := by
          intro n109
          induction n109 using Nat.strongRecOn with
          | ind n109 ih108 =>
            intro z105 z106 f104 H locs ls hm110 l105 u105 e106 l106 u106 Y S hl
            refine lv_iload X.1 X.2.1 d_Ha_add_20 (lv_at hl 4 rfl) ?_
            refine lv_iload_n X.1 X.2.1 d_Ha_add_22 rfl (lv_at hl 2 rfl) ?_
            refine lv_iload_n X.1 X.2.1 d_Ha_add_23 rfl (lv_at hl 3 rfl) ?_
            refine z_iadd X.1 X.2.1 d_Ha_add_24 ?_
            refine z_icmp_ge (tgt := 75) X.1 X.2.1 d_Ha_add_25 (by decide) ⟨by omega, by omega⟩ ⟨by omega, by omega⟩ (fun h111 => ?_) (fun h111 => ?_)
            · refine lv_aload_n X.1 X.2.1 d_Ha_add_75 rfl (lv_at hl 0 rfl) ?_
              refine lv_dup X.1 X.2.1 d_Ha_add_76 rfl ?_
              refine t_geti (ci := 6) X Y S k0 rfl i_Ha 6 (by decide) rfl lk_Ha_51 (fun _ h9 => h9) d_Ha_add_77 (fun z112 e112 l112 u112 => ?_)
              refine lv_iload_n X.1 X.2.1 d_Ha_add_80 rfl (lv_at hl 3 rfl) ?_
              refine lv_iadd X.1 X.2.1 d_Ha_add_81 ?_
              refine t_u (fun z113 l113 u113 => ?_)
              refine t_put (ci := 6) X Y S k0 rfl i_Ha t_Ha t_Ha_ok n_Ha 6 (by decide) rfl lk_Ha_51 (fun _ h9 => h9) rfl (t_Ha_ok 6 (by decide)) rfl rfl ⟨_, rfl, (show ((-2147483648) : Int) ≤ z113 by omega), (show z113 ≤ (2147483647 : Int) by omega)⟩ (nF_of S k0 (by decide)) d_Ha_add_82 (fun f114 H locs Y S w114 => ?_)
              exact c_retv hQQ X Y hr hlk ⟨rfl, S, ⟨z106, ((gF_put w114 (Or.inr (by decide))).trans e106), by omega, by omega⟩⟩ d_Ha_add_85
            · refine lv_aload_n X.1 X.2.1 d_Ha_add_28 rfl (lv_at hl 0 rfl) ?_
              refine t_getr (ci := 6) X Y S k0 rfl i_Ha 1 (by decide) rfl (k1 := 1) (k2 := 64) rfl rfl lk_Ha_13 (fun _ h9 => h9) d_Ha_add_29 (fun b115 e115 k115 => ?_)
              refine lv_aload_n X.1 X.2.1 d_Ha_add_32 rfl (lv_at hl 0 rfl) ?_
              refine t_get0 (ci := 6) X Y S k0 rfl i_Ha 5 (by decide) rfl lk_Ha_47 (fun _ h9 => h9) d_Ha_add_33 e106 ?_
              refine lv_aload_n X.1 X.2.1 d_Ha_add_36 rfl (lv_at hl 1 rfl) ?_
              refine lv_iload X.1 X.2.1 d_Ha_add_37 (lv_at hl 4 rfl) ?_
              refine t_bald X Y S k1 (by omega) (by omega) (by omega) d_Ha_add_39 (fun z116 l116 u116 => ?_)
              refine t_bast X Y S k115 (by omega) (by omega) (by omega) (nF_of S k115 (by decide)) d_Ha_add_40 (fun f117 H locs Y S w117 => ?_)
              refine lv_aload_n X.1 X.2.1 d_Ha_add_41 rfl (lv_at hl 0 rfl) ?_
              refine lv_dup X.1 X.2.1 d_Ha_add_42 rfl ?_
              refine t_get0 (ci := 6) X Y S k0 rfl i_Ha 5 (by decide) rfl lk_Ha_47 (fun _ h9 => h9) d_Ha_add_43 ((gF_same (w117 _ (k_ne k0 k115 (by decide))) 5).trans e106) ?_
              refine lv_iconst (v := iI 1) X.1 X.2.1 d_Ha_add_46 (by decide) ?_
              refine z_iadd X.1 X.2.1 d_Ha_add_47 ?_
              refine t_put (ci := 6) X Y S k0 rfl i_Ha t_Ha t_Ha_ok n_Ha 5 (by decide) rfl lk_Ha_47 (fun _ h9 => h9) rfl (t_Ha_ok 5 (by decide)) rfl rfl ⟨_, rfl, (show (0 : Int) ≤ z106 + 1 by omega), (show z106 + 1 ≤ (64 : Int) by omega)⟩ (nF_of S k0 (by decide)) d_Ha_add_48 (fun f118 H locs Y S w118 => ?_)
              refine lv_aload_n X.1 X.2.1 d_Ha_add_51 rfl (lv_at hl 0 rfl) ?_
              refine t_get0 (ci := 6) X Y S k0 rfl i_Ha 5 (by decide) rfl lk_Ha_47 (fun _ h9 => h9) d_Ha_add_52 w118.2.1 ?_
              refine lv_bipush (v := iI 64) X.1 X.2.1 d_Ha_add_55 (by decide) ?_
              have J121 : ∀ (z120 : Int) (f119 : pF) (H : Heap) (locs : List Loc) (ls : Array Slot), (gF f119 h 5 = .int (iI z120)) → (0 ≤ z120) → (z120 ≤ 63) → pH D cCl (pA L sz) s.heap L f119 H locs → tS E T (tFr κ L [1, 2, 3, 4, 16] []) κ L f κ L f119 → lv_has ls 5 [(0, .ref h), (1, .ref a1), (2, .int (iI a2)), (3, .int (iI a3)), (4, .int (iI z105))] → W p l e (kRm 2 88 0 0) s m AV below meth c H locs 0 0 QQ (F0 m 69 ls []) := by
                intro z120 f119 H locs ls e120 l120 u120 Y S hl
                refine lv_iinc (v := iI (z105 + 1)) (lv' := [(4, .int (iI (z105 + 1))), (0, .ref h), (1, .ref a1), (2, .int (iI a2)), (3, .int (iI a3))]) X.1 X.2.1 d_Ha_add_69 hl (k := 4) rfl ((iI_add _ _).trans (congrArg iI (by omega))) (by decide) rfl (fun ls hl => ?_)
                refine lv_goto (tgt := 20) X.1 X.2.1 d_Ha_add_72 (by decide) ?_
                exact ih108 ((32488 - (z105 + 1)).toNat) (by omega) (z105 + 1) z120 f119 _ _ _ rfl (by omega) (by omega) e120 (by omega) (by omega) Y S (lv_sub hl [1, 2, 3, 4, 0] rfl)
              refine z_icmp_ne (tgt := 69) X.1 X.2.1 d_Ha_add_57 (by decide) ⟨by omega, by omega⟩ ⟨by omega, by omega⟩ (fun h125 => ?_) (fun h125 => ?_)
              · exact J121 (z106 + 1) f118 _ _ _ w118.2.1 (by omega) (by omega) Y S (lv_sub hl [0, 1, 2, 3, 4] rfl)
              · refine lv_aload_n X.1 X.2.1 d_Ha_add_60 rfl (lv_at hl 0 rfl) ?_
                refine t_nv (t_runV (As := []) (rest := []) (n := 0) X Y S k0 hml hl.1 (c_Ha_compress l D E T κ L f118 H.size h k0 S.1) (ok_k X Y hA KS KR) rfl kl_Ha_Ha_compress ks_Ha_compress kx_Ha_compress ki_Ha_compress ini_Ha ⟨rfl, rfl⟩ hd_Ha_compress ⟨Nat.le_of_ble_eq_true rfl, Nat.le_of_ble_eq_true rfl⟩ rfl (Nat.le_of_ble_eq_true rfl) d_Ha_add_61 ⟨Nat.le_of_ble_eq_true rfl, Nat.le_of_ble_eq_true rfl⟩) X Y hA S (by decide) (fun f126 H locs Y S s126 p126 => ?_)
                refine lv_aload_n X.1 X.2.1 d_Ha_add_64 rfl (lv_at hl 0 rfl) ?_
                refine lv_iconst (v := iI 0) X.1 X.2.1 d_Ha_add_65 (by decide) ?_
                refine t_put (ci := 6) X Y S k0 rfl i_Ha t_Ha t_Ha_ok n_Ha 5 (by decide) rfl lk_Ha_47 (fun _ h9 => h9) rfl (t_Ha_ok 5 (by decide)) rfl rfl ⟨_, rfl, (show (0 : Int) ≤ 0 by omega), (show 0 ≤ (64 : Int) by omega)⟩ (nF_of S k0 (by decide)) d_Ha_add_66 (fun f127 H locs Y S w127 => ?_)
                exact J121 0 f127 _ _ _ w127.2.1 (by omega) (by omega) Y S (lv_sub hl [0, 1, 2, 3, 4] rfl)
        refine lv_istore (lv' := [(4, .int (iI a2)), (0, .ref h), (1, .ref a1), (2, .int (iI a2)), (3, .int (iI a3))]) X.1 X.2.1 d_Ha_add_18 hl (by decide) rfl (fun ls hl => ?_)
        exact J107 _ a2 fl f _ _ _ rfl (by omega) (by omega) g0 (by omega) (by omega) Y S (lv_sub hl [1, 2, 3, 4, 0] rfl)
      · exact c_retv hQQ X Y hr hlk ⟨rfl, S, ⟨fl, g0, by omega, by omega⟩⟩ d_Ha_add_16
set_option maxHeartbeats 4000000 in
set_option maxRecDepth 100000 in
theorem c_Ha_close (l : Launch) (D : va_G) (E : cE) (T : cT) (κ : tK) (L : List Nat) (f : pF) (sz : Nat) (h : Nat) (k0 : κ h = (16, 0)) (hw : tW E T κ L f) (fl : Int) (g0 : gF f h 5 = .int (iI fl)) (g1 : 0 ≤ fl) (g2 : fl ≤ 63) : Met l y_Ha_close (k_Ha_close :: lw_tg) (kRm 2 88 0 0) (va_Pc [.ref h] (kPre D E T L f sz)) (va_Qv (nPv E T [1, 2, 3, 4] κ L f (fun (g : pF) => True)) (cPost D E (pA L sz)) (pA L sz)) 0 0 (pA L sz) := by
  refine k_enter (own := R_Ha) (by decide) rfl (Nat.le_of_ble_eq_true rfl) (fun p e s m below meth c ls AV QQ H locs hQQ X Y hA hin hr hlk hml hl KS KR => ?_)
  have hl : lv_has ls 3 [(0, .ref h)] := hl
  have S : tS E T (tFr κ L [1, 2, 3, 4] []) κ L f κ L f := tS_rf hw
  refine lv_aload_n X.1 X.2.1 d_Ha_close_0 rfl (lv_at hl 0 rfl) ?_
  refine t_getr (ci := 6) X Y S k0 rfl i_Ha 1 (by decide) rfl (k1 := 1) (k2 := 64) rfl rfl lk_Ha_13 (fun _ h9 => h9) d_Ha_close_1 (fun b101 e101 k101 => ?_)
  refine lv_aload_n X.1 X.2.1 d_Ha_close_4 rfl (lv_at hl 0 rfl) ?_
  refine t_get0 (ci := 6) X Y S k0 rfl i_Ha 5 (by decide) rfl lk_Ha_47 (fun _ h9 => h9) d_Ha_close_5 g0 ?_
  refine lv_bipush (v := iI (-128)) X.1 X.2.1 d_Ha_close_8 (by decide) ?_
  refine t_bast X Y S k101 (by omega) (by omega) (by omega) (nF_of S k101 (by decide)) d_Ha_close_10 (fun f102 H locs Y S w102 => ?_)
  refine lv_aload_n X.1 X.2.1 d_Ha_close_11 rfl (lv_at hl 0 rfl) ?_
  refine t_get0 (ci := 6) X Y S k0 rfl i_Ha 5 (by decide) rfl lk_Ha_47 (fun _ h9 => h9) d_Ha_close_12 ((gF_same (w102 _ (k_ne k0 k101 (by decide))) 5).trans g0) ?_
  refine lv_iconst (v := iI 1) X.1 X.2.1 d_Ha_close_15 (by decide) ?_
  refine z_iadd X.1 X.2.1 d_Ha_close_16 ?_
  have J105 : ∀ (n107 : Nat) (z104 : Int) (f103 : pF) (H : Heap) (locs : List Loc) (ls : Array Slot), (64 - z104).toNat = n107 → (1 ≤ z104) → (z104 ≤ 64) → pH D cCl (pA L sz) s.heap L f103 H locs → tS E T (tFr κ L [1, 2, 3, 4] []) κ L f κ L f103 → lv_has ls 3 [(0, .ref h), (1, .int (iI z104))] → W p l e (kRm 2 88 0 0) s m AV below meth c H locs 0 0 QQ (F0 m 18 ls []) := by
    intro n107
    induction n107 using Nat.strongRecOn with
    | ind n107 ih106 =>
      intro z104 f103 H locs ls hm108 l104 u104 Y S hl
      refine lv_iload_n X.1 X.2.1 d_Ha_close_18 rfl (lv_at hl 1 rfl) ?_
      refine lv_bipush (v := iI 64) X.1 X.2.1 d_Ha_close_19 (by decide) ?_
      refine z_icmp_ge (tgt := 37) X.1 X.2.1 d_Ha_close_21 (by decide) ⟨by omega, by omega⟩ ⟨by omega, by omega⟩ (fun h109 => ?_) (fun h109 => ?_)
      · refine lv_aload_n X.1 X.2.1 d_Ha_close_37 rfl (lv_at hl 0 rfl) ?_
        refine t_geti (ci := 6) X Y S k0 rfl i_Ha 5 (by decide) rfl lk_Ha_47 (fun _ h9 => h9) d_Ha_close_38 (fun z110 e110 l110 u110 => ?_)
        refine lv_bipush (v := iI 56) X.1 X.2.1 d_Ha_close_41 (by decide) ?_
        have J112 : ∀ (f111 : pF) (H : Heap) (locs : List Loc) (ls : Array Slot), pH D cCl (pA L sz) s.heap L f111 H locs → tS E T (tFr κ L [1, 2, 3, 4] []) κ L f κ L f111 → lv_has ls 3 [(0, .ref h)] → W p l e (kRm 2 88 0 0) s m AV below meth c H locs 0 0 QQ (F0 m 71 ls []) := by
          intro f111 H locs ls  Y S hl
          refine lv_aload_n X.1 X.2.1 d_Ha_close_71 rfl (lv_at hl 0 rfl) ?_
          refine t_geti (ci := 6) X Y S k0 rfl i_Ha 6 (by decide) rfl lk_Ha_51 (fun _ h9 => h9) d_Ha_close_72 (fun z116 e116 l116 u116 => ?_)
          refine lv_bipush (v := iI 8) X.1 X.2.1 d_Ha_close_75 (by decide) ?_
          refine lv_imul X.1 X.2.1 d_Ha_close_77 ?_
          refine t_u (fun z117 l117 u117 => ?_)
          refine lv_istore_n (lv' := [(1, .int (iI z117)), (0, .ref h)]) X.1 X.2.1 d_Ha_close_78 rfl hl (by decide) rfl (fun ls hl => ?_)
          refine lv_iconst (v := iI 0) X.1 X.2.1 d_Ha_close_79 (by decide) ?_
          have J120 : ∀ (n122 : Nat) (z119 : Int) (f118 : pF) (H : Heap) (locs : List Loc) (ls : Array Slot), (4 - z119).toNat = n122 → (0 ≤ z119) → (z119 ≤ 4) → pH D cCl (pA L sz) s.heap L f118 H locs → tS E T (tFr κ L [1, 2, 3, 4] []) κ L f κ L f118 → lv_has ls 3 [(0, .ref h), (1, .int (iI z117)), (2, .int (iI z119))] → W p l e (kRm 2 88 0 0) s m AV below meth c H locs 0 0 QQ (F0 m 81 ls []) := by
            intro n122
            induction n122 using Nat.strongRecOn with
            | ind n122 ih121 =>
              intro z119 f118 H locs ls hm123 l119 u119 Y S hl
              refine lv_iload_n X.1 X.2.1 d_Ha_close_81 rfl (lv_at hl 2 rfl) ?_
              refine lv_iconst (v := iI 4) X.1 X.2.1 d_Ha_close_82 (by decide) ?_
              refine z_icmp_ge (tgt := 108) X.1 X.2.1 d_Ha_close_83 (by decide) ⟨by omega, by omega⟩ ⟨by omega, by omega⟩ (fun h124 => ?_) (fun h124 => ?_)
              · refine lv_aload_n X.1 X.2.1 d_Ha_close_108 rfl (lv_at hl 0 rfl) ?_
                refine t_nv (t_runV (As := []) (rest := []) (n := 0) X Y S k0 hml hl.1 (c_Ha_compress l D E T κ L f118 H.size h k0 S.1) (ok_k X Y hA KS KR) rfl kl_Ha_Ha_compress ks_Ha_compress kx_Ha_compress ki_Ha_compress ini_Ha ⟨rfl, rfl⟩ hd_Ha_compress ⟨Nat.le_of_ble_eq_true rfl, Nat.le_of_ble_eq_true rfl⟩ rfl (Nat.le_of_ble_eq_true rfl) d_Ha_close_109 ⟨Nat.le_of_ble_eq_true rfl, Nat.le_of_ble_eq_true rfl⟩) X Y hA S (by decide) (fun f125 H locs Y S s125 p125 => ?_)
                refine lv_iconst (v := iI 0) X.1 X.2.1 d_Ha_close_112 (by decide) ?_
                have J128 : ∀ (n130 : Nat) (z127 : Int) (f126 : pF) (H : Heap) (locs : List Loc) (ls : Array Slot), (20 - z127).toNat = n130 → (0 ≤ z127) → (z127 ≤ 20) → pH D cCl (pA L sz) s.heap L f126 H locs → tS E T (tFr κ L [1, 2, 3, 4] []) κ L f κ L f126 → lv_has ls 3 [(0, .ref h), (2, .int (iI z127))] → W p l e (kRm 2 88 0 0) s m AV below meth c H locs 0 0 QQ (F0 m 114 ls []) := by
                  intro n130
                  induction n130 using Nat.strongRecOn with
                  | ind n130 ih129 =>
                    intro z127 f126 H locs ls hm131 l127 u127 Y S hl
                    refine lv_iload_n X.1 X.2.1 d_Ha_close_114 rfl (lv_at hl 1 rfl) ?_
                    refine lv_bipush (v := iI 20) X.1 X.2.1 d_Ha_close_115 (by decide) ?_
                    refine z_icmp_ge (tgt := 151) X.1 X.2.1 d_Ha_close_117 (by decide) ⟨by omega, by omega⟩ ⟨by omega, by omega⟩ (fun h132 => ?_) (fun h132 => ?_)
                    · exact c_retv hQQ X Y hr hlk ⟨rfl, S, trivial⟩ d_Ha_close_151
                    · refine lv_aload_n X.1 X.2.1 d_Ha_close_120 rfl (lv_at hl 0 rfl) ?_
                      refine t_getr (ci := 6) X Y S k0 rfl i_Ha 7 (by decide) rfl (k1 := 1) (k2 := 20) rfl rfl lk_Ha_26 (fun _ h9 => h9) d_Ha_close_121 (fun b133 e133 k133 => ?_)
                      refine lv_iload_n X.1 X.2.1 d_Ha_close_124 rfl (lv_at hl 1 rfl) ?_
                      refine lv_aload_n X.1 X.2.1 d_Ha_close_125 rfl (lv_at hl 0 rfl) ?_
                      refine t_getr (ci := 6) X Y S k0 rfl i_Ha 2 (by decide) rfl (k1 := 2) (k2 := 5) rfl rfl lk_Ha_17 (fun _ h9 => h9) d_Ha_close_126 (fun b134 e134 k134 => ?_)
                      refine lv_iload_n X.1 X.2.1 d_Ha_close_129 rfl (lv_at hl 1 rfl) ?_
                      refine lv_iconst (v := iI 4) X.1 X.2.1 d_Ha_close_130 (by decide) ?_
                      refine z_idiv X.1 X.2.1 (by omega) (by omega) ⟨by decide, by decide⟩ d_Ha_close_131 ?_
                      refine t_iald2 X Y S k134 (by omega) (by omega) (by omega) d_Ha_close_132 (fun z135 l135 u135 => ?_)
                      refine lv_bipush (v := iI 24) X.1 X.2.1 d_Ha_close_133 (by decide) ?_
                      refine lv_iload_n X.1 X.2.1 d_Ha_close_135 rfl (lv_at hl 1 rfl) ?_
                      refine lv_iconst (v := iI 4) X.1 X.2.1 d_Ha_close_136 (by decide) ?_
                      refine z_irem X.1 X.2.1 (by omega) (by omega) ⟨by decide, by decide⟩ d_Ha_close_137 ?_
                      refine lv_bipush (v := iI 8) X.1 X.2.1 d_Ha_close_138 (by decide) ?_
                      refine z_imul X.1 X.2.1 d_Ha_close_140 ?_
                      refine z_isub X.1 X.2.1 d_Ha_close_141 ?_
                      refine lv_ishr X.1 X.2.1 d_Ha_close_142 ?_
                      refine t_u (fun z136 l136 u136 => ?_)
                      refine lv_i2b X.1 X.2.1 d_Ha_close_143 rfl ?_
                      refine t_u (fun z137 l137 u137 => ?_)
                      refine t_bast X Y S k133 (by omega) (by omega) (by omega) (nF_of S k133 (by decide)) d_Ha_close_144 (fun f138 H locs Y S w138 => ?_)
                      refine lv_iinc (v := iI (z127 + 1)) (lv' := [(2, .int (iI (z127 + 1))), (0, .ref h)]) X.1 X.2.1 d_Ha_close_145 hl (k := 1) rfl ((iI_add _ _).trans (congrArg iI (by omega))) (by decide) rfl (fun ls hl => ?_)
                      refine lv_goto (tgt := 114) X.1 X.2.1 d_Ha_close_148 (by decide) ?_
                      exact ih129 ((20 - (z127 + 1)).toNat) (by omega) (z127 + 1) f138 _ _ _ rfl (by omega) (by omega) Y S (lv_sub hl [1, 0] rfl)
                refine lv_istore_n (lv' := [(2, .int (iI 0)), (0, .ref h), (1, .int (iI z117))]) X.1 X.2.1 d_Ha_close_113 rfl hl (by decide) rfl (fun ls hl => ?_)
                exact J128 _ 0 f125 _ _ _ rfl (by omega) (by omega) Y S (lv_sub hl [1, 0] rfl)
              · refine lv_aload_n X.1 X.2.1 d_Ha_close_86 rfl (lv_at hl 0 rfl) ?_
                refine t_getr (ci := 6) X Y S k0 rfl i_Ha 1 (by decide) rfl (k1 := 1) (k2 := 64) rfl rfl lk_Ha_13 (fun _ h9 => h9) d_Ha_close_87 (fun b139 e139 k139 => ?_)
                refine lv_bipush (v := iI 63) X.1 X.2.1 d_Ha_close_90 (by decide) ?_
                refine lv_iload_n X.1 X.2.1 d_Ha_close_92 rfl (lv_at hl 2 rfl) ?_
                refine z_isub X.1 X.2.1 d_Ha_close_93 ?_
                refine lv_iload_n X.1 X.2.1 d_Ha_close_94 rfl (lv_at hl 1 rfl) ?_
                refine lv_bipush (v := iI 8) X.1 X.2.1 d_Ha_close_95 (by decide) ?_
                refine lv_iload_n X.1 X.2.1 d_Ha_close_97 rfl (lv_at hl 2 rfl) ?_
                refine z_imul X.1 X.2.1 d_Ha_close_98 ?_
                refine lv_ishr X.1 X.2.1 d_Ha_close_99 ?_
                refine t_u (fun z140 l140 u140 => ?_)
                refine lv_i2b X.1 X.2.1 d_Ha_close_100 rfl ?_
                refine t_u (fun z141 l141 u141 => ?_)
                refine t_bast X Y S k139 (by omega) (by omega) (by omega) (nF_of S k139 (by decide)) d_Ha_close_101 (fun f142 H locs Y S w142 => ?_)
                refine lv_iinc (v := iI (z119 + 1)) (lv' := [(2, .int (iI (z119 + 1))), (0, .ref h), (1, .int (iI z117))]) X.1 X.2.1 d_Ha_close_102 hl (k := 2) rfl ((iI_add _ _).trans (congrArg iI (by omega))) (by decide) rfl (fun ls hl => ?_)
                refine lv_goto (tgt := 81) X.1 X.2.1 d_Ha_close_105 (by decide) ?_
                exact ih121 ((4 - (z119 + 1)).toNat) (by omega) (z119 + 1) f142 _ _ _ rfl (by omega) (by omega) Y S (lv_sub hl [1, 2, 0] rfl)
          refine lv_istore_n (lv' := [(2, .int (iI 0)), (1, .int (iI z117)), (0, .ref h)]) X.1 X.2.1 d_Ha_close_80 rfl hl (by decide) rfl (fun ls hl => ?_)
          exact J120 _ 0 f111 _ _ _ rfl (by omega) (by omega) Y S (lv_sub hl [2, 1, 0] rfl)
        refine z_icmp_lt (tgt := 71) X.1 X.2.1 d_Ha_close_43 (by decide) ⟨by omega, by omega⟩ ⟨by omega, by omega⟩ (fun h143 => ?_) (fun h143 => ?_)
        · exact J112 f103 _ _ _  Y S (lv_sub hl [0] rfl)
        · refine lv_aload_n X.1 X.2.1 d_Ha_close_46 rfl (lv_at hl 0 rfl) ?_
          refine t_nv (t_runV (As := []) (rest := []) (n := 0) X Y S k0 hml hl.1 (c_Ha_compress l D E T κ L f103 H.size h k0 S.1) (ok_k X Y hA KS KR) rfl kl_Ha_Ha_compress ks_Ha_compress kx_Ha_compress ki_Ha_compress ini_Ha ⟨rfl, rfl⟩ hd_Ha_compress ⟨Nat.le_of_ble_eq_true rfl, Nat.le_of_ble_eq_true rfl⟩ rfl (Nat.le_of_ble_eq_true rfl) d_Ha_close_47 ⟨Nat.le_of_ble_eq_true rfl, Nat.le_of_ble_eq_true rfl⟩) X Y hA S (by decide) (fun f144 H locs Y S s144 p144 => ?_)
          refine lv_iconst (v := iI 0) X.1 X.2.1 d_Ha_close_50 (by decide) ?_
          have J147 : ∀ (n149 : Nat) (z146 : Int) (f145 : pF) (H : Heap) (locs : List Loc) (ls : Array Slot), (64 - z146).toNat = n149 → (0 ≤ z146) → (z146 ≤ 64) → pH D cCl (pA L sz) s.heap L f145 H locs → tS E T (tFr κ L [1, 2, 3, 4] []) κ L f κ L f145 → lv_has ls 3 [(0, .ref h), (1, .int (iI z146))] → W p l e (kRm 2 88 0 0) s m AV below meth c H locs 0 0 QQ (F0 m 52 ls []) := by
            intro n149
            induction n149 using Nat.strongRecOn with
            | ind n149 ih148 =>
              intro z146 f145 H locs ls hm150 l146 u146 Y S hl
              refine lv_iload_n X.1 X.2.1 d_Ha_close_52 rfl (lv_at hl 1 rfl) ?_
              refine lv_bipush (v := iI 64) X.1 X.2.1 d_Ha_close_53 (by decide) ?_
              refine z_icmp_ge (tgt := 71) X.1 X.2.1 d_Ha_close_55 (by decide) ⟨by omega, by omega⟩ ⟨by omega, by omega⟩ (fun h151 => ?_) (fun h151 => ?_)
              · exact J112 f145 _ _ _  Y S (lv_sub hl [0] rfl)
              · refine lv_aload_n X.1 X.2.1 d_Ha_close_58 rfl (lv_at hl 0 rfl) ?_
                refine t_getr (ci := 6) X Y S k0 rfl i_Ha 1 (by decide) rfl (k1 := 1) (k2 := 64) rfl rfl lk_Ha_13 (fun _ h9 => h9) d_Ha_close_59 (fun b152 e152 k152 => ?_)
                refine lv_iload_n X.1 X.2.1 d_Ha_close_62 rfl (lv_at hl 1 rfl) ?_
                refine lv_iconst (v := iI 0) X.1 X.2.1 d_Ha_close_63 (by decide) ?_
                refine t_bast X Y S k152 (by omega) (by omega) (by omega) (nF_of S k152 (by decide)) d_Ha_close_64 (fun f153 H locs Y S w153 => ?_)
                refine lv_iinc (v := iI (z146 + 1)) (lv' := [(1, .int (iI (z146 + 1))), (0, .ref h)]) X.1 X.2.1 d_Ha_close_65 hl (k := 1) rfl ((iI_add _ _).trans (congrArg iI (by omega))) (by decide) rfl (fun ls hl => ?_)
                refine lv_goto (tgt := 52) X.1 X.2.1 d_Ha_close_68 (by decide) ?_
                exact ih148 ((64 - (z146 + 1)).toNat) (by omega) (z146 + 1) f153 _ _ _ rfl (by omega) (by omega) Y S (lv_sub hl [1, 0] rfl)
          refine lv_istore_n (lv' := [(1, .int (iI 0)), (0, .ref h)]) X.1 X.2.1 d_Ha_close_51 rfl hl (by decide) rfl (fun ls hl => ?_)
          exact J147 _ 0 f144 _ _ _ rfl (by omega) (by omega) Y S (lv_sub hl [1, 0] rfl)
      · refine lv_aload_n X.1 X.2.1 d_Ha_close_24 rfl (lv_at hl 0 rfl) ?_
        refine t_getr (ci := 6) X Y S k0 rfl i_Ha 1 (by decide) rfl (k1 := 1) (k2 := 64) rfl rfl lk_Ha_13 (fun _ h9 => h9) d_Ha_close_25 (fun b154 e154 k154 => ?_)
        refine lv_iload_n X.1 X.2.1 d_Ha_close_28 rfl (lv_at hl 1 rfl) ?_
        refine lv_iconst (v := iI 0) X.1 X.2.1 d_Ha_close_29 (by decide) ?_
        refine t_bast X Y S k154 (by omega) (by omega) (by omega) (nF_of S k154 (by decide)) d_Ha_close_30 (fun f155 H locs Y S w155 => ?_)
        refine lv_iinc (v := iI (z104 + 1)) (lv' := [(1, .int (iI (z104 + 1))), (0, .ref h)]) X.1 X.2.1 d_Ha_close_31 hl (k := 1) rfl ((iI_add _ _).trans (congrArg iI (by omega))) (by decide) rfl (fun ls hl => ?_)
        refine lv_goto (tgt := 18) X.1 X.2.1 d_Ha_close_34 (by decide) ?_
        exact ih106 ((64 - (z104 + 1)).toNat) (by omega) (z104 + 1) f155 _ _ _ rfl (by omega) (by omega) Y S (lv_sub hl [1, 0] rfl)
  refine lv_istore_n (lv' := [(1, .int (iI (fl + 1))), (0, .ref h)]) X.1 X.2.1 d_Ha_close_17 rfl hl (by decide) rfl (fun ls hl => ?_)
  exact J105 _ (fl + 1) f102 _ _ _ rfl (by omega) (by omega) Y S (lv_sub hl [1, 0] rfl)
set_option maxHeartbeats 4000000 in
set_option maxRecDepth 100000 in
theorem c_Ha_finish (l : Launch) (D : va_G) (E : cE) (T : cT) (κ : tK) (L : List Nat) (f : pF) (sz : Nat) (h : Nat) (k0 : κ h = (16, 0)) (hw : tW E T κ L f) (fl : Int) (g0 : gF f h 5 = .int (iI fl)) (g1 : 0 ≤ fl) (g2 : fl ≤ 63) : Met l y_Ha_finish (k_Ha_finish :: lw_tg) (kRm 3 110 0 0) (va_Pc [.ref h] (kPre D E T L f sz)) (va_Qv (nPv E T [1, 2, 3, 4, 16] κ L f (fun (g : pF) => True)) (cPost D E (pA L sz)) (pA L sz)) 0 0 (pA L sz) := by
  refine k_enter (own := R_Ha) (by decide) rfl (Nat.le_of_ble_eq_true rfl) (fun p e s m below meth c ls AV QQ H locs hQQ X Y hA hin hr hlk hml hl KS KR => ?_)
  have hl : lv_has ls 1 [(0, .ref h)] := hl
  have S : tS E T (tFr κ L [1, 2, 3, 4, 16] []) κ L f κ L f := tS_rf hw
  refine lv_aload_n X.1 X.2.1 d_Ha_finish_0 rfl (lv_at hl 0 rfl) ?_
  refine t_nv (t_runV (As := []) (rest := []) (n := 0) X Y S k0 hml hl.1 (c_Ha_close l D E T κ L f H.size h k0 S.1 fl g0 (by omega) (by omega)) (ok_k X Y hA KS KR) rfl kl_Ha_Ha_close ks_Ha_close kx_Ha_close ki_Ha_close ini_Ha ⟨rfl, rfl⟩ hd_Ha_close ⟨Nat.le_of_ble_eq_true rfl, Nat.le_of_ble_eq_true rfl⟩ rfl (Nat.le_of_ble_eq_true rfl) d_Ha_finish_1 ⟨Nat.le_of_ble_eq_true rfl, Nat.le_of_ble_eq_true rfl⟩) X Y hA S (by decide) (fun f101 H locs Y S s101 p101 => ?_)
  refine lv_aload_n X.1 X.2.1 d_Ha_finish_4 rfl (lv_at hl 0 rfl) ?_
  refine t_getr (ci := 6) X Y S k0 rfl i_Ha 4 (by decide) rfl (k1 := 2) (k2 := 5) rfl rfl lk_Ha_23 (fun _ h9 => h9) d_Ha_finish_5 (fun b102 e102 k102 => ?_)
  refine lv_iconst (v := iI 0) X.1 X.2.1 d_Ha_finish_8 (by decide) ?_
  refine lv_aload_n X.1 X.2.1 d_Ha_finish_9 rfl (lv_at hl 0 rfl) ?_
  refine t_getr (ci := 6) X Y S k0 rfl i_Ha 2 (by decide) rfl (k1 := 2) (k2 := 5) rfl rfl lk_Ha_17 (fun _ h9 => h9) d_Ha_finish_10 (fun b103 e103 k103 => ?_)
  refine lv_iconst (v := iI 0) X.1 X.2.1 d_Ha_finish_13 (by decide) ?_
  refine lv_iconst (v := iI 5) X.1 X.2.1 d_Ha_finish_14 (by decide) ?_
  refine t_copyI (Or.inl rfl) X Y S (hml.trans hl.1.symm) kl_Ha_copy k102 k103 (by omega) (by omega) (by omega) (by omega) (by omega) (by omega) (by omega) (nF_of S k103 (by decide)) (Nat.le_of_ble_eq_true rfl) (Nat.le_of_ble_eq_true rfl) d_Ha_finish_15 (fun f104 H locs Y S w104 => ?_)
  refine lv_aload_n X.1 X.2.1 d_Ha_finish_18 rfl (lv_at hl 0 rfl) ?_
  refine t_getr (ci := 6) X Y S k0 rfl i_Ha 7 (by decide) rfl (k1 := 1) (k2 := 20) rfl rfl lk_Ha_26 (fun _ h9 => h9) d_Ha_finish_19 (fun b105 e105 k105 => ?_)
  refine lv_iconst (v := iI 0) X.1 X.2.1 d_Ha_finish_22 (by decide) ?_
  refine lv_aload_n X.1 X.2.1 d_Ha_finish_23 rfl (lv_at hl 0 rfl) ?_
  refine t_getr (ci := 6) X Y S k0 rfl i_Ha 1 (by decide) rfl (k1 := 1) (k2 := 64) rfl rfl lk_Ha_13 (fun _ h9 => h9) d_Ha_finish_24 (fun b106 e106 k106 => ?_)
  refine lv_iconst (v := iI 0) X.1 X.2.1 d_Ha_finish_27 (by decide) ?_
  refine lv_bipush (v := iI 20) X.1 X.2.1 d_Ha_finish_28 (by decide) ?_
  refine t_copyB X Y S KS (hml.trans hl.1.symm) kl_Ha_copy (Or.inl k105) k106 (by omega) (by omega) (by omega) (by omega) (by omega) (by omega) (by omega) (nF_of S k106 (by decide)) (Nat.le_of_ble_eq_true rfl) (Nat.le_of_ble_eq_true rfl) d_Ha_finish_30 (fun f107 H locs Y S w107 => ?_)
  refine lv_aload_n X.1 X.2.1 d_Ha_finish_33 rfl (lv_at hl 0 rfl) ?_
  refine lv_bipush (v := iI 20) X.1 X.2.1 d_Ha_finish_34 (by decide) ?_
  refine t_put (ci := 6) X Y S k0 rfl i_Ha t_Ha t_Ha_ok n_Ha 5 (by decide) rfl lk_Ha_47 (fun _ h9 => h9) rfl (t_Ha_ok 5 (by decide)) rfl rfl ⟨_, rfl, (show (0 : Int) ≤ 20 by omega), (show 20 ≤ (64 : Int) by omega)⟩ (nF_of S k0 (by decide)) d_Ha_finish_36 (fun f108 H locs Y S w108 => ?_)
  refine lv_aload_n X.1 X.2.1 d_Ha_finish_39 rfl (lv_at hl 0 rfl) ?_
  refine lv_bipush (v := iI 84) X.1 X.2.1 d_Ha_finish_40 (by decide) ?_
  refine t_put (ci := 6) X Y S k0 rfl i_Ha t_Ha t_Ha_ok n_Ha 6 (by decide) rfl lk_Ha_51 (fun _ h9 => h9) rfl (t_Ha_ok 6 (by decide)) rfl rfl ⟨_, rfl, (show ((-2147483648) : Int) ≤ 84 by omega), (show 84 ≤ (2147483647 : Int) by omega)⟩ (nF_of S k0 (by decide)) d_Ha_finish_42 (fun f109 H locs Y S w109 => ?_)
  refine lv_aload_n X.1 X.2.1 d_Ha_finish_45 rfl (lv_at hl 0 rfl) ?_
  refine t_nv (t_runV (As := []) (rest := []) (n := 0) X Y S k0 hml hl.1 (c_Ha_close l D E T κ L f109 H.size h k0 S.1 20 ((gF_put w109 (Or.inr (by decide))).trans w108.2.1) (by omega) (by omega)) (ok_k X Y hA KS KR) rfl kl_Ha_Ha_close ks_Ha_close kx_Ha_close ki_Ha_close ini_Ha ⟨rfl, rfl⟩ hd_Ha_close ⟨Nat.le_of_ble_eq_true rfl, Nat.le_of_ble_eq_true rfl⟩ rfl (Nat.le_of_ble_eq_true rfl) d_Ha_finish_46 ⟨Nat.le_of_ble_eq_true rfl, Nat.le_of_ble_eq_true rfl⟩) X Y hA S (by decide) (fun f110 H locs Y S s110 p110 => ?_)
  exact c_retv hQQ X Y hr hlk ⟨rfl, S, trivial⟩ d_Ha_finish_49
