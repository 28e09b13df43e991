set_option maxHeartbeats 4000000 in
set_option maxRecDepth 100000 in
theorem c_Ae_setKey (l : Launch) (D : va_G) (E : cE) (T : cT) (κ : tK) (L : List Nat) (f : pF) (sz : Nat) (h : Nat) (k0 : κ h = (11, 0)) (a1 n1 : Nat) (k1 : tSrc T κ a1 n1) (x1 : n1 ≤ 12288) (a2 : Int) (l_a2 : 0 ≤ a2) (u_a2 : a2 ≤ 64) (hw : tW E T κ L f) : Met l y_Ae_setKey (k_Ae_setKey :: lw_tg) (kRm 1 60 0 0) (va_Pc [.ref h, .ref a1, .int (iI a2)] (kPre D E T L f sz)) (va_Qv (nPv E T [2, 3, 4, 11] κ L f (fun (g : pF) => True)) (cPost D E (pA L sz)) (pA L sz)) 0 0 (pA L sz) := by
  refine k_enter (own := R_Ae) (by decide) rfl (Nat.le_of_ble_eq_true rfl) (fun p e s m below meth c ls AV QQ H locs hQQ X Y hA hin hr hlk hml hl KS KR => ?_)
  have hl : lv_has ls 11 [(0, .ref h), (1, .ref a1), (2, .int (iI a2))] := hl
  have S : tS E T (tFr κ L [2, 3, 4, 11] []) κ L f κ L f := tS_rf hw
  refine lv_iload_n X.1 X.2.1 d_Ae_setKey_0 rfl (lv_at hl 2 rfl) ?_
  refine lv_bipush (v := iI 32) X.1 X.2.1 d_Ae_setKey_1 (by decide) ?_
  have J1 : ∀  (H : Heap) (locs : List Loc) (ls : Array Slot), pH D cCl (pA L sz) s.heap L f H locs → tS E T (tFr κ L [2, 3, 4, 11] []) κ L f κ L f → lv_has ls 11 [(0, .ref h), (1, .ref a1)] → W p l e (kRm 1 60 0 0) s m AV below meth c H locs 0 0 QQ (F0 m 18 ls []) := by
    intro  H locs ls  Y S hl
    refine lv_bipush (v := iI 16) X.1 X.2.1 d_Ae_setKey_18 (by decide) ?_
    refine lv_istore_n (lv' := [(3, .int (iI 16)), (0, .ref h), (1, .ref a1)]) X.1 X.2.1 d_Ae_setKey_20 rfl hl (by decide) rfl (fun ls hl => ?_)
    refine lv_aload_n X.1 X.2.1 d_Ae_setKey_21 rfl (lv_at hl 1 rfl) ?_
    refine lv_iload_n X.1 X.2.1 d_Ae_setKey_22 rfl (lv_at hl 0 rfl) ?_
    refine lv_iconst (v := iI 4) X.1 X.2.1 d_Ae_setKey_23 (by decide) ?_
    refine z_idiv X.1 X.2.1 (by decide) (by decide) ⟨by decide, by decide⟩ d_Ae_setKey_24 ?_
    refine t_eq (y := iI 4) (by decide) ?_
    refine lv_bipush (v := iI 6) X.1 X.2.1 d_Ae_setKey_25 (by decide) ?_
    refine z_iadd X.1 X.2.1 d_Ae_setKey_27 ?_
    refine t_eq (y := iI 10) (by decide) ?_
    refine t_put (ci := 1) X Y S k0 rfl i_Ae t_Ae t_Ae_ok n_Ae 3 (by decide) rfl lk_Ae_32 (fun _ h9 => h9) rfl (t_Ae_ok 3 (by decide)) rfl rfl ⟨_, rfl, (show (0 : Int) ≤ 10 by omega), (show 10 ≤ (14 : Int) by omega)⟩ (nF_of S k0 (by decide)) d_Ae_setKey_28 (fun f5 H locs Y S w5 => ?_)
    refine lv_iconst (v := iI 0) X.1 X.2.1 d_Ae_setKey_31 (by decide) ?_
    have J8 : ∀ (n10 : Nat) (z7 : Int) (f6 : pF) (H : Heap) (locs : List Loc) (ls : Array Slot), (16 - z7).toNat = n10 → (0 ≤ z7) → (z7 ≤ 16) → pH D cCl (pA L sz) s.heap L f6 H locs → tS E T (tFr κ L [2, 3, 4, 11] []) κ L f κ L f6 → lv_has ls 11 [(0, .ref h), (1, .ref a1), (3, .int (iI 16)), (4, .int (iI z7))] → W p l e (kRm 1 60 0 0) s m AV below meth c H locs 0 0 QQ (F0 m 34 ls []) := by
      intro n10
      induction n10 using Nat.strongRecOn with
      | ind n10 ih9 =>
        intro z7 f6 H locs ls hm11 l7 u7 Y S hl
        refine lv_iload X.1 X.2.1 d_Ae_setKey_34 (lv_at hl 3 rfl) ?_
        refine lv_iload_n X.1 X.2.1 d_Ae_setKey_36 rfl (lv_at hl 2 rfl) ?_
        refine z_icmp_ge (tgt := 72) X.1 X.2.1 d_Ae_setKey_37 (by decide) ⟨by omega, by omega⟩ ⟨by omega, by omega⟩ (fun h12 => ?_) (fun h12 => ?_)
        · refine lv_iconst (v := iI 1) X.1 X.2.1 d_Ae_setKey_72 (by decide) ?_
          refine lv_istore (lv' := [(4, .int (iI 1)), (0, .ref h), (1, .ref a1), (3, .int (iI 16))]) X.1 X.2.1 d_Ae_setKey_73 hl (by decide) rfl (fun ls hl => ?_)
          refine lv_iload_n X.1 X.2.1 d_Ae_setKey_75 rfl (lv_at hl 3 rfl) ?_
          have J17 : ∀ (n19 : Nat) (z14 : Int) (z15 : Int) (f13 : pF) (H : Heap) (locs : List Loc) (ls : Array Slot), (243 - z15).toNat = n19 → (0 ≤ z14) → (z14 ≤ 255) → (16 ≤ z15) → (z15 ≤ 243) → (z15 % 4 = 0) → pH D cCl (pA L sz) s.heap L f13 H locs → tS E T (tFr κ L [2, 3, 4, 11] []) κ L f κ L f13 → lv_has ls 11 [(0, .ref h), (3, .int (iI 16)), (4, .int (iI z14)), (5, .int (iI z15))] → W p l e (kRm 1 60 0 0) s m AV below meth c H locs 0 0 QQ (F0 m 78 ls []) := by
            intro n19
            induction n19 using Nat.strongRecOn with
            | ind n19 ih18 =>
              intro z14 z15 f13 H locs ls hm20 l14 u14 l15 u15 i16 Y S hl
              refine lv_iload X.1 X.2.1 d_Ae_setKey_78 (lv_at hl 3 rfl) ?_
              refine lv_bipush (v := iI 16) X.1 X.2.1 d_Ae_setKey_80 (by decide) ?_
              refine lv_aload_n X.1 X.2.1 d_Ae_setKey_82 rfl (lv_at hl 0 rfl) ?_
              refine t_geti (ci := 1) X Y S k0 rfl i_Ae 3 (by decide) rfl lk_Ae_32 (fun _ h9 => h9) d_Ae_setKey_83 (fun z21 e21 l21 u21 => ?_)
              refine lv_iconst (v := iI 1) X.1 X.2.1 d_Ae_setKey_86 (by decide) ?_
              refine z_iadd X.1 X.2.1 d_Ae_setKey_87 ?_
              refine z_imul X.1 X.2.1 d_Ae_setKey_88 ?_
              refine z_icmp_ge (tgt := 335) X.1 X.2.1 d_Ae_setKey_89 (by decide) ⟨by omega, by omega⟩ ⟨by omega, by omega⟩ (fun h22 => ?_) (fun h22 => ?_)
              · exact c_retv hQQ X Y hr hlk ⟨rfl, S, trivial⟩ d_Ae_setKey_335
              · refine lv_aload_n X.1 X.2.1 d_Ae_setKey_92 rfl (lv_at hl 0 rfl) ?_
                refine t_getr (ci := 1) X Y S k0 rfl i_Ae 2 (by decide) rfl (k1 := 3) (k2 := 240) rfl rfl lk_Ae_16 (fun _ h9 => h9) d_Ae_setKey_93 (fun b23 e23 k23 => ?_)
                refine lv_iload X.1 X.2.1 d_Ae_setKey_96 (lv_at hl 3 rfl) ?_
                refine lv_iconst (v := iI 4) X.1 X.2.1 d_Ae_setKey_98 (by decide) ?_
                refine z_isub X.1 X.2.1 d_Ae_setKey_99 ?_
                refine t_iald3 X Y S k23 (by omega) (by omega) (by omega) d_Ae_setKey_100 (fun z24 l24 u24 => ?_)
                refine lv_istore (lv' := [(6, .int (iI z24)), (0, .ref h), (3, .int (iI 16)), (4, .int (iI z14)), (5, .int (iI z15))]) X.1 X.2.1 d_Ae_setKey_101 hl (by decide) rfl (fun ls hl => ?_)
                refine lv_aload_n X.1 X.2.1 d_Ae_setKey_103 rfl (lv_at hl 1 rfl) ?_
                refine t_get0 (ci := 1) X Y S k0 rfl i_Ae 2 (by decide) rfl lk_Ae_16 (fun _ h9 => h9) d_Ae_setKey_104 e23 ?_
                refine lv_iload X.1 X.2.1 d_Ae_setKey_107 (lv_at hl 4 rfl) ?_
                refine lv_iconst (v := iI 3) X.1 X.2.1 d_Ae_setKey_109 (by decide) ?_
                refine z_isub X.1 X.2.1 d_Ae_setKey_110 ?_
                refine t_iald3 X Y S k23 (by omega) (by omega) (by omega) d_Ae_setKey_111 (fun z25 l25 u25 => ?_)
                refine lv_istore (lv' := [(7, .int (iI z25)), (6, .int (iI z24)), (0, .ref h), (3, .int (iI 16)), (4, .int (iI z14)), (5, .int (iI z15))]) X.1 X.2.1 d_Ae_setKey_112 hl (by decide) rfl (fun ls hl => ?_)
                refine lv_aload_n X.1 X.2.1 d_Ae_setKey_114 rfl (lv_at hl 2 rfl) ?_
                refine t_get0 (ci := 1) X Y S k0 rfl i_Ae 2 (by decide) rfl lk_Ae_16 (fun _ h9 => h9) d_Ae_setKey_115 e23 ?_
                refine lv_iload X.1 X.2.1 d_Ae_setKey_118 (lv_at hl 5 rfl) ?_
                refine lv_iconst (v := iI 2) X.1 X.2.1 d_Ae_setKey_120 (by decide) ?_
                refine z_isub X.1 X.2.1 d_Ae_setKey_121 ?_
                refine t_iald3 X Y S k23 (by omega) (by omega) (by omega) d_Ae_setKey_122 (fun z26 l26 u26 => ?_)
                refine lv_istore (lv' := [(8, .int (iI z26)), (7, .int (iI z25)), (6, .int (iI z24)), (0, .ref h), (3, .int (iI 16)), (4, .int (iI z14)), (5, .int (iI z15))]) X.1 X.2.1 d_Ae_setKey_123 hl (by decide) rfl (fun ls hl => ?_)
                refine lv_aload_n X.1 X.2.1 d_Ae_setKey_125 rfl (lv_at hl 3 rfl) ?_
                refine t_get0 (ci := 1) X Y S k0 rfl i_Ae 2 (by decide) rfl lk_Ae_16 (fun _ h9 => h9) d_Ae_setKey_126 e23 ?_
                refine lv_iload X.1 X.2.1 d_Ae_setKey_129 (lv_at hl 6 rfl) ?_
                refine lv_iconst (v := iI 1) X.1 X.2.1 d_Ae_setKey_131 (by decide) ?_
                refine z_isub X.1 X.2.1 d_Ae_setKey_132 ?_
                refine t_iald3 X Y S k23 (by omega) (by omega) (by omega) d_Ae_setKey_133 (fun z27 l27 u27 => ?_)
                refine lv_istore (lv' := [(9, .int (iI z27)), (8, .int (iI z26)), (7, .int (iI z25)), (6, .int (iI z24)), (0, .ref h), (3, .int (iI 16)), (4, .int (iI z14)), (5, .int (iI z15))]) X.1 X.2.1 d_Ae_setKey_134 hl (by decide) rfl (fun ls hl => ?_)
                refine lv_iload X.1 X.2.1 d_Ae_setKey_136 (lv_at hl 7 rfl) ?_
                refine lv_iload_n X.1 X.2.1 d_Ae_setKey_138 rfl (lv_at hl 5 rfl) ?_
                refine z_irem X.1 X.2.1 (by omega) (by omega) ⟨by decide, by decide⟩ d_Ae_setKey_139 ?_
                have J33 : ∀ (z28 : Int) (z29 : Int) (z30 : Int) (z31 : Int) (z32 : Int) (H : Heap) (locs : List Loc) (ls : Array Slot), (0 ≤ z28) → (z28 ≤ 255) → (0 ≤ z29) → (z29 ≤ 255) → (0 ≤ z30) → (z30 ≤ 255) → (0 ≤ z31) → (z31 ≤ 255) → (0 ≤ z32) → (z32 ≤ 255) → pH D cCl (pA L sz) s.heap L f13 H locs → tS E T (tFr κ L [2, 3, 4, 11] []) κ L f κ L f13 → lv_has ls 11 [(0, .ref h), (3, .int (iI 16)), (4, .int (iI z28)), (5, .int (iI z15)), (6, .int (iI z29)), (7, .int (iI z30)), (8, .int (iI z31)), (9, .int (iI z32))] → W p l e (kRm 1 60 0 0) s m AV below meth c H locs 0 0 QQ (F0 m 241 ls []) := by
                  intro z28 z29 z30 z31 z32 H locs ls l28 u28 l29 u29 l30 u30 l31 u31 l32 u32 Y S hl
                  refine lv_aload_n X.1 X.2.1 d_Ae_setKey_241 rfl (lv_at hl 0 rfl) ?_
                  refine t_get0 (ci := 1) X Y S k0 rfl i_Ae 2 (by decide) rfl lk_Ae_16 (fun _ h9 => h9) d_Ae_setKey_242 e23 ?_
                  refine lv_iload X.1 X.2.1 d_Ae_setKey_245 (lv_at hl 3 rfl) ?_
                  refine lv_aload_n X.1 X.2.1 d_Ae_setKey_247 rfl (lv_at hl 0 rfl) ?_
                  refine t_get0 (ci := 1) X Y S k0 rfl i_Ae 2 (by decide) rfl lk_Ae_16 (fun _ h9 => h9) d_Ae_setKey_248 e23 ?_
                  refine lv_iload X.1 X.2.1 d_Ae_setKey_251 (lv_at hl 3 rfl) ?_
                  refine lv_iload_n X.1 X.2.1 d_Ae_setKey_253 rfl (lv_at hl 1 rfl) ?_
                  refine z_isub X.1 X.2.1 d_Ae_setKey_254 ?_
                  refine t_iald3 X Y S k23 (by omega) (by omega) (by omega) d_Ae_setKey_255 (fun z37 l37 u37 => ?_)
                  refine lv_iload X.1 X.2.1 d_Ae_setKey_256 (lv_at hl 4 rfl) ?_
                  refine z_ixor X.1 X.2.1 ⟨by omega, by omega⟩ ⟨by omega, by omega⟩ d_Ae_setKey_258 (fun z38 l38 u38 => ?_)
                  refine t_iast3 X Y S k23 (by omega) (by omega) (by omega) ⟨by omega, by omega⟩ (nF_of S k23 (by decide)) d_Ae_setKey_259 (fun f39 H locs Y S w39 => ?_)
                  refine lv_aload_n X.1 X.2.1 d_Ae_setKey_260 rfl (lv_at hl 0 rfl) ?_
                  refine t_get0 (ci := 1) X Y S k0 rfl i_Ae 2 (by decide) rfl lk_Ae_16 (fun _ h9 => h9) d_Ae_setKey_261 ((gF_same (w39 _ (k_ne k0 k23 (by decide))) 2).trans e23) ?_
                  refine lv_iload X.1 X.2.1 d_Ae_setKey_264 (lv_at hl 3 rfl) ?_
                  refine lv_iconst (v := iI 1) X.1 X.2.1 d_Ae_setKey_266 (by decide) ?_
                  refine z_iadd X.1 X.2.1 d_Ae_setKey_267 ?_
                  refine lv_aload_n X.1 X.2.1 d_Ae_setKey_268 rfl (lv_at hl 0 rfl) ?_
                  refine t_get0 (ci := 1) X Y S k0 rfl i_Ae 2 (by decide) rfl lk_Ae_16 (fun _ h9 => h9) d_Ae_setKey_269 ((gF_same (w39 _ (k_ne k0 k23 (by decide))) 2).trans e23) ?_
                  refine lv_iload X.1 X.2.1 d_Ae_setKey_272 (lv_at hl 3 rfl) ?_
                  refine lv_iconst (v := iI 1) X.1 X.2.1 d_Ae_setKey_274 (by decide) ?_
                  refine z_iadd X.1 X.2.1 d_Ae_setKey_275 ?_
                  refine lv_iload_n X.1 X.2.1 d_Ae_setKey_276 rfl (lv_at hl 1 rfl) ?_
                  refine z_isub X.1 X.2.1 d_Ae_setKey_277 ?_
                  refine t_iald3 X Y S k23 (by omega) (by omega) (by omega) d_Ae_setKey_278 (fun z40 l40 u40 => ?_)
                  refine lv_iload X.1 X.2.1 d_Ae_setKey_279 (lv_at hl 5 rfl) ?_
                  refine z_ixor X.1 X.2.1 ⟨by omega, by omega⟩ ⟨by omega, by omega⟩ d_Ae_setKey_281 (fun z41 l41 u41 => ?_)
                  refine t_iast3 X Y S k23 (by omega) (by omega) (by omega) ⟨by omega, by omega⟩ (nF_of S k23 (by decide)) d_Ae_setKey_282 (fun f42 H locs Y S w42 => ?_)
                  refine lv_aload_n X.1 X.2.1 d_Ae_setKey_283 rfl (lv_at hl 0 rfl) ?_
                  refine t_get0 (ci := 1) X Y S k0 rfl i_Ae 2 (by decide) rfl lk_Ae_16 (fun _ h9 => h9) d_Ae_setKey_284 ((gF_same (w42 _ (k_ne k0 k23 (by decide))) 2).trans ((gF_same (w39 _ (k_ne k0 k23 (by decide))) 2).trans e23)) ?_
                  refine lv_iload X.1 X.2.1 d_Ae_setKey_287 (lv_at hl 3 rfl) ?_
                  refine lv_iconst (v := iI 2) X.1 X.2.1 d_Ae_setKey_289 (by decide) ?_
                  refine z_iadd X.1 X.2.1 d_Ae_setKey_290 ?_
                  refine lv_aload_n X.1 X.2.1 d_Ae_setKey_291 rfl (lv_at hl 0 rfl) ?_
                  refine t_get0 (ci := 1) X Y S k0 rfl i_Ae 2 (by decide) rfl lk_Ae_16 (fun _ h9 => h9) d_Ae_setKey_292 ((gF_same (w42 _ (k_ne k0 k23 (by decide))) 2).trans ((gF_same (w39 _ (k_ne k0 k23 (by decide))) 2).trans e23)) ?_
                  refine lv_iload X.1 X.2.1 d_Ae_setKey_295 (lv_at hl 3 rfl) ?_
                  refine lv_iconst (v := iI 2) X.1 X.2.1 d_Ae_setKey_297 (by decide) ?_
                  refine z_iadd X.1 X.2.1 d_Ae_setKey_298 ?_
                  refine lv_iload_n X.1 X.2.1 d_Ae_setKey_299 rfl (lv_at hl 1 rfl) ?_
                  refine z_isub X.1 X.2.1 d_Ae_setKey_300 ?_
                  refine t_iald3 X Y S k23 (by omega) (by omega) (by omega) d_Ae_setKey_301 (fun z43 l43 u43 => ?_)
                  refine lv_iload X.1 X.2.1 d_Ae_setKey_302 (lv_at hl 6 rfl) ?_
                  refine z_ixor X.1 X.2.1 ⟨by omega, by omega⟩ ⟨by omega, by omega⟩ d_Ae_setKey_304 (fun z44 l44 u44 => ?_)
                  refine t_iast3 X Y S k23 (by omega) (by omega) (by omega) ⟨by omega, by omega⟩ (nF_of S k23 (by decide)) d_Ae_setKey_305 (fun f45 H locs Y S w45 => ?_)
                  refine lv_aload_n X.1 X.2.1 d_Ae_setKey_306 rfl (lv_at hl 0 rfl) ?_
                  refine t_get0 (ci := 1) X Y S k0 rfl i_Ae 2 (by decide) rfl lk_Ae_16 (fun _ h9 => h9) d_Ae_setKey_307 ((gF_same (w45 _ (k_ne k0 k23 (by decide))) 2).trans ((gF_same (w42 _ (k_ne k0 k23 (by decide))) 2).trans ((gF_same (w39 _ (k_ne k0 k23 (by decide))) 2).trans e23))) ?_
                  refine lv_iload X.1 X.2.1 d_Ae_setKey_310 (lv_at hl 3 rfl) ?_
                  refine lv_iconst (v := iI 3) X.1 X.2.1 d_Ae_setKey_312 (by decide) ?_
                  refine z_iadd X.1 X.2.1 d_Ae_setKey_313 ?_
                  refine lv_aload_n X.1 X.2.1 d_Ae_setKey_314 rfl (lv_at hl 0 rfl) ?_
                  refine t_get0 (ci := 1) X Y S k0 rfl i_Ae 2 (by decide) rfl lk_Ae_16 (fun _ h9 => h9) d_Ae_setKey_315 ((gF_same (w45 _ (k_ne k0 k23 (by decide))) 2).trans ((gF_same (w42 _ (k_ne k0 k23 (by decide))) 2).trans ((gF_same (w39 _ (k_ne k0 k23 (by decide))) 2).trans e23))) ?_
                  refine lv_iload X.1 X.2.1 d_Ae_setKey_318 (lv_at hl 3 rfl) ?_
                  refine lv_iconst (v := iI 3) X.1 X.2.1 d_Ae_setKey_320 (by decide) ?_
                  refine z_iadd X.1 X.2.1 d_Ae_setKey_321 ?_
                  refine lv_iload_n X.1 X.2.1 d_Ae_setKey_322 rfl (lv_at hl 1 rfl) ?_
                  refine z_isub X.1 X.2.1 d_Ae_setKey_323 ?_
                  refine t_iald3 X Y S k23 (by omega) (by omega) (by omega) d_Ae_setKey_324 (fun z46 l46 u46 => ?_)
                  refine lv_iload X.1 X.2.1 d_Ae_setKey_325 (lv_at hl 7 rfl) ?_
                  refine z_ixor X.1 X.2.1 ⟨by omega, by omega⟩ ⟨by omega, by omega⟩ d_Ae_setKey_327 (fun z47 l47 u47 => ?_)
                  refine t_iast3 X Y S k23 (by omega) (by omega) (by omega) ⟨by omega, by omega⟩ (nF_of S k23 (by decide)) d_Ae_setKey_328 (fun f48 H locs Y S w48 => ?_)
                  refine lv_iinc (v := iI (z15 + 4)) (lv' := [(5, .int (iI (z15 + 4))), (0, .ref h), (3, .int (iI 16)), (4, .int (iI z28)), (6, .int (iI z29)), (7, .int (iI z30)), (8, .int (iI z31)), (9, .int (iI z32))]) X.1 X.2.1 d_Ae_setKey_329 hl (k := 3) rfl ((iI_add _ _).trans (congrArg iI (by omega))) (by decide) rfl (fun ls hl => ?_)
                  refine lv_goto (tgt := 78) X.1 X.2.1 d_Ae_setKey_332 (by decide) ?_
                  exact ih18 ((243 - (z15 + 4)).toNat) (by omega) z28 (z15 + 4) f48 _ _ _ rfl (by omega) (by omega) (by omega) (by omega) (by omega) Y S (lv_sub hl [1, 2, 3, 0] rfl)
                refine z_if_ne (tgt := 194) X.1 X.2.1 d_Ae_setKey_140 (by decide) ⟨by omega, by omega⟩ (fun h49 => ?_) (fun h49 => ?_)
                · refine lv_iload_n X.1 X.2.1 d_Ae_setKey_194 rfl (lv_at hl 5 rfl) ?_
                  refine lv_bipush (v := iI 32) X.1 X.2.1 d_Ae_setKey_195 (by decide) ?_
                  refine z_icmp_ne (tgt := 241) X.1 X.2.1 d_Ae_setKey_197 (by decide) ⟨by omega, by omega⟩ ⟨by omega, by omega⟩ (fun h50 => ?_) (fun h50 => False.elim (by omega))
                  · exact J33 z14 z24 z25 z26 z27 _ _ _ (by omega) (by omega) (by omega) (by omega) (by omega) (by omega) (by omega) (by omega) (by omega) (by omega) Y S (lv_sub hl [4, 5, 6, 7, 3, 2, 1, 0] rfl)
                · refine lv_iload X.1 X.2.1 d_Ae_setKey_143 (lv_at hl 3 rfl) ?_
                  refine lv_istore (lv' := [(10, .int (iI z24)), (9, .int (iI z27)), (8, .int (iI z26)), (7, .int (iI z25)), (6, .int (iI z24)), (0, .ref h), (3, .int (iI 16)), (4, .int (iI z14)), (5, .int (iI z15))]) X.1 X.2.1 d_Ae_setKey_145 hl (by decide) rfl (fun ls hl => ?_)
                  refine k_gets 1 (by decide) X Y KS sk_Ae_29 d_Ae_setKey_147 ?_
                  refine lv_iload X.1 X.2.1 d_Ae_setKey_150 (lv_at hl 3 rfl) ?_
                  refine t_box X Y KS (by omega) (by omega) d_Ae_setKey_152 (fun z51 l51 u51 => ?_)
                  refine lv_iload X.1 X.2.1 d_Ae_setKey_153 (lv_at hl 7 rfl) ?_
                  refine z_ixor X.1 X.2.1 ⟨by omega, by omega⟩ ⟨by omega, by omega⟩ d_Ae_setKey_155 (fun z52 l52 u52 => ?_)
                  refine lv_istore (lv' := [(6, .int (iI z52)), (10, .int (iI z24)), (9, .int (iI z27)), (8, .int (iI z26)), (7, .int (iI z25)), (0, .ref h), (3, .int (iI 16)), (4, .int (iI z14)), (5, .int (iI z15))]) X.1 X.2.1 d_Ae_setKey_156 hl (by decide) rfl (fun ls hl => ?_)
                  refine k_gets 1 (by decide) X Y KS sk_Ae_29 d_Ae_setKey_158 ?_
                  refine lv_iload X.1 X.2.1 d_Ae_setKey_161 (lv_at hl 3 rfl) ?_
                  refine t_box X Y KS (by omega) (by omega) d_Ae_setKey_163 (fun z53 l53 u53 => ?_)
                  refine lv_istore (lv' := [(7, .int (iI z53)), (6, .int (iI z52)), (10, .int (iI z24)), (9, .int (iI z27)), (8, .int (iI z26)), (0, .ref h), (3, .int (iI 16)), (4, .int (iI z14)), (5, .int (iI z15))]) X.1 X.2.1 d_Ae_setKey_164 hl (by decide) rfl (fun ls hl => ?_)
                  refine k_gets 1 (by decide) X Y KS sk_Ae_29 d_Ae_setKey_166 ?_
                  refine lv_iload X.1 X.2.1 d_Ae_setKey_169 (lv_at hl 3 rfl) ?_
                  refine t_box X Y KS (by omega) (by omega) d_Ae_setKey_171 (fun z54 l54 u54 => ?_)
                  refine lv_istore (lv' := [(8, .int (iI z54)), (7, .int (iI z53)), (6, .int (iI z52)), (10, .int (iI z24)), (9, .int (iI z27)), (0, .ref h), (3, .int (iI 16)), (4, .int (iI z14)), (5, .int (iI z15))]) X.1 X.2.1 d_Ae_setKey_172 hl (by decide) rfl (fun ls hl => ?_)
                  refine k_gets 1 (by decide) X Y KS sk_Ae_29 d_Ae_setKey_174 ?_
                  refine lv_iload X.1 X.2.1 d_Ae_setKey_177 (lv_at hl 3 rfl) ?_
                  refine t_box X Y KS (by omega) (by omega) d_Ae_setKey_179 (fun z55 l55 u55 => ?_)
                  refine lv_istore (lv' := [(9, .int (iI z55)), (8, .int (iI z54)), (7, .int (iI z53)), (6, .int (iI z52)), (10, .int (iI z24)), (0, .ref h), (3, .int (iI 16)), (4, .int (iI z14)), (5, .int (iI z15))]) X.1 X.2.1 d_Ae_setKey_180 hl (by decide) rfl (fun ls hl => ?_)
                  refine lv_aload_n X.1 X.2.1 d_Ae_setKey_182 rfl (lv_at hl 5 rfl) ?_
                  refine t_getr (ci := 1) X Y S k0 rfl i_Ae 1 (by decide) rfl (k1 := 3) (k2 := 256) rfl rfl lk_Ae_13 (fun _ h9 => h9) d_Ae_setKey_183 (fun b56 e56 k56 => ?_)
                  refine lv_iload X.1 X.2.1 d_Ae_setKey_186 (lv_at hl 7 rfl) ?_
                  refine t_iald3 X Y S k56 (by omega) (by omega) (by omega) d_Ae_setKey_188 (fun z57 l57 u57 => ?_)
                  refine lv_istore (lv' := [(4, .int (iI z57)), (9, .int (iI z55)), (8, .int (iI z54)), (7, .int (iI z53)), (6, .int (iI z52)), (10, .int (iI z24)), (0, .ref h), (3, .int (iI 16)), (5, .int (iI z15))]) X.1 X.2.1 d_Ae_setKey_189 hl (by decide) rfl (fun ls hl => ?_)
                  refine lv_goto (tgt := 241) X.1 X.2.1 d_Ae_setKey_191 (by decide) ?_
                  exact J33 z57 z52 z53 z54 z55 _ _ _ (by omega) (by omega) (by omega) (by omega) (by omega) (by omega) (by omega) (by omega) (by omega) (by omega) Y S (lv_sub hl [6, 7, 0, 8, 4, 3, 2, 1] rfl)
          refine lv_istore (lv' := [(5, .int (iI 16)), (4, .int (iI 1)), (0, .ref h), (1, .ref a1), (3, .int (iI 16))]) X.1 X.2.1 d_Ae_setKey_76 hl (by decide) rfl (fun ls hl => ?_)
          exact J17 _ 1 16 f6 _ _ _ rfl (by omega) (by omega) (by omega) (by omega) (by omega) Y S (lv_sub hl [2, 4, 1, 0] rfl)
        · refine lv_aload_n X.1 X.2.1 d_Ae_setKey_40 rfl (lv_at hl 0 rfl) ?_
          refine t_getr (ci := 1) X Y S k0 rfl i_Ae 2 (by decide) rfl (k1 := 3) (k2 := 240) rfl rfl lk_Ae_16 (fun _ h9 => h9) d_Ae_setKey_41 (fun b58 e58 k58 => ?_)
          refine lv_iload X.1 X.2.1 d_Ae_setKey_44 (lv_at hl 3 rfl) ?_
          refine lv_iload X.1 X.2.1 d_Ae_setKey_46 (lv_at hl 3 rfl) ?_
          refine lv_aload_n X.1 X.2.1 d_Ae_setKey_48 rfl (lv_at hl 1 rfl) ?_
          refine t_alen X Y S KS k1 (by omega) d_Ae_setKey_49 ?_
          have J60 : ∀ (z59 : Int) (H : Heap) (locs : List Loc) (ls : Array Slot), (0 ≤ z59) → (z59 ≤ 255) → pH D cCl (pA L sz) s.heap L f6 H locs → tS E T (tFr κ L [2, 3, 4, 11] []) κ L f κ L f6 → lv_has ls 11 [(0, .ref h), (1, .ref a1), (3, .int (iI 16)), (4, .int (iI z7))] → W p l e (kRm 1 60 0 0) s m AV below meth c H locs 0 0 QQ (F0 m 65 ls [.int (iI z59), .int (iI z7), .ref b58]) := by
            intro z59 H locs ls l59 u59 Y S hl
            refine t_iast3 X Y S k58 (by omega) (by omega) (by omega) ⟨by omega, by omega⟩ (nF_of S k58 (by decide)) d_Ae_setKey_65 (fun f64 H locs Y S w64 => ?_)
            refine lv_iinc (v := iI (z7 + 1)) (lv' := [(4, .int (iI (z7 + 1))), (0, .ref h), (1, .ref a1), (3, .int (iI 16))]) X.1 X.2.1 d_Ae_setKey_66 hl (k := 3) rfl ((iI_add _ _).trans (congrArg iI (by omega))) (by decide) rfl (fun ls hl => ?_)
            refine lv_goto (tgt := 34) X.1 X.2.1 d_Ae_setKey_69 (by decide) ?_
            exact ih9 ((16 - (z7 + 1)).toNat) (by omega) (z7 + 1) f64 _ _ _ rfl (by omega) (by omega) Y S (lv_sub hl [1, 2, 3, 0] rfl)
          refine z_icmp_ge (tgt := 64) X.1 X.2.1 d_Ae_setKey_50 (by decide) ⟨by omega, by omega⟩ ⟨by omega, by omega⟩ (fun h65 => ?_) (fun h65 => ?_)
          · refine lv_iconst (v := iI 0) X.1 X.2.1 d_Ae_setKey_64 (by decide) ?_
            exact J60 0 _ _ _ (by omega) (by omega) Y S (lv_sub hl [0, 1, 2, 3] rfl)
          · refine lv_aload_n X.1 X.2.1 d_Ae_setKey_53 rfl (lv_at hl 1 rfl) ?_
            refine lv_iload X.1 X.2.1 d_Ae_setKey_54 (lv_at hl 3 rfl) ?_
            refine t_bald X Y S k1 (by omega) (by omega) (by omega) d_Ae_setKey_56 (fun z66 l66 u66 => ?_)
            refine lv_sipush (v := iI 255) X.1 X.2.1 d_Ae_setKey_57 (by decide) ?_
            refine z_iand X.1 X.2.1 (by omega) (by omega) d_Ae_setKey_60 (fun z67 l67 u67 => ?_)
            refine lv_goto (tgt := 65) X.1 X.2.1 d_Ae_setKey_61 (by decide) ?_
            exact J60 z67 _ _ _ (by omega) (by omega) Y S (lv_sub hl [0, 1, 2, 3] rfl)
    refine lv_istore (lv' := [(4, .int (iI 0)), (3, .int (iI 16)), (0, .ref h), (1, .ref a1)]) X.1 X.2.1 d_Ae_setKey_32 hl (by decide) rfl (fun ls hl => ?_)
    exact J8 _ 0 f5 _ _ _ rfl (by omega) (by omega) Y S (lv_sub hl [2, 3, 1, 0] rfl)
  refine z_icmp_ne (tgt := 18) X.1 X.2.1 d_Ae_setKey_3 (by decide) ⟨by omega, by omega⟩ ⟨by omega, by omega⟩ (fun h68 => ?_) (fun h68 => ?_)
  · exact J1  _ _ _  Y S (lv_sub hl [0, 1] rfl)
  · refine lv_aload_n X.1 X.2.1 d_Ae_setKey_6 rfl (lv_at hl 1 rfl) ?_
    refine t_alen X Y S KS k1 (by omega) d_Ae_setKey_7 ?_
    refine lv_bipush (v := iI 32) X.1 X.2.1 d_Ae_setKey_8 (by decide) ?_
    refine z_icmp_lt (tgt := 18) X.1 X.2.1 d_Ae_setKey_10 (by decide) ⟨by omega, by omega⟩ ⟨by omega, by omega⟩ (fun h69 => ?_) (fun h69 => ?_)
    · exact J1  _ _ _  Y S (lv_sub hl [0, 1] rfl)
    · refine lv_bipush (v := iI 32) X.1 X.2.1 d_Ae_setKey_13 (by decide) ?_
      refine lv_goto (tgt := 20) X.1 X.2.1 d_Ae_setKey_15 (by decide) ?_
      refine lv_istore_n (lv' := [(3, .int (iI 32)), (0, .ref h), (1, .ref a1), (2, .int (iI a2))]) X.1 X.2.1 d_Ae_setKey_20 rfl hl (by decide) rfl (fun ls hl => ?_)
      refine lv_aload_n X.1 X.2.1 d_Ae_setKey_21 rfl (lv_at hl 1 rfl) ?_
      refine lv_iload_n X.1 X.2.1 d_Ae_setKey_22 rfl (lv_at hl 0 rfl) ?_
      refine lv_iconst (v := iI 4) X.1 X.2.1 d_Ae_setKey_23 (by decide) ?_
      refine z_idiv X.1 X.2.1 (by decide) (by decide) ⟨by decide, by decide⟩ d_Ae_setKey_24 ?_
      refine t_eq (y := iI 8) (by decide) ?_
      refine lv_bipush (v := iI 6) X.1 X.2.1 d_Ae_setKey_25 (by decide) ?_
      refine z_iadd X.1 X.2.1 d_Ae_setKey_27 ?_
      refine t_eq (y := iI 14) (by decide) ?_
      refine t_put (ci := 1) X Y S k0 rfl i_Ae t_Ae t_Ae_ok n_Ae 3 (by decide) rfl lk_Ae_32 (fun _ h9 => h9) rfl (t_Ae_ok 3 (by decide)) rfl rfl ⟨_, rfl, (show (0 : Int) ≤ 14 by omega), (show 14 ≤ (14 : Int) by omega)⟩ (nF_of S k0 (by decide)) d_Ae_setKey_28 (fun f70 H locs Y S w70 => ?_)
      refine lv_iconst (v := iI 0) X.1 X.2.1 d_Ae_setKey_31 (by decide) ?_
      have J73 : ∀ (n75 : Nat) (z72 : Int) (f71 : pF) (H : Heap) (locs : List Loc) (ls : Array Slot), (32 - z72).toNat = n75 → (0 ≤ z72) → (z72 ≤ 32) → pH D cCl (pA L sz) s.heap L f71 H locs → tS E T (tFr κ L [2, 3, 4, 11] []) κ L f κ L f71 → lv_has ls 11 [(0, .ref h), (1, .ref a1), (3, .int (iI 32)), (4, .int (iI z72))] → W p l e (kRm 1 60 0 0) s m AV below meth c H locs 0 0 QQ (F0 m 34 ls []) := by
        intro n75
        induction n75 using Nat.strongRecOn with
        | ind n75 ih74 =>
          intro z72 f71 H locs ls hm76 l72 u72 Y S hl
          refine lv_iload X.1 X.2.1 d_Ae_setKey_34 (lv_at hl 3 rfl) ?_
          refine lv_iload_n X.1 X.2.1 d_Ae_setKey_36 rfl (lv_at hl 2 rfl) ?_
          refine z_icmp_ge (tgt := 72) X.1 X.2.1 d_Ae_setKey_37 (by decide) ⟨by omega, by omega⟩ ⟨by omega, by omega⟩ (fun h77 => ?_) (fun h77 => ?_)
          · refine lv_iconst (v := iI 1) X.1 X.2.1 d_Ae_setKey_72 (by decide) ?_
            refine lv_istore (lv' := [(4, .int (iI 1)), (0, .ref h), (1, .ref a1), (3, .int (iI 32))]) X.1 X.2.1 d_Ae_setKey_73 hl (by decide) rfl (fun ls hl => ?_)
            refine lv_iload_n X.1 X.2.1 d_Ae_setKey_75 rfl (lv_at hl 3 rfl) ?_
            have J82 : ∀ (n84 : Nat) (z79 : Int) (z80 : Int) (f78 : pF) (H : Heap) (locs : List Loc) (ls : Array Slot), (243 - z80).toNat = n84 → (0 ≤ z79) → (z79 ≤ 255) → (32 ≤ z80) → (z80 ≤ 243) → (z80 % 4 = 0) → pH D cCl (pA L sz) s.heap L f78 H locs → tS E T (tFr κ L [2, 3, 4, 11] []) κ L f κ L f78 → lv_has ls 11 [(0, .ref h), (3, .int (iI 32)), (4, .int (iI z79)), (5, .int (iI z80))] → W p l e (kRm 1 60 0 0) s m AV below meth c H locs 0 0 QQ (F0 m 78 ls []) := by
              intro n84
              induction n84 using Nat.strongRecOn with
              | ind n84 ih83 =>
                intro z79 z80 f78 H locs ls hm85 l79 u79 l80 u80 i81 Y S hl
                refine lv_iload X.1 X.2.1 d_Ae_setKey_78 (lv_at hl 3 rfl) ?_
                refine lv_bipush (v := iI 16) X.1 X.2.1 d_Ae_setKey_80 (by decide) ?_
                refine lv_aload_n X.1 X.2.1 d_Ae_setKey_82 rfl (lv_at hl 0 rfl) ?_
                refine t_geti (ci := 1) X Y S k0 rfl i_Ae 3 (by decide) rfl lk_Ae_32 (fun _ h9 => h9) d_Ae_setKey_83 (fun z86 e86 l86 u86 => ?_)
                refine lv_iconst (v := iI 1) X.1 X.2.1 d_Ae_setKey_86 (by decide) ?_
                refine z_iadd X.1 X.2.1 d_Ae_setKey_87 ?_
                refine z_imul X.1 X.2.1 d_Ae_setKey_88 ?_
                refine z_icmp_ge (tgt := 335) X.1 X.2.1 d_Ae_setKey_89 (by decide) ⟨by omega, by omega⟩ ⟨by omega, by omega⟩ (fun h87 => ?_) (fun h87 => ?_)
                · exact c_retv hQQ X Y hr hlk ⟨rfl, S, trivial⟩ d_Ae_setKey_335
                · refine lv_aload_n X.1 X.2.1 d_Ae_setKey_92 rfl (lv_at hl 0 rfl) ?_
                  refine t_getr (ci := 1) X Y S k0 rfl i_Ae 2 (by decide) rfl (k1 := 3) (k2 := 240) rfl rfl lk_Ae_16 (fun _ h9 => h9) d_Ae_setKey_93 (fun b88 e88 k88 => ?_)
                  refine lv_iload X.1 X.2.1 d_Ae_setKey_96 (lv_at hl 3 rfl) ?_
                  refine lv_iconst (v := iI 4) X.1 X.2.1 d_Ae_setKey_98 (by decide) ?_
                  refine z_isub X.1 X.2.1 d_Ae_setKey_99 ?_
                  refine t_iald3 X Y S k88 (by omega) (by omega) (by omega) d_Ae_setKey_100 (fun z89 l89 u89 => ?_)
                  refine lv_istore (lv' := [(6, .int (iI z89)), (0, .ref h), (3, .int (iI 32)), (4, .int (iI z79)), (5, .int (iI z80))]) X.1 X.2.1 d_Ae_setKey_101 hl (by decide) rfl (fun ls hl => ?_)
                  refine lv_aload_n X.1 X.2.1 d_Ae_setKey_103 rfl (lv_at hl 1 rfl) ?_
                  refine t_get0 (ci := 1) X Y S k0 rfl i_Ae 2 (by decide) rfl lk_Ae_16 (fun _ h9 => h9) d_Ae_setKey_104 e88 ?_
                  refine lv_iload X.1 X.2.1 d_Ae_setKey_107 (lv_at hl 4 rfl) ?_
                  refine lv_iconst (v := iI 3) X.1 X.2.1 d_Ae_setKey_109 (by decide) ?_
                  refine z_isub X.1 X.2.1 d_Ae_setKey_110 ?_
                  refine t_iald3 X Y S k88 (by omega) (by omega) (by omega) d_Ae_setKey_111 (fun z90 l90 u90 => ?_)
                  refine lv_istore (lv' := [(7, .int (iI z90)), (6, .int (iI z89)), (0, .ref h), (3, .int (iI 32)), (4, .int (iI z79)), (5, .int (iI z80))]) X.1 X.2.1 d_Ae_setKey_112 hl (by decide) rfl (fun ls hl => ?_)
                  refine lv_aload_n X.1 X.2.1 d_Ae_setKey_114 rfl (lv_at hl 2 rfl) ?_
                  refine t_get0 (ci := 1) X Y S k0 rfl i_Ae 2 (by decide) rfl lk_Ae_16 (fun _ h9 => h9) d_Ae_setKey_115 e88 ?_
                  refine lv_iload X.1 X.2.1 d_Ae_setKey_118 (lv_at hl 5 rfl) ?_
                  refine lv_iconst (v := iI 2) X.1 X.2.1 d_Ae_setKey_120 (by decide) ?_
                  refine z_isub X.1 X.2.1 d_Ae_setKey_121 ?_
                  refine t_iald3 X Y S k88 (by omega) (by omega) (by omega) d_Ae_setKey_122 (fun z91 l91 u91 => ?_)
                  refine lv_istore (lv' := [(8, .int (iI z91)), (7, .int (iI z90)), (6, .int (iI z89)), (0, .ref h), (3, .int (iI 32)), (4, .int (iI z79)), (5, .int (iI z80))]) X.1 X.2.1 d_Ae_setKey_123 hl (by decide) rfl (fun ls hl => ?_)
                  refine lv_aload_n X.1 X.2.1 d_Ae_setKey_125 rfl (lv_at hl 3 rfl) ?_
                  refine t_get0 (ci := 1) X Y S k0 rfl i_Ae 2 (by decide) rfl lk_Ae_16 (fun _ h9 => h9) d_Ae_setKey_126 e88 ?_
                  refine lv_iload X.1 X.2.1 d_Ae_setKey_129 (lv_at hl 6 rfl) ?_
                  refine lv_iconst (v := iI 1) X.1 X.2.1 d_Ae_setKey_131 (by decide) ?_
                  refine z_isub X.1 X.2.1 d_Ae_setKey_132 ?_
                  refine t_iald3 X Y S k88 (by omega) (by omega) (by omega) d_Ae_setKey_133 (fun z92 l92 u92 => ?_)
                  refine lv_istore (lv' := [(9, .int (iI z92)), (8, .int (iI z91)), (7, .int (iI z90)), (6, .int (iI z89)), (0, .ref h), (3, .int (iI 32)), (4, .int (iI z79)), (5, .int (iI z80))]) X.1 X.2.1 d_Ae_setKey_134 hl (by decide) rfl (fun ls hl => ?_)
                  refine lv_iload X.1 X.2.1 d_Ae_setKey_136 (lv_at hl 7 rfl) ?_
                  refine lv_iload_n X.1 X.2.1 d_Ae_setKey_138 rfl (lv_at hl 5 rfl) ?_
                  refine z_irem X.1 X.2.1 (by omega) (by omega) ⟨by decide, by decide⟩ d_Ae_setKey_139 ?_
                  have J98 : ∀ (z93 : Int) (z94 : Int) (z95 : Int) (z96 : Int) (z97 : Int) (H : Heap) (locs : List Loc) (ls : Array Slot), (0 ≤ z93) → (z93 ≤ 255) → (0 ≤ z94) → (z94 ≤ 255) → (0 ≤ z95) → (z95 ≤ 255) → (0 ≤ z96) → (z96 ≤ 255) → (0 ≤ z97) → (z97 ≤ 255) → pH D cCl (pA L sz) s.heap L f78 H locs → tS E T (tFr κ L [2, 3, 4, 11] []) κ L f κ L f78 → lv_has ls 11 [(0, .ref h), (3, .int (iI 32)), (4, .int (iI z93)), (5, .int (iI z80)), (6, .int (iI z94)), (7, .int (iI z95)), (8, .int (iI z96)), (9, .int (iI z97))] → W p l e (kRm 1 60 0 0) s m AV below meth c H locs 0 0 QQ (F0 m 241 ls []) := by
                    intro z93 z94 z95 z96 z97 H locs ls l93 u93 l94 u94 l95 u95 l96 u96 l97 u97 Y S hl
                    refine lv_aload_n X.1 X.2.1 d_Ae_setKey_241 rfl (lv_at hl 0 rfl) ?_
                    refine t_get0 (ci := 1) X Y S k0 rfl i_Ae 2 (by decide) rfl lk_Ae_16 (fun _ h9 => h9) d_Ae_setKey_242 e88 ?_
                    refine lv_iload X.1 X.2.1 d_Ae_setKey_245 (lv_at hl 3 rfl) ?_
                    refine lv_aload_n X.1 X.2.1 d_Ae_setKey_247 rfl (lv_at hl 0 rfl) ?_
                    refine t_get0 (ci := 1) X Y S k0 rfl i_Ae 2 (by decide) rfl lk_Ae_16 (fun _ h9 => h9) d_Ae_setKey_248 e88 ?_
                    refine lv_iload X.1 X.2.1 d_Ae_setKey_251 (lv_at hl 3 rfl) ?_
                    refine lv_iload_n X.1 X.2.1 d_Ae_setKey_253 rfl (lv_at hl 1 rfl) ?_
                    refine z_isub X.1 X.2.1 d_Ae_setKey_254 ?_
                    refine t_iald3 X Y S k88 (by omega) (by omega) (by omega) d_Ae_setKey_255 (fun z102 l102 u102 => ?_)
                    refine lv_iload X.1 X.2.1 d_Ae_setKey_256 (lv_at hl 4 rfl) ?_
                    refine z_ixor X.1 X.2.1 ⟨by omega, by omega⟩ ⟨by omega, by omega⟩ d_Ae_setKey_258 (fun z103 l103 u103 => ?_)
                    refine t_iast3 X Y S k88 (by omega) (by omega) (by omega) ⟨by omega, by omega⟩ (nF_of S k88 (by decide)) d_Ae_setKey_259 (fun f104 H locs Y S w104 => ?_)
                    refine lv_aload_n X.1 X.2.1 d_Ae_setKey_260 rfl (lv_at hl 0 rfl) ?_
                    refine t_get0 (ci := 1) X Y S k0 rfl i_Ae 2 (by decide) rfl lk_Ae_16 (fun _ h9 => h9) d_Ae_setKey_261 ((gF_same (w104 _ (k_ne k0 k88 (by decide))) 2).trans e88) ?_
                    refine lv_iload X.1 X.2.1 d_Ae_setKey_264 (lv_at hl 3 rfl) ?_
                    refine lv_iconst (v := iI 1) X.1 X.2.1 d_Ae_setKey_266 (by decide) ?_
                    refine z_iadd X.1 X.2.1 d_Ae_setKey_267 ?_
                    refine lv_aload_n X.1 X.2.1 d_Ae_setKey_268 rfl (lv_at hl 0 rfl) ?_
                    refine t_get0 (ci := 1) X Y S k0 rfl i_Ae 2 (by decide) rfl lk_Ae_16 (fun _ h9 => h9) d_Ae_setKey_269 ((gF_same (w104 _ (k_ne k0 k88 (by decide))) 2).trans e88) ?_
                    refine lv_iload X.1 X.2.1 d_Ae_setKey_272 (lv_at hl 3 rfl) ?_
                    refine lv_iconst (v := iI 1) X.1 X.2.1 d_Ae_setKey_274 (by decide) ?_
                    refine z_iadd X.1 X.2.1 d_Ae_setKey_275 ?_
                    refine lv_iload_n X.1 X.2.1 d_Ae_setKey_276 rfl (lv_at hl 1 rfl) ?_
                    refine z_isub X.1 X.2.1 d_Ae_setKey_277 ?_
                    refine t_iald3 X Y S k88 (by omega) (by omega) (by omega) d_Ae_setKey_278 (fun z105 l105 u105 => ?_)
                    refine lv_iload X.1 X.2.1 d_Ae_setKey_279 (lv_at hl 5 rfl) ?_
                    refine z_ixor X.1 X.2.1 ⟨by omega, by omega⟩ ⟨by omega, by omega⟩ d_Ae_setKey_281 (fun z106 l106 u106 => ?_)
                    refine t_iast3 X Y S k88 (by omega) (by omega) (by omega) ⟨by omega, by omega⟩ (nF_of S k88 (by decide)) d_Ae_setKey_282 (fun f107 H locs Y S w107 => ?_)
                    refine lv_aload_n X.1 X.2.1 d_Ae_setKey_283 rfl (lv_at hl 0 rfl) ?_
                    refine t_get0 (ci := 1) X Y S k0 rfl i_Ae 2 (by decide) rfl lk_Ae_16 (fun _ h9 => h9) d_Ae_setKey_284 ((gF_same (w107 _ (k_ne k0 k88 (by decide))) 2).trans ((gF_same (w104 _ (k_ne k0 k88 (by decide))) 2).trans e88)) ?_
                    refine lv_iload X.1 X.2.1 d_Ae_setKey_287 (lv_at hl 3 rfl) ?_
                    refine lv_iconst (v := iI 2) X.1 X.2.1 d_Ae_setKey_289 (by decide) ?_
                    refine z_iadd X.1 X.2.1 d_Ae_setKey_290 ?_
                    refine lv_aload_n X.1 X.2.1 d_Ae_setKey_291 rfl (lv_at hl 0 rfl) ?_
                    refine t_get0 (ci := 1) X Y S k0 rfl i_Ae 2 (by decide) rfl lk_Ae_16 (fun _ h9 => h9) d_Ae_setKey_292 ((gF_same (w107 _ (k_ne k0 k88 (by decide))) 2).trans ((gF_same (w104 _ (k_ne k0 k88 (by decide))) 2).trans e88)) ?_
                    refine lv_iload X.1 X.2.1 d_Ae_setKey_295 (lv_at hl 3 rfl) ?_
                    refine lv_iconst (v := iI 2) X.1 X.2.1 d_Ae_setKey_297 (by decide) ?_
                    refine z_iadd X.1 X.2.1 d_Ae_setKey_298 ?_
                    refine lv_iload_n X.1 X.2.1 d_Ae_setKey_299 rfl (lv_at hl 1 rfl) ?_
                    refine z_isub X.1 X.2.1 d_Ae_setKey_300 ?_
                    refine t_iald3 X Y S k88 (by omega) (by omega) (by omega) d_Ae_setKey_301 (fun z108 l108 u108 => ?_)
                    refine lv_iload X.1 X.2.1 d_Ae_setKey_302 (lv_at hl 6 rfl) ?_
                    refine z_ixor X.1 X.2.1 ⟨by omega, by omega⟩ ⟨by omega, by omega⟩ d_Ae_setKey_304 (fun z109 l109 u109 => ?_)
                    refine t_iast3 X Y S k88 (by omega) (by omega) (by omega) ⟨by omega, by omega⟩ (nF_of S k88 (by decide)) d_Ae_setKey_305 (fun f110 H locs Y S w110 => ?_)
                    refine lv_aload_n X.1 X.2.1 d_Ae_setKey_306 rfl (lv_at hl 0 rfl) ?_
                    refine t_get0 (ci := 1) X Y S k0 rfl i_Ae 2 (by decide) rfl lk_Ae_16 (fun _ h9 => h9) d_Ae_setKey_307 ((gF_same (w110 _ (k_ne k0 k88 (by decide))) 2).trans ((gF_same (w107 _ (k_ne k0 k88 (by decide))) 2).trans ((gF_same (w104 _ (k_ne k0 k88 (by decide))) 2).trans e88))) ?_
                    refine lv_iload X.1 X.2.1 d_Ae_setKey_310 (lv_at hl 3 rfl) ?_
                    refine lv_iconst (v := iI 3) X.1 X.2.1 d_Ae_setKey_312 (by decide) ?_
                    refine z_iadd X.1 X.2.1 d_Ae_setKey_313 ?_
                    refine lv_aload_n X.1 X.2.1 d_Ae_setKey_314 rfl (lv_at hl 0 rfl) ?_
                    refine t_get0 (ci := 1) X Y S k0 rfl i_Ae 2 (by decide) rfl lk_Ae_16 (fun _ h9 => h9) d_Ae_setKey_315 ((gF_same (w110 _ (k_ne k0 k88 (by decide))) 2).trans ((gF_same (w107 _ (k_ne k0 k88 (by decide))) 2).trans ((gF_same (w104 _ (k_ne k0 k88 (by decide))) 2).trans e88))) ?_
                    refine lv_iload X.1 X.2.1 d_Ae_setKey_318 (lv_at hl 3 rfl) ?_
                    refine lv_iconst (v := iI 3) X.1 X.2.1 d_Ae_setKey_320 (by decide) ?_
                    refine z_iadd X.1 X.2.1 d_Ae_setKey_321 ?_
                    refine lv_iload_n X.1 X.2.1 d_Ae_setKey_322 rfl (lv_at hl 1 rfl) ?_
                    refine z_isub X.1 X.2.1 d_Ae_setKey_323 ?_
                    refine t_iald3 X Y S k88 (by omega) (by omega) (by omega) d_Ae_setKey_324 (fun z111 l111 u111 => ?_)
                    refine lv_iload X.1 X.2.1 d_Ae_setKey_325 (lv_at hl 7 rfl) ?_
                    refine z_ixor X.1 X.2.1 ⟨by omega, by omega⟩ ⟨by omega, by omega⟩ d_Ae_setKey_327 (fun z112 l112 u112 => ?_)
                    refine t_iast3 X Y S k88 (by omega) (by omega) (by omega) ⟨by omega, by omega⟩ (nF_of S k88 (by decide)) d_Ae_setKey_328 (fun f113 H locs Y S w113 => ?_)
                    refine lv_iinc (v := iI (z80 + 4)) (lv' := [(5, .int (iI (z80 + 4))), (0, .ref h), (3, .int (iI 32)), (4, .int (iI z93)), (6, .int (iI z94)), (7, .int (iI z95)), (8, .int (iI z96)), (9, .int (iI z97))]) X.1 X.2.1 d_Ae_setKey_329 hl (k := 3) rfl ((iI_add _ _).trans (congrArg iI (by omega))) (by decide) rfl (fun ls hl => ?_)
                    refine lv_goto (tgt := 78) X.1 X.2.1 d_Ae_setKey_332 (by decide) ?_
                    exact ih83 ((243 - (z80 + 4)).toNat) (by omega) z93 (z80 + 4) f113 _ _ _ rfl (by omega) (by omega) (by omega) (by omega) (by omega) Y S (lv_sub hl [1, 2, 3, 0] rfl)
                  refine z_if_ne (tgt := 194) X.1 X.2.1 d_Ae_setKey_140 (by decide) ⟨by omega, by omega⟩ (fun h114 => ?_) (fun h114 => ?_)
                  · refine lv_iload_n X.1 X.2.1 d_Ae_setKey_194 rfl (lv_at hl 5 rfl) ?_
                    refine lv_bipush (v := iI 32) X.1 X.2.1 d_Ae_setKey_195 (by decide) ?_
                    refine z_icmp_ne (tgt := 241) X.1 X.2.1 d_Ae_setKey_197 (by decide) ⟨by omega, by omega⟩ ⟨by omega, by omega⟩ (fun h115 => False.elim (by omega)) (fun h115 => ?_)
                    · refine lv_iload X.1 X.2.1 d_Ae_setKey_200 (lv_at hl 7 rfl) ?_
                      refine lv_iload_n X.1 X.2.1 d_Ae_setKey_202 rfl (lv_at hl 5 rfl) ?_
                      refine z_irem X.1 X.2.1 (by omega) (by omega) ⟨by decide, by decide⟩ d_Ae_setKey_203 ?_
                      refine lv_bipush (v := iI 16) X.1 X.2.1 d_Ae_setKey_204 (by decide) ?_
                      refine z_icmp_ne (tgt := 241) X.1 X.2.1 d_Ae_setKey_206 (by decide) ⟨by omega, by omega⟩ ⟨by omega, by omega⟩ (fun h116 => ?_) (fun h116 => ?_)
                      · exact J98 z79 z89 z90 z91 z92 _ _ _ (by omega) (by omega) (by omega) (by omega) (by omega) (by omega) (by omega) (by omega) (by omega) (by omega) Y S (lv_sub hl [4, 5, 6, 7, 3, 2, 1, 0] rfl)
                      · refine k_gets 1 (by decide) X Y KS sk_Ae_29 d_Ae_setKey_209 ?_
                        refine lv_iload X.1 X.2.1 d_Ae_setKey_212 (lv_at hl 3 rfl) ?_
                        refine t_box X Y KS (by omega) (by omega) d_Ae_setKey_214 (fun z117 l117 u117 => ?_)
                        refine lv_istore (lv' := [(6, .int (iI z117)), (9, .int (iI z92)), (8, .int (iI z91)), (7, .int (iI z90)), (0, .ref h), (3, .int (iI 32)), (4, .int (iI z79)), (5, .int (iI z80))]) X.1 X.2.1 d_Ae_setKey_215 hl (by decide) rfl (fun ls hl => ?_)
                        refine k_gets 1 (by decide) X Y KS sk_Ae_29 d_Ae_setKey_217 ?_
                        refine lv_iload X.1 X.2.1 d_Ae_setKey_220 (lv_at hl 3 rfl) ?_
                        refine t_box X Y KS (by omega) (by omega) d_Ae_setKey_222 (fun z118 l118 u118 => ?_)
                        refine lv_istore (lv' := [(7, .int (iI z118)), (6, .int (iI z117)), (9, .int (iI z92)), (8, .int (iI z91)), (0, .ref h), (3, .int (iI 32)), (4, .int (iI z79)), (5, .int (iI z80))]) X.1 X.2.1 d_Ae_setKey_223 hl (by decide) rfl (fun ls hl => ?_)
                        refine k_gets 1 (by decide) X Y KS sk_Ae_29 d_Ae_setKey_225 ?_
                        refine lv_iload X.1 X.2.1 d_Ae_setKey_228 (lv_at hl 3 rfl) ?_
                        refine t_box X Y KS (by omega) (by omega) d_Ae_setKey_230 (fun z119 l119 u119 => ?_)
                        refine lv_istore (lv' := [(8, .int (iI z119)), (7, .int (iI z118)), (6, .int (iI z117)), (9, .int (iI z92)), (0, .ref h), (3, .int (iI 32)), (4, .int (iI z79)), (5, .int (iI z80))]) X.1 X.2.1 d_Ae_setKey_231 hl (by decide) rfl (fun ls hl => ?_)
                        refine k_gets 1 (by decide) X Y KS sk_Ae_29 d_Ae_setKey_233 ?_
                        refine lv_iload X.1 X.2.1 d_Ae_setKey_236 (lv_at hl 3 rfl) ?_
                        refine t_box X Y KS (by omega) (by omega) d_Ae_setKey_238 (fun z120 l120 u120 => ?_)
                        refine lv_istore (lv' := [(9, .int (iI z120)), (8, .int (iI z119)), (7, .int (iI z118)), (6, .int (iI z117)), (0, .ref h), (3, .int (iI 32)), (4, .int (iI z79)), (5, .int (iI z80))]) X.1 X.2.1 d_Ae_setKey_239 hl (by decide) rfl (fun ls hl => ?_)
                        exact J98 z79 z117 z118 z119 z120 _ _ _ (by omega) (by omega) (by omega) (by omega) (by omega) (by omega) (by omega) (by omega) (by omega) (by omega) Y S (lv_sub hl [4, 5, 6, 7, 3, 2, 1, 0] rfl)
                  · refine lv_iload X.1 X.2.1 d_Ae_setKey_143 (lv_at hl 3 rfl) ?_
                    refine lv_istore (lv' := [(10, .int (iI z89)), (9, .int (iI z92)), (8, .int (iI z91)), (7, .int (iI z90)), (6, .int (iI z89)), (0, .ref h), (3, .int (iI 32)), (4, .int (iI z79)), (5, .int (iI z80))]) X.1 X.2.1 d_Ae_setKey_145 hl (by decide) rfl (fun ls hl => ?_)
                    refine k_gets 1 (by decide) X Y KS sk_Ae_29 d_Ae_setKey_147 ?_
                    refine lv_iload X.1 X.2.1 d_Ae_setKey_150 (lv_at hl 3 rfl) ?_
                    refine t_box X Y KS (by omega) (by omega) d_Ae_setKey_152 (fun z121 l121 u121 => ?_)
                    refine lv_iload X.1 X.2.1 d_Ae_setKey_153 (lv_at hl 7 rfl) ?_
                    refine z_ixor X.1 X.2.1 ⟨by omega, by omega⟩ ⟨by omega, by omega⟩ d_Ae_setKey_155 (fun z122 l122 u122 => ?_)
                    refine lv_istore (lv' := [(6, .int (iI z122)), (10, .int (iI z89)), (9, .int (iI z92)), (8, .int (iI z91)), (7, .int (iI z90)), (0, .ref h), (3, .int (iI 32)), (4, .int (iI z79)), (5, .int (iI z80))]) X.1 X.2.1 d_Ae_setKey_156 hl (by decide) rfl (fun ls hl => ?_)
                    refine k_gets 1 (by decide) X Y KS sk_Ae_29 d_Ae_setKey_158 ?_
                    refine lv_iload X.1 X.2.1 d_Ae_setKey_161 (lv_at hl 3 rfl) ?_
                    refine t_box X Y KS (by omega) (by omega) d_Ae_setKey_163 (fun z123 l123 u123 => ?_)
                    refine lv_istore (lv' := [(7, .int (iI z123)), (6, .int (iI z122)), (10, .int (iI z89)), (9, .int (iI z92)), (8, .int (iI z91)), (0, .ref h), (3, .int (iI 32)), (4, .int (iI z79)), (5, .int (iI z80))]) X.1 X.2.1 d_Ae_setKey_164 hl (by decide) rfl (fun ls hl => ?_)
                    refine k_gets 1 (by decide) X Y KS sk_Ae_29 d_Ae_setKey_166 ?_
                    refine lv_iload X.1 X.2.1 d_Ae_setKey_169 (lv_at hl 3 rfl) ?_
                    refine t_box X Y KS (by omega) (by omega) d_Ae_setKey_171 (fun z124 l124 u124 => ?_)
                    refine lv_istore (lv' := [(8, .int (iI z124)), (7, .int (iI z123)), (6, .int (iI z122)), (10, .int (iI z89)), (9, .int (iI z92)), (0, .ref h), (3, .int (iI 32)), (4, .int (iI z79)), (5, .int (iI z80))]) X.1 X.2.1 d_Ae_setKey_172 hl (by decide) rfl (fun ls hl => ?_)
                    refine k_gets 1 (by decide) X Y KS sk_Ae_29 d_Ae_setKey_174 ?_
                    refine lv_iload X.1 X.2.1 d_Ae_setKey_177 (lv_at hl 3 rfl) ?_
                    refine t_box X Y KS (by omega) (by omega) d_Ae_setKey_179 (fun z125 l125 u125 => ?_)
                    refine lv_istore (lv' := [(9, .int (iI z125)), (8, .int (iI z124)), (7, .int (iI z123)), (6, .int (iI z122)), (10, .int (iI z89)), (0, .ref h), (3, .int (iI 32)), (4, .int (iI z79)), (5, .int (iI z80))]) X.1 X.2.1 d_Ae_setKey_180 hl (by decide) rfl (fun ls hl => ?_)
                    refine lv_aload_n X.1 X.2.1 d_Ae_setKey_182 rfl (lv_at hl 5 rfl) ?_
                    refine t_getr (ci := 1) X Y S k0 rfl i_Ae 1 (by decide) rfl (k1 := 3) (k2 := 256) rfl rfl lk_Ae_13 (fun _ h9 => h9) d_Ae_setKey_183 (fun b126 e126 k126 => ?_)
                    refine lv_iload X.1 X.2.1 d_Ae_setKey_186 (lv_at hl 7 rfl) ?_
                    refine t_iald3 X Y S k126 (by omega) (by omega) (by omega) d_Ae_setKey_188 (fun z127 l127 u127 => ?_)
                    refine lv_istore (lv' := [(4, .int (iI z127)), (9, .int (iI z125)), (8, .int (iI z124)), (7, .int (iI z123)), (6, .int (iI z122)), (10, .int (iI z89)), (0, .ref h), (3, .int (iI 32)), (5, .int (iI z80))]) X.1 X.2.1 d_Ae_setKey_189 hl (by decide) rfl (fun ls hl => ?_)
                    refine lv_goto (tgt := 241) X.1 X.2.1 d_Ae_setKey_191 (by decide) ?_
                    exact J98 z127 z122 z123 z124 z125 _ _ _ (by omega) (by omega) (by omega) (by omega) (by omega) (by omega) (by omega) (by omega) (by omega) (by omega) Y S (lv_sub hl [6, 7, 0, 8, 4, 3, 2, 1] rfl)
            refine lv_istore (lv' := [(5, .int (iI 32)), (4, .int (iI 1)), (0, .ref h), (1, .ref a1), (3, .int (iI 32))]) X.1 X.2.1 d_Ae_setKey_76 hl (by decide) rfl (fun ls hl => ?_)
            exact J82 _ 1 32 f71 _ _ _ rfl (by omega) (by omega) (by omega) (by omega) (by omega) Y S (lv_sub hl [2, 4, 1, 0] rfl)
          · refine lv_aload_n X.1 X.2.1 d_Ae_setKey_40 rfl (lv_at hl 0 rfl) ?_
            refine t_getr (ci := 1) X Y S k0 rfl i_Ae 2 (by decide) rfl (k1 := 3) (k2 := 240) rfl rfl lk_Ae_16 (fun _ h9 => h9) d_Ae_setKey_41 (fun b128 e128 k128 => ?_)
            refine lv_iload X.1 X.2.1 d_Ae_setKey_44 (lv_at hl 3 rfl) ?_
            refine lv_iload X.1 X.2.1 d_Ae_setKey_46 (lv_at hl 3 rfl) ?_
            refine lv_aload_n X.1 X.2.1 d_Ae_setKey_48 rfl (lv_at hl 1 rfl) ?_
            refine t_alen X Y S KS k1 (by omega) d_Ae_setKey_49 ?_
            have J130 : ∀ (z129 : Int) (H : Heap) (locs : List Loc) (ls : Array Slot), (0 ≤ z129) → (z129 ≤ 255) → pH D cCl (pA L sz) s.heap L f71 H locs → tS E T (tFr κ L [2, 3, 4, 11] []) κ L f κ L f71 → lv_has ls 11 [(0, .ref h), (1, .ref a1), (3, .int (iI 32)), (4, .int (iI z72))] → W p l e (kRm 1 60 0 0) s m AV below meth c H locs 0 0 QQ (F0 m 65 ls [.int (iI z129), .int (iI z72), .ref b128]) := by
              intro z129 H locs ls l129 u129 Y S hl
              refine t_iast3 X Y S k128 (by omega) (by omega) (by omega) ⟨by omega, by omega⟩ (nF_of S k128 (by decide)) d_Ae_setKey_65 (fun f134 H locs Y S w134 => ?_)
              refine lv_iinc (v := iI (z72 + 1)) (lv' := [(4, .int (iI (z72 + 1))), (0, .ref h), (1, .ref a1), (3, .int (iI 32))]) X.1 X.2.1 d_Ae_setKey_66 hl (k := 3) rfl ((iI_add _ _).trans (congrArg iI (by omega))) (by decide) rfl (fun ls hl => ?_)
              refine lv_goto (tgt := 34) X.1 X.2.1 d_Ae_setKey_69 (by decide) ?_
              exact ih74 ((32 - (z72 + 1)).toNat) (by omega) (z72 + 1) f134 _ _ _ rfl (by omega) (by omega) Y S (lv_sub hl [1, 2, 3, 0] rfl)
            refine z_icmp_ge (tgt := 64) X.1 X.2.1 d_Ae_setKey_50 (by decide) ⟨by omega, by omega⟩ ⟨by omega, by omega⟩ (fun h135 => ?_) (fun h135 => ?_)
            · refine lv_iconst (v := iI 0) X.1 X.2.1 d_Ae_setKey_64 (by decide) ?_
              exact J130 0 _ _ _ (by omega) (by omega) Y S (lv_sub hl [0, 1, 2, 3] rfl)
            · refine lv_aload_n X.1 X.2.1 d_Ae_setKey_53 rfl (lv_at hl 1 rfl) ?_
              refine lv_iload X.1 X.2.1 d_Ae_setKey_54 (lv_at hl 3 rfl) ?_
              refine t_bald X Y S k1 (by omega) (by omega) (by omega) d_Ae_setKey_56 (fun z136 l136 u136 => ?_)
              refine lv_sipush (v := iI 255) X.1 X.2.1 d_Ae_setKey_57 (by decide) ?_
              refine z_iand X.1 X.2.1 (by omega) (by omega) d_Ae_setKey_60 (fun z137 l137 u137 => ?_)
              refine lv_goto (tgt := 65) X.1 X.2.1 d_Ae_setKey_61 (by decide) ?_
              exact J130 z137 _ _ _ (by omega) (by omega) Y S (lv_sub hl [0, 1, 2, 3] rfl)
      refine lv_istore (lv' := [(4, .int (iI 0)), (3, .int (iI 32)), (0, .ref h), (1, .ref a1), (2, .int (iI a2))]) X.1 X.2.1 d_Ae_setKey_32 hl (by decide) rfl (fun ls hl => ?_)
      exact J73 _ 0 f70 _ _ _ rfl (by omega) (by omega) Y S (lv_sub hl [2, 3, 1, 0] rfl)
set_option maxHeartbeats 4000000 in
set_option maxRecDepth 100000 in
theorem c_Ae_mix (l : Launch) (D : va_G) (E : cE) (T : cT) (κ : tK) (L : List Nat) (f : pF) (sz : Nat) (h : Nat) (k0 : κ h = (11, 0)) (hw : tW E T κ L f) : Met l y_Ae_mix (k_Ae_mix :: lw_tg) (kRm 1 60 0 0) (va_Pc [.ref h] (kPre D E T L f sz)) (va_Qv (nPv E T [2, 3, 4] κ L f (fun (g : pF) => True)) (cPost D E (pA L sz)) (pA L sz)) 0 0 (pA L sz) := by
  refine k_enter (own := R_Ae) (by decide) rfl (Nat.le_of_ble_eq_true rfl) (fun p e s m below meth c ls AV QQ H locs hQQ X Y hA hin hr hlk hml hl KS KR => ?_)
  have hl : lv_has ls 7 [(0, .ref h)] := hl
  have S : tS E T (tFr κ L [2, 3, 4] []) κ L f κ L f := tS_rf hw
  refine lv_iconst (v := iI 0) X.1 X.2.1 d_Ae_mix_0 (by decide) ?_
  have J4 : ∀ (n6 : Nat) (z2 : Int) (f1 : pF) (H : Heap) (locs : List Loc) (ls : Array Slot), (19 - z2).toNat = n6 → (0 ≤ z2) → (z2 ≤ 19) → (z2 % 4 = 0) → pH D cCl (pA L sz) s.heap L f1 H locs → tS E T (tFr κ L [2, 3, 4] []) κ L f κ L f1 → lv_has ls 7 [(0, .ref h), (1, .int (iI z2))] → W p l e (kRm 1 60 0 0) s m AV below meth c H locs 0 0 QQ (F0 m 2 ls []) := by
    intro n6
    induction n6 using Nat.strongRecOn with
    | ind n6 ih5 =>
      intro z2 f1 H locs ls hm7 l2 u2 i3 Y S hl
      refine lv_iload_n X.1 X.2.1 d_Ae_mix_2 rfl (lv_at hl 1 rfl) ?_
      refine lv_bipush (v := iI 16) X.1 X.2.1 d_Ae_mix_3 (by decide) ?_
      refine z_icmp_ge (tgt := 149) X.1 X.2.1 d_Ae_mix_5 (by decide) ⟨by omega, by omega⟩ ⟨by omega, by omega⟩ (fun h8 => ?_) (fun h8 => ?_)
      · exact c_retv hQQ X Y hr hlk ⟨rfl, S, trivial⟩ d_Ae_mix_149
      · refine lv_aload_n X.1 X.2.1 d_Ae_mix_8 rfl (lv_at hl 0 rfl) ?_
        refine t_getr (ci := 1) X Y S k0 rfl i_Ae 5 (by decide) rfl (k1 := 3) (k2 := 16) rfl rfl lk_Ae_22 (fun _ h9 => h9) d_Ae_mix_9 (fun b9 e9 k9 => ?_)
        refine lv_iload_n X.1 X.2.1 d_Ae_mix_12 rfl (lv_at hl 1 rfl) ?_
        refine t_iald3 X Y S k9 (by omega) (by omega) (by omega) d_Ae_mix_13 (fun z10 l10 u10 => ?_)
        refine lv_istore_n (lv' := [(2, .int (iI z10)), (0, .ref h), (1, .int (iI z2))]) X.1 X.2.1 d_Ae_mix_14 rfl hl (by decide) rfl (fun ls hl => ?_)
        refine lv_aload_n X.1 X.2.1 d_Ae_mix_15 rfl (lv_at hl 1 rfl) ?_
        refine t_get0 (ci := 1) X Y S k0 rfl i_Ae 5 (by decide) rfl lk_Ae_22 (fun _ h9 => h9) d_Ae_mix_16 e9 ?_
        refine lv_iload_n X.1 X.2.1 d_Ae_mix_19 rfl (lv_at hl 2 rfl) ?_
        refine lv_iconst (v := iI 1) X.1 X.2.1 d_Ae_mix_20 (by decide) ?_
        refine z_iadd X.1 X.2.1 d_Ae_mix_21 ?_
        refine t_iald3 X Y S k9 (by omega) (by omega) (by omega) d_Ae_mix_22 (fun z11 l11 u11 => ?_)
        refine lv_istore_n (lv' := [(3, .int (iI z11)), (2, .int (iI z10)), (0, .ref h), (1, .int (iI z2))]) X.1 X.2.1 d_Ae_mix_23 rfl hl (by decide) rfl (fun ls hl => ?_)
        refine lv_aload_n X.1 X.2.1 d_Ae_mix_24 rfl (lv_at hl 2 rfl) ?_
        refine t_get0 (ci := 1) X Y S k0 rfl i_Ae 5 (by decide) rfl lk_Ae_22 (fun _ h9 => h9) d_Ae_mix_25 e9 ?_
        refine lv_iload_n X.1 X.2.1 d_Ae_mix_28 rfl (lv_at hl 3 rfl) ?_
        refine lv_iconst (v := iI 2) X.1 X.2.1 d_Ae_mix_29 (by decide) ?_
        refine z_iadd X.1 X.2.1 d_Ae_mix_30 ?_
        refine t_iald3 X Y S k9 (by omega) (by omega) (by omega) d_Ae_mix_31 (fun z12 l12 u12 => ?_)
        refine lv_istore (lv' := [(4, .int (iI z12)), (3, .int (iI z11)), (2, .int (iI z10)), (0, .ref h), (1, .int (iI z2))]) X.1 X.2.1 d_Ae_mix_32 hl (by decide) rfl (fun ls hl => ?_)
        refine lv_aload_n X.1 X.2.1 d_Ae_mix_34 rfl (lv_at hl 3 rfl) ?_
        refine t_get0 (ci := 1) X Y S k0 rfl i_Ae 5 (by decide) rfl lk_Ae_22 (fun _ h9 => h9) d_Ae_mix_35 e9 ?_
        refine lv_iload_n X.1 X.2.1 d_Ae_mix_38 rfl (lv_at hl 4 rfl) ?_
        refine lv_iconst (v := iI 3) X.1 X.2.1 d_Ae_mix_39 (by decide) ?_
        refine z_iadd X.1 X.2.1 d_Ae_mix_40 ?_
        refine t_iald3 X Y S k9 (by omega) (by omega) (by omega) d_Ae_mix_41 (fun z13 l13 u13 => ?_)
        refine lv_istore (lv' := [(5, .int (iI z13)), (4, .int (iI z12)), (3, .int (iI z11)), (2, .int (iI z10)), (0, .ref h), (1, .int (iI z2))]) X.1 X.2.1 d_Ae_mix_42 hl (by decide) rfl (fun ls hl => ?_)
        refine lv_iload_n X.1 X.2.1 d_Ae_mix_44 rfl (lv_at hl 3 rfl) ?_
        refine lv_iload_n X.1 X.2.1 d_Ae_mix_45 rfl (lv_at hl 2 rfl) ?_
        refine z_ixor X.1 X.2.1 ⟨by omega, by omega⟩ ⟨by omega, by omega⟩ d_Ae_mix_46 (fun z14 l14 u14 => ?_)
        refine lv_iload X.1 X.2.1 d_Ae_mix_47 (lv_at hl 1 rfl) ?_
        refine z_ixor X.1 X.2.1 ⟨by omega, by omega⟩ ⟨by omega, by omega⟩ d_Ae_mix_49 (fun z15 l15 u15 => ?_)
        refine lv_iload X.1 X.2.1 d_Ae_mix_50 (lv_at hl 0 rfl) ?_
        refine z_ixor X.1 X.2.1 ⟨by omega, by omega⟩ ⟨by omega, by omega⟩ d_Ae_mix_52 (fun z16 l16 u16 => ?_)
        refine lv_istore (lv' := [(6, .int (iI z16)), (5, .int (iI z13)), (4, .int (iI z12)), (3, .int (iI z11)), (2, .int (iI z10)), (0, .ref h), (1, .int (iI z2))]) X.1 X.2.1 d_Ae_mix_53 hl (by decide) rfl (fun ls hl => ?_)
        refine lv_aload_n X.1 X.2.1 d_Ae_mix_55 rfl (lv_at hl 5 rfl) ?_
        refine t_get0 (ci := 1) X Y S k0 rfl i_Ae 5 (by decide) rfl lk_Ae_22 (fun _ h9 => h9) d_Ae_mix_56 e9 ?_
        refine lv_iload_n X.1 X.2.1 d_Ae_mix_59 rfl (lv_at hl 6 rfl) ?_
        refine lv_iload_n X.1 X.2.1 d_Ae_mix_60 rfl (lv_at hl 4 rfl) ?_
        refine lv_iload X.1 X.2.1 d_Ae_mix_61 (lv_at hl 0 rfl) ?_
        refine z_ixor X.1 X.2.1 ⟨by omega, by omega⟩ ⟨by omega, by omega⟩ d_Ae_mix_63 (fun z17 l17 u17 => ?_)
        refine lv_aload_n X.1 X.2.1 d_Ae_mix_64 rfl (lv_at hl 5 rfl) ?_
        refine t_getr (ci := 1) X Y S k0 rfl i_Ae 1 (by decide) rfl (k1 := 3) (k2 := 256) rfl rfl lk_Ae_13 (fun _ h9 => h9) d_Ae_mix_65 (fun b18 e18 k18 => ?_)
        refine lv_iload_n X.1 X.2.1 d_Ae_mix_68 rfl (lv_at hl 4 rfl) ?_
        refine lv_iload_n X.1 X.2.1 d_Ae_mix_69 rfl (lv_at hl 3 rfl) ?_
        refine z_ixor X.1 X.2.1 ⟨by omega, by omega⟩ ⟨by omega, by omega⟩ d_Ae_mix_70 (fun z19 l19 u19 => ?_)
        refine t_iald3 X Y S k18 (by omega) (by omega) (by omega) d_Ae_mix_71 (fun z20 l20 u20 => ?_)
        refine z_ixor X.1 X.2.1 ⟨by omega, by omega⟩ ⟨by omega, by omega⟩ d_Ae_mix_72 (fun z21 l21 u21 => ?_)
        refine t_iast3 X Y S k9 (by omega) (by omega) (by omega) ⟨by omega, by omega⟩ (nF_of S k9 (by decide)) d_Ae_mix_73 (fun f22 H locs Y S w22 => ?_)
        refine lv_aload_n X.1 X.2.1 d_Ae_mix_74 rfl (lv_at hl 5 rfl) ?_
        refine t_get0 (ci := 1) X Y S k0 rfl i_Ae 5 (by decide) rfl lk_Ae_22 (fun _ h9 => h9) d_Ae_mix_75 ((gF_same (w22 _ (k_ne k0 k9 (by decide))) 5).trans e9) ?_
        refine lv_iload_n X.1 X.2.1 d_Ae_mix_78 rfl (lv_at hl 6 rfl) ?_
        refine lv_iconst (v := iI 1) X.1 X.2.1 d_Ae_mix_79 (by decide) ?_
        refine z_iadd X.1 X.2.1 d_Ae_mix_80 ?_
        refine lv_iload_n X.1 X.2.1 d_Ae_mix_81 rfl (lv_at hl 3 rfl) ?_
        refine lv_iload X.1 X.2.1 d_Ae_mix_82 (lv_at hl 0 rfl) ?_
        refine z_ixor X.1 X.2.1 ⟨by omega, by omega⟩ ⟨by omega, by omega⟩ d_Ae_mix_84 (fun z23 l23 u23 => ?_)
        refine lv_aload_n X.1 X.2.1 d_Ae_mix_85 rfl (lv_at hl 5 rfl) ?_
        refine t_get0 (ci := 1) X Y S k0 rfl i_Ae 1 (by decide) rfl lk_Ae_13 (fun _ h9 => h9) d_Ae_mix_86 ((gF_same (w22 _ (k_ne k0 k9 (by decide))) 1).trans e18) ?_
        refine lv_iload_n X.1 X.2.1 d_Ae_mix_89 rfl (lv_at hl 3 rfl) ?_
        refine lv_iload X.1 X.2.1 d_Ae_mix_90 (lv_at hl 2 rfl) ?_
        refine z_ixor X.1 X.2.1 ⟨by omega, by omega⟩ ⟨by omega, by omega⟩ d_Ae_mix_92 (fun z24 l24 u24 => ?_)
        refine t_iald3 X Y S k18 (by omega) (by omega) (by omega) d_Ae_mix_93 (fun z25 l25 u25 => ?_)
        refine z_ixor X.1 X.2.1 ⟨by omega, by omega⟩ ⟨by omega, by omega⟩ d_Ae_mix_94 (fun z26 l26 u26 => ?_)
        refine t_iast3 X Y S k9 (by omega) (by omega) (by omega) ⟨by omega, by omega⟩ (nF_of S k9 (by decide)) d_Ae_mix_95 (fun f27 H locs Y S w27 => ?_)
        refine lv_aload_n X.1 X.2.1 d_Ae_mix_96 rfl (lv_at hl 5 rfl) ?_
        refine t_get0 (ci := 1) X Y S k0 rfl i_Ae 5 (by decide) rfl lk_Ae_22 (fun _ h9 => h9) d_Ae_mix_97 ((gF_same (w27 _ (k_ne k0 k9 (by decide))) 5).trans ((gF_same (w22 _ (k_ne k0 k9 (by decide))) 5).trans e9)) ?_
        refine lv_iload_n X.1 X.2.1 d_Ae_mix_100 rfl (lv_at hl 6 rfl) ?_
        refine lv_iconst (v := iI 2) X.1 X.2.1 d_Ae_mix_101 (by decide) ?_
        refine z_iadd X.1 X.2.1 d_Ae_mix_102 ?_
        refine lv_iload X.1 X.2.1 d_Ae_mix_103 (lv_at hl 2 rfl) ?_
        refine lv_iload X.1 X.2.1 d_Ae_mix_105 (lv_at hl 0 rfl) ?_
        refine z_ixor X.1 X.2.1 ⟨by omega, by omega⟩ ⟨by omega, by omega⟩ d_Ae_mix_107 (fun z28 l28 u28 => ?_)
        refine lv_aload_n X.1 X.2.1 d_Ae_mix_108 rfl (lv_at hl 5 rfl) ?_
        refine t_get0 (ci := 1) X Y S k0 rfl i_Ae 1 (by decide) rfl lk_Ae_13 (fun _ h9 => h9) d_Ae_mix_109 ((gF_same (w27 _ (k_ne k0 k9 (by decide))) 1).trans ((gF_same (w22 _ (k_ne k0 k9 (by decide))) 1).trans e18)) ?_
        refine lv_iload X.1 X.2.1 d_Ae_mix_112 (lv_at hl 2 rfl) ?_
        refine lv_iload X.1 X.2.1 d_Ae_mix_114 (lv_at hl 1 rfl) ?_
        refine z_ixor X.1 X.2.1 ⟨by omega, by omega⟩ ⟨by omega, by omega⟩ d_Ae_mix_116 (fun z29 l29 u29 => ?_)
        refine t_iald3 X Y S k18 (by omega) (by omega) (by omega) d_Ae_mix_117 (fun z30 l30 u30 => ?_)
        refine z_ixor X.1 X.2.1 ⟨by omega, by omega⟩ ⟨by omega, by omega⟩ d_Ae_mix_118 (fun z31 l31 u31 => ?_)
        refine t_iast3 X Y S k9 (by omega) (by omega) (by omega) ⟨by omega, by omega⟩ (nF_of S k9 (by decide)) d_Ae_mix_119 (fun f32 H locs Y S w32 => ?_)
        refine lv_aload_n X.1 X.2.1 d_Ae_mix_120 rfl (lv_at hl 5 rfl) ?_
        refine t_get0 (ci := 1) X Y S k0 rfl i_Ae 5 (by decide) rfl lk_Ae_22 (fun _ h9 => h9) d_Ae_mix_121 ((gF_same (w32 _ (k_ne k0 k9 (by decide))) 5).trans ((gF_same (w27 _ (k_ne k0 k9 (by decide))) 5).trans ((gF_same (w22 _ (k_ne k0 k9 (by decide))) 5).trans e9))) ?_
        refine lv_iload_n X.1 X.2.1 d_Ae_mix_124 rfl (lv_at hl 6 rfl) ?_
        refine lv_iconst (v := iI 3) X.1 X.2.1 d_Ae_mix_125 (by decide) ?_
        refine z_iadd X.1 X.2.1 d_Ae_mix_126 ?_
        refine lv_iload X.1 X.2.1 d_Ae_mix_127 (lv_at hl 1 rfl) ?_
        refine lv_iload X.1 X.2.1 d_Ae_mix_129 (lv_at hl 0 rfl) ?_
        refine z_ixor X.1 X.2.1 ⟨by omega, by omega⟩ ⟨by omega, by omega⟩ d_Ae_mix_131 (fun z33 l33 u33 => ?_)
        refine lv_aload_n X.1 X.2.1 d_Ae_mix_132 rfl (lv_at hl 5 rfl) ?_
        refine t_get0 (ci := 1) X Y S k0 rfl i_Ae 1 (by decide) rfl lk_Ae_13 (fun _ h9 => h9) d_Ae_mix_133 ((gF_same (w32 _ (k_ne k0 k9 (by decide))) 1).trans ((gF_same (w27 _ (k_ne k0 k9 (by decide))) 1).trans ((gF_same (w22 _ (k_ne k0 k9 (by decide))) 1).trans e18))) ?_
        refine lv_iload X.1 X.2.1 d_Ae_mix_136 (lv_at hl 1 rfl) ?_
        refine lv_iload_n X.1 X.2.1 d_Ae_mix_138 rfl (lv_at hl 4 rfl) ?_
        refine z_ixor X.1 X.2.1 ⟨by omega, by omega⟩ ⟨by omega, by omega⟩ d_Ae_mix_139 (fun z34 l34 u34 => ?_)
        refine t_iald3 X Y S k18 (by omega) (by omega) (by omega) d_Ae_mix_140 (fun z35 l35 u35 => ?_)
        refine z_ixor X.1 X.2.1 ⟨by omega, by omega⟩ ⟨by omega, by omega⟩ d_Ae_mix_141 (fun z36 l36 u36 => ?_)
        refine t_iast3 X Y S k9 (by omega) (by omega) (by omega) ⟨by omega, by omega⟩ (nF_of S k9 (by decide)) d_Ae_mix_142 (fun f37 H locs Y S w37 => ?_)
        refine lv_iinc (v := iI (z2 + 4)) (lv' := [(1, .int (iI (z2 + 4))), (6, .int (iI z16)), (5, .int (iI z13)), (4, .int (iI z12)), (3, .int (iI z11)), (2, .int (iI z10)), (0, .ref h)]) X.1 X.2.1 d_Ae_mix_143 hl (k := 6) rfl ((iI_add _ _).trans (congrArg iI (by omega))) (by decide) rfl (fun ls hl => ?_)
        refine lv_goto (tgt := 2) X.1 X.2.1 d_Ae_mix_146 (by decide) ?_
        exact ih5 ((19 - (z2 + 4)).toNat) (by omega) (z2 + 4) f37 _ _ _ rfl (by omega) (by omega) (by omega) Y S (lv_sub hl [6, 0] rfl)
  refine lv_istore_n (lv' := [(1, .int (iI 0)), (0, .ref h)]) X.1 X.2.1 d_Ae_mix_1 rfl hl (by decide) rfl (fun ls hl => ?_)
  exact J4 _ 0 f _ _ _ rfl (by omega) (by omega) (by omega) Y S (lv_sub hl [1, 0] rfl)
set_option maxHeartbeats 4000000 in
set_option maxRecDepth 100000 in
theorem c_Ae_prepare (l : Launch) (D : va_G) (E : cE) (T : cT) (κ : tK) (L : List Nat) (f : pF) (sz : Nat) (h : Nat) (k0 : κ h = (11, 0)) (hw : tW E T κ L f) : Met l y_Ae_prepare (k_Ae_prepare :: lw_tg) (kRm 1 60 0 0) (va_Pc [.ref h] (kPre D E T L f sz)) (va_Qv (nPv E T [2, 3, 4] κ L f (fun (g : pF) => True)) (cPost D E (pA L sz)) (pA L sz)) 0 0 (pA L sz) := by
  refine k_enter (own := R_Ae) (by decide) rfl (Nat.le_of_ble_eq_true rfl) (fun p e s m below meth c ls AV QQ H locs hQQ X Y hA hin hr hlk hml hl KS KR => ?_)
  have hl : lv_has ls 4 [(0, .ref h)] := hl
  have S : tS E T (tFr κ L [2, 3, 4] []) κ L f κ L f := tS_rf hw
  refine lv_iconst (v := iI 0) X.1 X.2.1 d_Ae_prepare_0 (by decide) ?_
  have J4 : ∀ (n6 : Nat) (z2 : Int) (f1 : pF) (H : Heap) (locs : List Loc) (ls : Array Slot), (19 - z2).toNat = n6 → (0 ≤ z2) → (z2 ≤ 19) → (z2 % 4 = 0) → pH D cCl (pA L sz) s.heap L f1 H locs → tS E T (tFr κ L [2, 3, 4] []) κ L f κ L f1 → lv_has ls 4 [(0, .ref h), (1, .int (iI z2))] → W p l e (kRm 1 60 0 0) s m AV below meth c H locs 0 0 QQ (F0 m 2 ls []) := by
    intro n6
    induction n6 using Nat.strongRecOn with
    | ind n6 ih5 =>
      intro z2 f1 H locs ls hm7 l2 u2 i3 Y S hl
      refine lv_iload_n X.1 X.2.1 d_Ae_prepare_2 rfl (lv_at hl 1 rfl) ?_
      refine lv_bipush (v := iI 16) X.1 X.2.1 d_Ae_prepare_3 (by decide) ?_
      refine z_icmp_ge (tgt := 114) X.1 X.2.1 d_Ae_prepare_5 (by decide) ⟨by omega, by omega⟩ ⟨by omega, by omega⟩ (fun h8 => ?_) (fun h8 => ?_)
      · exact c_retv hQQ X Y hr hlk ⟨rfl, S, trivial⟩ d_Ae_prepare_114
      · refine lv_aload_n X.1 X.2.1 d_Ae_prepare_8 rfl (lv_at hl 0 rfl) ?_
        refine t_getr (ci := 1) X Y S k0 rfl i_Ae 1 (by decide) rfl (k1 := 3) (k2 := 256) rfl rfl lk_Ae_13 (fun _ h9 => h9) d_Ae_prepare_9 (fun b9 e9 k9 => ?_)
        refine lv_aload_n X.1 X.2.1 d_Ae_prepare_12 rfl (lv_at hl 0 rfl) ?_
        refine t_get0 (ci := 1) X Y S k0 rfl i_Ae 1 (by decide) rfl lk_Ae_13 (fun _ h9 => h9) d_Ae_prepare_13 e9 ?_
        refine lv_aload_n X.1 X.2.1 d_Ae_prepare_16 rfl (lv_at hl 0 rfl) ?_
        refine t_getr (ci := 1) X Y S k0 rfl i_Ae 5 (by decide) rfl (k1 := 3) (k2 := 16) rfl rfl lk_Ae_22 (fun _ h9 => h9) d_Ae_prepare_17 (fun b10 e10 k10 => ?_)
        refine lv_iload_n X.1 X.2.1 d_Ae_prepare_20 rfl (lv_at hl 1 rfl) ?_
        refine t_iald3 X Y S k10 (by omega) (by omega) (by omega) d_Ae_prepare_21 (fun z11 l11 u11 => ?_)
        refine lv_aload_n X.1 X.2.1 d_Ae_prepare_22 rfl (lv_at hl 0 rfl) ?_
        refine t_get0 (ci := 1) X Y S k0 rfl i_Ae 5 (by decide) rfl lk_Ae_22 (fun _ h9 => h9) d_Ae_prepare_23 e10 ?_
        refine lv_iload_n X.1 X.2.1 d_Ae_prepare_26 rfl (lv_at hl 1 rfl) ?_
        refine lv_iconst (v := iI 2) X.1 X.2.1 d_Ae_prepare_27 (by decide) ?_
        refine z_iadd X.1 X.2.1 d_Ae_prepare_28 ?_
        refine t_iald3 X Y S k10 (by omega) (by omega) (by omega) d_Ae_prepare_29 (fun z12 l12 u12 => ?_)
        refine z_ixor X.1 X.2.1 ⟨by omega, by omega⟩ ⟨by omega, by omega⟩ d_Ae_prepare_30 (fun z13 l13 u13 => ?_)
        refine t_iald3 X Y S k9 (by omega) (by omega) (by omega) d_Ae_prepare_31 (fun z14 l14 u14 => ?_)
        refine t_iald3 X Y S k9 (by omega) (by omega) (by omega) d_Ae_prepare_32 (fun z15 l15 u15 => ?_)
        refine lv_istore_n (lv' := [(2, .int (iI z15)), (0, .ref h), (1, .int (iI z2))]) X.1 X.2.1 d_Ae_prepare_33 rfl hl (by decide) rfl (fun ls hl => ?_)
        refine lv_aload_n X.1 X.2.1 d_Ae_prepare_34 rfl (lv_at hl 1 rfl) ?_
        refine t_get0 (ci := 1) X Y S k0 rfl i_Ae 1 (by decide) rfl lk_Ae_13 (fun _ h9 => h9) d_Ae_prepare_35 e9 ?_
        refine lv_aload_n X.1 X.2.1 d_Ae_prepare_38 rfl (lv_at hl 1 rfl) ?_
        refine t_get0 (ci := 1) X Y S k0 rfl i_Ae 1 (by decide) rfl lk_Ae_13 (fun _ h9 => h9) d_Ae_prepare_39 e9 ?_
        refine lv_aload_n X.1 X.2.1 d_Ae_prepare_42 rfl (lv_at hl 1 rfl) ?_
        refine t_get0 (ci := 1) X Y S k0 rfl i_Ae 5 (by decide) rfl lk_Ae_22 (fun _ h9 => h9) d_Ae_prepare_43 e10 ?_
        refine lv_iload_n X.1 X.2.1 d_Ae_prepare_46 rfl (lv_at hl 2 rfl) ?_
        refine lv_iconst (v := iI 1) X.1 X.2.1 d_Ae_prepare_47 (by decide) ?_
        refine z_iadd X.1 X.2.1 d_Ae_prepare_48 ?_
        refine t_iald3 X Y S k10 (by omega) (by omega) (by omega) d_Ae_prepare_49 (fun z16 l16 u16 => ?_)
        refine lv_aload_n X.1 X.2.1 d_Ae_prepare_50 rfl (lv_at hl 1 rfl) ?_
        refine t_get0 (ci := 1) X Y S k0 rfl i_Ae 5 (by decide) rfl lk_Ae_22 (fun _ h9 => h9) d_Ae_prepare_51 e10 ?_
        refine lv_iload_n X.1 X.2.1 d_Ae_prepare_54 rfl (lv_at hl 2 rfl) ?_
        refine lv_iconst (v := iI 3) X.1 X.2.1 d_Ae_prepare_55 (by decide) ?_
        refine z_iadd X.1 X.2.1 d_Ae_prepare_56 ?_
        refine t_iald3 X Y S k10 (by omega) (by omega) (by omega) d_Ae_prepare_57 (fun z17 l17 u17 => ?_)
        refine z_ixor X.1 X.2.1 ⟨by omega, by omega⟩ ⟨by omega, by omega⟩ d_Ae_prepare_58 (fun z18 l18 u18 => ?_)
        refine t_iald3 X Y S k9 (by omega) (by omega) (by omega) d_Ae_prepare_59 (fun z19 l19 u19 => ?_)
        refine t_iald3 X Y S k9 (by omega) (by omega) (by omega) d_Ae_prepare_60 (fun z20 l20 u20 => ?_)
        refine lv_istore_n (lv' := [(3, .int (iI z20)), (2, .int (iI z15)), (0, .ref h), (1, .int (iI z2))]) X.1 X.2.1 d_Ae_prepare_61 rfl hl (by decide) rfl (fun ls hl => ?_)
        refine lv_aload_n X.1 X.2.1 d_Ae_prepare_62 rfl (lv_at hl 2 rfl) ?_
        refine t_get0 (ci := 1) X Y S k0 rfl i_Ae 5 (by decide) rfl lk_Ae_22 (fun _ h9 => h9) d_Ae_prepare_63 e10 ?_
        refine lv_iload_n X.1 X.2.1 d_Ae_prepare_66 rfl (lv_at hl 3 rfl) ?_
        refine lv_dup2_11 X.1 X.2.1 d_Ae_prepare_67 rfl rfl ?_
        refine t_iald3 X Y S k10 (by omega) (by omega) (by omega) d_Ae_prepare_68 (fun z21 l21 u21 => ?_)
        refine lv_iload_n X.1 X.2.1 d_Ae_prepare_69 rfl (lv_at hl 1 rfl) ?_
        refine z_ixor X.1 X.2.1 ⟨by omega, by omega⟩ ⟨by omega, by omega⟩ d_Ae_prepare_70 (fun z22 l22 u22 => ?_)
        refine t_iast3 X Y S k10 (by omega) (by omega) (by omega) ⟨by omega, by omega⟩ (nF_of S k10 (by decide)) d_Ae_prepare_71 (fun f23 H locs Y S w23 => ?_)
        refine lv_aload_n X.1 X.2.1 d_Ae_prepare_72 rfl (lv_at hl 2 rfl) ?_
        refine t_get0 (ci := 1) X Y S k0 rfl i_Ae 5 (by decide) rfl lk_Ae_22 (fun _ h9 => h9) d_Ae_prepare_73 ((gF_same (w23 _ (k_ne k0 k10 (by decide))) 5).trans e10) ?_
        refine lv_iload_n X.1 X.2.1 d_Ae_prepare_76 rfl (lv_at hl 3 rfl) ?_
        refine lv_iconst (v := iI 1) X.1 X.2.1 d_Ae_prepare_77 (by decide) ?_
        refine z_iadd X.1 X.2.1 d_Ae_prepare_78 ?_
        refine lv_dup2_11 X.1 X.2.1 d_Ae_prepare_79 rfl rfl ?_
        refine t_iald3 X Y S k10 (by omega) (by omega) (by omega) d_Ae_prepare_80 (fun z24 l24 u24 => ?_)
        refine lv_iload_n X.1 X.2.1 d_Ae_prepare_81 rfl (lv_at hl 0 rfl) ?_
        refine z_ixor X.1 X.2.1 ⟨by omega, by omega⟩ ⟨by omega, by omega⟩ d_Ae_prepare_82 (fun z25 l25 u25 => ?_)
        refine t_iast3 X Y S k10 (by omega) (by omega) (by omega) ⟨by omega, by omega⟩ (nF_of S k10 (by decide)) d_Ae_prepare_83 (fun f26 H locs Y S w26 => ?_)
        refine lv_aload_n X.1 X.2.1 d_Ae_prepare_84 rfl (lv_at hl 2 rfl) ?_
        refine t_get0 (ci := 1) X Y S k0 rfl i_Ae 5 (by decide) rfl lk_Ae_22 (fun _ h9 => h9) d_Ae_prepare_85 ((gF_same (w26 _ (k_ne k0 k10 (by decide))) 5).trans ((gF_same (w23 _ (k_ne k0 k10 (by decide))) 5).trans e10)) ?_
        refine lv_iload_n X.1 X.2.1 d_Ae_prepare_88 rfl (lv_at hl 3 rfl) ?_
        refine lv_iconst (v := iI 2) X.1 X.2.1 d_Ae_prepare_89 (by decide) ?_
        refine z_iadd X.1 X.2.1 d_Ae_prepare_90 ?_
        refine lv_dup2_11 X.1 X.2.1 d_Ae_prepare_91 rfl rfl ?_
        refine t_iald3 X Y S k10 (by omega) (by omega) (by omega) d_Ae_prepare_92 (fun z27 l27 u27 => ?_)
        refine lv_iload_n X.1 X.2.1 d_Ae_prepare_93 rfl (lv_at hl 1 rfl) ?_
        refine z_ixor X.1 X.2.1 ⟨by omega, by omega⟩ ⟨by omega, by omega⟩ d_Ae_prepare_94 (fun z28 l28 u28 => ?_)
        refine t_iast3 X Y S k10 (by omega) (by omega) (by omega) ⟨by omega, by omega⟩ (nF_of S k10 (by decide)) d_Ae_prepare_95 (fun f29 H locs Y S w29 => ?_)
        refine lv_aload_n X.1 X.2.1 d_Ae_prepare_96 rfl (lv_at hl 2 rfl) ?_
        refine t_get0 (ci := 1) X Y S k0 rfl i_Ae 5 (by decide) rfl lk_Ae_22 (fun _ h9 => h9) d_Ae_prepare_97 ((gF_same (w29 _ (k_ne k0 k10 (by decide))) 5).trans ((gF_same (w26 _ (k_ne k0 k10 (by decide))) 5).trans ((gF_same (w23 _ (k_ne k0 k10 (by decide))) 5).trans e10))) ?_
        refine lv_iload_n X.1 X.2.1 d_Ae_prepare_100 rfl (lv_at hl 3 rfl) ?_
        refine lv_iconst (v := iI 3) X.1 X.2.1 d_Ae_prepare_101 (by decide) ?_
        refine z_iadd X.1 X.2.1 d_Ae_prepare_102 ?_
        refine lv_dup2_11 X.1 X.2.1 d_Ae_prepare_103 rfl rfl ?_
        refine t_iald3 X Y S k10 (by omega) (by omega) (by omega) d_Ae_prepare_104 (fun z30 l30 u30 => ?_)
        refine lv_iload_n X.1 X.2.1 d_Ae_prepare_105 rfl (lv_at hl 0 rfl) ?_
        refine z_ixor X.1 X.2.1 ⟨by omega, by omega⟩ ⟨by omega, by omega⟩ d_Ae_prepare_106 (fun z31 l31 u31 => ?_)
        refine t_iast3 X Y S k10 (by omega) (by omega) (by omega) ⟨by omega, by omega⟩ (nF_of S k10 (by decide)) d_Ae_prepare_107 (fun f32 H locs Y S w32 => ?_)
        refine lv_iinc (v := iI (z2 + 4)) (lv' := [(1, .int (iI (z2 + 4))), (3, .int (iI z20)), (2, .int (iI z15)), (0, .ref h)]) X.1 X.2.1 d_Ae_prepare_108 hl (k := 3) rfl ((iI_add _ _).trans (congrArg iI (by omega))) (by decide) rfl (fun ls hl => ?_)
        refine lv_goto (tgt := 2) X.1 X.2.1 d_Ae_prepare_111 (by decide) ?_
        exact ih5 ((19 - (z2 + 4)).toNat) (by omega) (z2 + 4) f32 _ _ _ rfl (by omega) (by omega) (by omega) Y S (lv_sub hl [3, 0] rfl)
  refine lv_istore_n (lv' := [(1, .int (iI 0)), (0, .ref h)]) X.1 X.2.1 d_Ae_prepare_1 rfl hl (by decide) rfl (fun ls hl => ?_)
  exact J4 _ 0 f _ _ _ rfl (by omega) (by omega) (by omega) Y S (lv_sub hl [1, 0] rfl)
set_option maxHeartbeats 4000000 in
set_option maxRecDepth 100000 in
theorem c_Ae_encrypt (l : Launch) (D : va_G) (E : cE) (T : cT) (κ : tK) (L : List Nat) (f : pF) (sz : Nat) (h : Nat) (k0 : κ h = (11, 0)) (a1 n1 : Nat) (k1 : κ a1 = (1, n1)) (x1 : n1 ≤ 12288) (a2 : Int) (l_a2 : (-20300) ≤ a2) (u_a2 : a2 ≤ 20300) (hw : tW E T κ L f) : Met l y_Ae_encrypt (k_Ae_encrypt :: lw_tg) (kRm 2 86 0 0) (va_Pc [.ref h, .ref a1, .int (iI a2)] (kPre D E T L f sz)) (va_Qv (nPv E T [1, 2, 3, 4] κ L f (fun (g : pF) => True)) (cPost D E (pA L sz)) (pA L sz)) 0 0 (pA L sz) := by
  refine k_enter (own := R_Ae) (by decide) rfl (Nat.le_of_ble_eq_true rfl) (fun p e s m below meth c ls AV QQ H locs hQQ X Y hA hin hr hlk hml hl KS KR => ?_)
  have hl : lv_has ls 5 [(0, .ref h), (1, .ref a1), (2, .int (iI a2))] := hl
  have S : tS E T (tFr κ L [1, 2, 3, 4] []) κ L f κ L f := tS_rf hw
  refine lv_iload_n X.1 X.2.1 d_Ae_encrypt_0 rfl (lv_at hl 2 rfl) ?_
  refine z_if_lt (tgt := 13) X.1 X.2.1 d_Ae_encrypt_1 (by decide) ⟨by omega, by omega⟩ (fun h1 => ?_) (fun h1 => ?_)
  · exact c_retv hQQ X Y hr hlk ⟨rfl, S, trivial⟩ d_Ae_encrypt_13
  · refine lv_iload_n X.1 X.2.1 d_Ae_encrypt_4 rfl (lv_at hl 2 rfl) ?_
    refine lv_aload_n X.1 X.2.1 d_Ae_encrypt_5 rfl (lv_at hl 1 rfl) ?_
    refine t_alen X Y S KS (Or.inl k1) (by omega) d_Ae_encrypt_6 ?_
    refine lv_bipush (v := iI 16) X.1 X.2.1 d_Ae_encrypt_7 (by decide) ?_
    refine z_isub X.1 X.2.1 d_Ae_encrypt_9 ?_
    refine z_icmp_le (tgt := 14) X.1 X.2.1 d_Ae_encrypt_10 (by decide) ⟨by omega, by omega⟩ ⟨by omega, by omega⟩ (fun h2 => ?_) (fun h2 => ?_)
    · refine lv_iconst (v := iI 0) X.1 X.2.1 d_Ae_encrypt_14 (by decide) ?_
      have J5 : ∀ (n7 : Nat) (z4 : Int) (f3 : pF) (H : Heap) (locs : List Loc) (ls : Array Slot), (16 - z4).toNat = n7 → (0 ≤ z4) → (z4 ≤ 16) → pH D cCl (pA L sz) s.heap L f3 H locs → tS E T (tFr κ L [1, 2, 3, 4] []) κ L f κ L f3 → lv_has ls 5 [(0, .ref h), (1, .ref a1), (2, .int (iI a2)), (3, .int (iI z4))] → W p l e (kRm 2 86 0 0) s m AV below meth c H locs 0 0 QQ (F0 m 16 ls []) := by
        intro n7
        induction n7 using Nat.strongRecOn with
        | ind n7 ih6 =>
          intro z4 f3 H locs ls hm8 l4 u4 Y S hl
          refine lv_iload_n X.1 X.2.1 d_Ae_encrypt_16 rfl (lv_at hl 3 rfl) ?_
          refine lv_bipush (v := iI 16) X.1 X.2.1 d_Ae_encrypt_17 (by decide) ?_
          refine z_icmp_ge (tgt := 50) X.1 X.2.1 d_Ae_encrypt_19 (by decide) ⟨by omega, by omega⟩ ⟨by omega, by omega⟩ (fun h9 => ?_) (fun h9 => ?_)
          · refine lv_iconst (v := iI 1) X.1 X.2.1 d_Ae_encrypt_50 (by decide) ?_
            have J12 : ∀ (n14 : Nat) (z11 : Int) (f10 : pF) (H : Heap) (locs : List Loc) (ls : Array Slot), (15 - z11).toNat = n14 → (1 ≤ z11) → (z11 ≤ 15) → pH D cCl (pA L sz) s.heap L f10 H locs → tS E T (tFr κ L [1, 2, 3, 4] []) κ L f κ L f10 → lv_has ls 5 [(0, .ref h), (1, .ref a1), (2, .int (iI a2)), (3, .int (iI z11))] → W p l e (kRm 2 86 0 0) s m AV below meth c H locs 0 0 QQ (F0 m 52 ls []) := by
              intro n14
              induction n14 using Nat.strongRecOn with
              | ind n14 ih13 =>
                intro z11 f10 H locs ls hm15 l11 u11 Y S hl
                refine lv_iload_n X.1 X.2.1 d_Ae_encrypt_52 rfl (lv_at hl 3 rfl) ?_
                refine lv_aload_n X.1 X.2.1 d_Ae_encrypt_53 rfl (lv_at hl 0 rfl) ?_
                refine t_geti (ci := 1) X Y S k0 rfl i_Ae 3 (by decide) rfl lk_Ae_32 (fun _ h9 => h9) d_Ae_encrypt_54 (fun z16 e16 l16 u16 => ?_)
                refine z_icmp_gt (tgt := 165) X.1 X.2.1 d_Ae_encrypt_57 (by decide) ⟨by omega, by omega⟩ ⟨by omega, by omega⟩ (fun h17 => ?_) (fun h17 => ?_)
                · refine lv_iconst (v := iI 0) X.1 X.2.1 d_Ae_encrypt_165 (by decide) ?_
                  have J20 : ∀ (n22 : Nat) (z19 : Int) (f18 : pF) (H : Heap) (locs : List Loc) (ls : Array Slot), (16 - z19).toNat = n22 → (0 ≤ z19) → (z19 ≤ 16) → pH D cCl (pA L sz) s.heap L f18 H locs → tS E T (tFr κ L [1, 2, 3, 4] []) κ L f κ L f18 → lv_has ls 5 [(0, .ref h), (1, .ref a1), (2, .int (iI a2)), (3, .int (iI z19))] → W p l e (kRm 2 86 0 0) s m AV below meth c H locs 0 0 QQ (F0 m 167 ls []) := by
                    intro n22
                    induction n22 using Nat.strongRecOn with
                    | ind n22 ih21 =>
                      intro z19 f18 H locs ls hm23 l19 u19 Y S hl
                      refine lv_iload_n X.1 X.2.1 d_Ae_encrypt_167 rfl (lv_at hl 3 rfl) ?_
                      refine lv_bipush (v := iI 16) X.1 X.2.1 d_Ae_encrypt_168 (by decide) ?_
                      refine z_icmp_ge (tgt := 191) X.1 X.2.1 d_Ae_encrypt_170 (by decide) ⟨by omega, by omega⟩ ⟨by omega, by omega⟩ (fun h24 => ?_) (fun h24 => ?_)
                      · exact c_retv hQQ X Y hr hlk ⟨rfl, S, trivial⟩ d_Ae_encrypt_191
                      · refine lv_aload_n X.1 X.2.1 d_Ae_encrypt_173 rfl (lv_at hl 1 rfl) ?_
                        refine lv_iload_n X.1 X.2.1 d_Ae_encrypt_174 rfl (lv_at hl 2 rfl) ?_
                        refine lv_iload_n X.1 X.2.1 d_Ae_encrypt_175 rfl (lv_at hl 3 rfl) ?_
                        refine z_iadd X.1 X.2.1 d_Ae_encrypt_176 ?_
                        refine lv_aload_n X.1 X.2.1 d_Ae_encrypt_177 rfl (lv_at hl 0 rfl) ?_
                        refine t_getr (ci := 1) X Y S k0 rfl i_Ae 4 (by decide) rfl (k1 := 3) (k2 := 16) rfl rfl lk_Ae_19 (fun _ h9 => h9) d_Ae_encrypt_178 (fun b25 e25 k25 => ?_)
                        refine lv_iload_n X.1 X.2.1 d_Ae_encrypt_181 rfl (lv_at hl 3 rfl) ?_
                        refine t_iald3 X Y S k25 (by omega) (by omega) (by omega) d_Ae_encrypt_182 (fun z26 l26 u26 => ?_)
                        refine lv_i2b X.1 X.2.1 d_Ae_encrypt_183 rfl ?_
                        refine t_u (fun z27 l27 u27 => ?_)
                        refine t_bast X Y S k1 (by omega) (by omega) (by omega) (nF_of S k1 (by decide)) d_Ae_encrypt_184 (fun f28 H locs Y S w28 => ?_)
                        refine lv_iinc (v := iI (z19 + 1)) (lv' := [(3, .int (iI (z19 + 1))), (0, .ref h), (1, .ref a1), (2, .int (iI a2))]) X.1 X.2.1 d_Ae_encrypt_185 hl (k := 3) rfl ((iI_add _ _).trans (congrArg iI (by omega))) (by decide) rfl (fun ls hl => ?_)
                        refine lv_goto (tgt := 167) X.1 X.2.1 d_Ae_encrypt_188 (by decide) ?_
                        exact ih21 ((16 - (z19 + 1)).toNat) (by omega) (z19 + 1) f28 _ _ _ rfl (by omega) (by omega) Y S (lv_sub hl [1, 2, 3, 0] rfl)
                  refine lv_istore_n (lv' := [(3, .int (iI 0)), (0, .ref h), (1, .ref a1), (2, .int (iI a2))]) X.1 X.2.1 d_Ae_encrypt_166 rfl hl (by decide) rfl (fun ls hl => ?_)
                  exact J20 _ 0 f10 _ _ _ rfl (by omega) (by omega) Y S (lv_sub hl [1, 2, 3, 0] rfl)
                · refine lv_iconst (v := iI 0) X.1 X.2.1 d_Ae_encrypt_60 (by decide) ?_
                  have J31 : ∀ (n33 : Nat) (z30 : Int) (f29 : pF) (H : Heap) (locs : List Loc) (ls : Array Slot), (16 - z30).toNat = n33 → (0 ≤ z30) → (z30 ≤ 16) → pH D cCl (pA L sz) s.heap L f29 H locs → tS E T (tFr κ L [1, 2, 3, 4] []) κ L f κ L f29 → lv_has ls 5 [(0, .ref h), (1, .ref a1), (2, .int (iI a2)), (3, .int (iI z11)), (4, .int (iI z30))] → W p l e (kRm 2 86 0 0) s m AV below meth c H locs 0 0 QQ (F0 m 63 ls []) := by
                    intro n33
                    induction n33 using Nat.strongRecOn with
                    | ind n33 ih32 =>
                      intro z30 f29 H locs ls hm34 l30 u30 Y S hl
                      refine lv_iload X.1 X.2.1 d_Ae_encrypt_63 (lv_at hl 4 rfl) ?_
                      refine lv_bipush (v := iI 16) X.1 X.2.1 d_Ae_encrypt_65 (by decide) ?_
                      refine z_icmp_ge (tgt := 104) X.1 X.2.1 d_Ae_encrypt_67 (by decide) ⟨by omega, by omega⟩ ⟨by omega, by omega⟩ (fun h35 => ?_) (fun h35 => ?_)
                      · refine lv_iload_n X.1 X.2.1 d_Ae_encrypt_104 rfl (lv_at hl 3 rfl) ?_
                        refine lv_aload_n X.1 X.2.1 d_Ae_encrypt_105 rfl (lv_at hl 0 rfl) ?_
                        refine t_geti (ci := 1) X Y S k0 rfl i_Ae 3 (by decide) rfl lk_Ae_32 (fun _ h9 => h9) d_Ae_encrypt_106 (fun z36 e36 l36 u36 => ?_)
                        have J38 : ∀ (f37 : pF) (H : Heap) (locs : List Loc) (ls : Array Slot), pH D cCl (pA L sz) s.heap L f37 H locs → tS E T (tFr κ L [1, 2, 3, 4] []) κ L f κ L f37 → lv_has ls 5 [(0, .ref h), (1, .ref a1), (2, .int (iI a2)), (3, .int (iI z11))] → W p l e (kRm 2 86 0 0) s m AV below meth c H locs 0 0 QQ (F0 m 116 ls []) := by
                          intro f37 H locs ls  Y S hl
                          refine lv_iconst (v := iI 0) X.1 X.2.1 d_Ae_encrypt_116 (by decide) ?_
                          have J44 : ∀ (n46 : Nat) (z43 : Int) (f42 : pF) (H : Heap) (locs : List Loc) (ls : Array Slot), (16 - z43).toNat = n46 → (0 ≤ z43) → (z43 ≤ 16) → pH D cCl (pA L sz) s.heap L f42 H locs → tS E T (tFr κ L [1, 2, 3, 4] []) κ L f κ L f42 → lv_has ls 5 [(0, .ref h), (1, .ref a1), (2, .int (iI a2)), (3, .int (iI z11)), (4, .int (iI z43))] → W p l e (kRm 2 86 0 0) s m AV below meth c H locs 0 0 QQ (F0 m 119 ls []) := by
                            intro n46
                            induction n46 using Nat.strongRecOn with
                            | ind n46 ih45 =>
                              intro z43 f42 H locs ls hm47 l43 u43 Y S hl
                              refine lv_iload X.1 X.2.1 d_Ae_encrypt_119 (lv_at hl 4 rfl) ?_
                              refine lv_bipush (v := iI 16) X.1 X.2.1 d_Ae_encrypt_121 (by decide) ?_
                              refine z_icmp_ge (tgt := 159) X.1 X.2.1 d_Ae_encrypt_123 (by decide) ⟨by omega, by omega⟩ ⟨by omega, by omega⟩ (fun h48 => ?_) (fun h48 => ?_)
                              · refine lv_iinc (v := iI (z11 + 1)) (lv' := [(3, .int (iI (z11 + 1))), (0, .ref h), (1, .ref a1), (2, .int (iI a2)), (4, .int (iI z43))]) X.1 X.2.1 d_Ae_encrypt_159 hl (k := 3) rfl ((iI_add _ _).trans (congrArg iI (by omega))) (by decide) rfl (fun ls hl => ?_)
                                refine lv_goto (tgt := 52) X.1 X.2.1 d_Ae_encrypt_162 (by decide) ?_
                                exact ih13 ((15 - (z11 + 1)).toNat) (by omega) (z11 + 1) f42 _ _ _ rfl (by omega) (by omega) Y S (lv_sub hl [1, 2, 3, 0] rfl)
                              · refine lv_aload_n X.1 X.2.1 d_Ae_encrypt_126 rfl (lv_at hl 0 rfl) ?_
                                refine t_getr (ci := 1) X Y S k0 rfl i_Ae 4 (by decide) rfl (k1 := 3) (k2 := 16) rfl rfl lk_Ae_19 (fun _ h9 => h9) d_Ae_encrypt_127 (fun b49 e49 k49 => ?_)
                                refine lv_iload X.1 X.2.1 d_Ae_encrypt_130 (lv_at hl 4 rfl) ?_
                                refine lv_aload_n X.1 X.2.1 d_Ae_encrypt_132 rfl (lv_at hl 0 rfl) ?_
                                refine t_getr (ci := 1) X Y S k0 rfl i_Ae 5 (by decide) rfl (k1 := 3) (k2 := 16) rfl rfl lk_Ae_22 (fun _ h9 => h9) d_Ae_encrypt_133 (fun b50 e50 k50 => ?_)
                                refine lv_iload X.1 X.2.1 d_Ae_encrypt_136 (lv_at hl 4 rfl) ?_
                                refine t_iald3 X Y S k50 (by omega) (by omega) (by omega) d_Ae_encrypt_138 (fun z51 l51 u51 => ?_)
                                refine lv_aload_n X.1 X.2.1 d_Ae_encrypt_139 rfl (lv_at hl 0 rfl) ?_
                                refine t_getr (ci := 1) X Y S k0 rfl i_Ae 2 (by decide) rfl (k1 := 3) (k2 := 240) rfl rfl lk_Ae_16 (fun _ h9 => h9) d_Ae_encrypt_140 (fun b52 e52 k52 => ?_)
                                refine lv_bipush (v := iI 16) X.1 X.2.1 d_Ae_encrypt_143 (by decide) ?_
                                refine lv_iload_n X.1 X.2.1 d_Ae_encrypt_145 rfl (lv_at hl 3 rfl) ?_
                                refine z_imul X.1 X.2.1 d_Ae_encrypt_146 ?_
                                refine lv_iload X.1 X.2.1 d_Ae_encrypt_147 (lv_at hl 4 rfl) ?_
                                refine z_iadd X.1 X.2.1 d_Ae_encrypt_149 ?_
                                refine t_iald3 X Y S k52 (by omega) (by omega) (by omega) d_Ae_encrypt_150 (fun z53 l53 u53 => ?_)
                                refine z_ixor X.1 X.2.1 ⟨by omega, by omega⟩ ⟨by omega, by omega⟩ d_Ae_encrypt_151 (fun z54 l54 u54 => ?_)
                                refine t_iast3 X Y S k49 (by omega) (by omega) (by omega) ⟨by omega, by omega⟩ (nF_of S k49 (by decide)) d_Ae_encrypt_152 (fun f55 H locs Y S w55 => ?_)
                                refine lv_iinc (v := iI (z43 + 1)) (lv' := [(4, .int (iI (z43 + 1))), (0, .ref h), (1, .ref a1), (2, .int (iI a2)), (3, .int (iI z11))]) X.1 X.2.1 d_Ae_encrypt_153 hl (k := 4) rfl ((iI_add _ _).trans (congrArg iI (by omega))) (by decide) rfl (fun ls hl => ?_)
                                refine lv_goto (tgt := 119) X.1 X.2.1 d_Ae_encrypt_156 (by decide) ?_
                                exact ih45 ((16 - (z43 + 1)).toNat) (by omega) (z43 + 1) f55 _ _ _ rfl (by omega) (by omega) Y S (lv_sub hl [1, 2, 3, 4, 0] rfl)
                          refine lv_istore (lv' := [(4, .int (iI 0)), (0, .ref h), (1, .ref a1), (2, .int (iI a2)), (3, .int (iI z11))]) X.1 X.2.1 d_Ae_encrypt_117 hl (by decide) rfl (fun ls hl => ?_)
                          exact J44 _ 0 f37 _ _ _ rfl (by omega) (by omega) Y S (lv_sub hl [1, 2, 3, 4, 0] rfl)
                        refine z_icmp_ge (tgt := 116) X.1 X.2.1 d_Ae_encrypt_109 (by decide) ⟨by omega, by omega⟩ ⟨by omega, by omega⟩ (fun h56 => ?_) (fun h56 => ?_)
                        · exact J38 f29 _ _ _  Y S (lv_sub hl [0, 1, 2, 3] rfl)
                        · refine lv_aload_n X.1 X.2.1 d_Ae_encrypt_112 rfl (lv_at hl 0 rfl) ?_
                          refine t_nv (t_runV (As := []) (rest := []) (n := 0) X Y S k0 hml hl.1 (c_Ae_mix l D E T κ L f29 H.size h k0 S.1) (ok_k X Y hA KS KR) rfl kl_Ae_Ae_mix ks_Ae_mix kx_Ae_mix ki_Ae_mix ini_Ae ⟨rfl, rfl⟩ hd_Ae_mix ⟨Nat.le_of_ble_eq_true rfl, Nat.le_of_ble_eq_true rfl⟩ rfl (Nat.le_of_ble_eq_true rfl) d_Ae_encrypt_113 ⟨Nat.le_of_ble_eq_true rfl, Nat.le_of_ble_eq_true rfl⟩) X Y hA S (by decide) (fun f57 H locs Y S s57 p57 => ?_)
                          exact J38 f57 _ _ _  Y S (lv_sub hl [0, 1, 2, 3] rfl)
                      · refine lv_aload_n X.1 X.2.1 d_Ae_encrypt_70 rfl (lv_at hl 0 rfl) ?_
                        refine t_getr (ci := 1) X Y S k0 rfl i_Ae 5 (by decide) rfl (k1 := 3) (k2 := 16) rfl rfl lk_Ae_22 (fun _ h9 => h9) d_Ae_encrypt_71 (fun b58 e58 k58 => ?_)
                        refine lv_iload X.1 X.2.1 d_Ae_encrypt_74 (lv_at hl 4 rfl) ?_
                        refine k_gets 1 (by decide) X Y KS sk_Ae_29 d_Ae_encrypt_76 ?_
                        refine lv_aload_n X.1 X.2.1 d_Ae_encrypt_79 rfl (lv_at hl 0 rfl) ?_
                        refine t_getr (ci := 1) X Y S k0 rfl i_Ae 4 (by decide) rfl (k1 := 3) (k2 := 16) rfl rfl lk_Ae_19 (fun _ h9 => h9) d_Ae_encrypt_80 (fun b59 e59 k59 => ?_)
                        refine lv_iload X.1 X.2.1 d_Ae_encrypt_83 (lv_at hl 4 rfl) ?_
                        refine lv_iconst (v := iI 4) X.1 X.2.1 d_Ae_encrypt_85 (by decide) ?_
                        refine lv_iload X.1 X.2.1 d_Ae_encrypt_86 (lv_at hl 4 rfl) ?_
                        refine lv_iconst (v := iI 3) X.1 X.2.1 d_Ae_encrypt_88 (by decide) ?_
                        refine z_iand X.1 X.2.1 (by omega) (by omega) d_Ae_encrypt_89 (fun z60 l60 u60 => ?_)
                        refine z_imul X.1 X.2.1 d_Ae_encrypt_90 ?_
                        refine z_iadd X.1 X.2.1 d_Ae_encrypt_91 ?_
                        refine lv_bipush (v := iI 15) X.1 X.2.1 d_Ae_encrypt_92 (by decide) ?_
                        refine z_iand X.1 X.2.1 (by omega) (by omega) d_Ae_encrypt_94 (fun z61 l61 u61 => ?_)
                        refine t_iald3 X Y S k59 (by omega) (by omega) (by omega) d_Ae_encrypt_95 (fun z62 l62 u62 => ?_)
                        refine t_box X Y KS (by omega) (by omega) d_Ae_encrypt_96 (fun z63 l63 u63 => ?_)
                        refine t_iast3 X Y S k58 (by omega) (by omega) (by omega) ⟨by omega, by omega⟩ (nF_of S k58 (by decide)) d_Ae_encrypt_97 (fun f64 H locs Y S w64 => ?_)
                        refine lv_iinc (v := iI (z30 + 1)) (lv' := [(4, .int (iI (z30 + 1))), (0, .ref h), (1, .ref a1), (2, .int (iI a2)), (3, .int (iI z11))]) X.1 X.2.1 d_Ae_encrypt_98 hl (k := 4) rfl ((iI_add _ _).trans (congrArg iI (by omega))) (by decide) rfl (fun ls hl => ?_)
                        refine lv_goto (tgt := 63) X.1 X.2.1 d_Ae_encrypt_101 (by decide) ?_
                        exact ih32 ((16 - (z30 + 1)).toNat) (by omega) (z30 + 1) f64 _ _ _ rfl (by omega) (by omega) Y S (lv_sub hl [1, 2, 3, 4, 0] rfl)
                  refine lv_istore (lv' := [(4, .int (iI 0)), (0, .ref h), (1, .ref a1), (2, .int (iI a2)), (3, .int (iI z11))]) X.1 X.2.1 d_Ae_encrypt_61 hl (by decide) rfl (fun ls hl => ?_)
                  exact J31 _ 0 f10 _ _ _ rfl (by omega) (by omega) Y S (lv_sub hl [1, 2, 3, 4, 0] rfl)
            refine lv_istore_n (lv' := [(3, .int (iI 1)), (0, .ref h), (1, .ref a1), (2, .int (iI a2))]) X.1 X.2.1 d_Ae_encrypt_51 rfl hl (by decide) rfl (fun ls hl => ?_)
            exact J12 _ 1 f3 _ _ _ rfl (by omega) (by omega) Y S (lv_sub hl [1, 2, 3, 0] rfl)
          · refine lv_aload_n X.1 X.2.1 d_Ae_encrypt_22 rfl (lv_at hl 0 rfl) ?_
            refine t_getr (ci := 1) X Y S k0 rfl i_Ae 4 (by decide) rfl (k1 := 3) (k2 := 16) rfl rfl lk_Ae_19 (fun _ h9 => h9) d_Ae_encrypt_23 (fun b65 e65 k65 => ?_)
            refine lv_iload_n X.1 X.2.1 d_Ae_encrypt_26 rfl (lv_at hl 3 rfl) ?_
            refine lv_aload_n X.1 X.2.1 d_Ae_encrypt_27 rfl (lv_at hl 1 rfl) ?_
            refine lv_iload_n X.1 X.2.1 d_Ae_encrypt_28 rfl (lv_at hl 2 rfl) ?_
            refine lv_iload_n X.1 X.2.1 d_Ae_encrypt_29 rfl (lv_at hl 3 rfl) ?_
            refine z_iadd X.1 X.2.1 d_Ae_encrypt_30 ?_
            refine t_bald X Y S (Or.inl k1) (by omega) (by omega) (by omega) d_Ae_encrypt_31 (fun z66 l66 u66 => ?_)
            refine lv_sipush (v := iI 255) X.1 X.2.1 d_Ae_encrypt_32 (by decide) ?_
            refine z_iand X.1 X.2.1 (by omega) (by omega) d_Ae_encrypt_35 (fun z67 l67 u67 => ?_)
            refine lv_aload_n X.1 X.2.1 d_Ae_encrypt_36 rfl (lv_at hl 0 rfl) ?_
            refine t_getr (ci := 1) X Y S k0 rfl i_Ae 2 (by decide) rfl (k1 := 3) (k2 := 240) rfl rfl lk_Ae_16 (fun _ h9 => h9) d_Ae_encrypt_37 (fun b68 e68 k68 => ?_)
            refine lv_iload_n X.1 X.2.1 d_Ae_encrypt_40 rfl (lv_at hl 3 rfl) ?_
            refine t_iald3 X Y S k68 (by omega) (by omega) (by omega) d_Ae_encrypt_41 (fun z69 l69 u69 => ?_)
            refine z_ixor X.1 X.2.1 ⟨by omega, by omega⟩ ⟨by omega, by omega⟩ d_Ae_encrypt_42 (fun z70 l70 u70 => ?_)
            refine t_iast3 X Y S k65 (by omega) (by omega) (by omega) ⟨by omega, by omega⟩ (nF_of S k65 (by decide)) d_Ae_encrypt_43 (fun f71 H locs Y S w71 => ?_)
            refine lv_iinc (v := iI (z4 + 1)) (lv' := [(3, .int (iI (z4 + 1))), (0, .ref h), (1, .ref a1), (2, .int (iI a2))]) X.1 X.2.1 d_Ae_encrypt_44 hl (k := 3) rfl ((iI_add _ _).trans (congrArg iI (by omega))) (by decide) rfl (fun ls hl => ?_)
            refine lv_goto (tgt := 16) X.1 X.2.1 d_Ae_encrypt_47 (by decide) ?_
            exact ih6 ((16 - (z4 + 1)).toNat) (by omega) (z4 + 1) f71 _ _ _ rfl (by omega) (by omega) Y S (lv_sub hl [1, 2, 3, 0] rfl)
      refine lv_istore_n (lv' := [(3, .int (iI 0)), (0, .ref h), (1, .ref a1), (2, .int (iI a2))]) X.1 X.2.1 d_Ae_encrypt_15 rfl hl (by decide) rfl (fun ls hl => ?_)
      exact J5 _ 0 f _ _ _ rfl (by omega) (by omega) Y S (lv_sub hl [1, 2, 3, 0] rfl)
    · exact c_retv hQQ X Y hr hlk ⟨rfl, S, trivial⟩ d_Ae_encrypt_13
set_option maxHeartbeats 4000000 in
set_option maxRecDepth 100000 in
theorem c_Ae_decrypt (l : Launch) (D : va_G) (E : cE) (T : cT) (κ : tK) (L : List Nat) (f : pF) (sz : Nat) (h : Nat) (k0 : κ h = (11, 0)) (a1 n1 : Nat) (k1 : κ a1 = (1, n1)) (x1 : n1 ≤ 12288) (a2 : Int) (l_a2 : (-20300) ≤ a2) (u_a2 : a2 ≤ 20300) (hw : tW E T κ L f) : Met l y_Ae_decrypt (k_Ae_decrypt :: lw_tg) (kRm 2 86 0 0) (va_Pc [.ref h, .ref a1, .int (iI a2)] (kPre D E T L f sz)) (va_Qv (nPv E T [1, 2, 3, 4] κ L f (fun (g : pF) => True)) (cPost D E (pA L sz)) (pA L sz)) 0 0 (pA L sz) := by
  refine k_enter (own := R_Ae) (by decide) rfl (Nat.le_of_ble_eq_true rfl) (fun p e s m below meth c ls AV QQ H locs hQQ X Y hA hin hr hlk hml hl KS KR => ?_)
  have hl : lv_has ls 5 [(0, .ref h), (1, .ref a1), (2, .int (iI a2))] := hl
  have S : tS E T (tFr κ L [1, 2, 3, 4] []) κ L f κ L f := tS_rf hw
  refine lv_iload_n X.1 X.2.1 d_Ae_decrypt_0 rfl (lv_at hl 2 rfl) ?_
  refine z_if_lt (tgt := 13) X.1 X.2.1 d_Ae_decrypt_1 (by decide) ⟨by omega, by omega⟩ (fun h1 => ?_) (fun h1 => ?_)
  · exact c_retv hQQ X Y hr hlk ⟨rfl, S, trivial⟩ d_Ae_decrypt_13
  · refine lv_iload_n X.1 X.2.1 d_Ae_decrypt_4 rfl (lv_at hl 2 rfl) ?_
    refine lv_aload_n X.1 X.2.1 d_Ae_decrypt_5 rfl (lv_at hl 1 rfl) ?_
    refine t_alen X Y S KS (Or.inl k1) (by omega) d_Ae_decrypt_6 ?_
    refine lv_bipush (v := iI 16) X.1 X.2.1 d_Ae_decrypt_7 (by decide) ?_
    refine z_isub X.1 X.2.1 d_Ae_decrypt_9 ?_
    refine z_icmp_le (tgt := 14) X.1 X.2.1 d_Ae_decrypt_10 (by decide) ⟨by omega, by omega⟩ ⟨by omega, by omega⟩ (fun h2 => ?_) (fun h2 => ?_)
    · refine lv_iconst (v := iI 0) X.1 X.2.1 d_Ae_decrypt_14 (by decide) ?_
      have J5 : ∀ (n7 : Nat) (z4 : Int) (f3 : pF) (H : Heap) (locs : List Loc) (ls : Array Slot), (16 - z4).toNat = n7 → (0 ≤ z4) → (z4 ≤ 16) → pH D cCl (pA L sz) s.heap L f3 H locs → tS E T (tFr κ L [1, 2, 3, 4] []) κ L f κ L f3 → lv_has ls 5 [(0, .ref h), (1, .ref a1), (2, .int (iI a2)), (3, .int (iI z4))] → W p l e (kRm 2 86 0 0) s m AV below meth c H locs 0 0 QQ (F0 m 16 ls []) := by
        intro n7
        induction n7 using Nat.strongRecOn with
        | ind n7 ih6 =>
          intro z4 f3 H locs ls hm8 l4 u4 Y S hl
          refine lv_iload_n X.1 X.2.1 d_Ae_decrypt_16 rfl (lv_at hl 3 rfl) ?_
          refine lv_bipush (v := iI 16) X.1 X.2.1 d_Ae_decrypt_17 (by decide) ?_
          refine z_icmp_ge (tgt := 58) X.1 X.2.1 d_Ae_decrypt_19 (by decide) ⟨by omega, by omega⟩ ⟨by omega, by omega⟩ (fun h9 => ?_) (fun h9 => ?_)
          · refine lv_aload_n X.1 X.2.1 d_Ae_decrypt_58 rfl (lv_at hl 0 rfl) ?_
            refine t_geti (ci := 1) X Y S k0 rfl i_Ae 3 (by decide) rfl lk_Ae_32 (fun _ h9 => h9) d_Ae_decrypt_59 (fun z10 e10 l10 u10 => ?_)
            refine lv_iconst (v := iI 1) X.1 X.2.1 d_Ae_decrypt_62 (by decide) ?_
            refine z_isub X.1 X.2.1 d_Ae_decrypt_63 ?_
            have J13 : ∀ (n15 : Nat) (z12 : Int) (f11 : pF) (H : Heap) (locs : List Loc) (ls : Array Slot), (z12 - (-1)).toNat = n15 → ((-1) ≤ z12) → (z12 ≤ 13) → pH D cCl (pA L sz) s.heap L f11 H locs → tS E T (tFr κ L [1, 2, 3, 4] []) κ L f κ L f11 → lv_has ls 5 [(0, .ref h), (1, .ref a1), (2, .int (iI a2)), (3, .int (iI z12))] → W p l e (kRm 2 86 0 0) s m AV below meth c H locs 0 0 QQ (F0 m 65 ls []) := by
              intro n15
              induction n15 using Nat.strongRecOn with
              | ind n15 ih14 =>
                intro z12 f11 H locs ls hm16 l12 u12 Y S hl
                refine lv_iload_n X.1 X.2.1 d_Ae_decrypt_65 rfl (lv_at hl 3 rfl) ?_
                refine z_if_lt (tgt := 160) X.1 X.2.1 d_Ae_decrypt_66 (by decide) ⟨by omega, by omega⟩ (fun h17 => ?_) (fun h17 => ?_)
                · refine lv_iconst (v := iI 0) X.1 X.2.1 d_Ae_decrypt_160 (by decide) ?_
                  have J20 : ∀ (n22 : Nat) (z19 : Int) (f18 : pF) (H : Heap) (locs : List Loc) (ls : Array Slot), (16 - z19).toNat = n22 → (0 ≤ z19) → (z19 ≤ 16) → pH D cCl (pA L sz) s.heap L f18 H locs → tS E T (tFr κ L [1, 2, 3, 4] []) κ L f κ L f18 → lv_has ls 5 [(0, .ref h), (1, .ref a1), (2, .int (iI a2)), (3, .int (iI z19))] → W p l e (kRm 2 86 0 0) s m AV below meth c H locs 0 0 QQ (F0 m 162 ls []) := by
                    intro n22
                    induction n22 using Nat.strongRecOn with
                    | ind n22 ih21 =>
                      intro z19 f18 H locs ls hm23 l19 u19 Y S hl
                      refine lv_iload_n X.1 X.2.1 d_Ae_decrypt_162 rfl (lv_at hl 3 rfl) ?_
                      refine lv_bipush (v := iI 16) X.1 X.2.1 d_Ae_decrypt_163 (by decide) ?_
                      refine z_icmp_ge (tgt := 186) X.1 X.2.1 d_Ae_decrypt_165 (by decide) ⟨by omega, by omega⟩ ⟨by omega, by omega⟩ (fun h24 => ?_) (fun h24 => ?_)
                      · exact c_retv hQQ X Y hr hlk ⟨rfl, S, trivial⟩ d_Ae_decrypt_186
                      · refine lv_aload_n X.1 X.2.1 d_Ae_decrypt_168 rfl (lv_at hl 1 rfl) ?_
                        refine lv_iload_n X.1 X.2.1 d_Ae_decrypt_169 rfl (lv_at hl 2 rfl) ?_
                        refine lv_iload_n X.1 X.2.1 d_Ae_decrypt_170 rfl (lv_at hl 3 rfl) ?_
                        refine z_iadd X.1 X.2.1 d_Ae_decrypt_171 ?_
                        refine lv_aload_n X.1 X.2.1 d_Ae_decrypt_172 rfl (lv_at hl 0 rfl) ?_
                        refine t_getr (ci := 1) X Y S k0 rfl i_Ae 4 (by decide) rfl (k1 := 3) (k2 := 16) rfl rfl lk_Ae_19 (fun _ h9 => h9) d_Ae_decrypt_173 (fun b25 e25 k25 => ?_)
                        refine lv_iload_n X.1 X.2.1 d_Ae_decrypt_176 rfl (lv_at hl 3 rfl) ?_
                        refine t_iald3 X Y S k25 (by omega) (by omega) (by omega) d_Ae_decrypt_177 (fun z26 l26 u26 => ?_)
                        refine lv_i2b X.1 X.2.1 d_Ae_decrypt_178 rfl ?_
                        refine t_u (fun z27 l27 u27 => ?_)
                        refine t_bast X Y S k1 (by omega) (by omega) (by omega) (nF_of S k1 (by decide)) d_Ae_decrypt_179 (fun f28 H locs Y S w28 => ?_)
                        refine lv_iinc (v := iI (z19 + 1)) (lv' := [(3, .int (iI (z19 + 1))), (0, .ref h), (1, .ref a1), (2, .int (iI a2))]) X.1 X.2.1 d_Ae_decrypt_180 hl (k := 3) rfl ((iI_add _ _).trans (congrArg iI (by omega))) (by decide) rfl (fun ls hl => ?_)
                        refine lv_goto (tgt := 162) X.1 X.2.1 d_Ae_decrypt_183 (by decide) ?_
                        exact ih21 ((16 - (z19 + 1)).toNat) (by omega) (z19 + 1) f28 _ _ _ rfl (by omega) (by omega) Y S (lv_sub hl [1, 2, 3, 0] rfl)
                  refine lv_istore_n (lv' := [(3, .int (iI 0)), (0, .ref h), (1, .ref a1), (2, .int (iI a2))]) X.1 X.2.1 d_Ae_decrypt_161 rfl hl (by decide) rfl (fun ls hl => ?_)
                  exact J20 _ 0 f11 _ _ _ rfl (by omega) (by omega) Y S (lv_sub hl [1, 2, 3, 0] rfl)
                · refine lv_iconst (v := iI 0) X.1 X.2.1 d_Ae_decrypt_69 (by decide) ?_
                  have J31 : ∀ (n33 : Nat) (z30 : Int) (f29 : pF) (H : Heap) (locs : List Loc) (ls : Array Slot), (16 - z30).toNat = n33 → (0 ≤ z30) → (z30 ≤ 16) → pH D cCl (pA L sz) s.heap L f29 H locs → tS E T (tFr κ L [1, 2, 3, 4] []) κ L f κ L f29 → lv_has ls 5 [(0, .ref h), (1, .ref a1), (2, .int (iI a2)), (3, .int (iI z12)), (4, .int (iI z30))] → W p l e (kRm 2 86 0 0) s m AV below meth c H locs 0 0 QQ (F0 m 72 ls []) := by
                    intro n33
                    induction n33 using Nat.strongRecOn with
                    | ind n33 ih32 =>
                      intro z30 f29 H locs ls hm34 l30 u30 Y S hl
                      refine lv_iload X.1 X.2.1 d_Ae_decrypt_72 (lv_at hl 4 rfl) ?_
                      refine lv_bipush (v := iI 16) X.1 X.2.1 d_Ae_decrypt_74 (by decide) ?_
                      refine z_icmp_ge (tgt := 127) X.1 X.2.1 d_Ae_decrypt_76 (by decide) ⟨by omega, by omega⟩ ⟨by omega, by omega⟩ (fun h35 => ?_) (fun h35 => ?_)
                      · refine lv_iload_n X.1 X.2.1 d_Ae_decrypt_127 rfl (lv_at hl 3 rfl) ?_
                        have J37 : ∀ (f36 : pF) (H : Heap) (locs : List Loc) (ls : Array Slot), pH D cCl (pA L sz) s.heap L f36 H locs → tS E T (tFr κ L [1, 2, 3, 4] []) κ L f κ L f36 → lv_has ls 5 [(0, .ref h), (1, .ref a1), (2, .int (iI a2)), (3, .int (iI z12))] → W p l e (kRm 2 86 0 0) s m AV below meth c H locs 0 0 QQ (F0 m 139 ls []) := by
                          intro f36 H locs ls  Y S hl
                          refine lv_aload_n X.1 X.2.1 d_Ae_decrypt_139 rfl (lv_at hl 0 rfl) ?_
                          refine t_getr (ci := 1) X Y S k0 rfl i_Ae 5 (by decide) rfl (k1 := 3) (k2 := 16) rfl rfl lk_Ae_22 (fun _ h9 => h9) d_Ae_decrypt_140 (fun b41 e41 k41 => ?_)
                          refine lv_iconst (v := iI 0) X.1 X.2.1 d_Ae_decrypt_143 (by decide) ?_
                          refine lv_aload_n X.1 X.2.1 d_Ae_decrypt_144 rfl (lv_at hl 0 rfl) ?_
                          refine t_getr (ci := 1) X Y S k0 rfl i_Ae 4 (by decide) rfl (k1 := 3) (k2 := 16) rfl rfl lk_Ae_19 (fun _ h9 => h9) d_Ae_decrypt_145 (fun b42 e42 k42 => ?_)
                          refine lv_iconst (v := iI 0) X.1 X.2.1 d_Ae_decrypt_148 (by decide) ?_
                          refine lv_bipush (v := iI 16) X.1 X.2.1 d_Ae_decrypt_149 (by decide) ?_
                          refine t_copyI (Or.inr rfl) X Y S (hml.trans hl.1.symm) kl_Ae_copy k41 k42 (by omega) (by omega) (by omega) (by omega) (by omega) (by omega) (by omega) (nF_of S k42 (by decide)) (Nat.le_of_ble_eq_true rfl) (Nat.le_of_ble_eq_true rfl) d_Ae_decrypt_151 (fun f43 H locs Y S w43 => ?_)
                          refine lv_iinc (v := iI (z12 - 1)) (lv' := [(3, .int (iI (z12 - 1))), (0, .ref h), (1, .ref a1), (2, .int (iI a2))]) X.1 X.2.1 d_Ae_decrypt_154 hl (k := 3) rfl ((iI_add _ _).trans (congrArg iI (by omega))) (by decide) rfl (fun ls hl => ?_)
                          refine lv_goto (tgt := 65) X.1 X.2.1 d_Ae_decrypt_157 (by decide) ?_
                          exact ih14 (((z12 - 1) - (-1)).toNat) (by omega) (z12 - 1) f43 _ _ _ rfl (by omega) (by omega) Y S (lv_sub hl [1, 2, 3, 0] rfl)
                        refine z_if_le (tgt := 139) X.1 X.2.1 d_Ae_decrypt_128 (by decide) ⟨by omega, by omega⟩ (fun h44 => ?_) (fun h44 => ?_)
                        · exact J37 f29 _ _ _  Y S (lv_sub hl [0, 1, 2, 3] rfl)
                        · refine lv_aload_n X.1 X.2.1 d_Ae_decrypt_131 rfl (lv_at hl 0 rfl) ?_
                          refine t_nv (t_runV (As := []) (rest := []) (n := 0) X Y S k0 hml hl.1 (c_Ae_prepare l D E T κ L f29 H.size h k0 S.1) (ok_k X Y hA KS KR) rfl kl_Ae_Ae_prepare ks_Ae_prepare kx_Ae_prepare ki_Ae_prepare ini_Ae ⟨rfl, rfl⟩ hd_Ae_prepare ⟨Nat.le_of_ble_eq_true rfl, Nat.le_of_ble_eq_true rfl⟩ rfl (Nat.le_of_ble_eq_true rfl) d_Ae_decrypt_132 ⟨Nat.le_of_ble_eq_true rfl, Nat.le_of_ble_eq_true rfl⟩) X Y hA S (by decide) (fun f45 H locs Y S s45 p45 => ?_)
                          refine lv_aload_n X.1 X.2.1 d_Ae_decrypt_135 rfl (lv_at hl 0 rfl) ?_
                          refine t_nv (t_runV (As := []) (rest := []) (n := 0) X Y S k0 hml hl.1 (c_Ae_mix l D E T κ L f45 H.size h k0 S.1) (ok_k X Y hA KS KR) rfl kl_Ae_Ae_mix ks_Ae_mix kx_Ae_mix ki_Ae_mix ini_Ae ⟨rfl, rfl⟩ hd_Ae_mix ⟨Nat.le_of_ble_eq_true rfl, Nat.le_of_ble_eq_true rfl⟩ rfl (Nat.le_of_ble_eq_true rfl) d_Ae_decrypt_136 ⟨Nat.le_of_ble_eq_true rfl, Nat.le_of_ble_eq_true rfl⟩) X Y hA S (by decide) (fun f46 H locs Y S s46 p46 => ?_)
                          exact J37 f46 _ _ _  Y S (lv_sub hl [0, 1, 2, 3] rfl)
                      · refine lv_aload_n X.1 X.2.1 d_Ae_decrypt_79 rfl (lv_at hl 0 rfl) ?_
                        refine t_getr (ci := 1) X Y S k0 rfl i_Ae 5 (by decide) rfl (k1 := 3) (k2 := 16) rfl rfl lk_Ae_22 (fun _ h9 => h9) d_Ae_decrypt_80 (fun b47 e47 k47 => ?_)
                        refine lv_iload X.1 X.2.1 d_Ae_decrypt_83 (lv_at hl 4 rfl) ?_
                        refine lv_aload_n X.1 X.2.1 d_Ae_decrypt_85 rfl (lv_at hl 0 rfl) ?_
                        refine t_getr (ci := 1) X Y S k0 rfl i_Ae 0 (by decide) rfl (k1 := 3) (k2 := 256) rfl rfl lk_Ae_7 (fun _ h9 => h9) d_Ae_decrypt_86 (fun b48 e48 k48 => ?_)
                        refine lv_aload_n X.1 X.2.1 d_Ae_decrypt_89 rfl (lv_at hl 0 rfl) ?_
                        refine t_getr (ci := 1) X Y S k0 rfl i_Ae 4 (by decide) rfl (k1 := 3) (k2 := 16) rfl rfl lk_Ae_19 (fun _ h9 => h9) d_Ae_decrypt_90 (fun b49 e49 k49 => ?_)
                        refine lv_iload X.1 X.2.1 d_Ae_decrypt_93 (lv_at hl 4 rfl) ?_
                        refine lv_iconst (v := iI 4) X.1 X.2.1 d_Ae_decrypt_95 (by decide) ?_
                        refine lv_iload X.1 X.2.1 d_Ae_decrypt_96 (lv_at hl 4 rfl) ?_
                        refine lv_iconst (v := iI 3) X.1 X.2.1 d_Ae_decrypt_98 (by decide) ?_
                        refine z_iand X.1 X.2.1 (by omega) (by omega) d_Ae_decrypt_99 (fun z50 l50 u50 => ?_)
                        refine z_imul X.1 X.2.1 d_Ae_decrypt_100 ?_
                        refine z_isub X.1 X.2.1 d_Ae_decrypt_101 ?_
                        refine lv_bipush (v := iI 15) X.1 X.2.1 d_Ae_decrypt_102 (by decide) ?_
                        refine z_iand X.1 X.2.1 (by omega) (by omega) d_Ae_decrypt_104 (fun z51 l51 u51 => ?_)
                        refine t_iald3 X Y S k49 (by omega) (by omega) (by omega) d_Ae_decrypt_105 (fun z52 l52 u52 => ?_)
                        refine t_iald3 X Y S k48 (by omega) (by omega) (by omega) d_Ae_decrypt_106 (fun z53 l53 u53 => ?_)
                        refine lv_aload_n X.1 X.2.1 d_Ae_decrypt_107 rfl (lv_at hl 0 rfl) ?_
                        refine t_getr (ci := 1) X Y S k0 rfl i_Ae 2 (by decide) rfl (k1 := 3) (k2 := 240) rfl rfl lk_Ae_16 (fun _ h9 => h9) d_Ae_decrypt_108 (fun b54 e54 k54 => ?_)
                        refine lv_bipush (v := iI 16) X.1 X.2.1 d_Ae_decrypt_111 (by decide) ?_
                        refine lv_iload_n X.1 X.2.1 d_Ae_decrypt_113 rfl (lv_at hl 3 rfl) ?_
                        refine z_imul X.1 X.2.1 d_Ae_decrypt_114 ?_
                        refine lv_iload X.1 X.2.1 d_Ae_decrypt_115 (lv_at hl 4 rfl) ?_
                        refine z_iadd X.1 X.2.1 d_Ae_decrypt_117 ?_
                        refine t_iald3 X Y S k54 (by omega) (by omega) (by omega) d_Ae_decrypt_118 (fun z55 l55 u55 => ?_)
                        refine z_ixor X.1 X.2.1 ⟨by omega, by omega⟩ ⟨by omega, by omega⟩ d_Ae_decrypt_119 (fun z56 l56 u56 => ?_)
                        refine t_iast3 X Y S k47 (by omega) (by omega) (by omega) ⟨by omega, by omega⟩ (nF_of S k47 (by decide)) d_Ae_decrypt_120 (fun f57 H locs Y S w57 => ?_)
                        refine lv_iinc (v := iI (z30 + 1)) (lv' := [(4, .int (iI (z30 + 1))), (0, .ref h), (1, .ref a1), (2, .int (iI a2)), (3, .int (iI z12))]) X.1 X.2.1 d_Ae_decrypt_121 hl (k := 4) rfl ((iI_add _ _).trans (congrArg iI (by omega))) (by decide) rfl (fun ls hl => ?_)
                        refine lv_goto (tgt := 72) X.1 X.2.1 d_Ae_decrypt_124 (by decide) ?_
                        exact ih32 ((16 - (z30 + 1)).toNat) (by omega) (z30 + 1) f57 _ _ _ rfl (by omega) (by omega) Y S (lv_sub hl [1, 2, 3, 4, 0] rfl)
                  refine lv_istore (lv' := [(4, .int (iI 0)), (0, .ref h), (1, .ref a1), (2, .int (iI a2)), (3, .int (iI z12))]) X.1 X.2.1 d_Ae_decrypt_70 hl (by decide) rfl (fun ls hl => ?_)
                  exact J31 _ 0 f11 _ _ _ rfl (by omega) (by omega) Y S (lv_sub hl [1, 2, 3, 4, 0] rfl)
            refine lv_istore_n (lv' := [(3, .int (iI (z10 - 1))), (0, .ref h), (1, .ref a1), (2, .int (iI a2))]) X.1 X.2.1 d_Ae_decrypt_64 rfl hl (by decide) rfl (fun ls hl => ?_)
            exact J13 _ (z10 - 1) f3 _ _ _ rfl (by omega) (by omega) Y S (lv_sub hl [1, 2, 3, 0] rfl)
          · refine lv_aload_n X.1 X.2.1 d_Ae_decrypt_22 rfl (lv_at hl 0 rfl) ?_
            refine t_getr (ci := 1) X Y S k0 rfl i_Ae 4 (by decide) rfl (k1 := 3) (k2 := 16) rfl rfl lk_Ae_19 (fun _ h9 => h9) d_Ae_decrypt_23 (fun b58 e58 k58 => ?_)
            refine lv_iload_n X.1 X.2.1 d_Ae_decrypt_26 rfl (lv_at hl 3 rfl) ?_
            refine lv_aload_n X.1 X.2.1 d_Ae_decrypt_27 rfl (lv_at hl 1 rfl) ?_
            refine lv_iload_n X.1 X.2.1 d_Ae_decrypt_28 rfl (lv_at hl 2 rfl) ?_
            refine lv_iload_n X.1 X.2.1 d_Ae_decrypt_29 rfl (lv_at hl 3 rfl) ?_
            refine z_iadd X.1 X.2.1 d_Ae_decrypt_30 ?_
            refine t_bald X Y S (Or.inl k1) (by omega) (by omega) (by omega) d_Ae_decrypt_31 (fun z59 l59 u59 => ?_)
            refine lv_sipush (v := iI 255) X.1 X.2.1 d_Ae_decrypt_32 (by decide) ?_
            refine z_iand X.1 X.2.1 (by omega) (by omega) d_Ae_decrypt_35 (fun z60 l60 u60 => ?_)
            refine lv_aload_n X.1 X.2.1 d_Ae_decrypt_36 rfl (lv_at hl 0 rfl) ?_
            refine t_getr (ci := 1) X Y S k0 rfl i_Ae 2 (by decide) rfl (k1 := 3) (k2 := 240) rfl rfl lk_Ae_16 (fun _ h9 => h9) d_Ae_decrypt_37 (fun b61 e61 k61 => ?_)
            refine lv_bipush (v := iI 16) X.1 X.2.1 d_Ae_decrypt_40 (by decide) ?_
            refine lv_aload_n X.1 X.2.1 d_Ae_decrypt_42 rfl (lv_at hl 0 rfl) ?_
            refine t_geti (ci := 1) X Y S k0 rfl i_Ae 3 (by decide) rfl lk_Ae_32 (fun _ h9 => h9) d_Ae_decrypt_43 (fun z62 e62 l62 u62 => ?_)
            refine z_imul X.1 X.2.1 d_Ae_decrypt_46 ?_
            refine lv_iload_n X.1 X.2.1 d_Ae_decrypt_47 rfl (lv_at hl 3 rfl) ?_
            refine z_iadd X.1 X.2.1 d_Ae_decrypt_48 ?_
            refine t_iald3 X Y S k61 (by omega) (by omega) (by omega) d_Ae_decrypt_49 (fun z63 l63 u63 => ?_)
            refine z_ixor X.1 X.2.1 ⟨by omega, by omega⟩ ⟨by omega, by omega⟩ d_Ae_decrypt_50 (fun z64 l64 u64 => ?_)
            refine t_iast3 X Y S k58 (by omega) (by omega) (by omega) ⟨by omega, by omega⟩ (nF_of S k58 (by decide)) d_Ae_decrypt_51 (fun f65 H locs Y S w65 => ?_)
            refine lv_iinc (v := iI (z4 + 1)) (lv' := [(3, .int (iI (z4 + 1))), (0, .ref h), (1, .ref a1), (2, .int (iI a2))]) X.1 X.2.1 d_Ae_decrypt_52 hl (k := 3) rfl ((iI_add _ _).trans (congrArg iI (by omega))) (by decide) rfl (fun ls hl => ?_)
            refine lv_goto (tgt := 16) X.1 X.2.1 d_Ae_decrypt_55 (by decide) ?_
            exact ih6 ((16 - (z4 + 1)).toNat) (by omega) (z4 + 1) f65 _ _ _ rfl (by omega) (by omega) Y S (lv_sub hl [1, 2, 3, 0] rfl)
      refine lv_istore_n (lv' := [(3, .int (iI 0)), (0, .ref h), (1, .ref a1), (2, .int (iI a2))]) X.1 X.2.1 d_Ae_decrypt_15 rfl hl (by decide) rfl (fun ls hl => ?_)
      exact J5 _ 0 f _ _ _ rfl (by omega) (by omega) Y S (lv_sub hl [1, 2, 3, 0] rfl)
    · exact c_retv hQQ X Y hr hlk ⟨rfl, S, trivial⟩ d_Ae_decrypt_13
set_option maxHeartbeats 4000000 in
set_option maxRecDepth 100000 in
theorem c_Ae_mask (l : Launch) (D : va_G) (E : cE) (T : cT) (κ : tK) (L : List Nat) (f : pF) (sz : Nat) (a1 n1 : Nat) (k1 : κ a1 = (1, n1)) (x1 : n1 ≤ 12288) (a2 : Int) (l_a2 : 16 ≤ a2) (u_a2 : a2 ≤ 20200) (a3 : Int) (l_a3 : 0 ≤ a3) (u_a3 : a3 ≤ 16) (hw : tW E T κ L f) (q0 : a2 + a3 ≤ (n1 : Int)) : Met l y_Ae_mask (k_Ae_mask :: lw_tg) (kRm 1 60 0 0) (va_Pc [.ref a1, .int (iI a2), .int (iI a3)] (kPre D E T L f sz)) (va_Qv (nPv E T [1] κ L f (fun (g : pF) => True)) (cPost D E (pA L sz)) (pA L sz)) 0 0 (pA L sz) := by
  refine k_enter (own := R_Ae) (by decide) rfl (Nat.le_of_ble_eq_true rfl) (fun p e s m below meth c ls AV QQ H locs hQQ X Y hA hin hr hlk hml hl KS KR => ?_)
  have hl : lv_has ls 4 [(0, .ref a1), (1, .int (iI a2)), (2, .int (iI a3))] := hl
  have S : tS E T (tFr κ L [1] []) κ L f κ L f := tS_rf hw
  refine lv_iload_n X.1 X.2.1 d_Ae_mask_0 rfl (lv_at hl 1 rfl) ?_
  have J3 : ∀ (n5 : Nat) (z2 : Int) (f1 : pF) (H : Heap) (locs : List Loc) (ls : Array Slot), (20216 - z2).toNat = n5 → (16 ≤ z2) → (z2 ≤ 20216) → pH D cCl (pA L sz) s.heap L f1 H locs → tS E T (tFr κ L [1] []) κ L f κ L f1 → lv_has ls 4 [(0, .ref a1), (1, .int (iI a2)), (2, .int (iI a3)), (3, .int (iI z2))] → W p l e (kRm 1 60 0 0) s m AV below meth c H locs 0 0 QQ (F0 m 2 ls []) := by
    intro n5
    induction n5 using Nat.strongRecOn with
    | ind n5 ih4 =>
      intro z2 f1 H locs ls hm6 l2 u2 Y S hl
      refine lv_iload_n X.1 X.2.1 d_Ae_mask_2 rfl (lv_at hl 3 rfl) ?_
      refine lv_iload_n X.1 X.2.1 d_Ae_mask_3 rfl (lv_at hl 1 rfl) ?_
      refine lv_iload_n X.1 X.2.1 d_Ae_mask_4 rfl (lv_at hl 2 rfl) ?_
      refine z_iadd X.1 X.2.1 d_Ae_mask_5 ?_
      refine z_icmp_ge (tgt := 28) X.1 X.2.1 d_Ae_mask_6 (by decide) ⟨by omega, by omega⟩ ⟨by omega, by omega⟩ (fun h7 => ?_) (fun h7 => ?_)
      · exact c_retv hQQ X Y hr hlk ⟨rfl, S, trivial⟩ d_Ae_mask_28
      · refine lv_aload_n X.1 X.2.1 d_Ae_mask_9 rfl (lv_at hl 0 rfl) ?_
        refine lv_iload_n X.1 X.2.1 d_Ae_mask_10 rfl (lv_at hl 3 rfl) ?_
        refine lv_dup2_11 X.1 X.2.1 d_Ae_mask_11 rfl rfl ?_
        refine t_bald X Y S (Or.inl k1) (by omega) (by omega) (by omega) d_Ae_mask_12 (fun z8 l8 u8 => ?_)
        refine lv_aload_n X.1 X.2.1 d_Ae_mask_13 rfl (lv_at hl 0 rfl) ?_
        refine lv_iload_n X.1 X.2.1 d_Ae_mask_14 rfl (lv_at hl 3 rfl) ?_
        refine lv_bipush (v := iI 16) X.1 X.2.1 d_Ae_mask_15 (by decide) ?_
        refine z_isub X.1 X.2.1 d_Ae_mask_17 ?_
        refine t_bald X Y S (Or.inl k1) (by omega) (by omega) (by omega) d_Ae_mask_18 (fun z9 l9 u9 => ?_)
        refine lv_ixor X.1 X.2.1 d_Ae_mask_19 ?_
        refine t_u (fun z10 l10 u10 => ?_)
        refine lv_i2b X.1 X.2.1 d_Ae_mask_20 rfl ?_
        refine t_u (fun z11 l11 u11 => ?_)
        refine t_bast X Y S k1 (by omega) (by omega) (by omega) (nF_of S k1 (by decide)) d_Ae_mask_21 (fun f12 H locs Y S w12 => ?_)
        refine lv_iinc (v := iI (z2 + 1)) (lv' := [(3, .int (iI (z2 + 1))), (0, .ref a1), (1, .int (iI a2)), (2, .int (iI a3))]) X.1 X.2.1 d_Ae_mask_22 hl (k := 3) rfl ((iI_add _ _).trans (congrArg iI (by omega))) (by decide) rfl (fun ls hl => ?_)
        refine lv_goto (tgt := 2) X.1 X.2.1 d_Ae_mask_25 (by decide) ?_
        exact ih4 ((20216 - (z2 + 1)).toNat) (by omega) (z2 + 1) f12 _ _ _ rfl (by omega) (by omega) Y S (lv_sub hl [1, 2, 3, 0] rfl)
  refine lv_istore_n (lv' := [(3, .int (iI a2)), (0, .ref a1), (1, .int (iI a2)), (2, .int (iI a3))]) X.1 X.2.1 d_Ae_mask_1 rfl hl (by decide) rfl (fun ls hl => ?_)
  exact J3 _ a2 f _ _ _ rfl (by omega) (by omega) Y S (lv_sub hl [1, 2, 3, 0] rfl)
set_option maxHeartbeats 4000000 in
set_option maxRecDepth 100000 in
theorem c_Ae_lock (l : Launch) (D : va_G) (E : cE) (T : cT) (κ : tK) (L : List Nat) (f : pF) (sz : Nat) (h : Nat) (k0 : κ h = (11, 0)) (a1 n1 : Nat) (k1 : κ a1 = (1, n1)) (x1 : n1 ≤ 12288) (a2 : Int) (l_a2 : (-1) ≤ a2) (u_a2 : a2 ≤ 20200) (a3 : Int) (l_a3 : (-20200) ≤ a3) (u_a3 : a3 ≤ 20200) (hw : tW E T κ L f) : Met l y_Ae_lock (k_Ae_lock :: lw_tg) (kRm 3 110 0 0) (va_Pc [.ref h, .ref a1, .int (iI a2), .int (iI a3)] (kPre D E T L f sz)) (va_Qv (nPv E T [1, 2, 3, 4] κ L f (fun (g : pF) => True)) (cPost D E (pA L sz)) (pA L sz)) 0 0 (pA L sz) := by
  refine k_enter (own := R_Ae) (by decide) rfl (Nat.le_of_ble_eq_true rfl) (fun p e s m below meth c ls AV QQ H locs hQQ X Y hA hin hr hlk hml hl KS KR => ?_)
  have hl : lv_has ls 6 [(0, .ref h), (1, .ref a1), (2, .int (iI a2)), (3, .int (iI a3))] := hl
  have S : tS E T (tFr κ L [1, 2, 3, 4] []) κ L f κ L f := tS_rf hw
  refine lv_iload_n X.1 X.2.1 d_Ae_lock_0 rfl (lv_at hl 3 rfl) ?_
  refine lv_bipush (v := iI 15) X.1 X.2.1 d_Ae_lock_1 (by decide) ?_
  refine z_iadd X.1 X.2.1 d_Ae_lock_3 ?_
  refine lv_bipush (v := iI 16) X.1 X.2.1 d_Ae_lock_4 (by decide) ?_
  refine z_idivg X.1 X.2.1 ⟨by omega, by omega⟩ ⟨by decide, by decide⟩ d_Ae_lock_6 (fun z1 l1 u1 x1 y1 => ?_)
  refine lv_istore (lv' := [(4, .int (iI z1)), (0, .ref h), (1, .ref a1), (2, .int (iI a2)), (3, .int (iI a3))]) X.1 X.2.1 d_Ae_lock_7 hl (by decide) rfl (fun ls hl => ?_)
  refine lv_iload_n X.1 X.2.1 d_Ae_lock_9 rfl (lv_at hl 3 rfl) ?_
  refine z_if_lt (tgt := 31) X.1 X.2.1 d_Ae_lock_10 (by decide) ⟨by omega, by omega⟩ (fun h2 => ?_) (fun h2 => ?_)
  · exact c_retv hQQ X Y hr hlk ⟨rfl, S, trivial⟩ d_Ae_lock_31
  · refine lv_iload_n X.1 X.2.1 d_Ae_lock_13 rfl (lv_at hl 4 rfl) ?_
    refine lv_bipush (v := iI 16) X.1 X.2.1 d_Ae_lock_14 (by decide) ?_
    refine z_icmp_lt (tgt := 31) X.1 X.2.1 d_Ae_lock_16 (by decide) ⟨by omega, by omega⟩ ⟨by omega, by omega⟩ (fun h3 => ?_) (fun h3 => ?_)
    · exact c_retv hQQ X Y hr hlk ⟨rfl, S, trivial⟩ d_Ae_lock_31
    · refine lv_bipush (v := iI 16) X.1 X.2.1 d_Ae_lock_19 (by decide) ?_
      refine lv_iload X.1 X.2.1 d_Ae_lock_21 (lv_at hl 0 rfl) ?_
      refine z_imul X.1 X.2.1 d_Ae_lock_23 ?_
      refine lv_aload_n X.1 X.2.1 d_Ae_lock_24 rfl (lv_at hl 2 rfl) ?_
      refine t_alen X Y S KS (Or.inl k1) (by omega) d_Ae_lock_25 ?_
      refine lv_iload_n X.1 X.2.1 d_Ae_lock_26 rfl (lv_at hl 3 rfl) ?_
      refine z_isub X.1 X.2.1 d_Ae_lock_27 ?_
      refine z_icmp_le (tgt := 32) X.1 X.2.1 d_Ae_lock_28 (by decide) ⟨by omega, by omega⟩ ⟨by omega, by omega⟩ (fun h4 => ?_) (fun h4 => ?_)
      · refine lv_iload_n X.1 X.2.1 d_Ae_lock_32 rfl (lv_at hl 3 rfl) ?_
        refine lv_iload_n X.1 X.2.1 d_Ae_lock_33 rfl (lv_at hl 4 rfl) ?_
        refine z_iadd X.1 X.2.1 d_Ae_lock_34 ?_
        have J7 : ∀ (n9 : Nat) (z6 : Int) (f5 : pF) (H : Heap) (locs : List Loc) (ls : Array Slot), (40408 - z6).toNat = n9 → (16 ≤ z6) → (z6 ≤ 40408) → pH D cCl (pA L sz) s.heap L f5 H locs → tS E T (tFr κ L [1, 2, 3, 4] []) κ L f κ L f5 → lv_has ls 6 [(0, .ref h), (1, .ref a1), (2, .int (iI a2)), (4, .int (iI z1)), (5, .int (iI z6))] → W p l e (kRm 3 110 0 0) s m AV below meth c H locs 0 0 QQ (F0 m 37 ls []) := by
          intro n9
          induction n9 using Nat.strongRecOn with
          | ind n9 ih8 =>
            intro z6 f5 H locs ls hm10 l6 u6 Y S hl
            refine lv_iload X.1 X.2.1 d_Ae_lock_37 (lv_at hl 4 rfl) ?_
            refine lv_iload_n X.1 X.2.1 d_Ae_lock_39 rfl (lv_at hl 2 rfl) ?_
            refine lv_bipush (v := iI 16) X.1 X.2.1 d_Ae_lock_40 (by decide) ?_
            refine lv_iload X.1 X.2.1 d_Ae_lock_42 (lv_at hl 3 rfl) ?_
            refine z_imul X.1 X.2.1 d_Ae_lock_44 ?_
            refine z_iadd X.1 X.2.1 d_Ae_lock_45 ?_
            refine z_icmp_ge (tgt := 60) X.1 X.2.1 d_Ae_lock_46 (by decide) ⟨by omega, by omega⟩ ⟨by omega, by omega⟩ (fun h11 => ?_) (fun h11 => ?_)
            · refine lv_aload_n X.1 X.2.1 d_Ae_lock_60 rfl (lv_at hl 0 rfl) ?_
              refine lv_aload_n X.1 X.2.1 d_Ae_lock_61 rfl (lv_at hl 1 rfl) ?_
              refine lv_iload_n X.1 X.2.1 d_Ae_lock_62 rfl (lv_at hl 2 rfl) ?_
              refine t_nv (t_runV (As := [.ref a1, .int (iI a2)]) (rest := []) (n := 2) X Y S k0 hml hl.1 (c_Ae_encrypt l D E T κ L f5 H.size h k0 a1 n1 k1 (by omega) a2 (by omega) (by omega) S.1) (ok_k X Y hA KS KR) rfl kl_Ae_Ae_encrypt ks_Ae_encrypt kx_Ae_encrypt ki_Ae_encrypt ini_Ae ⟨rfl, rfl⟩ hd_Ae_encrypt ⟨Nat.le_of_ble_eq_true rfl, Nat.le_of_ble_eq_true rfl⟩ rfl (Nat.le_of_ble_eq_true rfl) d_Ae_lock_63 ⟨Nat.le_of_ble_eq_true rfl, Nat.le_of_ble_eq_true rfl⟩) X Y hA S (by decide) (fun f12 H locs Y S s12 p12 => ?_)
              refine lv_iload_n X.1 X.2.1 d_Ae_lock_66 rfl (lv_at hl 2 rfl) ?_
              refine lv_bipush (v := iI 16) X.1 X.2.1 d_Ae_lock_67 (by decide) ?_
              refine z_iadd X.1 X.2.1 d_Ae_lock_69 ?_
              have J16 : ∀ (n18 : Nat) (z14 : Int) (f13 : pF) (H : Heap) (locs : List Loc) (ls : Array Slot), (40423 - z14).toNat = n18 → (16 ≤ z14) → (z14 ≤ 40423) → ((z14 - a2) % 16 = 0) → pH D cCl (pA L sz) s.heap L f13 H locs → tS E T (tFr κ L [1, 2, 3, 4] []) κ L f κ L f13 → lv_has ls 6 [(0, .ref h), (1, .ref a1), (2, .int (iI a2)), (4, .int (iI z1)), (5, .int (iI z14))] → W p l e (kRm 3 110 0 0) s m AV below meth c H locs 0 0 QQ (F0 m 72 ls []) := by
                intro n18
                induction n18 using Nat.strongRecOn with
                | ind n18 ih17 =>
                  intro z14 f13 H locs ls hm19 l14 u14 i15 Y S hl
                  refine lv_iload X.1 X.2.1 d_Ae_lock_72 (lv_at hl 4 rfl) ?_
                  refine lv_iload_n X.1 X.2.1 d_Ae_lock_74 rfl (lv_at hl 2 rfl) ?_
                  refine lv_bipush (v := iI 16) X.1 X.2.1 d_Ae_lock_75 (by decide) ?_
                  refine lv_iload X.1 X.2.1 d_Ae_lock_77 (lv_at hl 3 rfl) ?_
                  refine z_imul X.1 X.2.1 d_Ae_lock_79 ?_
                  refine z_iadd X.1 X.2.1 d_Ae_lock_80 ?_
                  refine z_icmp_ge (tgt := 105) X.1 X.2.1 d_Ae_lock_81 (by decide) ⟨by omega, by omega⟩ ⟨by omega, by omega⟩ (fun h20 => ?_) (fun h20 => ?_)
                  · refine lv_iload X.1 X.2.1 d_Ae_lock_105 (lv_at hl 3 rfl) ?_
                    refine lv_iconst (v := iI 1) X.1 X.2.1 d_Ae_lock_107 (by decide) ?_
                    refine z_icmp_le (tgt := 165) X.1 X.2.1 d_Ae_lock_108 (by decide) ⟨by omega, by omega⟩ ⟨by omega, by omega⟩ (fun h21 => ?_) (fun h21 => ?_)
                    · exact c_retv hQQ X Y hr hlk ⟨rfl, S, trivial⟩ d_Ae_lock_165
                    · refine lv_iload_n X.1 X.2.1 d_Ae_lock_111 rfl (lv_at hl 2 rfl) ?_
                      refine lv_bipush (v := iI 16) X.1 X.2.1 d_Ae_lock_112 (by decide) ?_
                      refine lv_iload X.1 X.2.1 d_Ae_lock_114 (lv_at hl 3 rfl) ?_
                      refine lv_iconst (v := iI 1) X.1 X.2.1 d_Ae_lock_116 (by decide) ?_
                      refine z_isub X.1 X.2.1 d_Ae_lock_117 ?_
                      refine z_imul X.1 X.2.1 d_Ae_lock_118 ?_
                      refine z_iadd X.1 X.2.1 d_Ae_lock_119 ?_
                      refine lv_istore (lv' := [(5, .int (iI (a2 + (16 * (z1 - 1))))), (0, .ref h), (1, .ref a1), (2, .int (iI a2)), (4, .int (iI z1))]) X.1 X.2.1 d_Ae_lock_120 hl (by decide) rfl (fun ls hl => ?_)
                      refine lv_aload_n X.1 X.2.1 d_Ae_lock_122 rfl (lv_at hl 2 rfl) ?_
                      refine lv_iload X.1 X.2.1 d_Ae_lock_123 (lv_at hl 0 rfl) ?_
                      refine lv_bipush (v := iI 16) X.1 X.2.1 d_Ae_lock_125 (by decide) ?_
                      refine z_isub X.1 X.2.1 d_Ae_lock_127 ?_
                      refine lv_aload_n X.1 X.2.1 d_Ae_lock_128 rfl (lv_at hl 1 rfl) ?_
                      refine t_getr (ci := 1) X Y S k0 rfl i_Ae 6 (by decide) rfl (k1 := 1) (k2 := 16) rfl rfl lk_Ae_25 (fun _ h9 => h9) d_Ae_lock_129 (fun b22 e22 k22 => ?_)
                      refine lv_iconst (v := iI 0) X.1 X.2.1 d_Ae_lock_132 (by decide) ?_
                      refine lv_bipush (v := iI 16) X.1 X.2.1 d_Ae_lock_133 (by decide) ?_
                      refine t_copyB X Y S KS (hml.trans hl.1.symm) kl_Ae_copy (Or.inl k1) k22 (by omega) (by omega) (by omega) (by omega) (by omega) (by omega) (by omega) (nF_of S k22 (by decide)) (Nat.le_of_ble_eq_true rfl) (Nat.le_of_ble_eq_true rfl) d_Ae_lock_135 (fun f23 H locs Y S w23 => ?_)
                      refine lv_aload_n X.1 X.2.1 d_Ae_lock_138 rfl (lv_at hl 2 rfl) ?_
                      refine lv_iload X.1 X.2.1 d_Ae_lock_139 (lv_at hl 0 rfl) ?_
                      refine lv_aload_n X.1 X.2.1 d_Ae_lock_141 rfl (lv_at hl 2 rfl) ?_
                      refine lv_iload X.1 X.2.1 d_Ae_lock_142 (lv_at hl 0 rfl) ?_
                      refine lv_bipush (v := iI 16) X.1 X.2.1 d_Ae_lock_144 (by decide) ?_
                      refine z_isub X.1 X.2.1 d_Ae_lock_146 ?_
                      refine lv_bipush (v := iI 16) X.1 X.2.1 d_Ae_lock_147 (by decide) ?_
                      refine t_copyB X Y S KS (hml.trans hl.1.symm) kl_Ae_copy (Or.inl k1) k1 (by omega) (by omega) (by omega) (by omega) (by omega) (by omega) (by omega) (nF_of S k1 (by decide)) (Nat.le_of_ble_eq_true rfl) (Nat.le_of_ble_eq_true rfl) d_Ae_lock_149 (fun f24 H locs Y S w24 => ?_)
                      refine lv_aload_n X.1 X.2.1 d_Ae_lock_152 rfl (lv_at hl 1 rfl) ?_
                      refine t_get0 (ci := 1) X Y S k0 rfl i_Ae 6 (by decide) rfl lk_Ae_25 (fun _ h9 => h9) d_Ae_lock_153 ((gF_same (w24 _ (k_ne k0 k1 (by decide))) 6).trans ((gF_same (w23 _ (k_ne k0 k22 (by decide))) 6).trans e22)) ?_
                      refine lv_iconst (v := iI 0) X.1 X.2.1 d_Ae_lock_156 (by decide) ?_
                      refine lv_aload_n X.1 X.2.1 d_Ae_lock_157 rfl (lv_at hl 2 rfl) ?_
                      refine lv_iload X.1 X.2.1 d_Ae_lock_158 (lv_at hl 0 rfl) ?_
                      refine lv_bipush (v := iI 16) X.1 X.2.1 d_Ae_lock_160 (by decide) ?_
                      refine t_copyB X Y S KS (hml.trans hl.1.symm) kl_Ae_copy (Or.inl k22) k1 (by omega) (by omega) (by omega) (by omega) (by omega) (by omega) (by omega) (nF_of S k1 (by decide)) (Nat.le_of_ble_eq_true rfl) (Nat.le_of_ble_eq_true rfl) d_Ae_lock_162 (fun f25 H locs Y S w25 => ?_)
                      exact c_retv hQQ X Y hr hlk ⟨rfl, S, trivial⟩ d_Ae_lock_165
                  · refine lv_aload_n X.1 X.2.1 d_Ae_lock_84 rfl (lv_at hl 1 rfl) ?_
                    refine lv_iload X.1 X.2.1 d_Ae_lock_85 (lv_at hl 4 rfl) ?_
                    refine lv_bipush (v := iI 16) X.1 X.2.1 d_Ae_lock_87 (by decide) ?_
                    refine t_nv (x_runS (As := [.ref a1, .int (iI z14), .int (iI 16)]) (rest := []) (n := 3) X hml hl.1 (c_Ae_mask l D E T κ L f13 H.size a1 n1 k1 (by omega) z14 (by omega) (by omega) 16 (by omega) (by omega) S.1 (by omega)) (ok_k X Y hA KS KR) kl_Ae_Ae_mask ks_Ae_mask ki_Ae_mask ini_Ae ⟨rfl, rfl⟩ hd_Ae_mask.2 ⟨Nat.le_of_ble_eq_true rfl, Nat.le_of_ble_eq_true rfl⟩ rfl (Nat.le_of_ble_eq_true rfl) d_Ae_lock_89 ⟨Nat.le_of_ble_eq_true rfl, Nat.le_of_ble_eq_true rfl⟩) X Y hA S (by decide) (fun f26 H locs Y S s26 p26 => ?_)
                    refine lv_aload_n X.1 X.2.1 d_Ae_lock_92 rfl (lv_at hl 0 rfl) ?_
                    refine lv_aload_n X.1 X.2.1 d_Ae_lock_93 rfl (lv_at hl 1 rfl) ?_
                    refine lv_iload X.1 X.2.1 d_Ae_lock_94 (lv_at hl 4 rfl) ?_
                    refine t_nv (t_runV (As := [.ref a1, .int (iI z14)]) (rest := []) (n := 2) X Y S k0 hml hl.1 (c_Ae_encrypt l D E T κ L f26 H.size h k0 a1 n1 k1 (by omega) z14 (by omega) (by omega) S.1) (ok_k X Y hA KS KR) rfl kl_Ae_Ae_encrypt ks_Ae_encrypt kx_Ae_encrypt ki_Ae_encrypt ini_Ae ⟨rfl, rfl⟩ hd_Ae_encrypt ⟨Nat.le_of_ble_eq_true rfl, Nat.le_of_ble_eq_true rfl⟩ rfl (Nat.le_of_ble_eq_true rfl) d_Ae_lock_96 ⟨Nat.le_of_ble_eq_true rfl, Nat.le_of_ble_eq_true rfl⟩) X Y hA S (by decide) (fun f27 H locs Y S s27 p27 => ?_)
                    refine lv_iinc (v := iI (z14 + 16)) (lv' := [(5, .int (iI (z14 + 16))), (0, .ref h), (1, .ref a1), (2, .int (iI a2)), (4, .int (iI z1))]) X.1 X.2.1 d_Ae_lock_99 hl (k := 4) rfl ((iI_add _ _).trans (congrArg iI (by omega))) (by decide) rfl (fun ls hl => ?_)
                    refine lv_goto (tgt := 72) X.1 X.2.1 d_Ae_lock_102 (by decide) ?_
                    exact ih17 ((40423 - (z14 + 16)).toNat) (by omega) (z14 + 16) f27 _ _ _ rfl (by omega) (by omega) (by omega) Y S (lv_sub hl [1, 2, 3, 4, 0] rfl)
              refine lv_istore (lv' := [(5, .int (iI (a2 + 16))), (0, .ref h), (1, .ref a1), (2, .int (iI a2)), (4, .int (iI z1))]) X.1 X.2.1 d_Ae_lock_70 hl (by decide) rfl (fun ls hl => ?_)
              exact J16 _ (a2 + 16) f12 _ _ _ rfl (by omega) (by omega) (by omega) Y S (lv_sub hl [1, 2, 3, 4, 0] rfl)
            · refine lv_aload_n X.1 X.2.1 d_Ae_lock_49 rfl (lv_at hl 1 rfl) ?_
              refine lv_iload X.1 X.2.1 d_Ae_lock_50 (lv_at hl 4 rfl) ?_
              refine lv_iconst (v := iI 0) X.1 X.2.1 d_Ae_lock_52 (by decide) ?_
              refine t_bast X Y S k1 (by omega) (by omega) (by omega) (nF_of S k1 (by decide)) d_Ae_lock_53 (fun f28 H locs Y S w28 => ?_)
              refine lv_iinc (v := iI (z6 + 1)) (lv' := [(5, .int (iI (z6 + 1))), (0, .ref h), (1, .ref a1), (2, .int (iI a2)), (4, .int (iI z1))]) X.1 X.2.1 d_Ae_lock_54 hl (k := 4) rfl ((iI_add _ _).trans (congrArg iI (by omega))) (by decide) rfl (fun ls hl => ?_)
              refine lv_goto (tgt := 37) X.1 X.2.1 d_Ae_lock_57 (by decide) ?_
              exact ih8 ((40408 - (z6 + 1)).toNat) (by omega) (z6 + 1) f28 _ _ _ rfl (by omega) (by omega) Y S (lv_sub hl [1, 2, 3, 4, 0] rfl)
        refine lv_istore (lv' := [(5, .int (iI (a2 + a3))), (4, .int (iI z1)), (0, .ref h), (1, .ref a1), (2, .int (iI a2)), (3, .int (iI a3))]) X.1 X.2.1 d_Ae_lock_35 hl (by decide) rfl (fun ls hl => ?_)
        exact J7 _ (a2 + a3) f _ _ _ rfl (by omega) (by omega) Y S (lv_sub hl [2, 3, 4, 1, 0] rfl)
      · exact c_retv hQQ X Y hr hlk ⟨rfl, S, trivial⟩ d_Ae_lock_31
set_option maxHeartbeats 4000000 in
set_option maxRecDepth 100000 in
theorem c_Ae_unlock (l : Launch) (D : va_G) (E : cE) (T : cT) (κ : tK) (L : List Nat) (f : pF) (sz : Nat) (h : Nat) (k0 : κ h = (11, 0)) (a1 n1 : Nat) (k1 : κ a1 = (1, n1)) (x1 : n1 ≤ 12288) (a2 : Int) (l_a2 : (-1) ≤ a2) (u_a2 : a2 ≤ 20200) (a3 : Int) (l_a3 : (-20200) ≤ a3) (u_a3 : a3 ≤ 20200) (hw : tW E T κ L f) : Met l y_Ae_unlock (k_Ae_unlock :: lw_tg) (kRm 3 110 0 0) (va_Pc [.ref h, .ref a1, .int (iI a2), .int (iI a3)] (kPre D E T L f sz)) (va_Qv (nPv E T [1, 2, 3, 4] κ L f (fun (g : pF) => True)) (cPost D E (pA L sz)) (pA L sz)) 0 0 (pA L sz) := by
  refine k_enter (own := R_Ae) (by decide) rfl (Nat.le_of_ble_eq_true rfl) (fun p e s m below meth c ls AV QQ H locs hQQ X Y hA hin hr hlk hml hl KS KR => ?_)
  have hl : lv_has ls 7 [(0, .ref h), (1, .ref a1), (2, .int (iI a2)), (3, .int (iI a3))] := hl
  have S : tS E T (tFr κ L [1, 2, 3, 4] []) κ L f κ L f := tS_rf hw
  refine lv_iload_n X.1 X.2.1 d_Ae_unlock_0 rfl (lv_at hl 3 rfl) ?_
  refine lv_bipush (v := iI 15) X.1 X.2.1 d_Ae_unlock_1 (by decide) ?_
  refine z_iadd X.1 X.2.1 d_Ae_unlock_3 ?_
  refine lv_bipush (v := iI 16) X.1 X.2.1 d_Ae_unlock_4 (by decide) ?_
  refine z_idivg X.1 X.2.1 ⟨by omega, by omega⟩ ⟨by decide, by decide⟩ d_Ae_unlock_6 (fun z1 l1 u1 x1 y1 => ?_)
  refine lv_istore (lv' := [(4, .int (iI z1)), (0, .ref h), (1, .ref a1), (2, .int (iI a2)), (3, .int (iI a3))]) X.1 X.2.1 d_Ae_unlock_7 hl (by decide) rfl (fun ls hl => ?_)
  refine lv_iload_n X.1 X.2.1 d_Ae_unlock_9 rfl (lv_at hl 3 rfl) ?_
  refine z_if_lt (tgt := 31) X.1 X.2.1 d_Ae_unlock_10 (by decide) ⟨by omega, by omega⟩ (fun h2 => ?_) (fun h2 => ?_)
  · exact c_retv hQQ X Y hr hlk ⟨rfl, S, trivial⟩ d_Ae_unlock_31
  · refine lv_iload_n X.1 X.2.1 d_Ae_unlock_13 rfl (lv_at hl 4 rfl) ?_
    refine lv_bipush (v := iI 16) X.1 X.2.1 d_Ae_unlock_14 (by decide) ?_
    refine z_icmp_lt (tgt := 31) X.1 X.2.1 d_Ae_unlock_16 (by decide) ⟨by omega, by omega⟩ ⟨by omega, by omega⟩ (fun h3 => ?_) (fun h3 => ?_)
    · exact c_retv hQQ X Y hr hlk ⟨rfl, S, trivial⟩ d_Ae_unlock_31
    · refine lv_bipush (v := iI 16) X.1 X.2.1 d_Ae_unlock_19 (by decide) ?_
      refine lv_iload X.1 X.2.1 d_Ae_unlock_21 (lv_at hl 0 rfl) ?_
      refine z_imul X.1 X.2.1 d_Ae_unlock_23 ?_
      refine lv_aload_n X.1 X.2.1 d_Ae_unlock_24 rfl (lv_at hl 2 rfl) ?_
      refine t_alen X Y S KS (Or.inl k1) (by omega) d_Ae_unlock_25 ?_
      refine lv_iload_n X.1 X.2.1 d_Ae_unlock_26 rfl (lv_at hl 3 rfl) ?_
      refine z_isub X.1 X.2.1 d_Ae_unlock_27 ?_
      refine z_icmp_le (tgt := 32) X.1 X.2.1 d_Ae_unlock_28 (by decide) ⟨by omega, by omega⟩ ⟨by omega, by omega⟩ (fun h4 => ?_) (fun h4 => ?_)
      · refine lv_iload_n X.1 X.2.1 d_Ae_unlock_32 rfl (lv_at hl 3 rfl) ?_
        refine lv_bipush (v := iI 16) X.1 X.2.1 d_Ae_unlock_33 (by decide) ?_
        refine lv_iload X.1 X.2.1 d_Ae_unlock_35 (lv_at hl 0 rfl) ?_
        refine lv_iconst (v := iI 1) X.1 X.2.1 d_Ae_unlock_37 (by decide) ?_
        refine z_isub X.1 X.2.1 d_Ae_unlock_38 ?_
        refine z_imul X.1 X.2.1 d_Ae_unlock_39 ?_
        refine z_iadd X.1 X.2.1 d_Ae_unlock_40 ?_
        refine lv_istore (lv' := [(5, .int (iI (a2 + (16 * (z1 - 1))))), (4, .int (iI z1)), (0, .ref h), (1, .ref a1), (2, .int (iI a2)), (3, .int (iI a3))]) X.1 X.2.1 d_Ae_unlock_41 hl (by decide) rfl (fun ls hl => ?_)
        refine lv_iload X.1 X.2.1 d_Ae_unlock_43 (lv_at hl 1 rfl) ?_
        refine lv_iconst (v := iI 1) X.1 X.2.1 d_Ae_unlock_45 (by decide) ?_
        have J6 : ∀ (f5 : pF) (H : Heap) (locs : List Loc) (ls : Array Slot), pH D cCl (pA L sz) s.heap L f5 H locs → tS E T (tFr κ L [1, 2, 3, 4] []) κ L f κ L f5 → lv_has ls 7 [(0, .ref h), (1, .ref a1), (2, .int (iI a2)), (5, .int (iI (a2 + (16 * (z1 - 1)))))] → W p l e (kRm 3 110 0 0) s m AV below meth c H locs 0 0 QQ (F0 m 118 ls []) := by
          intro f5 H locs ls  Y S hl
          refine lv_iload_n X.1 X.2.1 d_Ae_unlock_118 rfl (lv_at hl 2 rfl) ?_
          refine lv_iload X.1 X.2.1 d_Ae_unlock_119 (lv_at hl 3 rfl) ?_
          refine lv_bipush (v := iI 16) X.1 X.2.1 d_Ae_unlock_121 (by decide) ?_
          refine z_isub X.1 X.2.1 d_Ae_unlock_123 ?_
          refine z_max X.1 X.2.1 (hml.trans hl.1.symm) X.2.2.2.1 (X.2.2.1 _ kl_Ae_mmax) (X.2.2.1 _ ks_mmax) (X.2.2.1 _ ini_Math) (X.2.2.1 _ ki_mmax) (Nat.le_of_ble_eq_true rfl) (Nat.le_of_ble_eq_true rfl) (Nat.le_of_ble_eq_true rfl) (Nat.le_of_ble_eq_true rfl) ⟨by omega, by omega⟩ ⟨by omega, by omega⟩ d_Ae_unlock_124 (fun z10 l10 u10 x10 => ?_)
          have J16 : ∀ (n18 : Nat) (z12 : Int) (f11 : pF) (H : Heap) (locs : List Loc) (ls : Array Slot), (z12 - (-15)).toNat = n18 → ((-15) ≤ z12) → (z12 ≤ 40376) → ((z12 - a2) % 16 = 0) → (z12 + 16 ≤ (n1 : Int)) → (a2 ≤ z12) → pH D cCl (pA L sz) s.heap L f11 H locs → tS E T (tFr κ L [1, 2, 3, 4] []) κ L f κ L f11 → lv_has ls 7 [(0, .ref h), (1, .ref a1), (2, .int (iI a2)), (6, .int (iI z12))] → W p l e (kRm 3 110 0 0) s m AV below meth c H locs 0 0 QQ (F0 m 129 ls []) := by
            intro n18
            induction n18 using Nat.strongRecOn with
            | ind n18 ih17 =>
              intro z12 f11 H locs ls hm19 l12 u12 i13 i14 i15 Y S hl
              refine lv_iload X.1 X.2.1 d_Ae_unlock_129 (lv_at hl 3 rfl) ?_
              refine lv_iload_n X.1 X.2.1 d_Ae_unlock_131 rfl (lv_at hl 2 rfl) ?_
              refine z_icmp_le (tgt := 156) X.1 X.2.1 d_Ae_unlock_132 (by decide) ⟨by omega, by omega⟩ ⟨by omega, by omega⟩ (fun h20 => ?_) (fun h20 => ?_)
              · refine lv_aload_n X.1 X.2.1 d_Ae_unlock_156 rfl (lv_at hl 0 rfl) ?_
                refine lv_aload_n X.1 X.2.1 d_Ae_unlock_157 rfl (lv_at hl 1 rfl) ?_
                refine lv_iload_n X.1 X.2.1 d_Ae_unlock_158 rfl (lv_at hl 2 rfl) ?_
                refine t_nv (t_runV (As := [.ref a1, .int (iI a2)]) (rest := []) (n := 2) X Y S k0 hml hl.1 (c_Ae_decrypt l D E T κ L f11 H.size h k0 a1 n1 k1 (by omega) a2 (by omega) (by omega) S.1) (ok_k X Y hA KS KR) rfl kl_Ae_Ae_decrypt ks_Ae_decrypt kx_Ae_decrypt ki_Ae_decrypt ini_Ae ⟨rfl, rfl⟩ hd_Ae_decrypt ⟨Nat.le_of_ble_eq_true rfl, Nat.le_of_ble_eq_true rfl⟩ rfl (Nat.le_of_ble_eq_true rfl) d_Ae_unlock_159 ⟨Nat.le_of_ble_eq_true rfl, Nat.le_of_ble_eq_true rfl⟩) X Y hA S (by decide) (fun f21 H locs Y S s21 p21 => ?_)
                exact c_retv hQQ X Y hr hlk ⟨rfl, S, trivial⟩ d_Ae_unlock_162
              · refine lv_aload_n X.1 X.2.1 d_Ae_unlock_135 rfl (lv_at hl 0 rfl) ?_
                refine lv_aload_n X.1 X.2.1 d_Ae_unlock_136 rfl (lv_at hl 1 rfl) ?_
                refine lv_iload X.1 X.2.1 d_Ae_unlock_137 (lv_at hl 3 rfl) ?_
                refine t_nv (t_runV (As := [.ref a1, .int (iI z12)]) (rest := []) (n := 2) X Y S k0 hml hl.1 (c_Ae_decrypt l D E T κ L f11 H.size h k0 a1 n1 k1 (by omega) z12 (by omega) (by omega) S.1) (ok_k X Y hA KS KR) rfl kl_Ae_Ae_decrypt ks_Ae_decrypt kx_Ae_decrypt ki_Ae_decrypt ini_Ae ⟨rfl, rfl⟩ hd_Ae_decrypt ⟨Nat.le_of_ble_eq_true rfl, Nat.le_of_ble_eq_true rfl⟩ rfl (Nat.le_of_ble_eq_true rfl) d_Ae_unlock_139 ⟨Nat.le_of_ble_eq_true rfl, Nat.le_of_ble_eq_true rfl⟩) X Y hA S (by decide) (fun f22 H locs Y S s22 p22 => ?_)
                refine lv_aload_n X.1 X.2.1 d_Ae_unlock_142 rfl (lv_at hl 1 rfl) ?_
                refine lv_iload X.1 X.2.1 d_Ae_unlock_143 (lv_at hl 3 rfl) ?_
                refine lv_bipush (v := iI 16) X.1 X.2.1 d_Ae_unlock_145 (by decide) ?_
                refine t_nv (x_runS (As := [.ref a1, .int (iI z12), .int (iI 16)]) (rest := []) (n := 3) X hml hl.1 (c_Ae_mask l D E T κ L f22 H.size a1 n1 k1 (by omega) z12 (by omega) (by omega) 16 (by omega) (by omega) S.1 (by omega)) (ok_k X Y hA KS KR) kl_Ae_Ae_mask ks_Ae_mask ki_Ae_mask ini_Ae ⟨rfl, rfl⟩ hd_Ae_mask.2 ⟨Nat.le_of_ble_eq_true rfl, Nat.le_of_ble_eq_true rfl⟩ rfl (Nat.le_of_ble_eq_true rfl) d_Ae_unlock_147 ⟨Nat.le_of_ble_eq_true rfl, Nat.le_of_ble_eq_true rfl⟩) X Y hA S (by decide) (fun f23 H locs Y S s23 p23 => ?_)
                refine lv_iinc (v := iI (z12 - 16)) (lv' := [(6, .int (iI (z12 - 16))), (0, .ref h), (1, .ref a1), (2, .int (iI a2))]) X.1 X.2.1 d_Ae_unlock_150 hl (k := 3) rfl ((iI_add _ _).trans (congrArg iI (by omega))) (by decide) rfl (fun ls hl => ?_)
                refine lv_goto (tgt := 129) X.1 X.2.1 d_Ae_unlock_153 (by decide) ?_
                exact ih17 (((z12 - 16) - (-15)).toNat) (by omega) (z12 - 16) f23 _ _ _ rfl (by omega) (by omega) (by omega) (by omega) (by omega) Y S (lv_sub hl [1, 2, 3, 0] rfl)
          refine lv_istore (lv' := [(6, .int (iI z10)), (0, .ref h), (1, .ref a1), (2, .int (iI a2)), (5, .int (iI (a2 + (16 * (z1 - 1)))))]) X.1 X.2.1 d_Ae_unlock_127 hl (by decide) rfl (fun ls hl => ?_)
          exact J16 _ z10 f5 _ _ _ rfl (by omega) (by omega) (by omega) (by omega) (by omega) Y S (lv_sub hl [1, 2, 3, 0] rfl)
        refine z_icmp_le (tgt := 118) X.1 X.2.1 d_Ae_unlock_46 (by decide) ⟨by omega, by omega⟩ ⟨by omega, by omega⟩ (fun h24 => ?_) (fun h24 => ?_)
        · exact J6 f _ _ _  Y S (lv_sub hl [2, 3, 4, 0] rfl)
        · refine lv_iload_n X.1 X.2.1 d_Ae_unlock_49 rfl (lv_at hl 4 rfl) ?_
          refine lv_iload_n X.1 X.2.1 d_Ae_unlock_50 rfl (lv_at hl 5 rfl) ?_
          refine z_iadd X.1 X.2.1 d_Ae_unlock_51 ?_
          refine lv_iload X.1 X.2.1 d_Ae_unlock_52 (lv_at hl 0 rfl) ?_
          refine z_isub X.1 X.2.1 d_Ae_unlock_54 ?_
          refine lv_istore (lv' := [(6, .int (iI ((a2 + a3) - (a2 + (16 * (z1 - 1)))))), (5, .int (iI (a2 + (16 * (z1 - 1))))), (4, .int (iI z1)), (0, .ref h), (1, .ref a1), (2, .int (iI a2)), (3, .int (iI a3))]) X.1 X.2.1 d_Ae_unlock_55 hl (by decide) rfl (fun ls hl => ?_)
          refine lv_aload_n X.1 X.2.1 d_Ae_unlock_57 rfl (lv_at hl 3 rfl) ?_
          refine lv_aload_n X.1 X.2.1 d_Ae_unlock_58 rfl (lv_at hl 4 rfl) ?_
          refine lv_iload X.1 X.2.1 d_Ae_unlock_59 (lv_at hl 1 rfl) ?_
          refine lv_bipush (v := iI 16) X.1 X.2.1 d_Ae_unlock_61 (by decide) ?_
          refine z_isub X.1 X.2.1 d_Ae_unlock_63 ?_
          refine t_nv (t_runV (As := [.ref a1, .int (iI ((a2 + (16 * (z1 - 1))) - 16))]) (rest := []) (n := 2) X Y S k0 hml hl.1 (c_Ae_decrypt l D E T κ L f H.size h k0 a1 n1 k1 (by omega) ((a2 + (16 * (z1 - 1))) - 16) (by omega) (by omega) S.1) (ok_k X Y hA KS KR) rfl kl_Ae_Ae_decrypt ks_Ae_decrypt kx_Ae_decrypt ki_Ae_decrypt ini_Ae ⟨rfl, rfl⟩ hd_Ae_decrypt ⟨Nat.le_of_ble_eq_true rfl, Nat.le_of_ble_eq_true rfl⟩ rfl (Nat.le_of_ble_eq_true rfl) d_Ae_unlock_64 ⟨Nat.le_of_ble_eq_true rfl, Nat.le_of_ble_eq_true rfl⟩) X Y hA S (by decide) (fun f25 H locs Y S s25 p25 => ?_)
          refine lv_aload_n X.1 X.2.1 d_Ae_unlock_67 rfl (lv_at hl 4 rfl) ?_
          refine lv_iload X.1 X.2.1 d_Ae_unlock_68 (lv_at hl 1 rfl) ?_
          refine lv_bipush (v := iI 16) X.1 X.2.1 d_Ae_unlock_70 (by decide) ?_
          refine z_isub X.1 X.2.1 d_Ae_unlock_72 ?_
          refine lv_aload_n X.1 X.2.1 d_Ae_unlock_73 rfl (lv_at hl 3 rfl) ?_
          refine t_getr (ci := 1) X Y S k0 rfl i_Ae 6 (by decide) rfl (k1 := 1) (k2 := 16) rfl rfl lk_Ae_25 (fun _ h9 => h9) d_Ae_unlock_74 (fun b26 e26 k26 => ?_)
          refine lv_iconst (v := iI 0) X.1 X.2.1 d_Ae_unlock_77 (by decide) ?_
          refine lv_bipush (v := iI 16) X.1 X.2.1 d_Ae_unlock_78 (by decide) ?_
          refine t_copyB X Y S KS (hml.trans hl.1.symm) kl_Ae_copy (Or.inl k1) k26 (by omega) (by omega) (by omega) (by omega) (by omega) (by omega) (by omega) (nF_of S k26 (by decide)) (Nat.le_of_ble_eq_true rfl) (Nat.le_of_ble_eq_true rfl) d_Ae_unlock_80 (fun f27 H locs Y S w27 => ?_)
          refine lv_aload_n X.1 X.2.1 d_Ae_unlock_83 rfl (lv_at hl 4 rfl) ?_
          refine lv_iload X.1 X.2.1 d_Ae_unlock_84 (lv_at hl 1 rfl) ?_
          refine lv_aload_n X.1 X.2.1 d_Ae_unlock_86 rfl (lv_at hl 4 rfl) ?_
          refine lv_iload X.1 X.2.1 d_Ae_unlock_87 (lv_at hl 1 rfl) ?_
          refine lv_bipush (v := iI 16) X.1 X.2.1 d_Ae_unlock_89 (by decide) ?_
          refine z_isub X.1 X.2.1 d_Ae_unlock_91 ?_
          refine lv_iload X.1 X.2.1 d_Ae_unlock_92 (lv_at hl 0 rfl) ?_
          refine t_copyB X Y S KS (hml.trans hl.1.symm) kl_Ae_copy (Or.inl k1) k1 (by omega) (by omega) (by omega) (by omega) (by omega) (by omega) (by omega) (nF_of S k1 (by decide)) (Nat.le_of_ble_eq_true rfl) (Nat.le_of_ble_eq_true rfl) d_Ae_unlock_94 (fun f28 H locs Y S w28 => ?_)
          refine lv_aload_n X.1 X.2.1 d_Ae_unlock_97 rfl (lv_at hl 3 rfl) ?_
          refine t_get0 (ci := 1) X Y S k0 rfl i_Ae 6 (by decide) rfl lk_Ae_25 (fun _ h9 => h9) d_Ae_unlock_98 ((gF_same (w28 _ (k_ne k0 k1 (by decide))) 6).trans ((gF_same (w27 _ (k_ne k0 k26 (by decide))) 6).trans e26)) ?_
          refine lv_iconst (v := iI 0) X.1 X.2.1 d_Ae_unlock_101 (by decide) ?_
          refine lv_aload_n X.1 X.2.1 d_Ae_unlock_102 rfl (lv_at hl 4 rfl) ?_
          refine lv_iload X.1 X.2.1 d_Ae_unlock_103 (lv_at hl 1 rfl) ?_
          refine lv_bipush (v := iI 16) X.1 X.2.1 d_Ae_unlock_105 (by decide) ?_
          refine t_copyB X Y S KS (hml.trans hl.1.symm) kl_Ae_copy (Or.inl k26) k1 (by omega) (by omega) (by omega) (by omega) (by omega) (by omega) (by omega) (nF_of S k1 (by decide)) (Nat.le_of_ble_eq_true rfl) (Nat.le_of_ble_eq_true rfl) d_Ae_unlock_107 (fun f29 H locs Y S w29 => ?_)
          refine lv_aload_n X.1 X.2.1 d_Ae_unlock_110 rfl (lv_at hl 4 rfl) ?_
          refine lv_iload X.1 X.2.1 d_Ae_unlock_111 (lv_at hl 1 rfl) ?_
          refine lv_iload X.1 X.2.1 d_Ae_unlock_113 (lv_at hl 0 rfl) ?_
          refine t_nv (x_runS (As := [.ref a1, .int (iI (a2 + (16 * (z1 - 1)))), .int (iI ((a2 + a3) - (a2 + (16 * (z1 - 1)))))]) (rest := []) (n := 3) X hml hl.1 (c_Ae_mask l D E T κ L f29 H.size a1 n1 k1 (by omega) (a2 + (16 * (z1 - 1))) (by omega) (by omega) ((a2 + a3) - (a2 + (16 * (z1 - 1)))) (by omega) (by omega) S.1 (by omega)) (ok_k X Y hA KS KR) kl_Ae_Ae_mask ks_Ae_mask ki_Ae_mask ini_Ae ⟨rfl, rfl⟩ hd_Ae_mask.2 ⟨Nat.le_of_ble_eq_true rfl, Nat.le_of_ble_eq_true rfl⟩ rfl (Nat.le_of_ble_eq_true rfl) d_Ae_unlock_115 ⟨Nat.le_of_ble_eq_true rfl, Nat.le_of_ble_eq_true rfl⟩) X Y hA S (by decide) (fun f30 H locs Y S s30 p30 => ?_)
          exact J6 f30 _ _ _  Y S (lv_sub hl [3, 4, 5, 1] rfl)
      · exact c_retv hQQ X Y hr hlk ⟨rfl, S, trivial⟩ d_Ae_unlock_31
