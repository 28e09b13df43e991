set_option maxHeartbeats 4000000 in
set_option maxRecDepth 100000 in
theorem c_Ae_setKey (l : Launch) (D : va_G) (E : cE) (T : cT) (κ : tK) (L : List Nat) (f : pF) (sz : Nat) (h : Nat) (k0 : κ h = (11, 0)) (a1 n1 : Nat) (k1 : tSrc T κ a1 n1) (x1 : n1 ≤ 12288) (a2 : Int) (l_a2 : 0 ≤ a2) (u_a2 : a2 ≤ 64) (hw : tW E T κ L f) : Met l y_Ae_setKey (k_Ae_setKey :: lw_tg) (kRm 1 60 0 0) (va_Pc [.ref h, .ref a1, .int (iI a2)] (kPre D E T L f sz)) (va_Qv (nPv E T [2, 3, 4, 11] κ L f (fun (g : pF) => True)) (cPost D E (pA L sz)) (pA L sz)) 0 0 (pA L sz) := by
  refine k_enter (own := R_Ae) (by decide) rfl (Nat.le_of_ble_eq_true rfl) (fun p e s m below meth c ls AV QQ H locs hQQ X Y hA hin hr hlk hml hl KS KR => ?_)
  have hl : lv_has ls 11 [(0, .ref h), (1, .ref a1), (2, .int (iI a2))] := hl
  have S : tS E T (tFr κ L [2, 3, 4, 11] []) κ L f κ L f := tS_rf hw
  refine lv_iload_n X.1 X.2.1 d_Ae_setKey_0 rfl (lv_at hl 2 rfl) ?_
  refine lv_bipush (v := iI 32) X.1 X.2.1 d_Ae_setKey_1 (by decide) ?_
  have J101 : ∀  (H : Heap) (locs : List Loc) (ls : Array Slot), pH D cCl (pA L sz) s.heap L f H locs → tS E T (tFr κ L [2, 3, 4, 11] []) κ L f κ L f → lv_has ls 11 [(0, .ref h), (1, .ref a1)] → W p l e (kRm 1 60 0 0) s m AV below meth c H locs 0 0 QQ (F0 m 18 ls []) := by
    intro  H locs ls  Y S hl
    refine lv_bipush (v := iI 16) X.1 X.2.1 d_Ae_setKey_18 (by decide) ?_
    refine lv_istore_n (lv' := [(3, .int (iI 16)), (0, .ref h), (1, .ref a1)]) X.1 X.2.1 d_Ae_setKey_20 rfl hl (by decide) rfl (fun ls hl => ?_)
    refine lv_aload_n X.1 X.2.1 d_Ae_setKey_21 rfl (lv_at hl 1 rfl) ?_
    refine lv_iload_n X.1 X.2.1 d_Ae_setKey_22 rfl (lv_at hl 0 rfl) ?_
    refine lv_iconst (v := iI 4) X.1 X.2.1 d_Ae_setKey_23 (by decide) ?_
    refine z_idiv X.1 X.2.1 (by decide) (by decide) ⟨by decide, by decide⟩ d_Ae_setKey_24 ?_
    refine t_eq (y := iI 4) (by decide) ?_
    refine lv_bipush (v := iI 6) X.1 X.2.1 d_Ae_setKey_25 (by decide) ?_
    refine z_iadd X.1 X.2.1 d_Ae_setKey_27 ?_
    refine t_eq (y := iI 10) (by decide) ?_
    refine t_put (ci := 1) X Y S k0 rfl i_Ae t_Ae t_Ae_ok n_Ae 3 (by decide) rfl lk_Ae_32 (fun _ h9 => h9) rfl (t_Ae_ok 3 (by decide)) rfl rfl ⟨_, rfl, (show (0 : Int) ≤ 10 by omega), (show 10 ≤ (14 : Int) by omega)⟩ (nF_of S k0 (by decide)) d_Ae_setKey_28 (fun f105 H locs Y S w105 => ?_)
    refine lv_iconst (v := iI 0) X.1 X.2.1 d_Ae_setKey_31 (by decide) ?_
    have J108 : ∀ (n110 : Nat) (z107 : Int) (f106 : pF) (H : Heap) (locs : List Loc) (ls : Array Slot), (16 - z107).toNat = n110 → (0 ≤ z107) → (z107 ≤ 16) → pH D cCl (pA L sz) s.heap L f106 H locs → tS E T (tFr κ L [2, 3, 4, 11] []) κ L f κ L f106 → lv_has ls 11 [(0, .ref h), (1, .ref a1), (3, .int (iI 16)), (4, .int (iI z107))] → W p l e (kRm 1 60 0 0) s m AV below meth c H locs 0 0 QQ (F0 m 34 ls []) := by
      intro n110
      induction n110 using Nat.strongRecOn with
      | ind n110 ih109 =>
        intro z107 f106 H locs ls hm111 l107 u107 Y S hl
        refine lv_iload X.1 X.2.1 d_Ae_setKey_34 (lv_at hl 3 rfl) ?_
        refine lv_iload_n X.1 X.2.1 d_Ae_setKey_36 rfl (lv_at hl 2 rfl) ?_
        refine z_icmp_ge (tgt := 72) X.1 X.2.1 d_Ae_setKey_37 (by decide) ⟨by omega, by omega⟩ ⟨by omega, by omega⟩ (fun h112 => ?_) (fun h112 => ?_)
        · refine lv_iconst (v := iI 1) X.1 X.2.1 d_Ae_setKey_72 (by decide) ?_
          refine lv_istore (lv' := [(4, .int (iI 1)), (0, .ref h), (1, .ref a1), (3, .int (iI 16))]) X.1 X.2.1 d_Ae_setKey_73 hl (by decide) rfl (fun ls hl => ?_)
          refine lv_iload_n X.1 X.2.1 d_Ae_setKey_75 rfl (lv_at hl 3 rfl) ?_
          have J117 : ∀ (n119 : Nat) (z114 : Int) (z115 : Int) (f113 : pF) (H : Heap) (locs : List Loc) (ls : Array Slot), (243 - z115).toNat = n119 → (0 ≤ z114) → (z114 ≤ 255) → (16 ≤ z115) → (z115 ≤ 243) → (z115 % 4 = 0) → pH D cCl (pA L sz) s.heap L f113 H locs → tS E T (tFr κ L [2, 3, 4, 11] []) κ L f κ L f113 → lv_has ls 11 [(0, .ref h), (3, .int (iI 16)), (4, .int (iI z114)), (5, .int (iI z115))] → W p l e (kRm 1 60 0 0) s m AV below meth c H locs 0 0 QQ (F0 m 78 ls []) := by
            intro n119
            induction n119 using Nat.strongRecOn with
            | ind n119 ih118 =>
              intro z114 z115 f113 H locs ls hm120 l114 u114 l115 u115 i116 Y S hl
              refine lv_iload X.1 X.2.1 d_Ae_setKey_78 (lv_at hl 3 rfl) ?_
              refine lv_bipush (v := iI 16) X.1 X.2.1 d_Ae_setKey_80 (by decide) ?_
              refine lv_aload_n X.1 X.2.1 d_Ae_setKey_82 rfl (lv_at hl 0 rfl) ?_
              refine t_geti (ci := 1) X Y S k0 rfl i_Ae 3 (by decide) rfl lk_Ae_32 (fun _ h9 => h9) d_Ae_setKey_83 (fun z121 e121 l121 u121 => ?_)
              refine lv_iconst (v := iI 1) X.1 X.2.1 d_Ae_setKey_86 (by decide) ?_
              refine z_iadd X.1 X.2.1 d_Ae_setKey_87 ?_
              refine z_imul X.1 X.2.1 d_Ae_setKey_88 ?_
              refine z_icmp_ge (tgt := 335) X.1 X.2.1 d_Ae_setKey_89 (by decide) ⟨by omega, by omega⟩ ⟨by omega, by omega⟩ (fun h122 => ?_) (fun h122 => ?_)
              · exact c_retv hQQ X Y hr hlk ⟨rfl, S, trivial⟩ d_Ae_setKey_335
              · refine lv_aload_n X.1 X.2.1 d_Ae_setKey_92 rfl (lv_at hl 0 rfl) ?_
                refine t_getr (ci := 1) X Y S k0 rfl i_Ae 2 (by decide) rfl (k1 := 3) (k2 := 240) rfl rfl lk_Ae_16 (fun _ h9 => h9) d_Ae_setKey_93 (fun b123 e123 k123 => ?_)
                refine lv_iload X.1 X.2.1 d_Ae_setKey_96 (lv_at hl 3 rfl) ?_
                refine lv_iconst (v := iI 4) X.1 X.2.1 d_Ae_setKey_98 (by decide) ?_
                refine z_isub X.1 X.2.1 d_Ae_setKey_99 ?_
                refine t_iald3 X Y S k123 (by omega) (by omega) (by omega) d_Ae_setKey_100 (fun z124 l124 u124 => ?_)
                refine lv_istore (lv' := [(6, .int (iI z124)), (0, .ref h), (3, .int (iI 16)), (4, .int (iI z114)), (5, .int (iI z115))]) X.1 X.2.1 d_Ae_setKey_101 hl (by decide) rfl (fun ls hl => ?_)
                refine lv_aload_n X.1 X.2.1 d_Ae_setKey_103 rfl (lv_at hl 1 rfl) ?_
                refine t_get0 (ci := 1) X Y S k0 rfl i_Ae 2 (by decide) rfl lk_Ae_16 (fun _ h9 => h9) d_Ae_setKey_104 e123 ?_
                refine lv_iload X.1 X.2.1 d_Ae_setKey_107 (lv_at hl 4 rfl) ?_
                refine lv_iconst (v := iI 3) X.1 X.2.1 d_Ae_setKey_109 (by decide) ?_
                refine z_isub X.1 X.2.1 d_Ae_setKey_110 ?_
                refine t_iald3 X Y S k123 (by omega) (by omega) (by omega) d_Ae_setKey_111 (fun z125 l125 u125 => ?_)
                refine lv_istore (lv' := [(7, .int (iI z125)), (6, .int (iI z124)), (0, .ref h), (3, .int (iI 16)), (4, .int (iI z114)), (5, .int (iI z115))]) X.1 X.2.1 d_Ae_setKey_112 hl (by decide) rfl (fun ls hl => ?_)
                refine lv_aload_n X.1 X.2.1 d_Ae_setKey_114 rfl (lv_at hl 2 rfl) ?_
                refine t_get0 (ci := 1) X Y S k0 rfl i_Ae 2 (by decide) rfl lk_Ae_16 (fun _ h9 => h9) d_Ae_setKey_115 e123 ?_
                refine lv_iload X.1 X.2.1 d_Ae_setKey_118 (lv_at hl 5 rfl) ?_
                refine lv_iconst (v := iI 2) X.1 X.2.1 d_Ae_setKey_120 (by decide) ?_
                refine z_isub X.1 X.2.1 d_Ae_setKey_121 ?_
                refine t_iald3 X Y S k123 (by omega) (by omega) (by omega) d_Ae_setKey_122 (fun z126 l126 u126 => ?_)
                refine lv_istore (lv' := [(8, .int (iI z126)), (7, .int (iI z125)), (6, .int (iI z124)), (0, .ref h), (3, .int (iI 16)), (4, .int (iI z114)), (5, .int (iI z115))]) X.1 X.2.1 d_Ae_setKey_123 hl (by decide) rfl (fun ls hl => ?_)
                refine lv_aload_n X.1 X.2.1 d_Ae_setKey_125 rfl (lv_at hl 3 rfl) ?_
                refine t_get0 (ci := 1) X Y S k0 rfl i_Ae 2 (by decide) rfl lk_Ae_16 (fun _ h9 => h9) d_Ae_setKey_126 e123 ?_
                refine lv_iload X.1 X.2.1 d_Ae_setKey_129 (lv_at hl 6 rfl) ?_
                refine lv_iconst (v := iI 1) X.1 X.2.1 d_Ae_setKey_131 (by decide) ?_
                refine z_isub X.1 X.2.1 d_Ae_setKey_132 ?_
                refine t_iald3 X Y S k123 (by omega) (by omega) (by omega) d_Ae_setKey_133 (fun z127 l127 u127 => ?_)
                refine lv_istore (lv' := [(9, .int (iI z127)), (8, .int (iI z126)), (7, .int (iI z125)), (6, .int (iI z124)), (0, .ref h), (3, .int (iI 16)), (4, .int (iI z114)), (5, .int (iI z115))]) X.1 X.2.1 d_Ae_setKey_134 hl (by decide) rfl (fun ls hl => ?_)
                refine lv_iload X.1 X.2.1 d_Ae_setKey_136 (lv_at hl 7 rfl) ?_
                refine lv_iload_n X.1 X.2.1 d_Ae_setKey_138 rfl (lv_at hl 5 rfl) ?_
                refine z_irem X.1 X.2.1 (by omega) (by omega) ⟨by decide, by decide⟩ d_Ae_setKey_139 ?_
                have J133 : ∀ (z128 : Int) (z129 : Int) (z130 : Int) (z131 : Int) (z132 : Int) (H : Heap) (locs : List Loc) (ls : Array Slot), (0 ≤ z128) → (z128 ≤ 255) → (0 ≤ z129) → (z129 ≤ 255) → (0 ≤ z130) → (z130 ≤ 255) → (0 ≤ z131) → (z131 ≤ 255) → (0 ≤ z132) → (z132 ≤ 255) → pH D cCl (pA L sz) s.heap L f113 H locs → tS E T (tFr κ L [2, 3, 4, 11] []) κ L f κ L f113 → lv_has ls 11 [(0, .ref h), (3, .int (iI 16)), (4, .int (iI z128)), (5, .int (iI z115)), (6, .int (iI z129)), (7, .int (iI z130)), (8, .int (iI z131)), (9, .int (iI z132))] → W p l e (kRm 1 60 0 0) s m AV below meth c H locs 0 0 QQ (F0 m 241 ls []) := by
                  intro z128 z129 z130 z131 z132 H locs ls l128 u128 l129 u129 l130 u130 l131 u131 l132 u132 Y S hl
                  refine lv_aload_n X.1 X.2.1 d_Ae_setKey_241 rfl (lv_at hl 0 rfl) ?_
                  refine t_get0 (ci := 1) X Y S k0 rfl i_Ae 2 (by decide) rfl lk_Ae_16 (fun _ h9 => h9) d_Ae_setKey_242 e123 ?_
                  refine lv_iload X.1 X.2.1 d_Ae_setKey_245 (lv_at hl 3 rfl) ?_
                  refine lv_aload_n X.1 X.2.1 d_Ae_setKey_247 rfl (lv_at hl 0 rfl) ?_
                  refine t_get0 (ci := 1) X Y S k0 rfl i_Ae 2 (by decide) rfl lk_Ae_16 (fun _ h9 => h9) d_Ae_setKey_248 e123 ?_
                  refine lv_iload X.1 X.2.1 d_Ae_setKey_251 (lv_at hl 3 rfl) ?_
                  refine lv_iload_n X.1 X.2.1 d_Ae_setKey_253 rfl (lv_at hl 1 rfl) ?_
                  refine z_isub X.1 X.2.1 d_Ae_setKey_254 ?_
                  refine t_iald3 X Y S k123 (by omega) (by omega) (by omega) d_Ae_setKey_255 (fun z137 l137 u137 => ?_)
                  refine lv_iload X.1 X.2.1 d_Ae_setKey_256 (lv_at hl 4 rfl) ?_
                  refine z_ixor X.1 X.2.1 ⟨by omega, by omega⟩ ⟨by omega, by omega⟩ d_Ae_setKey_258 (fun z138 l138 u138 => ?_)
                  refine t_iast3 X Y S k123 (by omega) (by omega) (by omega) ⟨by omega, by omega⟩ (nF_of S k123 (by decide)) d_Ae_setKey_259 (fun f139 H locs Y S w139 => ?_)
                  refine lv_aload_n X.1 X.2.1 d_Ae_setKey_260 rfl (lv_at hl 0 rfl) ?_
                  refine t_get0 (ci := 1) X Y S k0 rfl i_Ae 2 (by decide) rfl lk_Ae_16 (fun _ h9 => h9) d_Ae_setKey_261 ((gF_same (w139 _ (k_ne k0 k123 (by decide))) 2).trans e123) ?_
                  refine lv_iload X.1 X.2.1 d_Ae_setKey_264 (lv_at hl 3 rfl) ?_
                  refine lv_iconst (v := iI 1) X.1 X.2.1 d_Ae_setKey_266 (by decide) ?_
                  refine z_iadd X.1 X.2.1 d_Ae_setKey_267 ?_
                  refine lv_aload_n X.1 X.2.1 d_Ae_setKey_268 rfl (lv_at hl 0 rfl) ?_
                  refine t_get0 (ci := 1) X Y S k0 rfl i_Ae 2 (by decide) rfl lk_Ae_16 (fun _ h9 => h9) d_Ae_setKey_269 ((gF_same (w139 _ (k_ne k0 k123 (by decide))) 2).trans e123) ?_
                  refine lv_iload X.1 X.2.1 d_Ae_setKey_272 (lv_at hl 3 rfl) ?_
                  refine lv_iconst (v := iI 1) X.1 X.2.1 d_Ae_setKey_274 (by decide) ?_
                  refine z_iadd X.1 X.2.1 d_Ae_setKey_275 ?_
                  refine lv_iload_n X.1 X.2.1 d_Ae_setKey_276 rfl (lv_at hl 1 rfl) ?_
                  refine z_isub X.1 X.2.1 d_Ae_setKey_277 ?_
                  refine t_iald3 X Y S k123 (by omega) (by omega) (by omega) d_Ae_setKey_278 (fun z140 l140 u140 => ?_)
                  refine lv_iload X.1 X.2.1 d_Ae_setKey_279 (lv_at hl 5 rfl) ?_
                  refine z_ixor X.1 X.2.1 ⟨by omega, by omega⟩ ⟨by omega, by omega⟩ d_Ae_setKey_281 (fun z141 l141 u141 => ?_)
                  refine t_iast3 X Y S k123 (by omega) (by omega) (by omega) ⟨by omega, by omega⟩ (nF_of S k123 (by decide)) d_Ae_setKey_282 (fun f142 H locs Y S w142 => ?_)
                  refine lv_aload_n X.1 X.2.1 d_Ae_setKey_283 rfl (lv_at hl 0 rfl) ?_
                  refine t_get0 (ci := 1) X Y S k0 rfl i_Ae 2 (by decide) rfl lk_Ae_16 (fun _ h9 => h9) d_Ae_setKey_284 ((gF_same (w142 _ (k_ne k0 k123 (by decide))) 2).trans ((gF_same (w139 _ (k_ne k0 k123 (by decide))) 2).trans e123)) ?_
                  refine lv_iload X.1 X.2.1 d_Ae_setKey_287 (lv_at hl 3 rfl) ?_
                  refine lv_iconst (v := iI 2) X.1 X.2.1 d_Ae_setKey_289 (by decide) ?_
                  refine z_iadd X.1 X.2.1 d_Ae_setKey_290 ?_
                  refine lv_aload_n X.1 X.2.1 d_Ae_setKey_291 rfl (lv_at hl 0 rfl) ?_
                  refine t_get0 (ci := 1) X Y S k0 rfl i_Ae 2 (by decide) rfl lk_Ae_16 (fun _ h9 => h9) d_Ae_setKey_292 ((gF_same (w142 _ (k_ne k0 k123 (by decide))) 2).trans ((gF_same (w139 _ (k_ne k0 k123 (by decide))) 2).trans e123)) ?_
                  refine lv_iload X.1 X.2.1 d_Ae_setKey_295 (lv_at hl 3 rfl) ?_
                  refine lv_iconst (v := iI 2) X.1 X.2.1 d_Ae_setKey_297 (by decide) ?_
                  refine z_iadd X.1 X.2.1 d_Ae_setKey_298 ?_
                  refine lv_iload_n X.1 X.2.1 d_Ae_setKey_299 rfl (lv_at hl 1 rfl) ?_
                  refine z_isub X.1 X.2.1 d_Ae_setKey_300 ?_
                  refine t_iald3 X Y S k123 (by omega) (by omega) (by omega) d_Ae_setKey_301 (fun z143 l143 u143 => ?_)
                  refine lv_iload X.1 X.2.1 d_Ae_setKey_302 (lv_at hl 6 rfl) ?_
                  refine z_ixor X.1 X.2.1 ⟨by omega, by omega⟩ ⟨by omega, by omega⟩ d_Ae_setKey_304 (fun z144 l144 u144 => ?_)
                  refine t_iast3 X Y S k123 (by omega) (by omega) (by omega) ⟨by omega, by omega⟩ (nF_of S k123 (by decide)) d_Ae_setKey_305 (fun f145 H locs Y S w145 => ?_)
                  refine lv_aload_n X.1 X.2.1 d_Ae_setKey_306 rfl (lv_at hl 0 rfl) ?_
                  refine t_get0 (ci := 1) X Y S k0 rfl i_Ae 2 (by decide) rfl lk_Ae_16 (fun _ h9 => h9) d_Ae_setKey_307 ((gF_same (w145 _ (k_ne k0 k123 (by decide))) 2).trans ((gF_same (w142 _ (k_ne k0 k123 (by decide))) 2).trans ((gF_same (w139 _ (k_ne k0 k123 (by decide))) 2).trans e123))) ?_
                  refine lv_iload X.1 X.2.1 d_Ae_setKey_310 (lv_at hl 3 rfl) ?_
                  refine lv_iconst (v := iI 3) X.1 X.2.1 d_Ae_setKey_312 (by decide) ?_
                  refine z_iadd X.1 X.2.1 d_Ae_setKey_313 ?_
                  refine lv_aload_n X.1 X.2.1 d_Ae_setKey_314 rfl (lv_at hl 0 rfl) ?_
                  refine t_get0 (ci := 1) X Y S k0 rfl i_Ae 2 (by decide) rfl lk_Ae_16 (fun _ h9 => h9) d_Ae_setKey_315 ((gF_same (w145 _ (k_ne k0 k123 (by decide))) 2).trans ((gF_same (w142 _ (k_ne k0 k123 (by decide))) 2).trans ((gF_same (w139 _ (k_ne k0 k123 (by decide))) 2).trans e123))) ?_
                  refine lv_iload X.1 X.2.1 d_Ae_setKey_318 (lv_at hl 3 rfl) ?_
                  refine lv_iconst (v := iI 3) X.1 X.2.1 d_Ae_setKey_320 (by decide) ?_
                  refine z_iadd X.1 X.2.1 d_Ae_setKey_321 ?_
                  refine lv_iload_n X.1 X.2.1 d_Ae_setKey_322 rfl (lv_at hl 1 rfl) ?_
                  refine z_isub X.1 X.2.1 d_Ae_setKey_323 ?_
                  refine t_iald3 X Y S k123 (by omega) (by omega) (by omega) d_Ae_setKey_324 (fun z146 l146 u146 => ?_)
                  refine lv_iload X.1 X.2.1 d_Ae_setKey_325 (lv_at hl 7 rfl) ?_
                  refine z_ixor X.1 X.2.1 ⟨by omega, by omega⟩ ⟨by omega, by omega⟩ d_Ae_setKey_327 (fun z147 l147 u147 => ?_)
                  refine t_iast3 X Y S k123 (by omega) (by omega) (by omega) ⟨by omega, by omega⟩ (nF_of S k123 (by decide)) d_Ae_setKey_328 (fun f148 H locs Y S w148 => ?_)
                  refine lv_iinc (v := iI (z115 + 4)) (lv' := [(5, .int (iI (z115 + 4))), (0, .ref h), (3, .int (iI 16)), (4, .int (iI z128)), (6, .int (iI z129)), (7, .int (iI z130)), (8, .int (iI z131)), (9, .int (iI z132))]) X.1 X.2.1 d_Ae_setKey_329 hl (k := 3) rfl ((iI_add _ _).trans (congrArg iI (by omega))) (by decide) rfl (fun ls hl => ?_)
                  refine lv_goto (tgt := 78) X.1 X.2.1 d_Ae_setKey_332 (by decide) ?_
                  exact ih118 ((243 - (z115 + 4)).toNat) (by omega) z128 (z115 + 4) f148 _ _ _ rfl (by omega) (by omega) (by omega) (by omega) (by omega) Y S (lv_sub hl [1, 2, 3, 0] rfl)
                refine z_if_ne (tgt := 194) X.1 X.2.1 d_Ae_setKey_140 (by decide) ⟨by omega, by omega⟩ (fun h149 => ?_) (fun h149 => ?_)
                · refine lv_iload_n X.1 X.2.1 d_Ae_setKey_194 rfl (lv_at hl 5 rfl) ?_
                  refine lv_bipush (v := iI 32) X.1 X.2.1 d_Ae_setKey_195 (by decide) ?_
                  refine z_icmp_ne (tgt := 241) X.1 X.2.1 d_Ae_setKey_197 (by decide) ⟨by omega, by omega⟩ ⟨by omega, by omega⟩ (fun h150 => ?_) (fun h150 => False.elim (by omega))
                  · exact J133 z114 z124 z125 z126 z127 _ _ _ (by omega) (by omega) (by omega) (by omega) (by omega) (by omega) (by omega) (by omega) (by omega) (by omega) Y S (lv_sub hl [4, 5, 6, 7, 3, 2, 1, 0] rfl)
                · refine lv_iload X.1 X.2.1 d_Ae_setKey_143 (lv_at hl 3 rfl) ?_
                  refine lv_istore (lv' := [(10, .int (iI z124)), (9, .int (iI z127)), (8, .int (iI z126)), (7, .int (iI z125)), (6, .int (iI z124)), (0, .ref h), (3, .int (iI 16)), (4, .int (iI z114)), (5, .int (iI z115))]) X.1 X.2.1 d_Ae_setKey_145 hl (by decide) rfl (fun ls hl => ?_)
                  refine k_gets 1 (by decide) X Y KS sk_Ae_29 d_Ae_setKey_147 ?_
                  refine lv_iload X.1 X.2.1 d_Ae_setKey_150 (lv_at hl 3 rfl) ?_
                  refine t_box X Y KS (by omega) (by omega) d_Ae_setKey_152 (fun z151 l151 u151 => ?_)
                  refine lv_iload X.1 X.2.1 d_Ae_setKey_153 (lv_at hl 7 rfl) ?_
                  refine z_ixor X.1 X.2.1 ⟨by omega, by omega⟩ ⟨by omega, by omega⟩ d_Ae_setKey_155 (fun z152 l152 u152 => ?_)
                  refine lv_istore (lv' := [(6, .int (iI z152)), (10, .int (iI z124)), (9, .int (iI z127)), (8, .int (iI z126)), (7, .int (iI z125)), (0, .ref h), (3, .int (iI 16)), (4, .int (iI z114)), (5, .int (iI z115))]) X.1 X.2.1 d_Ae_setKey_156 hl (by decide) rfl (fun ls hl => ?_)
                  refine k_gets 1 (by decide) X Y KS sk_Ae_29 d_Ae_setKey_158 ?_
                  refine lv_iload X.1 X.2.1 d_Ae_setKey_161 (lv_at hl 3 rfl) ?_
                  refine t_box X Y KS (by omega) (by omega) d_Ae_setKey_163 (fun z153 l153 u153 => ?_)
                  refine lv_istore (lv' := [(7, .int (iI z153)), (6, .int (iI z152)), (10, .int (iI z124)), (9, .int (iI z127)), (8, .int (iI z126)), (0, .ref h), (3, .int (iI 16)), (4, .int (iI z114)), (5, .int (iI z115))]) X.1 X.2.1 d_Ae_setKey_164 hl (by decide) rfl (fun ls hl => ?_)
                  refine k_gets 1 (by decide) X Y KS sk_Ae_29 d_Ae_setKey_166 ?_
                  refine lv_iload X.1 X.2.1 d_Ae_setKey_169 (lv_at hl 3 rfl) ?_
                  refine t_box X Y KS (by omega) (by omega) d_Ae_setKey_171 (fun z154 l154 u154 => ?_)
                  refine lv_istore (lv' := [(8, .int (iI z154)), (7, .int (iI z153)), (6, .int (iI z152)), (10, .int (iI z124)), (9, .int (iI z127)), (0, .ref h), (3, .int (iI 16)), (4, .int (iI z114)), (5, .int (iI z115))]) X.1 X.2.1 d_Ae_setKey_172 hl (by decide) rfl (fun ls hl => ?_)
                  refine k_gets 1 (by decide) X Y KS sk_Ae_29 d_Ae_setKey_174 ?_
                  refine lv_iload X.1 X.2.1 d_Ae_setKey_177 (lv_at hl 3 rfl) ?_
                  refine t_box X Y KS (by omega) (by omega) d_Ae_setKey_179 (fun z155 l155 u155 => ?_)
                  refine lv_istore (lv' := [(9, .int (iI z155)), (8, .int (iI z154)), (7, .int (iI z153)), (6, .int (iI z152)), (10, .int (iI z124)), (0, .ref h), (3, .int (iI 16)), (4, .int (iI z114)), (5, .int (iI z115))]) X.1 X.2.1 d_Ae_setKey_180 hl (by decide) rfl (fun ls hl => ?_)
                  refine lv_aload_n X.1 X.2.1 d_Ae_setKey_182 rfl (lv_at hl 5 rfl) ?_
                  refine t_getr (ci := 1) X Y S k0 rfl i_Ae 1 (by decide) rfl (k1 := 3) (k2 := 256) rfl rfl lk_Ae_13 (fun _ h9 => h9) d_Ae_setKey_183 (fun b156 e156 k156 => ?_)
                  refine lv_iload X.1 X.2.1 d_Ae_setKey_186 (lv_at hl 7 rfl) ?_
                  refine t_iald3 X Y S k156 (by omega) (by omega) (by omega) d_Ae_setKey_188 (fun z157 l157 u157 => ?_)
                  refine lv_istore (lv' := [(4, .int (iI z157)), (9, .int (iI z155)), (8, .int (iI z154)), (7, .int (iI z153)), (6, .int (iI z152)), (10, .int (iI z124)), (0, .ref h), (3, .int (iI 16)), (5, .int (iI z115))]) X.1 X.2.1 d_Ae_setKey_189 hl (by decide) rfl (fun ls hl => ?_)
                  refine lv_goto (tgt := 241) X.1 X.2.1 d_Ae_setKey_191 (by decide) ?_
                  exact J133 z157 z152 z153 z154 z155 _ _ _ (by omega) (by omega) (by omega) (by omega) (by omega) (by omega) (by omega) (by omega) (by omega) (by omega) Y S (lv_sub hl [6, 7, 0, 8, 4, 3, 2, 1] rfl)
          refine lv_istore (lv' := [(5, .int (iI 16)), (4, .int (iI 1)), (0, .ref h), (1, .ref a1), (3, .int (iI 16))]) X.1 X.2.1 d_Ae_setKey_76 hl (by decide) rfl (fun ls hl => ?_)
          exact J117 _ 1 16 f106 _ _ _ rfl (by omega) (by omega) (by omega) (by omega) (by omega) Y S (lv_sub hl [2, 4, 1, 0] rfl)
        · refine lv_aload_n X.1 X.2.1 d_Ae_setKey_40 rfl (lv_at hl 0 rfl) ?_
          refine t_getr (ci := 1) X Y S k0 rfl i_Ae 2 (by decide) rfl (k1 := 3) (k2 := 240) rfl rfl lk_Ae_16 (fun _ h9 => h9) d_Ae_setKey_41 (fun b158 e158 k158 => ?_)
          refine lv_iload X.1 X.2.1 d_Ae_setKey_44 (lv_at hl 3 rfl) ?_
          refine lv_iload X.1 X.2.1 d_Ae_setKey_46 (lv_at hl 3 rfl) ?_
          refine lv_aload_n X.1 X.2.1 d_Ae_setKey_48 rfl (lv_at hl 1 rfl) ?_
          refine t_alen X Y S KS k1 (by omega) d_Ae_setKey_49 ?_
          have J160 : ∀ (z159 : Int) (H : Heap) (locs : List Loc) (ls : Array Slot), (0 ≤ z159) → (z159 ≤ 255) → pH D cCl (pA L sz) s.heap L f106 H locs → tS E T (tFr κ L [2, 3, 4, 11] []) κ L f κ L f106 → lv_has ls 11 [(0, .ref h), (1, .ref a1), (3, .int (iI 16)), (4, .int (iI z107))] → W p l e (kRm 1 60 0 0) s m AV below meth c H locs 0 0 QQ (F0 m 65 ls [.int (iI z159), .int (iI z107), .ref b158]) := by
            intro z159 H locs ls l159 u159 Y S hl
            refine t_iast3 X Y S k158 (by omega) (by omega) (by omega) ⟨by omega, by omega⟩ (nF_of S k158 (by decide)) d_Ae_setKey_65 (fun f164 H locs Y S w164 => ?_)
            refine lv_iinc (v := iI (z107 + 1)) (lv' := [(4, .int (iI (z107 + 1))), (0, .ref h), (1, .ref a1), (3, .int (iI 16))]) X.1 X.2.1 d_Ae_setKey_66 hl (k := 3) rfl ((iI_add _ _).trans (congrArg iI (by omega))) (by decide) rfl (fun ls hl => ?_)
            refine lv_goto (tgt := 34) X.1 X.2.1 d_Ae_setKey_69 (by decide) ?_
            exact ih109 ((16 - (z107 + 1)).toNat) (by omega) (z107 + 1) f164 _ _ _ rfl (by omega) (by omega) Y S (lv_sub hl [1, 2, 3, 0] rfl)
          refine z_icmp_ge (tgt := 64) X.1 X.2.1 d_Ae_setKey_50 (by decide) ⟨by omega, by omega⟩ ⟨by omega, by omega⟩ (fun h165 => ?_) (fun h165 => ?_)
          · refine lv_iconst (v := iI 0) X.1 X.2.1 d_Ae_setKey_64 (by decide) ?_
            exact J160 0 _ _ _ (by omega) (by omega) Y S (lv_sub hl [0, 1, 2, 3] rfl)
          · refine lv_aload_n X.1 X.2.1 d_Ae_setKey_53 rfl (lv_at hl 1 rfl) ?_
            refine lv_iload X.1 X.2.1 d_Ae_setKey_54 (lv_at hl 3 rfl) ?_
            refine t_bald X Y S k1 (by omega) (by omega) (by omega) d_Ae_setKey_56 (fun z166 l166 u166 => ?_)
            refine lv_sipush (v := iI 255) X.1 X.2.1 d_Ae_setKey_57 (by decide) ?_
            refine z_iand X.1 X.2.1 (by omega) (by omega) d_Ae_setKey_60 (fun z167 l167 u167 => ?_)
            refine lv_goto (tgt := 65) X.1 X.2.1 d_Ae_setKey_61 (by decide) ?_
            exact J160 z167 _ _ _ (by omega) (by omega) Y S (lv_sub hl [0, 1, 2, 3] rfl)
    refine lv_istore (lv' := [(4, .int (iI 0)), (3, .int (iI 16)), (0, .ref h), (1, .ref a1)]) X.1 X.2.1 d_Ae_setKey_32 hl (by decide) rfl (fun ls hl => ?_)
    exact J108 _ 0 f105 _ _ _ rfl (by omega) (by omega) Y S (lv_sub hl [2, 3, 1, 0] rfl)
  refine z_icmp_ne (tgt := 18) X.1 X.2.1 d_Ae_setKey_3 (by decide) ⟨by omega, by omega⟩ ⟨by omega, by omega⟩ (fun h168 => ?_) (fun h168 => ?_)
  · exact J101  _ _ _  Y S (lv_sub hl [0, 1] rfl)
  · refine lv_aload_n X.1 X.2.1 d_Ae_setKey_6 rfl (lv_at hl 1 rfl) ?_
    refine t_alen X Y S KS k1 (by omega) d_Ae_setKey_7 ?_
    refine lv_bipush (v := iI 32) X.1 X.2.1 d_Ae_setKey_8 (by decide) ?_
    refine z_icmp_lt (tgt := 18) X.1 X.2.1 d_Ae_setKey_10 (by decide) ⟨by omega, by omega⟩ ⟨by omega, by omega⟩ (fun h169 => ?_) (fun h169 => ?_)
    · exact J101  _ _ _  Y S (lv_sub hl [0, 1] rfl)
    · refine lv_bipush (v := iI 32) X.1 X.2.1 d_Ae_setKey_13 (by decide) ?_
      refine lv_goto (tgt := 20) X.1 X.2.1 d_Ae_setKey_15 (by decide) ?_
      refine lv_istore_n (lv' := [(3, .int (iI 32)), (0, .ref h), (1, .ref a1), (2, .int (iI a2))]) X.1 X.2.1 d_Ae_setKey_20 rfl hl (by decide) rfl (fun ls hl => ?_)
      refine lv_aload_n X.1 X.2.1 d_Ae_setKey_21 rfl (lv_at hl 1 rfl) ?_
      refine lv_iload_n X.1 X.2.1 d_Ae_setKey_22 rfl (lv_at hl 0 rfl) ?_
      refine lv_iconst (v := iI 4) X.1 X.2.1 d_Ae_setKey_23 (by decide) ?_
      refine z_idiv X.1 X.2.1 (by decide) (by decide) ⟨by decide, by decide⟩ d_Ae_setKey_24 ?_
      refine t_eq (y := iI 8) (by decide) ?_
      refine lv_bipush (v := iI 6) X.1 X.2.1 d_Ae_setKey_25 (by decide) ?_
      refine z_iadd X.1 X.2.1 d_Ae_setKey_27 ?_
      refine t_eq (y := iI 14) (by decide) ?_
      refine t_put (ci := 1) X Y S k0 rfl i_Ae t_Ae t_Ae_ok n_Ae 3 (by decide) rfl lk_Ae_32 (fun _ h9 => h9) rfl (t_Ae_ok 3 (by decide)) rfl rfl ⟨_, rfl, (show (0 : Int) ≤ 14 by omega), (show 14 ≤ (14 : Int) by omega)⟩ (nF_of S k0 (by decide)) d_Ae_setKey_28 (fun f170 H locs Y S w170 => ?_)
      refine lv_iconst (v := iI 0) X.1 X.2.1 d_Ae_setKey_31 (by decide) ?_
      have J173 : ∀ (n175 : Nat) (z172 : Int) (f171 : pF) (H : Heap) (locs : List Loc) (ls : Array Slot), (32 - z172).toNat = n175 → (0 ≤ z172) → (z172 ≤ 32) → pH D cCl (pA L sz) s.heap L f171 H locs → tS E T (tFr κ L [2, 3, 4, 11] []) κ L f κ L f171 → lv_has ls 11 [(0, .ref h), (1, .ref a1), (3, .int (iI 32)), (4, .int (iI z172))] → W p l e (kRm 1 60 0 0) s m AV below meth c H locs 0 0 QQ (F0 m 34 ls []) := by
        intro n175
        induction n175 using Nat.strongRecOn with
        | ind n175 ih174 =>
          intro z172 f171 H locs ls hm176 l172 u172 Y S hl
          refine lv_iload X.1 X.2.1 d_Ae_setKey_34 (lv_at hl 3 rfl) ?_
          refine lv_iload_n X.1 X.2.1 d_Ae_setKey_36 rfl (lv_at hl 2 rfl) ?_
          refine z_icmp_ge (tgt := 72) X.1 X.2.1 d_Ae_setKey_37 (by decide) ⟨by omega, by omega⟩ ⟨by omega, by omega⟩ (fun h177 => ?_) (fun h177 => ?_)
          · refine lv_iconst (v := iI 1) X.1 X.2.1 d_Ae_setKey_72 (by decide) ?_
            refine lv_istore (lv' := [(4, .int (iI 1)), (0, .ref h), (1, .ref a1), (3, .int (iI 32))]) X.1 X.2.1 d_Ae_setKey_73 hl (by decide) rfl (fun ls hl => ?_)
            refine lv_iload_n X.1 X.2.1 d_Ae_setKey_75 rfl (lv_at hl 3 rfl) ?_
            have J182 : ∀ (n184 : Nat) (z179 : Int) (z180 : Int) (f178 : pF) (H : Heap) (locs : List Loc) (ls : Array Slot), (243 - z180).toNat = n184 → (0 ≤ z179) → (z179 ≤ 255) → (32 ≤ z180) → (z180 ≤ 243) → (z180 % 4 = 0) → pH D cCl (pA L sz) s.heap L f178 H locs → tS E T (tFr κ L [2, 3, 4, 11] []) κ L f κ L f178 → lv_has ls 11 [(0, .ref h), (3, .int (iI 32)), (4, .int (iI z179)), (5, .int (iI z180))] → W p l e (kRm 1 60 0 0) s m AV below meth c H locs 0 0 QQ (F0 m 78 ls []) := by
              intro n184
              induction n184 using Nat.strongRecOn with
              | ind n184 ih183 =>
                intro z179 z180 f178 H locs ls hm185 l179 u179 l180 u180 i181 Y S hl
                refine lv_iload X.1 X.2.1 d_Ae_setKey_78 (lv_at hl 3 rfl) ?_
                refine lv_bipush (v := iI 16) X.1 X.2.1 d_Ae_setKey_80 (by decide) ?_
                refine lv_aload_n X.1 X.2.1 d_Ae_setKey_82 rfl (lv_at hl 0 rfl) ?_
                refine t_geti (ci := 1) X Y S k0 rfl i_Ae 3 (by decide) rfl lk_Ae_32 (fun _ h9 => h9) d_Ae_setKey_83 (fun z186 e186 l186 u186 => ?_)
                refine lv_iconst (v := iI 1) X.1 X.2.1 d_Ae_setKey_86 (by decide) ?_
                refine z_iadd X.1 X.2.1 d_Ae_setKey_87 ?_
                refine z_imul X.1 X.2.1 d_Ae_setKey_88 ?_
                refine z_icmp_ge (tgt := 335) X.1 X.2.1 d_Ae_setKey_89 (by decide) ⟨by omega, by omega⟩ ⟨by omega, by omega⟩ (fun h187 => ?_) (fun h187 => ?_)
                · exact c_retv hQQ X Y hr hlk ⟨rfl, S, trivial⟩ d_Ae_setKey_335
                · refine lv_aload_n X.1 X.2.1 d_Ae_setKey_92 rfl (lv_at hl 0 rfl) ?_
                  refine t_getr (ci := 1) X Y S k0 rfl i_Ae 2 (by decide) rfl (k1 := 3) (k2 := 240) rfl rfl lk_Ae_16 (fun _ h9 => h9) d_Ae_setKey_93 (fun b188 e188 k188 => ?_)
                  refine lv_iload X.1 X.2.1 d_Ae_setKey_96 (lv_at hl 3 rfl) ?_
                  refine lv_iconst (v := iI 4) X.1 X.2.1 d_Ae_setKey_98 (by decide) ?_
                  refine z_isub X.1 X.2.1 d_Ae_setKey_99 ?_
                  refine t_iald3 X Y S k188 (by omega) (by omega) (by omega) d_Ae_setKey_100 (fun z189 l189 u189 => ?_)
                  refine lv_istore (lv' := [(6, .int (iI z189)), (0, .ref h), (3, .int (iI 32)), (4, .int (iI z179)), (5, .int (iI z180))]) X.1 X.2.1 d_Ae_setKey_101 hl (by decide) rfl (fun ls hl => ?_)
                  refine lv_aload_n X.1 X.2.1 d_Ae_setKey_103 rfl (lv_at hl 1 rfl) ?_
                  refine t_get0 (ci := 1) X Y S k0 rfl i_Ae 2 (by decide) rfl lk_Ae_16 (fun _ h9 => h9) d_Ae_setKey_104 e188 ?_
                  refine lv_iload X.1 X.2.1 d_Ae_setKey_107 (lv_at hl 4 rfl) ?_
                  refine lv_iconst (v := iI 3) X.1 X.2.1 d_Ae_setKey_109 (by decide) ?_
                  refine z_isub X.1 X.2.1 d_Ae_setKey_110 ?_
                  refine t_iald3 X Y S k188 (by omega) (by omega) (by omega) d_Ae_setKey_111 (fun z190 l190 u190 => ?_)
                  refine lv_istore (lv' := [(7, .int (iI z190)), (6, .int (iI z189)), (0, .ref h), (3, .int (iI 32)), (4, .int (iI z179)), (5, .int (iI z180))]) X.1 X.2.1 d_Ae_setKey_112 hl (by decide) rfl (fun ls hl => ?_)
                  refine lv_aload_n X.1 X.2.1 d_Ae_setKey_114 rfl (lv_at hl 2 rfl) ?_
                  refine t_get0 (ci := 1) X Y S k0 rfl i_Ae 2 (by decide) rfl lk_Ae_16 (fun _ h9 => h9) d_Ae_setKey_115 e188 ?_
                  refine lv_iload X.1 X.2.1 d_Ae_setKey_118 (lv_at hl 5 rfl) ?_
                  refine lv_iconst (v := iI 2) X.1 X.2.1 d_Ae_setKey_120 (by decide) ?_
                  refine z_isub X.1 X.2.1 d_Ae_setKey_121 ?_
                  refine t_iald3 X Y S k188 (by omega) (by omega) (by omega) d_Ae_setKey_122 (fun z191 l191 u191 => ?_)
                  refine lv_istore (lv' := [(8, .int (iI z191)), (7, .int (iI z190)), (6, .int (iI z189)), (0, .ref h), (3, .int (iI 32)), (4, .int (iI z179)), (5, .int (iI z180))]) X.1 X.2.1 d_Ae_setKey_123 hl (by decide) rfl (fun ls hl => ?_)
                  refine lv_aload_n X.1 X.2.1 d_Ae_setKey_125 rfl (lv_at hl 3 rfl) ?_
                  refine t_get0 (ci := 1) X Y S k0 rfl i_Ae 2 (by decide) rfl lk_Ae_16 (fun _ h9 => h9) d_Ae_setKey_126 e188 ?_
                  refine lv_iload X.1 X.2.1 d_Ae_setKey_129 (lv_at hl 6 rfl) ?_
                  refine lv_iconst (v := iI 1) X.1 X.2.1 d_Ae_setKey_131 (by decide) ?_
                  refine z_isub X.1 X.2.1 d_Ae_setKey_132 ?_
                  refine t_iald3 X Y S k188 (by omega) (by omega) (by omega) d_Ae_setKey_133 (fun z192 l192 u192 => ?_)
                  refine lv_istore (lv' := [(9, .int (iI z192)), (8, .int (iI z191)), (7, .int (iI z190)), (6, .int (iI z189)), (0, .ref h), (3, .int (iI 32)), (4, .int (iI z179)), (5, .int (iI z180))]) X.1 X.2.1 d_Ae_setKey_134 hl (by decide) rfl (fun ls hl => ?_)
                  refine lv_iload X.1 X.2.1 d_Ae_setKey_136 (lv_at hl 7 rfl) ?_
                  refine lv_iload_n X.1 X.2.1 d_Ae_setKey_138 rfl (lv_at hl 5 rfl) ?_
                  refine z_irem X.1 X.2.1 (by omega) (by omega) ⟨by decide, by decide⟩ d_Ae_setKey_139 ?_
                  have J198 : ∀ (z193 : Int) (z194 : Int) (z195 : Int) (z196 : Int) (z197 : Int) (H : Heap) (locs : List Loc) (ls : Array Slot), (0 ≤ z193) → (z193 ≤ 255) → (0 ≤ z194) → (z194 ≤ 255) → (0 ≤ z195) → (z195 ≤ 255) → (0 ≤ z196) → (z196 ≤ 255) → (0 ≤ z197) → (z197 ≤ 255) → pH D cCl (pA L sz) s.heap L f178 H locs → tS E T (tFr κ L [2, 3, 4, 11] []) κ L f κ L f178 → lv_has ls 11 [(0, .ref h), (3, .int (iI 32)), (4, .int (iI z193)), (5, .int (iI z180)), (6, .int (iI z194)), (7, .int (iI z195)), (8, .int (iI z196)), (9, .int (iI z197))] → W p l e (kRm 1 60 0 0) s m AV below meth c H locs 0 0 QQ (F0 m 241 ls []) := by
                    intro z193 z194 z195 z196 z197 H locs ls l193 u193 l194 u194 l195 u195 l196 u196 l197 u197 Y S hl
                    refine lv_aload_n X.1 X.2.1 d_Ae_setKey_241 rfl (lv_at hl 0 rfl) ?_
                    refine t_get0 (ci := 1) X Y S k0 rfl i_Ae 2 (by decide) rfl lk_Ae_16 (fun _ h9 => h9) d_Ae_setKey_242 e188 ?_
                    refine lv_iload X.1 X.2.1 d_Ae_setKey_245 (lv_at hl 3 rfl) ?_
                    refine lv_aload_n X.1 X.2.1 d_Ae_setKey_247 rfl (lv_at hl 0 rfl) ?_
                    refine t_get0 (ci := 1) X Y S k0 rfl i_Ae 2 (by decide) rfl lk_Ae_16 (fun _ h9 => h9) d_Ae_setKey_248 e188 ?_
                    refine lv_iload X.1 X.2.1 d_Ae_setKey_251 (lv_at hl 3 rfl) ?_
                    refine lv_iload_n X.1 X.2.1 d_Ae_setKey_253 rfl (lv_at hl 1 rfl) ?_
                    refine z_isub X.1 X.2.1 d_Ae_setKey_254 ?_
                    refine t_iald3 X Y S k188 (by omega) (by omega) (by omega) d_Ae_setKey_255 (fun z202 l202 u202 => ?_)
                    refine lv_iload X.1 X.2.1 d_Ae_setKey_256 (lv_at hl 4 rfl) ?_
                    refine z_ixor X.1 X.2.1 ⟨by omega, by omega⟩ ⟨by omega, by omega⟩ d_Ae_setKey_258 (fun z203 l203 u203 => ?_)
                    refine t_iast3 X Y S k188 (by omega) (by omega) (by omega) ⟨by omega, by omega⟩ (nF_of S k188 (by decide)) d_Ae_setKey_259 (fun f204 H locs Y S w204 => ?_)
                    refine lv_aload_n X.1 X.2.1 d_Ae_setKey_260 rfl (lv_at hl 0 rfl) ?_
                    refine t_get0 (ci := 1) X Y S k0 rfl i_Ae 2 (by decide) rfl lk_Ae_16 (fun _ h9 => h9) d_Ae_setKey_261 ((gF_same (w204 _ (k_ne k0 k188 (by decide))) 2).trans e188) ?_
                    refine lv_iload X.1 X.2.1 d_Ae_setKey_264 (lv_at hl 3 rfl) ?_
                    refine lv_iconst (v := iI 1) X.1 X.2.1 d_Ae_setKey_266 (by decide) ?_
                    refine z_iadd X.1 X.2.1 d_Ae_setKey_267 ?_
                    refine lv_aload_n X.1 X.2.1 d_Ae_setKey_268 rfl (lv_at hl 0 rfl) ?_
                    refine t_get0 (ci := 1) X Y S k0 rfl i_Ae 2 (by decide) rfl lk_Ae_16 (fun _ h9 => h9) d_Ae_setKey_269 ((gF_same (w204 _ (k_ne k0 k188 (by decide))) 2).trans e188) ?_
                    refine lv_iload X.1 X.2.1 d_Ae_setKey_272 (lv_at hl 3 rfl) ?_
                    refine lv_iconst (v := iI 1) X.1 X.2.1 d_Ae_setKey_274 (by decide) ?_
                    refine z_iadd X.1 X.2.1 d_Ae_setKey_275 ?_
                    refine lv_iload_n X.1 X.2.1 d_Ae_setKey_276 rfl (lv_at hl 1 rfl) ?_
                    refine z_isub X.1 X.2.1 d_Ae_setKey_277 ?_
                    refine t_iald3 X Y S k188 (by omega) (by omega) (by omega) d_Ae_setKey_278 (fun z205 l205 u205 => ?_)
                    refine lv_iload X.1 X.2.1 d_Ae_setKey_279 (lv_at hl 5 rfl) ?_
                    refine z_ixor X.1 X.2.1 ⟨by omega, by omega⟩ ⟨by omega, by omega⟩ d_Ae_setKey_281 (fun z206 l206 u206 => ?_)
                    refine t_iast3 X Y S k188 (by omega) (by omega) (by omega) ⟨by omega, by omega⟩ (nF_of S k188 (by decide)) d_Ae_setKey_282 (fun f207 H locs Y S w207 => ?_)
                    refine lv_aload_n X.1 X.2.1 d_Ae_setKey_283 rfl (lv_at hl 0 rfl) ?_
                    refine t_get0 (ci := 1) X Y S k0 rfl i_Ae 2 (by decide) rfl lk_Ae_16 (fun _ h9 => h9) d_Ae_setKey_284 ((gF_same (w207 _ (k_ne k0 k188 (by decide))) 2).trans ((gF_same (w204 _ (k_ne k0 k188 (by decide))) 2).trans e188)) ?_
                    refine lv_iload X.1 X.2.1 d_Ae_setKey_287 (lv_at hl 3 rfl) ?_
                    refine lv_iconst (v := iI 2) X.1 X.2.1 d_Ae_setKey_289 (by decide) ?_
                    refine z_iadd X.1 X.2.1 d_Ae_setKey_290 ?_
                    refine lv_aload_n X.1 X.2.1 d_Ae_setKey_291 rfl (lv_at hl 0 rfl) ?_
                    refine t_get0 (ci := 1) X Y S k0 rfl i_Ae 2 (by decide) rfl lk_Ae_16 (fun _ h9 => h9) d_Ae_setKey_292 ((gF_same (w207 _ (k_ne k0 k188 (by decide))) 2).trans ((gF_same (w204 _ (k_ne k0 k188 (by decide))) 2).trans e188)) ?_
                    refine lv_iload X.1 X.2.1 d_Ae_setKey_295 (lv_at hl 3 rfl) ?_
                    refine lv_iconst (v := iI 2) X.1 X.2.1 d_Ae_setKey_297 (by decide) ?_
                    refine z_iadd X.1 X.2.1 d_Ae_setKey_298 ?_
                    refine lv_iload_n X.1 X.2.1 d_Ae_setKey_299 rfl (lv_at hl 1 rfl) ?_
                    refine z_isub X.1 X.2.1 d_Ae_setKey_300 ?_
                    refine t_iald3 X Y S k188 (by omega) (by omega) (by omega) d_Ae_setKey_301 (fun z208 l208 u208 => ?_)
                    refine lv_iload X.1 X.2.1 d_Ae_setKey_302 (lv_at hl 6 rfl) ?_
                    refine z_ixor X.1 X.2.1 ⟨by omega, by omega⟩ ⟨by omega, by omega⟩ d_Ae_setKey_304 (fun z209 l209 u209 => ?_)
                    refine t_iast3 X Y S k188 (by omega) (by omega) (by omega) ⟨by omega, by omega⟩ (nF_of S k188 (by decide)) d_Ae_setKey_305 (fun f210 H locs Y S w210 => ?_)
                    refine lv_aload_n X.1 X.2.1 d_Ae_setKey_306 rfl (lv_at hl 0 rfl) ?_
                    refine t_get0 (ci := 1) X Y S k0 rfl i_Ae 2 (by decide) rfl lk_Ae_16 (fun _ h9 => h9) d_Ae_setKey_307 ((gF_same (w210 _ (k_ne k0 k188 (by decide))) 2).trans ((gF_same (w207 _ (k_ne k0 k188 (by decide))) 2).trans ((gF_same (w204 _ (k_ne k0 k188 (by decide))) 2).trans e188))) ?_
                    refine lv_iload X.1 X.2.1 d_Ae_setKey_310 (lv_at hl 3 rfl) ?_
                    refine lv_iconst (v := iI 3) X.1 X.2.1 d_Ae_setKey_312 (by decide) ?_
                    refine z_iadd X.1 X.2.1 d_Ae_setKey_313 ?_
                    refine lv_aload_n X.1 X.2.1 d_Ae_setKey_314 rfl (lv_at hl 0 rfl) ?_
                    refine t_get0 (ci := 1) X Y S k0 rfl i_Ae 2 (by decide) rfl lk_Ae_16 (fun _ h9 => h9) d_Ae_setKey_315 ((gF_same (w210 _ (k_ne k0 k188 (by decide))) 2).trans ((gF_same (w207 _ (k_ne k0 k188 (by decide))) 2).trans ((gF_same (w204 _ (k_ne k0 k188 (by decide))) 2).trans e188))) ?_
                    refine lv_iload X.1 X.2.1 d_Ae_setKey_318 (lv_at hl 3 rfl) ?_
                    refine lv_iconst (v := iI 3) X.1 X.2.1 d_Ae_setKey_320 (by decide) ?_
                    refine z_iadd X.1 X.2.1 d_Ae_setKey_321 ?_
                    refine lv_iload_n X.1 X.2.1 d_Ae_setKey_322 rfl (lv_at hl 1 rfl) ?_
                    refine z_isub X.1 X.2.1 d_Ae_setKey_323 ?_
                    refine t_iald3 X Y S k188 (by omega) (by omega) (by omega) d_Ae_setKey_324 (fun z211 l211 u211 => ?_)
                    refine lv_iload X.1 X.2.1 d_Ae_setKey_325 (lv_at hl 7 rfl) ?_
                    refine z_ixor X.1 X.2.1 ⟨by omega, by omega⟩ ⟨by omega, by omega⟩ d_Ae_setKey_327 (fun z212 l212 u212 => ?_)
                    refine t_iast3 X Y S k188 (by omega) (by omega) (by omega) ⟨by omega, by omega⟩ (nF_of S k188 (by decide)) d_Ae_setKey_328 (fun f213 H locs Y S w213 => ?_)
                    refine lv_iinc (v := iI (z180 + 4)) (lv' := [(5, .int (iI (z180 + 4))), (0, .ref h), (3, .int (iI 32)), (4, .int (iI z193)), (6, .int (iI z194)), (7, .int (iI z195)), (8, .int (iI z196)), (9, .int (iI z197))]) X.1 X.2.1 d_Ae_setKey_329 hl (k := 3) rfl ((iI_add _ _).trans (congrArg iI (by omega))) (by decide) rfl (fun ls hl => ?_)
                    refine lv_goto (tgt := 78) X.1 X.2.1 d_Ae_setKey_332 (by decide) ?_
                    exact ih183 ((243 - (z180 + 4)).toNat) (by omega) z193 (z180 + 4) f213 _ _ _ rfl (by omega) (by omega) (by omega) (by omega) (by omega) Y S (lv_sub hl [1, 2, 3, 0] rfl)
                  refine z_if_ne (tgt := 194) X.1 X.2.1 d_Ae_setKey_140 (by decide) ⟨by omega, by omega⟩ (fun h214 => ?_) (fun h214 => ?_)
                  · refine lv_iload_n X.1 X.2.1 d_Ae_setKey_194 rfl (lv_at hl 5 rfl) ?_
                    refine lv_bipush (v := iI 32) X.1 X.2.1 d_Ae_setKey_195 (by decide) ?_
                    refine z_icmp_ne (tgt := 241) X.1 X.2.1 d_Ae_setKey_197 (by decide) ⟨by omega, by omega⟩ ⟨by omega, by omega⟩ (fun h215 => False.elim (by omega)) (fun h215 => ?_)
                    · refine lv_iload X.1 X.2.1 d_Ae_setKey_200 (lv_at hl 7 rfl) ?_
                      refine lv_iload_n X.1 X.2.1 d_Ae_setKey_202 rfl (lv_at hl 5 rfl) ?_
                      refine z_irem X.1 X.2.1 (by omega) (by omega) ⟨by decide, by decide⟩ d_Ae_setKey_203 ?_
                      refine lv_bipush (v := iI 16) X.1 X.2.1 d_Ae_setKey_204 (by decide) ?_
                      refine z_icmp_ne (tgt := 241) X.1 X.2.1 d_Ae_setKey_206 (by decide) ⟨by omega, by omega⟩ ⟨by omega, by omega⟩ (fun h216 => ?_) (fun h216 => ?_)
                      · exact J198 z179 z189 z190 z191 z192 _ _ _ (by omega) (by omega) (by omega) (by omega) (by omega) (by omega) (by omega) (by omega) (by omega) (by omega) Y S (lv_sub hl [4, 5, 6, 7, 3, 2, 1, 0] rfl)
                      · refine k_gets 1 (by decide) X Y KS sk_Ae_29 d_Ae_setKey_209 ?_
                        refine lv_iload X.1 X.2.1 d_Ae_setKey_212 (lv_at hl 3 rfl) ?_
                        refine t_box X Y KS (by omega) (by omega) d_Ae_setKey_214 (fun z217 l217 u217 => ?_)
                        refine lv_istore (lv' := [(6, .int (iI z217)), (9, .int (iI z192)), (8, .int (iI z191)), (7, .int (iI z190)), (0, .ref h), (3, .int (iI 32)), (4, .int (iI z179)), (5, .int (iI z180))]) X.1 X.2.1 d_Ae_setKey_215 hl (by decide) rfl (fun ls hl => ?_)
                        refine k_gets 1 (by decide) X Y KS sk_Ae_29 d_Ae_setKey_217 ?_
                        refine lv_iload X.1 X.2.1 d_Ae_setKey_220 (lv_at hl 3 rfl) ?_
                        refine t_box X Y KS (by omega) (by omega) d_Ae_setKey_222 (fun z218 l218 u218 => ?_)
                        refine lv_istore (lv' := [(7, .int (iI z218)), (6, .int (iI z217)), (9, .int (iI z192)), (8, .int (iI z191)), (0, .ref h), (3, .int (iI 32)), (4, .int (iI z179)), (5, .int (iI z180))]) X.1 X.2.1 d_Ae_setKey_223 hl (by decide) rfl (fun ls hl => ?_)
                        refine k_gets 1 (by decide) X Y KS sk_Ae_29 d_Ae_setKey_225 ?_
                        refine lv_iload X.1 X.2.1 d_Ae_setKey_228 (lv_at hl 3 rfl) ?_
                        refine t_box X Y KS (by omega) (by omega) d_Ae_setKey_230 (fun z219 l219 u219 => ?_)
                        refine lv_istore (lv' := [(8, .int (iI z219)), (7, .int (iI z218)), (6, .int (iI z217)), (9, .int (iI z192)), (0, .ref h), (3, .int (iI 32)), (4, .int (iI z179)), (5, .int (iI z180))]) X.1 X.2.1 d_Ae_setKey_231 hl (by decide) rfl (fun ls hl => ?_)
                        refine k_gets 1 (by decide) X Y KS sk_Ae_29 d_Ae_setKey_233 ?_
                        refine lv_iload X.1 X.2.1 d_Ae_setKey_236 (lv_at hl 3 rfl) ?_
                        refine t_box X Y KS (by omega) (by omega) d_Ae_setKey_238 (fun z220 l220 u220 => ?_)
                        refine lv_istore (lv' := [(9, .int (iI z220)), (8, .int (iI z219)), (7, .int (iI z218)), (6, .int (iI z217)), (0, .ref h), (3, .int (iI 32)), (4, .int (iI z179)), (5, .int (iI z180))]) X.1 X.2.1 d_Ae_setKey_239 hl (by decide) rfl (fun ls hl => ?_)
                        exact J198 z179 z217 z218 z219 z220 _ _ _ (by omega) (by omega) (by omega) (by omega) (by omega) (by omega) (by omega) (by omega) (by omega) (by omega) Y S (lv_sub hl [4, 5, 6, 7, 3, 2, 1, 0] rfl)
                  · refine lv_iload X.1 X.2.1 d_Ae_setKey_143 (lv_at hl 3 rfl) ?_
                    refine lv_istore (lv' := [(10, .int (iI z189)), (9, .int (iI z192)), (8, .int (iI z191)), (7, .int (iI z190)), (6, .int (iI z189)), (0, .ref h), (3, .int (iI 32)), (4, .int (iI z179)), (5, .int (iI z180))]) X.1 X.2.1 d_Ae_setKey_145 hl (by decide) rfl (fun ls hl => ?_)
                    refine k_gets 1 (by decide) X Y KS sk_Ae_29 d_Ae_setKey_147 ?_
                    refine lv_iload X.1 X.2.1 d_Ae_setKey_150 (lv_at hl 3 rfl) ?_
                    refine t_box X Y KS (by omega) (by omega) d_Ae_setKey_152 (fun z221 l221 u221 => ?_)
                    refine lv_iload X.1 X.2.1 d_Ae_setKey_153 (lv_at hl 7 rfl) ?_
                    refine z_ixor X.1 X.2.1 ⟨by omega, by omega⟩ ⟨by omega, by omega⟩ d_Ae_setKey_155 (fun z222 l222 u222 => ?_)
                    refine lv_istore (lv' := [(6, .int (iI z222)), (10, .int (iI z189)), (9, .int (iI z192)), (8, .int (iI z191)), (7, .int (iI z190)), (0, .ref h), (3, .int (iI 32)), (4, .int (iI z179)), (5, .int (iI z180))]) X.1 X.2.1 d_Ae_setKey_156 hl (by decide) rfl (fun ls hl => ?_)
                    refine k_gets 1 (by decide) X Y KS sk_Ae_29 d_Ae_setKey_158 ?_
                    refine lv_iload X.1 X.2.1 d_Ae_setKey_161 (lv_at hl 3 rfl) ?_
                    refine t_box X Y KS (by omega) (by omega) d_Ae_setKey_163 (fun z223 l223 u223 => ?_)
                    refine lv_istore (lv' := [(7, .int (iI z223)), (6, .int (iI z222)), (10, .int (iI z189)), (9, .int (iI z192)), (8, .int (iI z191)), (0, .ref h), (3, .int (iI 32)), (4, .int (iI z179)), (5, .int (iI z180))]) X.1 X.2.1 d_Ae_setKey_164 hl (by decide) rfl (fun ls hl => ?_)
                    refine k_gets 1 (by decide) X Y KS sk_Ae_29 d_Ae_setKey_166 ?_
                    refine lv_iload X.1 X.2.1 d_Ae_setKey_169 (lv_at hl 3 rfl) ?_
                    refine t_box X Y KS (by omega) (by omega) d_Ae_setKey_171 (fun z224 l224 u224 => ?_)
                    refine lv_istore (lv' := [(8, .int (iI z224)), (7, .int (iI z223)), (6, .int (iI z222)), (10, .int (iI z189)), (9, .int (iI z192)), (0, .ref h), (3, .int (iI 32)), (4, .int (iI z179)), (5, .int (iI z180))]) X.1 X.2.1 d_Ae_setKey_172 hl (by decide) rfl (fun ls hl => ?_)
                    refine k_gets 1 (by decide) X Y KS sk_Ae_29 d_Ae_setKey_174 ?_
                    refine lv_iload X.1 X.2.1 d_Ae_setKey_177 (lv_at hl 3 rfl) ?_
                    refine t_box X Y KS (by omega) (by omega) d_Ae_setKey_179 (fun z225 l225 u225 => ?_)
                    refine lv_istore (lv' := [(9, .int (iI z225)), (8, .int (iI z224)), (7, .int (iI z223)), (6, .int (iI z222)), (10, .int (iI z189)), (0, .ref h), (3, .int (iI 32)), (4, .int (iI z179)), (5, .int (iI z180))]) X.1 X.2.1 d_Ae_setKey_180 hl (by decide) rfl (fun ls hl => ?_)
                    refine lv_aload_n X.1 X.2.1 d_Ae_setKey_182 rfl (lv_at hl 5 rfl) ?_
                    refine t_getr (ci := 1) X Y S k0 rfl i_Ae 1 (by decide) rfl (k1 := 3) (k2 := 256) rfl rfl lk_Ae_13 (fun _ h9 => h9) d_Ae_setKey_183 (fun b226 e226 k226 => ?_)
                    refine lv_iload X.1 X.2.1 d_Ae_setKey_186 (lv_at hl 7 rfl) ?_
                    refine t_iald3 X Y S k226 (by omega) (by omega) (by omega) d_Ae_setKey_188 (fun z227 l227 u227 => ?_)
                    refine lv_istore (lv' := [(4, .int (iI z227)), (9, .int (iI z225)), (8, .int (iI z224)), (7, .int (iI z223)), (6, .int (iI z222)), (10, .int (iI z189)), (0, .ref h), (3, .int (iI 32)), (5, .int (iI z180))]) X.1 X.2.1 d_Ae_setKey_189 hl (by decide) rfl (fun ls hl => ?_)
                    refine lv_goto (tgt := 241) X.1 X.2.1 d_Ae_setKey_191 (by decide) ?_
                    exact J198 z227 z222 z223 z224 z225 _ _ _ (by omega) (by omega) (by omega) (by omega) (by omega) (by omega) (by omega) (by omega) (by omega) (by omega) Y S (lv_sub hl [6, 7, 0, 8, 4, 3, 2, 1] rfl)
            refine lv_istore (lv' := [(5, .int (iI 32)), (4, .int (iI 1)), (0, .ref h), (1, .ref a1), (3, .int (iI 32))]) X.1 X.2.1 d_Ae_setKey_76 hl (by decide) rfl (fun ls hl => ?_)
            exact J182 _ 1 32 f171 _ _ _ rfl (by omega) (by omega) (by omega) (by omega) (by omega) Y S (lv_sub hl [2, 4, 1, 0] rfl)
          · refine lv_aload_n X.1 X.2.1 d_Ae_setKey_40 rfl (lv_at hl 0 rfl) ?_
            refine t_getr (ci := 1) X Y S k0 rfl i_Ae 2 (by decide) rfl (k1 := 3) (k2 := 240) rfl rfl lk_Ae_16 (fun _ h9 => h9) d_Ae_setKey_41 (fun b228 e228 k228 => ?_)
            refine lv_iload X.1 X.2.1 d_Ae_setKey_44 (lv_at hl 3 rfl) ?_
            refine lv_iload X.1 X.2.1 d_Ae_setKey_46 (lv_at hl 3 rfl) ?_
            refine lv_aload_n X.1 X.2.1 d_Ae_setKey_48 rfl (lv_at hl 1 rfl) ?_
            refine t_alen X Y S KS k1 (by omega) d_Ae_setKey_49 ?_
            have J230 : ∀ (z229 : Int) (H : Heap) (locs : List Loc) (ls : Array Slot), (0 ≤ z229) → (z229 ≤ 255) → pH D cCl (pA L sz) s.heap L f171 H locs → tS E T (tFr κ L [2, 3, 4, 11] []) κ L f κ L f171 → lv_has ls 11 [(0, .ref h), (1, .ref a1), (3, .int (iI 32)), (4, .int (iI z172))] → W p l e (kRm 1 60 0 0) s m AV below meth c H locs 0 0 QQ (F0 m 65 ls [.int (iI z229), .int (iI z172), .ref b228]) := by
              intro z229 H locs ls l229 u229 Y S hl
              refine t_iast3 X Y S k228 (by omega) (by omega) (by omega) ⟨by omega, by omega⟩ (nF_of S k228 (by decide)) d_Ae_setKey_65 (fun f234 H locs Y S w234 => ?_)
              refine lv_iinc (v := iI (z172 + 1)) (lv' := [(4, .int (iI (z172 + 1))), (0, .ref h), (1, .ref a1), (3, .int (iI 32))]) X.1 X.2.1 d_Ae_setKey_66 hl (k := 3) rfl ((iI_add _ _).trans (congrArg iI (by omega))) (by decide) rfl (fun ls hl => ?_)
              refine lv_goto (tgt := 34) X.1 X.2.1 d_Ae_setKey_69 (by decide) ?_
              exact ih174 ((32 - (z172 + 1)).toNat) (by omega) (z172 + 1) f234 _ _ _ rfl (by omega) (by omega) Y S (lv_sub hl [1, 2, 3, 0] rfl)
            refine z_icmp_ge (tgt := 64) X.1 X.2.1 d_Ae_setKey_50 (by decide) ⟨by omega, by omega⟩ ⟨by omega, by omega⟩ (fun h235 => ?_) (fun h235 => ?_)
            · refine lv_iconst (v := iI 0) X.1 X.2.1 d_Ae_setKey_64 (by decide) ?_
              exact J230 0 _ _ _ (by omega) (by omega) Y S (lv_sub hl [0, 1, 2, 3] rfl)
            · refine lv_aload_n X.1 X.2.1 d_Ae_setKey_53 rfl (lv_at hl 1 rfl) ?_
              refine lv_iload X.1 X.2.1 d_Ae_setKey_54 (lv_at hl 3 rfl) ?_
              refine t_bald X Y S k1 (by omega) (by omega) (by omega) d_Ae_setKey_56 (fun z236 l236 u236 => ?_)
              refine lv_sipush (v := iI 255) X.1 X.2.1 d_Ae_setKey_57 (by decide) ?_
              refine z_iand X.1 X.2.1 (by omega) (by omega) d_Ae_setKey_60 (fun z237 l237 u237 => ?_)
              refine lv_goto (tgt := 65) X.1 X.2.1 d_Ae_setKey_61 (by decide) ?_
              exact J230 z237 _ _ _ (by omega) (by omega) Y S (lv_sub hl [0, 1, 2, 3] rfl)
      refine lv_istore (lv' := [(4, .int (iI 0)), (3, .int (iI 32)), (0, .ref h), (1, .ref a1), (2, .int (iI a2))]) X.1 X.2.1 d_Ae_setKey_32 hl (by decide) rfl (fun ls hl => ?_)
      exact J173 _ 0 f170 _ _ _ rfl (by omega) (by omega) Y S (lv_sub hl [2, 3, 1, 0] rfl)
set_option maxHeartbeats 4000000 in
set_option maxRecDepth 100000 in
theorem c_Ae_mix (l : Launch) (D : va_G) (E : cE) (T : cT) (κ : tK) (L : List Nat) (f : pF) (sz : Nat) (h : Nat) (k0 : κ h = (11, 0)) (hw : tW E T κ L f) : Met l y_Ae_mix (k_Ae_mix :: lw_tg) (kRm 1 60 0 0) (va_Pc [.ref h] (kPre D E T L f sz)) (va_Qv (nPv E T [2, 3, 4] κ L f (fun (g : pF) => True)) (cPost D E (pA L sz)) (pA L sz)) 0 0 (pA L sz) := by
  refine k_enter (own := R_Ae) (by decide) rfl (Nat.le_of_ble_eq_true rfl) (fun p e s m below meth c ls AV QQ H locs hQQ X Y hA hin hr hlk hml hl KS KR => ?_)
  have hl : lv_has ls 7 [(0, .ref h)] := hl
  have S : tS E T (tFr κ L [2, 3, 4] []) κ L f κ L f := tS_rf hw
  refine lv_iconst (v := iI 0) X.1 X.2.1 d_Ae_mix_0 (by decide) ?_
  have J104 : ∀ (n106 : Nat) (z102 : Int) (f101 : pF) (H : Heap) (locs : List Loc) (ls : Array Slot), (19 - z102).toNat = n106 → (0 ≤ z102) → (z102 ≤ 19) → (z102 % 4 = 0) → pH D cCl (pA L sz) s.heap L f101 H locs → tS E T (tFr κ L [2, 3, 4] []) κ L f κ L f101 → lv_has ls 7 [(0, .ref h), (1, .int (iI z102))] → W p l e (kRm 1 60 0 0) s m AV below meth c H locs 0 0 QQ (F0 m 2 ls []) := by
    intro n106
    induction n106 using Nat.strongRecOn with
    | ind n106 ih105 =>
      intro z102 f101 H locs ls hm107 l102 u102 i103 Y S hl
      refine lv_iload_n X.1 X.2.1 d_Ae_mix_2 rfl (lv_at hl 1 rfl) ?_
      refine lv_bipush (v := iI 16) X.1 X.2.1 d_Ae_mix_3 (by decide) ?_
      refine z_icmp_ge (tgt := 149) X.1 X.2.1 d_Ae_mix_5 (by decide) ⟨by omega, by omega⟩ ⟨by omega, by omega⟩ (fun h108 => ?_) (fun h108 => ?_)
      · exact c_retv hQQ X Y hr hlk ⟨rfl, S, trivial⟩ d_Ae_mix_149
      · refine lv_aload_n X.1 X.2.1 d_Ae_mix_8 rfl (lv_at hl 0 rfl) ?_
        refine t_getr (ci := 1) X Y S k0 rfl i_Ae 5 (by decide) rfl (k1 := 3) (k2 := 16) rfl rfl lk_Ae_22 (fun _ h9 => h9) d_Ae_mix_9 (fun b109 e109 k109 => ?_)
        refine lv_iload_n X.1 X.2.1 d_Ae_mix_12 rfl (lv_at hl 1 rfl) ?_
        refine t_iald3 X Y S k109 (by omega) (by omega) (by omega) d_Ae_mix_13 (fun z110 l110 u110 => ?_)
        refine lv_istore_n (lv' := [(2, .int (iI z110)), (0, .ref h), (1, .int (iI z102))]) X.1 X.2.1 d_Ae_mix_14 rfl hl (by decide) rfl (fun ls hl => ?_)
        refine lv_aload_n X.1 X.2.1 d_Ae_mix_15 rfl (lv_at hl 1 rfl) ?_
        refine t_get0 (ci := 1) X Y S k0 rfl i_Ae 5 (by decide) rfl lk_Ae_22 (fun _ h9 => h9) d_Ae_mix_16 e109 ?_
        refine lv_iload_n X.1 X.2.1 d_Ae_mix_19 rfl (lv_at hl 2 rfl) ?_
        refine lv_iconst (v := iI 1) X.1 X.2.1 d_Ae_mix_20 (by decide) ?_
        refine z_iadd X.1 X.2.1 d_Ae_mix_21 ?_
        refine t_iald3 X Y S k109 (by omega) (by omega) (by omega) d_Ae_mix_22 (fun z111 l111 u111 => ?_)
        refine lv_istore_n (lv' := [(3, .int (iI z111)), (2, .int (iI z110)), (0, .ref h), (1, .int (iI z102))]) X.1 X.2.1 d_Ae_mix_23 rfl hl (by decide) rfl (fun ls hl => ?_)
        refine lv_aload_n X.1 X.2.1 d_Ae_mix_24 rfl (lv_at hl 2 rfl) ?_
        refine t_get0 (ci := 1) X Y S k0 rfl i_Ae 5 (by decide) rfl lk_Ae_22 (fun _ h9 => h9) d_Ae_mix_25 e109 ?_
        refine lv_iload_n X.1 X.2.1 d_Ae_mix_28 rfl (lv_at hl 3 rfl) ?_
        refine lv_iconst (v := iI 2) X.1 X.2.1 d_Ae_mix_29 (by decide) ?_
        refine z_iadd X.1 X.2.1 d_Ae_mix_30 ?_
        refine t_iald3 X Y S k109 (by omega) (by omega) (by omega) d_Ae_mix_31 (fun z112 l112 u112 => ?_)
        refine lv_istore (lv' := [(4, .int (iI z112)), (3, .int (iI z111)), (2, .int (iI z110)), (0, .ref h), (1, .int (iI z102))]) X.1 X.2.1 d_Ae_mix_32 hl (by decide) rfl (fun ls hl => ?_)
        refine lv_aload_n X.1 X.2.1 d_Ae_mix_34 rfl (lv_at hl 3 rfl) ?_
        refine t_get0 (ci := 1) X Y S k0 rfl i_Ae 5 (by decide) rfl lk_Ae_22 (fun _ h9 => h9) d_Ae_mix_35 e109 ?_
        refine lv_iload_n X.1 X.2.1 d_Ae_mix_38 rfl (lv_at hl 4 rfl) ?_
        refine lv_iconst (v := iI 3) X.1 X.2.1 d_Ae_mix_39 (by decide) ?_
        refine z_iadd X.1 X.2.1 d_Ae_mix_40 ?_
        refine t_iald3 X Y S k109 (by omega) (by omega) (by omega) d_Ae_mix_41 (fun z113 l113 u113 => ?_)
        refine lv_istore (lv' := [(5, .int (iI z113)), (4, .int (iI z112)), (3, .int (iI z111)), (2, .int (iI z110)), (0, .ref h), (1, .int (iI z102))]) X.1 X.2.1 d_Ae_mix_42 hl (by decide) rfl (fun ls hl => ?_)
        refine lv_iload_n X.1 X.2.1 d_Ae_mix_44 rfl (lv_at hl 3 rfl) ?_
        refine lv_iload_n X.1 X.2.1 d_Ae_mix_45 rfl (lv_at hl 2 rfl) ?_
        refine z_ixor X.1 X.2.1 ⟨by omega, by omega⟩ ⟨by omega, by omega⟩ d_Ae_mix_46 (fun z114 l114 u114 => ?_)
        refine lv_iload X.1 X.2.1 d_Ae_mix_47 (lv_at hl 1 rfl) ?_
        refine z_ixor X.1 X.2.1 ⟨by omega, by omega⟩ ⟨by omega, by omega⟩ d_Ae_mix_49 (fun z115 l115 u115 => ?_)
        refine lv_iload X.1 X.2.1 d_Ae_mix_50 (lv_at hl 0 rfl) ?_
        refine z_ixor X.1 X.2.1 ⟨by omega, by omega⟩ ⟨by omega, by omega⟩ d_Ae_mix_52 (fun z116 l116 u116 => ?_)
        refine lv_istore (lv' := [(6, .int (iI z116)), (5, .int (iI z113)), (4, .int (iI z112)), (3, .int (iI z111)), (2, .int (iI z110)), (0, .ref h), (1, .int (iI z102))]) X.1 X.2.1 d_Ae_mix_53 hl (by decide) rfl (fun ls hl => ?_)
        refine lv_aload_n X.1 X.2.1 d_Ae_mix_55 rfl (lv_at hl 5 rfl) ?_
        refine t_get0 (ci := 1) X Y S k0 rfl i_Ae 5 (by decide) rfl lk_Ae_22 (fun _ h9 => h9) d_Ae_mix_56 e109 ?_
        refine lv_iload_n X.1 X.2.1 d_Ae_mix_59 rfl (lv_at hl 6 rfl) ?_
        refine lv_iload_n X.1 X.2.1 d_Ae_mix_60 rfl (lv_at hl 4 rfl) ?_
        refine lv_iload X.1 X.2.1 d_Ae_mix_61 (lv_at hl 0 rfl) ?_
        refine z_ixor X.1 X.2.1 ⟨by omega, by omega⟩ ⟨by omega, by omega⟩ d_Ae_mix_63 (fun z117 l117 u117 => ?_)
        refine lv_aload_n X.1 X.2.1 d_Ae_mix_64 rfl (lv_at hl 5 rfl) ?_
        refine t_getr (ci := 1) X Y S k0 rfl i_Ae 1 (by decide) rfl (k1 := 3) (k2 := 256) rfl rfl lk_Ae_13 (fun _ h9 => h9) d_Ae_mix_65 (fun b118 e118 k118 => ?_)
        refine lv_iload_n X.1 X.2.1 d_Ae_mix_68 rfl (lv_at hl 4 rfl) ?_
        refine lv_iload_n X.1 X.2.1 d_Ae_mix_69 rfl (lv_at hl 3 rfl) ?_
        refine z_ixor X.1 X.2.1 ⟨by omega, by omega⟩ ⟨by omega, by omega⟩ d_Ae_mix_70 (fun z119 l119 u119 => ?_)
        refine t_iald3 X Y S k118 (by omega) (by omega) (by omega) d_Ae_mix_71 (fun z120 l120 u120 => ?_)
        refine z_ixor X.1 X.2.1 ⟨by omega, by omega⟩ ⟨by omega, by omega⟩ d_Ae_mix_72 (fun z121 l121 u121 => ?_)
        refine t_iast3 X Y S k109 (by omega) (by omega) (by omega) ⟨by omega, by omega⟩ (nF_of S k109 (by decide)) d_Ae_mix_73 (fun f122 H locs Y S w122 => ?_)
        refine lv_aload_n X.1 X.2.1 d_Ae_mix_74 rfl (lv_at hl 5 rfl) ?_
        refine t_get0 (ci := 1) X Y S k0 rfl i_Ae 5 (by decide) rfl lk_Ae_22 (fun _ h9 => h9) d_Ae_mix_75 ((gF_same (w122 _ (k_ne k0 k109 (by decide))) 5).trans e109) ?_
        refine lv_iload_n X.1 X.2.1 d_Ae_mix_78 rfl (lv_at hl 6 rfl) ?_
        refine lv_iconst (v := iI 1) X.1 X.2.1 d_Ae_mix_79 (by decide) ?_
        refine z_iadd X.1 X.2.1 d_Ae_mix_80 ?_
        refine lv_iload_n X.1 X.2.1 d_Ae_mix_81 rfl (lv_at hl 3 rfl) ?_
        refine lv_iload X.1 X.2.1 d_Ae_mix_82 (lv_at hl 0 rfl) ?_
        refine z_ixor X.1 X.2.1 ⟨by omega, by omega⟩ ⟨by omega, by omega⟩ d_Ae_mix_84 (fun z123 l123 u123 => ?_)
        refine lv_aload_n X.1 X.2.1 d_Ae_mix_85 rfl (lv_at hl 5 rfl) ?_
        refine t_get0 (ci := 1) X Y S k0 rfl i_Ae 1 (by decide) rfl lk_Ae_13 (fun _ h9 => h9) d_Ae_mix_86 ((gF_same (w122 _ (k_ne k0 k109 (by decide))) 1).trans e118) ?_
        refine lv_iload_n X.1 X.2.1 d_Ae_mix_89 rfl (lv_at hl 3 rfl) ?_
        refine lv_iload X.1 X.2.1 d_Ae_mix_90 (lv_at hl 2 rfl) ?_
        refine z_ixor X.1 X.2.1 ⟨by omega, by omega⟩ ⟨by omega, by omega⟩ d_Ae_mix_92 (fun z124 l124 u124 => ?_)
        refine t_iald3 X Y S k118 (by omega) (by omega) (by omega) d_Ae_mix_93 (fun z125 l125 u125 => ?_)
        refine z_ixor X.1 X.2.1 ⟨by omega, by omega⟩ ⟨by omega, by omega⟩ d_Ae_mix_94 (fun z126 l126 u126 => ?_)
        refine t_iast3 X Y S k109 (by omega) (by omega) (by omega) ⟨by omega, by omega⟩ (nF_of S k109 (by decide)) d_Ae_mix_95 (fun f127 H locs Y S w127 => ?_)
        refine lv_aload_n X.1 X.2.1 d_Ae_mix_96 rfl (lv_at hl 5 rfl) ?_
        refine t_get0 (ci := 1) X Y S k0 rfl i_Ae 5 (by decide) rfl lk_Ae_22 (fun _ h9 => h9) d_Ae_mix_97 ((gF_same (w127 _ (k_ne k0 k109 (by decide))) 5).trans ((gF_same (w122 _ (k_ne k0 k109 (by decide))) 5).trans e109)) ?_
        refine lv_iload_n X.1 X.2.1 d_Ae_mix_100 rfl (lv_at hl 6 rfl) ?_
        refine lv_iconst (v := iI 2) X.1 X.2.1 d_Ae_mix_101 (by decide) ?_
        refine z_iadd X.1 X.2.1 d_Ae_mix_102 ?_
        refine lv_iload X.1 X.2.1 d_Ae_mix_103 (lv_at hl 2 rfl) ?_
        refine lv_iload X.1 X.2.1 d_Ae_mix_105 (lv_at hl 0 rfl) ?_
        refine z_ixor X.1 X.2.1 ⟨by omega, by omega⟩ ⟨by omega, by omega⟩ d_Ae_mix_107 (fun z128 l128 u128 => ?_)
        refine lv_aload_n X.1 X.2.1 d_Ae_mix_108 rfl (lv_at hl 5 rfl) ?_
        refine t_get0 (ci := 1) X Y S k0 rfl i_Ae 1 (by decide) rfl lk_Ae_13 (fun _ h9 => h9) d_Ae_mix_109 ((gF_same (w127 _ (k_ne k0 k109 (by decide))) 1).trans ((gF_same (w122 _ (k_ne k0 k109 (by decide))) 1).trans e118)) ?_
        refine lv_iload X.1 X.2.1 d_Ae_mix_112 (lv_at hl 2 rfl) ?_
        refine lv_iload X.1 X.2.1 d_Ae_mix_114 (lv_at hl 1 rfl) ?_
        refine z_ixor X.1 X.2.1 ⟨by omega, by omega⟩ ⟨by omega, by omega⟩ d_Ae_mix_116 (fun z129 l129 u129 => ?_)
        refine t_iald3 X Y S k118 (by omega) (by omega) (by omega) d_Ae_mix_117 (fun z130 l130 u130 => ?_)
        refine z_ixor X.1 X.2.1 ⟨by omega, by omega⟩ ⟨by omega, by omega⟩ d_Ae_mix_118 (fun z131 l131 u131 => ?_)
        refine t_iast3 X Y S k109 (by omega) (by omega) (by omega) ⟨by omega, by omega⟩ (nF_of S k109 (by decide)) d_Ae_mix_119 (fun f132 H locs Y S w132 => ?_)
        refine lv_aload_n X.1 X.2.1 d_Ae_mix_120 rfl (lv_at hl 5 rfl) ?_
        refine t_get0 (ci := 1) X Y S k0 rfl i_Ae 5 (by decide) rfl lk_Ae_22 (fun _ h9 => h9) d_Ae_mix_121 ((gF_same (w132 _ (k_ne k0 k109 (by decide))) 5).trans ((gF_same (w127 _ (k_ne k0 k109 (by decide))) 5).trans ((gF_same (w122 _ (k_ne k0 k109 (by decide))) 5).trans e109))) ?_
        refine lv_iload_n X.1 X.2.1 d_Ae_mix_124 rfl (lv_at hl 6 rfl) ?_
        refine lv_iconst (v := iI 3) X.1 X.2.1 d_Ae_mix_125 (by decide) ?_
        refine z_iadd X.1 X.2.1 d_Ae_mix_126 ?_
        refine lv_iload X.1 X.2.1 d_Ae_mix_127 (lv_at hl 1 rfl) ?_
        refine lv_iload X.1 X.2.1 d_Ae_mix_129 (lv_at hl 0 rfl) ?_
        refine z_ixor X.1 X.2.1 ⟨by omega, by omega⟩ ⟨by omega, by omega⟩ d_Ae_mix_131 (fun z133 l133 u133 => ?_)
        refine lv_aload_n X.1 X.2.1 d_Ae_mix_132 rfl (lv_at hl 5 rfl) ?_
        refine t_get0 (ci := 1) X Y S k0 rfl i_Ae 1 (by decide) rfl lk_Ae_13 (fun _ h9 => h9) d_Ae_mix_133 ((gF_same (w132 _ (k_ne k0 k109 (by decide))) 1).trans ((gF_same (w127 _ (k_ne k0 k109 (by decide))) 1).trans ((gF_same (w122 _ (k_ne k0 k109 (by decide))) 1).trans e118))) ?_
        refine lv_iload X.1 X.2.1 d_Ae_mix_136 (lv_at hl 1 rfl) ?_
        refine lv_iload_n X.1 X.2.1 d_Ae_mix_138 rfl (lv_at hl 4 rfl) ?_
        refine z_ixor X.1 X.2.1 ⟨by omega, by omega⟩ ⟨by omega, by omega⟩ d_Ae_mix_139 (fun z134 l134 u134 => ?_)
        refine t_iald3 X Y S k118 (by omega) (by omega) (by omega) d_Ae_mix_140 (fun z135 l135 u135 => ?_)
        refine z_ixor X.1 X.2.1 ⟨by omega, by omega⟩ ⟨by omega, by omega⟩ d_Ae_mix_141 (fun z136 l136 u136 => ?_)
        refine t_iast3 X Y S k109 (by omega) (by omega) (by omega) ⟨by omega, by omega⟩ (nF_of S k109 (by decide)) d_Ae_mix_142 (fun f137 H locs Y S w137 => ?_)
        refine lv_iinc (v := iI (z102 + 4)) (lv' := [(1, .int (iI (z102 + 4))), (6, .int (iI z116)), (5, .int (iI z113)), (4, .int (iI z112)), (3, .int (iI z111)), (2, .int (iI z110)), (0, .ref h)]) X.1 X.2.1 d_Ae_mix_143 hl (k := 6) rfl ((iI_add _ _).trans (congrArg iI (by omega))) (by decide) rfl (fun ls hl => ?_)
        refine lv_goto (tgt := 2) X.1 X.2.1 d_Ae_mix_146 (by decide) ?_
        exact ih105 ((19 - (z102 + 4)).toNat) (by omega) (z102 + 4) f137 _ _ _ rfl (by omega) (by omega) (by omega) Y S (lv_sub hl [6, 0] rfl)
  refine lv_istore_n (lv' := [(1, .int (iI 0)), (0, .ref h)]) X.1 X.2.1 d_Ae_mix_1 rfl hl (by decide) rfl (fun ls hl => ?_)
  exact J104 _ 0 f _ _ _ rfl (by omega) (by omega) (by omega) Y S (lv_sub hl [1, 0] rfl)
set_option maxHeartbeats 4000000 in
set_option maxRecDepth 100000 in
theorem c_Ae_prepare (l : Launch) (D : va_G) (E : cE) (T : cT) (κ : tK) (L : List Nat) (f : pF) (sz : Nat) (h : Nat) (k0 : κ h = (11, 0)) (hw : tW E T κ L f) : Met l y_Ae_prepare (k_Ae_prepare :: lw_tg) (kRm 1 60 0 0) (va_Pc [.ref h] (kPre D E T L f sz)) (va_Qv (nPv E T [2, 3, 4] κ L f (fun (g : pF) => True)) (cPost D E (pA L sz)) (pA L sz)) 0 0 (pA L sz) := by
  refine k_enter (own := R_Ae) (by decide) rfl (Nat.le_of_ble_eq_true rfl) (fun p e s m below meth c ls AV QQ H locs hQQ X Y hA hin hr hlk hml hl KS KR => ?_)
  have hl : lv_has ls 4 [(0, .ref h)] := hl
  have S : tS E T (tFr κ L [2, 3, 4] []) κ L f κ L f := tS_rf hw
  refine lv_iconst (v := iI 0) X.1 X.2.1 d_Ae_prepare_0 (by decide) ?_
  have J104 : ∀ (n106 : Nat) (z102 : Int) (f101 : pF) (H : Heap) (locs : List Loc) (ls : Array Slot), (19 - z102).toNat = n106 → (0 ≤ z102) → (z102 ≤ 19) → (z102 % 4 = 0) → pH D cCl (pA L sz) s.heap L f101 H locs → tS E T (tFr κ L [2, 3, 4] []) κ L f κ L f101 → lv_has ls 4 [(0, .ref h), (1, .int (iI z102))] → W p l e (kRm 1 60 0 0) s m AV below meth c H locs 0 0 QQ (F0 m 2 ls []) := by
    intro n106
    induction n106 using Nat.strongRecOn with
    | ind n106 ih105 =>
      intro z102 f101 H locs ls hm107 l102 u102 i103 Y S hl
      refine lv_iload_n X.1 X.2.1 d_Ae_prepare_2 rfl (lv_at hl 1 rfl) ?_
      refine lv_bipush (v := iI 16) X.1 X.2.1 d_Ae_prepare_3 (by decide) ?_
      refine z_icmp_ge (tgt := 114) X.1 X.2.1 d_Ae_prepare_5 (by decide) ⟨by omega, by omega⟩ ⟨by omega, by omega⟩ (fun h108 => ?_) (fun h108 => ?_)
      · exact c_retv hQQ X Y hr hlk ⟨rfl, S, trivial⟩ d_Ae_prepare_114
      · refine lv_aload_n X.1 X.2.1 d_Ae_prepare_8 rfl (lv_at hl 0 rfl) ?_
        refine t_getr (ci := 1) X Y S k0 rfl i_Ae 1 (by decide) rfl (k1 := 3) (k2 := 256) rfl rfl lk_Ae_13 (fun _ h9 => h9) d_Ae_prepare_9 (fun b109 e109 k109 => ?_)
        refine lv_aload_n X.1 X.2.1 d_Ae_prepare_12 rfl (lv_at hl 0 rfl) ?_
        refine t_get0 (ci := 1) X Y S k0 rfl i_Ae 1 (by decide) rfl lk_Ae_13 (fun _ h9 => h9) d_Ae_prepare_13 e109 ?_
        refine lv_aload_n X.1 X.2.1 d_Ae_prepare_16 rfl (lv_at hl 0 rfl) ?_
        refine t_getr (ci := 1) X Y S k0 rfl i_Ae 5 (by decide) rfl (k1 := 3) (k2 := 16) rfl rfl lk_Ae_22 (fun _ h9 => h9) d_Ae_prepare_17 (fun b110 e110 k110 => ?_)
        refine lv_iload_n X.1 X.2.1 d_Ae_prepare_20 rfl (lv_at hl 1 rfl) ?_
        refine t_iald3 X Y S k110 (by omega) (by omega) (by omega) d_Ae_prepare_21 (fun z111 l111 u111 => ?_)
        refine lv_aload_n X.1 X.2.1 d_Ae_prepare_22 rfl (lv_at hl 0 rfl) ?_
        refine t_get0 (ci := 1) X Y S k0 rfl i_Ae 5 (by decide) rfl lk_Ae_22 (fun _ h9 => h9) d_Ae_prepare_23 e110 ?_
        refine lv_iload_n X.1 X.2.1 d_Ae_prepare_26 rfl (lv_at hl 1 rfl) ?_
        refine lv_iconst (v := iI 2) X.1 X.2.1 d_Ae_prepare_27 (by decide) ?_
        refine z_iadd X.1 X.2.1 d_Ae_prepare_28 ?_
        refine t_iald3 X Y S k110 (by omega) (by omega) (by omega) d_Ae_prepare_29 (fun z112 l112 u112 => ?_)
        refine z_ixor X.1 X.2.1 ⟨by omega, by omega⟩ ⟨by omega, by omega⟩ d_Ae_prepare_30 (fun z113 l113 u113 => ?_)
        refine t_iald3 X Y S k109 (by omega) (by omega) (by omega) d_Ae_prepare_31 (fun z114 l114 u114 => ?_)
        refine t_iald3 X Y S k109 (by omega) (by omega) (by omega) d_Ae_prepare_32 (fun z115 l115 u115 => ?_)
        refine lv_istore_n (lv' := [(2, .int (iI z115)), (0, .ref h), (1, .int (iI z102))]) X.1 X.2.1 d_Ae_prepare_33 rfl hl (by decide) rfl (fun ls hl => ?_)
        refine lv_aload_n X.1 X.2.1 d_Ae_prepare_34 rfl (lv_at hl 1 rfl) ?_
        refine t_get0 (ci := 1) X Y S k0 rfl i_Ae 1 (by decide) rfl lk_Ae_13 (fun _ h9 => h9) d_Ae_prepare_35 e109 ?_
        refine lv_aload_n X.1 X.2.1 d_Ae_prepare_38 rfl (lv_at hl 1 rfl) ?_
        refine t_get0 (ci := 1) X Y S k0 rfl i_Ae 1 (by decide) rfl lk_Ae_13 (fun _ h9 => h9) d_Ae_prepare_39 e109 ?_
        refine lv_aload_n X.1 X.2.1 d_Ae_prepare_42 rfl (lv_at hl 1 rfl) ?_
        refine t_get0 (ci := 1) X Y S k0 rfl i_Ae 5 (by decide) rfl lk_Ae_22 (fun _ h9 => h9) d_Ae_prepare_43 e110 ?_
        refine lv_iload_n X.1 X.2.1 d_Ae_prepare_46 rfl (lv_at hl 2 rfl) ?_
        refine lv_iconst (v := iI 1) X.1 X.2.1 d_Ae_prepare_47 (by decide) ?_
        refine z_iadd X.1 X.2.1 d_Ae_prepare_48 ?_
        refine t_iald3 X Y S k110 (by omega) (by omega) (by omega) d_Ae_prepare_49 (fun z116 l116 u116 => ?_)
        refine lv_aload_n X.1 X.2.1 d_Ae_prepare_50 rfl (lv_at hl 1 rfl) ?_
        refine t_get0 (ci := 1) X Y S k0 rfl i_Ae 5 (by decide) rfl lk_Ae_22 (fun _ h9 => h9) d_Ae_prepare_51 e110 ?_
        refine lv_iload_n X.1 X.2.1 d_Ae_prepare_54 rfl (lv_at hl 2 rfl) ?_
        refine lv_iconst (v := iI 3) X.1 X.2.1 d_Ae_prepare_55 (by decide) ?_
        refine z_iadd X.1 X.2.1 d_Ae_prepare_56 ?_
        refine t_iald3 X Y S k110 (by omega) (by omega) (by omega) d_Ae_prepare_57 (fun z117 l117 u117 => ?_)
        refine z_ixor X.1 X.2.1 ⟨by omega, by omega⟩ ⟨by omega, by omega⟩ d_Ae_prepare_58 (fun z118 l118 u118 => ?_)
        refine t_iald3 X Y S k109 (by omega) (by omega) (by omega) d_Ae_prepare_59 (fun z119 l119 u119 => ?_)
        refine t_iald3 X Y S k109 (by omega) (by omega) (by omega) d_Ae_prepare_60 (fun z120 l120 u120 => ?_)
        refine lv_istore_n (lv' := [(3, .int (iI z120)), (2, .int (iI z115)), (0, .ref h), (1, .int (iI z102))]) X.1 X.2.1 d_Ae_prepare_61 rfl hl (by decide) rfl (fun ls hl => ?_)
        refine lv_aload_n X.1 X.2.1 d_Ae_prepare_62 rfl (lv_at hl 2 rfl) ?_
        refine t_get0 (ci := 1) X Y S k0 rfl i_Ae 5 (by decide) rfl lk_Ae_22 (fun _ h9 => h9) d_Ae_prepare_63 e110 ?_
        refine lv_iload_n X.1 X.2.1 d_Ae_prepare_66 rfl (lv_at hl 3 rfl) ?_
        refine lv_dup2_11 X.1 X.2.1 d_Ae_prepare_67 rfl rfl ?_
        refine t_iald3 X Y S k110 (by omega) (by omega) (by omega) d_Ae_prepare_68 (fun z121 l121 u121 => ?_)
        refine lv_iload_n X.1 X.2.1 d_Ae_prepare_69 rfl (lv_at hl 1 rfl) ?_
        refine z_ixor X.1 X.2.1 ⟨by omega, by omega⟩ ⟨by omega, by omega⟩ d_Ae_prepare_70 (fun z122 l122 u122 => ?_)
        refine t_iast3 X Y S k110 (by omega) (by omega) (by omega) ⟨by omega, by omega⟩ (nF_of S k110 (by decide)) d_Ae_prepare_71 (fun f123 H locs Y S w123 => ?_)
        refine lv_aload_n X.1 X.2.1 d_Ae_prepare_72 rfl (lv_at hl 2 rfl) ?_
        refine t_get0 (ci := 1) X Y S k0 rfl i_Ae 5 (by decide) rfl lk_Ae_22 (fun _ h9 => h9) d_Ae_prepare_73 ((gF_same (w123 _ (k_ne k0 k110 (by decide))) 5).trans e110) ?_
        refine lv_iload_n X.1 X.2.1 d_Ae_prepare_76 rfl (lv_at hl 3 rfl) ?_
        refine lv_iconst (v := iI 1) X.1 X.2.1 d_Ae_prepare_77 (by decide) ?_
        refine z_iadd X.1 X.2.1 d_Ae_prepare_78 ?_
        refine lv_dup2_11 X.1 X.2.1 d_Ae_prepare_79 rfl rfl ?_
        refine t_iald3 X Y S k110 (by omega) (by omega) (by omega) d_Ae_prepare_80 (fun z124 l124 u124 => ?_)
        refine lv_iload_n X.1 X.2.1 d_Ae_prepare_81 rfl (lv_at hl 0 rfl) ?_
        refine z_ixor X.1 X.2.1 ⟨by omega, by omega⟩ ⟨by omega, by omega⟩ d_Ae_prepare_82 (fun z125 l125 u125 => ?_)
        refine t_iast3 X Y S k110 (by omega) (by omega) (by omega) ⟨by omega, by omega⟩ (nF_of S k110 (by decide)) d_Ae_prepare_83 (fun f126 H locs Y S w126 => ?_)
        refine lv_aload_n X.1 X.2.1 d_Ae_prepare_84 rfl (lv_at hl 2 rfl) ?_
        refine t_get0 (ci := 1) X Y S k0 rfl i_Ae 5 (by decide) rfl lk_Ae_22 (fun _ h9 => h9) d_Ae_prepare_85 ((gF_same (w126 _ (k_ne k0 k110 (by decide))) 5).trans ((gF_same (w123 _ (k_ne k0 k110 (by decide))) 5).trans e110)) ?_
        refine lv_iload_n X.1 X.2.1 d_Ae_prepare_88 rfl (lv_at hl 3 rfl) ?_
        refine lv_iconst (v := iI 2) X.1 X.2.1 d_Ae_prepare_89 (by decide) ?_
        refine z_iadd X.1 X.2.1 d_Ae_prepare_90 ?_
        refine lv_dup2_11 X.1 X.2.1 d_Ae_prepare_91 rfl rfl ?_
        refine t_iald3 X Y S k110 (by omega) (by omega) (by omega) d_Ae_prepare_92 (fun z127 l127 u127 => ?_)
        refine lv_iload_n X.1 X.2.1 d_Ae_prepare_93 rfl (lv_at hl 1 rfl) ?_
        refine z_ixor X.1 X.2.1 ⟨by omega, by omega⟩ ⟨by omega, by omega⟩ d_Ae_prepare_94 (fun z128 l128 u128 => ?_)
        refine t_iast3 X Y S k110 (by omega) (by omega) (by omega) ⟨by omega, by omega⟩ (nF_of S k110 (by decide)) d_Ae_prepare_95 (fun f129 H locs Y S w129 => ?_)
        refine lv_aload_n X.1 X.2.1 d_Ae_prepare_96 rfl (lv_at hl 2 rfl) ?_
        refine t_get0 (ci := 1) X Y S k0 rfl i_Ae 5 (by decide) rfl lk_Ae_22 (fun _ h9 => h9) d_Ae_prepare_97 ((gF_same (w129 _ (k_ne k0 k110 (by decide))) 5).trans ((gF_same (w126 _ (k_ne k0 k110 (by decide))) 5).trans ((gF_same (w123 _ (k_ne k0 k110 (by decide))) 5).trans e110))) ?_
        refine lv_iload_n X.1 X.2.1 d_Ae_prepare_100 rfl (lv_at hl 3 rfl) ?_
        refine lv_iconst (v := iI 3) X.1 X.2.1 d_Ae_prepare_101 (by decide) ?_
        refine z_iadd X.1 X.2.1 d_Ae_prepare_102 ?_
        refine lv_dup2_11 X.1 X.2.1 d_Ae_prepare_103 rfl rfl ?_
        refine t_iald3 X Y S k110 (by omega) (by omega) (by omega) d_Ae_prepare_104 (fun z130 l130 u130 => ?_)
        refine lv_iload_n X.1 X.2.1 d_Ae_prepare_105 rfl (lv_at hl 0 rfl) ?_
        refine z_ixor X.1 X.2.1 ⟨by omega, by omega⟩ ⟨by omega, by omega⟩ d_Ae_prepare_106 (fun z131 l131 u131 => ?_)
        refine t_iast3 X Y S k110 (by omega) (by omega) (by omega) ⟨by omega, by omega⟩ (nF_of S k110 (by decide)) d_Ae_prepare_107 (fun f132 H locs Y S w132 => ?_)
        refine lv_iinc (v := iI (z102 + 4)) (lv' := [(1, .int (iI (z102 + 4))), (3, .int (iI z120)), (2, .int (iI z115)), (0, .ref h)]) X.1 X.2.1 d_Ae_prepare_108 hl (k := 3) rfl ((iI_add _ _).trans (congrArg iI (by omega))) (by decide) rfl (fun ls hl => ?_)
        refine lv_goto (tgt := 2) X.1 X.2.1 d_Ae_prepare_111 (by decide) ?_
        exact ih105 ((19 - (z102 + 4)).toNat) (by omega) (z102 + 4) f132 _ _ _ rfl (by omega) (by omega) (by omega) Y S (lv_sub hl [3, 0] rfl)
  refine lv_istore_n (lv' := [(1, .int (iI 0)), (0, .ref h)]) X.1 X.2.1 d_Ae_prepare_1 rfl hl (by decide) rfl (fun ls hl => ?_)
  exact J104 _ 0 f _ _ _ rfl (by omega) (by omega) (by omega) Y S (lv_sub hl [1, 0] rfl)
set_option maxHeartbeats 4000000 in
set_option maxRecDepth 100000 in
theorem c_Ae_encrypt (l : Launch) (D : va_G) (E : cE) (T : cT) (κ : tK) (L : List Nat) (f : pF) (sz : Nat) (h : Nat) (k0 : κ h = (11, 0)) (a1 n1 : Nat) (k1 : κ a1 = (1, n1)) (x1 : n1 ≤ 12288) (a2 : Int) (l_a2 : (-20300) ≤ a2) (u_a2 : a2 ≤ 20300) (hw : tW E T κ L f) : Met l y_Ae_encrypt (k_Ae_encrypt :: lw_tg) (kRm 2 86 0 0) (va_Pc [.ref h, .ref a1, .int (iI a2)] (kPre D E T L f sz)) (va_Qv (nPv E T [1, 2, 3, 4] κ L f (fun (g : pF) => True)) (cPost D E (pA L sz)) (pA L sz)) 0 0 (pA L sz) := by
  refine k_enter (own := R_Ae) (by decide) rfl (Nat.le_of_ble_eq_true rfl) (fun p e s m below meth c ls AV QQ H locs hQQ X Y hA hin hr hlk hml hl KS KR => ?_)
  have hl : lv_has ls 5 [(0, .ref h), (1, .ref a1), (2, .int (iI a2))] := hl
  have S : tS E T (tFr κ L [1, 2, 3, 4] []) κ L f κ L f := tS_rf hw
  refine lv_iload_n X.1 X.2.1 d_Ae_encrypt_0 rfl (lv_at hl 2 rfl) ?_
  refine z_if_lt (tgt := 13) X.1 X.2.1 d_Ae_encrypt_1 (by decide) ⟨by omega, by omega⟩ (fun h101 => ?_) (fun h101 => ?_)
  · exact c_retv hQQ X Y hr hlk ⟨rfl, S, trivial⟩ d_Ae_encrypt_13
  · refine lv_iload_n X.1 X.2.1 d_Ae_encrypt_4 rfl (lv_at hl 2 rfl) ?_
    refine lv_aload_n X.1 X.2.1 d_Ae_encrypt_5 rfl (lv_at hl 1 rfl) ?_
    refine t_alen X Y S KS (Or.inl k1) (by omega) d_Ae_encrypt_6 ?_
    refine lv_bipush (v := iI 16) X.1 X.2.1 d_Ae_encrypt_7 (by decide) ?_
    refine z_isub X.1 X.2.1 d_Ae_encrypt_9 ?_
    refine z_icmp_le (tgt := 14) X.1 X.2.1 d_Ae_encrypt_10 (by decide) ⟨by omega, by omega⟩ ⟨by omega, by omega⟩ (fun h102 => ?_) (fun h102 => ?_)
    · refine lv_iconst (v := iI 0) X.1 X.2.1 d_Ae_encrypt_14 (by decide) ?_
      have J105 : ∀ (n107 : Nat) (z104 : Int) (f103 : pF) (H : Heap) (locs : List Loc) (ls : Array Slot), (16 - z104).toNat = n107 → (0 ≤ z104) → (z104 ≤ 16) → pH D cCl (pA L sz) s.heap L f103 H locs → tS E T (tFr κ L [1, 2, 3, 4] []) κ L f κ L f103 → lv_has ls 5 [(0, .ref h), (1, .ref a1), (2, .int (iI a2)), (3, .int (iI z104))] → W p l e (kRm 2 86 0 0) s m AV below meth c H locs 0 0 QQ (F0 m 16 ls []) := by
        intro n107
        induction n107 using Nat.strongRecOn with
        | ind n107 ih106 =>
          intro z104 f103 H locs ls hm108 l104 u104 Y S hl
          refine lv_iload_n X.1 X.2.1 d_Ae_encrypt_16 rfl (lv_at hl 3 rfl) ?_
          refine lv_bipush (v := iI 16) X.1 X.2.1 d_Ae_encrypt_17 (by decide) ?_
          refine z_icmp_ge (tgt := 50) X.1 X.2.1 d_Ae_encrypt_19 (by decide) ⟨by omega, by omega⟩ ⟨by omega, by omega⟩ (fun h109 => ?_) (fun h109 => ?_)
          · refine lv_iconst (v := iI 1) X.1 X.2.1 d_Ae_encrypt_50 (by decide) ?_
            have J112 : ∀ (n114 : Nat) (z111 : Int) (f110 : pF) (H : Heap) (locs : List Loc) (ls : Array Slot), (15 - z111).toNat = n114 → (1 ≤ z111) → (z111 ≤ 15) → pH D cCl (pA L sz) s.heap L f110 H locs → tS E T (tFr κ L [1, 2, 3, 4] []) κ L f κ L f110 → lv_has ls 5 [(0, .ref h), (1, .ref a1), (2, .int (iI a2)), (3, .int (iI z111))] → W p l e (kRm 2 86 0 0) s m AV below meth c H locs 0 0 QQ (F0 m 52 ls []) := by
              intro n114
              induction n114 using Nat.strongRecOn with
              | ind n114 ih113 =>
                intro z111 f110 H locs ls hm115 l111 u111 Y S hl
                refine lv_iload_n X.1 X.2.1 d_Ae_encrypt_52 rfl (lv_at hl 3 rfl) ?_
                refine lv_aload_n X.1 X.2.1 d_Ae_encrypt_53 rfl (lv_at hl 0 rfl) ?_
                refine t_geti (ci := 1) X Y S k0 rfl i_Ae 3 (by decide) rfl lk_Ae_32 (fun _ h9 => h9) d_Ae_encrypt_54 (fun z116 e116 l116 u116 => ?_)
                refine z_icmp_gt (tgt := 165) X.1 X.2.1 d_Ae_encrypt_57 (by decide) ⟨by omega, by omega⟩ ⟨by omega, by omega⟩ (fun h117 => ?_) (fun h117 => ?_)
                · refine lv_iconst (v := iI 0) X.1 X.2.1 d_Ae_encrypt_165 (by decide) ?_
                  have J120 : ∀ (n122 : Nat) (z119 : Int) (f118 : pF) (H : Heap) (locs : List Loc) (ls : Array Slot), (16 - z119).toNat = n122 → (0 ≤ z119) → (z119 ≤ 16) → pH D cCl (pA L sz) s.heap L f118 H locs → tS E T (tFr κ L [1, 2, 3, 4] []) κ L f κ L f118 → lv_has ls 5 [(0, .ref h), (1, .ref a1), (2, .int (iI a2)), (3, .int (iI z119))] → W p l e (kRm 2 86 0 0) s m AV below meth c H locs 0 0 QQ (F0 m 167 ls []) := by
                    intro n122
                    induction n122 using Nat.strongRecOn with
                    | ind n122 ih121 =>
                      intro z119 f118 H locs ls hm123 l119 u119 Y S hl
                      refine lv_iload_n X.1 X.2.1 d_Ae_encrypt_167 rfl (lv_at hl 3 rfl) ?_
                      refine lv_bipush (v := iI 16) X.1 X.2.1 d_Ae_encrypt_168 (by decide) ?_
                      refine z_icmp_ge (tgt := 191) X.1 X.2.1 d_Ae_encrypt_170 (by decide) ⟨by omega, by omega⟩ ⟨by omega, by omega⟩ (fun h124 => ?_) (fun h124 => ?_)
                      · exact c_retv hQQ X Y hr hlk ⟨rfl, S, trivial⟩ d_Ae_encrypt_191
                      · refine lv_aload_n X.1 X.2.1 d_Ae_encrypt_173 rfl (lv_at hl 1 rfl) ?_
                        refine lv_iload_n X.1 X.2.1 d_Ae_encrypt_174 rfl (lv_at hl 2 rfl) ?_
                        refine lv_iload_n X.1 X.2.1 d_Ae_encrypt_175 rfl (lv_at hl 3 rfl) ?_
                        refine z_iadd X.1 X.2.1 d_Ae_encrypt_176 ?_
                        refine lv_aload_n X.1 X.2.1 d_Ae_encrypt_177 rfl (lv_at hl 0 rfl) ?_
                        refine t_getr (ci := 1) X Y S k0 rfl i_Ae 4 (by decide) rfl (k1 := 3) (k2 := 16) rfl rfl lk_Ae_19 (fun _ h9 => h9) d_Ae_encrypt_178 (fun b125 e125 k125 => ?_)
                        refine lv_iload_n X.1 X.2.1 d_Ae_encrypt_181 rfl (lv_at hl 3 rfl) ?_
                        refine t_iald3 X Y S k125 (by omega) (by omega) (by omega) d_Ae_encrypt_182 (fun z126 l126 u126 => ?_)
                        refine lv_i2b X.1 X.2.1 d_Ae_encrypt_183 rfl ?_
                        refine t_u (fun z127 l127 u127 => ?_)
                        refine t_bast X Y S k1 (by omega) (by omega) (by omega) (nF_of S k1 (by decide)) d_Ae_encrypt_184 (fun f128 H locs Y S w128 => ?_)
                        refine lv_iinc (v := iI (z119 + 1)) (lv' := [(3, .int (iI (z119 + 1))), (0, .ref h), (1, .ref a1), (2, .int (iI a2))]) X.1 X.2.1 d_Ae_encrypt_185 hl (k := 3) rfl ((iI_add _ _).trans (congrArg iI (by omega))) (by decide) rfl (fun ls hl => ?_)
                        refine lv_goto (tgt := 167) X.1 X.2.1 d_Ae_encrypt_188 (by decide) ?_
                        exact ih121 ((16 - (z119 + 1)).toNat) (by omega) (z119 + 1) f128 _ _ _ rfl (by omega) (by omega) Y S (lv_sub hl [1, 2, 3, 0] rfl)
                  refine lv_istore_n (lv' := [(3, .int (iI 0)), (0, .ref h), (1, .ref a1), (2, .int (iI a2))]) X.1 X.2.1 d_Ae_encrypt_166 rfl hl (by decide) rfl (fun ls hl => ?_)
                  exact J120 _ 0 f110 _ _ _ rfl (by omega) (by omega) Y S (lv_sub hl [1, 2, 3, 0] rfl)
                · refine lv_iconst (v := iI 0) X.1 X.2.1 d_Ae_encrypt_60 (by decide) ?_
                  have J131 : ∀ (n133 : Nat) (z130 : Int) (f129 : pF) (H : Heap) (locs : List Loc) (ls : Array Slot), (16 - z130).toNat = n133 → (0 ≤ z130) → (z130 ≤ 16) → pH D cCl (pA L sz) s.heap L f129 H locs → tS E T (tFr κ L [1, 2, 3, 4] []) κ L f κ L f129 → lv_has ls 5 [(0, .ref h), (1, .ref a1), (2, .int (iI a2)), (3, .int (iI z111)), (4, .int (iI z130))] → W p l e (kRm 2 86 0 0) s m AV below meth c H locs 0 0 QQ (F0 m 63 ls []) := by
                    intro n133
                    induction n133 using Nat.strongRecOn with
                    | ind n133 ih132 =>
                      intro z130 f129 H locs ls hm134 l130 u130 Y S hl
                      refine lv_iload X.1 X.2.1 d_Ae_encrypt_63 (lv_at hl 4 rfl) ?_
                      refine lv_bipush (v := iI 16) X.1 X.2.1 d_Ae_encrypt_65 (by decide) ?_
                      refine z_icmp_ge (tgt := 104) X.1 X.2.1 d_Ae_encrypt_67 (by decide) ⟨by omega, by omega⟩ ⟨by omega, by omega⟩ (fun h135 => ?_) (fun h135 => ?_)
                      · refine lv_iload_n X.1 X.2.1 d_Ae_encrypt_104 rfl (lv_at hl 3 rfl) ?_
                        refine lv_aload_n X.1 X.2.1 d_Ae_encrypt_105 rfl (lv_at hl 0 rfl) ?_
                        refine t_geti (ci := 1) X Y S k0 rfl i_Ae 3 (by decide) rfl lk_Ae_32 (fun _ h9 => h9) d_Ae_encrypt_106 (fun z136 e136 l136 u136 => ?_)
                        have J138 : ∀ (f137 : pF) (H : Heap) (locs : List Loc) (ls : Array Slot), pH D cCl (pA L sz) s.heap L f137 H locs → tS E T (tFr κ L [1, 2, 3, 4] []) κ L f κ L f137 → lv_has ls 5 [(0, .ref h), (1, .ref a1), (2, .int (iI a2)), (3, .int (iI z111))] → W p l e (kRm 2 86 0 0) s m AV below meth c H locs 0 0 QQ (F0 m 116 ls []) := by
                          intro f137 H locs ls  Y S hl
                          refine lv_iconst (v := iI 0) X.1 X.2.1 d_Ae_encrypt_116 (by decide) ?_
                          have J144 : ∀ (n146 : Nat) (z143 : Int) (f142 : pF) (H : Heap) (locs : List Loc) (ls : Array Slot), (16 - z143).toNat = n146 → (0 ≤ z143) → (z143 ≤ 16) → pH D cCl (pA L sz) s.heap L f142 H locs → tS E T (tFr κ L [1, 2, 3, 4] []) κ L f κ L f142 → lv_has ls 5 [(0, .ref h), (1, .ref a1), (2, .int (iI a2)), (3, .int (iI z111)), (4, .int (iI z143))] → W p l e (kRm 2 86 0 0) s m AV below meth c H locs 0 0 QQ (F0 m 119 ls []) := by
                            intro n146
                            induction n146 using Nat.strongRecOn with
                            | ind n146 ih145 =>
                              intro z143 f142 H locs ls hm147 l143 u143 Y S hl
                              refine lv_iload X.1 X.2.1 d_Ae_encrypt_119 (lv_at hl 4 rfl) ?_
                              refine lv_bipush (v := iI 16) X.1 X.2.1 d_Ae_encrypt_121 (by decide) ?_
                              refine z_icmp_ge (tgt := 159) X.1 X.2.1 d_Ae_encrypt_123 (by decide) ⟨by omega, by omega⟩ ⟨by omega, by omega⟩ (fun h148 => ?_) (fun h148 => ?_)
                              · refine lv_iinc (v := iI (z111 + 1)) (lv' := [(3, .int (iI (z111 + 1))), (0, .ref h), (1, .ref a1), (2, .int (iI a2)), (4, .int (iI z143))]) X.1 X.2.1 d_Ae_encrypt_159 hl (k := 3) rfl ((iI_add _ _).trans (congrArg iI (by omega))) (by decide) rfl (fun ls hl => ?_)
                                refine lv_goto (tgt := 52) X.1 X.2.1 d_Ae_encrypt_162 (by decide) ?_
                                exact ih113 ((15 - (z111 + 1)).toNat) (by omega) (z111 + 1) f142 _ _ _ rfl (by omega) (by omega) Y S (lv_sub hl [1, 2, 3, 0] rfl)
                              · refine lv_aload_n X.1 X.2.1 d_Ae_encrypt_126 rfl (lv_at hl 0 rfl) ?_
                                refine t_getr (ci := 1) X Y S k0 rfl i_Ae 4 (by decide) rfl (k1 := 3) (k2 := 16) rfl rfl lk_Ae_19 (fun _ h9 => h9) d_Ae_encrypt_127 (fun b149 e149 k149 => ?_)
                                refine lv_iload X.1 X.2.1 d_Ae_encrypt_130 (lv_at hl 4 rfl) ?_
                                refine lv_aload_n X.1 X.2.1 d_Ae_encrypt_132 rfl (lv_at hl 0 rfl) ?_
                                refine t_getr (ci := 1) X Y S k0 rfl i_Ae 5 (by decide) rfl (k1 := 3) (k2 := 16) rfl rfl lk_Ae_22 (fun _ h9 => h9) d_Ae_encrypt_133 (fun b150 e150 k150 => ?_)
                                refine lv_iload X.1 X.2.1 d_Ae_encrypt_136 (lv_at hl 4 rfl) ?_
                                refine t_iald3 X Y S k150 (by omega) (by omega) (by omega) d_Ae_encrypt_138 (fun z151 l151 u151 => ?_)
                                refine lv_aload_n X.1 X.2.1 d_Ae_encrypt_139 rfl (lv_at hl 0 rfl) ?_
                                refine t_getr (ci := 1) X Y S k0 rfl i_Ae 2 (by decide) rfl (k1 := 3) (k2 := 240) rfl rfl lk_Ae_16 (fun _ h9 => h9) d_Ae_encrypt_140 (fun b152 e152 k152 => ?_)
                                refine lv_bipush (v := iI 16) X.1 X.2.1 d_Ae_encrypt_143 (by decide) ?_
                                refine lv_iload_n X.1 X.2.1 d_Ae_encrypt_145 rfl (lv_at hl 3 rfl) ?_
                                refine z_imul X.1 X.2.1 d_Ae_encrypt_146 ?_
                                refine lv_iload X.1 X.2.1 d_Ae_encrypt_147 (lv_at hl 4 rfl) ?_
                                refine z_iadd X.1 X.2.1 d_Ae_encrypt_149 ?_
                                refine t_iald3 X Y S k152 (by omega) (by omega) (by omega) d_Ae_encrypt_150 (fun z153 l153 u153 => ?_)
                                refine z_ixor X.1 X.2.1 ⟨by omega, by omega⟩ ⟨by omega, by omega⟩ d_Ae_encrypt_151 (fun z154 l154 u154 => ?_)
                                refine t_iast3 X Y S k149 (by omega) (by omega) (by omega) ⟨by omega, by omega⟩ (nF_of S k149 (by decide)) d_Ae_encrypt_152 (fun f155 H locs Y S w155 => ?_)
                                refine lv_iinc (v := iI (z143 + 1)) (lv' := [(4, .int (iI (z143 + 1))), (0, .ref h), (1, .ref a1), (2, .int (iI a2)), (3, .int (iI z111))]) X.1 X.2.1 d_Ae_encrypt_153 hl (k := 4) rfl ((iI_add _ _).trans (congrArg iI (by omega))) (by decide) rfl (fun ls hl => ?_)
                                refine lv_goto (tgt := 119) X.1 X.2.1 d_Ae_encrypt_156 (by decide) ?_
                                exact ih145 ((16 - (z143 + 1)).toNat) (by omega) (z143 + 1) f155 _ _ _ rfl (by omega) (by omega) Y S (lv_sub hl [1, 2, 3, 4, 0] rfl)
                          refine lv_istore (lv' := [(4, .int (iI 0)), (0, .ref h), (1, .ref a1), (2, .int (iI a2)), (3, .int (iI z111))]) X.1 X.2.1 d_Ae_encrypt_117 hl (by decide) rfl (fun ls hl => ?_)
                          exact J144 _ 0 f137 _ _ _ rfl (by omega) (by omega) Y S (lv_sub hl [1, 2, 3, 4, 0] rfl)
                        refine z_icmp_ge (tgt := 116) X.1 X.2.1 d_Ae_encrypt_109 (by decide) ⟨by omega, by omega⟩ ⟨by omega, by omega⟩ (fun h156 => ?_) (fun h156 => ?_)
                        · exact J138 f129 _ _ _  Y S (lv_sub hl [0, 1, 2, 3] rfl)
                        · refine lv_aload_n X.1 X.2.1 d_Ae_encrypt_112 rfl (lv_at hl 0 rfl) ?_
                          refine t_nv (t_runV (As := []) (rest := []) (n := 0) X Y S k0 hml hl.1 (c_Ae_mix l D E T κ L f129 H.size h k0 S.1) (ok_k X Y hA KS KR) rfl kl_Ae_Ae_mix ks_Ae_mix kx_Ae_mix ki_Ae_mix ini_Ae ⟨rfl, rfl⟩ hd_Ae_mix ⟨Nat.le_of_ble_eq_true rfl, Nat.le_of_ble_eq_true rfl⟩ rfl (Nat.le_of_ble_eq_true rfl) d_Ae_encrypt_113 ⟨Nat.le_of_ble_eq_true rfl, Nat.le_of_ble_eq_true rfl⟩) X Y hA S (by decide) (fun f157 H locs Y S s157 p157 => ?_)
                          exact J138 f157 _ _ _  Y S (lv_sub hl [0, 1, 2, 3] rfl)
                      · refine lv_aload_n X.1 X.2.1 d_Ae_encrypt_70 rfl (lv_at hl 0 rfl) ?_
                        refine t_getr (ci := 1) X Y S k0 rfl i_Ae 5 (by decide) rfl (k1 := 3) (k2 := 16) rfl rfl lk_Ae_22 (fun _ h9 => h9) d_Ae_encrypt_71 (fun b158 e158 k158 => ?_)
                        refine lv_iload X.1 X.2.1 d_Ae_encrypt_74 (lv_at hl 4 rfl) ?_
                        refine k_gets 1 (by decide) X Y KS sk_Ae_29 d_Ae_encrypt_76 ?_
                        refine lv_aload_n X.1 X.2.1 d_Ae_encrypt_79 rfl (lv_at hl 0 rfl) ?_
                        refine t_getr (ci := 1) X Y S k0 rfl i_Ae 4 (by decide) rfl (k1 := 3) (k2 := 16) rfl rfl lk_Ae_19 (fun _ h9 => h9) d_Ae_encrypt_80 (fun b159 e159 k159 => ?_)
                        refine lv_iload X.1 X.2.1 d_Ae_encrypt_83 (lv_at hl 4 rfl) ?_
                        refine lv_iconst (v := iI 4) X.1 X.2.1 d_Ae_encrypt_85 (by decide) ?_
                        refine lv_iload X.1 X.2.1 d_Ae_encrypt_86 (lv_at hl 4 rfl) ?_
                        refine lv_iconst (v := iI 3) X.1 X.2.1 d_Ae_encrypt_88 (by decide) ?_
                        refine z_iand X.1 X.2.1 (by omega) (by omega) d_Ae_encrypt_89 (fun z160 l160 u160 => ?_)
                        refine z_imul X.1 X.2.1 d_Ae_encrypt_90 ?_
                        refine z_iadd X.1 X.2.1 d_Ae_encrypt_91 ?_
                        refine lv_bipush (v := iI 15) X.1 X.2.1 d_Ae_encrypt_92 (by decide) ?_
                        refine z_iand X.1 X.2.1 (by omega) (by omega) d_Ae_encrypt_94 (fun z161 l161 u161 => ?_)
                        refine t_iald3 X Y S k159 (by omega) (by omega) (by omega) d_Ae_encrypt_95 (fun z162 l162 u162 => ?_)
                        refine t_box X Y KS (by omega) (by omega) d_Ae_encrypt_96 (fun z163 l163 u163 => ?_)
                        refine t_iast3 X Y S k158 (by omega) (by omega) (by omega) ⟨by omega, by omega⟩ (nF_of S k158 (by decide)) d_Ae_encrypt_97 (fun f164 H locs Y S w164 => ?_)
                        refine lv_iinc (v := iI (z130 + 1)) (lv' := [(4, .int (iI (z130 + 1))), (0, .ref h), (1, .ref a1), (2, .int (iI a2)), (3, .int (iI z111))]) X.1 X.2.1 d_Ae_encrypt_98 hl (k := 4) rfl ((iI_add _ _).trans (congrArg iI (by omega))) (by decide) rfl (fun ls hl => ?_)
                        refine lv_goto (tgt := 63) X.1 X.2.1 d_Ae_encrypt_101 (by decide) ?_
                        exact ih132 ((16 - (z130 + 1)).toNat) (by omega) (z130 + 1) f164 _ _ _ rfl (by omega) (by omega) Y S (lv_sub hl [1, 2, 3, 4, 0] rfl)
                  refine lv_istore (lv' := [(4, .int (iI 0)), (0, .ref h), (1, .ref a1), (2, .int (iI a2)), (3, .int (iI z111))]) X.1 X.2.1 d_Ae_encrypt_61 hl (by decide) rfl (fun ls hl => ?_)
                  exact J131 _ 0 f110 _ _ _ rfl (by omega) (by omega) Y S (lv_sub hl [1, 2, 3, 4, 0] rfl)
            refine lv_istore_n (lv' := [(3, .int (iI 1)), (0, .ref h), (1, .ref a1), (2, .int (iI a2))]) X.1 X.2.1 d_Ae_encrypt_51 rfl hl (by decide) rfl (fun ls hl => ?_)
            exact J112 _ 1 f103 _ _ _ rfl (by omega) (by omega) Y S (lv_sub hl [1, 2, 3, 0] rfl)
          · refine lv_aload_n X.1 X.2.1 d_Ae_encrypt_22 rfl (lv_at hl 0 rfl) ?_
            refine t_getr (ci := 1) X Y S k0 rfl i_Ae 4 (by decide) rfl (k1 := 3) (k2 := 16) rfl rfl lk_Ae_19 (fun _ h9 => h9) d_Ae_encrypt_23 (fun b165 e165 k165 => ?_)
            refine lv_iload_n X.1 X.2.1 d_Ae_encrypt_26 rfl (lv_at hl 3 rfl) ?_
            refine lv_aload_n X.1 X.2.1 d_Ae_encrypt_27 rfl (lv_at hl 1 rfl) ?_
            refine lv_iload_n X.1 X.2.1 d_Ae_encrypt_28 rfl (lv_at hl 2 rfl) ?_
            refine lv_iload_n X.1 X.2.1 d_Ae_encrypt_29 rfl (lv_at hl 3 rfl) ?_
            refine z_iadd X.1 X.2.1 d_Ae_encrypt_30 ?_
            refine t_bald X Y S (Or.inl k1) (by omega) (by omega) (by omega) d_Ae_encrypt_31 (fun z166 l166 u166 => ?_)
            refine lv_sipush (v := iI 255) X.1 X.2.1 d_Ae_encrypt_32 (by decide) ?_
            refine z_iand X.1 X.2.1 (by omega) (by omega) d_Ae_encrypt_35 (fun z167 l167 u167 => ?_)
            refine lv_aload_n X.1 X.2.1 d_Ae_encrypt_36 rfl (lv_at hl 0 rfl) ?_
            refine t_getr (ci := 1) X Y S k0 rfl i_Ae 2 (by decide) rfl (k1 := 3) (k2 := 240) rfl rfl lk_Ae_16 (fun _ h9 => h9) d_Ae_encrypt_37 (fun b168 e168 k168 => ?_)
            refine lv_iload_n X.1 X.2.1 d_Ae_encrypt_40 rfl (lv_at hl 3 rfl) ?_
            refine t_iald3 X Y S k168 (by omega) (by omega) (by omega) d_Ae_encrypt_41 (fun z169 l169 u169 => ?_)
            refine z_ixor X.1 X.2.1 ⟨by omega, by omega⟩ ⟨by omega, by omega⟩ d_Ae_encrypt_42 (fun z170 l170 u170 => ?_)
            refine t_iast3 X Y S k165 (by omega) (by omega) (by omega) ⟨by omega, by omega⟩ (nF_of S k165 (by decide)) d_Ae_encrypt_43 (fun f171 H locs Y S w171 => ?_)
            refine lv_iinc (v := iI (z104 + 1)) (lv' := [(3, .int (iI (z104 + 1))), (0, .ref h), (1, .ref a1), (2, .int (iI a2))]) X.1 X.2.1 d_Ae_encrypt_44 hl (k := 3) rfl ((iI_add _ _).trans (congrArg iI (by omega))) (by decide) rfl (fun ls hl => ?_)
            refine lv_goto (tgt := 16) X.1 X.2.1 d_Ae_encrypt_47 (by decide) ?_
            exact ih106 ((16 - (z104 + 1)).toNat) (by omega) (z104 + 1) f171 _ _ _ rfl (by omega) (by omega) Y S (lv_sub hl [1, 2, 3, 0] rfl)
      refine lv_istore_n (lv' := [(3, .int (iI 0)), (0, .ref h), (1, .ref a1), (2, .int (iI a2))]) X.1 X.2.1 d_Ae_encrypt_15 rfl hl (by decide) rfl (fun ls hl => ?_)
      exact J105 _ 0 f _ _ _ rfl (by omega) (by omega) Y S (lv_sub hl [1, 2, 3, 0] rfl)
    · exact c_retv hQQ X Y hr hlk ⟨rfl, S, trivial⟩ d_Ae_encrypt_13
set_option maxHeartbeats 4000000 in
set_option maxRecDepth 100000 in
theorem c_Ae_decrypt (l : Launch) (D : va_G) (E : cE) (T : cT) (κ : tK) (L : List Nat) (f : pF) (sz : Nat) (h : Nat) (k0 : κ h = (11, 0)) (a1 n1 : Nat) (k1 : κ a1 = (1, n1)) (x1 : n1 ≤ 12288) (a2 : Int) (l_a2 : (-20300) ≤ a2) (u_a2 : a2 ≤ 20300) (hw : tW E T κ L f) : Met l y_Ae_decrypt (k_Ae_decrypt :: lw_tg) (kRm 2 86 0 0) (va_Pc [.ref h, .ref a1, .int (iI a2)] (kPre D E T L f sz)) (va_Qv (nPv E T [1, 2, 3, 4] κ L f (fun (g : pF) => True)) (cPost D E (pA L sz)) (pA L sz)) 0 0 (pA L sz) := by
  refine k_enter (own := R_Ae) (by decide) rfl (Nat.le_of_ble_eq_true rfl) (fun p e s m below meth c ls AV QQ H locs hQQ X Y hA hin hr hlk hml hl KS KR => ?_)
  have hl : lv_has ls 5 [(0, .ref h), (1, .ref a1), (2, .int (iI a2))] := hl
  have S : tS E T (tFr κ L [1, 2, 3, 4] []) κ L f κ L f := tS_rf hw
  refine lv_iload_n X.1 X.2.1 d_Ae_decrypt_0 rfl (lv_at hl 2 rfl) ?_
  refine z_if_lt (tgt := 13) X.1 X.2.1 d_Ae_decrypt_1 (by decide) ⟨by omega, by omega⟩ (fun h101 => ?_) (fun h101 => ?_)
  · exact c_retv hQQ X Y hr hlk ⟨rfl, S, trivial⟩ d_Ae_decrypt_13
  · refine lv_iload_n X.1 X.2.1 d_Ae_decrypt_4 rfl (lv_at hl 2 rfl) ?_
    refine lv_aload_n X.1 X.2.1 d_Ae_decrypt_5 rfl (lv_at hl 1 rfl) ?_
    refine t_alen X Y S KS (Or.inl k1) (by omega) d_Ae_decrypt_6 ?_
    refine lv_bipush (v := iI 16) X.1 X.2.1 d_Ae_decrypt_7 (by decide) ?_
    refine z_isub X.1 X.2.1 d_Ae_decrypt_9 ?_
    refine z_icmp_le (tgt := 14) X.1 X.2.1 d_Ae_decrypt_10 (by decide) ⟨by omega, by omega⟩ ⟨by omega, by omega⟩ (fun h102 => ?_) (fun h102 => ?_)
    · refine lv_iconst (v := iI 0) X.1 X.2.1 d_Ae_decrypt_14 (by decide) ?_
      have J105 : ∀ (n107 : Nat) (z104 : Int) (f103 : pF) (H : Heap) (locs : List Loc) (ls : Array Slot), (16 - z104).toNat = n107 → (0 ≤ z104) → (z104 ≤ 16) → pH D cCl (pA L sz) s.heap L f103 H locs → tS E T (tFr κ L [1, 2, 3, 4] []) κ L f κ L f103 → lv_has ls 5 [(0, .ref h), (1, .ref a1), (2, .int (iI a2)), (3, .int (iI z104))] → W p l e (kRm 2 86 0 0) s m AV below meth c H locs 0 0 QQ (F0 m 16 ls []) := by
        intro n107
        induction n107 using Nat.strongRecOn with
        | ind n107 ih106 =>
          intro z104 f103 H locs ls hm108 l104 u104 Y S hl
          refine lv_iload_n X.1 X.2.1 d_Ae_decrypt_16 rfl (lv_at hl 3 rfl) ?_
          refine lv_bipush (v := iI 16) X.1 X.2.1 d_Ae_decrypt_17 (by decide) ?_
          refine z_icmp_ge (tgt := 58) X.1 X.2.1 d_Ae_decrypt_19 (by decide) ⟨by omega, by omega⟩ ⟨by omega, by omega⟩ (fun h109 => ?_) (fun h109 => ?_)
          · refine lv_aload_n X.1 X.2.1 d_Ae_decrypt_58 rfl (lv_at hl 0 rfl) ?_
            refine t_geti (ci := 1) X Y S k0 rfl i_Ae 3 (by decide) rfl lk_Ae_32 (fun _ h9 => h9) d_Ae_decrypt_59 (fun z110 e110 l110 u110 => ?_)
            refine lv_iconst (v := iI 1) X.1 X.2.1 d_Ae_decrypt_62 (by decide) ?_
            refine z_isub X.1 X.2.1 d_Ae_decrypt_63 ?_
            have J113 : ∀ (n115 : Nat) (z112 : Int) (f111 : pF) (H : Heap) (locs : List Loc) (ls : Array Slot), (z112 - (-1)).toNat = n115 → ((-1) ≤ z112) → (z112 ≤ 13) → pH D cCl (pA L sz) s.heap L f111 H locs → tS E T (tFr κ L [1, 2, 3, 4] []) κ L f κ L f111 → lv_has ls 5 [(0, .ref h), (1, .ref a1), (2, .int (iI a2)), (3, .int (iI z112))] → W p l e (kRm 2 86 0 0) s m AV below meth c H locs 0 0 QQ (F0 m 65 ls []) := by
              intro n115
              induction n115 using Nat.strongRecOn with
              | ind n115 ih114 =>
                intro z112 f111 H locs ls hm116 l112 u112 Y S hl
                refine lv_iload_n X.1 X.2.1 d_Ae_decrypt_65 rfl (lv_at hl 3 rfl) ?_
                refine z_if_lt (tgt := 160) X.1 X.2.1 d_Ae_decrypt_66 (by decide) ⟨by omega, by omega⟩ (fun h117 => ?_) (fun h117 => ?_)
                · refine lv_iconst (v := iI 0) X.1 X.2.1 d_Ae_decrypt_160 (by decide) ?_
                  have J120 : ∀ (n122 : Nat) (z119 : Int) (f118 : pF) (H : Heap) (locs : List Loc) (ls : Array Slot), (16 - z119).toNat = n122 → (0 ≤ z119) → (z119 ≤ 16) → pH D cCl (pA L sz) s.heap L f118 H locs → tS E T (tFr κ L [1, 2, 3, 4] []) κ L f κ L f118 → lv_has ls 5 [(0, .ref h), (1, .ref a1), (2, .int (iI a2)), (3, .int (iI z119))] → W p l e (kRm 2 86 0 0) s m AV below meth c H locs 0 0 QQ (F0 m 162 ls []) := by
                    intro n122
                    induction n122 using Nat.strongRecOn with
                    | ind n122 ih121 =>
                      intro z119 f118 H locs ls hm123 l119 u119 Y S hl
                      refine lv_iload_n X.1 X.2.1 d_Ae_decrypt_162 rfl (lv_at hl 3 rfl) ?_
                      refine lv_bipush (v := iI 16) X.1 X.2.1 d_Ae_decrypt_163 (by decide) ?_
                      refine z_icmp_ge (tgt := 186) X.1 X.2.1 d_Ae_decrypt_165 (by decide) ⟨by omega, by omega⟩ ⟨by omega, by omega⟩ (fun h124 => ?_) (fun h124 => ?_)
                      · exact c_retv hQQ X Y hr hlk ⟨rfl, S, trivial⟩ d_Ae_decrypt_186
                      · refine lv_aload_n X.1 X.2.1 d_Ae_decrypt_168 rfl (lv_at hl 1 rfl) ?_
                        refine lv_iload_n X.1 X.2.1 d_Ae_decrypt_169 rfl (lv_at hl 2 rfl) ?_
                        refine lv_iload_n X.1 X.2.1 d_Ae_decrypt_170 rfl (lv_at hl 3 rfl) ?_
                        refine z_iadd X.1 X.2.1 d_Ae_decrypt_171 ?_
                        refine lv_aload_n X.1 X.2.1 d_Ae_decrypt_172 rfl (lv_at hl 0 rfl) ?_
                        refine t_getr (ci := 1) X Y S k0 rfl i_Ae 4 (by decide) rfl (k1 := 3) (k2 := 16) rfl rfl lk_Ae_19 (fun _ h9 => h9) d_Ae_decrypt_173 (fun b125 e125 k125 => ?_)
                        refine lv_iload_n X.1 X.2.1 d_Ae_decrypt_176 rfl (lv_at hl 3 rfl) ?_
                        refine t_iald3 X Y S k125 (by omega) (by omega) (by omega) d_Ae_decrypt_177 (fun z126 l126 u126 => ?_)
                        refine lv_i2b X.1 X.2.1 d_Ae_decrypt_178 rfl ?_
                        refine t_u (fun z127 l127 u127 => ?_)
                        refine t_bast X Y S k1 (by omega) (by omega) (by omega) (nF_of S k1 (by decide)) d_Ae_decrypt_179 (fun f128 H locs Y S w128 => ?_)
                        refine lv_iinc (v := iI (z119 + 1)) (lv' := [(3, .int (iI (z119 + 1))), (0, .ref h), (1, .ref a1), (2, .int (iI a2))]) X.1 X.2.1 d_Ae_decrypt_180 hl (k := 3) rfl ((iI_add _ _).trans (congrArg iI (by omega))) (by decide) rfl (fun ls hl => ?_)
                        refine lv_goto (tgt := 162) X.1 X.2.1 d_Ae_decrypt_183 (by decide) ?_
                        exact ih121 ((16 - (z119 + 1)).toNat) (by omega) (z119 + 1) f128 _ _ _ rfl (by omega) (by omega) Y S (lv_sub hl [1, 2, 3, 0] rfl)
                  refine lv_istore_n (lv' := [(3, .int (iI 0)), (0, .ref h), (1, .ref a1), (2, .int (iI a2))]) X.1 X.2.1 d_Ae_decrypt_161 rfl hl (by decide) rfl (fun ls hl => ?_)
                  exact J120 _ 0 f111 _ _ _ rfl (by omega) (by omega) Y S (lv_sub hl [1, 2, 3, 0] rfl)
                · refine lv_iconst (v := iI 0) X.1 X.2.1 d_Ae_decrypt_69 (by decide) ?_
                  have J131 : ∀ (n133 : Nat) (z130 : Int) (f129 : pF) (H : Heap) (locs : List Loc) (ls : Array Slot), (16 - z130).toNat = n133 → (0 ≤ z130) → (z130 ≤ 16) → pH D cCl (pA L sz) s.heap L f129 H locs → tS E T (tFr κ L [1, 2, 3, 4] []) κ L f κ L f129 → lv_has ls 5 [(0, .ref h), (1, .ref a1), (2, .int (iI a2)), (3, .int (iI z112)), (4, .int (iI z130))] → W p l e (kRm 2 86 0 0) s m AV below meth c H locs 0 0 QQ (F0 m 72 ls []) := by
                    intro n133
                    induction n133 using Nat.strongRecOn with
                    | ind n133 ih132 =>
                      intro z130 f129 H locs ls hm134 l130 u130 Y S hl
                      refine lv_iload X.1 X.2.1 d_Ae_decrypt_72 (lv_at hl 4 rfl) ?_
                      refine lv_bipush (v := iI 16) X.1 X.2.1 d_Ae_decrypt_74 (by decide) ?_
                      refine z_icmp_ge (tgt := 127) X.1 X.2.1 d_Ae_decrypt_76 (by decide) ⟨by omega, by omega⟩ ⟨by omega, by omega⟩ (fun h135 => ?_) (fun h135 => ?_)
                      · refine lv_iload_n X.1 X.2.1 d_Ae_decrypt_127 rfl (lv_at hl 3 rfl) ?_
                        have J137 : ∀ (f136 : pF) (H : Heap) (locs : List Loc) (ls : Array Slot), pH D cCl (pA L sz) s.heap L f136 H locs → tS E T (tFr κ L [1, 2, 3, 4] []) κ L f κ L f136 → lv_has ls 5 [(0, .ref h), (1, .ref a1), (2, .int (iI a2)), (3, .int (iI z112))] → W p l e (kRm 2 86 0 0) s m AV below meth c H locs 0 0 QQ (F0 m 139 ls []) := by
                          intro f136 H locs ls  Y S hl
                          refine lv_aload_n X.1 X.2.1 d_Ae_decrypt_139 rfl (lv_at hl 0 rfl) ?_
                          refine t_getr (ci := 1) X Y S k0 rfl i_Ae 5 (by decide) rfl (k1 := 3) (k2 := 16) rfl rfl lk_Ae_22 (fun _ h9 => h9) d_Ae_decrypt_140 (fun b141 e141 k141 => ?_)
                          refine lv_iconst (v := iI 0) X.1 X.2.1 d_Ae_decrypt_143 (by decide) ?_
                          refine lv_aload_n X.1 X.2.1 d_Ae_decrypt_144 rfl (lv_at hl 0 rfl) ?_
                          refine t_getr (ci := 1) X Y S k0 rfl i_Ae 4 (by decide) rfl (k1 := 3) (k2 := 16) rfl rfl lk_Ae_19 (fun _ h9 => h9) d_Ae_decrypt_145 (fun b142 e142 k142 => ?_)
                          refine lv_iconst (v := iI 0) X.1 X.2.1 d_Ae_decrypt_148 (by decide) ?_
                          refine lv_bipush (v := iI 16) X.1 X.2.1 d_Ae_decrypt_149 (by decide) ?_
                          refine t_copyI (Or.inr rfl) X Y S (hml.trans hl.1.symm) kl_Ae_copy k141 k142 (by omega) (by omega) (by omega) (by omega) (by omega) (by omega) (by omega) (nF_of S k142 (by decide)) (Nat.le_of_ble_eq_true rfl) (Nat.le_of_ble_eq_true rfl) d_Ae_decrypt_151 (fun f143 H locs Y S w143 => ?_)
                          refine lv_iinc (v := iI (z112 - 1)) (lv' := [(3, .int (iI (z112 - 1))), (0, .ref h), (1, .ref a1), (2, .int (iI a2))]) X.1 X.2.1 d_Ae_decrypt_154 hl (k := 3) rfl ((iI_add _ _).trans (congrArg iI (by omega))) (by decide) rfl (fun ls hl => ?_)
                          refine lv_goto (tgt := 65) X.1 X.2.1 d_Ae_decrypt_157 (by decide) ?_
                          exact ih114 (((z112 - 1) - (-1)).toNat) (by omega) (z112 - 1) f143 _ _ _ rfl (by omega) (by omega) Y S (lv_sub hl [1, 2, 3, 0] rfl)
                        refine z_if_le (tgt := 139) X.1 X.2.1 d_Ae_decrypt_128 (by decide) ⟨by omega, by omega⟩ (fun h144 => ?_) (fun h144 => ?_)
                        · exact J137 f129 _ _ _  Y S (lv_sub hl [0, 1, 2, 3] rfl)
                        · refine lv_aload_n X.1 X.2.1 d_Ae_decrypt_131 rfl (lv_at hl 0 rfl) ?_
                          refine t_nv (t_runV (As := []) (rest := []) (n := 0) X Y S k0 hml hl.1 (c_Ae_prepare l D E T κ L f129 H.size h k0 S.1) (ok_k X Y hA KS KR) rfl kl_Ae_Ae_prepare ks_Ae_prepare kx_Ae_prepare ki_Ae_prepare ini_Ae ⟨rfl, rfl⟩ hd_Ae_prepare ⟨Nat.le_of_ble_eq_true rfl, Nat.le_of_ble_eq_true rfl⟩ rfl (Nat.le_of_ble_eq_true rfl) d_Ae_decrypt_132 ⟨Nat.le_of_ble_eq_true rfl, Nat.le_of_ble_eq_true rfl⟩) X Y hA S (by decide) (fun f145 H locs Y S s145 p145 => ?_)
                          refine lv_aload_n X.1 X.2.1 d_Ae_decrypt_135 rfl (lv_at hl 0 rfl) ?_
                          refine t_nv (t_runV (As := []) (rest := []) (n := 0) X Y S k0 hml hl.1 (c_Ae_mix l D E T κ L f145 H.size h k0 S.1) (ok_k X Y hA KS KR) rfl kl_Ae_Ae_mix ks_Ae_mix kx_Ae_mix ki_Ae_mix ini_Ae ⟨rfl, rfl⟩ hd_Ae_mix ⟨Nat.le_of_ble_eq_true rfl, Nat.le_of_ble_eq_true rfl⟩ rfl (Nat.le_of_ble_eq_true rfl) d_Ae_decrypt_136 ⟨Nat.le_of_ble_eq_true rfl, Nat.le_of_ble_eq_true rfl⟩) X Y hA S (by decide) (fun f146 H locs Y S s146 p146 => ?_)
                          exact J137 f146 _ _ _  Y S (lv_sub hl [0, 1, 2, 3] rfl)
                      · refine lv_aload_n X.1 X.2.1 d_Ae_decrypt_79 rfl (lv_at hl 0 rfl) ?_
                        refine t_getr (ci := 1) X Y S k0 rfl i_Ae 5 (by decide) rfl (k1 := 3) (k2 := 16) rfl rfl lk_Ae_22 (fun _ h9 => h9) d_Ae_decrypt_80 (fun b147 e147 k147 => ?_)
                        refine lv_iload X.1 X.2.1 d_Ae_decrypt_83 (lv_at hl 4 rfl) ?_
                        refine lv_aload_n X.1 X.2.1 d_Ae_decrypt_85 rfl (lv_at hl 0 rfl) ?_
                        refine t_getr (ci := 1) X Y S k0 rfl i_Ae 0 (by decide) rfl (k1 := 3) (k2 := 256) rfl rfl lk_Ae_7 (fun _ h9 => h9) d_Ae_decrypt_86 (fun b148 e148 k148 => ?_)
                        refine lv_aload_n X.1 X.2.1 d_Ae_decrypt_89 rfl (lv_at hl 0 rfl) ?_
                        refine t_getr (ci := 1) X Y S k0 rfl i_Ae 4 (by decide) rfl (k1 := 3) (k2 := 16) rfl rfl lk_Ae_19 (fun _ h9 => h9) d_Ae_decrypt_90 (fun b149 e149 k149 => ?_)
                        refine lv_iload X.1 X.2.1 d_Ae_decrypt_93 (lv_at hl 4 rfl) ?_
                        refine lv_iconst (v := iI 4) X.1 X.2.1 d_Ae_decrypt_95 (by decide) ?_
                        refine lv_iload X.1 X.2.1 d_Ae_decrypt_96 (lv_at hl 4 rfl) ?_
                        refine lv_iconst (v := iI 3) X.1 X.2.1 d_Ae_decrypt_98 (by decide) ?_
                        refine z_iand X.1 X.2.1 (by omega) (by omega) d_Ae_decrypt_99 (fun z150 l150 u150 => ?_)
                        refine z_imul X.1 X.2.1 d_Ae_decrypt_100 ?_
                        refine z_isub X.1 X.2.1 d_Ae_decrypt_101 ?_
                        refine lv_bipush (v := iI 15) X.1 X.2.1 d_Ae_decrypt_102 (by decide) ?_
                        refine z_iand X.1 X.2.1 (by omega) (by omega) d_Ae_decrypt_104 (fun z151 l151 u151 => ?_)
                        refine t_iald3 X Y S k149 (by omega) (by omega) (by omega) d_Ae_decrypt_105 (fun z152 l152 u152 => ?_)
                        refine t_iald3 X Y S k148 (by omega) (by omega) (by omega) d_Ae_decrypt_106 (fun z153 l153 u153 => ?_)
                        refine lv_aload_n X.1 X.2.1 d_Ae_decrypt_107 rfl (lv_at hl 0 rfl) ?_
                        refine t_getr (ci := 1) X Y S k0 rfl i_Ae 2 (by decide) rfl (k1 := 3) (k2 := 240) rfl rfl lk_Ae_16 (fun _ h9 => h9) d_Ae_decrypt_108 (fun b154 e154 k154 => ?_)
                        refine lv_bipush (v := iI 16) X.1 X.2.1 d_Ae_decrypt_111 (by decide) ?_
                        refine lv_iload_n X.1 X.2.1 d_Ae_decrypt_113 rfl (lv_at hl 3 rfl) ?_
                        refine z_imul X.1 X.2.1 d_Ae_decrypt_114 ?_
                        refine lv_iload X.1 X.2.1 d_Ae_decrypt_115 (lv_at hl 4 rfl) ?_
                        refine z_iadd X.1 X.2.1 d_Ae_decrypt_117 ?_
                        refine t_iald3 X Y S k154 (by omega) (by omega) (by omega) d_Ae_decrypt_118 (fun z155 l155 u155 => ?_)
                        refine z_ixor X.1 X.2.1 ⟨by omega, by omega⟩ ⟨by omega, by omega⟩ d_Ae_decrypt_119 (fun z156 l156 u156 => ?_)
                        refine t_iast3 X Y S k147 (by omega) (by omega) (by omega) ⟨by omega, by omega⟩ (nF_of S k147 (by decide)) d_Ae_decrypt_120 (fun f157 H locs Y S w157 => ?_)
                        refine lv_iinc (v := iI (z130 + 1)) (lv' := [(4, .int (iI (z130 + 1))), (0, .ref h), (1, .ref a1), (2, .int (iI a2)), (3, .int (iI z112))]) X.1 X.2.1 d_Ae_decrypt_121 hl (k := 4) rfl ((iI_add _ _).trans (congrArg iI (by omega))) (by decide) rfl (fun ls hl => ?_)
                        refine lv_goto (tgt := 72) X.1 X.2.1 d_Ae_decrypt_124 (by decide) ?_
                        exact ih132 ((16 - (z130 + 1)).toNat) (by omega) (z130 + 1) f157 _ _ _ rfl (by omega) (by omega) Y S (lv_sub hl [1, 2, 3, 4, 0] rfl)
                  refine lv_istore (lv' := [(4, .int (iI 0)), (0, .ref h), (1, .ref a1), (2, .int (iI a2)), (3, .int (iI z112))]) X.1 X.2.1 d_Ae_decrypt_70 hl (by decide) rfl (fun ls hl => ?_)
                  exact J131 _ 0 f111 _ _ _ rfl (by omega) (by omega) Y S (lv_sub hl [1, 2, 3, 4, 0] rfl)
            refine lv_istore_n (lv' := [(3, .int (iI (z110 - 1))), (0, .ref h), (1, .ref a1), (2, .int (iI a2))]) X.1 X.2.1 d_Ae_decrypt_64 rfl hl (by decide) rfl (fun ls hl => ?_)
            exact J113 _ (z110 - 1) f103 _ _ _ rfl (by omega) (by omega) Y S (lv_sub hl [1, 2, 3, 0] rfl)
          · refine lv_aload_n X.1 X.2.1 d_Ae_decrypt_22 rfl (lv_at hl 0 rfl) ?_
            refine t_getr (ci := 1) X Y S k0 rfl i_Ae 4 (by decide) rfl (k1 := 3) (k2 := 16) rfl rfl lk_Ae_19 (fun _ h9 => h9) d_Ae_decrypt_23 (fun b158 e158 k158 => ?_)
            refine lv_iload_n X.1 X.2.1 d_Ae_decrypt_26 rfl (lv_at hl 3 rfl) ?_
            refine lv_aload_n X.1 X.2.1 d_Ae_decrypt_27 rfl (lv_at hl 1 rfl) ?_
            refine lv_iload_n X.1 X.2.1 d_Ae_decrypt_28 rfl (lv_at hl 2 rfl) ?_
            refine lv_iload_n X.1 X.2.1 d_Ae_decrypt_29 rfl (lv_at hl 3 rfl) ?_
            refine z_iadd X.1 X.2.1 d_Ae_decrypt_30 ?_
            refine t_bald X Y S (Or.inl k1) (by omega) (by omega) (by omega) d_Ae_decrypt_31 (fun z159 l159 u159 => ?_)
            refine lv_sipush (v := iI 255) X.1 X.2.1 d_Ae_decrypt_32 (by decide) ?_
            refine z_iand X.1 X.2.1 (by omega) (by omega) d_Ae_decrypt_35 (fun z160 l160 u160 => ?_)
            refine lv_aload_n X.1 X.2.1 d_Ae_decrypt_36 rfl (lv_at hl 0 rfl) ?_
            refine t_getr (ci := 1) X Y S k0 rfl i_Ae 2 (by decide) rfl (k1 := 3) (k2 := 240) rfl rfl lk_Ae_16 (fun _ h9 => h9) d_Ae_decrypt_37 (fun b161 e161 k161 => ?_)
            refine lv_bipush (v := iI 16) X.1 X.2.1 d_Ae_decrypt_40 (by decide) ?_
            refine lv_aload_n X.1 X.2.1 d_Ae_decrypt_42 rfl (lv_at hl 0 rfl) ?_
            refine t_geti (ci := 1) X Y S k0 rfl i_Ae 3 (by decide) rfl lk_Ae_32 (fun _ h9 => h9) d_Ae_decrypt_43 (fun z162 e162 l162 u162 => ?_)
            refine z_imul X.1 X.2.1 d_Ae_decrypt_46 ?_
            refine lv_iload_n X.1 X.2.1 d_Ae_decrypt_47 rfl (lv_at hl 3 rfl) ?_
            refine z_iadd X.1 X.2.1 d_Ae_decrypt_48 ?_
            refine t_iald3 X Y S k161 (by omega) (by omega) (by omega) d_Ae_decrypt_49 (fun z163 l163 u163 => ?_)
            refine z_ixor X.1 X.2.1 ⟨by omega, by omega⟩ ⟨by omega, by omega⟩ d_Ae_decrypt_50 (fun z164 l164 u164 => ?_)
            refine t_iast3 X Y S k158 (by omega) (by omega) (by omega) ⟨by omega, by omega⟩ (nF_of S k158 (by decide)) d_Ae_decrypt_51 (fun f165 H locs Y S w165 => ?_)
            refine lv_iinc (v := iI (z104 + 1)) (lv' := [(3, .int (iI (z104 + 1))), (0, .ref h), (1, .ref a1), (2, .int (iI a2))]) X.1 X.2.1 d_Ae_decrypt_52 hl (k := 3) rfl ((iI_add _ _).trans (congrArg iI (by omega))) (by decide) rfl (fun ls hl => ?_)
            refine lv_goto (tgt := 16) X.1 X.2.1 d_Ae_decrypt_55 (by decide) ?_
            exact ih106 ((16 - (z104 + 1)).toNat) (by omega) (z104 + 1) f165 _ _ _ rfl (by omega) (by omega) Y S (lv_sub hl [1, 2, 3, 0] rfl)
      refine lv_istore_n (lv' := [(3, .int (iI 0)), (0, .ref h), (1, .ref a1), (2, .int (iI a2))]) X.1 X.2.1 d_Ae_decrypt_15 rfl hl (by decide) rfl (fun ls hl => ?_)
      exact J105 _ 0 f _ _ _ rfl (by omega) (by omega) Y S (lv_sub hl [1, 2, 3, 0] rfl)
    · exact c_retv hQQ X Y hr hlk ⟨rfl, S, trivial⟩ d_Ae_decrypt_13
set_option maxHeartbeats 4000000 in
set_option maxRecDepth 100000 in
theorem c_Ae_mask (l : Launch) (D : va_G) (E : cE) (T : cT) (κ : tK) (L : List Nat) (f : pF) (sz : Nat) (a1 n1 : Nat) (k1 : κ a1 = (1, n1)) (x1 : n1 ≤ 12288) (a2 : Int) (l_a2 : 16 ≤ a2) (u_a2 : a2 ≤ 20200) (a3 : Int) (l_a3 : 0 ≤ a3) (u_a3 : a3 ≤ 16) (hw : tW E T κ L f) (q0 : a2 + a3 ≤ (n1 : Int)) : Met l y_Ae_mask (k_Ae_mask :: lw_tg) (kRm 1 60 0 0) (va_Pc [.ref a1, .int (iI a2), .int (iI a3)] (kPre D E T L f sz)) (va_Qv (nPv E T [1] κ L f (fun (g : pF) => True)) (cPost D E (pA L sz)) (pA L sz)) 0 0 (pA L sz) := by
  refine k_enter (own := R_Ae) (by decide) rfl (Nat.le_of_ble_eq_true rfl) (fun p e s m below meth c ls AV QQ H locs hQQ X Y hA hin hr hlk hml hl KS KR => ?_)
  have hl : lv_has ls 4 [(0, .ref a1), (1, .int (iI a2)), (2, .int (iI a3))] := hl
  have S : tS E T (tFr κ L [1] []) κ L f κ L f := tS_rf hw
  refine lv_iload_n X.1 X.2.1 d_Ae_mask_0 rfl (lv_at hl 1 rfl) ?_
  have J103 : ∀ (n105 : Nat) (z102 : Int) (f101 : pF) (H : Heap) (locs : List Loc) (ls : Array Slot), (20216 - z102).toNat = n105 → (16 ≤ z102) → (z102 ≤ 20216) → pH D cCl (pA L sz) s.heap L f101 H locs → tS E T (tFr κ L [1] []) κ L f κ L f101 → lv_has ls 4 [(0, .ref a1), (1, .int (iI a2)), (2, .int (iI a3)), (3, .int (iI z102))] → W p l e (kRm 1 60 0 0) s m AV below meth c H locs 0 0 QQ (F0 m 2 ls []) := by
    intro n105
    induction n105 using Nat.strongRecOn with
    | ind n105 ih104 =>
      intro z102 f101 H locs ls hm106 l102 u102 Y S hl
      refine lv_iload_n X.1 X.2.1 d_Ae_mask_2 rfl (lv_at hl 3 rfl) ?_
      refine lv_iload_n X.1 X.2.1 d_Ae_mask_3 rfl (lv_at hl 1 rfl) ?_
      refine lv_iload_n X.1 X.2.1 d_Ae_mask_4 rfl (lv_at hl 2 rfl) ?_
      refine z_iadd X.1 X.2.1 d_Ae_mask_5 ?_
      refine z_icmp_ge (tgt := 28) X.1 X.2.1 d_Ae_mask_6 (by decide) ⟨by omega, by omega⟩ ⟨by omega, by omega⟩ (fun h107 => ?_) (fun h107 => ?_)
      · exact c_retv hQQ X Y hr hlk ⟨rfl, S, trivial⟩ d_Ae_mask_28
      · refine lv_aload_n X.1 X.2.1 d_Ae_mask_9 rfl (lv_at hl 0 rfl) ?_
        refine lv_iload_n X.1 X.2.1 d_Ae_mask_10 rfl (lv_at hl 3 rfl) ?_
        refine lv_dup2_11 X.1 X.2.1 d_Ae_mask_11 rfl rfl ?_
        refine t_bald X Y S (Or.inl k1) (by omega) (by omega) (by omega) d_Ae_mask_12 (fun z108 l108 u108 => ?_)
        refine lv_aload_n X.1 X.2.1 d_Ae_mask_13 rfl (lv_at hl 0 rfl) ?_
        refine lv_iload_n X.1 X.2.1 d_Ae_mask_14 rfl (lv_at hl 3 rfl) ?_
        refine lv_bipush (v := iI 16) X.1 X.2.1 d_Ae_mask_15 (by decide) ?_
        refine z_isub X.1 X.2.1 d_Ae_mask_17 ?_
        refine t_bald X Y S (Or.inl k1) (by omega) (by omega) (by omega) d_Ae_mask_18 (fun z109 l109 u109 => ?_)
        refine lv_ixor X.1 X.2.1 d_Ae_mask_19 ?_
        refine t_u (fun z110 l110 u110 => ?_)
        refine lv_i2b X.1 X.2.1 d_Ae_mask_20 rfl ?_
        refine t_u (fun z111 l111 u111 => ?_)
        refine t_bast X Y S k1 (by omega) (by omega) (by omega) (nF_of S k1 (by decide)) d_Ae_mask_21 (fun f112 H locs Y S w112 => ?_)
        refine lv_iinc (v := iI (z102 + 1)) (lv' := [(3, .int (iI (z102 + 1))), (0, .ref a1), (1, .int (iI a2)), (2, .int (iI a3))]) X.1 X.2.1 d_Ae_mask_22 hl (k := 3) rfl ((iI_add _ _).trans (congrArg iI (by omega))) (by decide) rfl (fun ls hl => ?_)
        refine lv_goto (tgt := 2) X.1 X.2.1 d_Ae_mask_25 (by decide) ?_
        exact ih104 ((20216 - (z102 + 1)).toNat) (by omega) (z102 + 1) f112 _ _ _ rfl (by omega) (by omega) Y S (lv_sub hl [1, 2, 3, 0] rfl)
  refine lv_istore_n (lv' := [(3, .int (iI a2)), (0, .ref a1), (1, .int (iI a2)), (2, .int (iI a3))]) X.1 X.2.1 d_Ae_mask_1 rfl hl (by decide) rfl (fun ls hl => ?_)
  exact J103 _ a2 f _ _ _ rfl (by omega) (by omega) Y S (lv_sub hl [1, 2, 3, 0] rfl)
set_option maxHeartbeats 4000000 in
set_option maxRecDepth 100000 in
theorem c_Ae_lock (l : Launch) (D : va_G) (E : cE) (T : cT) (κ : tK) (L : List Nat) (f : pF) (sz : Nat) (h : Nat) (k0 : κ h = (11, 0)) (a1 n1 : Nat) (k1 : κ a1 = (1, n1)) (x1 : n1 ≤ 12288) (a2 : Int) (l_a2 : (-1) ≤ a2) (u_a2 : a2 ≤ 20200) (a3 : Int) (l_a3 : (-20200) ≤ a3) (u_a3 : a3 ≤ 20200) (hw : tW E T κ L f) : Met l y_Ae_lock (k_Ae_lock :: lw_tg) (kRm 3 110 0 0) (va_Pc [.ref h, .ref a1, .int (iI a2), .int (iI a3)] (kPre D E T L f sz)) (va_Qv (nPv E T [1, 2, 3, 4] κ L f (fun (g : pF) => True)) (cPost D E (pA L sz)) (pA L sz)) 0 0 (pA L sz) := by
  refine k_enter (own := R_Ae) (by decide) rfl (Nat.le_of_ble_eq_true rfl) (fun p e s m below meth c ls AV QQ H locs hQQ X Y hA hin hr hlk hml hl KS KR => ?_)
  have hl : lv_has ls 6 [(0, .ref h), (1, .ref a1), (2, .int (iI a2)), (3, .int (iI a3))] := hl
  have S : tS E T (tFr κ L [1, 2, 3, 4] []) κ L f κ L f := tS_rf hw
  refine lv_iload_n X.1 X.2.1 d_Ae_lock_0 rfl (lv_at hl 3 rfl) ?_
  refine lv_bipush (v := iI 15) X.1 X.2.1 d_Ae_lock_1 (by decide) ?_
  refine z_iadd X.1 X.2.1 d_Ae_lock_3 ?_
  refine lv_bipush (v := iI 16) X.1 X.2.1 d_Ae_lock_4 (by decide) ?_
  refine z_idivg X.1 X.2.1 ⟨by omega, by omega⟩ ⟨by decide, by decide⟩ d_Ae_lock_6 (fun z101 l101 u101 x101 y101 => ?_)
  refine lv_istore (lv' := [(4, .int (iI z101)), (0, .ref h), (1, .ref a1), (2, .int (iI a2)), (3, .int (iI a3))]) X.1 X.2.1 d_Ae_lock_7 hl (by decide) rfl (fun ls hl => ?_)
  refine lv_iload_n X.1 X.2.1 d_Ae_lock_9 rfl (lv_at hl 3 rfl) ?_
  refine z_if_lt (tgt := 31) X.1 X.2.1 d_Ae_lock_10 (by decide) ⟨by omega, by omega⟩ (fun h102 => ?_) (fun h102 => ?_)
  · exact c_retv hQQ X Y hr hlk ⟨rfl, S, trivial⟩ d_Ae_lock_31
  · refine lv_iload_n X.1 X.2.1 d_Ae_lock_13 rfl (lv_at hl 4 rfl) ?_
    refine lv_bipush (v := iI 16) X.1 X.2.1 d_Ae_lock_14 (by decide) ?_
    refine z_icmp_lt (tgt := 31) X.1 X.2.1 d_Ae_lock_16 (by decide) ⟨by omega, by omega⟩ ⟨by omega, by omega⟩ (fun h103 => ?_) (fun h103 => ?_)
    · exact c_retv hQQ X Y hr hlk ⟨rfl, S, trivial⟩ d_Ae_lock_31
    · refine lv_bipush (v := iI 16) X.1 X.2.1 d_Ae_lock_19 (by decide) ?_
      refine lv_iload X.1 X.2.1 d_Ae_lock_21 (lv_at hl 0 rfl) ?_
      refine z_imul X.1 X.2.1 d_Ae_lock_23 ?_
      refine lv_aload_n X.1 X.2.1 d_Ae_lock_24 rfl (lv_at hl 2 rfl) ?_
      refine t_alen X Y S KS (Or.inl k1) (by omega) d_Ae_lock_25 ?_
      refine lv_iload_n X.1 X.2.1 d_Ae_lock_26 rfl (lv_at hl 3 rfl) ?_
      refine z_isub X.1 X.2.1 d_Ae_lock_27 ?_
      refine z_icmp_le (tgt := 32) X.1 X.2.1 d_Ae_lock_28 (by decide) ⟨by omega, by omega⟩ ⟨by omega, by omega⟩ (fun h104 => ?_) (fun h104 => ?_)
      · refine lv_iload_n X.1 X.2.1 d_Ae_lock_32 rfl (lv_at hl 3 rfl) ?_
        refine lv_iload_n X.1 X.2.1 d_Ae_lock_33 rfl (lv_at hl 4 rfl) ?_
        refine z_iadd X.1 X.2.1 d_Ae_lock_34 ?_
        have J107 : ∀ (n109 : Nat) (z106 : Int) (f105 : pF) (H : Heap) (locs : List Loc) (ls : Array Slot), (40408 - z106).toNat = n109 → (16 ≤ z106) → (z106 ≤ 40408) → pH D cCl (pA L sz) s.heap L f105 H locs → tS E T (tFr κ L [1, 2, 3, 4] []) κ L f κ L f105 → lv_has ls 6 [(0, .ref h), (1, .ref a1), (2, .int (iI a2)), (4, .int (iI z101)), (5, .int (iI z106))] → W p l e (kRm 3 110 0 0) s m AV below meth c H locs 0 0 QQ (F0 m 37 ls []) := by
          intro n109
          induction n109 using Nat.strongRecOn with
          | ind n109 ih108 =>
            intro z106 f105 H locs ls hm110 l106 u106 Y S hl
            refine lv_iload X.1 X.2.1 d_Ae_lock_37 (lv_at hl 4 rfl) ?_
            refine lv_iload_n X.1 X.2.1 d_Ae_lock_39 rfl (lv_at hl 2 rfl) ?_
            refine lv_bipush (v := iI 16) X.1 X.2.1 d_Ae_lock_40 (by decide) ?_
            refine lv_iload X.1 X.2.1 d_Ae_lock_42 (lv_at hl 3 rfl) ?_
            refine z_imul X.1 X.2.1 d_Ae_lock_44 ?_
            refine z_iadd X.1 X.2.1 d_Ae_lock_45 ?_
            refine z_icmp_ge (tgt := 60) X.1 X.2.1 d_Ae_lock_46 (by decide) ⟨by omega, by omega⟩ ⟨by omega, by omega⟩ (fun h111 => ?_) (fun h111 => ?_)
            · refine lv_aload_n X.1 X.2.1 d_Ae_lock_60 rfl (lv_at hl 0 rfl) ?_
              refine lv_aload_n X.1 X.2.1 d_Ae_lock_61 rfl (lv_at hl 1 rfl) ?_
              refine lv_iload_n X.1 X.2.1 d_Ae_lock_62 rfl (lv_at hl 2 rfl) ?_
              refine t_nv (t_runV (As := [.ref a1, .int (iI a2)]) (rest := []) (n := 2) X Y S k0 hml hl.1 (c_Ae_encrypt l D E T κ L f105 H.size h k0 a1 n1 k1 (by omega) a2 (by omega) (by omega) S.1) (ok_k X Y hA KS KR) rfl kl_Ae_Ae_encrypt ks_Ae_encrypt kx_Ae_encrypt ki_Ae_encrypt ini_Ae ⟨rfl, rfl⟩ hd_Ae_encrypt ⟨Nat.le_of_ble_eq_true rfl, Nat.le_of_ble_eq_true rfl⟩ rfl (Nat.le_of_ble_eq_true rfl) d_Ae_lock_63 ⟨Nat.le_of_ble_eq_true rfl, Nat.le_of_ble_eq_true rfl⟩) X Y hA S (by decide) (fun f112 H locs Y S s112 p112 => ?_)
              refine lv_iload_n X.1 X.2.1 d_Ae_lock_66 rfl (lv_at hl 2 rfl) ?_
              refine lv_bipush (v := iI 16) X.1 X.2.1 d_Ae_lock_67 (by decide) ?_
              refine z_iadd X.1 X.2.1 d_Ae_lock_69 ?_
              have J116 : ∀ (n118 : Nat) (z114 : Int) (f113 : pF) (H : Heap) (locs : List Loc) (ls : Array Slot), (40423 - z114).toNat = n118 → (16 ≤ z114) → (z114 ≤ 40423) → ((z114 - a2) % 16 = 0) → pH D cCl (pA L sz) s.heap L f113 H locs → tS E T (tFr κ L [1, 2, 3, 4] []) κ L f κ L f113 → lv_has ls 6 [(0, .ref h), (1, .ref a1), (2, .int (iI a2)), (4, .int (iI z101)), (5, .int (iI z114))] → W p l e (kRm 3 110 0 0) s m AV below meth c H locs 0 0 QQ (F0 m 72 ls []) := by
                intro n118
                induction n118 using Nat.strongRecOn with
                | ind n118 ih117 =>
                  intro z114 f113 H locs ls hm119 l114 u114 i115 Y S hl
                  refine lv_iload X.1 X.2.1 d_Ae_lock_72 (lv_at hl 4 rfl) ?_
                  refine lv_iload_n X.1 X.2.1 d_Ae_lock_74 rfl (lv_at hl 2 rfl) ?_
                  refine lv_bipush (v := iI 16) X.1 X.2.1 d_Ae_lock_75 (by decide) ?_
                  refine lv_iload X.1 X.2.1 d_Ae_lock_77 (lv_at hl 3 rfl) ?_
                  refine z_imul X.1 X.2.1 d_Ae_lock_79 ?_
                  refine z_iadd X.1 X.2.1 d_Ae_lock_80 ?_
                  refine z_icmp_ge (tgt := 105) X.1 X.2.1 d_Ae_lock_81 (by decide) ⟨by omega, by omega⟩ ⟨by omega, by omega⟩ (fun h120 => ?_) (fun h120 => ?_)
                  · refine lv_iload X.1 X.2.1 d_Ae_lock_105 (lv_at hl 3 rfl) ?_
                    refine lv_iconst (v := iI 1) X.1 X.2.1 d_Ae_lock_107 (by decide) ?_
                    refine z_icmp_le (tgt := 165) X.1 X.2.1 d_Ae_lock_108 (by decide) ⟨by omega, by omega⟩ ⟨by omega, by omega⟩ (fun h121 => ?_) (fun h121 => ?_)
                    · exact c_retv hQQ X Y hr hlk ⟨rfl, S, trivial⟩ d_Ae_lock_165
                    · refine lv_iload_n X.1 X.2.1 d_Ae_lock_111 rfl (lv_at hl 2 rfl) ?_
                      refine lv_bipush (v := iI 16) X.1 X.2.1 d_Ae_lock_112 (by decide) ?_
                      refine lv_iload X.1 X.2.1 d_Ae_lock_114 (lv_at hl 3 rfl) ?_
                      refine lv_iconst (v := iI 1) X.1 X.2.1 d_Ae_lock_116 (by decide) ?_
                      refine z_isub X.1 X.2.1 d_Ae_lock_117 ?_
                      refine z_imul X.1 X.2.1 d_Ae_lock_118 ?_
                      refine z_iadd X.1 X.2.1 d_Ae_lock_119 ?_
                      refine lv_istore (lv' := [(5, .int (iI (a2 + (16 * (z101 - 1))))), (0, .ref h), (1, .ref a1), (2, .int (iI a2)), (4, .int (iI z101))]) X.1 X.2.1 d_Ae_lock_120 hl (by decide) rfl (fun ls hl => ?_)
                      refine lv_aload_n X.1 X.2.1 d_Ae_lock_122 rfl (lv_at hl 2 rfl) ?_
                      refine lv_iload X.1 X.2.1 d_Ae_lock_123 (lv_at hl 0 rfl) ?_
                      refine lv_bipush (v := iI 16) X.1 X.2.1 d_Ae_lock_125 (by decide) ?_
                      refine z_isub X.1 X.2.1 d_Ae_lock_127 ?_
                      refine lv_aload_n X.1 X.2.1 d_Ae_lock_128 rfl (lv_at hl 1 rfl) ?_
                      refine t_getr (ci := 1) X Y S k0 rfl i_Ae 6 (by decide) rfl (k1 := 1) (k2 := 16) rfl rfl lk_Ae_25 (fun _ h9 => h9) d_Ae_lock_129 (fun b122 e122 k122 => ?_)
                      refine lv_iconst (v := iI 0) X.1 X.2.1 d_Ae_lock_132 (by decide) ?_
                      refine lv_bipush (v := iI 16) X.1 X.2.1 d_Ae_lock_133 (by decide) ?_
                      refine t_copyB X Y S KS (hml.trans hl.1.symm) kl_Ae_copy (Or.inl k1) k122 (by omega) (by omega) (by omega) (by omega) (by omega) (by omega) (by omega) (nF_of S k122 (by decide)) (Nat.le_of_ble_eq_true rfl) (Nat.le_of_ble_eq_true rfl) d_Ae_lock_135 (fun f123 H locs Y S w123 => ?_)
                      refine lv_aload_n X.1 X.2.1 d_Ae_lock_138 rfl (lv_at hl 2 rfl) ?_
                      refine lv_iload X.1 X.2.1 d_Ae_lock_139 (lv_at hl 0 rfl) ?_
                      refine lv_aload_n X.1 X.2.1 d_Ae_lock_141 rfl (lv_at hl 2 rfl) ?_
                      refine lv_iload X.1 X.2.1 d_Ae_lock_142 (lv_at hl 0 rfl) ?_
                      refine lv_bipush (v := iI 16) X.1 X.2.1 d_Ae_lock_144 (by decide) ?_
                      refine z_isub X.1 X.2.1 d_Ae_lock_146 ?_
                      refine lv_bipush (v := iI 16) X.1 X.2.1 d_Ae_lock_147 (by decide) ?_
                      refine t_copyB X Y S KS (hml.trans hl.1.symm) kl_Ae_copy (Or.inl k1) k1 (by omega) (by omega) (by omega) (by omega) (by omega) (by omega) (by omega) (nF_of S k1 (by decide)) (Nat.le_of_ble_eq_true rfl) (Nat.le_of_ble_eq_true rfl) d_Ae_lock_149 (fun f124 H locs Y S w124 => ?_)
                      refine lv_aload_n X.1 X.2.1 d_Ae_lock_152 rfl (lv_at hl 1 rfl) ?_
                      refine t_get0 (ci := 1) X Y S k0 rfl i_Ae 6 (by decide) rfl lk_Ae_25 (fun _ h9 => h9) d_Ae_lock_153 ((gF_same (w124 _ (k_ne k0 k1 (by decide))) 6).trans ((gF_same (w123 _ (k_ne k0 k122 (by decide))) 6).trans e122)) ?_
                      refine lv_iconst (v := iI 0) X.1 X.2.1 d_Ae_lock_156 (by decide) ?_
                      refine lv_aload_n X.1 X.2.1 d_Ae_lock_157 rfl (lv_at hl 2 rfl) ?_
                      refine lv_iload X.1 X.2.1 d_Ae_lock_158 (lv_at hl 0 rfl) ?_
                      refine lv_bipush (v := iI 16) X.1 X.2.1 d_Ae_lock_160 (by decide) ?_
                      refine t_copyB X Y S KS (hml.trans hl.1.symm) kl_Ae_copy (Or.inl k122) k1 (by omega) (by omega) (by omega) (by omega) (by omega) (by omega) (by omega) (nF_of S k1 (by decide)) (Nat.le_of_ble_eq_true rfl) (Nat.le_of_ble_eq_true rfl) d_Ae_lock_162 (fun f125 H locs Y S w125 => ?_)
                      exact c_retv hQQ X Y hr hlk ⟨rfl, S, trivial⟩ d_Ae_lock_165
                  · refine lv_aload_n X.1 X.2.1 d_Ae_lock_84 rfl (lv_at hl 1 rfl) ?_
                    refine lv_iload X.1 X.2.1 d_Ae_lock_85 (lv_at hl 4 rfl) ?_
                    refine lv_bipush (v := iI 16) X.1 X.2.1 d_Ae_lock_87 (by decide) ?_
                    refine t_nv (x_runS (As := [.ref a1, .int (iI z114), .int (iI 16)]) (rest := []) (n := 3) X hml hl.1 (c_Ae_mask l D E T κ L f113 H.size a1 n1 k1 (by omega) z114 (by omega) (by omega) 16 (by omega) (by omega) S.1 (by omega)) (ok_k X Y hA KS KR) kl_Ae_Ae_mask ks_Ae_mask ki_Ae_mask ini_Ae ⟨rfl, rfl⟩ hd_Ae_mask.2 ⟨Nat.le_of_ble_eq_true rfl, Nat.le_of_ble_eq_true rfl⟩ rfl (Nat.le_of_ble_eq_true rfl) d_Ae_lock_89 ⟨Nat.le_of_ble_eq_true rfl, Nat.le_of_ble_eq_true rfl⟩) X Y hA S (by decide) (fun f126 H locs Y S s126 p126 => ?_)
                    refine lv_aload_n X.1 X.2.1 d_Ae_lock_92 rfl (lv_at hl 0 rfl) ?_
                    refine lv_aload_n X.1 X.2.1 d_Ae_lock_93 rfl (lv_at hl 1 rfl) ?_
                    refine lv_iload X.1 X.2.1 d_Ae_lock_94 (lv_at hl 4 rfl) ?_
                    refine t_nv (t_runV (As := [.ref a1, .int (iI z114)]) (rest := []) (n := 2) X Y S k0 hml hl.1 (c_Ae_encrypt l D E T κ L f126 H.size h k0 a1 n1 k1 (by omega) z114 (by omega) (by omega) S.1) (ok_k X Y hA KS KR) rfl kl_Ae_Ae_encrypt ks_Ae_encrypt kx_Ae_encrypt ki_Ae_encrypt ini_Ae ⟨rfl, rfl⟩ hd_Ae_encrypt ⟨Nat.le_of_ble_eq_true rfl, Nat.le_of_ble_eq_true rfl⟩ rfl (Nat.le_of_ble_eq_true rfl) d_Ae_lock_96 ⟨Nat.le_of_ble_eq_true rfl, Nat.le_of_ble_eq_true rfl⟩) X Y hA S (by decide) (fun f127 H locs Y S s127 p127 => ?_)
                    refine lv_iinc (v := iI (z114 + 16)) (lv' := [(5, .int (iI (z114 + 16))), (0, .ref h), (1, .ref a1), (2, .int (iI a2)), (4, .int (iI z101))]) X.1 X.2.1 d_Ae_lock_99 hl (k := 4) rfl ((iI_add _ _).trans (congrArg iI (by omega))) (by decide) rfl (fun ls hl => ?_)
                    refine lv_goto (tgt := 72) X.1 X.2.1 d_Ae_lock_102 (by decide) ?_
                    exact ih117 ((40423 - (z114 + 16)).toNat) (by omega) (z114 + 16) f127 _ _ _ rfl (by omega) (by omega) (by omega) Y S (lv_sub hl [1, 2, 3, 4, 0] rfl)
              refine lv_istore (lv' := [(5, .int (iI (a2 + 16))), (0, .ref h), (1, .ref a1), (2, .int (iI a2)), (4, .int (iI z101))]) X.1 X.2.1 d_Ae_lock_70 hl (by decide) rfl (fun ls hl => ?_)
              exact J116 _ (a2 + 16) f112 _ _ _ rfl (by omega) (by omega) (by omega) Y S (lv_sub hl [1, 2, 3, 4, 0] rfl)
            · refine lv_aload_n X.1 X.2.1 d_Ae_lock_49 rfl (lv_at hl 1 rfl) ?_
              refine lv_iload X.1 X.2.1 d_Ae_lock_50 (lv_at hl 4 rfl) ?_
              refine lv_iconst (v := iI 0) X.1 X.2.1 d_Ae_lock_52 (by decide) ?_
              refine t_bast X Y S k1 (by omega) (by omega) (by omega) (nF_of S k1 (by decide)) d_Ae_lock_53 (fun f128 H locs Y S w128 => ?_)
              refine lv_iinc (v := iI (z106 + 1)) (lv' := [(5, .int (iI (z106 + 1))), (0, .ref h), (1, .ref a1), (2, .int (iI a2)), (4, .int (iI z101))]) X.1 X.2.1 d_Ae_lock_54 hl (k := 4) rfl ((iI_add _ _).trans (congrArg iI (by omega))) (by decide) rfl (fun ls hl => ?_)
              refine lv_goto (tgt := 37) X.1 X.2.1 d_Ae_lock_57 (by decide) ?_
              exact ih108 ((40408 - (z106 + 1)).toNat) (by omega) (z106 + 1) f128 _ _ _ rfl (by omega) (by omega) Y S (lv_sub hl [1, 2, 3, 4, 0] rfl)
        refine lv_istore (lv' := [(5, .int (iI (a2 + a3))), (4, .int (iI z101)), (0, .ref h), (1, .ref a1), (2, .int (iI a2)), (3, .int (iI a3))]) X.1 X.2.1 d_Ae_lock_35 hl (by decide) rfl (fun ls hl => ?_)
        exact J107 _ (a2 + a3) f _ _ _ rfl (by omega) (by omega) Y S (lv_sub hl [2, 3, 4, 1, 0] rfl)
      · exact c_retv hQQ X Y hr hlk ⟨rfl, S, trivial⟩ d_Ae_lock_31
set_option maxHeartbeats 4000000 in
set_option maxRecDepth 100000 in
theorem c_Ae_unlock (l : Launch) (D : va_G) (E : cE) (T : cT) (κ : tK) (L : List Nat) (f : pF) (sz : Nat) (h : Nat) (k0 : κ h = (11, 0)) (a1 n1 : Nat) (k1 : κ a1 = (1, n1)) (x1 : n1 ≤ 12288) (a2 : Int) (l_a2 : (-1) ≤ a2) (u_a2 : a2 ≤ 20200) (a3 : Int) (l_a3 : (-20200) ≤ a3) (u_a3 : a3 ≤ 20200) (hw : tW E T κ L f) : Met l y_Ae_unlock (k_Ae_unlock :: lw_tg) (kRm 3 110 0 0) (va_Pc [.ref h, .ref a1, .int (iI a2), .int (iI a3)] (kPre D E T L f sz)) (va_Qv (nPv E T [1, 2, 3, 4] κ L f (fun (g : pF) => True)) (cPost D E (pA L sz)) (pA L sz)) 0 0 (pA L sz) := by
  refine k_enter (own := R_Ae) (by decide) rfl (Nat.le_of_ble_eq_true rfl) (fun p e s m below meth c ls AV QQ H locs hQQ X Y hA hin hr hlk hml hl KS KR => ?_)
  have hl : lv_has ls 7 [(0, .ref h), (1, .ref a1), (2, .int (iI a2)), (3, .int (iI a3))] := hl
  have S : tS E T (tFr κ L [1, 2, 3, 4] []) κ L f κ L f := tS_rf hw
  refine lv_iload_n X.1 X.2.1 d_Ae_unlock_0 rfl (lv_at hl 3 rfl) ?_
  refine lv_bipush (v := iI 15) X.1 X.2.1 d_Ae_unlock_1 (by decide) ?_
  refine z_iadd X.1 X.2.1 d_Ae_unlock_3 ?_
  refine lv_bipush (v := iI 16) X.1 X.2.1 d_Ae_unlock_4 (by decide) ?_
  refine z_idivg X.1 X.2.1 ⟨by omega, by omega⟩ ⟨by decide, by decide⟩ d_Ae_unlock_6 (fun z101 l101 u101 x101 y101 => ?_)
  refine lv_istore (lv' := [(4, .int (iI z101)), (0, .ref h), (1, .ref a1), (2, .int (iI a2)), (3, .int (iI a3))]) X.1 X.2.1 d_Ae_unlock_7 hl (by decide) rfl (fun ls hl => ?_)
  refine lv_iload_n X.1 X.2.1 d_Ae_unlock_9 rfl (lv_at hl 3 rfl) ?_
  refine z_if_lt (tgt := 31) X.1 X.2.1 d_Ae_unlock_10 (by decide) ⟨by omega, by omega⟩ (fun h102 => ?_) (fun h102 => ?_)
  · exact c_retv hQQ X Y hr hlk ⟨rfl, S, trivial⟩ d_Ae_unlock_31
  · refine lv_iload_n X.1 X.2.1 d_Ae_unlock_13 rfl (lv_at hl 4 rfl) ?_
    refine lv_bipush (v := iI 16) X.1 X.2.1 d_Ae_unlock_14 (by decide) ?_
    refine z_icmp_lt (tgt := 31) X.1 X.2.1 d_Ae_unlock_16 (by decide) ⟨by omega, by omega⟩ ⟨by omega, by omega⟩ (fun h103 => ?_) (fun h103 => ?_)
    · exact c_retv hQQ X Y hr hlk ⟨rfl, S, trivial⟩ d_Ae_unlock_31
    · refine lv_bipush (v := iI 16) X.1 X.2.1 d_Ae_unlock_19 (by decide) ?_
      refine lv_iload X.1 X.2.1 d_Ae_unlock_21 (lv_at hl 0 rfl) ?_
      refine z_imul X.1 X.2.1 d_Ae_unlock_23 ?_
      refine lv_aload_n X.1 X.2.1 d_Ae_unlock_24 rfl (lv_at hl 2 rfl) ?_
      refine t_alen X Y S KS (Or.inl k1) (by omega) d_Ae_unlock_25 ?_
      refine lv_iload_n X.1 X.2.1 d_Ae_unlock_26 rfl (lv_at hl 3 rfl) ?_
      refine z_isub X.1 X.2.1 d_Ae_unlock_27 ?_
      refine z_icmp_le (tgt := 32) X.1 X.2.1 d_Ae_unlock_28 (by decide) ⟨by omega, by omega⟩ ⟨by omega, by omega⟩ (fun h104 => ?_) (fun h104 => ?_)
      · refine lv_iload_n X.1 X.2.1 d_Ae_unlock_32 rfl (lv_at hl 3 rfl) ?_
        refine lv_bipush (v := iI 16) X.1 X.2.1 d_Ae_unlock_33 (by decide) ?_
        refine lv_iload X.1 X.2.1 d_Ae_unlock_35 (lv_at hl 0 rfl) ?_
        refine lv_iconst (v := iI 1) X.1 X.2.1 d_Ae_unlock_37 (by decide) ?_
        refine z_isub X.1 X.2.1 d_Ae_unlock_38 ?_
        refine z_imul X.1 X.2.1 d_Ae_unlock_39 ?_
        refine z_iadd X.1 X.2.1 d_Ae_unlock_40 ?_
        refine lv_istore (lv' := [(5, .int (iI (a2 + (16 * (z101 - 1))))), (4, .int (iI z101)), (0, .ref h), (1, .ref a1), (2, .int (iI a2)), (3, .int (iI a3))]) X.1 X.2.1 d_Ae_unlock_41 hl (by decide) rfl (fun ls hl => ?_)
        refine lv_iload X.1 X.2.1 d_Ae_unlock_43 (lv_at hl 1 rfl) ?_
        refine lv_iconst (v := iI 1) X.1 X.2.1 d_Ae_unlock_45 (by decide) ?_
        have J106 : ∀ (f105 : pF) (H : Heap) (locs : List Loc) (ls : Array Slot), pH D cCl (pA L sz) s.heap L f105 H locs → tS E T (tFr κ L [1, 2, 3, 4] []) κ L f κ L f105 → lv_has ls 7 [(0, .ref h), (1, .ref a1), (2, .int (iI a2)), (5, .int (iI (a2 + (16 * (z101 - 1)))))] → W p l e (kRm 3 110 0 0) s m AV below meth c H locs 0 0 QQ (F0 m 118 ls []) := by
          intro f105 H locs ls  Y S hl
          refine lv_iload_n X.1 X.2.1 d_Ae_unlock_118 rfl (lv_at hl 2 rfl) ?_
          refine lv_iload X.1 X.2.1 d_Ae_unlock_119 (lv_at hl 3 rfl) ?_
          refine lv_bipush (v := iI 16) X.1 X.2.1 d_Ae_unlock_121 (by decide) ?_
          refine z_isub X.1 X.2.1 d_Ae_unlock_123 ?_
          refine z_max X.1 X.2.1 (hml.trans hl.1.symm) X.2.2.2.1 (X.2.2.1 _ kl_Ae_mmax) (X.2.2.1 _ ks_mmax) (X.2.2.1 _ ini_Math) (X.2.2.1 _ ki_mmax) (Nat.le_of_ble_eq_true rfl) (Nat.le_of_ble_eq_true rfl) (Nat.le_of_ble_eq_true rfl) (Nat.le_of_ble_eq_true rfl) ⟨by omega, by omega⟩ ⟨by omega, by omega⟩ d_Ae_unlock_124 (fun z110 l110 u110 x110 => ?_)
          have J116 : ∀ (n118 : Nat) (z112 : Int) (f111 : pF) (H : Heap) (locs : List Loc) (ls : Array Slot), (z112 - (-15)).toNat = n118 → ((-15) ≤ z112) → (z112 ≤ 40376) → ((z112 - a2) % 16 = 0) → (z112 + 16 ≤ (n1 : Int)) → (a2 ≤ z112) → pH D cCl (pA L sz) s.heap L f111 H locs → tS E T (tFr κ L [1, 2, 3, 4] []) κ L f κ L f111 → lv_has ls 7 [(0, .ref h), (1, .ref a1), (2, .int (iI a2)), (6, .int (iI z112))] → W p l e (kRm 3 110 0 0) s m AV below meth c H locs 0 0 QQ (F0 m 129 ls []) := by
            intro n118
            induction n118 using Nat.strongRecOn with
            | ind n118 ih117 =>
              intro z112 f111 H locs ls hm119 l112 u112 i113 i114 i115 Y S hl
              refine lv_iload X.1 X.2.1 d_Ae_unlock_129 (lv_at hl 3 rfl) ?_
              refine lv_iload_n X.1 X.2.1 d_Ae_unlock_131 rfl (lv_at hl 2 rfl) ?_
              refine z_icmp_le (tgt := 156) X.1 X.2.1 d_Ae_unlock_132 (by decide) ⟨by omega, by omega⟩ ⟨by omega, by omega⟩ (fun h120 => ?_) (fun h120 => ?_)
              · refine lv_aload_n X.1 X.2.1 d_Ae_unlock_156 rfl (lv_at hl 0 rfl) ?_
                refine lv_aload_n X.1 X.2.1 d_Ae_unlock_157 rfl (lv_at hl 1 rfl) ?_
                refine lv_iload_n X.1 X.2.1 d_Ae_unlock_158 rfl (lv_at hl 2 rfl) ?_
                refine t_nv (t_runV (As := [.ref a1, .int (iI a2)]) (rest := []) (n := 2) X Y S k0 hml hl.1 (c_Ae_decrypt l D E T κ L f111 H.size h k0 a1 n1 k1 (by omega) a2 (by omega) (by omega) S.1) (ok_k X Y hA KS KR) rfl kl_Ae_Ae_decrypt ks_Ae_decrypt kx_Ae_decrypt ki_Ae_decrypt ini_Ae ⟨rfl, rfl⟩ hd_Ae_decrypt ⟨Nat.le_of_ble_eq_true rfl, Nat.le_of_ble_eq_true rfl⟩ rfl (Nat.le_of_ble_eq_true rfl) d_Ae_unlock_159 ⟨Nat.le_of_ble_eq_true rfl, Nat.le_of_ble_eq_true rfl⟩) X Y hA S (by decide) (fun f121 H locs Y S s121 p121 => ?_)
                exact c_retv hQQ X Y hr hlk ⟨rfl, S, trivial⟩ d_Ae_unlock_162
              · refine lv_aload_n X.1 X.2.1 d_Ae_unlock_135 rfl (lv_at hl 0 rfl) ?_
                refine lv_aload_n X.1 X.2.1 d_Ae_unlock_136 rfl (lv_at hl 1 rfl) ?_
                refine lv_iload X.1 X.2.1 d_Ae_unlock_137 (lv_at hl 3 rfl) ?_
                refine t_nv (t_runV (As := [.ref a1, .int (iI z112)]) (rest := []) (n := 2) X Y S k0 hml hl.1 (c_Ae_decrypt l D E T κ L f111 H.size h k0 a1 n1 k1 (by omega) z112 (by omega) (by omega) S.1) (ok_k X Y hA KS KR) rfl kl_Ae_Ae_decrypt ks_Ae_decrypt kx_Ae_decrypt ki_Ae_decrypt ini_Ae ⟨rfl, rfl⟩ hd_Ae_decrypt ⟨Nat.le_of_ble_eq_true rfl, Nat.le_of_ble_eq_true rfl⟩ rfl (Nat.le_of_ble_eq_true rfl) d_Ae_unlock_139 ⟨Nat.le_of_ble_eq_true rfl, Nat.le_of_ble_eq_true rfl⟩) X Y hA S (by decide) (fun f122 H locs Y S s122 p122 => ?_)
                refine lv_aload_n X.1 X.2.1 d_Ae_unlock_142 rfl (lv_at hl 1 rfl) ?_
                refine lv_iload X.1 X.2.1 d_Ae_unlock_143 (lv_at hl 3 rfl) ?_
                refine lv_bipush (v := iI 16) X.1 X.2.1 d_Ae_unlock_145 (by decide) ?_
                refine t_nv (x_runS (As := [.ref a1, .int (iI z112), .int (iI 16)]) (rest := []) (n := 3) X hml hl.1 (c_Ae_mask l D E T κ L f122 H.size a1 n1 k1 (by omega) z112 (by omega) (by omega) 16 (by omega) (by omega) S.1 (by omega)) (ok_k X Y hA KS KR) kl_Ae_Ae_mask ks_Ae_mask ki_Ae_mask ini_Ae ⟨rfl, rfl⟩ hd_Ae_mask.2 ⟨Nat.le_of_ble_eq_true rfl, Nat.le_of_ble_eq_true rfl⟩ rfl (Nat.le_of_ble_eq_true rfl) d_Ae_unlock_147 ⟨Nat.le_of_ble_eq_true rfl, Nat.le_of_ble_eq_true rfl⟩) X Y hA S (by decide) (fun f123 H locs Y S s123 p123 => ?_)
                refine lv_iinc (v := iI (z112 - 16)) (lv' := [(6, .int (iI (z112 - 16))), (0, .ref h), (1, .ref a1), (2, .int (iI a2))]) X.1 X.2.1 d_Ae_unlock_150 hl (k := 3) rfl ((iI_add _ _).trans (congrArg iI (by omega))) (by decide) rfl (fun ls hl => ?_)
                refine lv_goto (tgt := 129) X.1 X.2.1 d_Ae_unlock_153 (by decide) ?_
                exact ih117 (((z112 - 16) - (-15)).toNat) (by omega) (z112 - 16) f123 _ _ _ rfl (by omega) (by omega) (by omega) (by omega) (by omega) Y S (lv_sub hl [1, 2, 3, 0] rfl)
          refine lv_istore (lv' := [(6, .int (iI z110)), (0, .ref h), (1, .ref a1), (2, .int (iI a2)), (5, .int (iI (a2 + (16 * (z101 - 1)))))]) X.1 X.2.1 d_Ae_unlock_127 hl (by decide) rfl (fun ls hl => ?_)
          exact J116 _ z110 f105 _ _ _ rfl (by omega) (by omega) (by omega) (by omega) (by omega) Y S (lv_sub hl [1, 2, 3, 0] rfl)
        refine z_icmp_le (tgt := 118) X.1 X.2.1 d_Ae_unlock_46 (by decide) ⟨by omega, by omega⟩ ⟨by omega, by omega⟩ (fun h124 => ?_) (fun h124 => ?_)
        · exact J106 f _ _ _  Y S (lv_sub hl [2, 3, 4, 0] rfl)
        · refine lv_iload_n X.1 X.2.1 d_Ae_unlock_49 rfl (lv_at hl 4 rfl) ?_
          refine lv_iload_n X.1 X.2.1 d_Ae_unlock_50 rfl (lv_at hl 5 rfl) ?_
          refine z_iadd X.1 X.2.1 d_Ae_unlock_51 ?_
          refine lv_iload X.1 X.2.1 d_Ae_unlock_52 (lv_at hl 0 rfl) ?_
          refine z_isub X.1 X.2.1 d_Ae_unlock_54 ?_
          refine lv_istore (lv' := [(6, .int (iI ((a2 + a3) - (a2 + (16 * (z101 - 1)))))), (5, .int (iI (a2 + (16 * (z101 - 1))))), (4, .int (iI z101)), (0, .ref h), (1, .ref a1), (2, .int (iI a2)), (3, .int (iI a3))]) X.1 X.2.1 d_Ae_unlock_55 hl (by decide) rfl (fun ls hl => ?_)
          refine lv_aload_n X.1 X.2.1 d_Ae_unlock_57 rfl (lv_at hl 3 rfl) ?_
          refine lv_aload_n X.1 X.2.1 d_Ae_unlock_58 rfl (lv_at hl 4 rfl) ?_
          refine lv_iload X.1 X.2.1 d_Ae_unlock_59 (lv_at hl 1 rfl) ?_
          refine lv_bipush (v := iI 16) X.1 X.2.1 d_Ae_unlock_61 (by decide) ?_
          refine z_isub X.1 X.2.1 d_Ae_unlock_63 ?_
          refine t_nv (t_runV (As := [.ref a1, .int (iI ((a2 + (16 * (z101 - 1))) - 16))]) (rest := []) (n := 2) X Y S k0 hml hl.1 (c_Ae_decrypt l D E T κ L f H.size h k0 a1 n1 k1 (by omega) ((a2 + (16 * (z101 - 1))) - 16) (by omega) (by omega) S.1) (ok_k X Y hA KS KR) rfl kl_Ae_Ae_decrypt ks_Ae_decrypt kx_Ae_decrypt ki_Ae_decrypt ini_Ae ⟨rfl, rfl⟩ hd_Ae_decrypt ⟨Nat.le_of_ble_eq_true rfl, Nat.le_of_ble_eq_true rfl⟩ rfl (Nat.le_of_ble_eq_true rfl) d_Ae_unlock_64 ⟨Nat.le_of_ble_eq_true rfl, Nat.le_of_ble_eq_true rfl⟩) X Y hA S (by decide) (fun f125 H locs Y S s125 p125 => ?_)
          refine lv_aload_n X.1 X.2.1 d_Ae_unlock_67 rfl (lv_at hl 4 rfl) ?_
          refine lv_iload X.1 X.2.1 d_Ae_unlock_68 (lv_at hl 1 rfl) ?_
          refine lv_bipush (v := iI 16) X.1 X.2.1 d_Ae_unlock_70 (by decide) ?_
          refine z_isub X.1 X.2.1 d_Ae_unlock_72 ?_
          refine lv_aload_n X.1 X.2.1 d_Ae_unlock_73 rfl (lv_at hl 3 rfl) ?_
          refine t_getr (ci := 1) X Y S k0 rfl i_Ae 6 (by decide) rfl (k1 := 1) (k2 := 16) rfl rfl lk_Ae_25 (fun _ h9 => h9) d_Ae_unlock_74 (fun b126 e126 k126 => ?_)
          refine lv_iconst (v := iI 0) X.1 X.2.1 d_Ae_unlock_77 (by decide) ?_
          refine lv_bipush (v := iI 16) X.1 X.2.1 d_Ae_unlock_78 (by decide) ?_
          refine t_copyB X Y S KS (hml.trans hl.1.symm) kl_Ae_copy (Or.inl k1) k126 (by omega) (by omega) (by omega) (by omega) (by omega) (by omega) (by omega) (nF_of S k126 (by decide)) (Nat.le_of_ble_eq_true rfl) (Nat.le_of_ble_eq_true rfl) d_Ae_unlock_80 (fun f127 H locs Y S w127 => ?_)
          refine lv_aload_n X.1 X.2.1 d_Ae_unlock_83 rfl (lv_at hl 4 rfl) ?_
          refine lv_iload X.1 X.2.1 d_Ae_unlock_84 (lv_at hl 1 rfl) ?_
          refine lv_aload_n X.1 X.2.1 d_Ae_unlock_86 rfl (lv_at hl 4 rfl) ?_
          refine lv_iload X.1 X.2.1 d_Ae_unlock_87 (lv_at hl 1 rfl) ?_
          refine lv_bipush (v := iI 16) X.1 X.2.1 d_Ae_unlock_89 (by decide) ?_
          refine z_isub X.1 X.2.1 d_Ae_unlock_91 ?_
          refine lv_iload X.1 X.2.1 d_Ae_unlock_92 (lv_at hl 0 rfl) ?_
          refine t_copyB X Y S KS (hml.trans hl.1.symm) kl_Ae_copy (Or.inl k1) k1 (by omega) (by omega) (by omega) (by omega) (by omega) (by omega) (by omega) (nF_of S k1 (by decide)) (Nat.le_of_ble_eq_true rfl) (Nat.le_of_ble_eq_true rfl) d_Ae_unlock_94 (fun f128 H locs Y S w128 => ?_)
          refine lv_aload_n X.1 X.2.1 d_Ae_unlock_97 rfl (lv_at hl 3 rfl) ?_
          refine t_get0 (ci := 1) X Y S k0 rfl i_Ae 6 (by decide) rfl lk_Ae_25 (fun _ h9 => h9) d_Ae_unlock_98 ((gF_same (w128 _ (k_ne k0 k1 (by decide))) 6).trans ((gF_same (w127 _ (k_ne k0 k126 (by decide))) 6).trans e126)) ?_
          refine lv_iconst (v := iI 0) X.1 X.2.1 d_Ae_unlock_101 (by decide) ?_
          refine lv_aload_n X.1 X.2.1 d_Ae_unlock_102 rfl (lv_at hl 4 rfl) ?_
          refine lv_iload X.1 X.2.1 d_Ae_unlock_103 (lv_at hl 1 rfl) ?_
          refine lv_bipush (v := iI 16) X.1 X.2.1 d_Ae_unlock_105 (by decide) ?_
          refine t_copyB X Y S KS (hml.trans hl.1.symm) kl_Ae_copy (Or.inl k126) k1 (by omega) (by omega) (by omega) (by omega) (by omega) (by omega) (by omega) (nF_of S k1 (by decide)) (Nat.le_of_ble_eq_true rfl) (Nat.le_of_ble_eq_true rfl) d_Ae_unlock_107 (fun f129 H locs Y S w129 => ?_)
          refine lv_aload_n X.1 X.2.1 d_Ae_unlock_110 rfl (lv_at hl 4 rfl) ?_
          refine lv_iload X.1 X.2.1 d_Ae_unlock_111 (lv_at hl 1 rfl) ?_
          refine lv_iload X.1 X.2.1 d_Ae_unlock_113 (lv_at hl 0 rfl) ?_
          refine t_nv (x_runS (As := [.ref a1, .int (iI (a2 + (16 * (z101 - 1)))), .int (iI ((a2 + a3) - (a2 + (16 * (z101 - 1)))))]) (rest := []) (n := 3) X hml hl.1 (c_Ae_mask l D E T κ L f129 H.size a1 n1 k1 (by omega) (a2 + (16 * (z101 - 1))) (by omega) (by omega) ((a2 + a3) - (a2 + (16 * (z101 - 1)))) (by omega) (by omega) S.1 (by omega)) (ok_k X Y hA KS KR) kl_Ae_Ae_mask ks_Ae_mask ki_Ae_mask ini_Ae ⟨rfl, rfl⟩ hd_Ae_mask.2 ⟨Nat.le_of_ble_eq_true rfl, Nat.le_of_ble_eq_true rfl⟩ rfl (Nat.le_of_ble_eq_true rfl) d_Ae_unlock_115 ⟨Nat.le_of_ble_eq_true rfl, Nat.le_of_ble_eq_true rfl⟩) X Y hA S (by decide) (fun f130 H locs Y S s130 p130 => ?_)
          exact J106 f130 _ _ _  Y S (lv_sub hl [3, 4, 5, 1] rfl)
      · exact c_retv hQQ X Y hr hlk ⟨rfl, S, trivial⟩ d_Ae_unlock_31
