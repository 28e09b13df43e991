theorem rb_nn (f : pF) (h : Nat) : ∀ i, 0 ≤ rb f h i := fun i => (rb_rng f h i).1
theorem FdSeg_un {g : Int → Int} {s t : Int} {P : Int → Int → Int → Prop} {a b : Int} (h : ∃ k : Nat, FdSeg g s t P k a b) (hn : a ≠ b) : ∃ (st bd : Int) (k : Nat), fdStep g s t a st bd ∧ P a st bd ∧ FdSeg g s t P k st b := by
  obtain ⟨k, h⟩ := h
  match k, h with
  | 0, h => exact absurd h hn
  | k + 1, h => obtain ⟨st, bd, h1, h2, h3⟩ := h; exact ⟨st, bd, k, h1, h2, h3⟩
theorem RwSeg_un {g : Int → Int} {s t a b : Int} (h : ∃ k : Nat, RwSeg g s t k a b) (hn : a ≠ b) : ∃ (st bd : Int) (k : Nat), StR g s a t st ∧ 0 ≤ st ∧ g a = 48 ∧ BdR g s a bd ∧ (∃ j : Nat, FdSeg g s st pT j bd st) ∧ RwSeg g s t k st b := by
  obtain ⟨k, h⟩ := h
  match k, h with
  | 0, h => exact absurd h hn
  | k + 1, h => obtain ⟨st, bd, h1, h2, h3, h4, h5, h6⟩ := h; exact ⟨st, bd, k, h1, h2, h3, h4, h5, h6⟩
theorem and224 {z : Int} (h : z = 106 ∨ z = 108) : iI z &&& iI 224 = iI 96 := by rcases h with rfl | rfl <;> decide
theorem and224b {z : Int} (h : z = 48) : iI z &&& iI 224 = iI 32 := by rcases h with rfl; decide
def LstP (g : Int → Int) (s z : Int) : Prop := ∃ (st b : Int) (j : Nat), StR g s z s st ∧ 0 ≤ st ∧ BdR g s z b ∧ RwSeg g s st j b st
def EntP (g : Int → Int) (s z : Int) : Prop := ∃ (st b : Int) (j : Nat), StR g s z s st ∧ 0 ≤ st ∧ BdR g s z b ∧ FdSeg g s st pT j b st
theorem Top_of {g : Int → Int} {s k : Int} (h : FitP g s k 0 s) (hk : k = 362 ∨ k = 364) : TopP g s := by
  obtain ⟨q1, b1, b2, j, q2, q3, q4, q5⟩ := h.2.2.2 hk
  exact ⟨by omega, b1, b2, j, q2, q3, q4, q5⟩
theorem t_row {E : cE} {T : cT} {F : Nat → Prop} {κ0 κ : tK} {L0 L : List Nat} {f0 f : pF} {a n : Nat} (S : tS E T F κ0 L0 f0 κ L f) (hk : κ a = (13, n)) : ∃ b : Nat, gF f a 0 = .ref b ∧ κ b = (1, n) := by
  obtain ⟨ha, fs, ef, ho⟩ := t_obj (ci := 3) S.1 hk
  exact (t_fld (k := 0) (t := (5, 0, 0)) ho rfl ef).2
theorem rb_S {E : cE} {T : cT} {κ : tK} {L M : List Nat} {f f' : pF} {h n : Nat} (S2 : tS E T (tFr κ L M []) κ L f κ L f') (hk : κ h = (13, n)) (h13 : 13 ∉ M) (h1 : 1 ∉ M) : rb f' h = rb f h := by
  obtain ⟨b, e1, kb⟩ := t_row S2 hk
  have m1 := (S2.1 h (by rw [hk]; exact Nat.succ_ne_zero _)).1
  have m2 := (S2.1 b (by rw [kb]; exact Nat.succ_ne_zero _)).1
  have q1 := (S2.2.2.2 h ⟨m1, nM_of hk h13, by simp⟩).1
  have q2 := (S2.2.2.2 b ⟨m2, nM_of kb h1, by simp⟩).1
  have e2 : gF f h 0 = .ref b := (gF_same q1 0).symm.trans e1
  exact rb_same e2 (gF_same q1 0) q2
theorem rb_put {E : cE} {T : cT} {F : Nat → Prop} {κ0 κ : tK} {L0 L : List Nat} {f0 f f' : pF} {h n a k c m : Nat} {v : Value} (S : tS E T F κ0 L0 f0 κ L f') (w : tPut f f' a k v) (hk : κ h = (13, n)) (ha : κ a = (c, m)) (hc : c ≠ 13 ∧ c ≠ 1) : rb f' h = rb f h := by
  obtain ⟨b, e1, kb⟩ := t_row S hk
  have q1 := w.1 h (k_ne hk ha (Ne.symm hc.1))
  have q2 := w.1 b (k_ne kb ha (Ne.symm hc.2))
  have e2 : gF f h 0 = .ref b := (gF_same q1 0).symm.trans e1
  exact rb_same e2 (gF_same q1 0) q2
set_option maxHeartbeats 4000000 in
set_option maxRecDepth 100000 in
theorem c_By_field03 (l : Launch) (D : va_G) (E : cE) (T : cT) (κ : tK) (L : List Nat) (f : pF) (sz : Nat) (h n0 : Nat) (k0 : κ h = (13, n0)) (x0 : n0 ≤ 12288) (hw : tW E T κ L f) (sz0 : Int) (g0 : gF f h 1 = .int (iI sz0)) (g1 : 0 ≤ sz0) (g2 : sz0 ≤ (n0 : Int)) (q0 : TopP (rb f h) sz0) : Met l y_By_field (k_By_field :: lw_tg) (kRm 2 85 0 0) (va_Pc [.ref h, .int (iI 0), .int (iI 3)] (kPre D E T L f sz)) (va_Qi (uPi L f (fun (z : Int) => (-1) ≤ z ∧ z ≤ 12420 ∧ (0 ≤ z → LstP (rb f h) sz0 z))) (cPost D E (pA L sz)) (pA L sz)) 0 0 (pA L sz) := by
  refine k_enter (own := R_By) (by decide) rfl (Nat.le_of_ble_eq_true rfl) (fun p e s m below meth c ls AV QQ H locs hQQ X Y hA hin hr hlk hml hl KS KR => ?_)
  have hl : lv_has ls 8 [(0, .ref h), (1, .int (iI 0)), (2, .int (iI 3))] := hl
  have S : tS E T (tFr κ L [] []) κ L f κ L f := tS_rf hw
  obtain ⟨t1, B1, B2, JJ, t2, t3, t4, t5⟩ := q0
  have t6 := StR_le (rb_nn f h) t3 g1
  refine lv_iload_n X.1 X.2.1 d_By_field_0 rfl (lv_at hl 1 rfl) ?_
  refine z_if_lt (tgt := 25) X.1 X.2.1 d_By_field_1 (by decide) ⟨by omega, by omega⟩ (fun h101 => False.elim (by omega)) (fun h101 => ?_)
  · refine lv_iload_n X.1 X.2.1 d_By_field_4 rfl (lv_at hl 1 rfl) ?_
    refine lv_aload_n X.1 X.2.1 d_By_field_5 rfl (lv_at hl 0 rfl) ?_
    refine t_get0 (ci := 3) X Y S k0 rfl i_By 1 (by decide) rfl lk_By_21 (fun _ h9 => h9) d_By_field_6 g0 ?_
    refine z_icmp_ge (tgt := 25) X.1 X.2.1 d_By_field_9 (by decide) ⟨by omega, by omega⟩ ⟨by omega, by omega⟩ (fun h102 => ?_) (fun h102 => ?_)
    · exact False.elim (by omega)
    · refine lv_aload_n X.1 X.2.1 d_By_field_12 rfl (lv_at hl 0 rfl) ?_
      refine t_getrow (ci := 3) X Y S k0 rfl i_By 0 (by decide) rfl lk_By_15 (fun _ h9 => h9) d_By_field_13 (fun b103 e103 k103 => ?_)
      refine lv_iload_n X.1 X.2.1 d_By_field_16 rfl (lv_at hl 1 rfl) ?_
      refine t_baldx X Y S k103 (by omega) (by omega) (by omega) d_By_field_17 (fun z104 q104 l104 u104 => ?_)
      refine lv_sipush (v := iI 224) X.1 X.2.1 d_By_field_18 (by decide) ?_
      have r105 : z104 % 256 = rb f h 0 := by rw [rb_of e103, q104]
      refine lv_iand X.1 X.2.1 d_By_field_21 ?_
      refine t_eq (and224 (by omega)) ?_
      refine lv_goto (tgt := 26) X.1 X.2.1 d_By_field_22 (by decide) ?_
      refine lv_istore_n (lv' := [(3, .int (iI 96)), (0, .ref h), (1, .int (iI 0)), (2, .int (iI 3))]) X.1 X.2.1 d_By_field_26 rfl hl (by decide) rfl (fun ls hl => ?_)
      refine lv_iload_n X.1 X.2.1 d_By_field_27 rfl (lv_at hl 0 rfl) ?_
      refine lv_bipush (v := iI 96) X.1 X.2.1 d_By_field_28 (by decide) ?_
      refine z_icmp_ne (tgt := 41) X.1 X.2.1 d_By_field_30 (by decide) ⟨by omega, by omega⟩ ⟨by omega, by omega⟩ (fun h106 => False.elim (by omega)) (fun h106 => ?_)
      · refine lv_aload_n X.1 X.2.1 d_By_field_33 rfl (lv_at hl 1 rfl) ?_
        refine lv_iload_n X.1 X.2.1 d_By_field_34 rfl (lv_at hl 2 rfl) ?_
        refine t_ui (t_runV (As := [.int (iI 0)]) (rest := []) (n := 1) X Y S k0 hml hl.1 (c_By_bodyX l D E T κ L f H.size h n0 k0 (by omega) 0 (by omega) (by omega) S.1 sz0 g0 (by omega) (by omega)) (ok_k X Y hA KS KR) rfl kl_By_By_body ks_By_body kx_By_body ki_By_body ini_By ⟨rfl, rfl⟩ hd_By_body ⟨Nat.le_of_ble_eq_true rfl, Nat.le_of_ble_eq_true rfl⟩ rfl (Nat.le_of_ble_eq_true rfl) d_By_field_35 ⟨Nat.le_of_ble_eq_true rfl, Nat.le_of_ble_eq_true rfl⟩) X Y hA (fun z107 H locs Y p107 => ?_)
        obtain ⟨l107, u107, x107, st107⟩ := p107
        have q108 := BdR_fun st107 t2
        subst q108
        refine lv_goto (tgt := 42) X.1 X.2.1 d_By_field_38 (by decide) ?_
        refine lv_istore (lv' := [(4, .int (iI z107)), (3, .int (iI 96)), (0, .ref h), (1, .int (iI 0)), (2, .int (iI 3))]) X.1 X.2.1 d_By_field_42 hl (by decide) rfl (fun ls hl => ?_)
        refine lv_aload_n X.1 X.2.1 d_By_field_44 rfl (lv_at hl 2 rfl) ?_
        refine lv_iload X.1 X.2.1 d_By_field_45 (lv_at hl 0 rfl) ?_
        refine lv_aload_n X.1 X.2.1 d_By_field_47 rfl (lv_at hl 2 rfl) ?_
        refine t_get0 (ci := 3) X Y S k0 rfl i_By 1 (by decide) rfl lk_By_21 (fun _ h9 => h9) d_By_field_48 g0 ?_
        refine t_ui (t_runV (As := [.int (iI z107), .int (iI sz0)]) (rest := []) (n := 2) X Y S k0 hml hl.1 (c_By_stopX l D E T κ L f H.size h n0 k0 (by omega) z107 (by omega) (by omega) sz0 (by omega) (by omega) S.1 sz0 g0 (by omega) (by omega)) (ok_k X Y hA KS KR) rfl kl_By_By_stop ks_By_stop kx_By_stop ki_By_stop ini_By ⟨rfl, rfl⟩ hd_By_stop ⟨Nat.le_of_ble_eq_true rfl, Nat.le_of_ble_eq_true rfl⟩ rfl (Nat.le_of_ble_eq_true rfl) d_By_field_51 ⟨Nat.le_of_ble_eq_true rfl, Nat.le_of_ble_eq_true rfl⟩) X Y hA (fun z109 H locs Y p109 => ?_)
        obtain ⟨l109, u109, x109, st109⟩ := p109
        have es110 := StR_fun st109 t3
        refine lv_istore (lv' := [(5, .int (iI z109)), (4, .int (iI z107)), (3, .int (iI 96)), (0, .ref h), (1, .int (iI 0)), (2, .int (iI 3))]) X.1 X.2.1 d_By_field_54 hl (by decide) rfl (fun ls hl => ?_)
        refine lv_aload_n X.1 X.2.1 d_By_field_56 rfl (lv_at hl 3 rfl) ?_
        refine lv_iload X.1 X.2.1 d_By_field_57 (lv_at hl 1 rfl) ?_
        refine t_ui (t_runV (As := [.int (iI z107)]) (rest := []) (n := 1) X Y S k0 hml hl.1 (c_By_bodyX l D E T κ L f H.size h n0 k0 (by omega) z107 (by omega) (by omega) S.1 sz0 g0 (by omega) (by omega)) (ok_k X Y hA KS KR) rfl kl_By_By_body ks_By_body kx_By_body ki_By_body ini_By ⟨rfl, rfl⟩ hd_By_body ⟨Nat.le_of_ble_eq_true rfl, Nat.le_of_ble_eq_true rfl⟩ rfl (Nat.le_of_ble_eq_true rfl) d_By_field_59 ⟨Nat.le_of_ble_eq_true rfl, Nat.le_of_ble_eq_true rfl⟩) X Y hA (fun z111 H locs Y p111 => ?_)
        obtain ⟨l111, u111, x111, st111⟩ := p111
        have q112 := BdR_fun st111 t4
        subst q112
        refine lv_istore (lv' := [(6, .int (iI z111)), (5, .int (iI z109)), (4, .int (iI z107)), (3, .int (iI 96)), (0, .ref h), (1, .int (iI 0)), (2, .int (iI 3))]) X.1 X.2.1 d_By_field_62 hl (by decide) rfl (fun ls hl => ?_)
        refine lv_iconst (v := iI 0) X.1 X.2.1 d_By_field_64 (by decide) ?_
        have J116 : ∀ (n118 : Nat) (z113 : Int) (z114 : Int) (H : Heap) (locs : List Loc) (ls : Array Slot), (13 - z114).toNat = n118 → ((-1) ≤ z113) → (z113 ≤ 12420) → (0 ≤ z114) → (z114 ≤ 13) → (∃ j : Nat, FdSeg (rb f h) sz0 sz0 (p3 (rb f h) sz0) j z113 sz0) → pH D cCl (pA L sz) s.heap L f H locs → tS E T (tFr κ L [] []) κ L f κ L f → lv_has ls 8 [(0, .ref h), (2, .int (iI 3)), (5, .int (iI z109)), (6, .int (iI z113)), (7, .int (iI z114))] → W p l e (kRm 2 85 0 0) s m AV below meth c H locs 0 0 QQ (F0 m 67 ls []) := by
          intro n118
          induction n118 using Nat.strongRecOn with
          | ind n118 ih117 =>
            intro z113 z114 H locs ls hm119 l113 u113 l114 u114 i115 Y S hl
            refine lv_iload X.1 X.2.1 d_By_field_67 (lv_at hl 4 rfl) ?_
            refine lv_bipush (v := iI 13) X.1 X.2.1 d_By_field_69 (by decide) ?_
            refine z_icmp_ge (tgt := 128) X.1 X.2.1 d_By_field_71 (by decide) ⟨by omega, by omega⟩ ⟨by omega, by omega⟩ (fun h120 => ?_) (fun h120 => ?_)
            · refine lv_iconst (v := iI (-1)) X.1 X.2.1 d_By_field_128 (by decide) ?_
              exact c_reti hQQ X Y hr hlk ⟨rfl, rfl, (-1), rfl, ⟨by omega, by omega, fun h9 => absurd h9 (by decide)⟩⟩ d_By_field_129
            · refine lv_iload X.1 X.2.1 d_By_field_74 (lv_at hl 3 rfl) ?_
              refine z_if_lt (tgt := 128) X.1 X.2.1 d_By_field_76 (by decide) ⟨by omega, by omega⟩ (fun h121 => ?_) (fun h121 => ?_)
              · refine lv_iconst (v := iI (-1)) X.1 X.2.1 d_By_field_128 (by decide) ?_
                exact c_reti hQQ X Y hr hlk ⟨rfl, rfl, (-1), rfl, ⟨by omega, by omega, fun h9 => absurd h9 (by decide)⟩⟩ d_By_field_129
              · refine lv_iload X.1 X.2.1 d_By_field_79 (lv_at hl 3 rfl) ?_
                refine lv_iload X.1 X.2.1 d_By_field_81 (lv_at hl 2 rfl) ?_
                refine z_icmp_ge (tgt := 128) X.1 X.2.1 d_By_field_83 (by decide) ⟨by omega, by omega⟩ ⟨by omega, by omega⟩ (fun h122 => ?_) (fun h122 => ?_)
                · refine lv_iconst (v := iI (-1)) X.1 X.2.1 d_By_field_128 (by decide) ?_
                  exact c_reti hQQ X Y hr hlk ⟨rfl, rfl, (-1), rfl, ⟨by omega, by omega, fun h9 => absurd h9 (by decide)⟩⟩ d_By_field_129
                · obtain ⟨T123, B124, n125, v126a, v126b, v126c⟩ := FdSeg_un i115 (by omega)
                  refine lv_aload_n X.1 X.2.1 d_By_field_86 rfl (lv_at hl 0 rfl) ?_
                  refine t_get0 (ci := 3) X Y S k0 rfl i_By 0 (by decide) rfl lk_By_15 (fun _ h9 => h9) d_By_field_87 e103 ?_
                  refine lv_iload X.1 X.2.1 d_By_field_90 (lv_at hl 3 rfl) ?_
                  refine t_baldx X Y S k103 (by omega) (by omega) (by omega) d_By_field_92 (fun z127 q127 l127 u127 => ?_)
                  refine lv_sipush (v := iI 255) X.1 X.2.1 d_By_field_93 (by decide) ?_
                  refine z_iand255 X.1 X.2.1 d_By_field_96 ?_
                  have r128 : z127 % 256 = rb f h z113 := by rw [rb_of e103, q127, show (z113 : Int) = z113 by omega]
                  refine lv_sipush (v := iI 160) X.1 X.2.1 d_By_field_97 (by decide) ?_
                  refine lv_iload_n X.1 X.2.1 d_By_field_100 rfl (lv_at hl 1 rfl) ?_
                  refine z_iadd X.1 X.2.1 d_By_field_101 ?_
                  refine t_eq (y := iI 163) (by decide) ?_
                  refine z_icmp_ne (tgt := 112) X.1 X.2.1 d_By_field_102 (by decide) ⟨by omega, by omega⟩ ⟨by omega, by omega⟩ (fun h129 => ?_) (fun h129 => ?_)
                  · refine lv_aload_n X.1 X.2.1 d_By_field_112 rfl (lv_at hl 0 rfl) ?_
                    refine lv_iload X.1 X.2.1 d_By_field_113 (lv_at hl 3 rfl) ?_
                    refine lv_iload X.1 X.2.1 d_By_field_115 (lv_at hl 2 rfl) ?_
                    refine t_ui (t_runV (As := [.int (iI z113), .int (iI z109)]) (rest := []) (n := 2) X Y S k0 hml hl.1 (c_By_stopX l D E T κ L f H.size h n0 k0 (by omega) z113 (by omega) (by omega) z109 (by omega) (by omega) S.1 sz0 g0 (by omega) (by omega)) (ok_k X Y hA KS KR) rfl kl_By_By_stop ks_By_stop kx_By_stop ki_By_stop ini_By ⟨rfl, rfl⟩ hd_By_stop ⟨Nat.le_of_ble_eq_true rfl, Nat.le_of_ble_eq_true rfl⟩ rfl (Nat.le_of_ble_eq_true rfl) d_By_field_117 ⟨Nat.le_of_ble_eq_true rfl, Nat.le_of_ble_eq_true rfl⟩) X Y hA (fun z130 H locs Y p130 => ?_)
                    obtain ⟨l130, u130, x130, st130⟩ := p130
                    have q131 : StR (rb f h) sz0 z113 sz0 z130 := by have q9 := st130; rw [es110] at q9; exact q9
                    have q132 := StR_fun q131 v126a.1
                    subst q132
                    refine lv_istore (lv' := [(6, .int (iI z130)), (0, .ref h), (2, .int (iI 3)), (5, .int (iI z109)), (7, .int (iI z114))]) X.1 X.2.1 d_By_field_120 hl (by decide) rfl (fun ls hl => ?_)
                    refine lv_iinc (v := iI (z114 + 1)) (lv' := [(7, .int (iI (z114 + 1))), (6, .int (iI z130)), (0, .ref h), (2, .int (iI 3)), (5, .int (iI z109))]) X.1 X.2.1 d_By_field_122 hl (k := 4) rfl ((iI_add _ _).trans (congrArg iI (by omega))) (by decide) rfl (fun ls hl => ?_)
                    refine lv_goto (tgt := 67) X.1 X.2.1 d_By_field_125 (by decide) ?_
                    exact ih117 ((13 - (z114 + 1)).toNat) (by omega) z130 (z114 + 1) _ _ _ rfl (by omega) (by omega) (by omega) (by omega) ⟨n125, v126c⟩ Y S (lv_sub hl [2, 3, 4, 1, 0] rfl)
                  · refine lv_aload_n X.1 X.2.1 d_By_field_105 rfl (lv_at hl 0 rfl) ?_
                    refine lv_iload X.1 X.2.1 d_By_field_106 (lv_at hl 3 rfl) ?_
                    refine t_ui (t_runV (As := [.int (iI z113)]) (rest := []) (n := 1) X Y S k0 hml hl.1 (c_By_bodyX l D E T κ L f H.size h n0 k0 (by omega) z113 (by omega) (by omega) S.1 sz0 g0 (by omega) (by omega)) (ok_k X Y hA KS KR) rfl kl_By_By_body ks_By_body kx_By_body ki_By_body ini_By ⟨rfl, rfl⟩ hd_By_body ⟨Nat.le_of_ble_eq_true rfl, Nat.le_of_ble_eq_true rfl⟩ rfl (Nat.le_of_ble_eq_true rfl) d_By_field_108 ⟨Nat.le_of_ble_eq_true rfl, Nat.le_of_ble_eq_true rfl⟩) X Y hA (fun z133 H locs Y p133 => ?_)
                    obtain ⟨l133, u133, x133, st133⟩ := p133
                    have q134 := BdR_fun st133 v126a.2.2.1
                    subst q134
                    exact c_reti hQQ X Y hr hlk ⟨rfl, rfl, z133, rfl, ⟨by omega, by omega, fun h9 => (v126b (by omega)).elim (fun b9 h8 => h8.elim (fun j9 h7 => ⟨T123, b9, j9, StR_mono v126a.2.2.2 v126a.2.1 (StR_le (rb_nn f h) v126a.2.2.2 v126a.2.1).2.2.2 (Int.le_refl _), v126a.2.1, h7.1, h7.2⟩))⟩⟩ d_By_field_111
        refine lv_istore (lv' := [(7, .int (iI 0)), (6, .int (iI z111)), (5, .int (iI z109)), (4, .int (iI z107)), (3, .int (iI 96)), (0, .ref h), (1, .int (iI 0)), (2, .int (iI 3))]) X.1 X.2.1 d_By_field_65 hl (by decide) rfl (fun ls hl => ?_)
        exact J116 _ z111 0 _ _ _ rfl (by omega) (by omega) (by omega) (by omega) ⟨JJ, t5⟩ Y S (lv_sub hl [5, 7, 2, 1, 0] rfl)
set_option maxHeartbeats 4000000 in
set_option maxRecDepth 100000 in
theorem c_By_fieldE2 (l : Launch) (D : va_G) (E : cE) (T : cT) (κ : tK) (L : List Nat) (f : pF) (sz : Nat) (h n0 : Nat) (k0 : κ h = (13, n0)) (x0 : n0 ≤ 12288) (a1 : Int) (l_a1 : (-1) ≤ a1) (u_a1 : a1 ≤ 20200) (hw : tW E T κ L f) (sz0 : Int) (g0 : gF f h 1 = .int (iI sz0)) (g1 : 0 ≤ sz0) (g2 : sz0 ≤ (n0 : Int)) (q0 : rb f h a1 = 48) (q1 : EntP (rb f h) sz0 a1) : Met l y_By_field (k_By_field :: lw_tg) (kRm 2 85 0 0) (va_Pc [.ref h, .int (iI a1), .int (iI 2)] (kPre D E T L f sz)) (va_Qi (uPi L f (fun (z : Int) => (-1) ≤ z ∧ z ≤ 12420 ∧ (0 ≤ z → StG (rb f h) sz0 z))) (cPost D E (pA L sz)) (pA L sz)) 0 0 (pA L sz) := by
  refine k_enter (own := R_By) (by decide) rfl (Nat.le_of_ble_eq_true rfl) (fun p e s m below meth c ls AV QQ H locs hQQ X Y hA hin hr hlk hml hl KS KR => ?_)
  have hl : lv_has ls 8 [(0, .ref h), (1, .int (iI a1)), (2, .int (iI 2))] := hl
  have S : tS E T (tFr κ L [] []) κ L f κ L f := tS_rf hw
  obtain ⟨T0, B0, JJ, t1, t2, t3, t4⟩ := q1
  have t6 := StR_le (rb_nn f h) t1 t2
  refine lv_iload_n X.1 X.2.1 d_By_field_0 rfl (lv_at hl 1 rfl) ?_
  refine z_if_lt (tgt := 25) X.1 X.2.1 d_By_field_1 (by decide) ⟨by omega, by omega⟩ (fun h101 => ?_) (fun h101 => ?_)
  · exact False.elim (by omega)
  · refine lv_iload_n X.1 X.2.1 d_By_field_4 rfl (lv_at hl 1 rfl) ?_
    refine lv_aload_n X.1 X.2.1 d_By_field_5 rfl (lv_at hl 0 rfl) ?_
    refine t_get0 (ci := 3) X Y S k0 rfl i_By 1 (by decide) rfl lk_By_21 (fun _ h9 => h9) d_By_field_6 g0 ?_
    refine z_icmp_ge (tgt := 25) X.1 X.2.1 d_By_field_9 (by decide) ⟨by omega, by omega⟩ ⟨by omega, by omega⟩ (fun h102 => ?_) (fun h102 => ?_)
    · exact False.elim (by omega)
    · refine lv_aload_n X.1 X.2.1 d_By_field_12 rfl (lv_at hl 0 rfl) ?_
      refine t_getrow (ci := 3) X Y S k0 rfl i_By 0 (by decide) rfl lk_By_15 (fun _ h9 => h9) d_By_field_13 (fun b103 e103 k103 => ?_)
      refine lv_iload_n X.1 X.2.1 d_By_field_16 rfl (lv_at hl 1 rfl) ?_
      refine t_baldx X Y S k103 (by omega) (by omega) (by omega) d_By_field_17 (fun z104 q104 l104 u104 => ?_)
      refine lv_sipush (v := iI 224) X.1 X.2.1 d_By_field_18 (by decide) ?_
      have r105 : z104 % 256 = rb f h a1 := by rw [rb_of e103, q104]
      refine lv_iand X.1 X.2.1 d_By_field_21 ?_
      refine t_eq (and224b (by omega)) ?_
      refine lv_goto (tgt := 26) X.1 X.2.1 d_By_field_22 (by decide) ?_
      refine lv_istore_n (lv' := [(3, .int (iI 32)), (0, .ref h), (1, .int (iI a1)), (2, .int (iI 2))]) X.1 X.2.1 d_By_field_26 rfl hl (by decide) rfl (fun ls hl => ?_)
      refine lv_iload_n X.1 X.2.1 d_By_field_27 rfl (lv_at hl 0 rfl) ?_
      refine lv_bipush (v := iI 96) X.1 X.2.1 d_By_field_28 (by decide) ?_
      refine z_icmp_ne (tgt := 41) X.1 X.2.1 d_By_field_30 (by decide) ⟨by omega, by omega⟩ ⟨by omega, by omega⟩ (fun h106 => ?_) (fun h106 => False.elim (by omega))
      · refine lv_iload_n X.1 X.2.1 d_By_field_41 rfl (lv_at hl 2 rfl) ?_
        refine lv_istore (lv' := [(4, .int (iI a1)), (3, .int (iI 32)), (0, .ref h), (1, .int (iI a1)), (2, .int (iI 2))]) X.1 X.2.1 d_By_field_42 hl (by decide) rfl (fun ls hl => ?_)
        refine lv_aload_n X.1 X.2.1 d_By_field_44 rfl (lv_at hl 2 rfl) ?_
        refine lv_iload X.1 X.2.1 d_By_field_45 (lv_at hl 0 rfl) ?_
        refine lv_aload_n X.1 X.2.1 d_By_field_47 rfl (lv_at hl 2 rfl) ?_
        refine t_get0 (ci := 3) X Y S k0 rfl i_By 1 (by decide) rfl lk_By_21 (fun _ h9 => h9) d_By_field_48 g0 ?_
        refine t_ui (t_runV (As := [.int (iI a1), .int (iI sz0)]) (rest := []) (n := 2) X Y S k0 hml hl.1 (c_By_stopX l D E T κ L f H.size h n0 k0 (by omega) a1 (by omega) (by omega) sz0 (by omega) (by omega) S.1 sz0 g0 (by omega) (by omega)) (ok_k X Y hA KS KR) rfl kl_By_By_stop ks_By_stop kx_By_stop ki_By_stop ini_By ⟨rfl, rfl⟩ hd_By_stop ⟨Nat.le_of_ble_eq_true rfl, Nat.le_of_ble_eq_true rfl⟩ rfl (Nat.le_of_ble_eq_true rfl) d_By_field_51 ⟨Nat.le_of_ble_eq_true rfl, Nat.le_of_ble_eq_true rfl⟩) X Y hA (fun z107 H locs Y p107 => ?_)
        obtain ⟨l107, u107, x107, st107⟩ := p107
        have q108 := StR_fun st107 t1
        subst q108
        refine lv_istore (lv' := [(5, .int (iI z107)), (4, .int (iI a1)), (3, .int (iI 32)), (0, .ref h), (1, .int (iI a1)), (2, .int (iI 2))]) X.1 X.2.1 d_By_field_54 hl (by decide) rfl (fun ls hl => ?_)
        refine lv_aload_n X.1 X.2.1 d_By_field_56 rfl (lv_at hl 3 rfl) ?_
        refine lv_iload X.1 X.2.1 d_By_field_57 (lv_at hl 1 rfl) ?_
        refine t_ui (t_runV (As := [.int (iI a1)]) (rest := []) (n := 1) X Y S k0 hml hl.1 (c_By_bodyX l D E T κ L f H.size h n0 k0 (by omega) a1 (by omega) (by omega) S.1 sz0 g0 (by omega) (by omega)) (ok_k X Y hA KS KR) rfl kl_By_By_body ks_By_body kx_By_body ki_By_body ini_By ⟨rfl, rfl⟩ hd_By_body ⟨Nat.le_of_ble_eq_true rfl, Nat.le_of_ble_eq_true rfl⟩ rfl (Nat.le_of_ble_eq_true rfl) d_By_field_59 ⟨Nat.le_of_ble_eq_true rfl, Nat.le_of_ble_eq_true rfl⟩) X Y hA (fun z109 H locs Y p109 => ?_)
        obtain ⟨l109, u109, x109, st109⟩ := p109
        have q110 := BdR_fun st109 t3
        subst q110
        refine lv_istore (lv' := [(6, .int (iI z109)), (5, .int (iI z107)), (4, .int (iI a1)), (3, .int (iI 32)), (0, .ref h), (1, .int (iI a1)), (2, .int (iI 2))]) X.1 X.2.1 d_By_field_62 hl (by decide) rfl (fun ls hl => ?_)
        refine lv_iconst (v := iI 0) X.1 X.2.1 d_By_field_64 (by decide) ?_
        have J114 : ∀ (n116 : Nat) (z111 : Int) (z112 : Int) (H : Heap) (locs : List Loc) (ls : Array Slot), (13 - z112).toNat = n116 → ((-1) ≤ z111) → (z111 ≤ 12420) → (0 ≤ z112) → (z112 ≤ 13) → (∃ j : Nat, FdSeg (rb f h) sz0 z107 pT j z111 z107) → pH D cCl (pA L sz) s.heap L f H locs → tS E T (tFr κ L [] []) κ L f κ L f → lv_has ls 8 [(0, .ref h), (2, .int (iI 2)), (5, .int (iI z107)), (6, .int (iI z111)), (7, .int (iI z112))] → W p l e (kRm 2 85 0 0) s m AV below meth c H locs 0 0 QQ (F0 m 67 ls []) := by
          intro n116
          induction n116 using Nat.strongRecOn with
          | ind n116 ih115 =>
            intro z111 z112 H locs ls hm117 l111 u111 l112 u112 i113 Y S hl
            refine lv_iload X.1 X.2.1 d_By_field_67 (lv_at hl 4 rfl) ?_
            refine lv_bipush (v := iI 13) X.1 X.2.1 d_By_field_69 (by decide) ?_
            refine z_icmp_ge (tgt := 128) X.1 X.2.1 d_By_field_71 (by decide) ⟨by omega, by omega⟩ ⟨by omega, by omega⟩ (fun h118 => ?_) (fun h118 => ?_)
            · refine lv_iconst (v := iI (-1)) X.1 X.2.1 d_By_field_128 (by decide) ?_
              exact c_reti hQQ X Y hr hlk ⟨rfl, rfl, (-1), rfl, ⟨by omega, by omega, fun h9 => absurd h9 (by decide)⟩⟩ d_By_field_129
            · refine lv_iload X.1 X.2.1 d_By_field_74 (lv_at hl 3 rfl) ?_
              refine z_if_lt (tgt := 128) X.1 X.2.1 d_By_field_76 (by decide) ⟨by omega, by omega⟩ (fun h119 => ?_) (fun h119 => ?_)
              · refine lv_iconst (v := iI (-1)) X.1 X.2.1 d_By_field_128 (by decide) ?_
                exact c_reti hQQ X Y hr hlk ⟨rfl, rfl, (-1), rfl, ⟨by omega, by omega, fun h9 => absurd h9 (by decide)⟩⟩ d_By_field_129
              · refine lv_iload X.1 X.2.1 d_By_field_79 (lv_at hl 3 rfl) ?_
                refine lv_iload X.1 X.2.1 d_By_field_81 (lv_at hl 2 rfl) ?_
                refine z_icmp_ge (tgt := 128) X.1 X.2.1 d_By_field_83 (by decide) ⟨by omega, by omega⟩ ⟨by omega, by omega⟩ (fun h120 => ?_) (fun h120 => ?_)
                · refine lv_iconst (v := iI (-1)) X.1 X.2.1 d_By_field_128 (by decide) ?_
                  exact c_reti hQQ X Y hr hlk ⟨rfl, rfl, (-1), rfl, ⟨by omega, by omega, fun h9 => absurd h9 (by decide)⟩⟩ d_By_field_129
                · obtain ⟨T121, B122, n123, v124a, v124b, v124c⟩ := FdSeg_un i113 (by omega)
                  refine lv_aload_n X.1 X.2.1 d_By_field_86 rfl (lv_at hl 0 rfl) ?_
                  refine t_get0 (ci := 3) X Y S k0 rfl i_By 0 (by decide) rfl lk_By_15 (fun _ h9 => h9) d_By_field_87 e103 ?_
                  refine lv_iload X.1 X.2.1 d_By_field_90 (lv_at hl 3 rfl) ?_
                  refine t_baldx X Y S k103 (by omega) (by omega) (by omega) d_By_field_92 (fun z125 q125 l125 u125 => ?_)
                  refine lv_sipush (v := iI 255) X.1 X.2.1 d_By_field_93 (by decide) ?_
                  refine z_iand255 X.1 X.2.1 d_By_field_96 ?_
                  have r126 : z125 % 256 = rb f h z111 := by rw [rb_of e103, q125, show (z111 : Int) = z111 by omega]
                  refine lv_sipush (v := iI 160) X.1 X.2.1 d_By_field_97 (by decide) ?_
                  refine lv_iload_n X.1 X.2.1 d_By_field_100 rfl (lv_at hl 1 rfl) ?_
                  refine z_iadd X.1 X.2.1 d_By_field_101 ?_
                  refine t_eq (y := iI 162) (by decide) ?_
                  refine z_icmp_ne (tgt := 112) X.1 X.2.1 d_By_field_102 (by decide) ⟨by omega, by omega⟩ ⟨by omega, by omega⟩ (fun h127 => ?_) (fun h127 => ?_)
                  · refine lv_aload_n X.1 X.2.1 d_By_field_112 rfl (lv_at hl 0 rfl) ?_
                    refine lv_iload X.1 X.2.1 d_By_field_113 (lv_at hl 3 rfl) ?_
                    refine lv_iload X.1 X.2.1 d_By_field_115 (lv_at hl 2 rfl) ?_
                    refine t_ui (t_runV (As := [.int (iI z111), .int (iI z107)]) (rest := []) (n := 2) X Y S k0 hml hl.1 (c_By_stopX l D E T κ L f H.size h n0 k0 (by omega) z111 (by omega) (by omega) z107 (by omega) (by omega) S.1 sz0 g0 (by omega) (by omega)) (ok_k X Y hA KS KR) rfl kl_By_By_stop ks_By_stop kx_By_stop ki_By_stop ini_By ⟨rfl, rfl⟩ hd_By_stop ⟨Nat.le_of_ble_eq_true rfl, Nat.le_of_ble_eq_true rfl⟩ rfl (Nat.le_of_ble_eq_true rfl) d_By_field_117 ⟨Nat.le_of_ble_eq_true rfl, Nat.le_of_ble_eq_true rfl⟩) X Y hA (fun z128 H locs Y p128 => ?_)
                    obtain ⟨l128, u128, x128, st128⟩ := p128
                    have q129 := StR_fun st128 v124a.1
                    subst q129
                    refine lv_istore (lv' := [(6, .int (iI z128)), (0, .ref h), (2, .int (iI 2)), (5, .int (iI z107)), (7, .int (iI z112))]) X.1 X.2.1 d_By_field_120 hl (by decide) rfl (fun ls hl => ?_)
                    refine lv_iinc (v := iI (z112 + 1)) (lv' := [(7, .int (iI (z112 + 1))), (6, .int (iI z128)), (0, .ref h), (2, .int (iI 2)), (5, .int (iI z107))]) X.1 X.2.1 d_By_field_122 hl (k := 4) rfl ((iI_add _ _).trans (congrArg iI (by omega))) (by decide) rfl (fun ls hl => ?_)
                    refine lv_goto (tgt := 67) X.1 X.2.1 d_By_field_125 (by decide) ?_
                    exact ih115 ((13 - (z112 + 1)).toNat) (by omega) z128 (z112 + 1) _ _ _ rfl (by omega) (by omega) (by omega) (by omega) ⟨n123, v124c⟩ Y S (lv_sub hl [2, 3, 4, 1, 0] rfl)
                  · refine lv_aload_n X.1 X.2.1 d_By_field_105 rfl (lv_at hl 0 rfl) ?_
                    refine lv_iload X.1 X.2.1 d_By_field_106 (lv_at hl 3 rfl) ?_
                    refine t_ui (t_runV (As := [.int (iI z111)]) (rest := []) (n := 1) X Y S k0 hml hl.1 (c_By_bodyX l D E T κ L f H.size h n0 k0 (by omega) z111 (by omega) (by omega) S.1 sz0 g0 (by omega) (by omega)) (ok_k X Y hA KS KR) rfl kl_By_By_body ks_By_body kx_By_body ki_By_body ini_By ⟨rfl, rfl⟩ hd_By_body ⟨Nat.le_of_ble_eq_true rfl, Nat.le_of_ble_eq_true rfl⟩ rfl (Nat.le_of_ble_eq_true rfl) d_By_field_108 ⟨Nat.le_of_ble_eq_true rfl, Nat.le_of_ble_eq_true rfl⟩) X Y hA (fun z130 H locs Y p130 => ?_)
                    obtain ⟨l130, u130, x130, st130⟩ := p130
                    have q131 := BdR_fun st130 v124a.2.2.1
                    subst q131
                    exact c_reti hQQ X Y hr hlk ⟨rfl, rfl, z130, rfl, ⟨by omega, by omega, fun h9 => StG_of (rb_nn f h) v124a.2.2.2 v124a.2.1⟩⟩ d_By_field_111
        refine lv_istore (lv' := [(7, .int (iI 0)), (6, .int (iI z109)), (5, .int (iI z107)), (4, .int (iI a1)), (3, .int (iI 32)), (0, .ref h), (1, .int (iI a1)), (2, .int (iI 2))]) X.1 X.2.1 d_By_field_65 hl (by decide) rfl (fun ls hl => ?_)
        exact J114 _ z109 0 _ _ _ rfl (by omega) (by omega) (by omega) (by omega) ⟨JJ, t4⟩ Y S (lv_sub hl [5, 7, 2, 1, 0] rfl)
set_option maxHeartbeats 4000000 in
set_option maxRecDepth 100000 in
theorem c_By_elementR (l : Launch) (D : va_G) (E : cE) (T : cT) (κ : tK) (L : List Nat) (f : pF) (sz : Nat) (h n0 : Nat) (k0 : κ h = (13, n0)) (x0 : n0 ≤ 12288) (a1 : Int) (l_a1 : (-1) ≤ a1) (u_a1 : a1 ≤ 20200) (a2 : Int) (l_a2 : 0 ≤ a2) (u_a2 : a2 ≤ 16) (hw : tW E T κ L f) (sz0 : Int) (g0 : gF f h 1 = .int (iI sz0)) (g1 : 0 ≤ sz0) (g2 : sz0 ≤ (n0 : Int)) (q1 : 0 ≤ a1 → LstP (rb f h) sz0 a1) : Met l y_By_element (k_By_element :: lw_tg) (kRm 2 85 0 0) (va_Pc [.ref h, .int (iI a1), .int (iI a2)] (kPre D E T L f sz)) (va_Qi (uPi L f (fun (z : Int) => (-1) ≤ z ∧ z ≤ 12420 ∧ (0 ≤ z → rb f h z = 48 ∧ EntP (rb f h) sz0 z))) (cPost D E (pA L sz)) (pA L sz)) 0 0 (pA L sz) := by
  refine k_enter (own := R_By) (by decide) rfl (Nat.le_of_ble_eq_true rfl) (fun p e s m below meth c ls AV QQ H locs hQQ X Y hA hin hr hlk hml hl KS KR => ?_)
  have hl : lv_has ls 6 [(0, .ref h), (1, .int (iI a1)), (2, .int (iI a2))] := hl
  have S : tS E T (tFr κ L [] []) κ L f κ L f := tS_rf hw
  refine lv_aload_n X.1 X.2.1 d_By_element_0 rfl (lv_at hl 0 rfl) ?_
  refine lv_iload_n X.1 X.2.1 d_By_element_1 rfl (lv_at hl 1 rfl) ?_
  refine lv_aload_n X.1 X.2.1 d_By_element_2 rfl (lv_at hl 0 rfl) ?_
  refine t_get0 (ci := 3) X Y S k0 rfl i_By 1 (by decide) rfl lk_By_21 (fun _ h9 => h9) d_By_element_3 g0 ?_
  refine t_ui (t_runV (As := [.int (iI a1), .int (iI sz0)]) (rest := []) (n := 2) X Y S k0 hml hl.1 (c_By_stopX l D E T κ L f H.size h n0 k0 (by omega) a1 (by omega) (by omega) sz0 (by omega) (by omega) S.1 sz0 g0 (by omega) (by omega)) (ok_k X Y hA KS KR) rfl kl_By_By_stop ks_By_stop kx_By_stop ki_By_stop ini_By ⟨rfl, rfl⟩ hd_By_stop ⟨Nat.le_of_ble_eq_true rfl, Nat.le_of_ble_eq_true rfl⟩ rfl (Nat.le_of_ble_eq_true rfl) d_By_element_6 ⟨Nat.le_of_ble_eq_true rfl, Nat.le_of_ble_eq_true rfl⟩) X Y hA (fun z101 H locs Y p101 => ?_)
  obtain ⟨l101, u101, x101, st101⟩ := p101
  refine lv_istore_n (lv' := [(3, .int (iI z101)), (0, .ref h), (1, .int (iI a1)), (2, .int (iI a2))]) X.1 X.2.1 d_By_element_9 rfl hl (by decide) rfl (fun ls hl => ?_)
  refine lv_aload_n X.1 X.2.1 d_By_element_10 rfl (lv_at hl 1 rfl) ?_
  refine lv_iload_n X.1 X.2.1 d_By_element_11 rfl (lv_at hl 2 rfl) ?_
  refine t_ui (t_runV (As := [.int (iI a1)]) (rest := []) (n := 1) X Y S k0 hml hl.1 (c_By_bodyX l D E T κ L f H.size h n0 k0 (by omega) a1 (by omega) (by omega) S.1 sz0 g0 (by omega) (by omega)) (ok_k X Y hA KS KR) rfl kl_By_By_body ks_By_body kx_By_body ki_By_body ini_By ⟨rfl, rfl⟩ hd_By_body ⟨Nat.le_of_ble_eq_true rfl, Nat.le_of_ble_eq_true rfl⟩ rfl (Nat.le_of_ble_eq_true rfl) d_By_element_12 ⟨Nat.le_of_ble_eq_true rfl, Nat.le_of_ble_eq_true rfl⟩) X Y hA (fun z102 H locs Y p102 => ?_)
  obtain ⟨l102, u102, x102, st102⟩ := p102
  refine lv_istore (lv' := [(4, .int (iI z102)), (3, .int (iI z101)), (0, .ref h), (1, .int (iI a1)), (2, .int (iI a2))]) X.1 X.2.1 d_By_element_15 hl (by decide) rfl (fun ls hl => ?_)
  refine lv_iconst (v := iI 0) X.1 X.2.1 d_By_element_17 (by decide) ?_
  have J106 : ∀ (n108 : Nat) (z103 : Int) (z104 : Int) (H : Heap) (locs : List Loc) (ls : Array Slot), (16 - z104).toNat = n108 → ((-1) ≤ z103) → (z103 ≤ 12420) → (0 ≤ z104) → (z104 ≤ 16) → (0 ≤ z103 → ∃ j : Nat, RwSeg (rb f h) sz0 z101 j z103 z101) → pH D cCl (pA L sz) s.heap L f H locs → tS E T (tFr κ L [] []) κ L f κ L f → lv_has ls 6 [(0, .ref h), (2, .int (iI a2)), (3, .int (iI z101)), (4, .int (iI z103)), (5, .int (iI z104))] → W p l e (kRm 2 85 0 0) s m AV below meth c H locs 0 0 QQ (F0 m 20 ls []) := by
    intro n108
    induction n108 using Nat.strongRecOn with
    | ind n108 ih107 =>
      intro z103 z104 H locs ls hm109 l103 u103 l104 u104 i105 Y S hl
      refine lv_iload X.1 X.2.1 d_By_element_20 (lv_at hl 4 rfl) ?_
      refine lv_bipush (v := iI 16) X.1 X.2.1 d_By_element_22 (by decide) ?_
      refine z_icmp_ge (tgt := 62) X.1 X.2.1 d_By_element_24 (by decide) ⟨by omega, by omega⟩ ⟨by omega, by omega⟩ (fun h110 => ?_) (fun h110 => ?_)
      · refine lv_iconst (v := iI (-1)) X.1 X.2.1 d_By_element_62 (by decide) ?_
        exact c_reti hQQ X Y hr hlk ⟨rfl, rfl, (-1), rfl, ⟨by omega, by omega, fun h9 => absurd h9 (by decide)⟩⟩ d_By_element_63
      · refine lv_iload X.1 X.2.1 d_By_element_27 (lv_at hl 3 rfl) ?_
        refine z_if_lt (tgt := 62) X.1 X.2.1 d_By_element_29 (by decide) ⟨by omega, by omega⟩ (fun h111 => ?_) (fun h111 => ?_)
        · refine lv_iconst (v := iI (-1)) X.1 X.2.1 d_By_element_62 (by decide) ?_
          exact c_reti hQQ X Y hr hlk ⟨rfl, rfl, (-1), rfl, ⟨by omega, by omega, fun h9 => absurd h9 (by decide)⟩⟩ d_By_element_63
        · refine lv_iload X.1 X.2.1 d_By_element_32 (lv_at hl 3 rfl) ?_
          refine lv_iload_n X.1 X.2.1 d_By_element_34 rfl (lv_at hl 2 rfl) ?_
          refine z_icmp_ge (tgt := 62) X.1 X.2.1 d_By_element_35 (by decide) ⟨by omega, by omega⟩ ⟨by omega, by omega⟩ (fun h112 => ?_) (fun h112 => ?_)
          · refine lv_iconst (v := iI (-1)) X.1 X.2.1 d_By_element_62 (by decide) ?_
            exact c_reti hQQ X Y hr hlk ⟨rfl, rfl, (-1), rfl, ⟨by omega, by omega, fun h9 => absurd h9 (by decide)⟩⟩ d_By_element_63
          · obtain ⟨T113, B114, n115, v116a, v116b, v116c, v116d, v116e, v116f⟩ := RwSeg_un (i105 (by omega)) (by omega)
            refine lv_iload X.1 X.2.1 d_By_element_38 (lv_at hl 4 rfl) ?_
            refine lv_iload_n X.1 X.2.1 d_By_element_40 rfl (lv_at hl 1 rfl) ?_
            refine z_icmp_ne (tgt := 47) X.1 X.2.1 d_By_element_41 (by decide) ⟨by omega, by omega⟩ ⟨by omega, by omega⟩ (fun h117 => ?_) (fun h117 => ?_)
            · refine lv_aload_n X.1 X.2.1 d_By_element_47 rfl (lv_at hl 0 rfl) ?_
              refine lv_iload X.1 X.2.1 d_By_element_48 (lv_at hl 3 rfl) ?_
              refine lv_iload_n X.1 X.2.1 d_By_element_50 rfl (lv_at hl 2 rfl) ?_
              refine t_ui (t_runV (As := [.int (iI z103), .int (iI z101)]) (rest := []) (n := 2) X Y S k0 hml hl.1 (c_By_stopX l D E T κ L f H.size h n0 k0 (by omega) z103 (by omega) (by omega) z101 (by omega) (by omega) S.1 sz0 g0 (by omega) (by omega)) (ok_k X Y hA KS KR) rfl kl_By_By_stop ks_By_stop kx_By_stop ki_By_stop ini_By ⟨rfl, rfl⟩ hd_By_stop ⟨Nat.le_of_ble_eq_true rfl, Nat.le_of_ble_eq_true rfl⟩ rfl (Nat.le_of_ble_eq_true rfl) d_By_element_51 ⟨Nat.le_of_ble_eq_true rfl, Nat.le_of_ble_eq_true rfl⟩) X Y hA (fun z118 H locs Y p118 => ?_)
              obtain ⟨l118, u118, x118, st118⟩ := p118
              have q119 := StR_fun st118 v116a
              subst q119
              refine lv_istore (lv' := [(4, .int (iI z118)), (0, .ref h), (2, .int (iI a2)), (3, .int (iI z101)), (5, .int (iI z104))]) X.1 X.2.1 d_By_element_54 hl (by decide) rfl (fun ls hl => ?_)
              refine lv_iinc (v := iI (z104 + 1)) (lv' := [(5, .int (iI (z104 + 1))), (4, .int (iI z118)), (0, .ref h), (2, .int (iI a2)), (3, .int (iI z101))]) X.1 X.2.1 d_By_element_56 hl (k := 4) rfl ((iI_add _ _).trans (congrArg iI (by omega))) (by decide) rfl (fun ls hl => ?_)
              refine lv_goto (tgt := 20) X.1 X.2.1 d_By_element_59 (by decide) ?_
              exact ih107 ((16 - (z104 + 1)).toNat) (by omega) z118 (z104 + 1) _ _ _ rfl (by omega) (by omega) (by omega) (by omega) (fun h8 => ⟨n115, v116f⟩) Y S (lv_sub hl [2, 3, 4, 1, 0] rfl)
            · refine lv_iload X.1 X.2.1 d_By_element_44 (lv_at hl 3 rfl) ?_
              exact c_reti hQQ X Y hr hlk ⟨rfl, rfl, z103, rfl, ⟨by omega, by omega, fun h9 => ⟨v116c, v116e.elim (fun j9 h8 => ⟨T113, B114, j9, StR_mono v116a v116b (by omega) (Int.le_refl _), v116b, v116d, h8⟩)⟩⟩⟩ d_By_element_46
  refine lv_istore (lv' := [(5, .int (iI 0)), (4, .int (iI z102)), (3, .int (iI z101)), (0, .ref h), (1, .int (iI a1)), (2, .int (iI a2))]) X.1 X.2.1 d_By_element_18 hl (by decide) rfl (fun ls hl => ?_)
  exact J106 _ z102 0 _ _ _ rfl (by omega) (by omega) (by omega) (by omega) (fun h8 => (q1 (by omega)).elim (fun T9 h7 => h7.elim (fun B9 h6 => h6.elim (fun j9 hj => ⟨j9, by have e8 := StR_fun st101 hj.1; have e9 := BdR_fun st102 hj.2.2.1; rw [e8, e9]; exact hj.2.2.2⟩)))) Y S (lv_sub hl [3, 5, 2, 1, 0] rfl)
