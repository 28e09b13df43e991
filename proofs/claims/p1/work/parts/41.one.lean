/-! The law's start, for a script of one call. -/
theorem mFz_0 : ∀ j, j < 145 → defaultValue (t_M j) = vp_V (mFz 0 (fun _ => 0) (fun _ => 0)) j := by decide +kernel
set_option maxHeartbeats 8000000 in
set_option maxRecDepth 100000 in
theorem whole_start {p : Program} {e : Env} {s : State} {m : MethodId} {below : List Frame} {meth : Method} {c : Code} (l : Launch) {b L0 : Nat} {xs : Nat → Int32} (hL : L0 ≤ 8) (C0 : lw_At p s m meth c b L0 xs) : W p l e room_1 s m #[Value.ref b] below meth c s.heap [] 0 0 (lw_Z below #[Value.ref b] s) (entryFrame m ([Value.ref b] : List Value).toArray 4) := by
  obtain ⟨hx, hb, hr, hml, hown, hts, hX, hbl, hlocks, hgv⟩ := id C0
  have hbA : ¬ lA s b := Nat.not_le.mpr hbl
  have hA : ∀ a, s.heap.size ≤ a → lA s a := fun _ h9 => h9
  have hAn : ∀ a : Nat, a < s.heap.size → ¬ lA s a := fun a ha => Nat.not_le.mpr ha
  have hfl : ∀ w ∈ fN, w.before #[Value.ref b] s = true := flat_of_before _ hgv
  have hg := tg_of hts
  obtain ⟨T, KS, KR⟩ := kS_at (A := lA s) hts hfl hAn
  obtain ⟨D, E, K1⟩ := cK_at hg KR
  obtain ⟨D0, E2, K2⟩ := mK_at hg
  obtain ⟨z, zv, fv, Z2, R2⟩ := zS_at (A := lA s) hts hfl hAn
  have X : cX R_law p c code #[Value.ref b] s m D E := ⟨hx, hb, hg, hown, K1⟩
  have Y : pH D cCl (lA s) s.heap [] (fun _ => .inr (0, [])) s.heap [] := ⟨fun k q h9 => by simp [va_pl] at h9, ⟨fun i j x y h9 => by simp [va_pl] at h9, fun k q h9 => by simp [va_pl] at h9⟩, va_S.rf⟩
  have hl := lv_entry ([.ref b]) (n := 4) (Nat.le_of_ble_eq_true rfl)
  rw [lg_entry_eq]
  generalize (lg_sl ([.ref b]) ++ List.replicate (4 - (lg_sl ([.ref b])).length) Slot.unset).toArray = ls at hl ⊢
  have hl : lv_has ls 4 [(0, .ref b)] := hl
  refine q_new hx hb hg i_H t_H t_H_ok hown (hg _ ck_L_H) (hg _ mk_H) (hg _ ini_H) K1 Y hA (ci := 0) rfl (fs := [.null, .null, .null, .null, .null, .null, .null, .null, .null]) (fun j hj => match j, hj with | 0, _ => rfl | 1, _ => rfl | 2, _ => rfl | 3, _ => rfl | 4, _ => rfl | 5, _ => rfl | 6, _ => rfl | 7, _ => rfl | 8, _ => rfl | n9 + 9, h9 => absurd (show n9 + 9 < 9 from h9) (by omega)) (by decide) (by decide) d_law_0 (fun xo H hq0 Y => ?_)
  refine lv_dup hx hb d_law_3 rfl ?_
  have mx : xo ∈ [] ++ [xo] := List.mem_append_right _ (List.mem_singleton.mpr rfl)
  refine x_v (x_runI (As := []) (rest := [.ref xo]) (n := 0) X hml hl.1 (c_H_init l D E T ([] ++ [xo]) _ H.size xo mx q_up) (ok_k X Y hA KS KR) kl_L_H_init ks_H_init ki_H_init ini_H rfl ⟨rfl, rfl⟩ hd_H_init.2 ⟨by decide, by decide⟩ rfl (Nat.le_of_ble_eq_true rfl) d_law_4 ⟨by decide, by decide⟩) X Y hA (fun u H locs hp Y => ?_)
  obtain ⟨L, f⟩ := u
  have hLs := hp.1
  have hq := hp.2.2
  clear hp
  refine hq.elim (fun v hq => ?_)
  refine hq.elim (fun ho hq => ?_)
  refine hq.elim (fun wd hq => ?_)
  refine hq.elim (fun bl hq => ?_)
  refine hq.elim (fun hst hq => ?_)
  refine hq.elim (fun inn hq => ?_)
  refine hq.elim (fun out hq => ?_)
  refine hq.elim (fun mac hq => ?_)
  refine hq.elim (fun o hq => ?_)
  refine hq.elim (fun tw hq => ?_)
  refine hq.elim (fun ke hq => ?_)
  refine hq.elim (fun sta hq => ?_)
  refine hq.elim (fun mo hq => ?_)
  refine hq.elim (fun se hq => ?_)
  refine hq.elim (fun tu hq => ?_)
  refine hq.elim (fun bq hq => ?_)
  refine hq.elim (fun r hq => ?_)
  refine hq.elim (fun tb hq => ?_)
  refine hq.elim (fun tr hq => ?_)
  refine hq.elim (fun sb hq => ?_)
  refine hq.elim (fun sr hq => ?_)
  refine hq.elim (fun ga hq => ?_)
  refine hq.elim (fun pa hq => ?_)
  refine hq.elim (fun pr hq => ?_)
  refine hq.elim (fun nb hq => ?_)
  refine hq.elim (fun nr hq => ?_)
  refine hq.elim (fun aa hq => ?_)
  refine hq.elim (fun sa hq => ?_)
  refine hq.elim (fun ce hq => ?_)
  refine hq.elim (fun qb hq => ?_)
  refine hq.elim (fun txo hq => ?_)
  refine hq.elim (fun dro hq => ?_)
  refine hq.elim (fun coo hq => ?_)
  refine hq.elim (fun deo hq => ?_)
  refine hq.elim (fun un hq => ?_)
  refine hq.elim (fun kp hq => ?_)
  refine hq.elim (fun gpo hq => ?_)
  refine hq.elim (fun gqo hq => ?_)
  refine hq.elim (fun gko hq => ?_)
  refine hq.elim (fun sno hq => ?_)
  refine hq.elim (fun l18 hq => ?_)
  refine hq.elim (fun l17 hq => ?_)
  refine hq.elim (fun d18 hq => ?_)
  refine hq.elim (fun d17 hq => ?_)
  refine hq.elim (fun cso hq => ?_)
  refine hq.elim (fun cl1 hq => ?_)
  refine hq.elim (fun cl2 hq => ?_)
  refine hq.elim (fun fl hq => ?_)
  refine hq.elim (fun rd hq => ?_)
  refine hq.elim (fun bn hq => ?_)
  refine hq.elim (fun nn hq => ?_)
  refine hq.elim (fun now hq => ?_)
  refine hq.elim (fun ssz hq => ?_)
  refine hq.elim (fun cat hq => ?_)
  refine hq.elim (fun crw hq => ?_)
  refine hq.elim (fun tot hq => ?_)
  refine hq.elim (fun mst hq => ?_)
  refine hq.elim (fun prd hq => ?_)
  refine hq.elim (fun lif hq => ?_)
  refine hq.elim (fun ren hq => ?_)
  refine hq.elim (fun flg hq => ?_)
  refine hq.elim (fun xpy hq => ?_)
  refine hq.elim (fun ce_initial hq => ?_)
  refine hq.elim (fun ce_read hq => ?_)
  refine hq.elim (fun ce_body hq => ?_)
  refine hq.elim (fun ce_options hq => ?_)
  refine hq.elim (fun ce_etype hq => ?_)
  refine hq.elim (fun ce_flags hq => ?_)
  refine hq.elim (fun ce_endTime hq => ?_)
  refine hq.elim (fun ce_renewTill hq => ?_)
  refine hq.elim (fun k_wd hq => ?_)
  refine hq.elim (fun k_bl hq => ?_)
  refine hq.elim (fun k_hst hq => ?_)
  refine hq.elim (fun k_inn hq => ?_)
  refine hq.elim (fun k_out hq => ?_)
  refine hq.elim (fun k_mac hq => ?_)
  refine hq.elim (fun k_tw hq => ?_)
  refine hq.elim (fun k_ke hq => ?_)
  refine hq.elim (fun k_sta hq => ?_)
  refine hq.elim (fun k_mo hq => ?_)
  refine hq.elim (fun k_se hq => ?_)
  refine hq.elim (fun k_tu hq => ?_)
  refine hq.elim (fun k_r hq => ?_)
  refine hq.elim (fun k_tr hq => ?_)
  refine hq.elim (fun k_sr hq => ?_)
  refine hq.elim (fun k_nr hq => ?_)
  refine hq.elim (fun k_pa hq => ?_)
  refine hq.elim (fun k_aa hq => ?_)
  refine hq.elim (fun k_sa hq => ?_)
  have m_v : v ∈ L := hq.1
  replace hq := hq.2
  replace hq := hq.2
  have m_ho : ho ∈ L := hq.1
  replace hq := hq.2
  replace hq := hq.2
  have m_wd : wd ∈ L := hq.1
  replace hq := hq.2
  replace hq := hq.2
  have m_bl : bl ∈ L := hq.1
  replace hq := hq.2
  replace hq := hq.2
  have m_hst : hst ∈ L := hq.1
  replace hq := hq.2
  replace hq := hq.2
  have m_inn : inn ∈ L := hq.1
  replace hq := hq.2
  replace hq := hq.2
  have m_out : out ∈ L := hq.1
  replace hq := hq.2
  replace hq := hq.2
  have m_mac : mac ∈ L := hq.1
  replace hq := hq.2
  replace hq := hq.2
  have m_o : o ∈ L := hq.1
  replace hq := hq.2
  replace hq := hq.2
  have m_tw : tw ∈ L := hq.1
  replace hq := hq.2
  replace hq := hq.2
  have m_ke : ke ∈ L := hq.1
  replace hq := hq.2
  replace hq := hq.2
  have m_sta : sta ∈ L := hq.1
  replace hq := hq.2
  replace hq := hq.2
  have m_mo : mo ∈ L := hq.1
  replace hq := hq.2
  replace hq := hq.2
  have m_se : se ∈ L := hq.1
  replace hq := hq.2
  replace hq := hq.2
  have m_tu : tu ∈ L := hq.1
  replace hq := hq.2
  replace hq := hq.2
  have m_b : bq ∈ L := hq.1
  replace hq := hq.2
  replace hq := hq.2
  have m_r : r ∈ L := hq.1
  replace hq := hq.2
  replace hq := hq.2
  have m_tb : tb ∈ L := hq.1
  replace hq := hq.2
  replace hq := hq.2
  have m_tr : tr ∈ L := hq.1
  replace hq := hq.2
  replace hq := hq.2
  have m_sb : sb ∈ L := hq.1
  replace hq := hq.2
  replace hq := hq.2
  have m_sr : sr ∈ L := hq.1
  replace hq := hq.2
  replace hq := hq.2
  have m_ga : ga ∈ L := hq.1
  replace hq := hq.2
  replace hq := hq.2
  have m_pa : pa ∈ L := hq.1
  replace hq := hq.2
  replace hq := hq.2
  have m_pr : pr ∈ L := hq.1
  replace hq := hq.2
  replace hq := hq.2
  have m_nb : nb ∈ L := hq.1
  replace hq := hq.2
  replace hq := hq.2
  have m_nr : nr ∈ L := hq.1
  replace hq := hq.2
  replace hq := hq.2
  have m_aa : aa ∈ L := hq.1
  replace hq := hq.2
  replace hq := hq.2
  have m_sa : sa ∈ L := hq.1
  replace hq := hq.2
  replace hq := hq.2
  have m_ce : ce ∈ L := hq.1
  replace hq := hq.2
  replace hq := hq.2
  have ap_wd_bl : wd ≠ bl := hq.1
  replace hq := hq.2
  have ap_wd_hst : wd ≠ hst := hq.1
  replace hq := hq.2
  have ap_wd_inn : wd ≠ inn := hq.1
  replace hq := hq.2
  have ap_wd_out : wd ≠ out := hq.1
  replace hq := hq.2
  have ap_wd_mac : wd ≠ mac := hq.1
  replace hq := hq.2
  have ap_wd_tw : wd ≠ tw := hq.1
  replace hq := hq.2
  have ap_wd_ke : wd ≠ ke := hq.1
  replace hq := hq.2
  have ap_wd_sta : wd ≠ sta := hq.1
  replace hq := hq.2
  have ap_wd_mo : wd ≠ mo := hq.1
  replace hq := hq.2
  have ap_wd_se : wd ≠ se := hq.1
  replace hq := hq.2
  have ap_wd_tu : wd ≠ tu := hq.1
  replace hq := hq.2
  have ap_wd_r : wd ≠ r := hq.1
  replace hq := hq.2
  have ap_wd_tr : wd ≠ tr := hq.1
  replace hq := hq.2
  have ap_wd_sr : wd ≠ sr := hq.1
  replace hq := hq.2
  have ap_wd_pa : wd ≠ pa := hq.1
  replace hq := hq.2
  have ap_wd_nr : wd ≠ nr := hq.1
  replace hq := hq.2
  have ap_wd_aa : wd ≠ aa := hq.1
  replace hq := hq.2
  have ap_wd_sa : wd ≠ sa := hq.1
  replace hq := hq.2
  have ap_bl_hst : bl ≠ hst := hq.1
  replace hq := hq.2
  have ap_bl_inn : bl ≠ inn := hq.1
  replace hq := hq.2
  have ap_bl_out : bl ≠ out := hq.1
  replace hq := hq.2
  have ap_bl_mac : bl ≠ mac := hq.1
  replace hq := hq.2
  have ap_bl_tw : bl ≠ tw := hq.1
  replace hq := hq.2
  have ap_bl_ke : bl ≠ ke := hq.1
  replace hq := hq.2
  have ap_bl_sta : bl ≠ sta := hq.1
  replace hq := hq.2
  have ap_bl_mo : bl ≠ mo := hq.1
  replace hq := hq.2
  have ap_bl_se : bl ≠ se := hq.1
  replace hq := hq.2
  have ap_bl_tu : bl ≠ tu := hq.1
  replace hq := hq.2
  have ap_bl_r : bl ≠ r := hq.1
  replace hq := hq.2
  have ap_bl_tr : bl ≠ tr := hq.1
  replace hq := hq.2
  have ap_bl_sr : bl ≠ sr := hq.1
  replace hq := hq.2
  have ap_bl_pa : bl ≠ pa := hq.1
  replace hq := hq.2
  have ap_bl_nr : bl ≠ nr := hq.1
  replace hq := hq.2
  have ap_bl_aa : bl ≠ aa := hq.1
  replace hq := hq.2
  have ap_bl_sa : bl ≠ sa := hq.1
  replace hq := hq.2
  have ap_hst_inn : hst ≠ inn := hq.1
  replace hq := hq.2
  have ap_hst_out : hst ≠ out := hq.1
  replace hq := hq.2
  have ap_hst_mac : hst ≠ mac := hq.1
  replace hq := hq.2
  have ap_hst_tw : hst ≠ tw := hq.1
  replace hq := hq.2
  have ap_hst_ke : hst ≠ ke := hq.1
  replace hq := hq.2
  have ap_hst_sta : hst ≠ sta := hq.1
  replace hq := hq.2
  have ap_hst_mo : hst ≠ mo := hq.1
  replace hq := hq.2
  have ap_hst_se : hst ≠ se := hq.1
  replace hq := hq.2
  have ap_hst_tu : hst ≠ tu := hq.1
  replace hq := hq.2
  have ap_hst_r : hst ≠ r := hq.1
  replace hq := hq.2
  have ap_hst_tr : hst ≠ tr := hq.1
  replace hq := hq.2
  have ap_hst_sr : hst ≠ sr := hq.1
  replace hq := hq.2
  have ap_hst_pa : hst ≠ pa := hq.1
  replace hq := hq.2
  have ap_hst_nr : hst ≠ nr := hq.1
  replace hq := hq.2
  have ap_hst_aa : hst ≠ aa := hq.1
  replace hq := hq.2
  have ap_hst_sa : hst ≠ sa := hq.1
  replace hq := hq.2
  have ap_inn_out : inn ≠ out := hq.1
  replace hq := hq.2
  have ap_inn_mac : inn ≠ mac := hq.1
  replace hq := hq.2
  have ap_inn_tw : inn ≠ tw := hq.1
  replace hq := hq.2
  have ap_inn_ke : inn ≠ ke := hq.1
  replace hq := hq.2
  have ap_inn_sta : inn ≠ sta := hq.1
  replace hq := hq.2
  have ap_inn_mo : inn ≠ mo := hq.1
  replace hq := hq.2
  have ap_inn_se : inn ≠ se := hq.1
  replace hq := hq.2
  have ap_inn_tu : inn ≠ tu := hq.1
  replace hq := hq.2
  have ap_inn_r : inn ≠ r := hq.1
  replace hq := hq.2
  have ap_inn_tr : inn ≠ tr := hq.1
  replace hq := hq.2
  have ap_inn_sr : inn ≠ sr := hq.1
  replace hq := hq.2
  have ap_inn_pa : inn ≠ pa := hq.1
  replace hq := hq.2
  have ap_inn_nr : inn ≠ nr := hq.1
  replace hq := hq.2
  have ap_inn_aa : inn ≠ aa := hq.1
  replace hq := hq.2
  have ap_inn_sa : inn ≠ sa := hq.1
  replace hq := hq.2
  have ap_out_mac : out ≠ mac := hq.1
  replace hq := hq.2
  have ap_out_tw : out ≠ tw := hq.1
  replace hq := hq.2
  have ap_out_ke : out ≠ ke := hq.1
  replace hq := hq.2
  have ap_out_sta : out ≠ sta := hq.1
  replace hq := hq.2
  have ap_out_mo : out ≠ mo := hq.1
  replace hq := hq.2
  have ap_out_se : out ≠ se := hq.1
  replace hq := hq.2
  have ap_out_tu : out ≠ tu := hq.1
  replace hq := hq.2
  have ap_out_r : out ≠ r := hq.1
  replace hq := hq.2
  have ap_out_tr : out ≠ tr := hq.1
  replace hq := hq.2
  have ap_out_sr : out ≠ sr := hq.1
  replace hq := hq.2
  have ap_out_pa : out ≠ pa := hq.1
  replace hq := hq.2
  have ap_out_nr : out ≠ nr := hq.1
  replace hq := hq.2
  have ap_out_aa : out ≠ aa := hq.1
  replace hq := hq.2
  have ap_out_sa : out ≠ sa := hq.1
  replace hq := hq.2
  have ap_mac_tw : mac ≠ tw := hq.1
  replace hq := hq.2
  have ap_mac_ke : mac ≠ ke := hq.1
  replace hq := hq.2
  have ap_mac_sta : mac ≠ sta := hq.1
  replace hq := hq.2
  have ap_mac_mo : mac ≠ mo := hq.1
  replace hq := hq.2
  have ap_mac_se : mac ≠ se := hq.1
  replace hq := hq.2
  have ap_mac_tu : mac ≠ tu := hq.1
  replace hq := hq.2
  have ap_mac_r : mac ≠ r := hq.1
  replace hq := hq.2
  have ap_mac_tr : mac ≠ tr := hq.1
  replace hq := hq.2
  have ap_mac_sr : mac ≠ sr := hq.1
  replace hq := hq.2
  have ap_mac_pa : mac ≠ pa := hq.1
  replace hq := hq.2
  have ap_mac_nr : mac ≠ nr := hq.1
  replace hq := hq.2
  have ap_mac_aa : mac ≠ aa := hq.1
  replace hq := hq.2
  have ap_mac_sa : mac ≠ sa := hq.1
  replace hq := hq.2
  have ap_tw_ke : tw ≠ ke := hq.1
  replace hq := hq.2
  have ap_tw_sta : tw ≠ sta := hq.1
  replace hq := hq.2
  have ap_tw_mo : tw ≠ mo := hq.1
  replace hq := hq.2
  have ap_tw_se : tw ≠ se := hq.1
  replace hq := hq.2
  have ap_tw_tu : tw ≠ tu := hq.1
  replace hq := hq.2
  have ap_tw_r : tw ≠ r := hq.1
  replace hq := hq.2
  have ap_tw_tr : tw ≠ tr := hq.1
  replace hq := hq.2
  have ap_tw_sr : tw ≠ sr := hq.1
  replace hq := hq.2
  have ap_tw_pa : tw ≠ pa := hq.1
  replace hq := hq.2
  have ap_tw_nr : tw ≠ nr := hq.1
  replace hq := hq.2
  have ap_tw_aa : tw ≠ aa := hq.1
  replace hq := hq.2
  have ap_tw_sa : tw ≠ sa := hq.1
  replace hq := hq.2
  have ap_ke_sta : ke ≠ sta := hq.1
  replace hq := hq.2
  have ap_ke_mo : ke ≠ mo := hq.1
  replace hq := hq.2
  have ap_ke_se : ke ≠ se := hq.1
  replace hq := hq.2
  have ap_ke_tu : ke ≠ tu := hq.1
  replace hq := hq.2
  have ap_ke_r : ke ≠ r := hq.1
  replace hq := hq.2
  have ap_ke_tr : ke ≠ tr := hq.1
  replace hq := hq.2
  have ap_ke_sr : ke ≠ sr := hq.1
  replace hq := hq.2
  have ap_ke_pa : ke ≠ pa := hq.1
  replace hq := hq.2
  have ap_ke_nr : ke ≠ nr := hq.1
  replace hq := hq.2
  have ap_ke_aa : ke ≠ aa := hq.1
  replace hq := hq.2
  have ap_ke_sa : ke ≠ sa := hq.1
  replace hq := hq.2
  have ap_sta_mo : sta ≠ mo := hq.1
  replace hq := hq.2
  have ap_sta_se : sta ≠ se := hq.1
  replace hq := hq.2
  have ap_sta_tu : sta ≠ tu := hq.1
  replace hq := hq.2
  have ap_sta_r : sta ≠ r := hq.1
  replace hq := hq.2
  have ap_sta_tr : sta ≠ tr := hq.1
  replace hq := hq.2
  have ap_sta_sr : sta ≠ sr := hq.1
  replace hq := hq.2
  have ap_sta_pa : sta ≠ pa := hq.1
  replace hq := hq.2
  have ap_sta_nr : sta ≠ nr := hq.1
  replace hq := hq.2
  have ap_sta_aa : sta ≠ aa := hq.1
  replace hq := hq.2
  have ap_sta_sa : sta ≠ sa := hq.1
  replace hq := hq.2
  have ap_mo_se : mo ≠ se := hq.1
  replace hq := hq.2
  have ap_mo_tu : mo ≠ tu := hq.1
  replace hq := hq.2
  have ap_mo_r : mo ≠ r := hq.1
  replace hq := hq.2
  have ap_mo_tr : mo ≠ tr := hq.1
  replace hq := hq.2
  have ap_mo_sr : mo ≠ sr := hq.1
  replace hq := hq.2
  have ap_mo_pa : mo ≠ pa := hq.1
  replace hq := hq.2
  have ap_mo_nr : mo ≠ nr := hq.1
  replace hq := hq.2
  have ap_mo_aa : mo ≠ aa := hq.1
  replace hq := hq.2
  have ap_mo_sa : mo ≠ sa := hq.1
  replace hq := hq.2
  have ap_se_tu : se ≠ tu := hq.1
  replace hq := hq.2
  have ap_se_r : se ≠ r := hq.1
  replace hq := hq.2
  have ap_se_tr : se ≠ tr := hq.1
  replace hq := hq.2
  have ap_se_sr : se ≠ sr := hq.1
  replace hq := hq.2
  have ap_se_pa : se ≠ pa := hq.1
  replace hq := hq.2
  have ap_se_nr : se ≠ nr := hq.1
  replace hq := hq.2
  have ap_se_aa : se ≠ aa := hq.1
  replace hq := hq.2
  have ap_se_sa : se ≠ sa := hq.1
  replace hq := hq.2
  have ap_tu_r : tu ≠ r := hq.1
  replace hq := hq.2
  have ap_tu_tr : tu ≠ tr := hq.1
  replace hq := hq.2
  have ap_tu_sr : tu ≠ sr := hq.1
  replace hq := hq.2
  have ap_tu_pa : tu ≠ pa := hq.1
  replace hq := hq.2
  have ap_tu_nr : tu ≠ nr := hq.1
  replace hq := hq.2
  have ap_tu_aa : tu ≠ aa := hq.1
  replace hq := hq.2
  have ap_tu_sa : tu ≠ sa := hq.1
  replace hq := hq.2
  have ap_b_tb : bq ≠ tb := hq.1
  replace hq := hq.2
  have ap_b_sb : bq ≠ sb := hq.1
  replace hq := hq.2
  have ap_b_nb : bq ≠ nb := hq.1
  replace hq := hq.2
  have ap_r_tr : r ≠ tr := hq.1
  replace hq := hq.2
  have ap_r_sr : r ≠ sr := hq.1
  replace hq := hq.2
  have ap_r_pa : r ≠ pa := hq.1
  replace hq := hq.2
  have ap_r_nr : r ≠ nr := hq.1
  replace hq := hq.2
  have ap_r_aa : r ≠ aa := hq.1
  replace hq := hq.2
  have ap_r_sa : r ≠ sa := hq.1
  replace hq := hq.2
  have ap_tb_sb : tb ≠ sb := hq.1
  replace hq := hq.2
  have ap_tb_nb : tb ≠ nb := hq.1
  replace hq := hq.2
  have ap_tr_sr : tr ≠ sr := hq.1
  replace hq := hq.2
  have ap_tr_pa : tr ≠ pa := hq.1
  replace hq := hq.2
  have ap_tr_nr : tr ≠ nr := hq.1
  replace hq := hq.2
  have ap_tr_aa : tr ≠ aa := hq.1
  replace hq := hq.2
  have ap_tr_sa : tr ≠ sa := hq.1
  replace hq := hq.2
  have ap_sb_nb : sb ≠ nb := hq.1
  replace hq := hq.2
  have ap_sr_pa : sr ≠ pa := hq.1
  replace hq := hq.2
  have ap_sr_nr : sr ≠ nr := hq.1
  replace hq := hq.2
  have ap_sr_aa : sr ≠ aa := hq.1
  replace hq := hq.2
  have ap_sr_sa : sr ≠ sa := hq.1
  replace hq := hq.2
  have ap_pa_nr : pa ≠ nr := hq.1
  replace hq := hq.2
  have ap_pa_aa : pa ≠ aa := hq.1
  replace hq := hq.2
  have ap_pa_sa : pa ≠ sa := hq.1
  replace hq := hq.2
  have ap_nr_aa : nr ≠ aa := hq.1
  replace hq := hq.2
  have ap_nr_sa : nr ≠ sa := hq.1
  replace hq := hq.2
  have ap_aa_sa : aa ≠ sa := hq.1
  replace hq := hq.2
  have f_bl : fB k_bl := hq.1
  replace hq := hq.2
  have f_mac : fB k_mac := hq.1
  replace hq := hq.2
  have f_tw : by8 k_tw := hq.1
  replace hq := hq.2
  have f_ke : by8 k_ke := hq.1
  replace hq := hq.2
  have f_sta : by8 k_sta := hq.1
  replace hq := hq.2
  have f_mo : by8 k_mo := hq.1
  replace hq := hq.2
  have f_se : fB k_se := hq.1
  replace hq := hq.2
  have f_tu : fB k_tu := hq.1
  replace hq := hq.2
  have f_r : fB k_r := hq.1
  replace hq := hq.2
  have f_tr : fB k_tr := hq.1
  replace hq := hq.2
  have f_sr : fB k_sr := hq.1
  replace hq := hq.2
  have f_nr : fB k_nr := hq.1
  replace hq := hq.2
  have hw_wp : wP 7 2 1 12 pr f L k_pa := hq.1
  replace hq := hq.2
  have hw_wa : wP 2 2 0 4 aa f L k_aa := hq.1
  replace hq := hq.2
  have hw_ws : wP 9 1 0 8 sa f L k_sa := hq.1
  replace hq := hq.2
  have hr_0 : (k_pa 0 = some pr) := hq.1
  replace hq := hq.2
  have hr_1 : (nn ≤ 40) := hq.1
  replace hq := hq.2
  have hr_2 : (bn ≤ 64) := hq.1
  replace hq := hq.2
  have hr_3 : (fl < 64) := hq.1
  replace hq := hq.2
  have hr_4 : (rd ≤ 14) := hq.1
  replace hq := hq.2
  have e_xo : f xo = .inr (0, [.ref v, .ref tb, .ref sb, .ref qb, .ref pa, .ref ga, .ref ce, .ref aa, .ref sa]) := hq.1
  replace hq := hq.2
  have e_v : f v = .inr (11, [.int now, .ref txo, .ref dro, .ref ho, .ref o, .ref se, .int ssz, .ref coo, .int cat, .int crw, .ref deo, .ref tu, .ref bq]) := hq.1
  replace hq := hq.2
  have e_ho : f ho = .inr (6, [.ref wd, .ref bl, .ref hst, .ref inn, .ref out, .int (nI fl), .int tot, .ref mac]) := hq.1
  replace hq := hq.2
  have e_wd : f wd = .inl (E.2.1, 80, .inl k_wd) := hq.1
  replace hq := hq.2
  have e_bl : f bl = .inl (E.1, 64, .inl k_bl) := hq.1
  replace hq := hq.2
  have e_hst : f hst = .inl (E.2.1, 5, .inl k_hst) := hq.1
  replace hq := hq.2
  have e_inn : f inn = .inl (E.2.1, 5, .inl k_inn) := hq.1
  replace hq := hq.2
  have e_out : f out = .inl (E.2.1, 5, .inl k_out) := hq.1
  replace hq := hq.2
  have e_mac : f mac = .inl (E.1, 20, .inl k_mac) := hq.1
  replace hq := hq.2
  have e_o : f o = .inr (1, [.ref un, .ref tw, .ref ke, .int (nI rd), .ref sta, .ref mo, .ref kp]) := hq.1
  replace hq := hq.2
  have e_tw : f tw = .inl (E.2.1, 256, .inl k_tw) := hq.1
  replace hq := hq.2
  have e_ke : f ke = .inl (E.2.1, 240, .inl k_ke) := hq.1
  replace hq := hq.2
  have e_sta : f sta = .inl (E.2.1, 16, .inl k_sta) := hq.1
  replace hq := hq.2
  have e_mo : f mo = .inl (E.2.1, 16, .inl k_mo) := hq.1
  replace hq := hq.2
  have e_se : f se = .inl (E.1, 64, .inl k_se) := hq.1
  replace hq := hq.2
  have e_tu : f tu = .inl (E.1, 20, .inl k_tu) := hq.1
  replace hq := hq.2
  have e_b : f bq = .inr (3, [.ref r, .int (nI bn)]) := hq.1
  replace hq := hq.2
  have e_r : f r = .inl (E.1, 64, .inl k_r) := hq.1
  replace hq := hq.2
  have e_tb : f tb = .inr (3, [.ref tr, .int (nI 0)]) := hq.1
  replace hq := hq.2
  have e_tr : f tr = .inl (E.1, 4000, .inl k_tr) := hq.1
  replace hq := hq.2
  have e_sb : f sb = .inr (3, [.ref sr, .int (nI 0)]) := hq.1
  replace hq := hq.2
  have e_sr : f sr = .inl (E.1, 12288, .inl k_sr) := hq.1
  replace hq := hq.2
  have e_ga : f ga = .inr (5, [.ref v, .ref gpo, .ref gqo, .ref gko, .int mst]) := hq.1
  replace hq := hq.2
  have e_pa : f pa = .inl (E.2.2.1, 12, .inr (.inr (.inr (.inr k_pa)))) := hq.1
  replace hq := hq.2
  have e_pr : f pr = .inr (7, [.ref nb, .ref sno, .int (nI 1), .int (nI 1), .int prd, .ref l18, .ref l17, .ref d18, .ref d17, .int lif, .int ren, .int flg, .int xpy]) := hq.1
  replace hq := hq.2
  have e_nb : f nb = .inr (3, [.ref nr, .int (nI nn)]) := hq.1
  replace hq := hq.2
  have e_nr : f nr = .inl (E.1, 40, .inl k_nr) := hq.1
  replace hq := hq.2
  have e_aa : f aa = .inl (E.2.2.2.1, 4, .inr (.inr (.inr (.inr k_aa)))) := hq.1
  replace hq := hq.2
  have e_sa : f sa = .inl (E.2.2.2.2.1, 8, .inr (.inr (.inr (.inr k_sa)))) := hq.1
  replace hq := hq.2
  have e_ce : f ce = .inr (4, [.ref v, .ref ga, .ref pa, .ref tb, .ref sb, .ref cso, .int ce_initial, .int ce_read, .int ce_body, .int ce_options, .ref cl1, .ref cl2, .int ce_etype, .int ce_flags, .int ce_endTime, .int ce_renewTill]) := hq
  have m_xo : xo ∈ L := hLs xo mx
  refine lv_astore_n (lv' := [(1, .ref xo), (0, .ref b)]) hx hb d_law_7 rfl hl (by decide) rfl (fun ls hl => ?_)
  refine va_forget (fun q hq => Y.2.2.2.2 q hq) ?_
  have hlt : ∀ a, a ∈ L → a < H.size := fun a ha => by obtain ⟨k, hk⟩ := q_at (f := f) ha; exact (Y.1 k _ hk).lt
  refine va_new (A := fun q => H.size ≤ q) (H0 := H) (ws := []) (ci := 0) (fs := mFz 0 (fun _ => 0) (fun _ => 0)) (C := R_M) (T := F_M) (N := 145) hx hb hg i_M t_M t_M_ok hown (hg _ ck_L_M) (hg _ mk_M) (hg _ ini_M) K2 (fun k q h9 => by simp at h9) ⟨fun i j x y h9 => by simp at h9, fun k q h9 => by simp at h9⟩ va_S.rf (fun _ h9 => h9) rfl mFz_0 (by decide) (by decide) d_law_8 (fun h H1 hP2 hD2 hS2 => ?_)
  have hh : H.size ≤ h := hD2.2 0 _ rfl
  have Y1 : pH D cCl (lA s) s.heap L f H1 [] := ⟨fun k x hk => (Y.1 k x hk).kept (hS2.2.1 x.1 (Y.1 k x hk).lt (Nat.not_le.mpr (Y.1 k x hk).lt)), Y.2.1, Nat.le_trans Y.2.2.1 hS2.1, fun q h1 h2 => (hS2.2.1 q (Nat.lt_of_lt_of_le h1 Y.2.2.1) (Nat.not_le.mpr (Nat.lt_of_lt_of_le h1 Y.2.2.1))).trans (Y.2.2.2.1 q h1 h2), fun q h9 => by simp at h9⟩
  refine lv_dup hx hb d_law_11 rfl ?_
  have hsub : ∀ a, iA h H1.size a → lA s a := fun a h9 => h9.elim (fun h8 => h8 ▸ Nat.le_trans Y.2.2.1 hh) (fun h8 => Nat.le_trans Y1.2.2.1 h8)
  refine va_callv (va_runI (As := []) (rest := [.ref h]) ⟨hx, hb, hml, hown, hg⟩ (c_init l (D0, z, zv, fv) E2 h H1.size) (cwI 0 hg (gd_t ki_init) rfl rfl rfl (hg _ ini_M) (hg _ kl_L_M_init) (hg _ ks_init) rfl hd_init.2 ⟨by decide, by decide⟩) ⟨fun a U g mk x => ⟨x.1, x.2.1, x.2.2.1, va_K.moved (u := U) (U := U.calling g mk a) (Vm.Alike.refl U.vm) x.2.2.2.1, zS_moved (u := U) (Vm.Alike.refl U.vm) x.2.2.2.2.1, fun i hi => vk_R.same (u := U) rfl (x.2.2.2.2.2 i hi)⟩, fun U hU hW => ⟨rfl, by rw [hU], by rw [hU]; exact hP2, va_K.moved hW.alike K2, by rw [hU]; exact zS_narrow (zS_kept (zS_moved hW.alike Z2) Y1.2.2.2.1) hsub, fun i hi => vk_R.warm hW (R2 i hi)⟩⟩ rfl rfl hl.1 rfl (lv_room (Nat.le_of_ble_eq_true rfl)) d_law_12 ⟨by decide, by decide⟩) Y1.2.2 (fun q _ h9 => hsub q h9) hsub (fun u t H2 locs2 ht hvm hw hB hz2 hk2 hS3 => ?_)
  obtain ⟨q, I, J, B, G⟩ := u
  obtain ⟨PM, -, DM0⟩ := hB
  rw [ht] at PM
  dsimp only at hw PM DM0
  have Y2 : pH D cCl (lA s) s.heap L f H2 locs2 := ⟨fun k x hk => (Y1.1 k x hk).kept (hk2 x.1 (Y1.1 k x hk).lt (fun h9 => h9.elim (fun h8 => absurd (Y.1 k x hk).lt (Nat.not_lt.mpr (h8 ▸ hh))) (fun h8 => absurd (Y1.1 k x hk).lt (Nat.not_lt.mpr h8)))), Y.2.1, hS3⟩
  have DM : va_D (lA s) (mW E2 h q I J B G) := DM0.weaken (fun k x hk h9 => hsub x.1 h9)
  have AP : ∀ (k : Nat) (x : Nat × va_E), (mW E2 h q I J B G)[k]? = some x → x.1 ∉ L := fun k x hk hm => (DM0.2 k x hk).elim (fun h8 => absurd (hlt _ hm) (Nat.not_lt.mpr (h8 ▸ hh))) (fun h8 => absurd (hlt _ hm) (Nat.not_lt.mpr (Nat.le_trans hS2.1 h8)))
  refine lv_astore_n (lv' := [(2, .ref h), (1, .ref xo), (0, .ref b)]) hx hb d_law_15 rfl hl (by decide) rfl (fun ls hl => ?_)
  refine lv_iconst (v := nI 0) hx hb d_law_16 (by decide) ?_
  refine lv_istore_n (lv' := [(3, .int (nI 0)), (2, .ref h), (1, .ref xo), (0, .ref b)]) hx hb d_law_17 rfl hl (by decide) rfl (fun ls hl => ?_)
  refine lv_iload_n hx hb d_law_18 rfl (lv_at hl 0 rfl) ?_
  refine lv_aload_n hx hb d_law_19 rfl (lv_at hl 3 rfl) ?_
  refine va_slen hx hb hX hbl hbA Y2.2.2 d_law_20 ?_
  refine lv_bipush (v := nI 8) hx hb d_law_21 (by decide) ?_
  refine lv_isub hx hb d_law_23 ?_
  refine W.widen (k := 1000) (n := 400000) (by decide) (by decide) ?_
  rcases Nat.lt_or_ge L0 8 with h8 | h8
  · refine lv_icmp_gt (tgt := 1074) hx hb d_law_24 (by decide) (fun c1 => ?_) (fun c1 => absurd ((show ∀ n, n < 8 → Int32.ofNat n - nI 8 < nI 0 by decide) L0 h8) c1)
    refine lv_iconst (v := 1) hx hb d_law_1074 (by decide) ?_
    refine va_forget (fun q hq => Y2.2.2.2.2 q hq) ?_
    refine W.widen (k := 600000) (n := 7302249) (by decide) (by decide) ?_
    exact lw_ret hx hb hr hlocks d_law_1075
  · obtain rfl : L0 = 8 := Nat.le_antisymm hL h8
    refine lv_icmp_gt (tgt := 1074) hx hb d_law_24 (by decide) (fun c1 => absurd c1 (by decide)) (fun c1 => ?_)
    refine lv_aload_n hx hb d_law_27 rfl (lv_at hl 3 rfl) ?_
    refine lv_iload_n hx hb d_law_28 rfl (lv_at hl 0 rfl) ?_
    refine va_sld hx hb hX hbl hbA Y2.2.2 (vp_in_nI (show 0 < 8 by decide) (by decide)) d_law_29 ?_
    refine lv_bipush (v := nI 31) hx hb d_law_30 (by decide) ?_
    refine lv_iand hx hb d_law_32 ?_
    obtain ⟨j, hj, ej⟩ := pk_andE (xs (nI 0).toNatClampNeg) (m := nI 31) 5 (by decide)
    refine t_eq ej ?_
    have hj : j < 32 := hj
    refine law_sw hx hb j hj ?_ ?_ ?_ ?_ ?_ ?_ ?_ ?_ ?_ ?_ ?_ ?_ ?_ ?_ ?_ ?_ ?_ ?_ ?_ ?_ ?_ ?_ ?_ ?_ ?_ ?_ ?_ ?_ ?_
    · exact law_0 C0 X KS KR K2 (D2 := (D0, z, zv, fv)) Z2 R2 Y2 m_xo e_xo PM DM AP hw hl (c_H_feed l D E T L f H2.size (xs (nI 1).toNatClampNeg) (xs (nI 2).toNatClampNeg) (xs (nI 3).toNatClampNeg) (xs (nI 4).toNatClampNeg) (xs (nI 5).toNatClampNeg) xo tb tr v sb qb pa ga ce aa sa k_tr m_xo m_tb m_tr e_xo e_tb e_tr f_tr) (fun r u h9 => h9.2.2.elim (fun _ h => h.elim (fun _ h => h.2.2.2)))
    · exact law_1 C0 X KS KR K2 (D2 := (D0, z, zv, fv)) Z2 R2 Y2 m_xo e_xo PM DM AP hw hl (c_H_end l D E T L f H2.size (xs (nI 1).toNatClampNeg) xo tb tr v sb qb pa ga ce aa sa k_tr m_xo m_tb m_tr e_xo e_tb e_tr f_tr) (fun r u h9 => h9.2.2.elim (fun _ h => h.2))
    · exact law_2 C0 X KS KR K2 (D2 := (D0, z, zv, fv)) Z2 R2 Y2 m_xo e_xo PM DM AP hw hl (c_H_carry l D E T L f H2.size (xs (nI 1).toNatClampNeg) (xs (nI 2).toNatClampNeg) xo tb tr sb sr v qb pa ga ce aa sa k_tr k_sr m_xo m_tb m_tr m_sb m_sr e_xo e_tb e_tr e_sb e_sr f_tr f_sr ap_tb_sb ap_tr_sr) (fun r u h9 => h9.2.2.elim (fun _ h => h.elim (fun _ h => h.2.2.2)))
    · exact law_3 C0 X KS KR K2 (D2 := (D0, z, zv, fv)) Z2 R2 Y2 m_xo e_xo PM DM AP hw hl (c_H_out l D E T L f H2.size (xs (nI 1).toNatClampNeg) xo sb sr v tb qb pa ga ce aa sa k_sr m_xo m_sb m_sr e_xo e_sb e_sr f_sr) (fun r u h9 => h9.2.2.elim (fun _ h => h.elim (fun _ h => h.2.2.2)))
    · exact law_4 C0 X KS KR K2 (D2 := (D0, z, zv, fv)) Z2 R2 Y2 m_xo e_xo PM DM AP hw hl (c_H_clock l D E T L f H2.size (xs (nI 1).toNatClampNeg) xo v tb sb qb pa ga ce aa sa txo dro ho o se coo deo tu bq now ssz cat crw m_xo m_v e_xo e_v) (fun r u h9 => h9.2.2.elim (fun _ h => h.elim (fun _ h => h.elim (fun _ h => h.elim (fun _ h => h.2)))))
    · exact law_5 C0 X KS KR K2 (D2 := (D0, z, zv, fv)) Z2 R2 Y2 m_xo e_xo PM DM AP hw hl (c_H_seed l D E T L f H2.size xo tb tr v se sb qb pa ga ce aa sa txo dro ho o coo deo tu bq now ssz cat crw k_tr k_se m_xo m_tb m_tr m_v m_se e_xo e_tb e_tr e_v e_se f_tr f_se ap_se_tr.symm) (fun r u h9 => h9.2.2.elim (fun _ h => h.elim (fun _ h => h.elim (fun _ h => h.elim (fun _ h => h.elim (fun _ h => h.elim (fun _ h => h.elim (fun _ h => h.2.2.2.2.2.2))))))))
    · exact law_6 C0 X KS KR K2 (D2 := (D0, z, zv, fv)) Z2 R2 Y2 m_xo e_xo PM DM AP hw hl (c_H_principal l D E T L f H2.size (xs (nI 1).toNatClampNeg) xo pa pr tb tr v sb qb ga ce aa sa nb sno l18 l17 d18 d17 prd lif ren flg xpy k_tr k_pa m_xo m_pa m_pr m_tb m_tr e_xo e_pa e_pr e_tb e_tr f_tr ap_tr_pa.symm hw_wp hr_0) (fun r u h9 => h9.2.2.elim (fun _ h => h.elim (fun _ h => h.2.2.2)))
    · exact law_7 C0 X KS KR K2 (D2 := (D0, z, zv, fv)) Z2 R2 Y2 m_xo e_xo PM DM AP hw hl (c_H_change l D E T L f H2.size (xs (nI 1).toNatClampNeg) (xs (nI 2).toNatClampNeg) xo tb tr pa pr nb nr v ho wd bl hst inn out mac o tw ke sta mo tu bq r sb qb ga ce aa sa sno l18 l17 d18 d17 txo dro se coo deo un kp nn fl rd bn prd lif ren flg xpy now ssz cat crw tot k_tr k_nr k_wd k_bl k_hst k_inn k_out k_mac k_tw k_ke k_sta k_mo k_tu k_r k_pa m_xo m_tb m_tr m_pa m_pr m_nb m_nr m_v m_ho m_wd m_bl m_hst m_inn m_out m_mac m_o m_tw m_ke m_sta m_mo m_tu m_b m_r e_xo e_tb e_tr e_pa e_pr e_nb e_nr e_v e_ho e_wd e_bl e_hst e_inn e_out e_mac e_o e_tw e_ke e_sta e_mo e_tu e_b e_r f_tr f_nr f_bl f_mac f_tw f_ke f_sta f_mo f_tu f_r ap_tb_nb ap_b_tb.symm ap_tr_pa ap_tr_nr ap_wd_tr.symm ap_bl_tr.symm ap_hst_tr.symm ap_inn_tr.symm ap_out_tr.symm ap_mac_tr.symm ap_tw_tr.symm ap_ke_tr.symm ap_sta_tr.symm ap_mo_tr.symm ap_tu_tr.symm ap_r_tr.symm ap_pa_nr ap_wd_pa.symm ap_bl_pa.symm ap_hst_pa.symm ap_inn_pa.symm ap_out_pa.symm ap_mac_pa.symm ap_tw_pa.symm ap_ke_pa.symm ap_sta_pa.symm ap_mo_pa.symm ap_tu_pa.symm ap_r_pa.symm ap_b_nb.symm ap_wd_nr.symm ap_bl_nr.symm ap_hst_nr.symm ap_inn_nr.symm ap_out_nr.symm ap_mac_nr.symm ap_tw_nr.symm ap_ke_nr.symm ap_sta_nr.symm ap_mo_nr.symm ap_tu_nr.symm ap_r_nr.symm ap_wd_bl ap_wd_hst ap_wd_inn ap_wd_out ap_wd_mac ap_wd_tw ap_wd_ke ap_wd_sta ap_wd_mo ap_wd_tu ap_wd_r ap_bl_hst ap_bl_inn ap_bl_out ap_bl_mac ap_bl_tw ap_bl_ke ap_bl_sta ap_bl_mo ap_bl_tu ap_bl_r ap_hst_inn ap_hst_out ap_hst_mac ap_hst_tw ap_hst_ke ap_hst_sta ap_hst_mo ap_hst_tu ap_hst_r ap_inn_out ap_inn_mac ap_inn_tw ap_inn_ke ap_inn_sta ap_inn_mo ap_inn_tu ap_inn_r ap_out_mac ap_out_tw ap_out_ke ap_out_sta ap_out_mo ap_out_tu ap_out_r ap_mac_tw ap_mac_ke ap_mac_sta ap_mac_mo ap_mac_tu ap_mac_r ap_tw_ke ap_tw_sta ap_tw_mo ap_tw_tu ap_tw_r ap_ke_sta ap_ke_mo ap_ke_tu ap_ke_r ap_sta_mo ap_sta_tu ap_sta_r ap_mo_tu ap_mo_r ap_tu_r hw_wp hr_0 hr_1 hr_2 hr_3 hr_4) (fun r u h9 => h9.2.2.elim (fun _ h => h.elim (fun _ h => h.elim (fun _ h => h.elim (fun _ h => h.elim (fun _ h => h.elim (fun _ h => h.elim (fun _ h => h.elim (fun _ h => h.elim (fun _ h => h.elim (fun _ h => h.elim (fun _ h => h.elim (fun _ h => h.elim (fun _ h => h.elim (fun _ h => h.elim (fun _ h => h.elim (fun _ h => h.elim (fun _ h => h.elim (fun _ h => h.elim (fun _ h => h.elim (fun _ h => h.elim (fun _ h => h.elim (fun _ h => h.elim (fun _ h => h.elim (fun _ h => h.elim (fun _ h => h.elim (fun _ h => h.elim (fun _ h => h.2.2.2.2.2.2.2.2.2.2.2.2.2.2.2.2.2.2.2.2.2.2.2.2.2))))))))))))))))))))))))))))
    · exact law_8 C0 X KS KR K2 (D2 := (D0, z, zv, fv)) Z2 R2 Y2 m_xo e_xo PM DM AP hw hl (c_H_policy l D E T L f H2.size (xs (nI 1).toNatClampNeg) (xs (nI 2).toNatClampNeg) (xs (nI 3).toNatClampNeg) xo pa pr v tb sb qb ga ce aa sa nb sno l18 l17 d18 d17 prd lif ren flg xpy k_pa m_xo m_pa m_pr e_xo e_pa e_pr hw_wp hr_0) (fun r u h9 => h9.2.2.elim (fun _ h => h.elim (fun _ h => h.elim (fun _ h => h.elim (fun _ h => h.elim (fun _ h => h.elim (fun _ h => h.elim (fun _ h => h.2))))))))
    · exact law_9 C0 X KS KR K2 (D2 := (D0, z, zv, fv)) Z2 R2 Y2 m_xo e_xo PM DM AP hw hl (c_H_room l D E T L f H2.size (xs (nI 1).toNatClampNeg) xo ga v tb sb qb pa ce aa sa v gpo gqo gko mst m_xo m_ga e_xo e_ga) (fun r u h9 => h9.2.2.elim (fun _ h => h.2))
    · exact law_10 C0 X KS KR K2 (D2 := (D0, z, zv, fv)) Z2 R2 Y2 m_xo e_xo PM DM AP hw hl (c_H_kdc l D E T L f H2.size xo ce tb tr sb sr v pa pr nb nr qb ga aa sa cso cl1 cl2 txo dro ho o se coo deo tu bq sno l18 l17 d18 d17 nn ce_initial ce_read ce_body ce_options ce_etype ce_flags ce_endTime ce_renewTill now ssz cat crw prd lif ren flg xpy k_tr k_sr k_nr k_pa m_xo m_ce m_tb m_tr m_sb m_sr m_v m_pa m_pr m_nb m_nr e_xo e_ce e_tb e_tr e_sb e_sr e_v e_pa e_pr e_nb e_nr f_tr f_sr f_nr ap_tb_sb ap_tb_nb ap_tr_sr ap_tr_pa ap_tr_nr ap_sb_nb ap_sr_pa ap_sr_nr ap_pa_nr hr_0 hr_1) (fun r u h9 => h9.2.2.elim (fun _ h => h.elim (fun _ h => h.elim (fun _ h => h.elim (fun _ h => h.2.2.2.2.2.2.2)))))
    · exact law_11 C0 X KS KR K2 (D2 := (D0, z, zv, fv)) Z2 R2 Y2 m_xo e_xo PM DM AP hw hl (c_H_agent l D E T L f H2.size (xs (nI 1).toNatClampNeg) (xs (nI 2).toNatClampNeg) xo tb tr v sb qb pa ga ce aa sa k_tr m_xo m_tb m_tr e_xo e_tb e_tr f_tr) (fun r u h9 => h9.2.2.elim (fun _ h => h.elim (fun _ h => h.2.2.2)))
    · exact law_12 C0 X KS KR K2 (D2 := (D0, z, zv, fv)) Z2 R2 Y2 m_xo e_xo PM DM AP hw hl (c_H_shift l D E T L f H2.size (xs (nI 1).toNatClampNeg) (xs (nI 2).toNatClampNeg) xo aa v tb sb qb pa ga ce sa k_aa m_xo m_aa e_xo e_aa hw_wa) (fun r u h9 => h9.2.2)
    · exact law_13 C0 X KS KR K2 (D2 := (D0, z, zv, fv)) Z2 R2 Y2 m_xo e_xo PM DM AP hw hl (c_H_request l D E T L f H2.size (xs (nI 1).toNatClampNeg) (xs (nI 2).toNatClampNeg) (xs (nI 3).toNatClampNeg) (xs (nI 4).toNatClampNeg) (xs (nI 5).toNatClampNeg) (xs (nI 6).toNatClampNeg) (xs (nI 7).toNatClampNeg) xo aa tb tr v sb qb pa ga ce sa k_tr k_aa m_xo m_aa m_tb m_tr e_xo e_aa e_tb e_tr f_tr ap_tr_aa.symm hw_wa) (fun r u h9 => h9.2.2.elim (fun _ h => h.elim (fun _ h => h.2.2.2)))
    · exact law_14 C0 X KS KR K2 (D2 := (D0, z, zv, fv)) Z2 R2 Y2 m_xo e_xo PM DM AP hw hl (c_H_take l D E T L f H2.size (xs (nI 1).toNatClampNeg) xo aa tb tr v sb qb pa ga ce sa k_tr k_aa m_xo m_aa m_tb m_tr e_xo e_aa e_tb e_tr f_tr ap_tr_aa.symm hw_wa) (fun r u h9 => h9.2.2.elim (fun _ h => h.elim (fun _ h => h.2.2.2)))
    · exact law_15 C0 X KS KR K2 (D2 := (D0, z, zv, fv)) Z2 R2 Y2 m_xo e_xo PM DM AP hw hl (c_H_ticket l D E T L f H2.size (xs (nI 1).toNatClampNeg) (xs (nI 2).toNatClampNeg) (xs (nI 3).toNatClampNeg) xo aa v tb sb qb pa ga ce sa k_aa m_xo m_aa e_xo e_aa hw_wa) (fun r u h9 => h9.2.2)
    · exact law_16 C0 X KS KR K2 (D2 := (D0, z, zv, fv)) Z2 R2 Y2 m_xo e_xo PM DM AP hw hl (c_H_drop l D E T L f H2.size (xs (nI 1).toNatClampNeg) (xs (nI 2).toNatClampNeg) xo aa v tb sb qb pa ga ce sa k_aa m_xo m_aa e_xo e_aa hw_wa) (fun r u h9 => h9.2.2)
    · exact law_17 C0 X KS KR K2 (D2 := (D0, z, zv, fv)) Z2 R2 Y2 m_xo e_xo PM DM AP hw hl (c_H_present l D E T L f H2.size (xs (nI 1).toNatClampNeg) (xs (nI 2).toNatClampNeg) (xs (nI 3).toNatClampNeg) xo aa v tb sb qb pa ga ce sa k_aa m_xo m_aa e_xo e_aa hw_wa) (fun r u h9 => h9.2.2)
    · exact law_18 C0 X KS KR K2 (D2 := (D0, z, zv, fv)) Z2 R2 Y2 m_xo e_xo PM DM AP hw hl (c_H_serve l D E T L f H2.size (xs (nI 1).toNatClampNeg) xo tb tr sb sr v ga pa pr nb nr sa qb ce aa txo dro ho o se coo deo tu bq gpo gqo gko sno l18 l17 d18 d17 nn now ssz cat crw mst prd lif ren flg xpy k_tr k_sr k_nr k_pa k_sa m_xo m_tb m_tr m_sb m_sr m_v m_ga m_pa m_pr m_nb m_nr m_sa e_xo e_tb e_tr e_sb e_sr e_v e_ga e_pa e_pr e_nb e_nr e_sa f_tr f_sr f_nr ap_tb_sb ap_tb_nb ap_tr_sr ap_tr_pa ap_tr_nr ap_tr_sa ap_sb_nb ap_sr_pa ap_sr_nr ap_sr_sa ap_pa_nr ap_pa_sa ap_nr_sa hw_wp hw_ws hr_0 hr_1) (fun r u h9 => h9.2.2.elim (fun _ h => h.elim (fun _ h => h.elim (fun _ h => h.elim (fun _ h => h.2.2.2.2.2.2)))))
    · exact law_19 C0 X KS KR K2 (D2 := (D0, z, zv, fv)) Z2 R2 Y2 m_xo e_xo PM DM AP hw hl (c_H_met l D E T L f H2.size (xs (nI 1).toNatClampNeg) xo aa tb tr v sb qb pa ga ce sa k_tr k_aa m_xo m_aa m_tb m_tr e_xo e_aa e_tb e_tr f_tr ap_tr_aa.symm hw_wa) (fun r u h9 => h9.2.2.elim (fun _ h => h.elim (fun _ h => h.2.2.2)))
    · exact law_20 C0 X KS KR K2 (D2 := (D0, z, zv, fv)) Z2 R2 Y2 m_xo e_xo PM DM AP hw hl (c_H_joins l D E T L f H2.size (xs (nI 1).toNatClampNeg) (xs (nI 2).toNatClampNeg) xo sa v tb sb qb pa ga ce aa k_sa m_xo m_sa e_xo e_sa hw_ws) (fun r u h9 => h9.2.2)
    · exact law_21 C0 X KS KR K2 (D2 := (D0, z, zv, fv)) Z2 R2 Y2 m_xo e_xo PM DM AP hw hl (c_H_send l D E T L f H2.size (xs (nI 1).toNatClampNeg) (xs (nI 2).toNatClampNeg) xo sa tb tr v sb qb pa ga ce aa k_tr k_sa m_xo m_sa m_tb m_tr e_xo e_sa e_tb e_tr f_tr ap_tr_sa.symm hw_ws) (fun r u h9 => h9.2.2.elim (fun _ h => h.elim (fun _ h => h.2.2.2)))
    · exact law_22 C0 X KS KR K2 (D2 := (D0, z, zv, fv)) Z2 R2 Y2 m_xo e_xo PM DM AP hw hl (c_H_receive l D E T L f H2.size (xs (nI 1).toNatClampNeg) (xs (nI 2).toNatClampNeg) xo sa tb tr v sb qb pa ga ce aa k_tr k_sa m_xo m_sa m_tb m_tr e_xo e_sa e_tb e_tr f_tr ap_tr_sa.symm hw_ws) (fun r u h9 => h9.2.2.elim (fun _ h => h.elim (fun _ h => h.2.2.2)))
    · exact law_23 C0 X KS KR K2 (D2 := (D0, z, zv, fv)) Z2 R2 Y2 m_xo e_xo PM DM AP hw hl (c_H_ends l D E T L f H2.size (xs (nI 1).toNatClampNeg) xo sa v tb sb qb pa ga ce aa k_sa m_xo m_sa e_xo e_sa hw_ws) (fun r u h9 => h9.2.2)
    · exact law_24 C0 X KS KR K2 (D2 := (D0, z, zv, fv)) Z2 R2 Y2 m_xo e_xo PM DM AP hw hl (c_H_assure l D E T L f H2.size (xs (nI 1).toNatClampNeg) (xs (nI 2).toNatClampNeg) xo sa tb tr v sb qb pa ga ce aa k_tr k_sa m_xo m_sa m_tb m_tr e_xo e_sa e_tb e_tr f_tr ap_tr_sa.symm hw_ws) (fun r u h9 => h9.2.2.elim (fun _ h => h.elim (fun _ h => h.2.2.2)))
    · exact law_25 C0 X KS KR K2 (D2 := (D0, z, zv, fv)) Z2 R2 Y2 m_xo e_xo PM DM AP hw hl (c_H_assured l D E T L f H2.size (xs (nI 1).toNatClampNeg) (xs (nI 2).toNatClampNeg) xo sa tb tr v sb qb pa ga ce aa k_tr k_sa m_xo m_sa m_tb m_tr e_xo e_sa e_tb e_tr f_tr ap_tr_sa.symm hw_ws) (fun r u h9 => h9.2.2.elim (fun _ h => h.elim (fun _ h => h.2.2.2)))
    · exact law_26 C0 X KS KR K2 (D2 := (D0, z, zv, fv)) Z2 R2 Y2 m_xo e_xo PM DM AP hw hl (c_H_hand l D E T L f H2.size (xs (nI 1).toNatClampNeg) (xs (nI 2).toNatClampNeg) xo sa v tb sb qb pa ga ce aa k_sa m_xo m_sa e_xo e_sa hw_ws) (fun r u h9 => h9.2.2)
    · exact law_27 C0 X KS KR K2 (D2 := (D0, z, zv, fv)) Z2 R2 Y2 m_xo e_xo PM DM AP hw hl (c_H_handed l D E T L f H2.size (xs (nI 1).toNatClampNeg) (xs (nI 2).toNatClampNeg) xo sa tb tr v sb qb pa ga ce aa k_tr k_sa m_xo m_sa m_tb m_tr e_xo e_sa e_tb e_tr f_tr ap_tr_sa.symm hw_ws) (fun r u h9 => h9.2.2.elim (fun _ h => h.elim (fun _ h => h.2.2.2)))
    · exact law_end C0 Y2.2.2 hl (by decide) (by decide)
