theorem tk_t {pf : p4} {v : fl} {p f q : Nat} {c : Int32} (h : hearB (tkK pf v p f c q) q p = true) : tkK pf v p f c (q + 1) = hr1 pf f c (tkK pf v p f c q) q := if_pos h
theorem tk_f {pf : p4} {v : fl} {p f q : Nat} {c : Int32} (h : hearB (tkK pf v p f c q) q p = false) : tkK pf v p f c (q + 1) = tkK pf v p f c q := if_neg (by rw [h]; decide)
theorem votK_gr {v : fl} {i f : Nat} {c x : Int32} (hi : i < 19) : ∀ k, votK (upd v i x) f c k = votK v f c k
  | 0 => rfl
  | k + 1 => by
    unfold votK
    rw [votK_gr hi k, show th (upd v i x) k f = th v k f from pk_un (by omega), show kd (upd v i x) k = kd v k from pk_un (by omega)]
theorem vot_gr {v : fl} {i f : Nat} {c x : Int32} (hi : 1 < i ∧ i < 19) : vot (upd v i x) f c = vot v f c := by
  unfold vot
  rw [votK_gr hi.2, show pn (upd v i x) = pn v from by show (upd v i x 1).toNatClampNeg = _; rw [pk_un (by omega)]; rfl]
set_option maxRecDepth 100000 in
set_option maxHeartbeats 4000000 in
theorem kC_think (E : ev) (Mz : mm) {c p f : Nat} {x : Int32} (hc : CB c) (hp : p < 8) (hf : f < 6) : Ct E 0 yX0_think cX0_think 4 none [.inr c, .inl (nI p), .inl (nI f), .inl x] Mz (qV E (fun M' => M' = wr Mz (c + 5) (p * 6 + f) x)) := by
  refine ct_of (by decide) (Nat.le_of_ble_eq_true rfl) ?_
  show V E 0 _ _ _ _ _ 0 [some (.inr c), some (.inl (nI p)), some (.inl (nI f)), some (.inl x)] [] Mz
  refine v_ald0 dX0_think_0 ?_
  refine v_getr dX0_think_1 gX0_24 (shC hc) rfl ?_
  refine v_ild1 dX0_think_4 ?_
  refine v_bipushN (n := 6) dX0_think_5 (by decide) ?_
  refine v_imulN dX0_think_7 ?_
  refine v_ild2 dX0_think_8 ?_
  refine v_iaddN dX0_think_9 ?_
  refine v_ild3 dX0_think_10 ?_
  refine v_iastN dX0_think_11 (shC5 hc) (by omega) (by decide) ?_
  exact v_vret dX0_think_12 rfl (rfl)
set_option maxRecDepth 100000 in
set_option maxHeartbeats 4000000 in
theorem kC_draw (E : ev) (Mz : mm) {c : Nat} (hc : CB c) : Ct E 0 yX0_draw cX0_draw 1 (some .int) [.inr c] Mz (qI E (fun r M' => r = nI (dN (cv Mz c 0)) ∧ M' = wr Mz c 13 (drw (cv Mz c 0)))) := by
  refine ct_of (by decide) (Nat.le_of_ble_eq_true rfl) ?_
  show V E 0 _ _ _ _ _ 0 [some (.inr c)] [] Mz
  refine v_ald0 dX0_draw_0 ?_
  refine v_ald0 dX0_draw_1 ?_
  refine v_geti dX0_draw_2 gX0_33 (shC hc) rfl ?_
  refine v_ldc dX0_draw_5 kX0_79 ?_
  refine v_imul dX0_draw_7 ?_
  refine v_sipushN (n := 12345) dX0_draw_8 (by decide +kernel) ?_
  refine v_iadd dX0_draw_11 ?_
  refine v_puti dX0_draw_12 pX0_33 (shC hc) rfl rfl rfl ?_
  refine v_ald0 dX0_draw_15 ?_
  refine v_geti dX0_draw_16 gX0_33 (shC hc) rfl ?_
  refine v_eq (show _ = drw (cv Mz c 0) from by rw [wr_at, pk_us]; rfl) ?_
  refine v_bipushN (n := 8) dX0_draw_19 (by decide) ?_
  refine v_iushr dX0_draw_21 ?_
  exact v_iret dX0_draw_22 rfl (⟨dr_eq _, rfl⟩)
set_option maxRecDepth 100000 in
set_option maxHeartbeats 4000000 in
theorem kC_speak (E : ev) (Mz : mm) {c p W T : Nat} {tt : Nat → tx} (hc : CB c) (hp : p < 8) (hI : CI (cv Mz c) W) (hW : W < 2 ^ 24) (hT : TxC Mz c tt T) : Ct E 5 yX0_speak cX0_speak 6 none [.inr c, .inl (nI p)] Mz (qV E (fun M' => cv M' c = talk (pfT tt T) (cv Mz c) p ∧ FrC c Mz M')) := by
  refine ct_of (by decide) (Nat.le_of_ble_eq_true rfl) ?_
  show V E 5 _ _ _ _ _ 0 [some (.inr c), some (.inl (nI p)), none, none, none, none] [] Mz
  have hwk : Mz c 12 = nI (cv Mz c 2).toNatClampNeg ∧ (cv Mz c 2).toNatClampNeg < W := hI.2.2.2.1.eq (by omega)
  have hp8 := hI.pn.2
  have hcb := hc.ge
  have hf6 : (((cv Mz c 2).toNatClampNeg + p) % 6) < 6 := Nat.mod_lt _ (by decide)
  have hcrin := says_in hI hp hf6
  refine v_ald0 dX0_speak_0 ?_
  refine v_geti dX0_speak_1 gX0_62 (shC hc) rfl ?_
  refine v_eq (hwk.1) ?_
  refine v_ild1 dX0_speak_4 ?_
  refine v_iaddN dX0_speak_5 ?_
  refine v_bipushN (n := 6) dX0_speak_6 (by decide) ?_
  refine v_iremN dX0_speak_8 (by omega) (by omega) (by omega) ?_
  refine v_ist2 dX0_speak_9 (by decide) ?_
  refine v_ald0 dX0_speak_10 ?_
  refine v_ild1 dX0_speak_11 ?_
  refine v_ild2 dX0_speak_12 ?_
  refine v_callVi (kC_wordOf E Mz hc hp hf6 hI) dX0_speak_13 cX0_142 rfl (shC hc) rfl (by decide) (Nat.le_of_ble_eq_true rfl) rfl (fun r M1z hq => ?_)
  obtain ⟨hr, hm⟩ := hq
  rw [hr, hm]
  clear hr hm
  refine v_ist3 dX0_speak_16 (by decide) ?_
  refine v_ild3 dX0_speak_17 ?_
  refine v_if_ne (tgt := 22) dX0_speak_18 (by decide) (fun h18 => ?_) (fun h18 => ?_)
  · have hcr0 : (says (cv Mz c) p (((cv Mz c 2).toNatClampNeg + p) % 6)) ≠ 0 := h18
    refine v_iconstN (n := 0) dX0_speak_22 ?_
    refine v_ist4 dX0_speak_23 (by decide) ?_
    refine v_loopP (pc := 25) (fun k _ => [some (.inr c), some (.inl (nI p)), some (.inl (nI (((cv Mz c 2).toNatClampNeg + p) % 6))), some (.inl (says (cv Mz c) p (((cv Mz c 2).toNatClampNeg + p) % 6))), some (.inl (nI k)), none]) (fun k Mk => cv Mk c = tkK (pfT tt T) (cv Mz c) p (((cv Mz c 2).toNatClampNeg + p) % 6) (says (cv Mz c) p (((cv Mz c 2).toNatClampNeg + p) % 6)) k ∧ FrC c Mz Mk) (pn (cv Mz c)) (rfl) (⟨rfl, FrC.rf c Mz⟩) (fun k Mk hk hM ih => ?_) (fun Mk hM => ?_)
    · obtain ⟨hv, hfr⟩ := hM
      obtain ⟨hIu, hKu⟩ := tk_ok (p := p) (pfT_ok tt T) hI hf6 hcrin k (by omega)
      rw [← hv] at hIu hKu
      have hpu : Mk c 1 = nI (pn (cv Mz c)) := hKu.2.1.trans hI.pn.1
      have hTu : TxC Mk c tt T := hT.fr hc hfr hKu.2.2.2.2.2
      have hk8 : k < 8 := by omega
      refine v_ild4 dX0_speak_25 ?_
      refine v_ald0 dX0_speak_27 ?_
      refine v_geti dX0_speak_28 gX0_44 (shC hc) rfl ?_
      refine v_eq (hpu) ?_
      refine v_icmpN_ge (tgt := 130) dX0_speak_31 (by decide) (by omega) (by omega) (fun h31 => absurd h31 (by omega)) (fun h31 => ?_)
      refine v_ald0 dX0_speak_34 ?_
      refine v_ild4 dX0_speak_35 ?_
      refine v_ild1 dX0_speak_37 ?_
      refine v_callVi (kC_hears E Mk hc hk8 hp) dX0_speak_38 cX0_90 rfl (shC hc) rfl (by decide) (Nat.le_of_ble_eq_true rfl) rfl (fun r M1z hq => ?_)
      obtain ⟨hr, hm⟩ := hq
      rw [hr, hm]
      clear hr hm
      refine v_if_ne (tgt := 47) dX0_speak_41 (by decide) (fun h41 => ?_) (fun h41 => ?_)
      · refine v_ald0 dX0_speak_47 ?_
        refine v_ild4 dX0_speak_48 ?_
        refine v_ild2 dX0_speak_50 ?_
        refine v_ild3 dX0_speak_51 ?_
        refine v_callVi (kC_heedOf E Mk hc hk8 hf6 hIu hTu hcr0) dX0_speak_52 cX0_145 rfl (shC hc) rfl (by decide) (Nat.le_of_ble_eq_true rfl) rfl (fun r M1z hq => ?_)
        obtain ⟨hr, hm⟩ := hq
        have hcm := cv_scr hc hm
        rw [hr]
        refine v_ist5 dX0_speak_55 (by decide) ?_
        refine v_ild5 dX0_speak_57 ?_
        refine v_ald0 dX0_speak_59 ?_
        refine v_getr dX0_speak_60 gX0_21 (shC hc) rfl ?_
        refine v_ild4 dX0_speak_63 ?_
        refine v_ialdN dX0_speak_65 (shC4 hc) (by omega) (by decide) ?_
        refine v_eq (show _ = su (cv Mk c) k from by rw [← hcm]; exact (cv_su _ c hk8).symm) ?_
        refine v_icmp_le (tgt := 104) dX0_speak_66 (by decide) (fun h66 => ?_) (fun h66 => ?_)
        · refine v_ald0 dX0_speak_104 ?_
          refine v_getr dX0_speak_105 gX0_21 (shC hc) rfl ?_
          refine v_ild4 dX0_speak_108 ?_
          refine v_ald0 dX0_speak_110 ?_
          refine v_getr dX0_speak_111 gX0_21 (shC hc) rfl ?_
          refine v_ild4 dX0_speak_114 ?_
          refine v_ialdN dX0_speak_116 (shC4 hc) (by omega) (by decide) ?_
          refine v_eq (show _ = su (cv Mk c) k from by rw [← hcm]; exact (cv_su _ c hk8).symm) ?_
          refine v_iconstN (n := 1) dX0_speak_117 ?_
          refine v_isub dX0_speak_118 ?_
          refine v_iconstN (n := 0) dX0_speak_119 ?_
          refine v_mmax dX0_speak_120 mX0_151 (by decide) (Nat.le_of_ble_eq_true rfl) ?_
          refine v_iastN dX0_speak_123 (shC4 hc) (by omega) (by decide) ?_
          refine v_iincN4 (n := 1) dX0_speak_124 (by decide) ?_
          refine v_goto (tgt := 25) dX0_speak_127 (by decide) ?_
          refine v_fg5 ?_
          exact ih _ ⟨by rw [cv_usu hk8, hcm, tk_t (by rw [← hv]; exact b2_1.mp h41), ← hv]; unfold hr1; rw [if_neg (Int32.not_lt.mpr h66)], (hfr.tr (FrC.scr hm)).tr (FrC.w _ (by omega))⟩
        · refine v_ald0 dX0_speak_69 ?_
          refine v_ild4 dX0_speak_70 ?_
          refine v_ild2 dX0_speak_72 ?_
          refine v_ild3 dX0_speak_73 ?_
          refine v_callVv (kC_think E _ hc hk8 hf6) dX0_speak_74 cX0_68 rfl (shC hc) rfl (by decide) (Nat.le_of_ble_eq_true rfl) rfl (fun M2z hq2 => ?_)
          rw [hq2]
          clear hq2
          refine v_ald0 dX0_speak_77 ?_
          refine v_getr dX0_speak_78 gX0_21 (shC hc) rfl ?_
          refine v_ild4 dX0_speak_81 ?_
          refine v_ild5 dX0_speak_83 ?_
          refine v_bipushN (n := 99) dX0_speak_85 (by decide) ?_
          refine v_mmin dX0_speak_87 mX0_148 (by decide) (Nat.le_of_ble_eq_true rfl) ?_
          refine v_iastN dX0_speak_90 (shC4 hc) (by omega) (by decide) ?_
          refine v_ald0 dX0_speak_91 ?_
          refine v_dup dX0_speak_92 ?_
          refine v_geti dX0_speak_93 gX0_59 (shC hc) rfl ?_
          refine v_eq (show _ = cv Mk c 5 from by rw [wr_ne (by omega), wr_ne (by omega), ← hcm]; rfl) ?_
          refine v_iconstN (n := 1) dX0_speak_96 ?_
          refine v_iadd dX0_speak_97 ?_
          refine v_puti dX0_speak_98 pX0_59 (shC hc) rfl rfl rfl ?_
          refine v_goto (tgt := 124) dX0_speak_101 (by decide) ?_
          refine v_iincN4 (n := 1) dX0_speak_124 (by decide) ?_
          refine v_goto (tgt := 25) dX0_speak_127 (by decide) ?_
          refine v_fg5 ?_
          exact ih _ ⟨by rw [cv_uch, cv_usu hk8, cv_uth hk8 hf6, hcm, tk_t (by rw [← hv]; exact b2_1.mp h41), ← hv]; unfold hr1; rw [if_pos (Int32.not_le.mp h66)], (((hfr.tr (FrC.scr hm)).tr (FrC.w _ (by omega))).tr (FrC.w _ (by omega))).tr (FrC.w _ (by omega))⟩
      · refine v_goto (tgt := 124) dX0_speak_44 (by decide) ?_
        refine v_iincN4 (n := 1) dX0_speak_124 (by decide) ?_
        refine v_goto (tgt := 25) dX0_speak_127 (by decide) ?_
        refine v_fg5 ?_
        exact ih _ ⟨by rw [hv, tk_f (by rw [← hv]; exact b2_0.mp h41)], hfr⟩
    · obtain ⟨hv, hfr⟩ := hM
      have hKu := (tk_ok (p := p) (pfT_ok tt T) hI hf6 hcrin (pn (cv Mz c)) hI.pn.2).2
      rw [← hv] at hKu
      have hpu : Mk c 1 = nI (pn (cv Mz c)) := hKu.2.1.trans hI.pn.1
      refine v_ild4 dX0_speak_25 ?_
      refine v_ald0 dX0_speak_27 ?_
      refine v_geti dX0_speak_28 gX0_44 (shC hc) rfl ?_
      refine v_eq (hpu) ?_
      refine v_icmpN_ge (tgt := 130) dX0_speak_31 (by decide) (by omega) (by omega) (fun h31 => ?_) (fun h31 => absurd h31 (by omega))
      exact v_vret dX0_speak_130 rfl (⟨by rw [hv]; unfold talk; rw [if_neg hcr0], hfr⟩)
  · exact v_vret dX0_speak_21 rfl (⟨by unfold talk; rw [if_pos h18], FrC.rf c Mz⟩)
set_option maxRecDepth 100000 in
set_option maxHeartbeats 4000000 in
theorem kC_look (E : ev) (Mz : mm) {c W : Nat} (hc : CB c) (hI : CI (cv Mz c) W) : Ct E 1 yX0_lookFromTheRoad cX0_lookFromTheRoad 4 none [.inr c] Mz (qV E (fun M' => cv M' c = road (cv Mz c) ∧ FrC c Mz M')) := by
  refine ct_of (by decide) (Nat.le_of_ble_eq_true rfl) ?_
  show V E 1 _ _ _ _ _ 0 [some (.inr c), none, none, none] [] Mz
  have hcb := hc.ge
  have hp8 := hI.pn.2
  have hd1 := dN_lt (cv Mz c 0)
  have hd2 := dN_lt (drw (cv Mz c 0))
  have hf6 : (dN (drw (cv Mz c 0)) % 6) < 6 := Nat.mod_lt _ (by decide)
  have hI2 : CI (upd (cv Mz c) 0 (drw (drw (cv Mz c 0)))) W := CI_upd0 hI (Or.inl rfl)
  refine v_ald0 dX0_lookFromTheRoad_0 ?_
  refine v_callVi (kC_draw E Mz hc) dX0_lookFromTheRoad_1 cX0_72 rfl (shC hc) rfl (by decide) (Nat.le_of_ble_eq_true rfl) rfl (fun r M1z hq => ?_)
  obtain ⟨hr, hm⟩ := hq
  rw [hr, hm]
  clear hr hm
  refine v_bipushN (n := 8) dX0_lookFromTheRoad_4 (by decide) ?_
  refine v_iremN dX0_lookFromTheRoad_6 (by omega) (by omega) (by omega) ?_
  refine v_ist1 dX0_lookFromTheRoad_7 (by decide) ?_
  refine v_ald0 dX0_lookFromTheRoad_8 ?_
  refine v_callVi (kC_draw E _ hc) dX0_lookFromTheRoad_9 cX0_72 rfl (shC hc) rfl (by decide) (Nat.le_of_ble_eq_true rfl) rfl (fun r M1z hq => ?_)
  obtain ⟨hr, hm⟩ := hq
  rw [hr, hm, cv_uz, pk_us]
  clear hr hm
  refine v_bipushN (n := 6) dX0_lookFromTheRoad_12 (by decide) ?_
  refine v_iremN dX0_lookFromTheRoad_14 (by omega) (by omega) (by omega) ?_
  refine v_ist2 dX0_lookFromTheRoad_15 (by decide) ?_
  refine v_ald0 dX0_lookFromTheRoad_16 ?_
  refine v_getr dX0_lookFromTheRoad_17 gX0_27 (shC hc) rfl ?_
  refine v_ild2 dX0_lookFromTheRoad_20 ?_
  refine v_ialdN dX0_lookFromTheRoad_21 (shC6 hc) (by omega) (by decide) ?_
  refine v_eq (show _ = sw (cv Mz c) (dN (drw (cv Mz c 0)) % 6) from by rw [wr_ne (by omega), wr_ne (by omega)]; exact (cv_sw Mz c hf6).symm) ?_
  refine v_if_ne (tgt := 26) dX0_lookFromTheRoad_22 (by decide) (fun h22 => ?_) (fun h22 => ?_)
  · refine v_iconstN (n := 0) dX0_lookFromTheRoad_26 ?_
    refine v_ist3 dX0_lookFromTheRoad_27 (by decide) ?_
    refine v_loopP (pc := 28) (fun k _ => [some (.inr c), some (.inl (nI (dN (cv Mz c 0) % 8))), some (.inl (nI (dN (drw (cv Mz c 0)) % 6))), some (.inl (nI k))]) (fun k Mk => cv Mk c = rdK (upd (cv Mz c) 0 (drw (drw (cv Mz c 0)))) (dN (cv Mz c 0) % 8) (dN (drw (cv Mz c 0)) % 6) k ∧ FrC c Mz Mk) (pn (cv Mz c)) (rfl) (⟨by rw [cv_uz, cv_uz, upd_same]; rfl, (FrC.w Mz (by omega)).tr (FrC.w _ (by omega))⟩) (fun k Mk hk hM ih => ?_) (fun Mk hM => ?_)
    · obtain ⟨hv, hfr⟩ := hM
      obtain ⟨hIu, hKu, hlo⟩ := rd_ok (wh := (dN (cv Mz c 0) % 8)) hI2 hf6 k (by omega)
      rw [← hv] at hIu hKu
      have hpu : Mk c 1 = nI (pn (cv Mz c)) := (hKu.2.1.trans (pk_un (by decide))).trans hI.pn.1
      have hk8 : k < 8 := by omega
      refine v_ild3 dX0_lookFromTheRoad_28 ?_
      refine v_ald0 dX0_lookFromTheRoad_29 ?_
      refine v_geti dX0_lookFromTheRoad_30 gX0_44 (shC hc) rfl ?_
      refine v_eq (hpu) ?_
      refine v_icmpN_ge (tgt := 64) dX0_lookFromTheRoad_33 (by decide) (by omega) (by omega) (fun h33 => absurd h33 (by omega)) (fun h33 => ?_)
      refine v_ald0 dX0_lookFromTheRoad_36 ?_
      refine v_getr dX0_lookFromTheRoad_37 gX0_15 (shC hc) rfl ?_
      refine v_ild3 dX0_lookFromTheRoad_40 ?_
      refine v_ialdN dX0_lookFromTheRoad_41 (shC2 hc) (by omega) (by decide) ?_
      refine v_eq ((cv_pl Mk c hk8).symm) ?_
      refine v_ild1 dX0_lookFromTheRoad_42 ?_
      refine v_icmp_ne (tgt := 58) dX0_lookFromTheRoad_43 (by decide) (fun h43 => ?_) (fun h43 => ?_)
      · refine v_iincN3 (n := 1) dX0_lookFromTheRoad_58 (by decide) ?_
        refine v_goto (tgt := 28) dX0_lookFromTheRoad_61 (by decide) ?_
        exact ih _ ⟨by rw [hv]; show _ = (if _ then _ else _); rw [if_neg (by rw [← hv]; exact h43)], hfr⟩
      · refine v_ald0 dX0_lookFromTheRoad_46 ?_
        refine v_ild3 dX0_lookFromTheRoad_47 ?_
        refine v_ild2 dX0_lookFromTheRoad_48 ?_
        refine v_ald0 dX0_lookFromTheRoad_49 ?_
        refine v_getr dX0_lookFromTheRoad_50 gX0_27 (shC hc) rfl ?_
        refine v_ild2 dX0_lookFromTheRoad_53 ?_
        refine v_ialdN dX0_lookFromTheRoad_54 (shC6 hc) (by omega) (by decide) ?_
        refine v_eq ((cv_sw Mk c hf6).symm.trans (show _ = sw (rdK (upd (cv Mz c) 0 (drw (drw (cv Mz c 0)))) (dN (cv Mz c 0) % 8) (dN (drw (cv Mz c 0)) % 6) k) (dN (drw (cv Mz c 0)) % 6) from by rw [hv])) ?_
        refine v_callVv (kC_think E _ hc hk8 hf6) dX0_lookFromTheRoad_55 cX0_68 rfl (shC hc) rfl (by decide) (Nat.le_of_ble_eq_true rfl) rfl (fun M2z hq2 => ?_)
        rw [hq2]
        clear hq2
        refine v_iincN3 (n := 1) dX0_lookFromTheRoad_58 (by decide) ?_
        refine v_goto (tgt := 28) dX0_lookFromTheRoad_61 (by decide) ?_
        exact ih _ ⟨by rw [cv_uth hk8 hf6, hv]; show _ = (if _ then _ else _); rw [if_pos (by rw [← hv]; exact h43)], hfr.tr (FrC.w _ (by omega))⟩
    · obtain ⟨hv, hfr⟩ := hM
      have hKu := (rd_ok (wh := (dN (cv Mz c 0) % 8)) hI2 hf6 (pn (cv Mz c)) hI.pn.2).2.1
      rw [← hv] at hKu
      have hpu : Mk c 1 = nI (pn (cv Mz c)) := (hKu.2.1.trans (pk_un (by decide))).trans hI.pn.1
      refine v_ild3 dX0_lookFromTheRoad_28 ?_
      refine v_ald0 dX0_lookFromTheRoad_29 ?_
      refine v_geti dX0_lookFromTheRoad_30 gX0_44 (shC hc) rfl ?_
      refine v_eq (hpu) ?_
      refine v_icmpN_ge (tgt := 64) dX0_lookFromTheRoad_33 (by decide) (by omega) (by omega) (fun h33 => ?_) (fun h33 => absurd h33 (by omega))
      exact v_vret dX0_lookFromTheRoad_64 rfl (⟨by rw [hv]; unfold road; rw [if_neg h22], hfr⟩)
  · exact v_vret dX0_lookFromTheRoad_25 rfl (⟨by rw [cv_uz, cv_uz, upd_same]; unfold road; rw [if_pos h22], (FrC.w Mz (by omega)).tr (FrC.w _ (by omega))⟩)
set_option maxRecDepth 100000 in
set_option maxHeartbeats 4000000 in
theorem kC_grow (E : ev) (Mz : mm) {c W : Nat} (hc : CB c) (hI : CI (cv Mz c) W) (hW : W < 2 ^ 24) : Ct E 3 yX0_grow cX0_grow 3 none [.inr c] Mz (qV E (fun M' => cv M' c = grwS (cv Mz c) ((cv Mz c 2).toNatClampNeg % 6) ∧ FrC c Mz M')) := by
  refine ct_of (by decide) (Nat.le_of_ble_eq_true rfl) ?_
  show V E 3 _ _ _ _ _ 0 [some (.inr c), none, none] [] Mz
  have hwk : Mz c 12 = nI (cv Mz c 2).toNatClampNeg ∧ (cv Mz c 2).toNatClampNeg < W := hI.2.2.2.1.eq (by omega)
  have hcb := hc.ge
  have hf6 : ((cv Mz c 2).toNatClampNeg % 6) < 6 := Nat.mod_lt _ (by decide)
  refine v_ald0 dX0_grow_0 ?_
  refine v_geti dX0_grow_1 gX0_62 (shC hc) rfl ?_
  refine v_eq (hwk.1) ?_
  refine v_bipushN (n := 6) dX0_grow_4 (by decide) ?_
  refine v_iremN dX0_grow_6 (by omega) (by omega) (by omega) ?_
  refine v_ist1 dX0_grow_7 (by decide) ?_
  refine v_ald0 dX0_grow_8 ?_
  refine v_ild1 dX0_grow_9 ?_
  refine v_callVi (kC_firstCrop E Mz hc hf6 hI) dX0_grow_10 cX0_100 rfl (shC hc) rfl (by decide) (Nat.le_of_ble_eq_true rfl) rfl (fun r M1z hq => ?_)
  obtain ⟨hr, hm⟩ := hq
  rw [hr, hm]
  clear hr hm
  refine v_ist2 dX0_grow_13 (by decide) ?_
  refine v_ald0 dX0_grow_14 ?_
  refine v_getr dX0_grow_15 gX0_30 (shC hc) rfl ?_
  refine v_ild1 dX0_grow_18 ?_
  refine v_ild2 dX0_grow_19 ?_
  refine v_iastN dX0_grow_20 (shC7 hc) (by omega) (by decide) ?_
  refine v_ald0 dX0_grow_21 ?_
  refine v_dup dX0_grow_22 ?_
  refine v_geti dX0_grow_23 gX0_53 (shC hc) rfl ?_
  refine v_eq (show _ = cv Mz c 3 from by rw [wr_ne (by omega)]; rfl) ?_
  refine v_ald0 dX0_grow_26 ?_
  refine v_ild1 dX0_grow_27 ?_
  refine v_ild2 dX0_grow_28 ?_
  refine v_callVi (kC_votesFor E _ (W := W) hc hf6 (by rw [cv_ugr hf6]; exact CI_upd hI (by omega) (by omega) (by omega) (by rw [rg_gr hf6]; exact fc_in _ _))) dX0_grow_29 cX0_97 rfl (shC hc) rfl (by decide) (Nat.le_of_ble_eq_true rfl) rfl (fun r M1z hq => ?_)
  obtain ⟨hr, hm⟩ := hq
  rw [hr, hm, cv_ugr hf6, vot_gr (by omega)]
  clear hr hm
  refine v_iadd dX0_grow_32 ?_
  refine v_puti dX0_grow_33 pX0_53 (shC hc) rfl rfl rfl ?_
  refine v_ild2 dX0_grow_36 ?_
  refine v_ald0 dX0_grow_37 ?_
  refine v_getr dX0_grow_38 gX0_27 (shC hc) rfl ?_
  refine v_ild1 dX0_grow_41 ?_
  refine v_ialdN dX0_grow_42 (shC6 hc) (by omega) (by decide) ?_
  refine v_eq (show _ = sw (cv Mz c) ((cv Mz c 2).toNatClampNeg % 6) from by rw [wr_ne (by omega), wr_ne (by omega)]; exact (cv_sw Mz c hf6).symm) ?_
  refine v_icmp_eq (tgt := 56) dX0_grow_43 (by decide) (fun h43 => ?_) (fun h43 => ?_)
  · exact v_vret dX0_grow_56 rfl (⟨by rw [cv_uwt, cv_ugr hf6]; unfold grwS grw2 grw1; rw [if_pos h43], (FrC.w Mz (by omega)).tr (FrC.w _ (by omega))⟩)
  · refine v_ald0 dX0_grow_46 ?_
    refine v_dup dX0_grow_47 ?_
    refine v_geti dX0_grow_48 gX0_56 (shC hc) rfl ?_
    refine v_eq (show _ = cv Mz c 4 from by rw [wr_at, pk_un (by decide), wr_ne (by omega)]; rfl) ?_
    refine v_iconstN (n := 1) dX0_grow_51 ?_
    refine v_iadd dX0_grow_52 ?_
    refine v_puti dX0_grow_53 pX0_56 (shC hc) rfl rfl rfl ?_
    exact v_vret dX0_grow_56 rfl (⟨by rw [cv_uwg, cv_uwt, cv_ugr hf6]; unfold grwS grw2 grw1; rw [if_neg h43], ((FrC.w Mz (by omega)).tr (FrC.w _ (by omega))).tr (FrC.w _ (by omega))⟩)
set_option maxRecDepth 100000 in
set_option maxHeartbeats 4000000 in
theorem kC_pass (E : ev) (Mz : mm) {c n W T : Nat} {tt : Nat → tx} (hc : CB c) (hI : CI (cv Mz c) W) (hW : W + n < 2 ^ 24) (hT : TxC Mz c tt T) : Ct E 6 yX0_pass cX0_pass 4 none [.inr c, .inl (nI n)] Mz (qV E (fun M' => cv M' c = wksS (pfT tt T) (cv Mz c) n ∧ FrC c Mz M')) := by
  refine ct_of (by decide) (Nat.le_of_ble_eq_true rfl) ?_
  show V E 6 _ _ _ _ _ 0 [some (.inr c), some (.inl (nI n)), none, none] [] Mz
  have hp8 := hI.pn.2
  have hcb := hc.ge
  refine v_iconstN (n := 0) dX0_pass_0 ?_
  refine v_ist2 dX0_pass_1 (by decide) ?_
  refine v_loopP (pc := 2) (fun k _ => [some (.inr c), some (.inl (nI n)), some (.inl (nI k)), none]) (fun k Mk => cv Mk c = wksS (pfT tt T) (cv Mz c) k ∧ FrC c Mz Mk) (n) (rfl) (⟨rfl, FrC.rf c Mz⟩) (fun k Mk hk hM ih => ?_) (fun Mk hM => ?_)
  · obtain ⟨hv, hfr⟩ := hM
    obtain ⟨hIk, hk1, hk6⟩ := wks_ok (pfT_ok tt T) hI k (by omega)
    have hpk : wksS (pfT tt T) (cv Mz c) k 1 = nI (pn (cv Mz c)) := hk1.trans hI.pn.1
    refine v_ild2 dX0_pass_2 ?_
    refine v_ild1 dX0_pass_3 ?_
    refine v_icmpN_ge (tgt := 52) dX0_pass_4 (by decide) (by omega) (by omega) (fun h4 => absurd h4 (by omega)) (fun h4 => ?_)
    refine v_iconstN (n := 0) dX0_pass_7 ?_
    refine v_ist3 dX0_pass_8 (by decide) ?_
    refine v_loopP (pc := 9) (fun j _ => [some (.inr c), some (.inl (nI n)), some (.inl (nI k)), some (.inl (nI j))]) (fun j Mj => cv Mj c = atK (pfT tt T) (wksS (pfT tt T) (cv Mz c) k) j ∧ FrC c Mz Mj) (pn (cv Mz c)) (rfl) (⟨hv, hfr⟩) (fun j Mj hj hMj ihj => ?_) (fun Mj hMj => ?_)
    · obtain ⟨hvj, hfrj⟩ := hMj
      obtain ⟨hIj, hKj⟩ := at_ok (pfT_ok tt T) hIk j (by omega)
      rw [← hvj] at hIj hKj
      have hpj : Mj c 1 = nI (pn (cv Mz c)) := hKj.2.1.trans hpk
      have hTj : TxC Mj c tt T := hT.fr hc hfrj (hKj.2.2.2.2.2.trans hk6)
      have hj8 : j < 8 := by omega
      refine v_ild3 dX0_pass_9 ?_
      refine v_ald0 dX0_pass_10 ?_
      refine v_geti dX0_pass_11 gX0_44 (shC hc) rfl ?_
      refine v_eq (hpj) ?_
      refine v_icmpN_ge (tgt := 28) dX0_pass_14 (by decide) (by omega) (by omega) (fun h14 => absurd h14 (by omega)) (fun h14 => ?_)
      refine v_ald0 dX0_pass_17 ?_
      refine v_ild3 dX0_pass_18 ?_
      refine v_callVv (kC_speak E Mj hc hj8 hIj (by omega) hTj) dX0_pass_19 cX0_132 rfl (shC hc) rfl (by decide) (Nat.le_of_ble_eq_true rfl) rfl (fun M1z hq => ?_)
      refine v_iincN3 (n := 1) dX0_pass_22 (by decide) ?_
      refine v_goto (tgt := 9) dX0_pass_25 (by decide) ?_
      exact ihj _ ⟨by rw [hq.1, hvj]; rfl, hfrj.tr hq.2⟩
    · obtain ⟨hvj, hfrj⟩ := hMj
      obtain ⟨hIj, hKj⟩ := at_ok (pfT_ok tt T) hIk (pn (cv Mz c)) hI.pn.2
      rw [← hvj] at hIj hKj
      have hpj : Mj c 1 = nI (pn (cv Mz c)) := hKj.2.1.trans hpk
      refine v_ild3 dX0_pass_9 ?_
      refine v_ald0 dX0_pass_10 ?_
      refine v_geti dX0_pass_11 gX0_44 (shC hc) rfl ?_
      refine v_eq (hpj) ?_
      refine v_icmpN_ge (tgt := 28) dX0_pass_14 (by decide) (by omega) (by omega) (fun h14 => ?_) (fun h14 => absurd h14 (by omega))
      refine v_ald0 dX0_pass_28 ?_
      refine v_callVv (kC_look E Mj hc hIj) dX0_pass_29 cX0_136 rfl (shC hc) rfl (by decide) (Nat.le_of_ble_eq_true rfl) rfl (fun M1z hq => ?_)
      refine v_ald0 dX0_pass_32 ?_
      refine v_callVv (kC_grow E M1z (W := W + k) hc (by rw [hq.1]; exact (road_ok hIj).1) (by omega)) dX0_pass_33 cX0_139 rfl (shC hc) rfl (by decide) (Nat.le_of_ble_eq_true rfl) rfl (fun M2z hq2 => ?_)
      have hnext : upd (cv M2z c) 2 (cv M2z c 2 + nI 1) = wksS (pfT tt T) (cv Mz c) (k + 1) := by
        rw [hq2.1, hq.1, hvj]
        show _ = wkS (pfT tt T) (wksS (pfT tt T) (cv Mz c) k)
        unfold wkS
        rw [show pn (wksS (pfT tt T) (cv Mz c) k) = pn (cv Mz c) from by show (_ : Int32).toNatClampNeg = (_ : Int32).toNatClampNeg; rw [(wks_ok (pfT_ok tt T) hI k (by omega)).2.1]]
      refine v_ald0 dX0_pass_36 ?_
      refine v_dup dX0_pass_37 ?_
      refine v_geti dX0_pass_38 gX0_62 (shC hc) rfl ?_
      refine v_eq (show _ = cv M2z c 2 from rfl) ?_
      refine v_iconstN (n := 1) dX0_pass_41 ?_
      refine v_iadd dX0_pass_42 ?_
      refine v_puti dX0_pass_43 pX0_62 (shC hc) rfl rfl rfl ?_
      refine v_iincN2 (n := 1) dX0_pass_46 (by decide) ?_
      refine v_goto (tgt := 2) dX0_pass_49 (by decide) ?_
      refine v_fg3 ?_
      exact ih _ ⟨by rw [cv_uwk]; exact hnext, (((hfrj.tr hq.2).tr hq2.2)).tr (FrC.w _ (by omega))⟩
  · obtain ⟨hv, hfr⟩ := hM
    refine v_ild2 dX0_pass_2 ?_
    refine v_ild1 dX0_pass_3 ?_
    refine v_icmpN_ge (tgt := 52) dX0_pass_4 (by decide) (by omega) (by omega) (fun h4 => ?_) (fun h4 => absurd h4 (by omega))
    exact v_vret dX0_pass_52 rfl (⟨hv, hfr⟩)
