theorem clamp_min {h : Int32} (hh : inR h 103) : clampS h (nI 0) (nI 99) = if nI 99 < h then nI 99 else h := by
  obtain ⟨k, hk, rfl⟩ := hh
  unfold clampS
  rw [if_neg (show ¬ nI k < nI 0 from nI_pos (by omega))]
theorem clamp_less {x : Int32} (hh : inR x 100) : clampS (x - nI 1) (nI 0) (nI 99) = if x - nI 1 < nI 0 then nI 0 else x - nI 1 := by
  obtain ⟨k, hk, rfl⟩ := hh
  unfold clampS
  cases k with
  | zero => rw [if_pos (by decide), if_pos (by decide)]
  | succ k => rw [show nI (k + 1) - nI 1 = nI k from nI_pred k, if_neg (show ¬ nI k < nI 0 from nI_pos (by omega)), if_neg (show ¬ nI k < nI 0 from nI_pos (by omega)), if_neg (show ¬ nI 99 < nI k from nI_nlt (by omega) (by decide))]
theorem rd_t {v : fl} {wh f p : Nat} (h : pl (rdK v wh f p) p = nI wh) : rdK v wh f (p + 1) = upd (rdK v wh f p) (23 + 10 * p + f) (sw (rdK v wh f p) f) := if_pos h
theorem rd_f {v : fl} {wh f p : Nat} (h : ¬ pl (rdK v wh f p) p = nI wh) : rdK v wh f (p + 1) = rdK v wh f p := if_neg h
theorem upd_id {v : fl} {i : Nat} {x : Int32} (h : x = v i) : upd v i x = v := by rw [h]; exact upd_self v i
set_option maxRecDepth 100000 in
set_option maxHeartbeats 4000000 in
theorem kM_draw (E : ev) (Mz : mm)  : Ct E 0 yX7_draw cX7_draw 1 (some .int) [.inr 92] Mz (qI E (fun r M' => r = nI (dN (mv Mz 0)) ∧ M' = wr Mz 93 0 (drw (mv Mz 0)))) := by
  refine ct_of (by decide) (Nat.le_of_ble_eq_true rfl) ?_
  show V E 0 _ _ _ _ _ 0 [some (.inr 92)] [] Mz
  refine v_ald0 dX7_draw_0 ?_
  refine v_getr dX7_draw_1 gX7_9 sh_92 rfl ?_
  refine v_iconstN (n := 0) dX7_draw_4 ?_
  refine v_ald0 dX7_draw_5 ?_
  refine v_getr dX7_draw_6 gX7_9 sh_92 rfl ?_
  refine v_iconstN (n := 0) dX7_draw_9 ?_
  refine v_ialdN dX7_draw_10 sh_93 (by omega) (by decide) ?_
  refine v_ldc dX7_draw_11 kX7_154 ?_
  refine v_imul dX7_draw_13 ?_
  refine v_sipushN (n := 12345) dX7_draw_14 (by decide +kernel) ?_
  refine v_iadd dX7_draw_17 ?_
  refine v_iastN dX7_draw_18 sh_93 (by omega) (by decide) ?_
  refine v_ald0 dX7_draw_19 ?_
  refine v_getr dX7_draw_20 gX7_9 sh_92 rfl ?_
  refine v_iconstN (n := 0) dX7_draw_23 ?_
  refine v_ialdN dX7_draw_24 sh_93 (by omega) (by decide) ?_
  refine v_eq (show _ = drw (mv Mz 0) from by rw [wr_at, pk_us]; rfl) ?_
  refine v_bipushN (n := 8) dX7_draw_25 (by decide) ?_
  refine v_iushr dX7_draw_27 ?_
  exact v_iret dX7_draw_28 rfl (⟨dr_eq _, rfl⟩)
set_option maxRecDepth 100000 in
set_option maxHeartbeats 4000000 in
theorem kM_hears (E : ev) (Mz : mm) {q f W T : Nat} {crop : Int32} {tt : Nat → tx} (hq8 : q < 8) (hf : f < 6) (hI : CI (mv Mz) W) (hT : TxM Mz tt T) : Ct E 4 yX7_hears cX7_hears 6 none [.inr 92, .inl (nI q), .inl (nI f), .inl crop] Mz (qV E (fun M' => mv M' = hr1 (pfT tt T) f crop (mv Mz) q ∧ FrM Mz M')) := by
  refine ct_of (by decide) (Nat.le_of_ble_eq_true rfl) ?_
  show V E 4 _ _ _ _ _ 0 [some (.inr 92), some (.inl (nI q)), some (.inl (nI f)), some (.inl crop), none, none] [] Mz
  refine v_ald0 dX7_hears_0 ?_
  refine v_ild1 dX7_hears_1 ?_
  refine v_ild2 dX7_hears_2 ?_
  refine v_ild3 dX7_hears_3 ?_
  refine v_callVi (kM_heedsOf E Mz hq8 hf hI hT) dX7_hears_4 cX7_151 rfl sh_92 rfl (by decide) (Nat.le_of_ble_eq_true rfl) rfl (fun r M1z hq => ?_)
  obtain ⟨hr, hm⟩ := hq
  have hcm := mv_scr hm
  rw [hr]
  refine v_ist4 dX7_hears_7 (by decide) ?_
  refine v_ild4 dX7_hears_9 ?_
  refine v_ald0 dX7_hears_11 ?_
  refine v_ild1 dX7_hears_12 ?_
  refine v_iconstN (n := 3) dX7_hears_13 ?_
  refine v_callVi (kM_of E M1z hq8 (by decide)) dX7_hears_14 cX7_79 rfl sh_92 rfl (by decide) (Nat.le_of_ble_eq_true rfl) rfl (fun r2 M2z hq2 => ?_)
  obtain ⟨hr2, hm2⟩ := hq2
  rw [hr2, hm2, hcm, show mv Mz (19 + 10 * q + 3) = su (mv Mz) q from by show _ = mv Mz (22 + 10 * q); congr 1; omega]
  clear hr2 hm2
  refine v_icmp_le (tgt := 24) dX7_hears_17 (by decide) (fun h17 => ?_) (fun h17 => ?_)
  · refine v_iconstN (n := 0) dX7_hears_24 ?_
    refine v_ist5 dX7_hears_25 (by decide) ?_
    refine v_ald0 dX7_hears_27 ?_
    refine v_ild1 dX7_hears_28 ?_
    refine v_iconstN (n := 4) dX7_hears_29 ?_
    refine v_ild2 dX7_hears_30 ?_
    refine v_iaddN dX7_hears_31 ?_
    refine v_ild5 dX7_hears_32 ?_
    refine v_if_eq (tgt := 41) dX7_hears_34 (by decide) (fun h34 => ?_) (fun h34 => absurd h34 (by decide))
    refine v_ald0 dX7_hears_41 ?_
    refine v_ild1 dX7_hears_42 ?_
    refine v_ild2 dX7_hears_43 ?_
    refine v_callVi (kM_thinks E M1z hq8 hf) dX7_hears_44 cX7_83 rfl sh_92 rfl (by decide) (Nat.le_of_ble_eq_true rfl) rfl (fun r4 M4z hq4 => ?_)
    obtain ⟨hr4, hm4⟩ := hq4
    rw [hr4, hm4, hcm]
    clear hr4 hm4
    refine v_callVv (kM_put E _ hq8 (by omega)) dX7_hears_47 cX7_115 rfl sh_92 rfl (by decide) (Nat.le_of_ble_eq_true rfl) rfl (fun M47z hq47 => ?_)
    rw [hq47]
    clear hq47
    refine v_ald0 dX7_hears_50 ?_
    refine v_ild1 dX7_hears_51 ?_
    refine v_iconstN (n := 3) dX7_hears_52 ?_
    refine v_ild5 dX7_hears_53 ?_
    refine v_if_eq (tgt := 69) dX7_hears_55 (by decide) (fun h55 => ?_) (fun h55 => absurd h55 (by decide))
    refine v_ald0 dX7_hears_69 ?_
    refine v_ild1 dX7_hears_70 ?_
    refine v_iconstN (n := 3) dX7_hears_71 ?_
    refine v_callVi (kM_of E _ hq8 (by decide)) dX7_hears_72 cX7_79 rfl sh_92 rfl (by decide) (Nat.le_of_ble_eq_true rfl) rfl (fun r3 M3z hq3 => ?_)
    obtain ⟨hr3, hm3⟩ := hq3
    rw [hr3, hm3, mv_u (by omega), pk_un (by omega), hcm, show mv Mz (19 + 10 * q + 3) = su (mv Mz) q from by show _ = mv Mz (22 + 10 * q); congr 1; omega]
    clear hr3 hm3
    refine v_iconstN (n := 1) dX7_hears_75 ?_
    refine v_isub dX7_hears_76 ?_
    refine v_iconstN (n := 0) dX7_hears_77 ?_
    refine v_bipushN (n := 99) dX7_hears_78 (by decide) ?_
    refine v_callSi (kM_within E _) dX7_hears_80 cX7_108 rfl (by decide) (Nat.le_of_ble_eq_true rfl) rfl (fun r5 M5z hq5 => ?_)
    obtain ⟨hr5, hm5⟩ := hq5
    rw [hr5, hm5]
    clear hr5 hm5
    refine v_callVv (kM_put E _ hq8 (by omega)) dX7_hears_83 cX7_115 rfl sh_92 rfl (by decide) (Nat.le_of_ble_eq_true rfl) rfl (fun M83z hq83 => ?_)
    rw [hq83]
    clear hq83
    refine v_ald0 dX7_hears_86 ?_
    refine v_getr dX7_hears_87 gX7_9 sh_92 rfl ?_
    refine v_iconstN (n := 5) dX7_hears_90 ?_
    refine v_dup2 dX7_hears_91 ?_
    refine v_ialdN dX7_hears_92 sh_93 (by omega) (by decide) ?_
    refine v_eq (show _ = mv Mz 5 from by rw [wr_at, pk_un (by omega), wr_at, pk_un (by omega), ← hcm]; rfl) ?_
    refine v_ild5 dX7_hears_93 ?_
    refine v_if_eq (tgt := 102) dX7_hears_95 (by decide) (fun h95 => ?_) (fun h95 => absurd h95 (by decide))
    refine v_iconstN (n := 0) dX7_hears_102 ?_
    refine v_iadd dX7_hears_103 ?_
    refine v_iastN dX7_hears_104 sh_93 (by omega) (by decide) ?_
    exact v_vret dX7_hears_105 rfl (⟨by
          rw [mv_u (by decide), mv_u (by omega), mv_u (by omega), hcm, clamp_less (hI.su hq8), show 19 + 10 * q + 3 = 22 + 10 * q by omega, show 19 + 10 * q + (4 + f) = 23 + 10 * q + f by omega]
          unfold hr1
          rw [if_neg (Int32.not_lt.mpr h17)]
          have e1 : upd (mv Mz) (23 + 10 * q + f) (th (mv Mz) q f) = mv Mz := upd_self _ _
          rw [e1]
          exact upd_id (by rw [pk_un (by omega)]; simp [nI_0]), (((FrM.scr hm).tr (FrM.w _ (by omega))).tr (FrM.w _ (by omega))).tr (FrM.w _ (by decide))⟩)
  · refine v_iconstN (n := 1) dX7_hears_20 ?_
    refine v_goto (tgt := 25) dX7_hears_21 (by decide) ?_
    refine v_ist5 dX7_hears_25 (by decide) ?_
    refine v_ald0 dX7_hears_27 ?_
    refine v_ild1 dX7_hears_28 ?_
    refine v_iconstN (n := 4) dX7_hears_29 ?_
    refine v_ild2 dX7_hears_30 ?_
    refine v_iaddN dX7_hears_31 ?_
    refine v_ild5 dX7_hears_32 ?_
    refine v_if_eq (tgt := 41) dX7_hears_34 (by decide) (fun h34 => absurd h34 (by decide)) (fun h34 => ?_)
    refine v_ild3 dX7_hears_37 ?_
    refine v_goto (tgt := 47) dX7_hears_38 (by decide) ?_
    refine v_callVv (kM_put E _ hq8 (by omega)) dX7_hears_47 cX7_115 rfl sh_92 rfl (by decide) (Nat.le_of_ble_eq_true rfl) rfl (fun M47z hq47 => ?_)
    rw [hq47]
    clear hq47
    refine v_ald0 dX7_hears_50 ?_
    refine v_ild1 dX7_hears_51 ?_
    refine v_iconstN (n := 3) dX7_hears_52 ?_
    refine v_ild5 dX7_hears_53 ?_
    refine v_if_eq (tgt := 69) dX7_hears_55 (by decide) (fun h55 => absurd h55 (by decide)) (fun h55 => ?_)
    refine v_ild4 dX7_hears_58 ?_
    refine v_iconstN (n := 0) dX7_hears_60 ?_
    refine v_bipushN (n := 99) dX7_hears_61 (by decide) ?_
    refine v_callSi (kM_within E _) dX7_hears_63 cX7_108 rfl (by decide) (Nat.le_of_ble_eq_true rfl) rfl (fun r5 M5z hq5 => ?_)
    obtain ⟨hr5, hm5⟩ := hq5
    rw [hr5, hm5]
    clear hr5 hm5
    refine v_goto (tgt := 83) dX7_hears_66 (by decide) ?_
    refine v_callVv (kM_put E _ hq8 (by omega)) dX7_hears_83 cX7_115 rfl sh_92 rfl (by decide) (Nat.le_of_ble_eq_true rfl) rfl (fun M83z hq83 => ?_)
    rw [hq83]
    clear hq83
    refine v_ald0 dX7_hears_86 ?_
    refine v_getr dX7_hears_87 gX7_9 sh_92 rfl ?_
    refine v_iconstN (n := 5) dX7_hears_90 ?_
    refine v_dup2 dX7_hears_91 ?_
    refine v_ialdN dX7_hears_92 sh_93 (by omega) (by decide) ?_
    refine v_eq (show _ = mv Mz 5 from by rw [wr_at, pk_un (by omega), wr_at, pk_un (by omega), ← hcm]; rfl) ?_
    refine v_ild5 dX7_hears_93 ?_
    refine v_if_eq (tgt := 102) dX7_hears_95 (by decide) (fun h95 => absurd h95 (by decide)) (fun h95 => ?_)
    refine v_iconstN (n := 1) dX7_hears_98 ?_
    refine v_goto (tgt := 103) dX7_hears_99 (by decide) ?_
    refine v_iadd dX7_hears_103 ?_
    refine v_iastN dX7_hears_104 sh_93 (by omega) (by decide) ?_
    exact v_vret dX7_hears_105 rfl (⟨by
          rw [mv_u (by decide), mv_u (by omega), mv_u (by omega), hcm, clamp_min (heed_in (pfT_ok tt T) hI hq8 crop), show 19 + 10 * q + 3 = 22 + 10 * q by omega, show 19 + 10 * q + (4 + f) = 23 + 10 * q + f by omega]
          unfold hr1
          rw [if_pos (Int32.not_le.mp h17)], (((FrM.scr hm).tr (FrM.w _ (by omega))).tr (FrM.w _ (by omega))).tr (FrM.w _ (by decide))⟩)
set_option maxRecDepth 100000 in
set_option maxHeartbeats 4000000 in
theorem kM_talks (E : ev) (Mz : mm) {p W T : Nat} {tt : Nat → tx} (hp : p < 8) (hI : CI (mv Mz) W) (hW : W < 2 ^ 24) (hT : TxM Mz tt T) : Ct E 5 yX7_talks cX7_talks 5 none [.inr 92, .inl (nI p)] Mz (qV E (fun M' => mv M' = talk (pfT tt T) (mv Mz) p ∧ FrM Mz M')) := by
  refine ct_of (by decide) (Nat.le_of_ble_eq_true rfl) ?_
  show V E 5 _ _ _ _ _ 0 [some (.inr 92), some (.inl (nI p)), none, none, none] [] Mz
  have hwk : Mz 93 2 = nI (mv Mz 2).toNatClampNeg ∧ (mv Mz 2).toNatClampNeg < W := hI.2.2.2.1.eq (by omega)
  have hpe : Mz 93 1 = nI (pn (mv Mz)) := hI.pn.1
  have hp8 := hI.pn.2
  have hf6 : (((mv Mz 2).toNatClampNeg + p) % 6) < 6 := Nat.mod_lt _ (by decide)
  have hcrin := says_in hI hp hf6
  refine v_ald0 dX7_talks_0 ?_
  refine v_getr dX7_talks_1 gX7_9 sh_92 rfl ?_
  refine v_iconstN (n := 2) dX7_talks_4 ?_
  refine v_ialdN dX7_talks_5 sh_93 (by omega) (by decide) ?_
  refine v_eq (hwk.1) ?_
  refine v_ild1 dX7_talks_6 ?_
  refine v_iaddN dX7_talks_7 ?_
  refine v_bipushN (n := 6) dX7_talks_8 (by decide) ?_
  refine v_iremN dX7_talks_10 (by omega) (by omega) (by omega) ?_
  refine v_ist2 dX7_talks_11 (by decide) ?_
  refine v_ald0 dX7_talks_12 ?_
  refine v_ild1 dX7_talks_13 ?_
  refine v_ild2 dX7_talks_14 ?_
  refine v_callVi (kM_saysOf E Mz hp hf6 hI) dX7_talks_15 cX7_148 rfl sh_92 rfl (by decide) (Nat.le_of_ble_eq_true rfl) rfl (fun r M1z hq => ?_)
  obtain ⟨hr, hm⟩ := hq
  rw [hr, hm]
  clear hr hm
  refine v_ist3 dX7_talks_18 (by decide) ?_
  refine v_iconstN (n := 0) dX7_talks_19 ?_
  refine v_ist4 dX7_talks_20 (by decide) ?_
  by_cases hcr0 : (says (mv Mz) p (((mv Mz 2).toNatClampNeg + p) % 6)) = 0
  · refine v_ild4 dX7_talks_22 ?_
    refine v_ald0 dX7_talks_24 ?_
    refine v_getr dX7_talks_25 gX7_9 sh_92 rfl ?_
    refine v_iconstN (n := 1) dX7_talks_28 ?_
    refine v_ialdN dX7_talks_29 sh_93 (by omega) (by decide) ?_
    refine v_eq (hpe) ?_
    refine v_icmpN_ge (tgt := 61) dX7_talks_30 (by decide) (by omega) (by omega) (fun h30 => ?_) (fun h30 => ?_)
    · exact v_vret dX7_talks_61 rfl (⟨by unfold talk; rw [if_pos hcr0], FrM.rf Mz⟩)
    · refine v_ild3 dX7_talks_33 ?_
      refine v_if_eq (tgt := 61) dX7_talks_34 (by decide) (fun h34 => ?_) (fun h34 => absurd h34 (by exact fun h => h hcr0))
      exact v_vret dX7_talks_61 rfl (⟨by unfold talk; rw [if_pos hcr0], FrM.rf Mz⟩)
  · refine v_loopP (pc := 22) (fun k _ => [some (.inr 92), some (.inl (nI p)), some (.inl (nI (((mv Mz 2).toNatClampNeg + p) % 6))), some (.inl (says (mv Mz) p (((mv Mz 2).toNatClampNeg + p) % 6))), some (.inl (nI k))]) (fun k Mk => mv Mk = tkK (pfT tt T) (mv Mz) p (((mv Mz 2).toNatClampNeg + p) % 6) (says (mv Mz) p (((mv Mz 2).toNatClampNeg + p) % 6)) k ∧ FrM Mz Mk) (pn (mv Mz)) (rfl) (⟨rfl, FrM.rf Mz⟩) (fun k Mk hk hM ih => ?_) (fun Mk hM => ?_)
    · obtain ⟨hv, hfr⟩ := hM
      obtain ⟨hIu, hKu⟩ := tk_ok (p := p) (pfT_ok tt T) hI hf6 hcrin k (by omega)
      rw [← hv] at hIu hKu
      have hpu : Mk 93 1 = nI (pn (mv Mz)) := hKu.2.1.trans hI.pn.1
      have hTu : TxM Mk tt T := hT.fr hfr hKu.2.2.2.2.2
      have hk8 : k < 8 := by omega
      refine v_ild4 dX7_talks_22 ?_
      refine v_ald0 dX7_talks_24 ?_
      refine v_getr dX7_talks_25 gX7_9 sh_92 rfl ?_
      refine v_iconstN (n := 1) dX7_talks_28 ?_
      refine v_ialdN dX7_talks_29 sh_93 (by omega) (by decide) ?_
      refine v_eq (hpu) ?_
      refine v_icmpN_ge (tgt := 61) dX7_talks_30 (by decide) (by omega) (by omega) (fun h30 => absurd h30 (by omega)) (fun h30 => ?_)
      refine v_ild3 dX7_talks_33 ?_
      refine v_if_eq (tgt := 61) dX7_talks_34 (by decide) (fun h34 => absurd h34 (hcr0)) (fun h34 => ?_)
      refine v_ald0 dX7_talks_37 ?_
      refine v_ild4 dX7_talks_38 ?_
      refine v_ild1 dX7_talks_40 ?_
      refine v_callVi (kM_doesHear E Mk (W := W) hk8 hp) dX7_talks_41 cX7_124 rfl sh_92 rfl (by decide) (Nat.le_of_ble_eq_true rfl) rfl (fun r M1z hq => ?_)
      obtain ⟨hr, hm⟩ := hq
      rw [hr, hm]
      clear hr hm
      refine v_if_eq (tgt := 55) dX7_talks_44 (by decide) (fun h44 => ?_) (fun h44 => ?_)
      · refine v_iincN4 (n := 1) dX7_talks_55 (by decide) ?_
        refine v_goto (tgt := 22) dX7_talks_58 (by decide) ?_
        exact ih _ ⟨by rw [hv, tk_f (by rw [← hv]; exact b2_0.mp h44)], hfr⟩
      · refine v_ald0 dX7_talks_47 ?_
        refine v_ild4 dX7_talks_48 ?_
        refine v_ild2 dX7_talks_50 ?_
        refine v_ild3 dX7_talks_51 ?_
        refine v_callVv (kM_hears E Mk hk8 hf6 hIu hTu) dX7_talks_52 cX7_159 rfl sh_92 rfl (by decide) (Nat.le_of_ble_eq_true rfl) rfl (fun M2z hq2 => ?_)
        refine v_iincN4 (n := 1) dX7_talks_55 (by decide) ?_
        refine v_goto (tgt := 22) dX7_talks_58 (by decide) ?_
        exact ih _ ⟨by rw [hq2.1, tk_t (by rw [← hv]; exact b2_1.mp h44), ← hv], hfr.tr hq2.2⟩
    · obtain ⟨hv, hfr⟩ := hM
      have hKu := (tk_ok (p := p) (pfT_ok tt T) hI hf6 hcrin (pn (mv Mz)) hI.pn.2).2
      rw [← hv] at hKu
      have hpu : Mk 93 1 = nI (pn (mv Mz)) := hKu.2.1.trans hI.pn.1
      refine v_ild4 dX7_talks_22 ?_
      refine v_ald0 dX7_talks_24 ?_
      refine v_getr dX7_talks_25 gX7_9 sh_92 rfl ?_
      refine v_iconstN (n := 1) dX7_talks_28 ?_
      refine v_ialdN dX7_talks_29 sh_93 (by omega) (by decide) ?_
      refine v_eq (hpu) ?_
      refine v_icmpN_ge (tgt := 61) dX7_talks_30 (by decide) (by omega) (by omega) (fun h30 => ?_) (fun h30 => absurd h30 (by omega))
      exact v_vret dX7_talks_61 rfl (⟨by rw [hv]; unfold talk; rw [if_neg hcr0], hfr⟩)
set_option maxRecDepth 100000 in
set_option maxHeartbeats 4000000 in
theorem kM_passesBy (E : ev) (Mz : mm) {W : Nat} (hI : CI (mv Mz) W) : Ct E 2 yX7_passesBy cX7_passesBy 4 none [.inr 92] Mz (qV E (fun M' => mv M' = road (mv Mz) ∧ FrM Mz M')) := by
  refine ct_of (by decide) (Nat.le_of_ble_eq_true rfl) ?_
  show V E 2 _ _ _ _ _ 0 [some (.inr 92), none, none, none] [] Mz
  have hp8 := hI.pn.2
  have hd1 := dN_lt (mv Mz 0)
  have hd2 := dN_lt (drw (mv Mz 0))
  have hf6 : (dN (drw (mv Mz 0)) % 6) < 6 := Nat.mod_lt _ (by decide)
  have hI2 : CI (upd (mv Mz) 0 (drw (drw (mv Mz 0)))) W := CI_upd0 hI (Or.inl rfl)
  refine v_ald0 dX7_passesBy_0 ?_
  refine v_callVi (kM_draw E Mz) dX7_passesBy_1 cX7_155 rfl sh_92 rfl (by decide) (Nat.le_of_ble_eq_true rfl) rfl (fun r M1z hq => ?_)
  obtain ⟨hr, hm⟩ := hq
  rw [hr, hm]
  clear hr hm
  refine v_bipushN (n := 8) dX7_passesBy_4 (by decide) ?_
  refine v_iremN dX7_passesBy_6 (by omega) (by omega) (by omega) ?_
  refine v_ist1 dX7_passesBy_7 (by decide) ?_
  refine v_ald0 dX7_passesBy_8 ?_
  refine v_callVi (kM_draw E _) dX7_passesBy_9 cX7_155 rfl sh_92 rfl (by decide) (Nat.le_of_ble_eq_true rfl) rfl (fun r M1z hq => ?_)
  obtain ⟨hr, hm⟩ := hq
  rw [hr, hm, mv_u (by decide), pk_us]
  clear hr hm
  refine v_bipushN (n := 6) dX7_passesBy_12 (by decide) ?_
  refine v_iremN dX7_passesBy_14 (by omega) (by omega) (by omega) ?_
  refine v_ist2 dX7_passesBy_15 (by decide) ?_
  refine v_iconstN (n := 0) dX7_passesBy_16 ?_
  refine v_ist3 dX7_passesBy_17 (by decide) ?_
  by_cases hs0 : sw (mv Mz) (dN (drw (mv Mz 0)) % 6) = 0
  · refine v_ild3 dX7_passesBy_18 ?_
    refine v_ald0 dX7_passesBy_19 ?_
    refine v_getr dX7_passesBy_20 gX7_9 sh_92 rfl ?_
    refine v_iconstN (n := 1) dX7_passesBy_23 ?_
    refine v_ialdN dX7_passesBy_24 sh_93 (by omega) (by decide) ?_
    refine v_eq (show (wr (wr Mz 93 0 (drw (mv Mz 0))) 93 0 (drw (drw (mv Mz 0)))) 93 1 = nI (pn (mv Mz)) from by rw [wr_at, pk_un (by decide), wr_at, pk_un (by decide)]; exact hI.pn.1) ?_
    refine v_icmpN_ge (tgt := 82) dX7_passesBy_25 (by decide) (by omega) (by omega) (fun h25 => ?_) (fun h25 => ?_)
    · exact v_vret dX7_passesBy_82 rfl (⟨by rw [mv_u (by decide), mv_u (by decide), upd_same]; unfold road; rw [if_pos hs0], (FrM.w Mz (by decide)).tr (FrM.w _ (by decide))⟩)
    · refine v_ald0 dX7_passesBy_28 ?_
      refine v_getr dX7_passesBy_29 gX7_9 sh_92 rfl ?_
      refine v_bipushN (n := 7) dX7_passesBy_32 (by decide) ?_
      refine v_ild2 dX7_passesBy_34 ?_
      refine v_iaddN dX7_passesBy_35 ?_
      refine v_ialdN dX7_passesBy_36 sh_93 (by omega) (by decide) ?_
      refine v_eq (show _ = sw (mv Mz) (dN (drw (mv Mz 0)) % 6) from by rw [wr_at, pk_un (by omega), wr_at, pk_un (by omega)]; exact (mv_at Mz (by omega)).symm) ?_
      refine v_if_eq (tgt := 82) dX7_passesBy_37 (by decide) (fun h37 => ?_) (fun h37 => absurd h37 (by exact fun h => h hs0))
      exact v_vret dX7_passesBy_82 rfl (⟨by rw [mv_u (by decide), mv_u (by decide), upd_same]; unfold road; rw [if_pos hs0], (FrM.w Mz (by decide)).tr (FrM.w _ (by decide))⟩)
  · refine v_loopP (pc := 18) (fun k _ => [some (.inr 92), some (.inl (nI (dN (mv Mz 0) % 8))), some (.inl (nI (dN (drw (mv Mz 0)) % 6))), some (.inl (nI k))]) (fun k Mk => mv Mk = rdK (upd (mv Mz) 0 (drw (drw (mv Mz 0)))) (dN (mv Mz 0) % 8) (dN (drw (mv Mz 0)) % 6) k ∧ FrM Mz Mk) (pn (mv Mz)) (rfl) (⟨by rw [mv_u (by decide), mv_u (by decide), upd_same]; rfl, (FrM.w Mz (by decide)).tr (FrM.w _ (by decide))⟩) (fun k Mk hk hM ih => ?_) (fun Mk hM => ?_)
    · obtain ⟨hv, hfr⟩ := hM
      obtain ⟨hIu, hKu, hlo⟩ := rd_ok (wh := (dN (mv Mz 0) % 8)) hI2 hf6 k (by omega)
      rw [← hv] at hIu hKu
      have hpu : Mk 93 1 = nI (pn (mv Mz)) := (hKu.2.1.trans (pk_un (by decide))).trans hI.pn.1
      have hsu : Mk 93 (7 + (dN (drw (mv Mz 0)) % 6)) = sw (mv Mz) (dN (drw (mv Mz 0)) % 6) := by rw [← mv_at Mk (by omega), hv, hlo _ (by omega), pk_un (by omega)]
      have hsk : sw (rdK (upd (mv Mz) 0 (drw (drw (mv Mz 0)))) (dN (mv Mz 0) % 8) (dN (drw (mv Mz 0)) % 6) k) (dN (drw (mv Mz 0)) % 6) = sw (mv Mz) (dN (drw (mv Mz 0)) % 6) := by show rdK (upd (mv Mz) 0 (drw (drw (mv Mz 0)))) (dN (mv Mz 0) % 8) (dN (drw (mv Mz 0)) % 6) k (7 + (dN (drw (mv Mz 0)) % 6)) = _; rw [hlo _ (by omega), pk_un (by omega)]
      have hk8 : k < 8 := by omega
      refine v_ild3 dX7_passesBy_18 ?_
      refine v_ald0 dX7_passesBy_19 ?_
      refine v_getr dX7_passesBy_20 gX7_9 sh_92 rfl ?_
      refine v_iconstN (n := 1) dX7_passesBy_23 ?_
      refine v_ialdN dX7_passesBy_24 sh_93 (by omega) (by decide) ?_
      refine v_eq (hpu) ?_
      refine v_icmpN_ge (tgt := 82) dX7_passesBy_25 (by decide) (by omega) (by omega) (fun h25 => absurd h25 (by omega)) (fun h25 => ?_)
      refine v_ald0 dX7_passesBy_28 ?_
      refine v_getr dX7_passesBy_29 gX7_9 sh_92 rfl ?_
      refine v_bipushN (n := 7) dX7_passesBy_32 (by decide) ?_
      refine v_ild2 dX7_passesBy_34 ?_
      refine v_iaddN dX7_passesBy_35 ?_
      refine v_ialdN dX7_passesBy_36 sh_93 (by omega) (by decide) ?_
      refine v_eq (hsu) ?_
      refine v_if_eq (tgt := 82) dX7_passesBy_37 (by decide) (fun h37 => absurd h37 (hs0)) (fun h37 => ?_)
      refine v_ald0 dX7_passesBy_40 ?_
      refine v_ild3 dX7_passesBy_41 ?_
      refine v_iconstN (n := 4) dX7_passesBy_42 ?_
      refine v_ild2 dX7_passesBy_43 ?_
      refine v_iaddN dX7_passesBy_44 ?_
      refine v_ald0 dX7_passesBy_45 ?_
      refine v_ild3 dX7_passesBy_46 ?_
      refine v_iconstN (n := 1) dX7_passesBy_47 ?_
      refine v_callVi (kM_of E Mk hk8 (by decide)) dX7_passesBy_48 cX7_79 rfl sh_92 rfl (by decide) (Nat.le_of_ble_eq_true rfl) rfl (fun r3 M3z hq3 => ?_)
      obtain ⟨hr3, hm3⟩ := hq3
      rw [hr3, hm3, show mv Mk (19 + 10 * k + 1) = pl (mv Mk) k from by show _ = mv Mk (20 + 10 * k); congr 1; omega]
      clear hr3 hm3
      refine v_ild1 dX7_passesBy_51 ?_
      refine v_icmp_ne (tgt := 67) dX7_passesBy_52 (by decide) (fun h52 => ?_) (fun h52 => ?_)
      · refine v_ald0 dX7_passesBy_67 ?_
        refine v_ild3 dX7_passesBy_68 ?_
        refine v_ild2 dX7_passesBy_69 ?_
        refine v_callVi (kM_thinks E Mk hk8 hf6) dX7_passesBy_70 cX7_83 rfl sh_92 rfl (by decide) (Nat.le_of_ble_eq_true rfl) rfl (fun r4 M4z hq4 => ?_)
        obtain ⟨hr4, hm4⟩ := hq4
        rw [hr4, hm4]
        clear hr4 hm4
        refine v_callVv (kM_put E _ hk8 (by omega)) dX7_passesBy_73 cX7_115 rfl sh_92 rfl (by decide) (Nat.le_of_ble_eq_true rfl) rfl (fun M5z hq5 => ?_)
        rw [hq5]
        clear hq5
        refine v_iincN3 (n := 1) dX7_passesBy_76 (by decide) ?_
        refine v_goto (tgt := 18) dX7_passesBy_79 (by decide) ?_
        exact ih _ ⟨by rw [mv_u (by omega), rd_f (by rw [← hv]; exact h52), ← hv]; rw [show 19 + 10 * k + (4 + (dN (drw (mv Mz 0)) % 6)) = 23 + 10 * k + (dN (drw (mv Mz 0)) % 6) by omega]; exact upd_self _ _, hfr.tr (FrM.w _ (by omega))⟩
      · refine v_ald0 dX7_passesBy_55 ?_
        refine v_getr dX7_passesBy_56 gX7_9 sh_92 rfl ?_
        refine v_bipushN (n := 7) dX7_passesBy_59 (by decide) ?_
        refine v_ild2 dX7_passesBy_61 ?_
        refine v_iaddN dX7_passesBy_62 ?_
        refine v_ialdN dX7_passesBy_63 sh_93 (by omega) (by decide) ?_
        refine v_eq (hsu) ?_
        refine v_goto (tgt := 73) dX7_passesBy_64 (by decide) ?_
        refine v_callVv (kM_put E _ hk8 (by omega)) dX7_passesBy_73 cX7_115 rfl sh_92 rfl (by decide) (Nat.le_of_ble_eq_true rfl) rfl (fun M5z hq5 => ?_)
        rw [hq5]
        clear hq5
        refine v_iincN3 (n := 1) dX7_passesBy_76 (by decide) ?_
        refine v_goto (tgt := 18) dX7_passesBy_79 (by decide) ?_
        exact ih _ ⟨by rw [mv_u (by omega), rd_t (by rw [← hv]; exact h52), hsk, ← hv, show 19 + 10 * k + (4 + (dN (drw (mv Mz 0)) % 6)) = 23 + 10 * k + (dN (drw (mv Mz 0)) % 6) by omega], hfr.tr (FrM.w _ (by omega))⟩
    · obtain ⟨hv, hfr⟩ := hM
      have hKu := (rd_ok (wh := (dN (mv Mz 0) % 8)) hI2 hf6 (pn (mv Mz)) hI.pn.2).2.1
      rw [← hv] at hKu
      have hpu : Mk 93 1 = nI (pn (mv Mz)) := (hKu.2.1.trans (pk_un (by decide))).trans hI.pn.1
      refine v_ild3 dX7_passesBy_18 ?_
      refine v_ald0 dX7_passesBy_19 ?_
      refine v_getr dX7_passesBy_20 gX7_9 sh_92 rfl ?_
      refine v_iconstN (n := 1) dX7_passesBy_23 ?_
      refine v_ialdN dX7_passesBy_24 sh_93 (by omega) (by decide) ?_
      refine v_eq (hpu) ?_
      refine v_icmpN_ge (tgt := 82) dX7_passesBy_25 (by decide) (by omega) (by omega) (fun h25 => ?_) (fun h25 => absurd h25 (by omega))
      exact v_vret dX7_passesBy_82 rfl (⟨by rw [hv]; unfold road; rw [if_neg hs0], hfr⟩)
set_option maxRecDepth 100000 in
set_option maxHeartbeats 4000000 in
theorem kM_week (E : ev) (Mz : mm) {W T : Nat} {tt : Nat → tx} (hI : CI (mv Mz) W) (hW : W < 2 ^ 24) (hT : TxM Mz tt T) : Ct E 6 yX7_week cX7_week 3 none [.inr 92] Mz (qV E (fun M' => mv M' = wkS (pfT tt T) (mv Mz) ∧ FrM Mz M')) := by
  refine ct_of (by decide) (Nat.le_of_ble_eq_true rfl) ?_
  show V E 6 _ _ _ _ _ 0 [some (.inr 92), none, none] [] Mz
  have hp8 := hI.pn.2
  refine v_iconstN (n := 0) dX7_week_0 ?_
  refine v_ist1 dX7_week_1 (by decide) ?_
  refine v_loopP (pc := 2) (fun j _ => [some (.inr 92), some (.inl (nI j)), none]) (fun j Mj => mv Mj = atK (pfT tt T) (mv Mz) j ∧ FrM Mz Mj) (pn (mv Mz)) (rfl) (⟨rfl, FrM.rf Mz⟩) (fun j Mj hj hMj ihj => ?_) (fun Mj hMj => ?_)
  · obtain ⟨hvj, hfrj⟩ := hMj
    obtain ⟨hIj, hKj⟩ := at_ok (pfT_ok tt T) hI j (by omega)
    rw [← hvj] at hIj hKj
    have hpj : Mj 93 1 = nI (pn (mv Mz)) := hKj.2.1.trans hI.pn.1
    have hTj : TxM Mj tt T := hT.fr hfrj hKj.2.2.2.2.2
    have hj8 : j < 8 := by omega
    refine v_ild1 dX7_week_2 ?_
    refine v_ald0 dX7_week_3 ?_
    refine v_getr dX7_week_4 gX7_9 sh_92 rfl ?_
    refine v_iconstN (n := 1) dX7_week_7 ?_
    refine v_ialdN dX7_week_8 sh_93 (by omega) (by decide) ?_
    refine v_eq (hpj) ?_
    refine v_icmpN_ge (tgt := 23) dX7_week_9 (by decide) (by omega) (by omega) (fun h9 => absurd h9 (by omega)) (fun h9 => ?_)
    refine v_ald0 dX7_week_12 ?_
    refine v_ild1 dX7_week_13 ?_
    refine v_callVv (kM_talks E Mj hj8 hIj hW hTj) dX7_week_14 cX7_162 rfl sh_92 rfl (by decide) (Nat.le_of_ble_eq_true rfl) rfl (fun M1z hq => ?_)
    refine v_iincN1 (n := 1) dX7_week_17 (by decide) ?_
    refine v_goto (tgt := 2) dX7_week_20 (by decide) ?_
    exact ihj _ ⟨by rw [hq.1, hvj]; rfl, hfrj.tr hq.2⟩
  · obtain ⟨hvj, hfrj⟩ := hMj
    obtain ⟨hIj, hKj⟩ := at_ok (pfT_ok tt T) hI (pn (mv Mz)) hI.pn.2
    rw [← hvj] at hIj hKj
    have hpj : Mj 93 1 = nI (pn (mv Mz)) := hKj.2.1.trans hI.pn.1
    refine v_ild1 dX7_week_2 ?_
    refine v_ald0 dX7_week_3 ?_
    refine v_getr dX7_week_4 gX7_9 sh_92 rfl ?_
    refine v_iconstN (n := 1) dX7_week_7 ?_
    refine v_ialdN dX7_week_8 sh_93 (by omega) (by decide) ?_
    refine v_eq (hpj) ?_
    refine v_icmpN_ge (tgt := 23) dX7_week_9 (by decide) (by omega) (by omega) (fun h9 => ?_) (fun h9 => absurd h9 (by omega))
    refine v_ald0 dX7_week_23 ?_
    refine v_callVv (kM_passesBy E Mj hIj) dX7_week_24 cX7_166 rfl sh_92 rfl (by decide) (Nat.le_of_ble_eq_true rfl) rfl (fun M1z hq => ?_)
    have hIr : CI (mv M1z) W := by rw [hq.1]; exact (road_ok hIj).1
    have hwk : M1z 93 2 = nI (mv M1z 2).toNatClampNeg ∧ (mv M1z 2).toNatClampNeg < W := hIr.2.2.2.1.eq (by omega)
    have hf6 : ((mv M1z 2).toNatClampNeg % 6) < 6 := Nat.mod_lt _ (by decide)
    have hfr1 := hfrj.tr hq.2
    refine v_ald0 dX7_week_27 ?_
    refine v_getr dX7_week_28 gX7_9 sh_92 rfl ?_
    refine v_iconstN (n := 2) dX7_week_31 ?_
    refine v_ialdN dX7_week_32 sh_93 (by omega) (by decide) ?_
    refine v_eq (hwk.1) ?_
    refine v_bipushN (n := 6) dX7_week_33 (by decide) ?_
    refine v_iremN dX7_week_35 (by omega) (by omega) (by omega) ?_
    refine v_ist1 dX7_week_36 (by decide) ?_
    refine v_ald0 dX7_week_37 ?_
    refine v_ild1 dX7_week_38 ?_
    refine v_callVi (kM_firstOf E M1z hf6 hIr) dX7_week_39 cX7_93 rfl sh_92 rfl (by decide) (Nat.le_of_ble_eq_true rfl) rfl (fun r2 M2z hq2 => ?_)
    obtain ⟨hr2, hm2⟩ := hq2
    rw [hr2, hm2]
    clear hr2 hm2
    refine v_ist2 dX7_week_42 (by decide) ?_
    refine v_ald0 dX7_week_43 ?_
    refine v_getr dX7_week_44 gX7_9 sh_92 rfl ?_
    refine v_bipushN (n := 13) dX7_week_47 (by decide) ?_
    refine v_ild1 dX7_week_49 ?_
    refine v_iaddN dX7_week_50 ?_
    refine v_ild2 dX7_week_51 ?_
    refine v_iastN dX7_week_52 sh_93 (by omega) (by decide) ?_
    refine v_ald0 dX7_week_53 ?_
    refine v_getr dX7_week_54 gX7_9 sh_92 rfl ?_
    refine v_iconstN (n := 3) dX7_week_57 ?_
    refine v_dup2 dX7_week_58 ?_
    refine v_ialdN dX7_week_59 sh_93 (by omega) (by decide) ?_
    refine v_eq (show _ = mv M1z 3 from by rw [wr_at, pk_un (by omega)]; rfl) ?_
    refine v_ild2 dX7_week_60 ?_
    refine v_if_ne (tgt := 68) dX7_week_61 (by decide) (fun h61 => ?_) (fun h61 => ?_)
    · refine v_ald0 dX7_week_68 ?_
      refine v_ild1 dX7_week_69 ?_
      refine v_ild2 dX7_week_70 ?_
      refine v_callVi (kM_votesFor E _ (W := W) hf6 (by rw [mv_u (by omega)]; exact CI_upd hIr (by omega) (by omega) (by omega) (by rw [rg_gr hf6]; exact fc_in _ _))) dX7_week_71 cX7_90 rfl sh_92 rfl (by decide) (Nat.le_of_ble_eq_true rfl) rfl (fun r3 M3z hq3 => ?_)
      obtain ⟨hr3, hm3⟩ := hq3
      rw [hr3, hm3, mv_u (by omega), vot_gr (by omega)]
      clear hr3 hm3
      refine v_iadd dX7_week_74 ?_
      refine v_iastN dX7_week_75 sh_93 (by omega) (by decide) ?_
      refine v_ald0 dX7_week_76 ?_
      refine v_getr dX7_week_77 gX7_9 sh_92 rfl ?_
      refine v_iconstN (n := 4) dX7_week_80 ?_
      refine v_dup2 dX7_week_81 ?_
      refine v_ialdN dX7_week_82 sh_93 (by omega) (by decide) ?_
      refine v_eq (show _ = mv M1z 4 from by rw [wr_at, pk_un (by decide), wr_at, pk_un (by omega)]; rfl) ?_
      refine v_ild2 dX7_week_83 ?_
      refine v_ald0 dX7_week_84 ?_
      refine v_getr dX7_week_85 gX7_9 sh_92 rfl ?_
      refine v_bipushN (n := 7) dX7_week_88 (by decide) ?_
      refine v_ild1 dX7_week_90 ?_
      refine v_iaddN dX7_week_91 ?_
      refine v_ialdN dX7_week_92 sh_93 (by omega) (by decide) ?_
      refine v_eq (show _ = sw (mv M1z) ((mv M1z 2).toNatClampNeg % 6) from by rw [wr_at, pk_un (by omega), wr_at, pk_un (by omega)]; exact (mv_at M1z (by omega)).symm) ?_
      refine v_icmp_ne (tgt := 100) dX7_week_93 (by decide) (fun h93 => ?_) (fun h93 => ?_)
      · refine v_iconstN (n := 1) dX7_week_100 ?_
        refine v_iadd dX7_week_101 ?_
        refine v_iastN dX7_week_102 sh_93 (by omega) (by decide) ?_
        refine v_ald0 dX7_week_103 ?_
        refine v_getr dX7_week_104 gX7_9 sh_92 rfl ?_
        refine v_iconstN (n := 2) dX7_week_107 ?_
        refine v_dup2 dX7_week_108 ?_
        refine v_ialdN dX7_week_109 sh_93 (by omega) (by decide) ?_
        refine v_eq (show _ = mv M1z 2 from by rw [wr_at, pk_un (by decide), wr_at, pk_un (by decide), wr_at, pk_un (by omega)]; rfl) ?_
        refine v_iconstN (n := 1) dX7_week_110 ?_
        refine v_iadd dX7_week_111 ?_
        refine v_iastN dX7_week_112 sh_93 (by omega) (by decide) ?_
        exact v_vret dX7_week_113 rfl (⟨by
              rw [mv_u (by decide), mv_u (by decide), mv_u (by decide), mv_u (by omega)]
              unfold wkS
              rw [← hvj, ← hq.1]
              simp only []
              have e1 : grw2 (mv M1z) ((mv M1z 2).toNatClampNeg % 6) = upd (upd (mv M1z) (13 + ((mv M1z 2).toNatClampNeg % 6)) (fc (mv M1z) ((mv M1z 2).toNatClampNeg % 6))) 3 (mv M1z 3 + vot (mv M1z) ((mv M1z 2).toNatClampNeg % 6) (fc (mv M1z) ((mv M1z 2).toNatClampNeg % 6))) := by unfold grw2 grw1; rw [if_neg h61]
              have e2 : grwS (mv M1z) ((mv M1z 2).toNatClampNeg % 6) = upd (upd (upd (mv M1z) (13 + ((mv M1z 2).toNatClampNeg % 6)) (fc (mv M1z) ((mv M1z 2).toNatClampNeg % 6))) 3 (mv M1z 3 + vot (mv M1z) ((mv M1z 2).toNatClampNeg % 6) (fc (mv M1z) ((mv M1z 2).toNatClampNeg % 6)))) 4 (mv M1z 4 + nI 1) := by
                unfold grwS
                rw [e1]
                rw [if_neg h93]
              rw [e2, pk_un (by decide), pk_un (by decide), pk_un (by omega)], (((hfr1.tr (FrM.w _ (by omega))).tr (FrM.w _ (by decide))).tr (FrM.w _ (by decide))).tr (FrM.w _ (by decide))⟩)
      · refine v_iconstN (n := 0) dX7_week_96 ?_
        refine v_goto (tgt := 101) dX7_week_97 (by decide) ?_
        refine v_iadd dX7_week_101 ?_
        refine v_iastN dX7_week_102 sh_93 (by omega) (by decide) ?_
        refine v_ald0 dX7_week_103 ?_
        refine v_getr dX7_week_104 gX7_9 sh_92 rfl ?_
        refine v_iconstN (n := 2) dX7_week_107 ?_
        refine v_dup2 dX7_week_108 ?_
        refine v_ialdN dX7_week_109 sh_93 (by omega) (by decide) ?_
        refine v_eq (show _ = mv M1z 2 from by rw [wr_at, pk_un (by decide), wr_at, pk_un (by decide), wr_at, pk_un (by omega)]; rfl) ?_
        refine v_iconstN (n := 1) dX7_week_110 ?_
        refine v_iadd dX7_week_111 ?_
        refine v_iastN dX7_week_112 sh_93 (by omega) (by decide) ?_
        exact v_vret dX7_week_113 rfl (⟨by
              rw [mv_u (by decide), mv_u (by decide), mv_u (by decide), mv_u (by omega)]
              unfold wkS
              rw [← hvj, ← hq.1]
              simp only []
              have e1 : grw2 (mv M1z) ((mv M1z 2).toNatClampNeg % 6) = upd (upd (mv M1z) (13 + ((mv M1z 2).toNatClampNeg % 6)) (fc (mv M1z) ((mv M1z 2).toNatClampNeg % 6))) 3 (mv M1z 3 + vot (mv M1z) ((mv M1z 2).toNatClampNeg % 6) (fc (mv M1z) ((mv M1z 2).toNatClampNeg % 6))) := by unfold grw2 grw1; rw [if_neg h61]
              have e2 : grwS (mv M1z) ((mv M1z 2).toNatClampNeg % 6) = upd (upd (upd (mv M1z) (13 + ((mv M1z 2).toNatClampNeg % 6)) (fc (mv M1z) ((mv M1z 2).toNatClampNeg % 6))) 3 (mv M1z 3 + vot (mv M1z) ((mv M1z 2).toNatClampNeg % 6) (fc (mv M1z) ((mv M1z 2).toNatClampNeg % 6)))) 4 (mv M1z 4 + nI 0) := by
                unfold grwS
                rw [e1]
                rw [if_pos h93]; exact (upd_id (by rw [pk_un (by decide), pk_un (by omega)]; simp [nI_0])).symm
              rw [e2, pk_un (by decide), pk_un (by decide), pk_un (by omega)], (((hfr1.tr (FrM.w _ (by omega))).tr (FrM.w _ (by decide))).tr (FrM.w _ (by decide))).tr (FrM.w _ (by decide))⟩)
    · refine v_iconstN (n := 0) dX7_week_64 ?_
      refine v_goto (tgt := 74) dX7_week_65 (by decide) ?_
      refine v_iadd dX7_week_74 ?_
      refine v_iastN dX7_week_75 sh_93 (by omega) (by decide) ?_
      refine v_ald0 dX7_week_76 ?_
      refine v_getr dX7_week_77 gX7_9 sh_92 rfl ?_
      refine v_iconstN (n := 4) dX7_week_80 ?_
      refine v_dup2 dX7_week_81 ?_
      refine v_ialdN dX7_week_82 sh_93 (by omega) (by decide) ?_
      refine v_eq (show _ = mv M1z 4 from by rw [wr_at, pk_un (by decide), wr_at, pk_un (by omega)]; rfl) ?_
      refine v_ild2 dX7_week_83 ?_
      refine v_ald0 dX7_week_84 ?_
      refine v_getr dX7_week_85 gX7_9 sh_92 rfl ?_
      refine v_bipushN (n := 7) dX7_week_88 (by decide) ?_
      refine v_ild1 dX7_week_90 ?_
      refine v_iaddN dX7_week_91 ?_
      refine v_ialdN dX7_week_92 sh_93 (by omega) (by decide) ?_
      refine v_eq (show _ = sw (mv M1z) ((mv M1z 2).toNatClampNeg % 6) from by rw [wr_at, pk_un (by omega), wr_at, pk_un (by omega)]; exact (mv_at M1z (by omega)).symm) ?_
      refine v_icmp_ne (tgt := 100) dX7_week_93 (by decide) (fun h93 => ?_) (fun h93 => ?_)
      · refine v_iconstN (n := 1) dX7_week_100 ?_
        refine v_iadd dX7_week_101 ?_
        refine v_iastN dX7_week_102 sh_93 (by omega) (by decide) ?_
        refine v_ald0 dX7_week_103 ?_
        refine v_getr dX7_week_104 gX7_9 sh_92 rfl ?_
        refine v_iconstN (n := 2) dX7_week_107 ?_
        refine v_dup2 dX7_week_108 ?_
        refine v_ialdN dX7_week_109 sh_93 (by omega) (by decide) ?_
        refine v_eq (show _ = mv M1z 2 from by rw [wr_at, pk_un (by decide), wr_at, pk_un (by decide), wr_at, pk_un (by omega)]; rfl) ?_
        refine v_iconstN (n := 1) dX7_week_110 ?_
        refine v_iadd dX7_week_111 ?_
        refine v_iastN dX7_week_112 sh_93 (by omega) (by decide) ?_
        exact v_vret dX7_week_113 rfl (⟨by
              rw [mv_u (by decide), mv_u (by decide), mv_u (by decide), mv_u (by omega)]
              unfold wkS
              rw [← hvj, ← hq.1]
              simp only []
              have e1 : grw2 (mv M1z) ((mv M1z 2).toNatClampNeg % 6) = upd (upd (mv M1z) (13 + ((mv M1z 2).toNatClampNeg % 6)) (fc (mv M1z) ((mv M1z 2).toNatClampNeg % 6))) 3 (mv M1z 3 + 0) := by unfold grw2 grw1; rw [if_pos h61]
              have e2 : grwS (mv M1z) ((mv M1z 2).toNatClampNeg % 6) = upd (upd (upd (mv M1z) (13 + ((mv M1z 2).toNatClampNeg % 6)) (fc (mv M1z) ((mv M1z 2).toNatClampNeg % 6))) 3 (mv M1z 3 + nI 0)) 4 (mv M1z 4 + nI 1) := by
                unfold grwS
                rw [e1]
                rw [if_neg h93]; rfl
              rw [e2, pk_un (by decide), pk_un (by decide), pk_un (by omega)], (((hfr1.tr (FrM.w _ (by omega))).tr (FrM.w _ (by decide))).tr (FrM.w _ (by decide))).tr (FrM.w _ (by decide))⟩)
      · refine v_iconstN (n := 0) dX7_week_96 ?_
        refine v_goto (tgt := 101) dX7_week_97 (by decide) ?_
        refine v_iadd dX7_week_101 ?_
        refine v_iastN dX7_week_102 sh_93 (by omega) (by decide) ?_
        refine v_ald0 dX7_week_103 ?_
        refine v_getr dX7_week_104 gX7_9 sh_92 rfl ?_
        refine v_iconstN (n := 2) dX7_week_107 ?_
        refine v_dup2 dX7_week_108 ?_
        refine v_ialdN dX7_week_109 sh_93 (by omega) (by decide) ?_
        refine v_eq (show _ = mv M1z 2 from by rw [wr_at, pk_un (by decide), wr_at, pk_un (by decide), wr_at, pk_un (by omega)]; rfl) ?_
        refine v_iconstN (n := 1) dX7_week_110 ?_
        refine v_iadd dX7_week_111 ?_
        refine v_iastN dX7_week_112 sh_93 (by omega) (by decide) ?_
        exact v_vret dX7_week_113 rfl (⟨by
              rw [mv_u (by decide), mv_u (by decide), mv_u (by decide), mv_u (by omega)]
              unfold wkS
              rw [← hvj, ← hq.1]
              simp only []
              have e1 : grw2 (mv M1z) ((mv M1z 2).toNatClampNeg % 6) = upd (upd (mv M1z) (13 + ((mv M1z 2).toNatClampNeg % 6)) (fc (mv M1z) ((mv M1z 2).toNatClampNeg % 6))) 3 (mv M1z 3 + 0) := by unfold grw2 grw1; rw [if_pos h61]
              have e2 : grwS (mv M1z) ((mv M1z 2).toNatClampNeg % 6) = upd (upd (upd (mv M1z) (13 + ((mv M1z 2).toNatClampNeg % 6)) (fc (mv M1z) ((mv M1z 2).toNatClampNeg % 6))) 3 (mv M1z 3 + nI 0)) 4 (mv M1z 4 + nI 0) := by
                unfold grwS
                rw [e1]
                rw [if_pos h93]; exact (upd_id (by rw [pk_un (by decide), pk_un (by omega)]; simp [nI_0])).symm
              rw [e2, pk_un (by decide), pk_un (by decide), pk_un (by omega)], (((hfr1.tr (FrM.w _ (by omega))).tr (FrM.w _ (by decide))).tr (FrM.w _ (by decide))).tr (FrM.w _ (by decide))⟩)
set_option maxRecDepth 100000 in
set_option maxHeartbeats 4000000 in
theorem kM_goesOn (E : ev) (Mz : mm) {n W T : Nat} {tt : Nat → tx} (hI : CI (mv Mz) W) (hW : W + n < 2 ^ 24) (hT : TxM Mz tt T) : Ct E 7 yX7_goesOn cX7_goesOn 3 none [.inr 92, .inl (nI n)] Mz (qV E (fun M' => mv M' = wksS (pfT tt T) (mv Mz) n ∧ FrM Mz M')) := by
  refine ct_of (by decide) (Nat.le_of_ble_eq_true rfl) ?_
  show V E 7 _ _ _ _ _ 0 [some (.inr 92), some (.inl (nI n)), none] [] Mz
  refine v_iconstN (n := 0) dX7_goesOn_0 ?_
  refine v_ist2 dX7_goesOn_1 (by decide) ?_
  refine v_loopP (pc := 2) (fun k _ => [some (.inr 92), some (.inl (nI n)), some (.inl (nI k))]) (fun k Mk => mv Mk = wksS (pfT tt T) (mv Mz) k ∧ FrM Mz Mk) (n) (rfl) (⟨rfl, FrM.rf Mz⟩) (fun k Mk hk hM ih => ?_) (fun Mk hM => ?_)
  · obtain ⟨hv, hfr⟩ := hM
    obtain ⟨hIk, hk1, hk6⟩ := wks_ok (pfT_ok tt T) hI k (by omega)
    rw [← hv] at hIk hk1 hk6
    have hTk : TxM Mk tt T := hT.fr hfr hk6
    refine v_ild2 dX7_goesOn_2 ?_
    refine v_ild1 dX7_goesOn_3 ?_
    refine v_icmpN_ge (tgt := 17) dX7_goesOn_4 (by decide) (by omega) (by omega) (fun h4 => absurd h4 (by omega)) (fun h4 => ?_)
    refine v_ald0 dX7_goesOn_7 ?_
    refine v_callVv (kM_week E Mk hIk (by omega) hTk) dX7_goesOn_8 cX7_169 rfl sh_92 rfl (by decide) (Nat.le_of_ble_eq_true rfl) rfl (fun M1z hq => ?_)
    refine v_iincN2 (n := 1) dX7_goesOn_11 (by decide) ?_
    refine v_goto (tgt := 2) dX7_goesOn_14 (by decide) ?_
    exact ih _ ⟨by rw [hq.1, hv]; rfl, hfr.tr hq.2⟩
  · obtain ⟨hv, hfr⟩ := hM
    refine v_ild2 dX7_goesOn_2 ?_
    refine v_ild1 dX7_goesOn_3 ?_
    refine v_icmpN_ge (tgt := 17) dX7_goesOn_4 (by decide) (by omega) (by omega) (fun h4 => ?_) (fun h4 => absurd h4 (by omega))
    exact v_vret dX7_goesOn_17 rfl (⟨hv, hfr⟩)
