/-! what it costs -/
def R_fee (tt : Nat → tx) (T : Nat) (v : fl) : Int32 := if lastK (ksT tt) 1 T < 0 then v 3 else evT tt (tN (lastK (ksT tt) 1 T)) (nmF (v 3) (v 4))
def R_fine (tt : Nat → tx) (T : Nat) (v : fl) (x : Int32) : Int32 := if isP v x = true then (if lastK (ksT tt) 2 T < 0 then su v (tN x) else evT tt (tN (lastK (ksT tt) 2 T)) (nmN (tr v (tN x)) (su v (tN x)))) else cBAD
set_option maxRecDepth 100000 in
set_option maxHeartbeats 4000000 in
theorem aX_fee (E : ev) (Mz : mm) {T : Nat} {tt : Nat → tx} (hT : TxC Mz 38 tt T) : Ct E 2 yX6_fee cX6_fee 2 (some .int) [.inr 0] Mz (qI E (fun r M' => r = R_fee tt T (cv Mz 38) ∧ Scr Mz M')) := by
  refine ct_of (by decide) (Nat.le_of_ble_eq_true rfl) ?_
  show V E 2 _ _ _ _ _ 0 [some (.inr 0), none] [] Mz
  refine v_ald0 dX6_fee_0 ?_
  refine v_getr dX6_fee_1 gX6_28 sh_0 rfl ?_
  refine v_getr dX6_fee_4 gX6_209 sh_38 rfl ?_
  refine v_iconstN (n := 1) dX6_fee_7 ?_
  refine v_ialdN dX6_fee_8 sh_46 (by omega) (by decide) ?_
  refine v_eq (hT.2.2.2 1 (by decide)) ?_
  refine v_ist1 dX6_fee_9 (by decide) ?_
  refine v_ild1 dX6_fee_10 ?_
  refine v_if_ge (tgt := 22) dX6_fee_11 (by decide) (fun h11 => ?_) (fun h11 => ?_)
  · obtain ⟨t, ht, he, hkt⟩ : ∃ t, t < T ∧ lastK (ksT tt) 1 T = nI t ∧ ksT tt t = 1 := (lastK_cases (ksT tt) 1 T).resolve_left (fun e => by rw [e] at h11; exact absurd h11 (by decide))
    refine v_lo (L' := [some (.inr 0), some (.inl (nI t))]) (by rw [he]) ?_
    obtain ⟨hok, hk0, hk1, hk2, hkc⟩ := hT.2.2.1 t ht
    have hT14 := hT.1
    refine v_ald0 dX6_fee_22 ?_
    refine v_getr dX6_fee_23 gX6_10 sh_0 rfl ?_
    refine v_getr dX6_fee_26 gX6_212 sh_1 rfl ?_
    refine v_iconstN (n := 4) dX6_fee_29 ?_
    refine v_ald0 dX6_fee_30 ?_
    refine v_getr dX6_fee_31 gX6_28 sh_0 rfl ?_
    refine v_geti dX6_fee_34 gX6_154 sh_38 rfl ?_
    refine v_eq (show _ = cv Mz 38 3 from rfl) ?_
    refine v_iastN dX6_fee_37 sh_3 (by omega) (by decide) ?_
    refine v_ald0 dX6_fee_38 ?_
    refine v_getr dX6_fee_39 gX6_10 sh_0 rfl ?_
    refine v_getr dX6_fee_42 gX6_212 sh_1 rfl ?_
    refine v_iconstN (n := 5) dX6_fee_45 ?_
    refine v_ald0 dX6_fee_46 ?_
    refine v_getr dX6_fee_47 gX6_28 sh_0 rfl ?_
    refine v_geti dX6_fee_50 gX6_164 sh_38 rfl ?_
    refine v_eq (show _ = cv Mz 38 4 from by rw [wr_ne (by decide)]; rfl) ?_
    refine v_iastN dX6_fee_53 sh_3 (by omega) (by decide) ?_
    generalize hM4 : wr (wr Mz 3 4 (cv Mz 38 3)) 3 5 (cv Mz 38 4) = M4
    have h4 : ∀ b, b ≠ 3 → M4 b = Mz b := fun b hb => by rw [← hM4, wr_ne hb, wr_ne hb]
    have h43 : ∀ q, q = 4 ∨ q = 5 → M4 3 q = nmF (cv Mz 38 3) (cv Mz 38 4) q := fun q hq => by
      rw [← hM4, wr_at, wr_at]
      rcases hq with rfl | rfl <;> rfl
    refine v_ald0 dX6_fee_54 ?_
    refine v_getr dX6_fee_55 gX6_10 sh_0 rfl ?_
    refine v_ild1 dX6_fee_58 ?_
    refine v_callVi (kL_given E M4 (num := t) (n := (tt t).2.1) (by omega) (by rw [h4 _ (by omega)]; exact hk2) (WF_congr (fun i hi => by rw [h4 _ (by omega)]; exact hkc i hi) hok.2.1)) dX6_fee_59 cX6_215 rfl sh_1 rfl (by decide) (Nat.le_of_ble_eq_true rfl) rfl (fun r M1z hq => ?_)
    obtain ⟨hr, g, hm⟩ := hq
    rw [hr, hm]
    exact v_iret dX6_fee_62 rfl (⟨by unfold R_fee evT; rw [he, if_neg (nI_pos (by omega)), tN_n (by omega), gst_congr hok.2.1 (fun i hi => by rw [h4 _ (by omega)]; exact hkc i hi) (fun i hi j hj e => h43 j (by have hz := hok.2.2.1 i hi j hj e; have hk' : (tt t).1 = 1 := hkt; unfold okN at hz; omega)) _ (Nat.le_refl _)], M4 3, g, by rw [← wa_of h4]⟩)
  · refine v_ald0 dX6_fee_14 ?_
    refine v_getr dX6_fee_15 gX6_28 sh_0 rfl ?_
    refine v_geti dX6_fee_18 gX6_154 sh_38 rfl ?_
    exact v_iret dX6_fee_21 rfl (⟨by unfold R_fee; rw [if_pos (Int32.not_le.mp h11)]; rfl, Scr.rf Mz⟩)
set_option maxRecDepth 100000 in
set_option maxHeartbeats 4000000 in
theorem aM_fee (E : ev) (Mz : mm) {T : Nat} {tt : Nat → tx} (hT : TxM Mz tt T) : Ct E 2 yX7_fee cX7_fee 2 (some .int) [.inr 92] Mz (qI E (fun r M' => r = R_fee tt T (mv Mz) ∧ ScM Mz M')) := by
  refine ct_of (by decide) (Nat.le_of_ble_eq_true rfl) ?_
  show V E 2 _ _ _ _ _ 0 [some (.inr 92), none] [] Mz
  refine v_ald0 dX7_fee_0 ?_
  refine v_iconstN (n := 1) dX7_fee_1 ?_
  refine v_callVi (kM_counts E _ (T := T) (ks := ksT tt) hT.2.1 hT.1 (by decide) (fun t ht => ⟨(hT.2.2 t ht).1.1, (tt t).2.1, by have := (hT.2.2 t ht).1.2.1.2.1; omega, (hT.2.2 t ht).2.1⟩)) dX7_fee_2 cX7_102 rfl sh_92 rfl (by decide) (Nat.le_of_ble_eq_true rfl) rfl (fun r M1z hq => ?_)
  obtain ⟨hr, hm⟩ := hq
  rw [hr, hm]
  clear hr hm
  refine v_ist1 dX7_fee_5 (by decide) ?_
  refine v_ald0 dX7_fee_6 ?_
  refine v_getr dX7_fee_7 gX7_45 sh_92 rfl ?_
  refine v_iconstN (n := 0) dX7_fee_10 ?_
  refine v_ald0 dX7_fee_11 ?_
  refine v_getr dX7_fee_12 gX7_9 sh_92 rfl ?_
  refine v_iconstN (n := 3) dX7_fee_15 ?_
  refine v_ialdN dX7_fee_16 sh_93 (by omega) (by decide) ?_
  refine v_eq (show _ = mv Mz 3 from (mv_at Mz (by decide)).symm) ?_
  refine v_iastN dX7_fee_17 sh_104 (by omega) (by decide) ?_
  refine v_ald0 dX7_fee_18 ?_
  refine v_getr dX7_fee_19 gX7_45 sh_92 rfl ?_
  refine v_iconstN (n := 1) dX7_fee_22 ?_
  refine v_ald0 dX7_fee_23 ?_
  refine v_getr dX7_fee_24 gX7_9 sh_92 rfl ?_
  refine v_iconstN (n := 4) dX7_fee_27 ?_
  refine v_ialdN dX7_fee_28 sh_93 (by omega) (by decide) ?_
  refine v_eq (show _ = mv Mz 4 from by rw [wr_ne (by decide)]; exact (mv_at Mz (by decide)).symm) ?_
  refine v_iastN dX7_fee_29 sh_104 (by omega) (by decide) ?_
  generalize hM4 : wr (wr Mz 104 0 (mv Mz 3)) 104 1 (mv Mz 4) = M4
  have h4 : ∀ b, b ≠ 104 → M4 b = Mz b := fun b hb => by rw [← hM4, wr_ne hb, wr_ne hb]
  have h4v : mv M4 = mv Mz := by unfold mv; rw [h4 93 (by decide)]
  have h43 : ∀ q, okN 1 q → M4 104 (locN 1 q) = nmF (mv Mz 3) (mv Mz 4) q := fun q hq => by
    rw [← hM4, wr_at, wr_at]
    rcases (show q = 4 ∨ q = 5 by unfold okN at hq; omega) with rfl | rfl <;> rfl
  refine v_ild1 dX7_fee_30 ?_
  refine v_if_ge (tgt := 43) dX7_fee_31 (by decide) (fun h31 => ?_) (fun h31 => ?_)
  · obtain ⟨t, ht, he, hkt⟩ : ∃ t, t < T ∧ lastK (ksT tt) 1 T = nI t ∧ ksT tt t = 1 := (lastK_cases (ksT tt) 1 T).resolve_left (fun e => by rw [e] at h31; exact absurd h31 (by decide))
    refine v_lo (L' := [some (.inr 92), some (.inl (nI t))]) (by rw [he]) ?_
    obtain ⟨hok, hk0, hk1, hkc⟩ := hT.2.2 t ht
    have hT14 := hT.1
    refine v_ald0 dX7_fee_43 ?_
    refine v_ild1 dX7_fee_44 ?_
    refine v_callVi (kM_worksOut E M4 (t := t) (key := 1) (n := (tt t).2.1) (xs := (tt t).2.2.2) (nm := nmF (mv Mz 3) (mv Mz 4)) (by omega) (by decide) (by rw [h4 _ (by decide), hk0, show (tt t).1 = 1 from hkt]) hok.2.1 (fun i hi => tm_ok (by rw [h4 _ (by decide)]; have hz := hkc i hi; rw [show (tt t).1 = 1 from hkt] at hz; exact hz) h43)) dX7_fee_45 cX7_105 rfl sh_92 rfl (by decide) (Nat.le_of_ble_eq_true rfl) rfl (fun r M1z hq => ?_)
    obtain ⟨hr, g, hm⟩ := hq
    rw [hr, hm]
    exact v_iret dX7_fee_48 rfl (⟨by unfold R_fee evT; rw [he, if_neg (nI_pos (by omega)), tN_n (by omega)], M4 104, g, by rw [← wa_of h4]⟩)
  · refine v_ald0 dX7_fee_34 ?_
    refine v_getr dX7_fee_35 gX7_9 sh_92 rfl ?_
    refine v_iconstN (n := 3) dX7_fee_38 ?_
    refine v_ialdN dX7_fee_39 sh_93 (by omega) (by decide) ?_
    refine v_eq (show _ = mv Mz 3 from by rw [h4 _ (by decide)]; exact (mv_at Mz (by decide)).symm) ?_
    refine v_goto (tgt := 48) dX7_fee_40 (by decide) ?_
    exact v_iret dX7_fee_48 rfl (⟨by unfold R_fee; rw [if_pos (Int32.not_le.mp h31)], ⟨M4 104, M4 103, by rw [← wa_of h4, wa_self]⟩⟩)
set_option maxRecDepth 100000 in
set_option maxHeartbeats 4000000 in
theorem aX_fine (E : ev) (Mz : mm) {x : Int32} {W T : Nat} {tt : Nat → tx} (hI : CI (cv Mz 38) W) (hT : TxC Mz 38 tt T) : Ct E 2 yX6_fine cX6_fine 3 (some .int) [.inr 0, .inl x] Mz (qI E (fun r M' => r = R_fine tt T (cv Mz 38) x ∧ Scr Mz M')) := by
  refine ct_of (by decide) (Nat.le_of_ble_eq_true rfl) ?_
  show V E 2 _ _ _ _ _ 0 [some (.inr 0), some (.inl x), none] [] Mz
  refine v_ald0 dX6_fine_0 ?_
  refine v_ild1 dX6_fine_1 ?_
  refine v_callVi (kX_noPerson E _) dX6_fine_2 cX6_77 rfl sh_0 rfl (by decide) (Nat.le_of_ble_eq_true rfl) rfl (fun r M1z hq => ?_)
  obtain ⟨hr, hm⟩ := hq
  rw [hr, hm]
  clear hr hm
  refine v_if_eq (tgt := 11) dX6_fine_5 (by decide) (fun h5 => ?_) (fun h5 => ?_)
  · obtain ⟨p, hpn, hp, rfl⟩ := isP_n hI (nb0 h5)
    refine v_ald0 dX6_fine_11 ?_
    refine v_getr dX6_fine_12 gX6_28 sh_0 rfl ?_
    refine v_getr dX6_fine_15 gX6_209 sh_38 rfl ?_
    refine v_iconstN (n := 2) dX6_fine_18 ?_
    refine v_ialdN dX6_fine_19 sh_46 (by omega) (by decide) ?_
    refine v_eq (hT.2.2.2 2 (by decide)) ?_
    refine v_ist2 dX6_fine_20 (by decide) ?_
    refine v_ild2 dX6_fine_21 ?_
    refine v_if_ge (tgt := 35) dX6_fine_22 (by decide) (fun h22 => ?_) (fun h22 => ?_)
    · obtain ⟨t, ht, he, hkt⟩ : ∃ t, t < T ∧ lastK (ksT tt) 2 T = nI t ∧ ksT tt t = 2 := (lastK_cases (ksT tt) 2 T).resolve_left (fun e => by rw [e] at h22; exact absurd h22 (by decide))
      refine v_lo (L' := [some (.inr 0), some (.inl (nI p)), some (.inl (nI t))]) (by rw [he]) ?_
      obtain ⟨hok, hk0, hk1, hk2, hkc⟩ := hT.2.2.1 t ht
      have hT14 := hT.1
      refine v_ald0 dX6_fine_35 ?_
      refine v_getr dX6_fine_36 gX6_10 sh_0 rfl ?_
      refine v_getr dX6_fine_39 gX6_212 sh_1 rfl ?_
      refine v_iconstN (n := 0) dX6_fine_42 ?_
      refine v_ald0 dX6_fine_43 ?_
      refine v_getr dX6_fine_44 gX6_28 sh_0 rfl ?_
      refine v_getr dX6_fine_47 gX6_86 sh_38 rfl ?_
      refine v_ild1 dX6_fine_50 ?_
      refine v_ialdN dX6_fine_51 sh_41 (by omega) (by decide) ?_
      refine v_eq ((cv_tr Mz 38 hp).symm) ?_
      refine v_iastN dX6_fine_52 sh_3 (by omega) (by decide) ?_
      refine v_ald0 dX6_fine_53 ?_
      refine v_getr dX6_fine_54 gX6_10 sh_0 rfl ?_
      refine v_getr dX6_fine_57 gX6_212 sh_1 rfl ?_
      refine v_iconstN (n := 2) dX6_fine_60 ?_
      refine v_ald0 dX6_fine_61 ?_
      refine v_getr dX6_fine_62 gX6_28 sh_0 rfl ?_
      refine v_getr dX6_fine_65 gX6_89 sh_38 rfl ?_
      refine v_ild1 dX6_fine_68 ?_
      refine v_ialdN dX6_fine_69 sh_42 (by omega) (by decide) ?_
      refine v_eq (show _ = su (cv Mz 38) p from by rw [wr_ne (by decide)]; exact (cv_su Mz 38 hp).symm) ?_
      refine v_iastN dX6_fine_70 sh_3 (by omega) (by decide) ?_
      generalize hM4 : wr (wr Mz 3 0 (tr (cv Mz 38) p)) 3 2 (su (cv Mz 38) p) = M4
      have h4 : ∀ b, b ≠ 3 → M4 b = Mz b := fun b hb => by rw [← hM4, wr_ne hb, wr_ne hb]
      have h43 : ∀ q, q = 0 ∨ q = 2 → M4 3 q = nmN (tr (cv Mz 38) p) (su (cv Mz 38) p) q := fun q hq => by
        rw [← hM4, wr_at, wr_at]
        rcases hq with rfl | rfl <;> rfl
      refine v_ald0 dX6_fine_71 ?_
      refine v_getr dX6_fine_72 gX6_10 sh_0 rfl ?_
      refine v_ild2 dX6_fine_75 ?_
      refine v_callVi (kL_given E M4 (num := t) (n := (tt t).2.1) (by omega) (by rw [h4 _ (by omega)]; exact hk2) (WF_congr (fun i hi => by rw [h4 _ (by omega)]; exact hkc i hi) hok.2.1)) dX6_fine_76 cX6_215 rfl sh_1 rfl (by decide) (Nat.le_of_ble_eq_true rfl) rfl (fun r M1z hq => ?_)
      obtain ⟨hr, g, hm⟩ := hq
      rw [hr, hm]
      exact v_iret dX6_fine_79 rfl (⟨by unfold R_fine evT; rw [if_pos (nb0 h5), he, if_neg (nI_pos (by omega)), tN_n (p := p) (by omega), tN_n (p := t) (by omega), gst_congr hok.2.1 (fun i hi => by rw [h4 _ (by omega)]; exact hkc i hi) (fun i hi j hj e => h43 j (by have hz := hok.2.2.1 i hi j hj e; have hk' : (tt t).1 = 2 := hkt; unfold okN at hz; omega)) _ (Nat.le_refl _)], M4 3, g, by rw [← wa_of h4]⟩)
    · refine v_ald0 dX6_fine_25 ?_
      refine v_getr dX6_fine_26 gX6_28 sh_0 rfl ?_
      refine v_getr dX6_fine_29 gX6_89 sh_38 rfl ?_
      refine v_ild1 dX6_fine_32 ?_
      refine v_ialdN dX6_fine_33 sh_42 (by omega) (by decide) ?_
      exact v_iret dX6_fine_34 rfl (⟨by unfold R_fine; rw [if_pos (nb0 h5), if_pos (Int32.not_le.mp h22), tN_n (p := p) (by omega)]; exact (cv_su Mz 38 hp).symm, Scr.rf Mz⟩)
  · refine v_ldc dX6_fine_8 kX6_67 ?_
    exact v_iret dX6_fine_10 rfl (⟨by unfold R_fine; rw [if_neg (by rw [nb1 h5]; decide)], Scr.rf Mz⟩)
set_option maxRecDepth 100000 in
set_option maxHeartbeats 4000000 in
theorem aM_fine (E : ev) (Mz : mm) {x : Int32} {W T : Nat} {tt : Nat → tx} (hI : CI (mv Mz) W) (hT : TxM Mz tt T) : Ct E 2 yX7_fine cX7_fine 3 (some .int) [.inr 92, .inl x] Mz (qI E (fun r M' => r = R_fine tt T (mv Mz) x ∧ ScM Mz M')) := by
  refine ct_of (by decide) (Nat.le_of_ble_eq_true rfl) ?_
  show V E 2 _ _ _ _ _ 0 [some (.inr 92), some (.inl x), none] [] Mz
  refine v_ald0 dX7_fine_0 ?_
  refine v_ild1 dX7_fine_1 ?_
  refine v_callVi (kM_isPerson E _) dX7_fine_2 cX7_128 rfl sh_92 rfl (by decide) (Nat.le_of_ble_eq_true rfl) rfl (fun r M1z hq => ?_)
  obtain ⟨hr, hm⟩ := hq
  rw [hr, hm, show inB x (nI 0) (mv Mz 1 - nI 1) = isP (mv Mz) x from rfl]
  clear hr hm
  refine v_if_ne (tgt := 11) dX7_fine_5 (by decide) (fun h5 => ?_) (fun h5 => ?_)
  · obtain ⟨p, hpn, hp, rfl⟩ := isP_n hI (b2_1.mp h5)
    refine v_ald0 dX7_fine_11 ?_
    refine v_iconstN (n := 2) dX7_fine_12 ?_
    refine v_callVi (kM_counts E _ (T := T) (ks := ksT tt) hT.2.1 hT.1 (by decide) (fun t ht => ⟨(hT.2.2 t ht).1.1, (tt t).2.1, by have := (hT.2.2 t ht).1.2.1.2.1; omega, (hT.2.2 t ht).2.1⟩)) dX7_fine_13 cX7_102 rfl sh_92 rfl (by decide) (Nat.le_of_ble_eq_true rfl) rfl (fun r M1z hq => ?_)
    obtain ⟨hr, hm⟩ := hq
    rw [hr, hm]
    clear hr hm
    refine v_ist2 dX7_fine_16 (by decide) ?_
    refine v_ald0 dX7_fine_17 ?_
    refine v_getr dX7_fine_18 gX7_45 sh_92 rfl ?_
    refine v_iconstN (n := 0) dX7_fine_21 ?_
    refine v_ald0 dX7_fine_22 ?_
    refine v_ild1 dX7_fine_23 ?_
    refine v_iconstN (n := 2) dX7_fine_24 ?_
    refine v_callVi (kM_of E Mz hp (by decide)) dX7_fine_25 cX7_79 rfl sh_92 rfl (by decide) (Nat.le_of_ble_eq_true rfl) rfl (fun r M1z hq => ?_)
    obtain ⟨hr, hm⟩ := hq
    rw [hr, hm, show mv Mz (19 + 10 * p + 2) = tr (mv Mz) p from by show _ = mv Mz (21 + 10 * p); congr 1; omega]
    clear hr hm
    refine v_iastN dX7_fine_28 sh_104 (by omega) (by decide) ?_
    refine v_ald0 dX7_fine_29 ?_
    refine v_getr dX7_fine_30 gX7_45 sh_92 rfl ?_
    refine v_iconstN (n := 1) dX7_fine_33 ?_
    refine v_ald0 dX7_fine_34 ?_
    refine v_ild1 dX7_fine_35 ?_
    refine v_iconstN (n := 3) dX7_fine_36 ?_
    refine v_callVi (kM_of E _ hp (by decide)) dX7_fine_37 cX7_79 rfl sh_92 rfl (by decide) (Nat.le_of_ble_eq_true rfl) rfl (fun r M1z hq => ?_)
    obtain ⟨hr, hm⟩ := hq
    rw [hr, hm, mv_w (by decide), show mv Mz (19 + 10 * p + 3) = su (mv Mz) p from by show _ = mv Mz (22 + 10 * p); congr 1; omega]
    clear hr hm
    refine v_iastN dX7_fine_40 sh_104 (by omega) (by decide) ?_
    generalize hM4 : wr (wr Mz 104 0 (tr (mv Mz) p)) 104 1 (su (mv Mz) p) = M4
    have h4 : ∀ b, b ≠ 104 → M4 b = Mz b := fun b hb => by rw [← hM4, wr_ne hb, wr_ne hb]
    have h4v : mv M4 = mv Mz := by unfold mv; rw [h4 93 (by decide)]
    have h43 : ∀ q, okN 2 q → M4 104 (locN 2 q) = nmN (tr (mv Mz) p) (su (mv Mz) p) q := fun q hq => by
      rw [← hM4, wr_at, wr_at]
      rcases (show q = 0 ∨ q = 2 by unfold okN at hq; omega) with rfl | rfl <;> rfl
    refine v_ild2 dX7_fine_41 ?_
    refine v_if_ge (tgt := 54) dX7_fine_42 (by decide) (fun h42 => ?_) (fun h42 => ?_)
    · obtain ⟨t, ht, he, hkt⟩ : ∃ t, t < T ∧ lastK (ksT tt) 2 T = nI t ∧ ksT tt t = 2 := (lastK_cases (ksT tt) 2 T).resolve_left (fun e => by rw [e] at h42; exact absurd h42 (by decide))
      refine v_lo (L' := [some (.inr 92), some (.inl (nI p)), some (.inl (nI t))]) (by rw [he]) ?_
      obtain ⟨hok, hk0, hk1, hkc⟩ := hT.2.2 t ht
      have hT14 := hT.1
      refine v_ald0 dX7_fine_54 ?_
      refine v_ild2 dX7_fine_55 ?_
      refine v_callVi (kM_worksOut E M4 (t := t) (key := 2) (n := (tt t).2.1) (xs := (tt t).2.2.2) (nm := nmN (tr (mv Mz) p) (su (mv Mz) p)) (by omega) (by decide) (by rw [h4 _ (by decide), hk0, show (tt t).1 = 2 from hkt]) hok.2.1 (fun i hi => tm_ok (by rw [h4 _ (by decide)]; have hz := hkc i hi; rw [show (tt t).1 = 2 from hkt] at hz; exact hz) h43)) dX7_fine_56 cX7_105 rfl sh_92 rfl (by decide) (Nat.le_of_ble_eq_true rfl) rfl (fun r M1z hq => ?_)
      obtain ⟨hr, g, hm⟩ := hq
      rw [hr, hm]
      exact v_iret dX7_fine_59 rfl (⟨by unfold R_fine evT; rw [if_pos (b2_1.mp h5), he, if_neg (nI_pos (by omega)), tN_n (p := p) (by omega), tN_n (p := t) (by omega)], M4 104, g, by rw [← wa_of h4]⟩)
    · refine v_ald0 dX7_fine_45 ?_
      refine v_ild1 dX7_fine_46 ?_
      refine v_iconstN (n := 3) dX7_fine_47 ?_
      refine v_callVi (kM_of E M4 hp (by decide)) dX7_fine_48 cX7_79 rfl sh_92 rfl (by decide) (Nat.le_of_ble_eq_true rfl) rfl (fun r M1z hq => ?_)
      obtain ⟨hr, hm⟩ := hq
      rw [hr, hm, h4v, show mv Mz (19 + 10 * p + 3) = su (mv Mz) p from by show _ = mv Mz (22 + 10 * p); congr 1; omega]
      clear hr hm
      refine v_goto (tgt := 59) dX7_fine_51 (by decide) ?_
      exact v_iret dX7_fine_59 rfl (⟨by unfold R_fine; rw [if_pos (b2_1.mp h5), if_pos (Int32.not_le.mp h42), tN_n (p := p) (by omega)], ⟨M4 104, M4 103, by rw [← wa_of h4, wa_self]⟩⟩)
  · refine v_ldc dX7_fine_8 kX7_119 ?_
    exact v_iret dX7_fine_10 rfl (⟨by unfold R_fine; rw [if_neg (by rw [b2_0.mp h5]; decide)], ScM.rf Mz⟩)
/-! rows checked -/
def rvl (pf : p4) (v : fl) (i : Nat) : Int32 := wksS pf v (i / 2 + 1) (if i % 2 = 0 then 3 else 5)
def ckP (pf : p4) (v : fl) (tl : Nat → Int32) (n i : Nat) : Bool := decide (i < n) && decide (tl i = rvl pf v i)
def mtK (P : Nat → Bool) : Nat → Nat
  | 0 => 0
  | i + 1 => if mtK P i = i ∧ P i = true then i + 1 else mtK P i
theorem mt_t {P : Nat → Bool} {i : Nat} (h : mtK P i = i) (g : P i = true) : mtK P (i + 1) = i + 1 := if_pos ⟨h, g⟩
theorem mt_f {P : Nat → Bool} {i : Nat} (g : P i = false) : mtK P (i + 1) = mtK P i := if_neg (fun q => absurd q.2 (by rw [g]; decide))
theorem mt_ne {P : Nat → Bool} {i : Nat} (g : ¬ mtK P i = i) : mtK P (i + 1) = mtK P i := if_neg (fun q => g q.1)
theorem mt_le (P : Nat → Bool) : ∀ i, mtK P i ≤ i
  | 0 => Nat.le_refl _
  | i + 1 => by have := mt_le P i; unfold mtK; split <;> omega
theorem mt_st {P : Nat → Bool} {i r : Nat} (h : mtK P i = r) (g : r < i ∨ P r = false) : ∀ j, mtK P (i + j) = r
  | 0 => h
  | j + 1 => by
    have ih := mt_st h g j
    have hi := mt_le P i
    show mtK P (i + j + 1) = r
    by_cases e : mtK P (i + j) = i + j
    · rw [mt_f (by rw [← e, ih]; exact g.resolve_left (by omega))]; exact ih
    · rw [mt_ne e]; exact ih
theorem mt_end {P : Nat → Bool} {i r d : Nat} (h : mtK P i = r) (g : r < i ∨ P r = false) (hd : i ≤ d) : mtK P d = r := by
  have := mt_st h g (d - i)
  rwa [show i + (d - i) = d by omega] at this
def R_check (pf : p4) (v : fl) (b : Bool) (tl : Nat → Int32) (n : Nat) (x : Int32) : Int32 := if inB x (nI 1) (nI 30) = true then (if b = true then (if mtK (ckP pf v tl n) (2 * wkN v x) = n ∧ mtK (ckP pf v tl n) (2 * wkN v x) = 2 * wkN v x then nI 0 else nI (1 + mtK (ckP pf v tl n) (2 * wkN v x))) else cNO) else cBAD
def imv (M : mm) : fl := fun i => if i < 99 then M 94 i else 0
def TxI (M : mm) (tt : Nat → tx) (T : Nat) : Prop := T ≤ 14 ∧ M 94 6 = nI T ∧ MoT (M 94) tt T
theorem TxC.w0 {T j : Nat} {x : Int32} {tt : Nat → tx} {M : mm} (h : TxC M 47 tt T) : TxC (wr M 0 j x) 47 tt T := by
  have h14 := h.1
  refine ⟨h.1, by rw [wr_ne (by decide)]; exact h.2.1, fun t ht => ?_, fun key hk => by rw [wr_ne (by decide)]; exact h.2.2.2 key hk⟩
  obtain ⟨a1, a2, a3, a4, a5⟩ := h.2.2.1 t ht
  exact ⟨a1, by rw [wr_ne (by omega)]; exact a2, by rw [wr_ne (by omega)]; exact a3, by rw [wr_ne (by omega)]; exact a4, fun i hi => by rw [wr_ne (by omega)]; exact a5 i hi⟩
set_option maxRecDepth 100000 in
set_option maxHeartbeats 4000000 in
theorem aX_check (E : ev) (Mz : mm) {x : Int32} {b : Bool} {n T : Nat} {tt : Nat → tx} {tl : Nat → Int32} (hb : Mz 0 5 = b2 b) (hn : Mz 0 9 = nI n) (h60 : n ≤ 60) (htl0 : ∀ i, i < n → Mz 90 i = tl i) (hJ : b = true → CI (cv Mz 47) 10000 ∧ TxC Mz 47 tt T) : Ct E 7 yX6_check cX6_check 6 (some .int) [.inr 0, .inl x] Mz (qI E (fun r M' => r = R_check (pfT tt T) (cv Mz 47) b tl n x ∧ FrX (wr Mz 0 9 (nI 0)) M')) := by
  refine ct_of (by decide) (Nat.le_of_ble_eq_true rfl) ?_
  show V E 7 _ _ _ _ _ 0 [some (.inr 0), some (.inl x), none, none, none, none] [] Mz
  refine v_ald0 dX6_check_0 ?_
  refine v_geti dX6_check_1 gX6_287 sh_0 rfl ?_
  refine v_eq (hn) ?_
  refine v_ist2 dX6_check_4 (by decide) ?_
  refine v_ald0 dX6_check_5 ?_
  refine v_iconstN (n := 0) dX6_check_6 ?_
  refine v_puti dX6_check_7 pX6_287 sh_0 rfl rfl rfl ?_
  refine v_ild1 dX6_check_10 ?_
  refine v_iconstN (n := 1) dX6_check_11 ?_
  refine v_bipushN (n := 30) dX6_check_12 (by decide) ?_
  refine v_callSi (kX_outside E _) dX6_check_14 cX6_63 rfl (by decide) (Nat.le_of_ble_eq_true rfl) rfl (fun r M1z hq => ?_)
  obtain ⟨hr, hm⟩ := hq
  rw [hr, hm]
  clear hr hm
  refine v_if_eq (tgt := 23) dX6_check_17 (by decide) (fun h17 => ?_) (fun h17 => ?_)
  · obtain ⟨k, hkl, hk, rfl⟩ := inB_n (by decide) (by decide) (nb0 h17)
    refine v_ald0 dX6_check_23 ?_
    refine v_geti dX6_check_24 gX6_290 sh_0 rfl ?_
    refine v_eq (show _ = b2 b from by rw [wr_at, pk_un (by decide)]; exact hb) ?_
    refine v_if_ne (tgt := 34) dX6_check_27 (by decide) (fun h27 => ?_) (fun h27 => ?_)
    · have hbt := b2_1.mp h27
      obtain ⟨hI, hT⟩ := hJ hbt
      have hwk : Mz 47 12 = nI (tN (cv Mz 47 2)) ∧ tN (cv Mz 47 2) < 10000 := hI.2.2.2.1.eq (by decide)
      refine v_iconstN (n := 2) dX6_check_34 ?_
      refine v_ild1 dX6_check_35 ?_
      refine v_sipushN (n := 9999) dX6_check_36 (by decide +kernel) ?_
      refine v_ald0 dX6_check_39 ?_
      refine v_getr dX6_check_40 gX6_32 sh_0 rfl ?_
      refine v_geti dX6_check_43 gX6_157 sh_47 rfl ?_
      refine v_eq (show _ = nI (tN (cv Mz 47 2)) from by rw [wr_ne (by decide)]; exact hwk.1) ?_
      refine v_isubN dX6_check_46 (by omega) ?_
      refine v_mmin dX6_check_47 mX6_143 (by decide) (Nat.le_of_ble_eq_true rfl) ?_
      refine v_eq ((min_nI (by omega) (by omega)).trans (show nI (min k (9999 - tN (cv Mz 47 2))) = nI (wkN (cv Mz 47) (nI k)) from by unfold wkN; rw [tN_n (p := k) (by omega)])) ?_
      refine v_imulN dX6_check_50 ?_
      have hw30 : wkN (cv Mz 47) (nI k) ≤ 30 := by unfold wkN; rw [tN_n (p := k) (by omega)]; omega
      refine v_ist3 dX6_check_51 (by decide) ?_
      refine v_ald0 dX6_check_52 ?_
      refine v_getr dX6_check_53 gX6_35 sh_0 rfl ?_
      refine v_ald0 dX6_check_56 ?_
      refine v_getr dX6_check_57 gX6_32 sh_0 rfl ?_
      refine v_callVv (kC_over_56_47 E (wr Mz 0 9 (nI 0))) dX6_check_60 cX6_177 rfl sh_56 rfl (by decide) (Nat.le_of_ble_eq_true rfl) rfl (fun M1z hq1 => ?_)
      obtain ⟨hv1, hl1, hf1⟩ := hq1
      have hv0 : cv (wr Mz 0 9 (nI 0)) 47 = cv Mz 47 := cv_w (by omega)
      have hT1 : TxC M1z 56 tt T := (hT.w0).over CB.trial hv1 hl1 hf1
      rw [hv0] at hv1
      refine v_iconstN (n := 0) dX6_check_63 ?_
      refine v_ist4 dX6_check_64 (by decide) ?_
      refine v_loopP (pc := 66) (fun i _ => [some (.inr 0), some (.inl (nI k)), some (.inl (nI n)), some (.inl (nI (2 * wkN (cv Mz 47) (nI k)))), some (.inl (nI i)), none]) (fun i Mk => (i ≤ n ∧ mtK (ckP (pfT tt T) (cv Mz 47) tl n) i = i) ∧ cv Mk 56 = wksS (pfT tt T) (cv Mz 47) ((i + 1) / 2) ∧ FrX (wr Mz 0 9 (nI 0)) Mk ∧ TxC Mk 56 tt T) (2 * wkN (cv Mz 47) (nI k)) (rfl) (⟨⟨Nat.zero_le _, rfl⟩, hv1, FrX.t hf1, hT1⟩) (fun i Mk hi hM ih => ?_) (fun Mk hM => ?_)
      · obtain ⟨⟨hin, hmt⟩, hv, hfr, hTk⟩ := hM
        obtain ⟨hIk, -, hk6⟩ := wks_ok (pfT_ok tt T) hI ((i + 1) / 2) (by omega)
        rw [← hv] at hIk
        have htl : i < n → Mk 90 i = tl i := fun h => by rw [hfr 90 (by omega) (by omega) (by omega) (by omega), wr_ne (by decide)]; exact htl0 i h
        refine v_ild4 dX6_check_66 ?_
        refine v_ild2 dX6_check_68 ?_
        refine v_icmpN_ge (tgt := 142) dX6_check_69 (by decide) (by omega) (by omega) (fun h69 => ?_) (fun h69 => ?_)
        · refine v_ild2 dX6_check_142 ?_
          refine v_ild3 dX6_check_143 ?_
          refine v_icmpN_ne (tgt := 151) dX6_check_144 (by decide) (by omega) (by omega) (fun h144 => ?_) (fun h144 => ?_)
          · refine v_iconstN (n := 1) dX6_check_151 ?_
            refine v_ild2 dX6_check_152 ?_
            refine v_ild3 dX6_check_153 ?_
            refine v_mmin dX6_check_154 mX6_143 (by decide) (Nat.le_of_ble_eq_true rfl) ?_
            refine v_iadd dX6_check_157 ?_
            exact v_iret dX6_check_158 rfl (⟨by have hm := mt_end hmt (Or.inr (show (ckP (pfT tt T) (cv Mz 47) tl n) i = false by unfold ckP; rw [decide_eq_false (by omega)]; rfl)) (show i ≤ (2 * wkN (cv Mz 47) (nI k)) by omega); unfold R_check; rw [min_nI (by omega) (by omega), nI_add, if_pos (nb0 h17), if_pos hbt, hm, if_neg (by omega)]; congr 1; omega, hfr⟩)
          · refine v_iconstN (n := 0) dX6_check_147 ?_
            refine v_goto (tgt := 158) dX6_check_148 (by decide) ?_
            exact v_iret dX6_check_158 rfl (⟨by have hm := mt_end hmt (Or.inr (show (ckP (pfT tt T) (cv Mz 47) tl n) i = false by unfold ckP; rw [decide_eq_false (by omega)]; rfl)) (show i ≤ (2 * wkN (cv Mz 47) (nI k)) by omega); unfold R_check; rw [if_pos (nb0 h17), if_pos hbt, hm, if_pos (by omega)], hfr⟩)
        · refine v_ild4 dX6_check_72 ?_
          refine v_ild3 dX6_check_74 ?_
          refine v_icmpN_ge (tgt := 142) dX6_check_75 (by decide) (by omega) (by omega) (fun h75 => absurd h75 (by omega)) (fun h75 => ?_)
          refine v_ild4 dX6_check_78 ?_
          refine v_iconstN (n := 2) dX6_check_80 ?_
          refine v_iremN dX6_check_81 (by omega) (by omega) (by omega) ?_
          refine v_if_ne (tgt := 93) dX6_check_82 (by decide) (fun h82 => ?_) (fun h82 => ?_)
          · refine v_ild4 dX6_check_93 ?_
            refine v_iconstN (n := 2) dX6_check_95 ?_
            refine v_iremN dX6_check_96 (by omega) (by omega) (by omega) ?_
            refine v_if_ne (tgt := 110) dX6_check_97 (by decide) (fun h97 => ?_) (fun h97 => absurd h97 (h82))
            have hod : i % 2 = 1 := by have : ¬ i % 2 = 0 := fun e => h82 (by rw [e]; rfl); omega
            have hrv : Mk 56 11 = rvl (pfT tt T) (cv Mz 47) i := by unfold rvl; rw [if_neg (by omega), show i / 2 + 1 = (i + 1) / 2 by omega, ← hv]; rfl
            refine v_ald0 dX6_check_110 ?_
            refine v_getr dX6_check_111 gX6_35 sh_0 rfl ?_
            refine v_geti dX6_check_114 gX6_167 sh_56 rfl ?_
            refine v_ist5 dX6_check_117 (by decide) ?_
            refine v_ald0 dX6_check_119 ?_
            refine v_getr dX6_check_120 gX6_52 sh_0 rfl ?_
            refine v_ild4 dX6_check_123 ?_
            refine v_ialdN dX6_check_125 sh_90 (by omega) (by decide) ?_
            refine v_ild5 dX6_check_126 ?_
            refine v_icmp_eq (tgt := 136) dX6_check_128 (by decide) (fun h128 => ?_) (fun h128 => ?_)
            · refine v_iincN4 (n := 1) dX6_check_136 (by decide) ?_
              refine v_goto (tgt := 66) dX6_check_139 (by decide) ?_
              refine v_fg5 ?_
              exact ih _ ⟨⟨by omega, mt_t hmt (by unfold ckP; rw [decide_eq_true h69, decide_eq_true (by rw [← htl h69]; exact hrv ▸ h128)]; rfl)⟩, by rw [show (i + 1 + 1) / 2 = (i + 1) / 2 by omega]; exact hv, hfr, hTk⟩
            · refine v_iconstN (n := 1) dX6_check_131 ?_
              refine v_ild4 dX6_check_132 ?_
              refine v_iaddN dX6_check_134 ?_
              exact v_iret dX6_check_135 rfl (⟨by have hm := mt_end hmt (Or.inr (show (ckP (pfT tt T) (cv Mz 47) tl n) i = false by unfold ckP; rw [decide_eq_false (show ¬ tl i = rvl (pfT tt T) (cv Mz 47) i by rw [← htl h69]; exact hrv ▸ h128)]; simp)) (show i ≤ (2 * wkN (cv Mz 47) (nI k)) by omega); unfold R_check; rw [if_pos (nb0 h17), if_pos hbt, hm, if_neg (by omega)], hfr⟩)
          · refine v_ald0 dX6_check_85 ?_
            refine v_getr dX6_check_86 gX6_35 sh_0 rfl ?_
            refine v_iconstN (n := 1) dX6_check_89 ?_
            refine v_callVv (kC_pass E Mk (n := 1) CB.trial hIk (by omega) hTk) dX6_check_90 cX6_160 rfl sh_56 rfl (by decide) (Nat.le_of_ble_eq_true rfl) rfl (fun M2z hq2 => ?_)
            obtain ⟨hv2, hf2⟩ := hq2
            have hev : i % 2 = 0 := by have := (nI_eq (a := i % 2) (b := 0) (by omega) (by decide)).mp h82; exact this
            have hv2b : cv M2z 56 = wksS (pfT tt T) (cv Mz 47) ((i + 1 + 1) / 2) := by rw [hv2, hv, show (i + 1 + 1) / 2 = (i + 1) / 2 + 1 by omega]; rfl
            have hT2 : TxC M2z 56 tt T := hTk.fr CB.trial hf2 (by rw [hv2]; exact (wks_ok (pfT_ok tt T) hIk 1 (by omega)).2.2)
            have htl2 : i < n → M2z 90 i = tl i := fun h => by rw [hf2 90 (by omega) (by omega) (by omega)]; exact htl h
            refine v_ild4 dX6_check_93 ?_
            refine v_iconstN (n := 2) dX6_check_95 ?_
            refine v_iremN dX6_check_96 (by omega) (by omega) (by omega) ?_
            refine v_if_ne (tgt := 110) dX6_check_97 (by decide) (fun h97 => absurd h97 (fun q => q h82)) (fun h97 => ?_)
            have hrv : M2z 56 9 = rvl (pfT tt T) (cv Mz 47) i := by unfold rvl; rw [if_pos hev, show i / 2 + 1 = (i + 1 + 1) / 2 by omega, ← hv2b]; rfl
            refine v_ald0 dX6_check_100 ?_
            refine v_getr dX6_check_101 gX6_35 sh_0 rfl ?_
            refine v_geti dX6_check_104 gX6_154 sh_56 rfl ?_
            refine v_goto (tgt := 117) dX6_check_107 (by decide) ?_
            refine v_ist5 dX6_check_117 (by decide) ?_
            refine v_ald0 dX6_check_119 ?_
            refine v_getr dX6_check_120 gX6_52 sh_0 rfl ?_
            refine v_ild4 dX6_check_123 ?_
            refine v_ialdN dX6_check_125 sh_90 (by omega) (by decide) ?_
            refine v_ild5 dX6_check_126 ?_
            refine v_icmp_eq (tgt := 136) dX6_check_128 (by decide) (fun h128 => ?_) (fun h128 => ?_)
            · refine v_iincN4 (n := 1) dX6_check_136 (by decide) ?_
              refine v_goto (tgt := 66) dX6_check_139 (by decide) ?_
              refine v_fg5 ?_
              exact ih _ ⟨⟨by omega, mt_t hmt (by unfold ckP; rw [decide_eq_true h69, decide_eq_true (by rw [← htl2 h69]; exact hrv ▸ h128)]; rfl)⟩, by rw [show i + 1 + 1 = i + 1 + 1 from rfl]; exact hv2b, hfr.tr (FrX.c hf2), hT2⟩
            · refine v_iconstN (n := 1) dX6_check_131 ?_
              refine v_ild4 dX6_check_132 ?_
              refine v_iaddN dX6_check_134 ?_
              exact v_iret dX6_check_135 rfl (⟨by have hm := mt_end hmt (Or.inr (show (ckP (pfT tt T) (cv Mz 47) tl n) i = false by unfold ckP; rw [decide_eq_false (show ¬ tl i = rvl (pfT tt T) (cv Mz 47) i by rw [← htl2 h69]; exact hrv ▸ h128)]; simp)) (show i ≤ (2 * wkN (cv Mz 47) (nI k)) by omega); unfold R_check; rw [if_pos (nb0 h17), if_pos hbt, hm, if_neg (by omega)], hfr.tr (FrX.c hf2)⟩)
      · obtain ⟨⟨hin, hmt⟩, hv, hfr, hTk⟩ := hM
        refine v_ild4 dX6_check_66 ?_
        refine v_ild2 dX6_check_68 ?_
        refine v_icmpN_ge (tgt := 142) dX6_check_69 (by decide) (by omega) (by omega) (fun h69 => ?_) (fun h69 => ?_)
        · refine v_ild2 dX6_check_142 ?_
          refine v_ild3 dX6_check_143 ?_
          refine v_icmpN_ne (tgt := 151) dX6_check_144 (by decide) (by omega) (by omega) (fun h144 => ?_) (fun h144 => ?_)
          · refine v_iconstN (n := 1) dX6_check_151 ?_
            refine v_ild2 dX6_check_152 ?_
            refine v_ild3 dX6_check_153 ?_
            refine v_mmin dX6_check_154 mX6_143 (by decide) (Nat.le_of_ble_eq_true rfl) ?_
            refine v_iadd dX6_check_157 ?_
            exact v_iret dX6_check_158 rfl (⟨by have hm := mt_end hmt (Or.inr (show (ckP (pfT tt T) (cv Mz 47) tl n) (2 * wkN (cv Mz 47) (nI k)) = false by unfold ckP; rw [decide_eq_false (by omega)]; rfl)) (show (2 * wkN (cv Mz 47) (nI k)) ≤ (2 * wkN (cv Mz 47) (nI k)) by omega); unfold R_check; rw [min_nI (by omega) (by omega), nI_add, if_pos (nb0 h17), if_pos hbt, hm, if_neg (by omega)]; congr 1; omega, hfr⟩)
          · refine v_iconstN (n := 0) dX6_check_147 ?_
            refine v_goto (tgt := 158) dX6_check_148 (by decide) ?_
            exact v_iret dX6_check_158 rfl (⟨by have hm := mt_end hmt (Or.inr (show (ckP (pfT tt T) (cv Mz 47) tl n) (2 * wkN (cv Mz 47) (nI k)) = false by unfold ckP; rw [decide_eq_false (by omega)]; rfl)) (show (2 * wkN (cv Mz 47) (nI k)) ≤ (2 * wkN (cv Mz 47) (nI k)) by omega); unfold R_check; rw [if_pos (nb0 h17), if_pos hbt, hm, if_pos (by omega)], hfr⟩)
        · refine v_ild4 dX6_check_72 ?_
          refine v_ild3 dX6_check_74 ?_
          refine v_icmpN_ge (tgt := 142) dX6_check_75 (by decide) (by omega) (by omega) (fun h75 => ?_) (fun h75 => absurd h75 (by omega))
          refine v_ild2 dX6_check_142 ?_
          refine v_ild3 dX6_check_143 ?_
          refine v_icmpN_ne (tgt := 151) dX6_check_144 (by decide) (by omega) (by omega) (fun h144 => ?_) (fun h144 => ?_)
          · refine v_iconstN (n := 1) dX6_check_151 ?_
            refine v_ild2 dX6_check_152 ?_
            refine v_ild3 dX6_check_153 ?_
            refine v_mmin dX6_check_154 mX6_143 (by decide) (Nat.le_of_ble_eq_true rfl) ?_
            refine v_iadd dX6_check_157 ?_
            exact v_iret dX6_check_158 rfl (⟨by have hm : mtK (ckP (pfT tt T) (cv Mz 47) tl n) (2 * wkN (cv Mz 47) (nI k)) = (2 * wkN (cv Mz 47) (nI k)) := hmt; unfold R_check; rw [min_nI (by omega) (by omega), nI_add, if_pos (nb0 h17), if_pos hbt, hm, if_neg (by omega)]; congr 1; omega, hfr⟩)
          · refine v_iconstN (n := 0) dX6_check_147 ?_
            refine v_goto (tgt := 158) dX6_check_148 (by decide) ?_
            exact v_iret dX6_check_158 rfl (⟨by have hm : mtK (ckP (pfT tt T) (cv Mz 47) tl n) (2 * wkN (cv Mz 47) (nI k)) = (2 * wkN (cv Mz 47) (nI k)) := hmt; unfold R_check; rw [if_pos (nb0 h17), if_pos hbt, hm, if_pos (by omega)], hfr⟩)
    · refine v_ldcw dX6_check_30 kX6_286 ?_
      exact v_iret dX6_check_33 rfl (⟨by unfold R_check; rw [if_pos (nb0 h17), if_neg (by rw [b2_0.mp h27]; decide)], FrX.rf _⟩)
  · refine v_ldc dX6_check_20 kX6_67 ?_
    exact v_iret dX6_check_22 rfl (⟨by unfold R_check; rw [if_neg (by rw [nb1 h17]; decide)], FrX.rf _⟩)
def DI (A M : mm) : Prop := (∀ a, a ≠ 93 → a ≠ 95 → a ≠ 96 → a ≠ 103 → a ≠ 104 → M a = A a) ∧ (∀ i, i < 1471 → M 95 i = A 93 i) ∧ (∀ i, 99 ≤ i → i < 1471 → M 93 i = A 94 i) ∧ ∀ i, 1471 ≤ i → M 93 i = A 93 i
theorem DI.fr {A M M' : mm} (h : DI A M) (g : FrM M M') : DI A M' := ⟨fun a h1 h2 h3 h4 h5 => (g.1 a h1 h4 h5).trans (h.1 a h1 h2 h3 h4 h5), fun i hi => by rw [g.1 95 (by decide) (by decide) (by decide)]; exact h.2.1 i hi, fun i hi h2 => (g.2 i hi).trans (h.2.2.1 i hi h2), fun i hi => (g.2 i (by omega)).trans (h.2.2.2 i hi)⟩
theorem DI.back {A M : mm} (h : DI A M) : FrD A (wa M 93 (cpN 1471 (M 95) (M 93))) := by
  have e : (wa M 93 (cpN 1471 (M 95) (M 93))) 93 = A 93 := by
    rw [wa_at]
    funext i
    unfold cpN
    split
    · rename_i hi; exact h.2.1 i hi
    · exact h.2.2.2 i (by omega)
  intro a h2 h3 h4 h5
  by_cases h1 : a = 93
  · rw [h1]; exact e
  · rw [wa_ne h1]; exact h.1 a h1 h2 h3 h4 h5
theorem DI.start (A : mm) : DI A (wa (wa A 95 (cpN 1471 (A 93) (A 95))) 93 (cpN 1471 ((wa A 95 (cpN 1471 (A 93) (A 95))) 94) ((wa A 95 (cpN 1471 (A 93) (A 95))) 93))) := by
  refine ⟨fun a h1 h2 _ _ _ => by rw [wa_ne h1, wa_ne h2], fun i hi => by rw [wa_ne (by decide), wa_at]; exact if_pos hi, fun i _ hi => ?_, fun i hi => ?_⟩
  · rw [wa_at]; unfold cpN; rw [if_pos hi, wa_ne (by decide)]
  · rw [wa_at]; unfold cpN; rw [if_neg (by omega), wa_ne (by decide)]
theorem DI.mv0 (A : mm) : mv (wa (wa A 95 (cpN 1471 (A 93) (A 95))) 93 (cpN 1471 ((wa A 95 (cpN 1471 (A 93) (A 95))) 94) ((wa A 95 (cpN 1471 (A 93) (A 95))) 93))) = imv A := by
  funext i
  unfold mv imv
  by_cases h : i < 99
  · rw [if_pos h, if_pos h, wa_at]; unfold cpN; rw [if_pos (by omega), wa_ne (by decide)]
  · rw [if_neg h, if_neg h]
theorem TxI.di {T : Nat} {tt : Nat → tx} {A M : mm} (h : TxI A tt T) (hf : DI A M) (h6 : mv M 6 = imv A 6) : TxM M tt T := by
  have h14 := h.1
  refine ⟨h.1, h6.trans h.2.1, fun t ht => ?_⟩
  obtain ⟨a1, a2, a3, a4⟩ := h.2.2 t ht
  have hl := a1.2.1.2.1
  exact ⟨a1, by rw [hf.2.2.1 _ (by omega) (by omega)]; exact a2, by rw [hf.2.2.1 _ (by omega) (by omega)]; exact a3, fun i hi => by rw [hf.2.2.1 _ (by omega) (by omega)]; exact a4 i hi⟩
theorem TxI.w92 {T j : Nat} {x : Int32} {tt : Nat → tx} {M : mm} (h : TxI M tt T) : TxI (wr M 92 j x) tt T := ⟨h.1, by rw [wr_ne (by decide)]; exact h.2.1, by rw [wr_ne (by decide)]; exact h.2.2⟩
theorem imv_w {M : mm} {a j : Nat} {x : Int32} (h : a ≠ 94) : imv (wr M a j x) = imv M := by unfold imv; rw [wr_ne (Ne.symm h)]
set_option maxRecDepth 100000 in
set_option maxHeartbeats 4000000 in
theorem aM_check (E : ev) (Mz : mm) {x : Int32} {b : Bool} {n T : Nat} {tt : Nat → tx} {tl : Nat → Int32} (hb : Mz 92 3 = b2 b) (hn : Mz 92 32 = nI n) (h60 : n ≤ 60) (htl0 : ∀ i, i < n → Mz 113 i = tl i) (hJ : b = true → CI (imv Mz) 10000 ∧ TxI Mz tt T) : Ct E 8 yX7_check cX7_check 6 (some .int) [.inr 92, .inl x] Mz (qI E (fun r M' => r = R_check (pfT tt T) (imv Mz) b tl n x ∧ FrD (wr Mz 92 32 (nI 0)) M')) := by
  refine ct_of (by decide) (Nat.le_of_ble_eq_true rfl) ?_
  show V E 8 _ _ _ _ _ 0 [some (.inr 92), some (.inl x), none, none, none, none] [] Mz
  refine v_ald0 dX7_check_0 ?_
  refine v_geti dX7_check_1 gX7_279 sh_92 rfl ?_
  refine v_eq (hn) ?_
  refine v_ist2 dX7_check_4 (by decide) ?_
  refine v_ald0 dX7_check_5 ?_
  refine v_iconstN (n := 0) dX7_check_6 ?_
  refine v_puti dX7_check_7 pX7_279 sh_92 rfl rfl rfl ?_
  refine v_ild1 dX7_check_10 ?_
  refine v_iconstN (n := 1) dX7_check_11 ?_
  refine v_bipushN (n := 30) dX7_check_12 (by decide) ?_
  refine v_callSi (kM_in E _) dX7_check_14 cX7_75 rfl (by decide) (Nat.le_of_ble_eq_true rfl) rfl (fun r M1z hq => ?_)
  obtain ⟨hr, hm⟩ := hq
  rw [hr, hm]
  clear hr hm
  refine v_if_ne (tgt := 23) dX7_check_17 (by decide) (fun h17 => ?_) (fun h17 => ?_)
  · obtain ⟨k, hkl, hk, rfl⟩ := inB_n (by decide) (by decide) (b2_1.mp h17)
    refine v_ald0 dX7_check_23 ?_
    refine v_geti dX7_check_24 gX7_282 sh_92 rfl ?_
    refine v_eq (show _ = b2 b from by rw [wr_at, pk_un (by decide)]; exact hb) ?_
    refine v_if_ne (tgt := 34) dX7_check_27 (by decide) (fun h27 => ?_) (fun h27 => ?_)
    · have hbt := b2_1.mp h27
      obtain ⟨hI, hT⟩ := hJ hbt
      have hwk : imv Mz 2 = nI (tN (imv Mz 2)) ∧ tN (imv Mz 2) < 10000 := hI.2.2.2.1.eq (by decide)
      refine v_ald0 dX7_check_34 ?_
      refine v_getr dX7_check_35 gX7_9 sh_92 rfl ?_
      refine v_ald0 dX7_check_38 ?_
      refine v_getr dX7_check_39 gX7_16 sh_92 rfl ?_
      refine v_callSv (kM_copyAll E (wr Mz 92 32 (nI 0)) sh_93 sh_95 (by decide)) dX7_check_42 cX7_181 rfl (by decide) (Nat.le_of_ble_eq_true rfl) rfl (fun M1z hq => ?_)
      rw [hq]
      clear hq
      refine v_ald0 dX7_check_45 ?_
      refine v_getr dX7_check_46 gX7_13 sh_92 rfl ?_
      refine v_ald0 dX7_check_49 ?_
      refine v_getr dX7_check_50 gX7_9 sh_92 rfl ?_
      refine v_callSv (kM_copyAll E _ sh_94 sh_93 (by decide)) dX7_check_53 cX7_181 rfl (by decide) (Nat.le_of_ble_eq_true rfl) rfl (fun M1z hq => ?_)
      rw [hq]
      clear hq
      have hmv0 := DI.mv0 (wr Mz 92 32 (nI 0))
      rw [imv_w (by decide)] at hmv0
      refine v_iconstN (n := 2) dX7_check_56 ?_
      refine v_sipushN (n := 9999) dX7_check_57 (by decide +kernel) ?_
      refine v_ald0 dX7_check_60 ?_
      refine v_getr dX7_check_61 gX7_9 sh_92 rfl ?_
      refine v_iconstN (n := 2) dX7_check_64 ?_
      refine v_ialdN dX7_check_65 sh_93 (by omega) (by decide) ?_
      refine v_eq (show _ = nI (tN (imv Mz 2)) from (congrFun hmv0 2).trans hwk.1) ?_
      refine v_isubN dX7_check_66 (by omega) ?_
      refine v_iconstN (n := 0) dX7_check_67 ?_
      refine v_ild1 dX7_check_68 ?_
      refine v_callSi (kM_within E _) dX7_check_69 cX7_108 rfl (by decide) (Nat.le_of_ble_eq_true rfl) rfl (fun r M1z hq => ?_)
      obtain ⟨hr, hm⟩ := hq
      rw [hr, hm]
      clear hr hm
      refine v_eq ((clamp_nI (by omega) (by omega)).trans (show nI (min k (9999 - tN (imv Mz 2))) = nI (wkN (imv Mz) (nI k)) from by unfold wkN; rw [tN_n (p := k) (by omega)])) ?_
      refine v_imulN dX7_check_72 ?_
      have hw30 : wkN (imv Mz) (nI k) ≤ 30 := by unfold wkN; rw [tN_n (p := k) (by omega)]; omega
      refine v_ist3 dX7_check_73 (by decide) ?_
      refine v_iconstN (n := 0) dX7_check_74 ?_
      refine v_ist4 dX7_check_75 (by decide) ?_
      refine v_iconstN (n := 0) dX7_check_77 ?_
      refine v_ist5 dX7_check_78 (by decide) ?_
      refine v_loopP (pc := 80) (fun j _ => [some (.inr 92), some (.inl (nI k)), some (.inl (nI n)), some (.inl (nI (2 * wkN (imv Mz) (nI k)))), some (.inl (nI (mtK (ckP (pfT tt T) (imv Mz) tl n) (2 * j)))), some (.inl (nI j))]) (fun j Mk => mv Mk = wksS (pfT tt T) (imv Mz) j ∧ DI (wr Mz 92 32 (nI 0)) Mk) (wkN (imv Mz) (nI k)) (rfl) (⟨hmv0, DI.start _⟩) (fun j Mk hj hM ih => ?_) (fun Mk hM => ?_)
      · obtain ⟨hv, hd⟩ := hM
        obtain ⟨hIk, -, hk6⟩ := wks_ok (pfT_ok tt T) hI j (by omega)
        rw [← hv] at hIk hk6
        have hTk : TxM Mk tt T := (hT.w92).di hd (by rw [hk6]; rfl)
        have hml := mt_le (ckP (pfT tt T) (imv Mz) tl n) (2 * j)
        refine v_iconstN (n := 2) dX7_check_80 ?_
        refine v_ild5 dX7_check_81 ?_
        refine v_imulN dX7_check_83 ?_
        refine v_ild3 dX7_check_84 ?_
        refine v_icmpN_ge (tgt := 182) dX7_check_85 (by decide) (by omega) (by omega) (fun h85 => absurd h85 (by omega)) (fun h85 => ?_)
        refine v_ild4 dX7_check_88 ?_
        refine v_iconstN (n := 2) dX7_check_90 ?_
        refine v_ild5 dX7_check_91 ?_
        refine v_imulN dX7_check_93 ?_
        refine v_icmpN_ne (tgt := 182) dX7_check_94 (by decide) (by omega) (by omega) (fun h94 => ?_) (fun h94 => ?_)
        · refine v_ald0 dX7_check_182 ?_
          refine v_getr dX7_check_183 gX7_16 sh_92 rfl ?_
          refine v_ald0 dX7_check_186 ?_
          refine v_getr dX7_check_187 gX7_9 sh_92 rfl ?_
          refine v_callSv (kM_copyAll E Mk sh_95 sh_93 (by decide)) dX7_check_190 cX7_181 rfl (by decide) (Nat.le_of_ble_eq_true rfl) rfl (fun M1z hq => ?_)
          rw [hq]
          clear hq
          refine v_ild4 dX7_check_193 ?_
          refine v_ild2 dX7_check_195 ?_
          refine v_icmpN_ne (tgt := 209) dX7_check_196 (by decide) (by omega) (by omega) (fun h196 => ?_) (fun h196 => ?_)
          · refine v_iconstN (n := 1) dX7_check_209 ?_
            refine v_ild4 dX7_check_210 ?_
            refine v_iaddN dX7_check_212 ?_
            exact v_iret dX7_check_213 rfl (⟨by have hm : mtK (ckP (pfT tt T) (imv Mz) tl n) (2 * wkN (imv Mz) (nI k)) = mtK (ckP (pfT tt T) (imv Mz) tl n) (2 * j) := mt_end rfl (Or.inl (by omega)) (by omega); unfold R_check; rw [if_pos (b2_1.mp h17), if_pos hbt, hm, if_neg (by omega)], hd.back⟩)
          · refine v_ild4 dX7_check_199 ?_
            refine v_ild3 dX7_check_201 ?_
            refine v_icmpN_ne (tgt := 209) dX7_check_202 (by decide) (by omega) (by omega) (fun h202 => ?_) (fun h202 => ?_)
            · refine v_iconstN (n := 1) dX7_check_209 ?_
              refine v_ild4 dX7_check_210 ?_
              refine v_iaddN dX7_check_212 ?_
              exact v_iret dX7_check_213 rfl (⟨by have hm : mtK (ckP (pfT tt T) (imv Mz) tl n) (2 * wkN (imv Mz) (nI k)) = mtK (ckP (pfT tt T) (imv Mz) tl n) (2 * j) := mt_end rfl (Or.inl (by omega)) (by omega); unfold R_check; rw [if_pos (b2_1.mp h17), if_pos hbt, hm, if_neg (by omega)], hd.back⟩)
            · refine v_iconstN (n := 0) dX7_check_205 ?_
              refine v_goto (tgt := 213) dX7_check_206 (by decide) ?_
              exact v_iret dX7_check_213 rfl (⟨by have hm : mtK (ckP (pfT tt T) (imv Mz) tl n) (2 * wkN (imv Mz) (nI k)) = mtK (ckP (pfT tt T) (imv Mz) tl n) (2 * j) := mt_end rfl (Or.inl (by omega)) (by omega); unfold R_check; rw [if_pos (b2_1.mp h17), if_pos hbt, hm, if_pos (by omega)], hd.back⟩)
        · refine v_lo (L' := [some (.inr 92), some (.inl (nI k)), some (.inl (nI n)), some (.inl (nI (2 * wkN (imv Mz) (nI k)))), some (.inl (nI (2 * j))), some (.inl (nI j))]) (by rw [h94]) ?_
          refine v_ald0 dX7_check_97 ?_
          refine v_callVv (kM_week E Mk hIk (by omega) hTk) dX7_check_98 cX7_169 rfl sh_92 rfl (by decide) (Nat.le_of_ble_eq_true rfl) rfl (fun M2z hq2 => ?_)
          have hd2 := hd.fr hq2.2
          have hv2 : mv M2z = wksS (pfT tt T) (imv Mz) (j + 1) := by rw [hq2.1, hv]; rfl
          have htl2 : ∀ i, i < n → M2z 113 i = tl i := fun i h => by rw [hd2.1 113 (by decide) (by decide) (by decide) (by decide) (by decide), wr_ne (by decide)]; exact htl0 i h
          have hr0 : M2z 93 3 = rvl (pfT tt T) (imv Mz) (2 * j) := by unfold rvl; rw [if_pos (by omega), show 2 * j / 2 + 1 = j + 1 by omega, ← hv2]; rfl
          have hr1 : M2z 93 5 = rvl (pfT tt T) (imv Mz) (2 * j + 1) := by unfold rvl; rw [if_neg (by omega), show (2 * j + 1) / 2 + 1 = j + 1 by omega, ← hv2]; rfl
          refine v_ild4 dX7_check_101 ?_
          refine v_ild4 dX7_check_103 ?_
          refine v_ild2 dX7_check_105 ?_
          refine v_icmpN_ge (tgt := 129) dX7_check_106 (by decide) (by omega) (by omega) (fun h106 => ?_) (fun h106 => ?_)
          · refine v_iconstN (n := 0) dX7_check_129 ?_
            refine v_iaddN dX7_check_130 ?_
            refine v_ist4 dX7_check_131 (by decide) ?_
            refine v_ild4 dX7_check_133 ?_
            refine v_ild4 dX7_check_135 ?_
            refine v_iconstN (n := 2) dX7_check_137 ?_
            refine v_ild5 dX7_check_138 ?_
            refine v_imulN dX7_check_140 ?_
            refine v_iconstN (n := 1) dX7_check_141 ?_
            refine v_iaddN dX7_check_142 ?_
            refine v_icmpN_ne (tgt := 172) dX7_check_143 (by decide) (by omega) (by omega) (fun h143 => ?_) (fun h143 => absurd h143 (by omega))
            refine v_iconstN (n := 0) dX7_check_172 ?_
            refine v_iaddN dX7_check_173 ?_
            refine v_ist4 dX7_check_174 (by decide) ?_
            refine v_iincN5 (n := 1) dX7_check_176 (by decide) ?_
            refine v_goto (tgt := 80) dX7_check_179 (by decide) ?_
            exact v_lo (by rw [show mtK (ckP (pfT tt T) (imv Mz) tl n) (2 * (j + 1)) = 2 * j + 0 from (mt_end h94 (Or.inr (by unfold ckP; rw [decide_eq_false (by omega)]; rfl)) (by omega)).trans (Nat.add_zero _).symm]) (ih _ ⟨hv2, hd2⟩)
          · refine v_ald0 dX7_check_109 ?_
            refine v_getr dX7_check_110 gX7_72 sh_92 rfl ?_
            refine v_ild4 dX7_check_113 ?_
            refine v_ialdN dX7_check_115 sh_113 (by omega) (by decide) ?_
            refine v_ald0 dX7_check_116 ?_
            refine v_getr dX7_check_117 gX7_9 sh_92 rfl ?_
            refine v_iconstN (n := 3) dX7_check_120 ?_
            refine v_ialdN dX7_check_121 sh_93 (by omega) (by decide) ?_
            refine v_icmp_ne (tgt := 129) dX7_check_122 (by decide) (fun h122 => ?_) (fun h122 => ?_)
            · refine v_iconstN (n := 0) dX7_check_129 ?_
              refine v_iaddN dX7_check_130 ?_
              refine v_ist4 dX7_check_131 (by decide) ?_
              refine v_ild4 dX7_check_133 ?_
              refine v_ild4 dX7_check_135 ?_
              refine v_iconstN (n := 2) dX7_check_137 ?_
              refine v_ild5 dX7_check_138 ?_
              refine v_imulN dX7_check_140 ?_
              refine v_iconstN (n := 1) dX7_check_141 ?_
              refine v_iaddN dX7_check_142 ?_
              refine v_icmpN_ne (tgt := 172) dX7_check_143 (by decide) (by omega) (by omega) (fun h143 => ?_) (fun h143 => absurd h143 (by omega))
              refine v_iconstN (n := 0) dX7_check_172 ?_
              refine v_iaddN dX7_check_173 ?_
              refine v_ist4 dX7_check_174 (by decide) ?_
              refine v_iincN5 (n := 1) dX7_check_176 (by decide) ?_
              refine v_goto (tgt := 80) dX7_check_179 (by decide) ?_
              exact v_lo (by rw [show mtK (ckP (pfT tt T) (imv Mz) tl n) (2 * (j + 1)) = 2 * j + 0 from (mt_end h94 (Or.inr (by unfold ckP; rw [decide_eq_false (show ¬ tl (2 * j) = rvl (pfT tt T) (imv Mz) (2 * j) from hr0 ▸ htl2 (2 * j) (by omega) ▸ h122)]; simp)) (by omega)).trans (Nat.add_zero _).symm]) (ih _ ⟨hv2, hd2⟩)
            · refine v_iconstN (n := 1) dX7_check_125 ?_
              refine v_goto (tgt := 130) dX7_check_126 (by decide) ?_
              refine v_iaddN dX7_check_130 ?_
              refine v_ist4 dX7_check_131 (by decide) ?_
              refine v_ild4 dX7_check_133 ?_
              refine v_ild4 dX7_check_135 ?_
              refine v_iconstN (n := 2) dX7_check_137 ?_
              refine v_ild5 dX7_check_138 ?_
              refine v_imulN dX7_check_140 ?_
              refine v_iconstN (n := 1) dX7_check_141 ?_
              refine v_iaddN dX7_check_142 ?_
              refine v_icmpN_ne (tgt := 172) dX7_check_143 (by decide) (by omega) (by omega) (fun h143 => absurd h143 (by omega)) (fun h143 => ?_)
              refine v_ild4 dX7_check_146 ?_
              refine v_ild2 dX7_check_148 ?_
              refine v_icmpN_ge (tgt := 172) dX7_check_149 (by decide) (by omega) (by omega) (fun h149 => ?_) (fun h149 => ?_)
              · refine v_iconstN (n := 0) dX7_check_172 ?_
                refine v_iaddN dX7_check_173 ?_
                refine v_ist4 dX7_check_174 (by decide) ?_
                refine v_iincN5 (n := 1) dX7_check_176 (by decide) ?_
                refine v_goto (tgt := 80) dX7_check_179 (by decide) ?_
                exact v_lo (by rw [show mtK (ckP (pfT tt T) (imv Mz) tl n) (2 * (j + 1)) = 2 * j + 1 + 0 from (mt_end (i := 2 * j + 1) (mt_t (i := 2 * j) h94 (by unfold ckP; rw [decide_eq_true (show 2 * j < n by omega), decide_eq_true (show tl (2 * j) = rvl (pfT tt T) (imv Mz) (2 * j) from hr0 ▸ htl2 (2 * j) (by omega) ▸ h122)]; rfl)) (Or.inr (by unfold ckP; rw [decide_eq_false (by omega)]; rfl)) (by omega)).trans (Nat.add_zero _).symm]) (ih _ ⟨hv2, hd2⟩)
              · refine v_ald0 dX7_check_152 ?_
                refine v_getr dX7_check_153 gX7_72 sh_92 rfl ?_
                refine v_ild4 dX7_check_156 ?_
                refine v_ialdN dX7_check_158 sh_113 (by omega) (by decide) ?_
                refine v_ald0 dX7_check_159 ?_
                refine v_getr dX7_check_160 gX7_9 sh_92 rfl ?_
                refine v_iconstN (n := 5) dX7_check_163 ?_
                refine v_ialdN dX7_check_164 sh_93 (by omega) (by decide) ?_
                refine v_icmp_ne (tgt := 172) dX7_check_165 (by decide) (fun h165 => ?_) (fun h165 => ?_)
                · refine v_iconstN (n := 0) dX7_check_172 ?_
                  refine v_iaddN dX7_check_173 ?_
                  refine v_ist4 dX7_check_174 (by decide) ?_
                  refine v_iincN5 (n := 1) dX7_check_176 (by decide) ?_
                  refine v_goto (tgt := 80) dX7_check_179 (by decide) ?_
                  exact v_lo (by rw [show mtK (ckP (pfT tt T) (imv Mz) tl n) (2 * (j + 1)) = 2 * j + 1 + 0 from (mt_end (i := 2 * j + 1) (mt_t (i := 2 * j) h94 (by unfold ckP; rw [decide_eq_true (show 2 * j < n by omega), decide_eq_true (show tl (2 * j) = rvl (pfT tt T) (imv Mz) (2 * j) from hr0 ▸ htl2 (2 * j) (by omega) ▸ h122)]; rfl)) (Or.inr (by unfold ckP; rw [decide_eq_false (show ¬ tl (2 * j + 1) = rvl (pfT tt T) (imv Mz) (2 * j + 1) from hr1 ▸ htl2 (2 * j + 1) (by omega) ▸ h165)]; simp)) (by omega)).trans (Nat.add_zero _).symm]) (ih _ ⟨hv2, hd2⟩)
                · refine v_iconstN (n := 1) dX7_check_168 ?_
                  refine v_goto (tgt := 173) dX7_check_169 (by decide) ?_
                  refine v_iaddN dX7_check_173 ?_
                  refine v_ist4 dX7_check_174 (by decide) ?_
                  refine v_iincN5 (n := 1) dX7_check_176 (by decide) ?_
                  refine v_goto (tgt := 80) dX7_check_179 (by decide) ?_
                  exact v_lo (by rw [show mtK (ckP (pfT tt T) (imv Mz) tl n) (2 * (j + 1)) = 2 * j + 1 + 1 from mt_t (i := 2 * j + 1) (mt_t (i := 2 * j) h94 (by unfold ckP; rw [decide_eq_true (show 2 * j < n by omega), decide_eq_true (show tl (2 * j) = rvl (pfT tt T) (imv Mz) (2 * j) from hr0 ▸ htl2 (2 * j) (by omega) ▸ h122)]; rfl)) (by unfold ckP; rw [decide_eq_true (show 2 * j + 1 < n by omega), decide_eq_true (show tl (2 * j + 1) = rvl (pfT tt T) (imv Mz) (2 * j + 1) from hr1 ▸ htl2 (2 * j + 1) (by omega) ▸ h165)]; rfl)]) (ih _ ⟨hv2, hd2⟩)
      · obtain ⟨hv, hd⟩ := hM
        have hml := mt_le (ckP (pfT tt T) (imv Mz) tl n) (2 * wkN (imv Mz) (nI k))
        refine v_iconstN (n := 2) dX7_check_80 ?_
        refine v_ild5 dX7_check_81 ?_
        refine v_imulN dX7_check_83 ?_
        refine v_ild3 dX7_check_84 ?_
        refine v_icmpN_ge (tgt := 182) dX7_check_85 (by decide) (by omega) (by omega) (fun h85 => ?_) (fun h85 => absurd h85 (by omega))
        refine v_ald0 dX7_check_182 ?_
        refine v_getr dX7_check_183 gX7_16 sh_92 rfl ?_
        refine v_ald0 dX7_check_186 ?_
        refine v_getr dX7_check_187 gX7_9 sh_92 rfl ?_
        refine v_callSv (kM_copyAll E Mk sh_95 sh_93 (by decide)) dX7_check_190 cX7_181 rfl (by decide) (Nat.le_of_ble_eq_true rfl) rfl (fun M1z hq => ?_)
        rw [hq]
        clear hq
        refine v_ild4 dX7_check_193 ?_
        refine v_ild2 dX7_check_195 ?_
        refine v_icmpN_ne (tgt := 209) dX7_check_196 (by decide) (by omega) (by omega) (fun h196 => ?_) (fun h196 => ?_)
        · refine v_iconstN (n := 1) dX7_check_209 ?_
          refine v_ild4 dX7_check_210 ?_
          refine v_iaddN dX7_check_212 ?_
          exact v_iret dX7_check_213 rfl (⟨by have hm : mtK (ckP (pfT tt T) (imv Mz) tl n) (2 * wkN (imv Mz) (nI k)) = mtK (ckP (pfT tt T) (imv Mz) tl n) (2 * wkN (imv Mz) (nI k)) := rfl; unfold R_check; rw [if_pos (b2_1.mp h17), if_pos hbt, hm, if_neg (by omega)], hd.back⟩)
        · refine v_ild4 dX7_check_199 ?_
          refine v_ild3 dX7_check_201 ?_
          refine v_icmpN_ne (tgt := 209) dX7_check_202 (by decide) (by omega) (by omega) (fun h202 => ?_) (fun h202 => ?_)
          · refine v_iconstN (n := 1) dX7_check_209 ?_
            refine v_ild4 dX7_check_210 ?_
            refine v_iaddN dX7_check_212 ?_
            exact v_iret dX7_check_213 rfl (⟨by have hm : mtK (ckP (pfT tt T) (imv Mz) tl n) (2 * wkN (imv Mz) (nI k)) = mtK (ckP (pfT tt T) (imv Mz) tl n) (2 * wkN (imv Mz) (nI k)) := rfl; unfold R_check; rw [if_pos (b2_1.mp h17), if_pos hbt, hm, if_neg (by omega)], hd.back⟩)
          · refine v_iconstN (n := 0) dX7_check_205 ?_
            refine v_goto (tgt := 213) dX7_check_206 (by decide) ?_
            exact v_iret dX7_check_213 rfl (⟨by have hm : mtK (ckP (pfT tt T) (imv Mz) tl n) (2 * wkN (imv Mz) (nI k)) = mtK (ckP (pfT tt T) (imv Mz) tl n) (2 * wkN (imv Mz) (nI k)) := rfl; unfold R_check; rw [if_pos (b2_1.mp h17), if_pos hbt, hm, if_pos (by omega)], hd.back⟩)
    · refine v_ldcw dX7_check_30 kX7_278 ?_
      exact v_iret dX7_check_33 rfl (⟨by unfold R_check; rw [if_pos (b2_1.mp h17), if_neg (by rw [b2_0.mp h27]; decide)], FrD.rf _⟩)
  · refine v_ldc dX7_check_20 kX7_119 ?_
    exact v_iret dX7_check_22 rfl (⟨by unfold R_check; rw [if_neg (by rw [b2_0.mp h17]; decide)], FrD.rf _⟩)
