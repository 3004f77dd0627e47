set_option maxRecDepth 100000 in
set_option maxHeartbeats 4000000 in
theorem kC_thoughtOf (E : ev) (Mz : mm) {c p f : Nat} (hc : CB c) (hp : p < 8) (hf : f < 6) : Ct E 0 yX0_thoughtOf cX0_thoughtOf 3 (some .int) [.inr c, .inl (nI p), .inl (nI f)] Mz (qI E (fun r M' => r = th (cv Mz c) p f ∧ M' = Mz)) := by
  refine ct_of (by decide) (Nat.le_of_ble_eq_true rfl) ?_
  show V E 0 _ _ _ _ _ 0 [some (.inr c), some (.inl (nI p)), some (.inl (nI f))] [] Mz
  refine v_ald0 dX0_thoughtOf_0 ?_
  refine v_getr dX0_thoughtOf_1 gX0_24 (shC hc) rfl ?_
  refine v_ild1 dX0_thoughtOf_4 ?_
  refine v_bipushN (n := 6) dX0_thoughtOf_5 (by decide) ?_
  refine v_imulN dX0_thoughtOf_7 ?_
  refine v_ild2 dX0_thoughtOf_8 ?_
  refine v_iaddN dX0_thoughtOf_9 ?_
  refine v_ialdN dX0_thoughtOf_10 (shC5 hc) (by omega) (by decide) ?_
  exact v_iret dX0_thoughtOf_11 rfl (⟨(cv_th Mz c hp hf).symm, rfl⟩)
set_option maxRecDepth 100000 in
set_option maxHeartbeats 4000000 in
theorem kC_votesFor (E : ev) (Mz : mm) {c f W : Nat} {crop : Int32} (hc : CB c) (hf : f < 6) (hI : CI (cv Mz c) W) : Ct E 1 yX0_votesFor cX0_votesFor 5 (some .int) [.inr c, .inl (nI f), .inl crop] Mz (qI E (fun r M' => r = (if crop = 0 then 0 else vot (cv Mz c) f crop) ∧ M' = Mz)) := by
  refine ct_of (by decide) (Nat.le_of_ble_eq_true rfl) ?_
  show V E 1 _ _ _ _ _ 0 [some (.inr c), some (.inl (nI f)), some (.inl crop), none, none] [] Mz
  have hpe : Mz c 1 = nI (pn (cv Mz c)) := hI.pn.1
  have hp8 := hI.pn.2
  refine v_iconstN (n := 0) dX0_votesFor_0 ?_
  refine v_ist3 dX0_votesFor_1 (by decide) ?_
  refine v_iconstN (n := 0) dX0_votesFor_2 ?_
  refine v_ist4 dX0_votesFor_3 (by decide) ?_
  refine v_loop (pc := 5) (fun k => [some (.inr c), some (.inl (nI f)), some (.inl crop), some (.inl (if crop = 0 then 0 else votK (cv Mz c) f crop k)), some (.inl (nI k))]) (fun k => Mz) (pn (cv Mz c)) (by simp [votK]; rfl) (rfl) (fun k hk ih => ?_) ?_
  · refine v_ild4 dX0_votesFor_5 ?_
    refine v_ald0 dX0_votesFor_7 ?_
    refine v_geti dX0_votesFor_8 gX0_44 (shC hc) rfl ?_
    refine v_eq (hpe) ?_
    refine v_icmpN_ge (tgt := 49) dX0_votesFor_11 (by decide) (by omega) (by omega) (fun h11 => absurd h11 (by omega)) (fun h11 => ?_)
    refine v_ild2 dX0_votesFor_14 ?_
    refine v_if_eq (tgt := 43) dX0_votesFor_15 (by decide) (fun h15 => ?_) (fun h15 => ?_)
    · refine v_iincN4 (n := 1) dX0_votesFor_43 (by decide) ?_
      refine v_goto (tgt := 5) dX0_votesFor_46 (by decide) ?_
      exact v_lo (by simp [votK, h15]) ih
    · refine v_ald0 dX0_votesFor_18 ?_
      refine v_ild4 dX0_votesFor_19 ?_
      refine v_ild1 dX0_votesFor_21 ?_
      refine v_callVi (kC_thoughtOf E Mz hc (by omega) (by omega)) dX0_votesFor_22 cX0_80 rfl (shC hc) rfl (by decide) (Nat.le_of_ble_eq_true rfl) rfl (fun r M1z hq => ?_)
      obtain ⟨hr, hm⟩ := hq
      rw [hr, hm]
      clear hr hm
      refine v_ild2 dX0_votesFor_25 ?_
      refine v_icmp_ne (tgt := 43) dX0_votesFor_26 (by decide) (fun h26 => ?_) (fun h26 => ?_)
      · refine v_iincN4 (n := 1) dX0_votesFor_43 (by decide) ?_
        refine v_goto (tgt := 5) dX0_votesFor_46 (by decide) ?_
        exact v_lo (by simp [votK, h15, h26]) ih
      · refine v_ild3 dX0_votesFor_29 ?_
        refine v_getWN dX0_votesFor_30 rfl rfl ?_
        refine v_ald0 dX0_votesFor_33 ?_
        refine v_getr dX0_votesFor_34 gX0_9 (shC hc) rfl ?_
        refine v_ild4 dX0_votesFor_37 ?_
        refine v_ialdN dX0_votesFor_39 (shC1 hc) (by omega) (by decide) ?_
        refine v_eq ((cv_kd Mz c (by omega)).symm) ?_
        refine v_aldW dX0_votesFor_40 ((hI.kd (by omega)).in (by decide)) ?_
        refine v_iadd dX0_votesFor_41 ?_
        refine v_ist3 dX0_votesFor_42 (by decide) ?_
        refine v_iincN4 (n := 1) dX0_votesFor_43 (by decide) ?_
        refine v_goto (tgt := 5) dX0_votesFor_46 (by decide) ?_
        exact v_lo (by simp [votK, h15, h26]) ih
  · refine v_ild4 dX0_votesFor_5 ?_
    refine v_ald0 dX0_votesFor_7 ?_
    refine v_geti dX0_votesFor_8 gX0_44 (shC hc) rfl ?_
    refine v_eq (hpe) ?_
    refine v_icmpN_ge (tgt := 49) dX0_votesFor_11 (by decide) (by omega) (by omega) (fun h11 => ?_) (fun h11 => absurd h11 (by omega))
    refine v_ild3 dX0_votesFor_49 ?_
    exact v_iret dX0_votesFor_50 rfl (⟨rfl, rfl⟩)
set_option maxRecDepth 100000 in
set_option maxHeartbeats 4000000 in
theorem kC_firstCrop (E : ev) (Mz : mm) {c f W : Nat} (hc : CB c) (hf : f < 6) (hI : CI (cv Mz c) W) : Ct E 2 yX0_firstCrop cX0_firstCrop 6 (some .int) [.inr c, .inl (nI f)] Mz (qI E (fun r M' => r = fc (cv Mz c) f ∧ M' = Mz)) := by
  refine ct_of (by decide) (Nat.le_of_ble_eq_true rfl) ?_
  show V E 2 _ _ _ _ _ 0 [some (.inr c), some (.inl (nI f)), none, none, none, none] [] Mz
  have hpe : Mz c 1 = nI (pn (cv Mz c)) := hI.pn.1
  have hp8 := hI.pn.2
  refine v_iconstN (n := 0) dX0_firstCrop_0 ?_
  refine v_ist2 dX0_firstCrop_1 (by decide) ?_
  refine v_iconstN (n := 0) dX0_firstCrop_2 ?_
  refine v_ist3 dX0_firstCrop_3 (by decide) ?_
  refine v_iconstN (n := 1) dX0_firstCrop_4 ?_
  refine v_ist4 dX0_firstCrop_5 (by decide) ?_
  refine v_loop (pc := 7) (fun k => [some (.inr c), some (.inl (nI f)), some (.inl (fcK (cv Mz c) f k).1), some (.inl (fcK (cv Mz c) f k).2), some (.inl (nI (k + 1))), none]) (fun k => Mz) (9) (rfl) (rfl) (fun k hk ih => ?_) ?_
  · refine v_ild4 dX0_firstCrop_7 ?_
    refine v_bipushN (n := 9) dX0_firstCrop_9 (by decide) ?_
    refine v_icmpN_gt (tgt := 41) dX0_firstCrop_11 (by decide) (by omega) (by omega) (fun h11 => absurd h11 (by omega)) (fun h11 => ?_)
    refine v_ald0 dX0_firstCrop_14 ?_
    refine v_ild1 dX0_firstCrop_15 ?_
    refine v_ild4 dX0_firstCrop_16 ?_
    refine v_callVi (kC_votesFor E Mz hc hf hI) dX0_firstCrop_18 cX0_97 rfl (shC hc) rfl (by decide) (Nat.le_of_ble_eq_true rfl) rfl (fun r M1z hq => ?_)
    obtain ⟨hr, hm⟩ := hq
    rw [hr, hm]
    clear hr hm
    rw [if_neg (nI_ne0 (by omega) (by omega))]
    refine v_ist5 dX0_firstCrop_21 (by decide) ?_
    refine v_ild5 dX0_firstCrop_23 ?_
    refine v_ild3 dX0_firstCrop_25 ?_
    refine v_icmp_le (tgt := 35) dX0_firstCrop_26 (by decide) (fun h26 => ?_) (fun h26 => ?_)
    · refine v_iincN4 (n := 1) dX0_firstCrop_35 (by decide) ?_
      refine v_goto (tgt := 7) dX0_firstCrop_38 (by decide) ?_
      refine v_fg5 ?_
      exact v_lo (by rw [show fcK (cv Mz c) f (k + 1) = fcK (cv Mz c) f k from if_neg (Int32.not_lt.mpr h26)]) ih
    · refine v_ild4 dX0_firstCrop_29 ?_
      refine v_ist2 dX0_firstCrop_31 (by decide) ?_
      refine v_ild5 dX0_firstCrop_32 ?_
      refine v_ist3 dX0_firstCrop_34 (by decide) ?_
      refine v_iincN4 (n := 1) dX0_firstCrop_35 (by decide) ?_
      refine v_goto (tgt := 7) dX0_firstCrop_38 (by decide) ?_
      refine v_fg5 ?_
      exact v_lo (by rw [show fcK (cv Mz c) f (k + 1) = (nI (k + 1), vot (cv Mz c) f (nI (k + 1))) from if_pos (Int32.not_le.mp h26)]) ih
  · refine v_ild4 dX0_firstCrop_7 ?_
    refine v_bipushN (n := 9) dX0_firstCrop_9 (by decide) ?_
    refine v_icmpN_gt (tgt := 41) dX0_firstCrop_11 (by decide) (by omega) (by omega) (fun h11 => ?_) (fun h11 => absurd h11 (by omega))
    refine v_ild2 dX0_firstCrop_41 ?_
    exact v_iret dX0_firstCrop_42 rfl (⟨rfl, rfl⟩)
set_option maxRecDepth 100000 in
set_option maxHeartbeats 4000000 in
theorem kC_believersOf (E : ev) (Mz : mm) {c f W : Nat} {crop : Int32} (hc : CB c) (hf : f < 6) (hI : CI (cv Mz c) W) : Ct E 1 yX0_believersOf cX0_believersOf 5 (some .int) [.inr c, .inl (nI f), .inl crop] Mz (qI E (fun r M' => r = (if crop = 0 then nI 0 else nI (thkN (cv Mz c) f crop)) ∧ M' = Mz)) := by
  refine ct_of (by decide) (Nat.le_of_ble_eq_true rfl) ?_
  show V E 1 _ _ _ _ _ 0 [some (.inr c), some (.inl (nI f)), some (.inl crop), none, none] [] Mz
  have hpe : Mz c 1 = nI (pn (cv Mz c)) := hI.pn.1
  have hp8 := hI.pn.2
  refine v_iconstN (n := 0) dX0_believersOf_0 ?_
  refine v_ist3 dX0_believersOf_1 (by decide) ?_
  refine v_iconstN (n := 0) dX0_believersOf_2 ?_
  refine v_ist4 dX0_believersOf_3 (by decide) ?_
  refine v_loop (pc := 5) (fun k => [some (.inr c), some (.inl (nI f)), some (.inl crop), some (.inl (if crop = 0 then nI 0 else nI (setK (thkP (cv Mz c) f crop) k))), some (.inl (nI k))]) (fun k => Mz) (pn (cv Mz c)) (by simp [setK]) (rfl) (fun k hk ih => ?_) ?_
  · refine v_ild4 dX0_believersOf_5 ?_
    refine v_ald0 dX0_believersOf_7 ?_
    refine v_geti dX0_believersOf_8 gX0_44 (shC hc) rfl ?_
    refine v_eq (hpe) ?_
    refine v_icmpN_ge (tgt := 42) dX0_believersOf_11 (by decide) (by omega) (by omega) (fun h11 => absurd h11 (by omega)) (fun h11 => ?_)
    refine v_ild2 dX0_believersOf_14 ?_
    refine v_if_eq (tgt := 36) dX0_believersOf_15 (by decide) (fun h15 => ?_) (fun h15 => ?_)
    · refine v_iincN4 (n := 1) dX0_believersOf_36 (by decide) ?_
      refine v_goto (tgt := 5) dX0_believersOf_39 (by decide) ?_
      exact v_lo (by rw [if_pos h15, if_pos h15]) ih
    · refine v_ald0 dX0_believersOf_18 ?_
      refine v_ild4 dX0_believersOf_19 ?_
      refine v_ild1 dX0_believersOf_21 ?_
      refine v_callVi (kC_thoughtOf E Mz hc (by omega) (by omega)) dX0_believersOf_22 cX0_80 rfl (shC hc) rfl (by decide) (Nat.le_of_ble_eq_true rfl) rfl (fun r M1z hq => ?_)
      obtain ⟨hr, hm⟩ := hq
      rw [hr, hm]
      clear hr hm
      refine v_ild2 dX0_believersOf_25 ?_
      refine v_icmp_ne (tgt := 36) dX0_believersOf_26 (by decide) (fun h26 => ?_) (fun h26 => ?_)
      · refine v_iincN4 (n := 1) dX0_believersOf_36 (by decide) ?_
        refine v_goto (tgt := 5) dX0_believersOf_39 (by decide) ?_
        exact v_lo (by rw [if_neg h15, if_neg h15, setK_f (P := thkP (cv Mz c) f crop) (decide_eq_false h26)]) ih
      · refine v_ild3 dX0_believersOf_29 ?_
        refine v_iconstN (n := 1) dX0_believersOf_30 ?_
        refine v_ild4 dX0_believersOf_31 ?_
        refine v_ishl dX0_believersOf_33 ?_
        refine v_ior dX0_believersOf_34 ?_
        refine v_ist3 dX0_believersOf_35 (by decide) ?_
        refine v_iincN4 (n := 1) dX0_believersOf_36 (by decide) ?_
        refine v_goto (tgt := 5) dX0_believersOf_39 (by decide) ?_
        exact v_lo (by rw [if_neg h15, if_neg h15, setK_t (P := thkP (cv Mz c) f crop) (by omega) (decide_eq_true h26)]) ih
  · refine v_ild4 dX0_believersOf_5 ?_
    refine v_ald0 dX0_believersOf_7 ?_
    refine v_geti dX0_believersOf_8 gX0_44 (shC hc) rfl ?_
    refine v_eq (hpe) ?_
    refine v_icmpN_ge (tgt := 42) dX0_believersOf_11 (by decide) (by omega) (by omega) (fun h11 => ?_) (fun h11 => absurd h11 (by omega))
    refine v_ild3 dX0_believersOf_42 ?_
    exact v_iret dX0_believersOf_43 rfl (⟨rfl, rfl⟩)
set_option maxRecDepth 100000 in
set_option maxHeartbeats 4000000 in
theorem kC_fieldsThoughtOf (E : ev) (Mz : mm) {c p : Nat} (hc : CB c) (hp : p < 8) : Ct E 1 yX0_fieldsThoughtOf cX0_fieldsThoughtOf 4 (some .int) [.inr c, .inl (nI p)] Mz (qI E (fun r M' => r = nI (fldN (cv Mz c) p) ∧ M' = Mz)) := by
  refine ct_of (by decide) (Nat.le_of_ble_eq_true rfl) ?_
  show V E 1 _ _ _ _ _ 0 [some (.inr c), some (.inl (nI p)), none, none] [] Mz
  refine v_iconstN (n := 0) dX0_fieldsThoughtOf_0 ?_
  refine v_ist2 dX0_fieldsThoughtOf_1 (by decide) ?_
  refine v_iconstN (n := 0) dX0_fieldsThoughtOf_2 ?_
  refine v_ist3 dX0_fieldsThoughtOf_3 (by decide) ?_
  refine v_loop (pc := 4) (fun k => [some (.inr c), some (.inl (nI p)), some (.inl (nI (setK (fldP (cv Mz c) p) k))), some (.inl (nI k))]) (fun k => Mz) (6) (rfl) (rfl) (fun k hk ih => ?_) ?_
  · refine v_ild3 dX0_fieldsThoughtOf_4 ?_
    refine v_bipushN (n := 6) dX0_fieldsThoughtOf_5 (by decide) ?_
    refine v_icmpN_ge (tgt := 31) dX0_fieldsThoughtOf_7 (by decide) (by omega) (by omega) (fun h7 => absurd h7 (by omega)) (fun h7 => ?_)
    refine v_ald0 dX0_fieldsThoughtOf_10 ?_
    refine v_ild1 dX0_fieldsThoughtOf_11 ?_
    refine v_ild3 dX0_fieldsThoughtOf_12 ?_
    refine v_callVi (kC_thoughtOf E Mz hc (by omega) (by omega)) dX0_fieldsThoughtOf_13 cX0_80 rfl (shC hc) rfl (by decide) (Nat.le_of_ble_eq_true rfl) rfl (fun r M1z hq => ?_)
    obtain ⟨hr, hm⟩ := hq
    rw [hr, hm]
    clear hr hm
    refine v_if_eq (tgt := 25) dX0_fieldsThoughtOf_16 (by decide) (fun h16 => ?_) (fun h16 => ?_)
    · refine v_iincN3 (n := 1) dX0_fieldsThoughtOf_25 (by decide) ?_
      refine v_goto (tgt := 4) dX0_fieldsThoughtOf_28 (by decide) ?_
      exact v_lo (by rw [setK_f (P := fldP (cv Mz c) p) (by simp [h16])]) ih
    · refine v_ild2 dX0_fieldsThoughtOf_19 ?_
      refine v_iconstN (n := 1) dX0_fieldsThoughtOf_20 ?_
      refine v_ild3 dX0_fieldsThoughtOf_21 ?_
      refine v_ishl dX0_fieldsThoughtOf_22 ?_
      refine v_ior dX0_fieldsThoughtOf_23 ?_
      refine v_ist2 dX0_fieldsThoughtOf_24 (by decide) ?_
      refine v_iincN3 (n := 1) dX0_fieldsThoughtOf_25 (by decide) ?_
      refine v_goto (tgt := 4) dX0_fieldsThoughtOf_28 (by decide) ?_
      exact v_lo (by rw [setK_t (P := fldP (cv Mz c) p) (by omega) (by simp [h16])]) ih
  · refine v_ild3 dX0_fieldsThoughtOf_4 ?_
    refine v_bipushN (n := 6) dX0_fieldsThoughtOf_5 (by decide) ?_
    refine v_icmpN_ge (tgt := 31) dX0_fieldsThoughtOf_7 (by decide) (by omega) (by omega) (fun h7 => ?_) (fun h7 => absurd h7 (by omega))
    refine v_ild2 dX0_fieldsThoughtOf_31 ?_
    exact v_iret dX0_fieldsThoughtOf_32 rfl (⟨rfl, rfl⟩)
set_option maxRecDepth 100000 in
set_option maxHeartbeats 4000000 in
theorem kC_hears (E : ev) (Mz : mm) {c q p : Nat} (hc : CB c) (hq8 : q < 8) (hp : p < 8) : Ct E 1 yX0_hears cX0_hears 4 (some .boolean) [.inr c, .inl (nI q), .inl (nI p)] Mz (qI E (fun r M' => r = b2 (hearB (cv Mz c) q p) ∧ M' = Mz)) := by
  refine ct_of (by decide) (Nat.le_of_ble_eq_true rfl) ?_
  show V E 1 _ _ _ _ _ 0 [some (.inr c), some (.inl (nI q)), some (.inl (nI p)), none] [] Mz
  refine v_ald0 dX0_hears_0 ?_
  refine v_getr dX0_hears_1 gX0_15 (shC hc) rfl ?_
  refine v_ild1 dX0_hears_4 ?_
  refine v_ialdN dX0_hears_5 (shC2 hc) (by omega) (by decide) ?_
  refine v_eq ((cv_pl Mz c hq8).symm) ?_
  refine v_ald0 dX0_hears_6 ?_
  refine v_getr dX0_hears_7 gX0_15 (shC hc) rfl ?_
  refine v_ild2 dX0_hears_10 ?_
  refine v_ialdN dX0_hears_11 (shC2 hc) (by omega) (by decide) ?_
  refine v_eq ((cv_pl Mz c hp).symm) ?_
  refine v_isub dX0_hears_12 ?_
  refine v_mabs dX0_hears_13 mX0_84 (by decide) (Nat.le_of_ble_eq_true rfl) ?_
  refine v_eq (show _ = apt (cv Mz c) q p from rfl) ?_
  refine v_ist3 dX0_hears_16 (by decide) ?_
  refine v_ild1 dX0_hears_17 ?_
  refine v_ild2 dX0_hears_18 ?_
  refine v_icmpN_eq (tgt := 37) dX0_hears_19 (by decide) (by omega) (by omega) (fun h19 => ?_) (fun h19 => ?_)
  · refine v_iconstN (n := 0) dX0_hears_37 ?_
    exact v_zret dX0_hears_38 rfl (by decide +kernel) (⟨by simp [hearB, b2, h19]; try rfl, rfl⟩)
  · refine v_ild3 dX0_hears_22 ?_
    refine v_iconstN (n := 1) dX0_hears_23 ?_
    refine v_icmp_le (tgt := 33) dX0_hears_24 (by decide) (fun h24 => ?_) (fun h24 => ?_)
    · refine v_iconstN (n := 1) dX0_hears_33 ?_
      refine v_goto (tgt := 38) dX0_hears_34 (by decide) ?_
      exact v_zret dX0_hears_38 rfl (by decide +kernel) (⟨by simp [hearB, b2, h19, h24]; try rfl, rfl⟩)
    · refine v_ild3 dX0_hears_27 ?_
      refine v_bipushN (n := 7) dX0_hears_28 (by decide) ?_
      refine v_icmp_ne (tgt := 37) dX0_hears_30 (by decide) (fun h30 => ?_) (fun h30 => ?_)
      · refine v_iconstN (n := 0) dX0_hears_37 ?_
        exact v_zret dX0_hears_38 rfl (by decide +kernel) (⟨by simp [hearB, b2, h19, h24, h30]; try rfl, rfl⟩)
      · refine v_iconstN (n := 1) dX0_hears_33 ?_
        refine v_goto (tgt := 38) dX0_hears_34 (by decide) ?_
        exact v_zret dX0_hears_38 rfl (by decide +kernel) (⟨by simp [hearB, b2, h19, h24, h30]; try rfl, rfl⟩)
set_option maxRecDepth 100000 in
set_option maxHeartbeats 4000000 in
theorem kC_hearersOf (E : ev) (Mz : mm) {c p W : Nat} (hc : CB c) (hp : p < 8) (hI : CI (cv Mz c) W) : Ct E 2 yX0_hearersOf cX0_hearersOf 4 (some .int) [.inr c, .inl (nI p)] Mz (qI E (fun r M' => r = nI (hrsN (cv Mz c) p) ∧ M' = Mz)) := by
  refine ct_of (by decide) (Nat.le_of_ble_eq_true rfl) ?_
  show V E 2 _ _ _ _ _ 0 [some (.inr c), some (.inl (nI p)), none, none] [] Mz
  have hpe : Mz c 1 = nI (pn (cv Mz c)) := hI.pn.1
  have hp8 := hI.pn.2
  refine v_iconstN (n := 0) dX0_hearersOf_0 ?_
  refine v_ist2 dX0_hearersOf_1 (by decide) ?_
  refine v_iconstN (n := 0) dX0_hearersOf_2 ?_
  refine v_ist3 dX0_hearersOf_3 (by decide) ?_
  refine v_loop (pc := 4) (fun k => [some (.inr c), some (.inl (nI p)), some (.inl (nI (setK (hrsP (cv Mz c) p) k))), some (.inl (nI k))]) (fun k => Mz) (pn (cv Mz c)) (rfl) (rfl) (fun k hk ih => ?_) ?_
  · refine v_ild3 dX0_hearersOf_4 ?_
    refine v_ald0 dX0_hearersOf_5 ?_
    refine v_geti dX0_hearersOf_6 gX0_44 (shC hc) rfl ?_
    refine v_eq (hpe) ?_
    refine v_icmpN_ge (tgt := 33) dX0_hearersOf_9 (by decide) (by omega) (by omega) (fun h9 => absurd h9 (by omega)) (fun h9 => ?_)
    refine v_ald0 dX0_hearersOf_12 ?_
    refine v_ild3 dX0_hearersOf_13 ?_
    refine v_ild1 dX0_hearersOf_14 ?_
    refine v_callVi (kC_hears E Mz hc (by omega) (by omega)) dX0_hearersOf_15 cX0_90 rfl (shC hc) rfl (by decide) (Nat.le_of_ble_eq_true rfl) rfl (fun r M1z hq => ?_)
    obtain ⟨hr, hm⟩ := hq
    rw [hr, hm]
    clear hr hm
    refine v_if_eq (tgt := 27) dX0_hearersOf_18 (by decide) (fun h18 => ?_) (fun h18 => ?_)
    · refine v_iincN3 (n := 1) dX0_hearersOf_27 (by decide) ?_
      refine v_goto (tgt := 4) dX0_hearersOf_30 (by decide) ?_
      exact v_lo (by rw [setK_f (P := hrsP (cv Mz c) p) (b2_0.mp h18)]) ih
    · refine v_ild2 dX0_hearersOf_21 ?_
      refine v_iconstN (n := 1) dX0_hearersOf_22 ?_
      refine v_ild3 dX0_hearersOf_23 ?_
      refine v_ishl dX0_hearersOf_24 ?_
      refine v_ior dX0_hearersOf_25 ?_
      refine v_ist2 dX0_hearersOf_26 (by decide) ?_
      refine v_iincN3 (n := 1) dX0_hearersOf_27 (by decide) ?_
      refine v_goto (tgt := 4) dX0_hearersOf_30 (by decide) ?_
      exact v_lo (by rw [setK_t (P := hrsP (cv Mz c) p) (by omega) (b2_1.mp h18)]) ih
  · refine v_ild3 dX0_hearersOf_4 ?_
    refine v_ald0 dX0_hearersOf_5 ?_
    refine v_geti dX0_hearersOf_6 gX0_44 (shC hc) rfl ?_
    refine v_eq (hpe) ?_
    refine v_icmpN_ge (tgt := 33) dX0_hearersOf_9 (by decide) (by omega) (by omega) (fun h9 => ?_) (fun h9 => absurd h9 (by omega))
    refine v_ild2 dX0_hearersOf_33 ?_
    exact v_iret dX0_hearersOf_34 rfl (⟨rfl, rfl⟩)
set_option maxRecDepth 100000 in
set_option maxHeartbeats 4000000 in
theorem kC_sureOfAll (E : ev) (Mz : mm) {c W : Nat} (hc : CB c) (hI : CI (cv Mz c) W) : Ct E 0 yX0_sureOfAll cX0_sureOfAll 3 (some .int) [.inr c] Mz (qI E (fun r M' => r = surK (cv Mz c) (pn (cv Mz c)) ∧ M' = Mz)) := by
  refine ct_of (by decide) (Nat.le_of_ble_eq_true rfl) ?_
  show V E 0 _ _ _ _ _ 0 [some (.inr c), none, none] [] Mz
  have hpe : Mz c 1 = nI (pn (cv Mz c)) := hI.pn.1
  have hp8 := hI.pn.2
  refine v_iconstN (n := 0) dX0_sureOfAll_0 ?_
  refine v_ist1 dX0_sureOfAll_1 (by decide) ?_
  refine v_iconstN (n := 0) dX0_sureOfAll_2 ?_
  refine v_ist2 dX0_sureOfAll_3 (by decide) ?_
  refine v_loop (pc := 4) (fun k => [some (.inr c), some (.inl (surK (cv Mz c) k)), some (.inl (nI k))]) (fun k => Mz) (pn (cv Mz c)) (rfl) (rfl) (fun k hk ih => ?_) ?_
  · refine v_ild2 dX0_sureOfAll_4 ?_
    refine v_ald0 dX0_sureOfAll_5 ?_
    refine v_geti dX0_sureOfAll_6 gX0_44 (shC hc) rfl ?_
    refine v_eq (hpe) ?_
    refine v_icmpN_ge (tgt := 27) dX0_sureOfAll_9 (by decide) (by omega) (by omega) (fun h9 => absurd h9 (by omega)) (fun h9 => ?_)
    refine v_ild1 dX0_sureOfAll_12 ?_
    refine v_ald0 dX0_sureOfAll_13 ?_
    refine v_getr dX0_sureOfAll_14 gX0_21 (shC hc) rfl ?_
    refine v_ild2 dX0_sureOfAll_17 ?_
    refine v_ialdN dX0_sureOfAll_18 (shC4 hc) (by omega) (by decide) ?_
    refine v_eq ((cv_su Mz c (by omega)).symm) ?_
    refine v_iadd dX0_sureOfAll_19 ?_
    refine v_ist1 dX0_sureOfAll_20 (by decide) ?_
    refine v_iincN2 (n := 1) dX0_sureOfAll_21 (by decide) ?_
    refine v_goto (tgt := 4) dX0_sureOfAll_24 (by decide) ?_
    exact ih
  · refine v_ild2 dX0_sureOfAll_4 ?_
    refine v_ald0 dX0_sureOfAll_5 ?_
    refine v_geti dX0_sureOfAll_6 gX0_44 (shC hc) rfl ?_
    refine v_eq (hpe) ?_
    refine v_icmpN_ge (tgt := 27) dX0_sureOfAll_9 (by decide) (by omega) (by omega) (fun h9 => ?_) (fun h9 => absurd h9 (by omega))
    refine v_ild1 dX0_sureOfAll_27 ?_
    exact v_iret dX0_sureOfAll_28 rfl (⟨rfl, rfl⟩)
set_option maxRecDepth 100000 in
set_option maxHeartbeats 4000000 in
theorem kC_oneMore (E : ev) (Mz : mm) {x : Int32} : Ct E 0 yX0_oneMore cX0_oneMore 1 (some .int) [.inl x] Mz (qI E (fun r M' => r = one9 x ∧ M' = Mz)) := by
  refine ct_of (by decide) (Nat.le_of_ble_eq_true rfl) ?_
  show V E 0 _ _ _ _ _ 0 [some (.inl x)] [] Mz
  refine v_ild0 dX0_oneMore_0 ?_
  refine v_if_ne (tgt := 6) dX0_oneMore_1 (by decide) (fun h1 => ?_) (fun h1 => ?_)
  · refine v_ild0 dX0_oneMore_6 ?_
    refine v_bipushN (n := 9) dX0_oneMore_7 (by decide) ?_
    refine v_icmp_ne (tgt := 16) dX0_oneMore_9 (by decide) (fun h9 => ?_) (fun h9 => ?_)
    · refine v_ild0 dX0_oneMore_16 ?_
      refine v_iconstN (n := 1) dX0_oneMore_17 ?_
      refine v_iadd dX0_oneMore_18 ?_
      exact v_iret dX0_oneMore_19 rfl (⟨by unfold one9; first | rw [if_pos h1] | rw [if_neg h1, if_pos h9] | rw [if_neg h1, if_neg h9], rfl⟩)
    · refine v_iconstN (n := 1) dX0_oneMore_12 ?_
      refine v_goto (tgt := 19) dX0_oneMore_13 (by decide) ?_
      exact v_iret dX0_oneMore_19 rfl (⟨by unfold one9; first | rw [if_pos h1] | rw [if_neg h1, if_pos h9] | rw [if_neg h1, if_neg h9], rfl⟩)
  · refine v_iconstN (n := 0) dX0_oneMore_4 ?_
    exact v_iret dX0_oneMore_5 rfl (⟨by unfold one9; first | rw [if_pos h1] | rw [if_neg h1, if_pos h9] | rw [if_neg h1, if_neg h9], rfl⟩)
set_option maxRecDepth 100000 in
set_option maxHeartbeats 4000000 in
theorem kC_tradersWord (E : ev) (Mz : mm) {c f W : Nat} (hc : CB c) (hf : f < 6) (hI : CI (cv Mz c) W) : Ct E 3 yX0_tradersWord cX0_tradersWord 3 (some .int) [.inr c, .inl (nI f)] Mz (qI E (fun r M' => r = (if fc (cv Mz c) f = 0 then sw (cv Mz c) f else fc (cv Mz c) f) ∧ M' = Mz)) := by
  refine ct_of (by decide) (Nat.le_of_ble_eq_true rfl) ?_
  show V E 3 _ _ _ _ _ 0 [some (.inr c), some (.inl (nI f)), none] [] Mz
  refine v_ald0 dX0_tradersWord_0 ?_
  refine v_ild1 dX0_tradersWord_1 ?_
  refine v_callVi (kC_firstCrop E Mz hc hf hI) dX0_tradersWord_2 cX0_100 rfl (shC hc) rfl (by decide) (Nat.le_of_ble_eq_true rfl) rfl (fun r M1z hq => ?_)
  obtain ⟨hr, hm⟩ := hq
  rw [hr, hm]
  clear hr hm
  refine v_ist2 dX0_tradersWord_5 (by decide) ?_
  refine v_ild2 dX0_tradersWord_6 ?_
  refine v_if_eq (tgt := 14) dX0_tradersWord_7 (by decide) (fun h7 => ?_) (fun h7 => ?_)
  · refine v_ald0 dX0_tradersWord_14 ?_
    refine v_getr dX0_tradersWord_15 gX0_27 (shC hc) rfl ?_
    refine v_ild1 dX0_tradersWord_18 ?_
    refine v_ialdN dX0_tradersWord_19 (shC6 hc) (by omega) (by decide) ?_
    exact v_iret dX0_tradersWord_20 rfl (⟨by simp [cv_sw Mz c hf, h7], rfl⟩)
  · refine v_ild2 dX0_tradersWord_10 ?_
    refine v_goto (tgt := 20) dX0_tradersWord_11 (by decide) ?_
    exact v_iret dX0_tradersWord_20 rfl (⟨by simp [cv_sw Mz c hf, h7], rfl⟩)
set_option maxRecDepth 100000 in
set_option maxHeartbeats 4000000 in
theorem kC_wordOf (E : ev) (Mz : mm) {c p f W : Nat} (hc : CB c) (hp : p < 8) (hf : f < 6) (hI : CI (cv Mz c) W) : Ct E 4 yX0_wordOf cX0_wordOf 4 (some .int) [.inr c, .inl (nI p), .inl (nI f)] Mz (qI E (fun r M' => r = says (cv Mz c) p f ∧ M' = Mz)) := by
  refine ct_of (by decide) (Nat.le_of_ble_eq_true rfl) ?_
  show V E 4 _ _ _ _ _ 0 [some (.inr c), some (.inl (nI p)), some (.inl (nI f)), none] [] Mz
  obtain ⟨ke, hk6, hke⟩ := hI.kd hp
  refine v_ald0 dX0_wordOf_0 ?_
  refine v_ild1 dX0_wordOf_1 ?_
  refine v_ild2 dX0_wordOf_2 ?_
  refine v_callVi (kC_thoughtOf E Mz hc (by omega) (by omega)) dX0_wordOf_3 cX0_80 rfl (shC hc) rfl (by decide) (Nat.le_of_ble_eq_true rfl) rfl (fun r M1z hq => ?_)
  obtain ⟨hr, hm⟩ := hq
  rw [hr, hm]
  clear hr hm
  refine v_ist3 dX0_wordOf_6 (by decide) ?_
  refine v_ald0 dX0_wordOf_7 ?_
  refine v_getr dX0_wordOf_8 gX0_9 (shC hc) rfl ?_
  refine v_ild1 dX0_wordOf_11 ?_
  refine v_ialdN dX0_wordOf_12 (shC1 hc) (by omega) (by decide) ?_
  refine v_eq ((cv_kd Mz c hp).symm.trans hke) ?_
  clear r M1z
  rcases (show ke = 0 ∨ ke = 1 ∨ ke = 2 ∨ ke = 3 ∨ ke = 4 ∨ ke = 5 by omega) with rfl | rfl | rfl | rfl | rfl | rfl
  · refine v_tsOut (tgt := 85) dX0_wordOf_13 (by decide) (by decide) ?_
    refine v_ild3 dX0_wordOf_85 ?_
    exact v_iret dX0_wordOf_86 rfl (⟨by simp [says, hke, nI_eq, cv_sw Mz c hf], rfl⟩)
  · refine v_tsIn (off := 35) (tgt := 48) dX0_wordOf_13 (by decide) (by decide) (by decide) (by decide) ?_
    refine v_ild3 dX0_wordOf_48 ?_
    refine v_callSi (kC_oneMore E Mz) dX0_wordOf_49 cX0_103 rfl (by decide) (Nat.le_of_ble_eq_true rfl) rfl (fun r M1z hq => ?_)
    obtain ⟨hr, hm⟩ := hq
    rw [hr, hm]
    clear hr hm
    exact v_iret dX0_wordOf_52 rfl (⟨by simp [says, hke, nI_eq, cv_sw Mz c hf], rfl⟩)
  · refine v_tsIn (off := 56) (tgt := 69) dX0_wordOf_13 (by decide) (by decide) (by decide) (by decide) ?_
    refine v_ald0 dX0_wordOf_69 ?_
    refine v_getr dX0_wordOf_70 gX0_27 (shC hc) rfl ?_
    refine v_ild2 dX0_wordOf_73 ?_
    refine v_ialdN dX0_wordOf_74 (shC6 hc) (by omega) (by decide) ?_
    exact v_iret dX0_wordOf_75 rfl (⟨by simp [says, hke, nI_eq, cv_sw Mz c hf], rfl⟩)
  · refine v_tsIn (off := 40) (tgt := 53) dX0_wordOf_13 (by decide) (by decide) (by decide) (by decide) ?_
    refine v_ild3 dX0_wordOf_53 ?_
    refine v_if_ne (tgt := 61) dX0_wordOf_54 (by decide) (fun h54 => ?_) (fun h54 => ?_)
    · refine v_bipushN (n := 10) dX0_wordOf_61 (by decide) ?_
      refine v_ild3 dX0_wordOf_63 ?_
      refine v_callSi (kC_oneMore E Mz) dX0_wordOf_64 cX0_103 rfl (by decide) (Nat.le_of_ble_eq_true rfl) rfl (fun r M1z hq => ?_)
      obtain ⟨hr, hm⟩ := hq
      rw [hr, hm]
      clear hr hm
      refine v_isub dX0_wordOf_67 ?_
      exact v_iret dX0_wordOf_68 rfl (⟨by simp [says, hke, nI_eq, cv_sw Mz c hf, h54], rfl⟩)
    · refine v_iconstN (n := 0) dX0_wordOf_57 ?_
      refine v_goto (tgt := 68) dX0_wordOf_58 (by decide) ?_
      exact v_iret dX0_wordOf_68 rfl (⟨by simp [says, hke, nI_eq, cv_sw Mz c hf, h54], rfl⟩)
  · refine v_tsIn (off := 63) (tgt := 76) dX0_wordOf_13 (by decide) (by decide) (by decide) (by decide) ?_
    refine v_ald0 dX0_wordOf_76 ?_
    refine v_ild2 dX0_wordOf_77 ?_
    refine v_callVi (kC_tradersWord E Mz hc hf hI) dX0_wordOf_78 cX0_106 rfl (shC hc) rfl (by decide) (Nat.le_of_ble_eq_true rfl) rfl (fun r M1z hq => ?_)
    obtain ⟨hr, hm⟩ := hq
    rw [hr, hm]
    clear hr hm
    exact v_iret dX0_wordOf_81 rfl (⟨by simp [says, hke, nI_eq, cv_sw Mz c hf], rfl⟩)
  · refine v_tsIn (off := 69) (tgt := 82) dX0_wordOf_13 (by decide) (by decide) (by decide) (by decide) ?_
    refine v_bipushN (n := 9) dX0_wordOf_82 (by decide) ?_
    exact v_iret dX0_wordOf_84 rfl (⟨by simp [says, hke, nI_eq, cv_sw Mz c hf], rfl⟩)
set_option maxRecDepth 100000 in
set_option maxHeartbeats 4000000 in
theorem kC_agreed (E : ev) (Mz : mm) {c W : Nat} (hc : CB c) (hI : CI (cv Mz c) W) : Ct E 3 yX0_agreed cX0_agreed 7 (some .int) [.inr c] Mz (qI E (fun r M' => r = nI (agrN (cv Mz c)) ∧ M' = Mz)) := by
  refine ct_of (by decide) (Nat.le_of_ble_eq_true rfl) ?_
  show V E 3 _ _ _ _ _ 0 [some (.inr c), none, none, none, none, none, none] [] Mz
  have hpe : Mz c 1 = nI (pn (cv Mz c)) := hI.pn.1
  have hp8 := hI.pn.2
  refine v_iconstN (n := 0) dX0_agreed_0 ?_
  refine v_ist1 dX0_agreed_1 (by decide) ?_
  refine v_iconstN (n := 0) dX0_agreed_2 ?_
  refine v_ist2 dX0_agreed_3 (by decide) ?_
  refine v_loop (pc := 4) (fun k => [some (.inr c), some (.inl (nI (setK (agP (cv Mz c)) k))), some (.inl (nI k)), none, none, none, none]) (fun k => Mz) (6) (rfl) (rfl) (fun k hk ih => ?_) ?_
  · refine v_ild2 dX0_agreed_4 ?_
    refine v_bipushN (n := 6) dX0_agreed_5 (by decide) ?_
    refine v_icmpN_ge (tgt := 94) dX0_agreed_7 (by decide) (by omega) (by omega) (fun h7 => absurd h7 (by omega)) (fun h7 => ?_)
    refine v_ald0 dX0_agreed_10 ?_
    refine v_ild2 dX0_agreed_11 ?_
    refine v_callVi (kC_firstCrop E Mz hc (by omega) hI) dX0_agreed_12 cX0_100 rfl (shC hc) rfl (by decide) (Nat.le_of_ble_eq_true rfl) rfl (fun r M1z hq => ?_)
    obtain ⟨hr, hm⟩ := hq
    rw [hr, hm]
    clear hr hm
    refine v_ist3 dX0_agreed_15 (by decide) ?_
    refine v_ild3 dX0_agreed_16 ?_
    refine v_if_eq (tgt := 24) dX0_agreed_17 (by decide) (fun h17 => ?_) (fun h17 => ?_)
    · refine v_iconstN (n := 0) dX0_agreed_24 ?_
      refine v_ist4 dX0_agreed_25 (by decide) ?_
      refine v_iconstN (n := 0) dX0_agreed_27 ?_
      refine v_ist5 dX0_agreed_28 (by decide) ?_
      refine v_loop (pc := 30) (fun j => [some (.inr c), some (.inl (nI (setK (agP (cv Mz c)) k))), some (.inl (nI k)), some (.inl (fc (cv Mz c) k)), some (.inl (b2 (agK (cv Mz c) k j))), some (.inl (nI j)), none]) (fun j => Mz) (pn (cv Mz c)) (by simp [agK, b2, h17]; try rfl) (rfl) (fun j hj ihj => ?_) ?_
      · refine v_ild5 dX0_agreed_30 ?_
        refine v_ald0 dX0_agreed_32 ?_
        refine v_geti dX0_agreed_33 gX0_44 (shC hc) rfl ?_
        refine v_eq (hpe) ?_
        refine v_icmpN_ge (tgt := 77) dX0_agreed_36 (by decide) (by omega) (by omega) (fun h36 => absurd h36 (by omega)) (fun h36 => ?_)
        refine v_ald0 dX0_agreed_39 ?_
        refine v_ild5 dX0_agreed_40 ?_
        refine v_ild2 dX0_agreed_42 ?_
        refine v_callVi (kC_thoughtOf E Mz hc (by omega) (by omega)) dX0_agreed_43 cX0_80 rfl (shC hc) rfl (by decide) (Nat.le_of_ble_eq_true rfl) rfl (fun r M1z hq => ?_)
        obtain ⟨hr, hm⟩ := hq
        rw [hr, hm]
        clear hr hm
        refine v_ist6 dX0_agreed_46 (by decide) ?_
        refine v_ild4 dX0_agreed_48 ?_
        refine v_if_eq (tgt := 68) dX0_agreed_50 (by decide) (fun h50 => ?_) (fun h50 => ?_)
        · refine v_iconstN (n := 0) dX0_agreed_68 ?_
          refine v_ist4 dX0_agreed_69 (by decide) ?_
          refine v_iincN5 (n := 1) dX0_agreed_71 (by decide) ?_
          refine v_goto (tgt := 30) dX0_agreed_74 (by decide) ?_
          refine v_fg6 ?_
          exact v_lo (by simp [agK, b2_0.mp h50]; try rfl) ihj
        · refine v_ild6 dX0_agreed_53 ?_
          refine v_if_eq (tgt := 64) dX0_agreed_55 (by decide) (fun h55 => ?_) (fun h55 => ?_)
          · refine v_iconstN (n := 1) dX0_agreed_64 ?_
            refine v_goto (tgt := 69) dX0_agreed_65 (by decide) ?_
            refine v_ist4 dX0_agreed_69 (by decide) ?_
            refine v_iincN5 (n := 1) dX0_agreed_71 (by decide) ?_
            refine v_goto (tgt := 30) dX0_agreed_74 (by decide) ?_
            refine v_fg6 ?_
            exact v_lo (by simp [agK, b2_1.mp h50, h55]; try rfl) ihj
          · refine v_ild6 dX0_agreed_58 ?_
            refine v_ild3 dX0_agreed_60 ?_
            refine v_icmp_ne (tgt := 68) dX0_agreed_61 (by decide) (fun h61 => ?_) (fun h61 => ?_)
            · refine v_iconstN (n := 0) dX0_agreed_68 ?_
              refine v_ist4 dX0_agreed_69 (by decide) ?_
              refine v_iincN5 (n := 1) dX0_agreed_71 (by decide) ?_
              refine v_goto (tgt := 30) dX0_agreed_74 (by decide) ?_
              refine v_fg6 ?_
              exact v_lo (by simp [agK, b2_1.mp h50, h55, h61]; try rfl) ihj
            · refine v_iconstN (n := 1) dX0_agreed_64 ?_
              refine v_goto (tgt := 69) dX0_agreed_65 (by decide) ?_
              refine v_ist4 dX0_agreed_69 (by decide) ?_
              refine v_iincN5 (n := 1) dX0_agreed_71 (by decide) ?_
              refine v_goto (tgt := 30) dX0_agreed_74 (by decide) ?_
              refine v_fg6 ?_
              exact v_lo (by simp [agK, b2_1.mp h50, h55, h61]; try rfl) ihj
      · refine v_ild5 dX0_agreed_30 ?_
        refine v_ald0 dX0_agreed_32 ?_
        refine v_geti dX0_agreed_33 gX0_44 (shC hc) rfl ?_
        refine v_eq (hpe) ?_
        refine v_icmpN_ge (tgt := 77) dX0_agreed_36 (by decide) (by omega) (by omega) (fun h36 => ?_) (fun h36 => absurd h36 (by omega))
        refine v_ild4 dX0_agreed_77 ?_
        refine v_if_eq (tgt := 88) dX0_agreed_79 (by decide) (fun h79 => ?_) (fun h79 => ?_)
        · refine v_iincN2 (n := 1) dX0_agreed_88 (by decide) ?_
          refine v_goto (tgt := 4) dX0_agreed_91 (by decide) ?_
          refine v_fg3 (v_fg4 (v_fg5 (v_fg6 ?_)))
          exact v_lo (by rw [setK_f (P := agP (cv Mz c)) (b2_0.mp h79)]) ih
        · refine v_ild1 dX0_agreed_82 ?_
          refine v_iconstN (n := 1) dX0_agreed_83 ?_
          refine v_ild2 dX0_agreed_84 ?_
          refine v_ishl dX0_agreed_85 ?_
          refine v_ior dX0_agreed_86 ?_
          refine v_ist1 dX0_agreed_87 (by decide) ?_
          refine v_iincN2 (n := 1) dX0_agreed_88 (by decide) ?_
          refine v_goto (tgt := 4) dX0_agreed_91 (by decide) ?_
          refine v_fg3 (v_fg4 (v_fg5 (v_fg6 ?_)))
          exact v_lo (by rw [setK_t (P := agP (cv Mz c)) (by omega) (b2_1.mp h79)]) ih
    · refine v_iconstN (n := 1) dX0_agreed_20 ?_
      refine v_goto (tgt := 25) dX0_agreed_21 (by decide) ?_
      refine v_ist4 dX0_agreed_25 (by decide) ?_
      refine v_iconstN (n := 0) dX0_agreed_27 ?_
      refine v_ist5 dX0_agreed_28 (by decide) ?_
      refine v_loop (pc := 30) (fun j => [some (.inr c), some (.inl (nI (setK (agP (cv Mz c)) k))), some (.inl (nI k)), some (.inl (fc (cv Mz c) k)), some (.inl (b2 (agK (cv Mz c) k j))), some (.inl (nI j)), none]) (fun j => Mz) (pn (cv Mz c)) (by simp [agK, b2, h17]; try rfl) (rfl) (fun j hj ihj => ?_) ?_
      · refine v_ild5 dX0_agreed_30 ?_
        refine v_ald0 dX0_agreed_32 ?_
        refine v_geti dX0_agreed_33 gX0_44 (shC hc) rfl ?_
        refine v_eq (hpe) ?_
        refine v_icmpN_ge (tgt := 77) dX0_agreed_36 (by decide) (by omega) (by omega) (fun h36 => absurd h36 (by omega)) (fun h36 => ?_)
        refine v_ald0 dX0_agreed_39 ?_
        refine v_ild5 dX0_agreed_40 ?_
        refine v_ild2 dX0_agreed_42 ?_
        refine v_callVi (kC_thoughtOf E Mz hc (by omega) (by omega)) dX0_agreed_43 cX0_80 rfl (shC hc) rfl (by decide) (Nat.le_of_ble_eq_true rfl) rfl (fun r M1z hq => ?_)
        obtain ⟨hr, hm⟩ := hq
        rw [hr, hm]
        clear hr hm
        refine v_ist6 dX0_agreed_46 (by decide) ?_
        refine v_ild4 dX0_agreed_48 ?_
        refine v_if_eq (tgt := 68) dX0_agreed_50 (by decide) (fun h50 => ?_) (fun h50 => ?_)
        · refine v_iconstN (n := 0) dX0_agreed_68 ?_
          refine v_ist4 dX0_agreed_69 (by decide) ?_
          refine v_iincN5 (n := 1) dX0_agreed_71 (by decide) ?_
          refine v_goto (tgt := 30) dX0_agreed_74 (by decide) ?_
          refine v_fg6 ?_
          exact v_lo (by simp [agK, b2_0.mp h50]; try rfl) ihj
        · refine v_ild6 dX0_agreed_53 ?_
          refine v_if_eq (tgt := 64) dX0_agreed_55 (by decide) (fun h55 => ?_) (fun h55 => ?_)
          · refine v_iconstN (n := 1) dX0_agreed_64 ?_
            refine v_goto (tgt := 69) dX0_agreed_65 (by decide) ?_
            refine v_ist4 dX0_agreed_69 (by decide) ?_
            refine v_iincN5 (n := 1) dX0_agreed_71 (by decide) ?_
            refine v_goto (tgt := 30) dX0_agreed_74 (by decide) ?_
            refine v_fg6 ?_
            exact v_lo (by simp [agK, b2_1.mp h50, h55]; try rfl) ihj
          · refine v_ild6 dX0_agreed_58 ?_
            refine v_ild3 dX0_agreed_60 ?_
            refine v_icmp_ne (tgt := 68) dX0_agreed_61 (by decide) (fun h61 => ?_) (fun h61 => ?_)
            · refine v_iconstN (n := 0) dX0_agreed_68 ?_
              refine v_ist4 dX0_agreed_69 (by decide) ?_
              refine v_iincN5 (n := 1) dX0_agreed_71 (by decide) ?_
              refine v_goto (tgt := 30) dX0_agreed_74 (by decide) ?_
              refine v_fg6 ?_
              exact v_lo (by simp [agK, b2_1.mp h50, h55, h61]; try rfl) ihj
            · refine v_iconstN (n := 1) dX0_agreed_64 ?_
              refine v_goto (tgt := 69) dX0_agreed_65 (by decide) ?_
              refine v_ist4 dX0_agreed_69 (by decide) ?_
              refine v_iincN5 (n := 1) dX0_agreed_71 (by decide) ?_
              refine v_goto (tgt := 30) dX0_agreed_74 (by decide) ?_
              refine v_fg6 ?_
              exact v_lo (by simp [agK, b2_1.mp h50, h55, h61]; try rfl) ihj
      · refine v_ild5 dX0_agreed_30 ?_
        refine v_ald0 dX0_agreed_32 ?_
        refine v_geti dX0_agreed_33 gX0_44 (shC hc) rfl ?_
        refine v_eq (hpe) ?_
        refine v_icmpN_ge (tgt := 77) dX0_agreed_36 (by decide) (by omega) (by omega) (fun h36 => ?_) (fun h36 => absurd h36 (by omega))
        refine v_ild4 dX0_agreed_77 ?_
        refine v_if_eq (tgt := 88) dX0_agreed_79 (by decide) (fun h79 => ?_) (fun h79 => ?_)
        · refine v_iincN2 (n := 1) dX0_agreed_88 (by decide) ?_
          refine v_goto (tgt := 4) dX0_agreed_91 (by decide) ?_
          refine v_fg3 (v_fg4 (v_fg5 (v_fg6 ?_)))
          exact v_lo (by rw [setK_f (P := agP (cv Mz c)) (b2_0.mp h79)]) ih
        · refine v_ild1 dX0_agreed_82 ?_
          refine v_iconstN (n := 1) dX0_agreed_83 ?_
          refine v_ild2 dX0_agreed_84 ?_
          refine v_ishl dX0_agreed_85 ?_
          refine v_ior dX0_agreed_86 ?_
          refine v_ist1 dX0_agreed_87 (by decide) ?_
          refine v_iincN2 (n := 1) dX0_agreed_88 (by decide) ?_
          refine v_goto (tgt := 4) dX0_agreed_91 (by decide) ?_
          refine v_fg3 (v_fg4 (v_fg5 (v_fg6 ?_)))
          exact v_lo (by rw [setK_t (P := agP (cv Mz c)) (by omega) (b2_1.mp h79)]) ih
  · refine v_ild2 dX0_agreed_4 ?_
    refine v_bipushN (n := 6) dX0_agreed_5 (by decide) ?_
    refine v_icmpN_ge (tgt := 94) dX0_agreed_7 (by decide) (by omega) (by omega) (fun h7 => ?_) (fun h7 => absurd h7 (by omega))
    refine v_ild1 dX0_agreed_94 ?_
    exact v_iret dX0_agreed_95 rfl (⟨rfl, rfl⟩)
