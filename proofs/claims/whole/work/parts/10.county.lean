theorem v_lo {E : ev} {d : Nat} {y : MethodName} {cc : ByteArray} {nL : Nat} {ret : Option FieldType} {Qc : qcT} {pc : Nat} {L L' : List (Option av)} {S : List av} {M : mm} (h : L = L') (k : V E d y cc nL ret Qc pc L' S M) : V E d y cc nL ret Qc pc L S M := h ▸ k
theorem v_lm {E : ev} {d : Nat} {y : MethodName} {cc : ByteArray} {nL : Nat} {ret : Option FieldType} {Qc : qcT} {pc : Nat} {L L' : List (Option av)} {S : List av} {M M' : mm} (h : L = L') (hm : M = M') (k : V E d y cc nL ret Qc pc L' S M') : V E d y cc nL ret Qc pc L S M := by subst h; subst hm; exact k
theorem v_loop {E : ev} {d : Nat} {y : MethodName} {cc : ByteArray} {nL : Nat} {ret : Option FieldType} {Qc : qcT} {pc : Nat} {L : List (Option av)} {S : List av} {M : mm} (Lf : Nat → List (Option av)) (Mf : Nat → mm) (n : Nat) (h0 : L = Lf 0) (hm : M = Mf 0) (hs : ∀ k, k < n → V E d y cc nL ret Qc pc (Lf (k + 1)) S (Mf (k + 1)) → V E d y cc nL ret Qc pc (Lf k) S (Mf k)) (hN : V E d y cc nL ret Qc pc (Lf n) S (Mf n)) : V E d y cc nL ret Qc pc L S M := by
  subst h0; subst hm
  exact bk_0 (fun k => V E d y cc nL ret Qc pc (Lf k) S (Mf k)) n hs hN
set_option maxRecDepth 100000 in
set_option maxHeartbeats 4000000 in
theorem kC_thoughtOf (E : ev) (Mz : mm) {c p f : Nat} (hc : CB c) (hp : p < 8) (hf : f < 6) : Ct E 0 yX0_thoughtOf cX0_thoughtOf 3 (some .int) [.inr c, .inl (nI p), .inl (nI f)] Mz (qI E (fun r Mz' => r = th (cv Mz c) p f ∧ Mz' = Mz)) := by
  refine ct_of (by decide) (Nat.le_of_ble_eq_true rfl) ?_
  show V E 0 _ _ _ _ _ 0 [some (.inr c), some (.inl (nI p)), some (.inl (nI f))] [] Mz
  refine v_ald0 dX0_thoughtOf_0 ?_
  refine v_getr dX0_thoughtOf_1 gX0_24 (shC hc) rfl ?_
  refine v_ild1 dX0_thoughtOf_4 ?_
  refine v_bipushN (n := 6) dX0_thoughtOf_5 (by decide) ?_
  refine v_imulN dX0_thoughtOf_7 ?_
  refine v_ild2 dX0_thoughtOf_8 ?_
  refine v_iaddN dX0_thoughtOf_9 ?_
  refine v_ialdN dX0_thoughtOf_10 (shC5 hc) (by omega) (by decide) ?_
  exact v_iret dX0_thoughtOf_11 rfl (⟨(cv_th Mz c hp hf).symm, rfl⟩)
set_option maxRecDepth 100000 in
set_option maxHeartbeats 4000000 in
theorem kC_votesFor (E : ev) (Mz : mm) {c f W : Nat} {crop : Int32} (hc : CB c) (hf : f < 6) (hI : CI (cv Mz c) W) : Ct E 1 yX0_votesFor cX0_votesFor 5 (some .int) [.inr c, .inl (nI f), .inl crop] Mz (qI E (fun r Mz' => r = (if crop = 0 then 0 else vot (cv Mz c) f crop) ∧ Mz' = Mz)) := by
  refine ct_of (by decide) (Nat.le_of_ble_eq_true rfl) ?_
  show V E 1 _ _ _ _ _ 0 [some (.inr c), some (.inl (nI f)), some (.inl crop), none, none] [] Mz
  have hpe : Mz c 1 = nI (pn (cv Mz c)) := hI.pn.1
  have hp8 := hI.pn.2
  refine v_iconstN (n := 0) dX0_votesFor_0 ?_
  refine v_ist3 dX0_votesFor_1 (by decide) ?_
  refine v_iconstN (n := 0) dX0_votesFor_2 ?_
  refine v_ist4 dX0_votesFor_3 (by decide) ?_
  refine v_loop (pc := 5) (fun k => [some (.inr c), some (.inl (nI f)), some (.inl crop), some (.inl (if crop = 0 then 0 else votK (cv Mz c) f crop k)), some (.inl (nI k))]) (fun k => Mz) (pn (cv Mz c)) (by simp [votK]; rfl) (rfl) (fun k hk ih => ?_) ?_
  · refine v_ild4 dX0_votesFor_5 ?_
    refine v_ald0 dX0_votesFor_7 ?_
    refine v_geti dX0_votesFor_8 gX0_44 (shC hc) rfl ?_
    refine v_eq (hpe) ?_
    refine v_icmpN_ge (tgt := 49) dX0_votesFor_11 (by decide) (by omega) (by omega) (fun h11 => absurd h11 (by omega)) (fun h11 => ?_)
    refine v_ild2 dX0_votesFor_14 ?_
    refine v_if_eq (tgt := 43) dX0_votesFor_15 (by decide) (fun h15 => ?_) (fun h15 => ?_)
    · refine v_iincN4 (n := 1) dX0_votesFor_43 (by decide) ?_
      refine v_goto (tgt := 5) dX0_votesFor_46 (by decide) ?_
      exact v_lo (by simp [votK, h15]) ih
    · refine v_ald0 dX0_votesFor_18 ?_
      refine v_ild4 dX0_votesFor_19 ?_
      refine v_ild1 dX0_votesFor_21 ?_
      refine v_callVi (kC_thoughtOf E Mz hc (by omega) hf) dX0_votesFor_22 cX0_80 rfl (shC hc) rfl (by decide) (by decide) rfl (fun r M1z hq => ?_)
      obtain ⟨hr, hm⟩ := hq
      rw [hr, hm]
      clear hr hm
      refine v_ild2 dX0_votesFor_25 ?_
      refine v_icmp_ne (tgt := 43) dX0_votesFor_26 (by decide) (fun h26 => ?_) (fun h26 => ?_)
      · refine v_iincN4 (n := 1) dX0_votesFor_43 (by decide) ?_
        refine v_goto (tgt := 5) dX0_votesFor_46 (by decide) ?_
        exact v_lo (by simp [votK, h15, h26]) ih
      · refine v_ild3 dX0_votesFor_29 ?_
        refine v_getWN dX0_votesFor_30 rfl rfl ?_
        refine v_ald0 dX0_votesFor_33 ?_
        refine v_getr dX0_votesFor_34 gX0_9 (shC hc) rfl ?_
        refine v_ild4 dX0_votesFor_37 ?_
        refine v_ialdN dX0_votesFor_39 (shC1 hc) (by omega) (by decide) ?_
        refine v_eq ((cv_kd Mz c (by omega)).symm) ?_
        refine v_aldW dX0_votesFor_40 ((hI.kd (by omega)).in (by decide)) ?_
        refine v_iadd dX0_votesFor_41 ?_
        refine v_ist3 dX0_votesFor_42 (by decide) ?_
        refine v_iincN4 (n := 1) dX0_votesFor_43 (by decide) ?_
        refine v_goto (tgt := 5) dX0_votesFor_46 (by decide) ?_
        exact v_lo (by simp [votK, h15, h26]) ih
  · refine v_ild4 dX0_votesFor_5 ?_
    refine v_ald0 dX0_votesFor_7 ?_
    refine v_geti dX0_votesFor_8 gX0_44 (shC hc) rfl ?_
    refine v_eq (hpe) ?_
    refine v_icmpN_ge (tgt := 49) dX0_votesFor_11 (by decide) (by omega) (by omega) (fun h11 => ?_) (fun h11 => absurd h11 (by omega))
    refine v_ild3 dX0_votesFor_49 ?_
    exact v_iret dX0_votesFor_50 rfl (⟨rfl, rfl⟩)
