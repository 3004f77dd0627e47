/-! the class's Reader -/
def levI (x : Int32) : Nat := if x = 38 then 2 else if x = 42 then 5 else if x = 43 then 4 else if x = 45 then 4 else if x = 47 then 5 else if x = 60 then 3 else if x = 61 then 3 else if x = 62 then 3 else if x = 124 then 1 else 0
theorem levnD : ∀ s : Fin 128, levI (nI s.val) = lev s.val := by decide +kernel
theorem levsD : ∀ s : Fin 256, levI (sb s.val) = lev s.val := by decide +kernel
theorem wr_self (M : mm) (a j : Nat) : wr M a j (M a j) = M := by unfold wr; rw [upd_self, wa_self]
theorem wr_wr (M : mm) (a j : Nat) (x y : Int32) : wr (wr M a j x) a j y = wr M a j y := by
  unfold wr
  rw [wa_at, wa_wa, upd_same]
theorem rpm_top {f : Nat → Int32} {g : Nat → Int32} {s : Nat} {t : List Nat} (h : rp f ((s :: t).map g)) : f t.length = g s := by
  have := rp_top (t := t.map g) (a := g s) h
  rwa [List.length_map] at this
theorem rpm_tail {f : Nat → Int32} {g : Nat → Int32} {s : Nat} {t : List Nat} (h : rp f ((s :: t).map g)) : rp f (t.map g) := rp_tail (a := g s) h
theorem rpm_push {f : Nat → Int32} {g : Nat → Int32} {s : Nat} {t : List Nat} (h : rp f (t.map g)) : rp (upd f t.length (g s)) ((s :: t).map g) := by
  have := rp_push (g s) h
  rwa [List.length_map] at this
def PsC (M : mm) (o : List Nat) (u : List Int32) (lv : Nat) : Prop := M 33 8 = nI o.length ∧ rp (M 37) (o.map nI) ∧ M 33 9 = nI (ct 40 o) ∧ M 33 10 = nI (ct 33 o) ∧ M 35 1 = nI lv ∧ M 35 2 = nI u.length ∧ rp (M 36) u
def FrP (A M : mm) : Prop := (∀ a, a ≠ 33 → a ≠ 35 → a ≠ 36 → a ≠ 37 → M a = A a) ∧ (∀ j, j < 7 → M 33 j = A 33 j) ∧ M 35 0 = A 35 0
theorem FrP.refl (A : mm) : FrP A A := ⟨fun _ _ _ _ _ => rfl, fun _ _ => rfl, rfl⟩
theorem FrP.trans {A B C : mm} (h : FrP A B) (g : FrP B C) : FrP A C := ⟨fun a h1 h2 h3 h4 => (g.1 a h1 h2 h3 h4).trans (h.1 a h1 h2 h3 h4), fun j hj => (g.2.1 j hj).trans (h.2.1 j hj), g.2.2.trans h.2.2⟩
theorem FrP.w33 {A M : mm} {j : Nat} {x : Int32} (h : FrP A M) (hj : 7 ≤ j) : FrP A (wr M 33 j x) := ⟨fun a h1 h2 h3 h4 => by rw [wr_ne h1]; exact h.1 a h1 h2 h3 h4, fun i hi => by rw [wr_at, pk_un (by omega)]; exact h.2.1 i hi, by rw [wr_ne (by decide)]; exact h.2.2⟩
theorem FrP.w35 {A M : mm} {j : Nat} {x : Int32} (h : FrP A M) (hj : 0 < j) : FrP A (wr M 35 j x) := ⟨fun a h1 h2 h3 h4 => by rw [wr_ne h2]; exact h.1 a h1 h2 h3 h4, fun i hi => by rw [wr_ne (by decide)]; exact h.2.1 i hi, by rw [wr_at, pk_un (by omega)]; exact h.2.2⟩
theorem FrP.w36 {A M : mm} {j : Nat} {x : Int32} (h : FrP A M) : FrP A (wr M 36 j x) := ⟨fun a h1 h2 h3 h4 => by rw [wr_ne h3]; exact h.1 a h1 h2 h3 h4, fun i hi => by rw [wr_ne (by decide)]; exact h.2.1 i hi, by rw [wr_ne (by decide)]; exact h.2.2⟩
theorem FrP.w37 {A M : mm} {j : Nat} {x : Int32} (h : FrP A M) : FrP A (wr M 37 j x) := ⟨fun a h1 h2 h3 h4 => by rw [wr_ne h4]; exact h.1 a h1 h2 h3 h4, fun i hi => by rw [wr_ne (by decide)]; exact h.2.1 i hi, by rw [wr_ne (by decide)]; exact h.2.2⟩
theorem PsC_add {M : mm} {o : List Nat} {u : List Int32} {lv : Nat} (x : Int32) (h : PsC M o u lv) : PsC (wr (wr M 36 u.length x) 35 2 (nI (u.length + 1))) o (x :: u) lv := by
  obtain ⟨h1, h2, h3, h4, h5, h6, h7⟩ := h
  refine ⟨by rw [wr_ne (by decide), wr_ne (by decide)]; exact h1, by rw [wr_ne (by decide), wr_ne (by decide)]; exact h2, by rw [wr_ne (by decide), wr_ne (by decide)]; exact h3, by rw [wr_ne (by decide), wr_ne (by decide)]; exact h4, by rw [wr_at, pk_un (by decide), wr_ne (by decide)]; exact h5, by rw [wr_at, pk_us]; rfl, ?_⟩
  rw [wr_ne (by decide), wr_at]
  exact rp_push x h7
theorem PsC_lv {M : mm} {o : List Nat} {u : List Int32} {lv l : Nat} (h : PsC M o u lv) : PsC (wr M 35 1 (nI l)) o u l := by
  obtain ⟨h1, h2, h3, h4, h5, h6, h7⟩ := h
  exact ⟨by rw [wr_ne (by decide)]; exact h1, by rw [wr_ne (by decide)]; exact h2, by rw [wr_ne (by decide)]; exact h3, by rw [wr_ne (by decide)]; exact h4, by rw [wr_at, pk_us], by rw [wr_at, pk_un (by decide)]; exact h6, by rw [wr_ne (by decide)]; exact h7⟩
theorem PsC_pop {M : mm} {s : Nat} {t : List Nat} {u : List Int32} {lv : Nat} (h : PsC M (s :: t) u lv) (n40 : s ≠ 40) (n33 : s ≠ 33) : PsC (wr M 33 8 (nI t.length)) t u lv := by
  obtain ⟨h1, h2, h3, h4, h5, h6, h7⟩ := h
  rw [ct_n n40] at h3
  rw [ct_n n33] at h4
  exact ⟨by rw [wr_at, pk_us], by rw [wr_ne (by decide)]; exact rpm_tail h2, by rw [wr_at, pk_un (by decide)]; exact h3, by rw [wr_at, pk_un (by decide)]; exact h4, by rw [wr_ne (by decide)]; exact h5, by rw [wr_ne (by decide)]; exact h6, by rw [wr_ne (by decide)]; exact h7⟩
theorem PsC_pop33 {M : mm} {t : List Nat} {u : List Int32} {lv : Nat} (h : PsC M (33 :: t) u lv) : PsC (wr (wr M 33 8 (nI t.length)) 33 10 (nI (ct 33 t))) t u lv := by
  obtain ⟨h1, h2, h3, h4, h5, h6, h7⟩ := h
  rw [ct_n (by decide)] at h3
  exact ⟨by rw [wr_at, pk_un (by decide), wr_at, pk_us], by rw [wr_ne (by decide), wr_ne (by decide)]; exact rpm_tail h2, by rw [wr_at, pk_un (by decide), wr_at, pk_un (by decide)]; exact h3, by rw [wr_at, pk_us], by rw [wr_ne (by decide), wr_ne (by decide)]; exact h5, by rw [wr_ne (by decide), wr_ne (by decide)]; exact h6, by rw [wr_ne (by decide), wr_ne (by decide)]; exact h7⟩
theorem PsC_pop40 {M : mm} {t : List Nat} {u : List Int32} {lv : Nat} (h : PsC M (40 :: t) u lv) : PsC (wr (wr M 33 8 (nI t.length)) 33 9 (nI (ct 40 t))) t u lv := by
  obtain ⟨h1, h2, h3, h4, h5, h6, h7⟩ := h
  rw [ct_n (by decide)] at h4
  exact ⟨by rw [wr_at, pk_un (by decide), wr_at, pk_us], by rw [wr_ne (by decide), wr_ne (by decide)]; exact rpm_tail h2, by rw [wr_at, pk_us], by rw [wr_at, pk_un (by decide), wr_at, pk_un (by decide)]; exact h4, by rw [wr_ne (by decide), wr_ne (by decide)]; exact h5, by rw [wr_ne (by decide), wr_ne (by decide)]; exact h6, by rw [wr_ne (by decide), wr_ne (by decide)]; exact h7⟩
theorem PsC_push {M : mm} {s : Nat} {o : List Nat} {u : List Int32} {lv : Nat} (h : PsC M o u lv) (n40 : s ≠ 40) (n33 : s ≠ 33) : PsC (wr (wr M 37 o.length (nI s)) 33 8 (nI (o.length + 1))) (s :: o) u lv := by
  obtain ⟨h1, h2, h3, h4, h5, h6, h7⟩ := h
  refine ⟨by rw [wr_at, pk_us]; rfl, ?_, by rw [wr_at, pk_un (by decide), wr_ne (by decide), ct_n n40]; exact h3, by rw [wr_at, pk_un (by decide), wr_ne (by decide), ct_n n33]; exact h4, by rw [wr_ne (by decide), wr_ne (by decide)]; exact h5, by rw [wr_ne (by decide), wr_ne (by decide)]; exact h6, by rw [wr_ne (by decide), wr_ne (by decide)]; exact h7⟩
  rw [wr_ne (by decide), wr_at]
  exact rpm_push h2
theorem PsC_push33 {M : mm} {o : List Nat} {u : List Int32} {lv : Nat} (h : PsC M o u lv) : PsC (wr (wr (wr M 33 10 (nI (ct 33 o + 1))) 37 o.length (nI 33)) 33 8 (nI (o.length + 1))) (33 :: o) u lv := by
  obtain ⟨h1, h2, h3, h4, h5, h6, h7⟩ := h
  refine ⟨by rw [wr_at, pk_us]; rfl, ?_, by rw [wr_at, pk_un (by decide), wr_ne (by decide), wr_at, pk_un (by decide), ct_n (by decide)]; exact h3, by rw [wr_at, pk_un (by decide), wr_ne (by decide), wr_at, pk_us, ct_y], by rw [wr_ne (by decide), wr_ne (by decide), wr_ne (by decide)]; exact h5, by rw [wr_ne (by decide), wr_ne (by decide), wr_ne (by decide)]; exact h6, by rw [wr_ne (by decide), wr_ne (by decide), wr_ne (by decide)]; exact h7⟩
  rw [wr_ne (by decide), wr_at, wr_ne (by decide)]
  exact rpm_push h2
theorem PsC_push40 {M : mm} {o : List Nat} {u : List Int32} {lv : Nat} (h : PsC M o u lv) : PsC (wr (wr (wr M 33 9 (nI (ct 40 o + 1))) 37 o.length (nI 40)) 33 8 (nI (o.length + 1))) (40 :: o) u lv := by
  obtain ⟨h1, h2, h3, h4, h5, h6, h7⟩ := h
  refine ⟨by rw [wr_at, pk_us]; rfl, ?_, by rw [wr_at, pk_un (by decide), wr_ne (by decide), wr_at, pk_us, ct_y], by rw [wr_at, pk_un (by decide), wr_ne (by decide), wr_at, pk_un (by decide), ct_n (by decide)]; exact h4, by rw [wr_ne (by decide), wr_ne (by decide), wr_ne (by decide)]; exact h5, by rw [wr_ne (by decide), wr_ne (by decide), wr_ne (by decide)]; exact h6, by rw [wr_ne (by decide), wr_ne (by decide), wr_ne (by decide)]; exact h7⟩
  rw [wr_ne (by decide), wr_at, wr_ne (by decide)]
  exact rpm_push h2
set_option maxRecDepth 100000 in
set_option maxHeartbeats 4000000 in
theorem kR_levelOf (E : ev) (Mz : mm) {x : Int32} : Ct E 0 yX2_levelOf cX2_levelOf 1 (some .int) [.inl x] Mz (qI E (fun r M' => r = nI (levI x) ∧ M' = Mz)) := by
  refine ct_of (by decide) (Nat.le_of_ble_eq_true rfl) ?_
  show V E 0 _ _ _ _ _ 0 [some (.inl x)] [] Mz
  refine v_ild0 dX2_levelOf_0 ?_
  by_cases e1_38 : x = 38
  · subst e1_38
    refine v_lsw (off := 85) (tgt := 86) dX2_levelOf_1 (by decide) (by decide) (by decide) ?_
    refine v_iconstN (n := 2) dX2_levelOf_86 ?_
    exact v_iret dX2_levelOf_87 rfl (⟨rfl, rfl⟩)
  by_cases e1_42 : x = 42
  · subst e1_42
    refine v_lsw (off := 91) (tgt := 92) dX2_levelOf_1 (by decide) (by decide) (by decide) ?_
    refine v_iconstN (n := 5) dX2_levelOf_92 ?_
    exact v_iret dX2_levelOf_93 rfl (⟨rfl, rfl⟩)
  by_cases e1_43 : x = 43
  · subst e1_43
    refine v_lsw (off := 89) (tgt := 90) dX2_levelOf_1 (by decide) (by decide) (by decide) ?_
    refine v_iconstN (n := 4) dX2_levelOf_90 ?_
    exact v_iret dX2_levelOf_91 rfl (⟨rfl, rfl⟩)
  by_cases e1_45 : x = 45
  · subst e1_45
    refine v_lsw (off := 89) (tgt := 90) dX2_levelOf_1 (by decide) (by decide) (by decide) ?_
    refine v_iconstN (n := 4) dX2_levelOf_90 ?_
    exact v_iret dX2_levelOf_91 rfl (⟨rfl, rfl⟩)
  by_cases e1_47 : x = 47
  · subst e1_47
    refine v_lsw (off := 91) (tgt := 92) dX2_levelOf_1 (by decide) (by decide) (by decide) ?_
    refine v_iconstN (n := 5) dX2_levelOf_92 ?_
    exact v_iret dX2_levelOf_93 rfl (⟨rfl, rfl⟩)
  by_cases e1_60 : x = 60
  · subst e1_60
    refine v_lsw (off := 87) (tgt := 88) dX2_levelOf_1 (by decide) (by decide) (by decide) ?_
    refine v_iconstN (n := 3) dX2_levelOf_88 ?_
    exact v_iret dX2_levelOf_89 rfl (⟨rfl, rfl⟩)
  by_cases e1_61 : x = 61
  · subst e1_61
    refine v_lsw (off := 87) (tgt := 88) dX2_levelOf_1 (by decide) (by decide) (by decide) ?_
    refine v_iconstN (n := 3) dX2_levelOf_88 ?_
    exact v_iret dX2_levelOf_89 rfl (⟨rfl, rfl⟩)
  by_cases e1_62 : x = 62
  · subst e1_62
    refine v_lsw (off := 87) (tgt := 88) dX2_levelOf_1 (by decide) (by decide) (by decide) ?_
    refine v_iconstN (n := 3) dX2_levelOf_88 ?_
    exact v_iret dX2_levelOf_89 rfl (⟨rfl, rfl⟩)
  by_cases e1_124 : x = 124
  · subst e1_124
    refine v_lsw (off := 83) (tgt := 84) dX2_levelOf_1 (by decide) (by decide) (by decide) ?_
    refine v_iconstN (n := 1) dX2_levelOf_84 ?_
    exact v_iret dX2_levelOf_85 rfl (⟨rfl, rfl⟩)
  refine v_lsw (off := 93) (tgt := 94) dX2_levelOf_1 (by decide) ((lv_osw e1_38 rfl).trans ((lv_osw e1_42 rfl).trans ((lv_osw e1_43 rfl).trans ((lv_osw e1_45 rfl).trans ((lv_osw e1_47 rfl).trans ((lv_osw e1_60 rfl).trans ((lv_osw e1_61 rfl).trans ((lv_osw e1_62 rfl).trans ((lv_osw e1_124 rfl).trans (rfl)))))))))) (by decide) ?_
  refine v_iconstN (n := 0) dX2_levelOf_94 ?_
  exact v_iret dX2_levelOf_95 rfl (⟨by unfold levI; rw [if_neg e1_38, if_neg e1_42, if_neg e1_43, if_neg e1_45, if_neg e1_47, if_neg e1_60, if_neg e1_61, if_neg e1_62, if_neg e1_124], rfl⟩)
set_option maxRecDepth 100000 in
set_option maxHeartbeats 4000000 in
theorem kR_top0 (E : ev) (Mz : mm) (hh : Mz 33 8 = nI 0) : Ct E 1 yX2_topLevel cX2_topLevel 1 (some .int) [.inr 33] Mz (qI E (fun r M' => r = nI 0 ∧ M' = Mz)) := by
  refine ct_of (by decide) (Nat.le_of_ble_eq_true rfl) ?_
  show V E 1 _ _ _ _ _ 0 [some (.inr 33)] [] Mz
  refine v_ald0 dX2_topLevel_0 ?_
  refine v_geti dX2_topLevel_1 gX2_36 sh_33 rfl ?_
  refine v_eq (hh) ?_
  refine v_if_le (tgt := 24) dX2_topLevel_4 (by decide) (fun h4 => ?_) (fun h4 => absurd h4 (fun q => q (by decide)))
  refine v_iconstN (n := 0) dX2_topLevel_24 ?_
  exact v_iret dX2_topLevel_25 rfl (⟨rfl, rfl⟩)
set_option maxRecDepth 100000 in
set_option maxHeartbeats 4000000 in
theorem kR_top1 (E : ev) (Mz : mm) {s : Nat} {t : List Nat} (hh : Mz 33 8 = nI (t.length + 1)) (h96 : t.length < 96) (hr : rp (Mz 37) ((s :: t).map nI)) (hs : s < 128) : Ct E 1 yX2_topLevel cX2_topLevel 1 (some .int) [.inr 33] Mz (qI E (fun r M' => r = nI (lev s) ∧ M' = Mz)) := by
  refine ct_of (by decide) (Nat.le_of_ble_eq_true rfl) ?_
  show V E 1 _ _ _ _ _ 0 [some (.inr 33)] [] Mz
  refine v_ald0 dX2_topLevel_0 ?_
  refine v_geti dX2_topLevel_1 gX2_36 sh_33 rfl ?_
  refine v_eq (hh) ?_
  refine v_if_le (tgt := 24) dX2_topLevel_4 (by decide) (fun h4 => absurd h4 (nI_nle (by omega) (by omega))) (fun h4 => ?_)
  refine v_ald0 dX2_topLevel_7 ?_
  refine v_getr dX2_topLevel_8 gX2_22 sh_33 rfl ?_
  refine v_ald0 dX2_topLevel_11 ?_
  refine v_geti dX2_topLevel_12 gX2_36 sh_33 rfl ?_
  refine v_eq (hh) ?_
  refine v_iconstN (n := 1) dX2_topLevel_15 ?_
  refine v_isubN dX2_topLevel_16 (by omega) ?_
  refine v_ialdN dX2_topLevel_17 sh_37 (by omega) (by decide) ?_
  refine v_eq (show Mz 37 (t.length + 1 - 1) = nI s from rpm_top hr) ?_
  refine v_callSi (kR_levelOf E Mz) dX2_topLevel_18 cX2_73 rfl (by decide) (Nat.le_of_ble_eq_true rfl) rfl (fun r M1z hq => ?_)
  obtain ⟨hr1, hm⟩ := hq
  rw [hr1, hm, levnD ⟨s, hs⟩]
  clear hr1 hm
  refine v_goto (tgt := 25) dX2_topLevel_21 (by decide) ?_
  exact v_iret dX2_topLevel_25 rfl (⟨rfl, rfl⟩)
theorem kR_top (E : ev) (Mz : mm) {o : List Nat} (hh : Mz 33 8 = nI o.length) (h96 : o.length ≤ 96) (hr : rp (Mz 37) (o.map nI)) (hv : ∀ s ∈ o, s < 128) : Ct E 1 yX2_topLevel cX2_topLevel 1 (some .int) [.inr 33] Mz (qI E (fun r M' => r = nI (tpl o) ∧ M' = Mz)) := by
  cases o with
  | nil => exact kR_top0 E Mz hh
  | cons s t => exact kR_top1 E Mz hh (by simp at h96; omega) hr (hv s List.mem_cons_self)
set_option maxRecDepth 100000 in
set_option maxHeartbeats 4000000 in
theorem kR_push (E : ev) (Mz : mm) {x : Int32} {h : Nat} (hh : Mz 33 8 = nI h) (h96 : h < 96) : Ct E 0 yX2_push cX2_push 2 none [.inr 33, .inl x] Mz (qV E (fun M' => M' = wr (wr Mz 37 h x) 33 8 (nI (h + 1)))) := by
  refine ct_of (by decide) (Nat.le_of_ble_eq_true rfl) ?_
  show V E 0 _ _ _ _ _ 0 [some (.inr 33), some (.inl x)] [] Mz
  refine v_ald0 dX2_push_0 ?_
  refine v_geti dX2_push_1 gX2_36 sh_33 rfl ?_
  refine v_eq (hh) ?_
  refine v_bipushN (n := 96) dX2_push_4 (by decide) ?_
  refine v_icmpN_ge (tgt := 29) dX2_push_6 (by decide) (by omega) (by omega) (fun h6 => absurd h6 (by omega)) (fun h6 => ?_)
  refine v_ald0 dX2_push_9 ?_
  refine v_getr dX2_push_10 gX2_22 sh_33 rfl ?_
  refine v_ald0 dX2_push_13 ?_
  refine v_geti dX2_push_14 gX2_36 sh_33 rfl ?_
  refine v_eq (hh) ?_
  refine v_ild1 dX2_push_17 ?_
  refine v_iastN dX2_push_18 sh_37 (by omega) (by decide) ?_
  refine v_ald0 dX2_push_19 ?_
  refine v_dup dX2_push_20 ?_
  refine v_geti dX2_push_21 gX2_36 sh_33 rfl ?_
  refine v_eq (show wr Mz 37 h x 33 8 = nI h from by rw [wr_ne (by decide)]; exact hh) ?_
  refine v_iconstN (n := 1) dX2_push_24 ?_
  refine v_iaddN dX2_push_25 ?_
  refine v_puti dX2_push_26 pX2_36 sh_33 rfl rfl rfl ?_
  exact v_vret dX2_push_29 rfl (rfl)
set_option maxRecDepth 100000 in
set_option maxHeartbeats 4000000 in
theorem kT_add (E : ev) (Mz : mm) {x : Int32} {n : Nat} (hn : Mz 35 2 = nI n) (h96 : n < 96) : Ct E 0 yX5_add cX5_add 2 none [.inr 35, .inl x] Mz (qV E (fun M' => M' = wr (wr Mz 36 n x) 35 2 (nI (n + 1)))) := by
  refine ct_of (by decide) (Nat.le_of_ble_eq_true rfl) ?_
  show V E 0 _ _ _ _ _ 0 [some (.inr 35), some (.inl x)] [] Mz
  refine v_ald0 dX5_add_0 ?_
  refine v_geti dX5_add_1 gX5_22 sh_35 rfl ?_
  refine v_eq (hn) ?_
  refine v_bipushN (n := 96) dX5_add_4 (by decide) ?_
  refine v_icmpN_ge (tgt := 29) dX5_add_6 (by decide) (by omega) (by omega) (fun h6 => absurd h6 (by omega)) (fun h6 => ?_)
  refine v_ald0 dX5_add_9 ?_
  refine v_getr dX5_add_10 gX5_9 sh_35 rfl ?_
  refine v_ald0 dX5_add_13 ?_
  refine v_geti dX5_add_14 gX5_22 sh_35 rfl ?_
  refine v_eq (hn) ?_
  refine v_ild1 dX5_add_17 ?_
  refine v_iastN dX5_add_18 sh_36 (by omega) (by decide) ?_
  refine v_ald0 dX5_add_19 ?_
  refine v_dup dX5_add_20 ?_
  refine v_geti dX5_add_21 gX5_22 sh_35 rfl ?_
  refine v_eq (show wr Mz 36 n x 35 2 = nI n from by rw [wr_ne (by decide)]; exact hn) ?_
  refine v_iconstN (n := 1) dX5_add_24 ?_
  refine v_iaddN dX5_add_25 ?_
  refine v_puti dX5_add_26 pX5_22 sh_35 rfl rfl rfl ?_
  exact v_vret dX5_add_29 rfl (rfl)
set_option maxRecDepth 100000 in
set_option maxHeartbeats 4000000 in
theorem kT_addLeaf (E : ev) (Mz : mm) {x : Int32} {n l : Nat} (hn : Mz 35 2 = nI n) (hl : Mz 35 1 = nI l) (h96 : n < 96) : Ct E 1 yX5_addLeaf cX5_addLeaf 2 none [.inr 35, .inl x] Mz (qV E (fun M' => M' = wr (wr (wr Mz 36 n x) 35 2 (nI (n + 1))) 35 1 (nI (l + 1)))) := by
  refine ct_of (by decide) (Nat.le_of_ble_eq_true rfl) ?_
  show V E 1 _ _ _ _ _ 0 [some (.inr 35), some (.inl x)] [] Mz
  refine v_ald0 dX5_addLeaf_0 ?_
  refine v_ild1 dX5_addLeaf_1 ?_
  refine v_callVv (kT_add E Mz hn h96) dX5_addLeaf_2 cX5_31 rfl sh_35 rfl (by decide) (Nat.le_of_ble_eq_true rfl) rfl (fun M1z hq => ?_)
  rw [hq]
  clear hq
  refine v_ald0 dX5_addLeaf_5 ?_
  refine v_dup dX5_addLeaf_6 ?_
  refine v_geti dX5_addLeaf_7 gX5_19 sh_35 rfl ?_
  refine v_eq (show wr (wr Mz 36 n x) 35 2 (nI (n + 1)) 35 1 = nI l from by rw [wr_at, pk_un (by decide), wr_ne (by decide)]; exact hl) ?_
  refine v_iconstN (n := 1) dX5_addLeaf_10 ?_
  refine v_iaddN dX5_addLeaf_11 ?_
  refine v_puti dX5_addLeaf_12 pX5_19 sh_35 rfl rfl rfl ?_
  exact v_vret dX5_addLeaf_15 rfl (rfl)
set_option maxRecDepth 100000 in
set_option maxHeartbeats 4000000 in
theorem kT_begin (E : ev) (Mz : mm) {x : Int32} : Ct E 0 yX5_begin cX5_begin 2 none [.inr 35, .inl x] Mz (qV E (fun M' => M' = wr (wr (wr Mz 35 0 x) 35 1 (nI 0)) 35 2 (nI 0))) := by
  refine ct_of (by decide) (Nat.le_of_ble_eq_true rfl) ?_
  show V E 0 _ _ _ _ _ 0 [some (.inr 35), some (.inl x)] [] Mz
  refine v_ald0 dX5_begin_0 ?_
  refine v_ild1 dX5_begin_1 ?_
  refine v_puti dX5_begin_2 pX5_15 sh_35 rfl rfl rfl ?_
  refine v_ald0 dX5_begin_5 ?_
  refine v_iconstN (n := 0) dX5_begin_6 ?_
  refine v_puti dX5_begin_7 pX5_19 sh_35 rfl rfl rfl ?_
  refine v_ald0 dX5_begin_10 ?_
  refine v_iconstN (n := 0) dX5_begin_11 ?_
  refine v_puti dX5_begin_12 pX5_22 sh_35 rfl rfl rfl ?_
  exact v_vret dX5_begin_15 rfl (rfl)
set_option maxRecDepth 100000 in
set_option maxHeartbeats 4000000 in
theorem kR_drop_l (E : ev) (A : mm) {v lv : Nat} (hv5 : v < 9) : ∀ (o : List Nat) (u : List Int32) (Mz : mm), o.length + u.length ≤ 96 → (∀ s ∈ o, s < 128) → (PsC Mz o u lv ∧ FrP A Mz) → V E 2 yX2_drop cX2_drop 2 none (qV E (fun M' => PsC M' (drL v o u).1 (drL v o u).2 lv ∧ FrP A M')) 0 [some (.inr 33), some (.inl (nI v))] [] Mz
  | [], u, Mz, h96, hv, hM => by
    refine v_ald0 dX2_drop_0 ?_
    refine v_geti dX2_drop_1 gX2_36 sh_33 rfl ?_
    refine v_eq (show Mz 33 8 = nI 0 from hM.1.1) ?_
    refine v_if_le (tgt := 45) dX2_drop_4 (by decide) (fun h4 => ?_) (fun h4 => absurd h4 (fun q => q (by decide)))
    exact v_vret dX2_drop_45 rfl (hM)
  | s :: t, u, Mz, h96, hv, hM => by
    have h5 := lev_le s
    have htp : tpl (s :: t) = lev s := rfl
    have h97 : t.length + 1 + u.length ≤ 96 := h96
    by_cases hc : v < lev s
    · rw [show drL v (s :: t) u = drL v t (neS s :: u) from if_pos hc]
      refine v_ald0 dX2_drop_0 ?_
      refine v_geti dX2_drop_1 gX2_36 sh_33 rfl ?_
      refine v_eq (show Mz 33 8 = nI (t.length + 1) from hM.1.1) ?_
      refine v_if_le (tgt := 45) dX2_drop_4 (by decide) (fun h4 => absurd h4 (nI_nle (by omega) (by omega))) (fun h4 => ?_)
      refine v_ald0 dX2_drop_7 ?_
      refine v_callVi (kR_top E Mz (o := s :: t) hM.1.1 (by simp at h96 ⊢; omega) hM.1.2.1 hv) dX2_drop_8 cX2_140 rfl sh_33 rfl (by decide) (Nat.le_of_ble_eq_true rfl) rfl (fun r M1z hq => ?_)
      obtain ⟨hr1, hm⟩ := hq
      rw [hr1, hm]
      clear hr1 hm
      refine v_ild1 dX2_drop_11 ?_
      refine v_icmpN_le (tgt := 45) dX2_drop_12 (by decide) (by omega) (by omega) (fun h12 => absurd h12 (by omega)) (fun h12 => ?_)
      refine v_ald0 dX2_drop_15 ?_
      refine v_dup dX2_drop_16 ?_
      refine v_geti dX2_drop_17 gX2_36 sh_33 rfl ?_
      refine v_eq (show Mz 33 8 = nI (t.length + 1) from hM.1.1) ?_
      refine v_iconstN (n := 1) dX2_drop_20 ?_
      refine v_isubN dX2_drop_21 (by omega) ?_
      refine v_eq (show nI (t.length + 1 - 1) = nI t.length from rfl) ?_
      refine v_puti dX2_drop_22 pX2_36 sh_33 rfl rfl rfl ?_
      refine v_ald0 dX2_drop_25 ?_
      refine v_getr dX2_drop_26 gX2_18 sh_33 rfl ?_
      refine v_ald0 dX2_drop_29 ?_
      refine v_getr dX2_drop_30 gX2_22 sh_33 rfl ?_
      refine v_ald0 dX2_drop_33 ?_
      refine v_geti dX2_drop_34 gX2_36 sh_33 rfl ?_
      refine v_eq (show wr Mz 33 8 (nI t.length) 33 8 = nI t.length from by rw [wr_at, pk_us]) ?_
      refine v_ialdN dX2_drop_37 sh_37 (by omega) (by decide) ?_
      refine v_eq (show wr Mz 33 8 (nI t.length) 37 t.length = nI s from by rw [wr_ne (by decide)]; exact rpm_top hM.1.2.1) ?_
      refine v_ineg dX2_drop_38 ?_
      refine v_callVv (kT_add E _ (n := u.length) (by rw [wr_ne (by decide)]; exact hM.1.2.2.2.2.2.1) (by omega)) dX2_drop_39 cX2_143 rfl sh_35 rfl (by decide) (Nat.le_of_ble_eq_true rfl) rfl (fun M1z hq => ?_)
      rw [hq]
      clear hq
      refine v_goto (tgt := 0) dX2_drop_42 (by decide) ?_
      exact kR_drop_l E A hv5 t (neS s :: u) _ (by simp; omega) (fun a ha => hv a (List.mem_cons_of_mem _ ha)) ⟨PsC_add _ (PsC_pop hM.1 (by intro e; rw [e, lev_40] at hc; omega) (by intro e; rw [e, lev_33] at hc; omega)), ((hM.2.w33 (by decide)).w36).w35 (by decide)⟩
    · rw [show drL v (s :: t) u = (s :: t, u) from if_neg hc]
      refine v_ald0 dX2_drop_0 ?_
      refine v_geti dX2_drop_1 gX2_36 sh_33 rfl ?_
      refine v_eq (show Mz 33 8 = nI (t.length + 1) from hM.1.1) ?_
      refine v_if_le (tgt := 45) dX2_drop_4 (by decide) (fun h4 => absurd h4 (nI_nle (by omega) (by omega))) (fun h4 => ?_)
      refine v_ald0 dX2_drop_7 ?_
      refine v_callVi (kR_top E Mz (o := s :: t) hM.1.1 (by simp at h96 ⊢; omega) hM.1.2.1 hv) dX2_drop_8 cX2_140 rfl sh_33 rfl (by decide) (Nat.le_of_ble_eq_true rfl) rfl (fun r M1z hq => ?_)
      obtain ⟨hr1, hm⟩ := hq
      rw [hr1, hm]
      clear hr1 hm
      refine v_ild1 dX2_drop_11 ?_
      refine v_icmpN_le (tgt := 45) dX2_drop_12 (by decide) (by omega) (by omega) (fun h12 => ?_) (fun h12 => absurd h12 (by omega))
      exact v_vret dX2_drop_45 rfl (hM)
theorem kR_drop (E : ev) (Mz : mm) {v lv : Nat} {o : List Nat} {u : List Int32} (hv5 : v < 9) (h96 : o.length + u.length ≤ 96) (hv : ∀ s ∈ o, s < 128) (hM : PsC Mz o u lv) : Ct E 2 yX2_drop cX2_drop 2 none [.inr 33, .inl (nI v)] Mz (qV E (fun M' => PsC M' (drL v o u).1 (drL v o u).2 lv ∧ FrP Mz M')) := by
  refine ct_of (by decide) (Nat.le_of_ble_eq_true rfl) ?_
  exact kR_drop_l E Mz hv5 o u Mz h96 hv ⟨hM, FrP.refl _⟩
set_option maxRecDepth 100000 in
set_option maxHeartbeats 4000000 in
theorem kR_dropN_l (E : ev) (A : mm) {lv : Nat} : ∀ (o : List Nat) (u : List Int32) (Mz : mm), o.length + u.length ≤ 96 → (∀ s ∈ o, s < 128) → (PsC Mz o u lv ∧ FrP A Mz) → V E 1 yX2_dropNots cX2_dropNots 1 none (qV E (fun M' => PsC M' (drN o u).1 (drN o u).2 lv ∧ FrP A M')) 0 [some (.inr 33)] [] Mz
  | [], u, Mz, h96, hv, hM => by
    refine v_ald0 dX2_dropNots_0 ?_
    refine v_geti dX2_dropNots_1 gX2_36 sh_33 rfl ?_
    refine v_eq (show Mz 33 8 = nI 0 from hM.1.1) ?_
    refine v_if_le (tgt := 55) dX2_dropNots_4 (by decide) (fun h4 => ?_) (fun h4 => absurd h4 (fun q => q (by decide)))
    exact v_vret dX2_dropNots_55 rfl (hM)
  | s :: t, u, Mz, h96, hv, hM => by
    have h97 : t.length + 1 + u.length ≤ 96 := h96
    have hs := hv s List.mem_cons_self
    by_cases hc : s = 33
    · rw [show drN (s :: t) u = drN t (neS 33 :: u) from if_pos hc]
      subst hc
      have hct : Mz 33 10 = nI (ct 33 t + 1) := by rw [hM.1.2.2.2.1, ct_y]
      refine v_ald0 dX2_dropNots_0 ?_
      refine v_geti dX2_dropNots_1 gX2_36 sh_33 rfl ?_
      refine v_eq (show Mz 33 8 = nI (t.length + 1) from hM.1.1) ?_
      refine v_if_le (tgt := 55) dX2_dropNots_4 (by decide) (fun h4 => absurd h4 (nI_nle (by omega) (by omega))) (fun h4 => ?_)
      refine v_ald0 dX2_dropNots_7 ?_
      refine v_getr dX2_dropNots_8 gX2_22 sh_33 rfl ?_
      refine v_ald0 dX2_dropNots_11 ?_
      refine v_geti dX2_dropNots_12 gX2_36 sh_33 rfl ?_
      refine v_eq (show Mz 33 8 = nI (t.length + 1) from hM.1.1) ?_
      refine v_iconstN (n := 1) dX2_dropNots_15 ?_
      refine v_isubN dX2_dropNots_16 (by omega) ?_
      refine v_ialdN dX2_dropNots_17 sh_37 (by omega) (by decide) ?_
      refine v_eq (show Mz 37 (t.length + 1 - 1) = nI 33 from rpm_top hM.1.2.1) ?_
      refine v_bipushN (n := 33) dX2_dropNots_18 (by decide) ?_
      refine v_icmp_ne (tgt := 55) dX2_dropNots_20 (by decide) (fun h20 => absurd h20 (fun q => q rfl)) (fun h20 => ?_)
      refine v_ald0 dX2_dropNots_23 ?_
      refine v_dup dX2_dropNots_24 ?_
      refine v_geti dX2_dropNots_25 gX2_36 sh_33 rfl ?_
      refine v_eq (show Mz 33 8 = nI (t.length + 1) from hM.1.1) ?_
      refine v_iconstN (n := 1) dX2_dropNots_28 ?_
      refine v_isubN dX2_dropNots_29 (by omega) ?_
      refine v_eq (show nI (t.length + 1 - 1) = nI t.length from rfl) ?_
      refine v_puti dX2_dropNots_30 pX2_36 sh_33 rfl rfl rfl ?_
      refine v_ald0 dX2_dropNots_33 ?_
      refine v_dup dX2_dropNots_34 ?_
      refine v_geti dX2_dropNots_35 gX2_42 sh_33 rfl ?_
      refine v_eq (show wr Mz 33 8 (nI t.length) 33 10 = nI (ct 33 t + 1) from by rw [wr_at, pk_un (by decide)]; exact hct) ?_
      refine v_iconstN (n := 1) dX2_dropNots_38 ?_
      refine v_isubN dX2_dropNots_39 (by omega) ?_
      refine v_eq (show nI (ct 33 t + 1 - 1) = nI (ct 33 t) from rfl) ?_
      refine v_puti dX2_dropNots_40 pX2_42 sh_33 rfl rfl rfl ?_
      refine v_ald0 dX2_dropNots_43 ?_
      refine v_getr dX2_dropNots_44 gX2_18 sh_33 rfl ?_
      refine v_bipush (x := -33) dX2_dropNots_47 (by decide) ?_
      refine v_callVv (kT_add E _ (n := u.length) (by rw [wr_ne (by decide), wr_ne (by decide)]; exact hM.1.2.2.2.2.2.1) (by omega)) dX2_dropNots_49 cX2_143 rfl sh_35 rfl (by decide) (Nat.le_of_ble_eq_true rfl) rfl (fun M1z hq => ?_)
      rw [hq]
      clear hq
      refine v_goto (tgt := 0) dX2_dropNots_52 (by decide) ?_
      exact kR_dropN_l E A t (neS 33 :: u) _ (by simp; omega) (fun a ha => hv a (List.mem_cons_of_mem _ ha)) ⟨PsC_add _ (PsC_pop33 hM.1), (((hM.2.w33 (by decide)).w33 (by decide)).w36).w35 (by decide)⟩
    · rw [show drN (s :: t) u = (s :: t, u) from if_neg hc]
      refine v_ald0 dX2_dropNots_0 ?_
      refine v_geti dX2_dropNots_1 gX2_36 sh_33 rfl ?_
      refine v_eq (show Mz 33 8 = nI (t.length + 1) from hM.1.1) ?_
      refine v_if_le (tgt := 55) dX2_dropNots_4 (by decide) (fun h4 => absurd h4 (nI_nle (by omega) (by omega))) (fun h4 => ?_)
      refine v_ald0 dX2_dropNots_7 ?_
      refine v_getr dX2_dropNots_8 gX2_22 sh_33 rfl ?_
      refine v_ald0 dX2_dropNots_11 ?_
      refine v_geti dX2_dropNots_12 gX2_36 sh_33 rfl ?_
      refine v_eq (show Mz 33 8 = nI (t.length + 1) from hM.1.1) ?_
      refine v_iconstN (n := 1) dX2_dropNots_15 ?_
      refine v_isubN dX2_dropNots_16 (by omega) ?_
      refine v_ialdN dX2_dropNots_17 sh_37 (by omega) (by decide) ?_
      refine v_eq (show Mz 37 (t.length + 1 - 1) = nI s from rpm_top hM.1.2.1) ?_
      refine v_bipushN (n := 33) dX2_dropNots_18 (by decide) ?_
      refine v_icmpN_ne (tgt := 55) dX2_dropNots_20 (by decide) (by omega) (by omega) (fun h20 => ?_) (fun h20 => absurd h20 (fun q => hc q))
      exact v_vret dX2_dropNots_55 rfl (hM)
theorem kR_dropN (E : ev) (Mz : mm) {lv : Nat} {o : List Nat} {u : List Int32} (h96 : o.length + u.length ≤ 96) (hv : ∀ s ∈ o, s < 128) (hM : PsC Mz o u lv) : Ct E 1 yX2_dropNots cX2_dropNots 1 none [.inr 33] Mz (qV E (fun M' => PsC M' (drN o u).1 (drN o u).2 lv ∧ FrP Mz M')) := by
  refine ct_of (by decide) (Nat.le_of_ble_eq_true rfl) ?_
  exact kR_dropN_l E Mz o u Mz h96 hv ⟨hM, FrP.refl _⟩
