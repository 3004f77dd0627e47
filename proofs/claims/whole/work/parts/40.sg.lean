set_option maxRecDepth 100000 in
set_option maxHeartbeats 4000000 in
theorem kR_cl0 (E : ev) (Mz : mm) {o : List Nat} {u : List Int32} {lv : Nat} (hP : PsC Mz o u lv) (h96 : o.length + u.length ≤ 96) (hv : ∀ s ∈ o, s < 128) (h0 : ct 40 o = 0) : Ct E 3 yX2_closes cX2_closes 1 (some .boolean) [.inr 33] Mz (qI E (fun r M' => r = nI 0 ∧ FrP Mz M')) := by
  refine ct_of (by decide) (Nat.le_of_ble_eq_true rfl) ?_
  show V E 3 _ _ _ _ _ 0 [some (.inr 33)] [] Mz
  refine v_ald0 dX2_closes_0 ?_
  refine v_geti dX2_closes_1 gX2_39 sh_33 rfl ?_
  refine v_eq (show Mz 33 9 = nI 0 from by rw [hP.2.2.1, h0]) ?_
  refine v_if_ne (tgt := 9) dX2_closes_4 (by decide) (fun h4 => absurd h4 (fun q => q rfl)) (fun h4 => ?_)
  refine v_iconstN (n := 0) dX2_closes_7 ?_
  exact v_zret dX2_closes_8 rfl (by decide +kernel) (⟨rfl, FrP.refl Mz⟩)
theorem drL_top {o : List Nat} {u : List Int32} (hs : seg o 6) (h0 : ct 40 o ≠ 0) : ∃ z, (drL 0 o u).1 = 40 :: z := by
  have c40 := drL_ct 0 40 rfl o u
  rcases seg_1 (drL_seg 0 o u 6 hs (Nat.le_refl _)) with e | ⟨z, e, hz⟩
  · rw [e] at c40; exact absurd c40.symm h0
  · exact ⟨z, e⟩
theorem drL_v {v : Nat} : ∀ {o : List Nat} {u : List Int32}, (∀ s ∈ o, s < 128) → ∀ s ∈ (drL v o u).1, s < 128
  | [], u, h, s, hs => absurd hs List.not_mem_nil
  | a :: t, u, h, s, hs => by
    unfold drL at hs
    by_cases hc : v < lev a
    · rw [if_pos hc] at hs; exact drL_v (fun x hx => h x (List.mem_cons_of_mem _ hx)) s hs
    · rw [if_neg hc] at hs; exact h s hs
set_option maxRecDepth 100000 in
set_option maxHeartbeats 4000000 in
theorem kR_cl1 (E : ev) (Mz : mm) {o : List Nat} {u : List Int32} {lv : Nat} (hP : PsC Mz o u lv) (h96 : o.length + u.length ≤ 96) (hv : ∀ s ∈ o, s < 128) (hs : seg o 6) (h40 : ct 40 o ≤ 8) (h0 : ct 40 o ≠ 0) : Ct E 3 yX2_closes cX2_closes 1 (some .boolean) [.inr 33] Mz (qI E (fun r M' => r = nI 1 ∧ PsC M' (drN (drL 0 o u).1.tail (drL 0 o u).2).1 (drN (drL 0 o u).1.tail (drL 0 o u).2).2 lv ∧ FrP Mz M')) := by
  refine ct_of (by decide) (Nat.le_of_ble_eq_true rfl) ?_
  show V E 3 _ _ _ _ _ 0 [some (.inr 33)] [] Mz
  obtain ⟨z, hz⟩ := drL_top (u := u) hs h0
  have hlen := drL_len 0 o u
  rw [hz] at hlen
  simp only [List.length_cons] at hlen
  have hvz : ∀ s ∈ 40 :: z, s < 128 := by rw [← hz]; exact drL_v hv
  have hcz := drL_ct 0 40 rfl o u
  rw [hz, ct_y] at hcz
  refine v_ald0 dX2_closes_0 ?_
  refine v_geti dX2_closes_1 gX2_39 sh_33 rfl ?_
  refine v_eq (show Mz 33 9 = nI (ct 40 o) from hP.2.2.1) ?_
  refine v_if_ne (tgt := 9) dX2_closes_4 (by decide) (fun h4 => ?_) (fun h4 => absurd h4 (fun q => h0 ((nI_eq (by omega) (by decide)).mp (q.trans nI_0.symm))))
  refine v_ald0 dX2_closes_9 ?_
  refine v_iconstN (n := 0) dX2_closes_10 ?_
  refine v_callVv (kR_drop E Mz (by decide) h96 hv hP) dX2_closes_11 cX2_77 rfl sh_33 rfl (by decide) (Nat.le_of_ble_eq_true rfl) rfl (fun M1z hq => ?_)
  obtain ⟨hq1, hq2⟩ := hq
  rw [hz] at hq1
  refine v_ald0 dX2_closes_14 ?_
  refine v_geti dX2_closes_15 gX2_36 sh_33 rfl ?_
  refine v_eq (show M1z 33 8 = nI (z.length + 1) from hq1.1) ?_
  refine v_if_le (tgt := 31) dX2_closes_18 (by decide) (fun h18 => absurd h18 (nI_nle (by omega) (by omega))) (fun h18 => ?_)
  refine v_ald0 dX2_closes_21 ?_
  refine v_dup dX2_closes_22 ?_
  refine v_geti dX2_closes_23 gX2_36 sh_33 rfl ?_
  refine v_eq (show M1z 33 8 = nI (z.length + 1) from hq1.1) ?_
  refine v_iconstN (n := 1) dX2_closes_26 ?_
  refine v_isubN dX2_closes_27 (by omega) ?_
  refine v_eq (show nI (z.length + 1 - 1) = nI z.length from rfl) ?_
  refine v_puti dX2_closes_28 pX2_36 sh_33 rfl rfl rfl ?_
  refine v_ald0 dX2_closes_31 ?_
  refine v_dup dX2_closes_32 ?_
  refine v_geti dX2_closes_33 gX2_39 sh_33 rfl ?_
  refine v_eq (show wr M1z 33 8 (nI z.length) 33 9 = nI (ct 40 z + 1) from by rw [wr_at, pk_un (by decide), hq1.2.2.1, ct_y]) ?_
  refine v_iconstN (n := 1) dX2_closes_36 ?_
  refine v_isubN dX2_closes_37 (by omega) ?_
  refine v_eq (show nI (ct 40 z + 1 - 1) = nI (ct 40 z) from rfl) ?_
  refine v_puti dX2_closes_38 pX2_39 sh_33 rfl rfl rfl ?_
  refine v_ald0 dX2_closes_41 ?_
  refine v_callVv (kR_dropN E _ (o := z) (u := (drL 0 o u).2) (lv := lv) (by omega) (fun s h => hvz s (List.mem_cons_of_mem _ h)) (PsC_pop40 hq1)) dX2_closes_42 cX2_118 rfl sh_33 rfl (by decide) (Nat.le_of_ble_eq_true rfl) rfl (fun M2z hq3 => ?_)
  refine v_iconstN (n := 1) dX2_closes_45 ?_
  exact v_zret dX2_closes_46 rfl (by decide +kernel) (⟨rfl, by rw [hz]; exact hq3.1, (((hq2.w33 (by decide)).w33 (by decide))).trans hq3.2⟩)
set_option maxRecDepth 100000 in
set_option maxHeartbeats 4000000 in
theorem kR_sg41 (E : ev) (Mz : mm) {tp : Nat → Nat} {t : tok} (hS : ScC Mz tp t) {o : List Nat} {u : List Int32} {lv : Nat} (hP : PsC Mz o u lv) (h96 : o.length + u.length < 96) (hv : ∀ s ∈ o, s < 128) (hs : seg o 6) (h40 : ct 40 o ≤ 8) (h3 : t.1 = 3) (hb : tp t.2.1 = 41) : Ct E 4 yX2_takesSign cX2_takesSign 2 (some .boolean) [.inr 33] Mz (qI E (fun r M' => match pN tp t o u lv with | none => r = nI 0 ∧ FrP Mz M' | some q => r = nI 1 ∧ PsC M' q.2.1 q.2.2.1 q.2.2.2 ∧ FrP Mz M')) := by
  refine ct_of (by decide) (Nat.le_of_ble_eq_true rfl) ?_
  show V E 4 _ _ _ _ _ 0 [some (.inr 33), none] [] Mz
  by_cases h0 : ct 40 o = 0
  · rw [show pN tp t o u lv = none from by unfold pN; rw [if_neg (fun q => by omega), if_neg (fun q => by have := q.2; rw [hb] at this; exact absurd this (by decide))]]
    refine v_ald0 dX2_takesSign_0 ?_
    refine v_geti dX2_takesSign_1 gX2_59 sh_33 rfl ?_
    refine v_eq (show Mz 33 3 = nI 41 from by rw [hS.1]; unfold tkC; rw [h3, hb]; rfl) ?_
    refine v_bipushN (n := 41) dX2_takesSign_4 (by decide) ?_
    refine v_icmp_ne (tgt := 14) dX2_takesSign_6 (by decide) (fun h6 => absurd h6 (fun q => q rfl)) (fun h6 => ?_)
    refine v_ald0 dX2_takesSign_9 ?_
    refine v_callVi (kR_cl0 E Mz hP (by omega) hv h0) dX2_takesSign_10 cX2_137 rfl sh_33 rfl (by decide) (Nat.le_of_ble_eq_true rfl) rfl (fun r M1z hq => ?_)
    obtain ⟨hr1, hm⟩ := hq
    rw [hr1]
    exact v_zret dX2_takesSign_13 rfl (by decide +kernel) (⟨rfl, hm⟩)
  · rw [show pN tp t o u lv = some (false, (drN (drL 0 o u).1.tail (drL 0 o u).2).1, (drN (drL 0 o u).1.tail (drL 0 o u).2).2, lv) from if_pos ⟨h3, hb, by omega⟩]
    refine v_ald0 dX2_takesSign_0 ?_
    refine v_geti dX2_takesSign_1 gX2_59 sh_33 rfl ?_
    refine v_eq (show Mz 33 3 = nI 41 from by rw [hS.1]; unfold tkC; rw [h3, hb]; rfl) ?_
    refine v_bipushN (n := 41) dX2_takesSign_4 (by decide) ?_
    refine v_icmp_ne (tgt := 14) dX2_takesSign_6 (by decide) (fun h6 => absurd h6 (fun q => q rfl)) (fun h6 => ?_)
    refine v_ald0 dX2_takesSign_9 ?_
    refine v_callVi (kR_cl1 E Mz hP (by omega) hv hs h40 h0) dX2_takesSign_10 cX2_137 rfl sh_33 rfl (by decide) (Nat.le_of_ble_eq_true rfl) rfl (fun r M1z hq => ?_)
    obtain ⟨hr1, hm⟩ := hq
    rw [hr1]
    exact v_zret dX2_takesSign_13 rfl (by decide +kernel) (⟨rfl, hm⟩)
set_option maxRecDepth 100000 in
set_option maxHeartbeats 4000000 in
theorem kR_sg0 (E : ev) (Mz : mm) {tp : Nat → Nat} {t : tok} (hS : ScC Mz tp t) {o : List Nat} {u : List Int32} {lv : Nat} (n41 : tkC tp t ≠ nI 41) (hl : levI (tkC tp t) = 0) (hno : pN tp t o u lv = none) : Ct E 4 yX2_takesSign cX2_takesSign 2 (some .boolean) [.inr 33] Mz (qI E (fun r M' => match pN tp t o u lv with | none => r = nI 0 ∧ FrP Mz M' | some q => r = nI 1 ∧ PsC M' q.2.1 q.2.2.1 q.2.2.2 ∧ FrP Mz M')) := by
  refine ct_of (by decide) (Nat.le_of_ble_eq_true rfl) ?_
  show V E 4 _ _ _ _ _ 0 [some (.inr 33), none] [] Mz
  rw [hno]
  refine v_ald0 dX2_takesSign_0 ?_
  refine v_geti dX2_takesSign_1 gX2_59 sh_33 rfl ?_
  refine v_eq (hS.1) ?_
  refine v_bipushN (n := 41) dX2_takesSign_4 (by decide) ?_
  refine v_icmp_ne (tgt := 14) dX2_takesSign_6 (by decide) (fun h6 => ?_) (fun h6 => absurd h6 (fun q => n41 q))
  refine v_ald0 dX2_takesSign_14 ?_
  refine v_geti dX2_takesSign_15 gX2_59 sh_33 rfl ?_
  refine v_eq (hS.1) ?_
  refine v_callSi (kR_levelOf E Mz) dX2_takesSign_18 cX2_73 rfl (by decide) (Nat.le_of_ble_eq_true rfl) rfl (fun r M1z hq => ?_)
  obtain ⟨hr1, hm⟩ := hq
  rw [hr1, hm, hl]
  clear hr1 hm
  refine v_ist1 dX2_takesSign_21 (by decide) ?_
  refine v_ild1 dX2_takesSign_22 ?_
  refine v_if_ne (tgt := 28) dX2_takesSign_23 (by decide) (fun h23 => absurd h23 (fun q => q rfl)) (fun h23 => ?_)
  refine v_iconstN (n := 0) dX2_takesSign_26 ?_
  exact v_zret dX2_takesSign_27 rfl (by decide +kernel) (⟨rfl, FrP.refl Mz⟩)
set_option maxRecDepth 100000 in
set_option maxHeartbeats 4000000 in
theorem kR_sgN (E : ev) (Mz : mm) {tp : Nat → Nat} {t : tok} (hS : ScC Mz tp t) {o : List Nat} {u : List Int32} {lv : Nat} (hP : PsC Mz o u lv) (h96 : o.length + u.length < 96) (hv : ∀ s ∈ o, s < 128) (hs : seg o 6) (h40 : ct 40 o ≤ 8) (h3 : t.1 = 3) {v : Nat} (hlv : lev (tp t.2.1) = v) (h0 : 0 < v) (h3v : v ≠ 3) : Ct E 4 yX2_takesSign cX2_takesSign 2 (some .boolean) [.inr 33] Mz (qI E (fun r M' => match pN tp t o u lv with | none => r = nI 0 ∧ FrP Mz M' | some q => r = nI 1 ∧ PsC M' q.2.1 q.2.2.1 q.2.2.2 ∧ FrP Mz M')) := by
  refine ct_of (by decide) (Nat.le_of_ble_eq_true rfl) ?_
  show V E 4 _ _ _ _ _ 0 [some (.inr 33), none] [] Mz
  have hb : tp t.2.1 < 128 := lev_lt (by omega)
  have hv5 := lev_le (tp t.2.1)
  have n41 : tp t.2.1 ≠ 41 := by intro e; rw [e] at hlv; rw [← hlv] at h0; exact absurd h0 (by decide)
  have n40 : tp t.2.1 ≠ 40 := by intro e; rw [e] at hlv; rw [← hlv] at h0; exact absurd h0 (by decide)
  have n33 : tp t.2.1 ≠ 33 := by intro e; rw [e] at hlv; rw [← hlv] at h0; exact absurd h0 (by decide)
  have hlen := drL_len (dlv v) o u
  have hpn : pN tp t o u lv = (if v = 3 ∧ tpl (drL (dlv v) o u).1 = 3 then none else some (true, tp t.2.1 :: (drL (dlv v) o u).1, (drL (dlv v) o u).2, lv)) := by unfold pN; rw [if_neg (fun q => n41 q.2.1), if_pos ⟨h3, by omega⟩, hlv]
  have hdl : dlv v = v - 1 := if_neg h3v
  rw [hdl] at hpn hlen
  rw [hpn, if_neg (fun q => h3v q.1)]
  refine v_ald0 dX2_takesSign_0 ?_
  refine v_geti dX2_takesSign_1 gX2_59 sh_33 rfl ?_
  refine v_eq (show Mz 33 3 = nI (tp t.2.1) from by rw [hS.1]; unfold tkC; rw [h3]; exact sb_lo hb) ?_
  refine v_bipushN (n := 41) dX2_takesSign_4 (by decide) ?_
  refine v_icmp_ne (tgt := 14) dX2_takesSign_6 (by decide) (fun h6 => ?_) (fun h6 => absurd h6 (fun q => n41 ((nI_eq (by omega) (by decide)).mp q)))
  refine v_ald0 dX2_takesSign_14 ?_
  refine v_geti dX2_takesSign_15 gX2_59 sh_33 rfl ?_
  refine v_eq (show Mz 33 3 = nI (tp t.2.1) from by rw [hS.1]; unfold tkC; rw [h3]; exact sb_lo hb) ?_
  refine v_callSi (kR_levelOf E Mz) dX2_takesSign_18 cX2_73 rfl (by decide) (Nat.le_of_ble_eq_true rfl) rfl (fun r M1z hq => ?_)
  obtain ⟨hr1, hm⟩ := hq
  rw [hr1, hm, levnD ⟨tp t.2.1, hb⟩, hlv]
  clear hr1 hm
  refine v_ist1 dX2_takesSign_21 (by decide) ?_
  refine v_ild1 dX2_takesSign_22 ?_
  refine v_if_ne (tgt := 28) dX2_takesSign_23 (by decide) (fun h23 => ?_) (fun h23 => absurd h23 (nI_ne0 (by omega) (by omega)))
  refine v_ald0 dX2_takesSign_28 ?_
  refine v_ild1 dX2_takesSign_29 ?_
  refine v_iconstN (n := 3) dX2_takesSign_30 ?_
  refine v_icmpN_ne (tgt := 38) dX2_takesSign_31 (by decide) (by omega) (by omega) (fun h31 => ?_) (fun h31 => absurd h31 (fun q => h3v q))
  refine v_ild1 dX2_takesSign_38 ?_
  refine v_iconstN (n := 1) dX2_takesSign_39 ?_
  refine v_isubN dX2_takesSign_40 (by omega) ?_
  refine v_callVv (kR_drop E Mz (by omega) (by omega) hv hP) dX2_takesSign_41 cX2_77 rfl sh_33 rfl (by decide) (Nat.le_of_ble_eq_true rfl) rfl (fun M1z hq => ?_)
  obtain ⟨hq1, hq2⟩ := hq
  refine v_ild1 dX2_takesSign_44 ?_
  refine v_iconstN (n := 3) dX2_takesSign_45 ?_
  refine v_icmpN_ne (tgt := 59) dX2_takesSign_46 (by decide) (by omega) (by omega) (fun h46 => ?_) (fun h46 => absurd h46 (fun q => h3v q))
  refine v_ald0 dX2_takesSign_59 ?_
  refine v_ald0 dX2_takesSign_60 ?_
  refine v_geti dX2_takesSign_61 gX2_59 sh_33 rfl ?_
  refine v_eq (show M1z 33 3 = nI (tp t.2.1) from by rw [hq2.2.1 3 (by decide), hS.1]; unfold tkC; rw [h3]; exact sb_lo hb) ?_
  refine v_callVv (kR_push E M1z (h := (drL (v - 1) o u).1.length) hq1.1 (by omega)) dX2_takesSign_64 cX2_112 rfl sh_33 rfl (by decide) (Nat.le_of_ble_eq_true rfl) rfl (fun M2z hq3 => ?_)
  rw [hq3]
  clear hq3
  refine v_iconstN (n := 1) dX2_takesSign_67 ?_
  exact v_zret dX2_takesSign_68 rfl (by decide +kernel) (⟨rfl, PsC_push hq1 n40 n33, (hq2.w37).w33 (by decide)⟩)
set_option maxRecDepth 100000 in
set_option maxHeartbeats 4000000 in
theorem kR_sg3 (E : ev) (Mz : mm) {tp : Nat → Nat} {t : tok} (hS : ScC Mz tp t) {o : List Nat} {u : List Int32} {lv : Nat} (hP : PsC Mz o u lv) (h96 : o.length + u.length < 96) (hv : ∀ s ∈ o, s < 128) (hs : seg o 6) (h40 : ct 40 o ≤ 8) (h3 : t.1 = 3) (hlv : lev (tp t.2.1) = 3)  : Ct E 4 yX2_takesSign cX2_takesSign 2 (some .boolean) [.inr 33] Mz (qI E (fun r M' => match pN tp t o u lv with | none => r = nI 0 ∧ FrP Mz M' | some q => r = nI 1 ∧ PsC M' q.2.1 q.2.2.1 q.2.2.2 ∧ FrP Mz M')) := by
  refine ct_of (by decide) (Nat.le_of_ble_eq_true rfl) ?_
  show V E 4 _ _ _ _ _ 0 [some (.inr 33), none] [] Mz
  have hb : tp t.2.1 < 128 := lev_lt (by omega)
  have hv5 := lev_le (tp t.2.1)
  have n41 : tp t.2.1 ≠ 41 := by intro e; rw [e] at hlv; exact absurd hlv (by decide)
  have n40 : tp t.2.1 ≠ 40 := by intro e; rw [e] at hlv; exact absurd hlv (by decide)
  have n33 : tp t.2.1 ≠ 33 := by intro e; rw [e] at hlv; exact absurd hlv (by decide)
  have hlen := drL_len (3) o u
  have hpn : pN tp t o u lv = (if 3 = 3 ∧ tpl (drL (3) o u).1 = 3 then none else some (true, tp t.2.1 :: (drL (3) o u).1, (drL (3) o u).2, lv)) := by unfold pN; rw [if_neg (fun q => n41 q.2.1), if_pos ⟨h3, by omega⟩, hlv]; rfl
  have htl : tpl (drL 3 o u).1 ≤ 5 := by cases (drL 3 o u).1 with | nil => exact Nat.zero_le _ | cons a b => exact lev_le a
  by_cases ht3 : tpl (drL 3 o u).1 = 3
  · rw [hpn, if_pos ⟨rfl, ht3⟩]
    refine v_ald0 dX2_takesSign_0 ?_
    refine v_geti dX2_takesSign_1 gX2_59 sh_33 rfl ?_
    refine v_eq (show Mz 33 3 = nI (tp t.2.1) from by rw [hS.1]; unfold tkC; rw [h3]; exact sb_lo hb) ?_
    refine v_bipushN (n := 41) dX2_takesSign_4 (by decide) ?_
    refine v_icmp_ne (tgt := 14) dX2_takesSign_6 (by decide) (fun h6 => ?_) (fun h6 => absurd h6 (fun q => n41 ((nI_eq (by omega) (by decide)).mp q)))
    refine v_ald0 dX2_takesSign_14 ?_
    refine v_geti dX2_takesSign_15 gX2_59 sh_33 rfl ?_
    refine v_eq (show Mz 33 3 = nI (tp t.2.1) from by rw [hS.1]; unfold tkC; rw [h3]; exact sb_lo hb) ?_
    refine v_callSi (kR_levelOf E Mz) dX2_takesSign_18 cX2_73 rfl (by decide) (Nat.le_of_ble_eq_true rfl) rfl (fun r M1z hq => ?_)
    obtain ⟨hr1, hm⟩ := hq
    rw [hr1, hm, levnD ⟨tp t.2.1, hb⟩, hlv]
    clear hr1 hm
    refine v_ist1 dX2_takesSign_21 (by decide) ?_
    refine v_ild1 dX2_takesSign_22 ?_
    refine v_if_ne (tgt := 28) dX2_takesSign_23 (by decide) (fun h23 => ?_) (fun h23 => absurd h23 (nI_ne0 (by omega) (by omega)))
    refine v_ald0 dX2_takesSign_28 ?_
    refine v_ild1 dX2_takesSign_29 ?_
    refine v_iconstN (n := 3) dX2_takesSign_30 ?_
    refine v_icmpN_ne (tgt := 38) dX2_takesSign_31 (by decide) (by omega) (by omega) (fun h31 => absurd h31 (fun q => q rfl)) (fun h31 => ?_)
    refine v_iconstN (n := 3) dX2_takesSign_34 ?_
    refine v_goto (tgt := 41) dX2_takesSign_35 (by decide) ?_
    refine v_callVv (kR_drop E Mz (by decide) (by omega) hv hP) dX2_takesSign_41 cX2_77 rfl sh_33 rfl (by decide) (Nat.le_of_ble_eq_true rfl) rfl (fun M1z hq => ?_)
    obtain ⟨hq1, hq2⟩ := hq
    refine v_ild1 dX2_takesSign_44 ?_
    refine v_iconstN (n := 3) dX2_takesSign_45 ?_
    refine v_icmpN_ne (tgt := 59) dX2_takesSign_46 (by decide) (by omega) (by omega) (fun h46 => absurd h46 (fun q => q rfl)) (fun h46 => ?_)
    refine v_ald0 dX2_takesSign_49 ?_
    refine v_callVi (kR_top E M1z hq1.1 (by omega) hq1.2.1 (drL_v hv)) dX2_takesSign_50 cX2_140 rfl sh_33 rfl (by decide) (Nat.le_of_ble_eq_true rfl) rfl (fun r3 M3z hq4 => ?_)
    obtain ⟨hr4, hm4⟩ := hq4
    rw [hr4, hm4]
    clear hr4 hm4
    refine v_iconstN (n := 3) dX2_takesSign_53 ?_
    refine v_icmpN_ne (tgt := 59) dX2_takesSign_54 (by decide) (by omega) (by omega) (fun h54 => absurd h54 (fun q => q ht3)) (fun h54 => ?_)
    refine v_iconstN (n := 0) dX2_takesSign_57 ?_
    exact v_zret dX2_takesSign_58 rfl (by decide +kernel) (⟨rfl, hq2⟩)
  · rw [hpn, if_neg (fun q => ht3 q.2)]
    refine v_ald0 dX2_takesSign_0 ?_
    refine v_geti dX2_takesSign_1 gX2_59 sh_33 rfl ?_
    refine v_eq (show Mz 33 3 = nI (tp t.2.1) from by rw [hS.1]; unfold tkC; rw [h3]; exact sb_lo hb) ?_
    refine v_bipushN (n := 41) dX2_takesSign_4 (by decide) ?_
    refine v_icmp_ne (tgt := 14) dX2_takesSign_6 (by decide) (fun h6 => ?_) (fun h6 => absurd h6 (fun q => n41 ((nI_eq (by omega) (by decide)).mp q)))
    refine v_ald0 dX2_takesSign_14 ?_
    refine v_geti dX2_takesSign_15 gX2_59 sh_33 rfl ?_
    refine v_eq (show Mz 33 3 = nI (tp t.2.1) from by rw [hS.1]; unfold tkC; rw [h3]; exact sb_lo hb) ?_
    refine v_callSi (kR_levelOf E Mz) dX2_takesSign_18 cX2_73 rfl (by decide) (Nat.le_of_ble_eq_true rfl) rfl (fun r M1z hq => ?_)
    obtain ⟨hr1, hm⟩ := hq
    rw [hr1, hm, levnD ⟨tp t.2.1, hb⟩, hlv]
    clear hr1 hm
    refine v_ist1 dX2_takesSign_21 (by decide) ?_
    refine v_ild1 dX2_takesSign_22 ?_
    refine v_if_ne (tgt := 28) dX2_takesSign_23 (by decide) (fun h23 => ?_) (fun h23 => absurd h23 (nI_ne0 (by omega) (by omega)))
    refine v_ald0 dX2_takesSign_28 ?_
    refine v_ild1 dX2_takesSign_29 ?_
    refine v_iconstN (n := 3) dX2_takesSign_30 ?_
    refine v_icmpN_ne (tgt := 38) dX2_takesSign_31 (by decide) (by omega) (by omega) (fun h31 => absurd h31 (fun q => q rfl)) (fun h31 => ?_)
    refine v_iconstN (n := 3) dX2_takesSign_34 ?_
    refine v_goto (tgt := 41) dX2_takesSign_35 (by decide) ?_
    refine v_callVv (kR_drop E Mz (by decide) (by omega) hv hP) dX2_takesSign_41 cX2_77 rfl sh_33 rfl (by decide) (Nat.le_of_ble_eq_true rfl) rfl (fun M1z hq => ?_)
    obtain ⟨hq1, hq2⟩ := hq
    refine v_ild1 dX2_takesSign_44 ?_
    refine v_iconstN (n := 3) dX2_takesSign_45 ?_
    refine v_icmpN_ne (tgt := 59) dX2_takesSign_46 (by decide) (by omega) (by omega) (fun h46 => absurd h46 (fun q => q rfl)) (fun h46 => ?_)
    refine v_ald0 dX2_takesSign_49 ?_
    refine v_callVi (kR_top E M1z hq1.1 (by omega) hq1.2.1 (drL_v hv)) dX2_takesSign_50 cX2_140 rfl sh_33 rfl (by decide) (Nat.le_of_ble_eq_true rfl) rfl (fun r3 M3z hq4 => ?_)
    obtain ⟨hr4, hm4⟩ := hq4
    rw [hr4, hm4]
    clear hr4 hm4
    refine v_iconstN (n := 3) dX2_takesSign_53 ?_
    refine v_icmpN_ne (tgt := 59) dX2_takesSign_54 (by decide) (by omega) (by omega) (fun h54 => ?_) (fun h54 => absurd h54 (fun q => ht3 q))
    refine v_ald0 dX2_takesSign_59 ?_
    refine v_ald0 dX2_takesSign_60 ?_
    refine v_geti dX2_takesSign_61 gX2_59 sh_33 rfl ?_
    refine v_eq (show M1z 33 3 = nI (tp t.2.1) from by rw [hq2.2.1 3 (by decide), hS.1]; unfold tkC; rw [h3]; exact sb_lo hb) ?_
    refine v_callVv (kR_push E M1z (h := (drL 3 o u).1.length) hq1.1 (by omega)) dX2_takesSign_64 cX2_112 rfl sh_33 rfl (by decide) (Nat.le_of_ble_eq_true rfl) rfl (fun M2z hq3 => ?_)
    rw [hq3]
    clear hq3
    refine v_iconstN (n := 1) dX2_takesSign_67 ?_
    exact v_zret dX2_takesSign_68 rfl (by decide +kernel) (⟨rfl, PsC_push hq1 n40 n33, (hq2.w37).w33 (by decide)⟩)
theorem kR_takesSign (E : ev) (Mz : mm) {tp : Nat → Nat} {t : tok} (hS : ScC Mz tp t) {o : List Nat} {u : List Int32} {lv : Nat} (hP : PsC Mz o u lv) (h96 : o.length + u.length < 96) (hv : ∀ s ∈ o, s < 128) (hs : seg o 6) (h40 : ct 40 o ≤ 8) (hb : t.1 = 3 → tp t.2.1 < 256) (h0 : t.1 ≠ 0) (h4 : t.1 ≤ 4) : Ct E 4 yX2_takesSign cX2_takesSign 2 (some .boolean) [.inr 33] Mz (qI E (fun r M' => match pN tp t o u lv with | none => r = nI 0 ∧ FrP Mz M' | some q => r = nI 1 ∧ PsC M' q.2.1 q.2.2.1 q.2.2.2 ∧ FrP Mz M')) := by
  by_cases c3 : t.1 = 3
  · have ht : tkC tp t = sb (tp t.2.1) := by unfold tkC; rw [c3]; rfl
    by_cases b41 : tp t.2.1 = 41
    · exact kR_sg41 E Mz hS hP h96 hv hs h40 c3 b41
    by_cases hl : lev (tp t.2.1) = 0
    · refine kR_sg0 E Mz hS (by rw [ht]; exact fun z => b41 ((sb_eq (hb c3) (by decide)).mp z)) (by rw [ht, levsD ⟨_, hb c3⟩]; exact hl) ?_
      unfold pN
      rw [if_neg (fun q => b41 q.2.1), if_neg (fun q => by omega)]
    by_cases hl3 : lev (tp t.2.1) = 3
    · exact kR_sg3 E Mz hS hP h96 hv hs h40 c3 hl3
    · exact kR_sgN E Mz hS hP h96 hv hs h40 c3 rfl (by omega) hl3
  · have hno : pN tp t o u lv = none := by
      unfold pN
      rw [if_neg (fun q => c3 q.1), if_neg (fun q => c3 q.1)]
    rcases (show t.1 = 1 ∨ t.1 = 2 ∨ t.1 = 4 by omega) with e | e | e
    · have ht : tkC tp t = nI 1001 := by unfold tkC; rw [e]; rfl
      exact kR_sg0 E Mz hS (by rw [ht]; decide) (by rw [ht]; decide) hno
    · have ht : tkC tp t = nI 1002 := by unfold tkC; rw [e]; rfl
      exact kR_sg0 E Mz hS (by rw [ht]; decide) (by rw [ht]; decide) hno
    · have ht : tkC tp t = nI 1003 := by unfold tkC; rw [e]; rfl
      exact kR_sg0 E Mz hS (by rw [ht]; decide) (by rw [ht]; decide) hno
set_option maxRecDepth 100000 in
set_option maxHeartbeats 4000000 in
theorem kR_fin1 (E : ev) (Mz : mm) {o : List Nat} {u : List Int32} {lv : Nat} (hP : PsC Mz o u lv) (h96 : o.length + u.length ≤ 96) (hv : ∀ s ∈ o, s < 128) (h0 : ct 40 o = 0) : Ct E 3 yX2_finished cX2_finished 2 (some .boolean) [.inr 33, .inl (b2 false)] Mz (qI E (fun r M' => r = nI 1 ∧ PsC M' (drL 0 o u).1 (drL 0 o u).2 lv ∧ FrP Mz M')) := by
  refine ct_of (by decide) (Nat.le_of_ble_eq_true rfl) ?_
  show V E 3 _ _ _ _ _ 0 [some (.inr 33), some (.inl (b2 false))] [] Mz
  refine v_ild1 dX2_finished_0 ?_
  refine v_if_ne (tgt := 11) dX2_finished_1 (by decide) (fun h1 => absurd h1 (fun q => q rfl)) (fun h1 => ?_)
  refine v_ald0 dX2_finished_4 ?_
  refine v_geti dX2_finished_5 gX2_39 sh_33 rfl ?_
  refine v_eq (show Mz 33 9 = nI 0 from by rw [hP.2.2.1, h0]) ?_
  refine v_if_le (tgt := 13) dX2_finished_8 (by decide) (fun h8 => ?_) (fun h8 => absurd h8 (fun q => q (by decide)))
  refine v_ald0 dX2_finished_13 ?_
  refine v_iconstN (n := 0) dX2_finished_14 ?_
  refine v_callVv (kR_drop E Mz (by decide) h96 hv hP) dX2_finished_15 cX2_77 rfl sh_33 rfl (by decide) (Nat.le_of_ble_eq_true rfl) rfl (fun M1z hq => ?_)
  refine v_iconstN (n := 1) dX2_finished_18 ?_
  exact v_zret dX2_finished_19 rfl (by decide +kernel) (⟨rfl, hq⟩)
set_option maxRecDepth 100000 in
set_option maxHeartbeats 4000000 in
theorem kR_fin0 (E : ev) (Mz : mm) {o : List Nat} {u : List Int32} {lv : Nat} (hP : PsC Mz o u lv) (h40 : ct 40 o ≤ 8) (h0 : ct 40 o ≠ 0) : Ct E 3 yX2_finished cX2_finished 2 (some .boolean) [.inr 33, .inl (b2 false)] Mz (qI E (fun r M' => r = nI 0 ∧ FrP Mz M')) := by
  refine ct_of (by decide) (Nat.le_of_ble_eq_true rfl) ?_
  show V E 3 _ _ _ _ _ 0 [some (.inr 33), some (.inl (b2 false))] [] Mz
  refine v_ild1 dX2_finished_0 ?_
  refine v_if_ne (tgt := 11) dX2_finished_1 (by decide) (fun h1 => absurd h1 (fun q => q rfl)) (fun h1 => ?_)
  refine v_ald0 dX2_finished_4 ?_
  refine v_geti dX2_finished_5 gX2_39 sh_33 rfl ?_
  refine v_eq (show Mz 33 9 = nI (ct 40 o) from hP.2.2.1) ?_
  refine v_if_le (tgt := 13) dX2_finished_8 (by decide) (fun h8 => absurd h8 (nI_nle (by omega) (by omega))) (fun h8 => ?_)
  refine v_iconstN (n := 0) dX2_finished_11 ?_
  exact v_zret dX2_finished_12 rfl (by decide +kernel) (⟨rfl, FrP.refl Mz⟩)
set_option maxRecDepth 100000 in
set_option maxHeartbeats 4000000 in
theorem kR_finW (E : ev) (Mz : mm)  : Ct E 3 yX2_finished cX2_finished 2 (some .boolean) [.inr 33, .inl (b2 true)] Mz (qI E (fun r M' => r = nI 0 ∧ FrP Mz M')) := by
  refine ct_of (by decide) (Nat.le_of_ble_eq_true rfl) ?_
  show V E 3 _ _ _ _ _ 0 [some (.inr 33), some (.inl (b2 true))] [] Mz
  refine v_ild1 dX2_finished_0 ?_
  refine v_if_ne (tgt := 11) dX2_finished_1 (by decide) (fun h1 => ?_) (fun h1 => absurd h1 (by decide))
  refine v_iconstN (n := 0) dX2_finished_11 ?_
  exact v_zret dX2_finished_12 rfl (by decide +kernel) (⟨rfl, FrP.refl Mz⟩)
