/-! pieces and signs, as the Reader takes them -/
theorem sbbtD : ∀ i : Fin 6, ∀ k : Fin 6, ∀ b : Fin 256, (sb b.val = btS i.val k.val ↔ nI b.val = btS i.val k.val) := by decide +kernel
theorem sb_bt {i k b : Nat} (hi : i < 6) (hk : k < 6) (hb : b < 256) : sb b = btS i k ↔ nI b = btS i k := sbbtD ⟨i, hi⟩ ⟨k, hk⟩ ⟨b, hb⟩
theorem sb_big : ∀ b : Fin 256, sb b.val ≠ nI 1000 ∧ sb b.val ≠ nI 1001 ∧ sb b.val ≠ nI 1002 ∧ sb b.val ≠ nI 1003 := by decide +kernel
theorem allK_f {P : Nat → Bool} {k : Nat} (h : P k = false) : ∀ n, k < n → allK P n = false
  | 0, q => by omega
  | n + 1, q => by
    unfold allK
    by_cases e : k = n
    · rw [← e, h, Bool.and_false]
    · rw [allK_f h n (by omega), Bool.false_and]
abbrev wP (tp : Nat → Nat) (s i : Nat) : Nat → Bool := fun j => decide (nI (tp (s + j)) = btS i j)
set_option maxRecDepth 100000 in
set_option maxHeartbeats 4000000 in
theorem kR_isWord (E : ev) (Mz : mm) {tp : Nat → Nat} {n : Nat} {i s e : Nat} (hi : i < 6) (hT : TpC Mz tp n) (h4 : Mz 33 4 = nI s) (h5 : Mz 33 5 = nI e) (hse : s ≤ e) (hen : e ≤ n) : Ct E 4 yX2_isWord cX2_isWord 3 (some .boolean) [.inr 33, .inr (210 + i)] Mz (qI E (fun r M' => r = b2 (wmB tp s e i) ∧ M' = Mz)) := by
  refine ct_of (by decide) (Nat.le_of_ble_eq_true rfl) ?_
  show V E 4 _ _ _ _ _ 0 [some (.inr 33), some (.inr (210 + i)), none] [] Mz
  have hln := ln_ok hi
  have hn96 := hT.2.1
  refine v_ald0 dX2_isWord_0 ?_
  refine v_geti dX2_isWord_1 gX2_30 sh_33 rfl ?_
  refine v_eq (h5) ?_
  refine v_ald0 dX2_isWord_4 ?_
  refine v_geti dX2_isWord_5 gX2_52 sh_33 rfl ?_
  refine v_eq (h4) ?_
  refine v_isubN dX2_isWord_8 (hse) ?_
  refine v_ald1 dX2_isWord_9 ?_
  refine v_callVsi (kJ_length E Mz hi) hi dX2_isWord_10 cX2_97 rfl rfl (by decide) (Nat.le_of_ble_eq_true rfl) rfl (fun r M1z hq => ?_)
  obtain ⟨hr, hm⟩ := hq
  rw [hr, hm]
  clear hr hm
  refine v_icmpN_eq (tgt := 18) dX2_isWord_13 (by decide) (by omega) (by omega) (fun h13 => ?_) (fun h13 => ?_)
  · refine v_iconstN (n := 0) dX2_isWord_18 ?_
    refine v_ist2 dX2_isWord_19 (by decide) ?_
    refine v_loopQ (pc := 20) (fun k => [some (.inr 33), some (.inr (210 + i)), some (.inl (nI k))]) (fun k => allK (wP tp s i) k = true) (lnS i) (rfl) (rfl) (fun k hk hrs ih => ?_) (fun hrs => ?_)
    · refine v_ild2 dX2_isWord_20 ?_
      refine v_ald1 dX2_isWord_21 ?_
      refine v_callVsi (kJ_length E Mz hi) hi dX2_isWord_22 cX2_97 rfl rfl (by decide) (Nat.le_of_ble_eq_true rfl) rfl (fun r M1z hq => ?_)
      obtain ⟨hr, hm⟩ := hq
      rw [hr, hm]
      clear hr hm
      refine v_icmpN_ge (tgt := 55) dX2_isWord_25 (by decide) (by omega) (by omega) (fun h25 => absurd h25 (by omega)) (fun h25 => ?_)
      refine v_ald0 dX2_isWord_28 ?_
      refine v_getr dX2_isWord_29 gX2_9 sh_33 rfl ?_
      refine v_ald0 dX2_isWord_32 ?_
      refine v_geti dX2_isWord_33 gX2_52 sh_33 rfl ?_
      refine v_eq (h4) ?_
      refine v_ild2 dX2_isWord_36 ?_
      refine v_iaddN dX2_isWord_37 ?_
      refine v_baldN dX2_isWord_38 sh_34 (by omega) (by decide) ?_
      refine v_eq (show Mz 34 (s + k) = sb (tp (s + k)) from (hT.2.2 (s + k) (by omega)).1) ?_
      refine v_ald1 dX2_isWord_39 ?_
      refine v_ild2 dX2_isWord_40 ?_
      refine v_callVsi (kJ_charAt E Mz hi hk) hi dX2_isWord_41 cX2_102 rfl rfl (by decide) (Nat.le_of_ble_eq_true rfl) rfl (fun r M1z hq => ?_)
      obtain ⟨hr, hm⟩ := hq
      rw [hr, hm]
      clear hr hm
      refine v_icmp_eq (tgt := 49) dX2_isWord_44 (by decide) (fun h44 => ?_) (fun h44 => ?_)
      · refine v_iincN2 (n := 1) dX2_isWord_49 (by decide) ?_
        refine v_goto (tgt := 20) dX2_isWord_52 (by decide) ?_
        exact ih (by show (allK (wP tp s i) k && wP tp s i k) = true; rw [hrs, show wP tp s i k = true from decide_eq_true ((sb_bt hi (by omega) (hT.2.2 (s + k) (by omega)).2).mp h44)]; rfl)
      · refine v_iconstN (n := 0) dX2_isWord_47 ?_
        exact v_zret dX2_isWord_48 rfl (by decide +kernel) (⟨by unfold wmB; rw [allK_f (P := wP tp s i) (k := k) (decide_eq_false (fun z => h44 ((sb_bt hi (by omega) (hT.2.2 (s + k) (by omega)).2).mpr z))) _ hk, Bool.and_false]; rfl, rfl⟩)
    · refine v_ild2 dX2_isWord_20 ?_
      refine v_ald1 dX2_isWord_21 ?_
      refine v_callVsi (kJ_length E Mz hi) hi dX2_isWord_22 cX2_97 rfl rfl (by decide) (Nat.le_of_ble_eq_true rfl) rfl (fun r M1z hq => ?_)
      obtain ⟨hr, hm⟩ := hq
      rw [hr, hm]
      clear hr hm
      refine v_icmpN_ge (tgt := 55) dX2_isWord_25 (by decide) (by omega) (by omega) (fun h25 => ?_) (fun h25 => absurd h25 (by omega))
      refine v_iconstN (n := 1) dX2_isWord_55 ?_
      exact v_zret dX2_isWord_56 rfl (by decide +kernel) (⟨by unfold wmB; rw [decide_eq_true h13, show allK (wP tp s i) (lnS i) = true from hrs]; rfl, rfl⟩)
  · refine v_iconstN (n := 0) dX2_isWord_16 ?_
    exact v_zret dX2_isWord_17 rfl (by decide +kernel) (⟨by unfold wmB; rw [decide_eq_false h13, Bool.false_and]; rfl, rfl⟩)
set_option maxRecDepth 100000 in
set_option maxHeartbeats 4000000 in
theorem kR_key1 (E : ev) (Mz : mm) {tp : Nat → Nat} {n : Nat} {t : tok} (hT : TpC Mz tp n) (hS : ScC Mz tp t) (hse : t.2.1 ≤ t.2.2.1) (hen : t.2.2.1 ≤ n) (h1 : t.1 = 1) : Ct E 5 yX2_keyRead cX2_keyRead 1 (some .int) [.inr 33] Mz (qI E (fun r M' => r = (if keyT tp t = 3 then -1 else nI (keyT tp t)) ∧ M' = Mz)) := by
  refine ct_of (by decide) (Nat.le_of_ble_eq_true rfl) ?_
  show V E 5 _ _ _ _ _ 0 [some (.inr 33)] [] Mz
  refine v_ald0 dX2_keyRead_0 ?_
  refine v_geti dX2_keyRead_1 gX2_59 sh_33 rfl ?_
  refine v_eq (show Mz 33 3 = nI 1001 from by rw [hS.1]; unfold tkC; rw [h1]; rfl) ?_
  refine v_sipushN (n := 1001) dX2_keyRead_4 (by decide +kernel) ?_
  refine v_icmp_eq (tgt := 12) dX2_keyRead_7 (by decide) (fun h7 => ?_) (fun h7 => absurd h7 (fun q => q rfl))
  refine v_ald0 dX2_keyRead_12 ?_
  refine v_ldcS (q := 0) dX2_keyRead_13 (fun s h => h.1) ?_
  refine v_callVi (kR_isWord E Mz (i := 0) (by decide) hT hS.2.1 hS.2.2.1 hse hen) dX2_keyRead_15 cX2_89 rfl sh_33 rfl (by decide) (Nat.le_of_ble_eq_true rfl) rfl (fun r M1z hq => ?_)
  obtain ⟨hr, hm⟩ := hq
  rw [hr, hm]
  clear hr hm
  refine v_if_eq (tgt := 23) dX2_keyRead_18 (by decide) (fun h18 => ?_) (fun h18 => ?_)
  · refine v_ald0 dX2_keyRead_23 ?_
    refine v_ldcS (q := 1) dX2_keyRead_24 (fun s h => h.2.1) ?_
    refine v_callVi (kR_isWord E Mz (i := 1) (by decide) hT hS.2.1 hS.2.2.1 hse hen) dX2_keyRead_26 cX2_89 rfl sh_33 rfl (by decide) (Nat.le_of_ble_eq_true rfl) rfl (fun r M1z hq => ?_)
    obtain ⟨hr, hm⟩ := hq
    rw [hr, hm]
    clear hr hm
    refine v_if_eq (tgt := 34) dX2_keyRead_29 (by decide) (fun h29 => ?_) (fun h29 => ?_)
    · refine v_ald0 dX2_keyRead_34 ?_
      refine v_ldcS (q := 2) dX2_keyRead_35 (fun s h => h.2.2.1) ?_
      refine v_callVi (kR_isWord E Mz (i := 2) (by decide) hT hS.2.1 hS.2.2.1 hse hen) dX2_keyRead_37 cX2_89 rfl sh_33 rfl (by decide) (Nat.le_of_ble_eq_true rfl) rfl (fun r M1z hq => ?_)
      obtain ⟨hr, hm⟩ := hq
      rw [hr, hm]
      clear hr hm
      refine v_if_eq (tgt := 47) dX2_keyRead_40 (by decide) (fun h40 => ?_) (fun h40 => ?_)
      · refine v_iconst (x := -1) dX2_keyRead_47 (by decide) ?_
        exact v_iret dX2_keyRead_48 rfl (⟨by rw [show keyT tp t = 3 from by unfold keyT; rw [if_pos h1, if_neg (show ¬ wmB tp t.2.1 t.2.2.1 0 = true by rw [b2_0.mp h18]; decide), if_neg (show ¬ wmB tp t.2.1 t.2.2.1 1 = true by rw [b2_0.mp h29]; decide), if_neg (show ¬ wmB tp t.2.1 t.2.2.1 2 = true by rw [b2_0.mp h40]; decide)]]; rfl, rfl⟩)
      · refine v_iconstN (n := 2) dX2_keyRead_43 ?_
        refine v_goto (tgt := 48) dX2_keyRead_44 (by decide) ?_
        exact v_iret dX2_keyRead_48 rfl (⟨by rw [show keyT tp t = 2 from by unfold keyT; rw [if_pos h1, if_neg (show ¬ wmB tp t.2.1 t.2.2.1 0 = true by rw [b2_0.mp h18]; decide), if_neg (show ¬ wmB tp t.2.1 t.2.2.1 1 = true by rw [b2_0.mp h29]; decide), if_pos (b2_1.mp h40)]]; rfl, rfl⟩)
    · refine v_iconstN (n := 1) dX2_keyRead_32 ?_
      exact v_iret dX2_keyRead_33 rfl (⟨by rw [show keyT tp t = 1 from by unfold keyT; rw [if_pos h1, if_neg (show ¬ wmB tp t.2.1 t.2.2.1 0 = true by rw [b2_0.mp h18]; decide), if_pos (b2_1.mp h29)]]; rfl, rfl⟩)
  · refine v_iconstN (n := 0) dX2_keyRead_21 ?_
    exact v_iret dX2_keyRead_22 rfl (⟨by rw [show keyT tp t = 0 from by unfold keyT; rw [if_pos h1, if_pos (b2_1.mp h18)]]; rfl, rfl⟩)
theorem tk_not {tp : Nat → Nat} {t : tok} (h : t.1 ≠ 1) (hb : t.1 = 3 → tp t.2.1 < 256) (h4 : t.1 ≤ 4) : tkC tp t ≠ nI 1001 := by
  unfold tkC
  rcases (show t.1 = 0 ∨ t.1 = 2 ∨ t.1 = 3 ∨ t.1 = 4 by omega) with e | e | e | e <;> rw [e]
  · exact (show nI 1000 ≠ nI 1001 by decide)
  · exact (show nI 1002 ≠ nI 1001 by decide)
  · exact (sb_big ⟨tp t.2.1, hb e⟩).2.1
  · exact (show nI 1003 ≠ nI 1001 by decide)
set_option maxRecDepth 100000 in
set_option maxHeartbeats 4000000 in
theorem kR_key0 (E : ev) (Mz : mm) {tp : Nat → Nat} {n : Nat} {t : tok} (hS : ScC Mz tp t) (h1 : t.1 ≠ 1) (hb : t.1 = 3 → tp t.2.1 < 256) (h4 : t.1 ≤ 4) : Ct E 5 yX2_keyRead cX2_keyRead 1 (some .int) [.inr 33] Mz (qI E (fun r M' => r = (if keyT tp t = 3 then -1 else nI (keyT tp t)) ∧ M' = Mz)) := by
  refine ct_of (by decide) (Nat.le_of_ble_eq_true rfl) ?_
  show V E 5 _ _ _ _ _ 0 [some (.inr 33)] [] Mz
  refine v_ald0 dX2_keyRead_0 ?_
  refine v_geti dX2_keyRead_1 gX2_59 sh_33 rfl ?_
  refine v_eq (hS.1) ?_
  refine v_sipushN (n := 1001) dX2_keyRead_4 (by decide +kernel) ?_
  refine v_icmp_eq (tgt := 12) dX2_keyRead_7 (by decide) (fun h7 => absurd h7 (tk_not h1 hb h4)) (fun h7 => ?_)
  refine v_iconst (x := -1) dX2_keyRead_10 (by decide) ?_
  exact v_iret dX2_keyRead_11 rfl (⟨by rw [show keyT tp t = 3 from by unfold keyT; rw [if_neg h1]]; rfl, rfl⟩)
theorem kR_key (E : ev) (Mz : mm) {tp : Nat → Nat} {n : Nat} {t : tok} (hT : TpC Mz tp n) (hS : ScC Mz tp t) (hse : t.2.1 ≤ t.2.2.1) (hen : t.2.2.1 ≤ n) (hb : t.1 = 3 → tp t.2.1 < 256) (h4 : t.1 ≤ 4) : Ct E 5 yX2_keyRead cX2_keyRead 1 (some .int) [.inr 33] Mz (qI E (fun r M' => r = (if keyT tp t = 3 then -1 else nI (keyT tp t)) ∧ M' = Mz)) := by
  by_cases h1 : t.1 = 1
  · exact kR_key1 E Mz hT hS hse hen h1
  · exact kR_key0 E Mz (n := n) hS h1 hb h4
set_option maxRecDepth 100000 in
set_option maxHeartbeats 4000000 in
theorem kR_num1 (E : ev) (Mz : mm) {tp : Nat → Nat} {n : Nat} {t : tok} (hT : TpC Mz tp n) (hS : ScC Mz tp t) (hse : t.2.1 ≤ t.2.2.1) (hen : t.2.2.1 ≤ n) {o : List Nat} {u : List Int32} {lv : Nat} (hP : PsC Mz o u lv) (h96 : o.length + u.length < 96) (hv : ∀ s ∈ o, s < 128) (hd : ∀ j, t.2.1 ≤ j → j < t.2.2.1 → isDi (tp j) = true) (hlen : t.2.2.1 - t.2.1 ≤ 4) : Ct E 2 yX2_takesNumber cX2_takesNumber 3 (some .boolean) [.inr 33] Mz (qI E (fun r M' => r = nI 1 ∧ PsC M' (drN o (nI (numK tp t.2.1 (t.2.2.1 - t.2.1)) :: u)).1 (drN o (nI (numK tp t.2.1 (t.2.2.1 - t.2.1)) :: u)).2 (lv + 1) ∧ FrP Mz M')) := by
  refine ct_of (by decide) (Nat.le_of_ble_eq_true rfl) ?_
  show V E 2 _ _ _ _ _ 0 [some (.inr 33), none, none] [] Mz
  have hn96 := hT.2.1
  refine v_ald0 dX2_takesNumber_0 ?_
  refine v_geti dX2_takesNumber_1 gX2_30 sh_33 rfl ?_
  refine v_eq (hS.2.2.1) ?_
  refine v_ald0 dX2_takesNumber_4 ?_
  refine v_geti dX2_takesNumber_5 gX2_52 sh_33 rfl ?_
  refine v_eq (hS.2.1) ?_
  refine v_isubN dX2_takesNumber_8 (hse) ?_
  refine v_iconstN (n := 4) dX2_takesNumber_9 ?_
  refine v_icmpN_le (tgt := 15) dX2_takesNumber_10 (by decide) (by omega) (by omega) (fun h10 => ?_) (fun h10 => absurd h10 (by omega))
  refine v_iconstN (n := 0) dX2_takesNumber_15 ?_
  refine v_ist1 dX2_takesNumber_16 (by decide) ?_
  refine v_ald0 dX2_takesNumber_17 ?_
  refine v_geti dX2_takesNumber_18 gX2_52 sh_33 rfl ?_
  refine v_eq (show Mz 33 4 = nI (t.2.1 + 0) from hS.2.1) ?_
  refine v_ist2 dX2_takesNumber_21 (by decide) ?_
  refine v_loop (pc := 22) (fun j => [some (.inr 33), some (.inl (nI (numK tp t.2.1 j))), some (.inl (nI (t.2.1 + j)))]) (fun _ => Mz) (t.2.2.1 - t.2.1) rfl rfl (fun j hk ih => ?_) ?_
  · have hdj := isDi_lt (hd (t.2.1 + j) (by omega) (by omega))
    have hnl := num_lt (tp := tp) (s := t.2.1) (i := j) (by omega) (fun a h1 h2 => hd a h1 (by omega))
    refine v_ild2 dX2_takesNumber_22 ?_
    refine v_ald0 dX2_takesNumber_23 ?_
    refine v_geti dX2_takesNumber_24 gX2_30 sh_33 rfl ?_
    refine v_eq (hS.2.2.1) ?_
    refine v_icmpN_ge (tgt := 51) dX2_takesNumber_27 (by decide) (by omega) (by omega) (fun h27 => absurd h27 (by omega)) (fun h27 => ?_)
    refine v_ild1 dX2_takesNumber_30 ?_
    refine v_bipushN (n := 10) dX2_takesNumber_31 (by decide) ?_
    refine v_imulN dX2_takesNumber_33 ?_
    refine v_ald0 dX2_takesNumber_34 ?_
    refine v_getr dX2_takesNumber_35 gX2_9 sh_33 rfl ?_
    refine v_ild2 dX2_takesNumber_38 ?_
    refine v_baldN dX2_takesNumber_39 sh_34 (by omega) (by decide) ?_
    refine v_eq (show Mz 34 (t.2.1 + j) = nI (tp (t.2.1 + j)) from by rw [(hT.2.2 (t.2.1 + j) (by omega)).1]; exact sb_lo (by omega)) ?_
    refine v_iaddN dX2_takesNumber_40 ?_
    refine v_bipushN (n := 48) dX2_takesNumber_41 (by decide) ?_
    refine v_isubN dX2_takesNumber_43 (by omega) ?_
    refine v_ist1 dX2_takesNumber_44 (by decide) ?_
    refine v_iincN2 (n := 1) dX2_takesNumber_45 (by decide) ?_
    refine v_goto (tgt := 22) dX2_takesNumber_48 (by decide) ?_
    exact v_lo (by rw [show numK tp t.2.1 (j + 1) = numK tp t.2.1 j * 10 + tp (t.2.1 + j) - 48 from by show numK tp t.2.1 j * 10 + (tp (t.2.1 + j) - 48) = _; omega]; rfl) ih
  · refine v_ild2 dX2_takesNumber_22 ?_
    refine v_ald0 dX2_takesNumber_23 ?_
    refine v_geti dX2_takesNumber_24 gX2_30 sh_33 rfl ?_
    refine v_eq (hS.2.2.1) ?_
    refine v_icmpN_ge (tgt := 51) dX2_takesNumber_27 (by decide) (by omega) (by omega) (fun h27 => ?_) (fun h27 => absurd h27 (by omega))
    refine v_ald0 dX2_takesNumber_51 ?_
    refine v_getr dX2_takesNumber_52 gX2_18 sh_33 rfl ?_
    refine v_ild1 dX2_takesNumber_55 ?_
    refine v_callVv (kT_addLeaf E Mz (n := u.length) (l := lv) hP.2.2.2.2.2.1 hP.2.2.2.2.1 (by omega)) dX2_takesNumber_56 cX2_115 rfl sh_35 rfl (by decide) (Nat.le_of_ble_eq_true rfl) rfl (fun M1z hq => ?_)
    rw [hq]
    clear hq
    refine v_ald0 dX2_takesNumber_59 ?_
    refine v_callVv (kR_dropN E _ (o := o) (u := nI (numK tp t.2.1 (t.2.2.1 - t.2.1)) :: u) (lv := lv + 1) (by simp; omega) hv (PsC_lv (PsC_add _ hP))) dX2_takesNumber_60 cX2_118 rfl sh_33 rfl (by decide) (Nat.le_of_ble_eq_true rfl) rfl (fun M1z hq => ?_)
    refine v_iconstN (n := 1) dX2_takesNumber_63 ?_
    exact v_zret dX2_takesNumber_64 rfl (by decide +kernel) (⟨rfl, hq.1, ((((FrP.refl Mz).w36).w35 (by decide)).w35 (by decide)).trans hq.2⟩)
set_option maxRecDepth 100000 in
set_option maxHeartbeats 4000000 in
theorem kR_num0 (E : ev) (Mz : mm) {tp : Nat → Nat} {n : Nat} {t : tok} (hT : TpC Mz tp n) (hS : ScC Mz tp t) (hse : t.2.1 ≤ t.2.2.1) (hen : t.2.2.1 ≤ n) (hlen : ¬ t.2.2.1 - t.2.1 ≤ 4) : Ct E 2 yX2_takesNumber cX2_takesNumber 3 (some .boolean) [.inr 33] Mz (qI E (fun r M' => r = nI 0 ∧ FrP Mz M')) := by
  refine ct_of (by decide) (Nat.le_of_ble_eq_true rfl) ?_
  show V E 2 _ _ _ _ _ 0 [some (.inr 33), none, none] [] Mz
  have hn96 := hT.2.1
  refine v_ald0 dX2_takesNumber_0 ?_
  refine v_geti dX2_takesNumber_1 gX2_30 sh_33 rfl ?_
  refine v_eq (hS.2.2.1) ?_
  refine v_ald0 dX2_takesNumber_4 ?_
  refine v_geti dX2_takesNumber_5 gX2_52 sh_33 rfl ?_
  refine v_eq (hS.2.1) ?_
  refine v_isubN dX2_takesNumber_8 (hse) ?_
  refine v_iconstN (n := 4) dX2_takesNumber_9 ?_
  refine v_icmpN_le (tgt := 15) dX2_takesNumber_10 (by decide) (by omega) (by omega) (fun h10 => absurd h10 (by omega)) (fun h10 => ?_)
  refine v_iconstN (n := 0) dX2_takesNumber_13 ?_
  exact v_zret dX2_takesNumber_14 rfl (by decide +kernel) (⟨rfl, FrP.refl Mz⟩)
set_option maxRecDepth 100000 in
set_option maxHeartbeats 4000000 in
theorem kR_names_0 (E : ev) (Mz : mm) : Ct E 0 yX2_namesOf cX2_namesOf 1 (some (.object "java/lang/String")) [.inl (nI 0)] Mz (qA E (210 + (3 + 0)) Mz) := by
  refine ct_of (by decide) (Nat.le_of_ble_eq_true rfl) ?_
  show V E 0 _ _ _ _ _ 0 [some (.inl (nI 0))] [] Mz
  refine v_ild0 dX2_namesOf_0 ?_
  refine v_lsw (off := 27) (tgt := 28) dX2_namesOf_1 (by decide) (by decide) (by decide) ?_
  refine v_ldcS (q := 3) dX2_namesOf_28 (fun s h => h.2.2.2.1) ?_
  exact v_aret dX2_namesOf_30 rfl (rfl)
set_option maxRecDepth 100000 in
set_option maxHeartbeats 4000000 in
theorem kR_names_1 (E : ev) (Mz : mm) : Ct E 0 yX2_namesOf cX2_namesOf 1 (some (.object "java/lang/String")) [.inl (nI 1)] Mz (qA E (210 + (3 + 1)) Mz) := by
  refine ct_of (by decide) (Nat.le_of_ble_eq_true rfl) ?_
  show V E 0 _ _ _ _ _ 0 [some (.inl (nI 1))] [] Mz
  refine v_ild0 dX2_namesOf_0 ?_
  refine v_lsw (off := 30) (tgt := 31) dX2_namesOf_1 (by decide) (by decide) (by decide) ?_
  refine v_ldcS (q := 4) dX2_namesOf_31 (fun s h => h.2.2.2.2.1) ?_
  exact v_aret dX2_namesOf_33 rfl (rfl)
set_option maxRecDepth 100000 in
set_option maxHeartbeats 4000000 in
theorem kR_names_2 (E : ev) (Mz : mm) : Ct E 0 yX2_namesOf cX2_namesOf 1 (some (.object "java/lang/String")) [.inl (nI 2)] Mz (qA E (210 + (3 + 2)) Mz) := by
  refine ct_of (by decide) (Nat.le_of_ble_eq_true rfl) ?_
  show V E 0 _ _ _ _ _ 0 [some (.inl (nI 2))] [] Mz
  refine v_ild0 dX2_namesOf_0 ?_
  refine v_lsw (off := 33) (tgt := 34) dX2_namesOf_1 (by decide) (by decide) (by decide) ?_
  refine v_ldcS (q := 5) dX2_namesOf_34 (fun s h => h.2.2.2.2.2) ?_
  exact v_aret dX2_namesOf_36 rfl (rfl)
theorem kR_names (E : ev) (Mz : mm) {key : Nat} (hk : key < 3) : Ct E 0 yX2_namesOf cX2_namesOf 1 (some (.object "java/lang/String")) [.inl (nI key)] Mz (qA E (210 + (3 + key)) Mz) := by
  rcases (show key = 0 ∨ key = 1 ∨ key = 2 by omega) with rfl | rfl | rfl
  · exact kR_names_0 E Mz
  · exact kR_names_1 E Mz
  · exact kR_names_2 E Mz
theorem i2cD : ∀ b : Fin 128, ((sb b.val).toUInt32 % 65536).toInt32 = nI b.val := by decide +kernel
theorem nmIxD : ∀ key : Fin 3, ∀ b : Fin 128, isLe b.val = true → ixR (3 + key.val) (nI b.val) (lnS (3 + key.val)) = (if nmI key.val b.val = 9 then -1 else nI (nmI key.val b.val)) := by decide +kernel
set_option maxRecDepth 100000 in
set_option maxHeartbeats 4000000 in
theorem kR_name1 (E : ev) (Mz : mm) {tp : Nat → Nat} {n : Nat} {t : tok} (hT : TpC Mz tp n) (hS : ScC Mz tp t) (hse : t.2.1 ≤ t.2.2.1) (hen : t.2.2.1 ≤ n) {o : List Nat} {u : List Int32} {lv : Nat} (hP : PsC Mz o u lv) (h96 : o.length + u.length < 96) (hv : ∀ s ∈ o, s < 128) {key : Nat} (hk : key < 3) (hk0 : Mz 35 0 = nI key) (hle : isLe (tp t.2.1) = true) (h1 : t.2.2.1 - t.2.1 = 1) (h9 : nmI key (tp t.2.1) ≠ 9) : Ct E 4 yX2_takesName cX2_takesName 2 (some .boolean) [.inr 33] Mz (qI E (fun r M' => r = nI 1 ∧ PsC M' (drN o ((-1 - nI (nmI key (tp t.2.1))) :: u)).1 (drN o ((-1 - nI (nmI key (tp t.2.1))) :: u)).2 (lv + 1) ∧ FrP Mz M')) := by
  refine ct_of (by decide) (Nat.le_of_ble_eq_true rfl) ?_
  show V E 4 _ _ _ _ _ 0 [some (.inr 33), none] [] Mz
  have hn96 := hT.2.1
  have hb128 : tp t.2.1 < 128 := by have := isLe_lt hle; omega
  have hj6 := (nmI_ok hk h9).1
  refine v_ald0 dX2_takesName_0 ?_
  refine v_geti dX2_takesName_1 gX2_30 sh_33 rfl ?_
  refine v_eq (hS.2.2.1) ?_
  refine v_ald0 dX2_takesName_4 ?_
  refine v_geti dX2_takesName_5 gX2_52 sh_33 rfl ?_
  refine v_eq (hS.2.1) ?_
  refine v_isubN dX2_takesName_8 (hse) ?_
  refine v_iconstN (n := 1) dX2_takesName_9 ?_
  refine v_icmpN_ne (tgt := 39) dX2_takesName_10 (by decide) (by omega) (by omega) (fun h10 => absurd h10 (fun q => q h1)) (fun h10 => ?_)
  refine v_ald0 dX2_takesName_13 ?_
  refine v_getr dX2_takesName_14 gX2_18 sh_33 rfl ?_
  refine v_geti dX2_takesName_17 gX2_121 sh_35 rfl ?_
  refine v_eq (hk0) ?_
  refine v_callSr (kR_names E Mz hk) dX2_takesName_20 cX2_124 rfl (by decide) (Nat.le_of_ble_eq_true rfl) rfl ?_
  refine v_ald0 dX2_takesName_23 ?_
  refine v_getr dX2_takesName_24 gX2_9 sh_33 rfl ?_
  refine v_ald0 dX2_takesName_27 ?_
  refine v_geti dX2_takesName_28 gX2_52 sh_33 rfl ?_
  refine v_eq (hS.2.1) ?_
  refine v_baldN dX2_takesName_31 sh_34 (by omega) (by decide) ?_
  refine v_eq (show Mz 34 t.2.1 = sb (tp t.2.1) from (hT.2.2 t.2.1 (by omega)).1) ?_
  refine v_i2c dX2_takesName_32 ?_
  refine v_eq (show ((sb (tp t.2.1)).toUInt32 % 65536).toInt32 = nI (tp t.2.1) from i2cD ⟨tp t.2.1, hb128⟩) ?_
  refine v_callVsi (kJ_indexOf E Mz (i := 3 + key) (by omega) hb128) (show 3 + key < 6 by omega) dX2_takesName_33 cX2_128 rfl rfl (by decide) (Nat.le_of_ble_eq_true rfl) rfl (fun r M1z hq => ?_)
  obtain ⟨hr, hm⟩ := hq
  rw [hr, hm]
  clear hr hm
  rw [nmIxD ⟨key, hk⟩ ⟨tp t.2.1, hb128⟩ hle]
  refine v_goto (tgt := 40) dX2_takesName_36 (by decide) ?_
  refine v_eq (show (if nmI key (tp t.2.1) = 9 then (-1 : Int32) else nI (nmI key (tp t.2.1))) = nI (nmI key (tp t.2.1)) from if_neg h9) ?_
  refine v_ist1 dX2_takesName_40 (by decide) ?_
  refine v_ild1 dX2_takesName_41 ?_
  refine v_if_ge (tgt := 47) dX2_takesName_42 (by decide) (fun h42 => ?_) (fun h42 => absurd h42 (fun q => q (nI_pos' (by omega))))
  refine v_ald0 dX2_takesName_47 ?_
  refine v_getr dX2_takesName_48 gX2_18 sh_33 rfl ?_
  refine v_iconst (x := -1) dX2_takesName_51 (by decide) ?_
  refine v_ild1 dX2_takesName_52 ?_
  refine v_isub dX2_takesName_53 ?_
  refine v_callVv (kT_addLeaf E Mz (n := u.length) (l := lv) hP.2.2.2.2.2.1 hP.2.2.2.2.1 (by omega)) dX2_takesName_54 cX2_115 rfl sh_35 rfl (by decide) (Nat.le_of_ble_eq_true rfl) rfl (fun M1z hq => ?_)
  rw [hq]
  clear hq
  refine v_ald0 dX2_takesName_57 ?_
  refine v_callVv (kR_dropN E _ (o := o) (u := (-1 - nI (nmI key (tp t.2.1))) :: u) (lv := lv + 1) (by simp; omega) hv (PsC_lv (PsC_add _ hP))) dX2_takesName_58 cX2_118 rfl sh_33 rfl (by decide) (Nat.le_of_ble_eq_true rfl) rfl (fun M1z hq => ?_)
  refine v_iconstN (n := 1) dX2_takesName_61 ?_
  exact v_zret dX2_takesName_62 rfl (by decide +kernel) (⟨rfl, hq.1, ((((FrP.refl Mz).w36).w35 (by decide)).w35 (by decide)).trans hq.2⟩)
set_option maxRecDepth 100000 in
set_option maxHeartbeats 4000000 in
theorem kR_name0 (E : ev) (Mz : mm) {tp : Nat → Nat} {n : Nat} {t : tok} (hT : TpC Mz tp n) (hS : ScC Mz tp t) (hse : t.2.1 ≤ t.2.2.1) (hen : t.2.2.1 ≤ n) {key : Nat} (hk : key < 3) (hk0 : Mz 35 0 = nI key) (hle : isLe (tp t.2.1) = true) (h1 : t.2.2.1 - t.2.1 = 1) (h9 : nmI key (tp t.2.1) = 9) : Ct E 4 yX2_takesName cX2_takesName 2 (some .boolean) [.inr 33] Mz (qI E (fun r M' => r = nI 0 ∧ FrP Mz M')) := by
  refine ct_of (by decide) (Nat.le_of_ble_eq_true rfl) ?_
  show V E 4 _ _ _ _ _ 0 [some (.inr 33), none] [] Mz
  have hn96 := hT.2.1
  have hb128 : tp t.2.1 < 128 := by have := isLe_lt hle; omega
  refine v_ald0 dX2_takesName_0 ?_
  refine v_geti dX2_takesName_1 gX2_30 sh_33 rfl ?_
  refine v_eq (hS.2.2.1) ?_
  refine v_ald0 dX2_takesName_4 ?_
  refine v_geti dX2_takesName_5 gX2_52 sh_33 rfl ?_
  refine v_eq (hS.2.1) ?_
  refine v_isubN dX2_takesName_8 (hse) ?_
  refine v_iconstN (n := 1) dX2_takesName_9 ?_
  refine v_icmpN_ne (tgt := 39) dX2_takesName_10 (by decide) (by omega) (by omega) (fun h10 => absurd h10 (fun q => q h1)) (fun h10 => ?_)
  refine v_ald0 dX2_takesName_13 ?_
  refine v_getr dX2_takesName_14 gX2_18 sh_33 rfl ?_
  refine v_geti dX2_takesName_17 gX2_121 sh_35 rfl ?_
  refine v_eq (hk0) ?_
  refine v_callSr (kR_names E Mz hk) dX2_takesName_20 cX2_124 rfl (by decide) (Nat.le_of_ble_eq_true rfl) rfl ?_
  refine v_ald0 dX2_takesName_23 ?_
  refine v_getr dX2_takesName_24 gX2_9 sh_33 rfl ?_
  refine v_ald0 dX2_takesName_27 ?_
  refine v_geti dX2_takesName_28 gX2_52 sh_33 rfl ?_
  refine v_eq (hS.2.1) ?_
  refine v_baldN dX2_takesName_31 sh_34 (by omega) (by decide) ?_
  refine v_eq (show Mz 34 t.2.1 = sb (tp t.2.1) from (hT.2.2 t.2.1 (by omega)).1) ?_
  refine v_i2c dX2_takesName_32 ?_
  refine v_eq (show ((sb (tp t.2.1)).toUInt32 % 65536).toInt32 = nI (tp t.2.1) from i2cD ⟨tp t.2.1, hb128⟩) ?_
  refine v_callVsi (kJ_indexOf E Mz (i := 3 + key) (by omega) hb128) (show 3 + key < 6 by omega) dX2_takesName_33 cX2_128 rfl rfl (by decide) (Nat.le_of_ble_eq_true rfl) rfl (fun r M1z hq => ?_)
  obtain ⟨hr, hm⟩ := hq
  rw [hr, hm]
  clear hr hm
  rw [nmIxD ⟨key, hk⟩ ⟨tp t.2.1, hb128⟩ hle]
  refine v_goto (tgt := 40) dX2_takesName_36 (by decide) ?_
  refine v_eq (show (if nmI key (tp t.2.1) = 9 then (-1 : Int32) else nI (nmI key (tp t.2.1))) = -1 from if_pos h9) ?_
  refine v_ist1 dX2_takesName_40 (by decide) ?_
  refine v_ild1 dX2_takesName_41 ?_
  refine v_if_ge (tgt := 47) dX2_takesName_42 (by decide) (fun h42 => absurd h42 (by decide)) (fun h42 => ?_)
  refine v_iconstN (n := 0) dX2_takesName_45 ?_
  exact v_zret dX2_takesName_46 rfl (by decide +kernel) (⟨rfl, FrP.refl Mz⟩)
set_option maxRecDepth 100000 in
set_option maxHeartbeats 4000000 in
theorem kR_nameL (E : ev) (Mz : mm) {tp : Nat → Nat} {n : Nat} {t : tok} (hT : TpC Mz tp n) (hS : ScC Mz tp t) (hse : t.2.1 ≤ t.2.2.1) (hen : t.2.2.1 ≤ n) (h1 : t.2.2.1 - t.2.1 ≠ 1) : Ct E 4 yX2_takesName cX2_takesName 2 (some .boolean) [.inr 33] Mz (qI E (fun r M' => r = nI 0 ∧ FrP Mz M')) := by
  refine ct_of (by decide) (Nat.le_of_ble_eq_true rfl) ?_
  show V E 4 _ _ _ _ _ 0 [some (.inr 33), none] [] Mz
  have hn96 := hT.2.1
  refine v_ald0 dX2_takesName_0 ?_
  refine v_geti dX2_takesName_1 gX2_30 sh_33 rfl ?_
  refine v_eq (hS.2.2.1) ?_
  refine v_ald0 dX2_takesName_4 ?_
  refine v_geti dX2_takesName_5 gX2_52 sh_33 rfl ?_
  refine v_eq (hS.2.1) ?_
  refine v_isubN dX2_takesName_8 (hse) ?_
  refine v_iconstN (n := 1) dX2_takesName_9 ?_
  refine v_icmpN_ne (tgt := 39) dX2_takesName_10 (by decide) (by omega) (by omega) (fun h10 => ?_) (fun h10 => absurd h10 (fun q => h1 q))
  refine v_iconst (x := -1) dX2_takesName_39 (by decide) ?_
  refine v_ist1 dX2_takesName_40 (by decide) ?_
  refine v_ild1 dX2_takesName_41 ?_
  refine v_if_ge (tgt := 47) dX2_takesName_42 (by decide) (fun h42 => absurd h42 (by decide)) (fun h42 => ?_)
  refine v_iconstN (n := 0) dX2_takesName_45 ?_
  exact v_zret dX2_takesName_46 rfl (by decide +kernel) (⟨rfl, FrP.refl Mz⟩)
set_option maxRecDepth 100000 in
set_option maxHeartbeats 4000000 in
theorem kR_p2a (E : ev) (Mz : mm) {tp : Nat → Nat} {n : Nat} {t : tok} (hT : TpC Mz tp n) (hS : ScC Mz tp t) (hse : t.2.1 ≤ t.2.2.1) (hen : t.2.2.1 ≤ n) {o : List Nat} {u : List Int32} {lv : Nat} (hP : PsC Mz o u lv) (h96 : o.length + u.length < 96) (hv : ∀ s ∈ o, s < 128) {key : Nat} (hk : key < 3) (hk0 : Mz 35 0 = nI key) (h33 : ct 33 o ≤ 8) (h40 : ct 40 o ≤ 8) (hd : ∀ j, t.2.1 ≤ j → j < t.2.2.1 → isDi (tp j) = true) (h2 : t.1 = 2) (hlen : t.2.2.1 - t.2.1 ≤ 4) : Ct E 5 yX2_takesPiece cX2_takesPiece 1 (some .boolean) [.inr 33] Mz (qI E (fun r M' => match pW tp key t o u lv with | none => r = nI 0 ∧ FrP Mz M' | some q => r = nI 1 ∧ PsC M' q.2.1 q.2.2.1 q.2.2.2 ∧ FrP Mz M')) := by
  refine ct_of (by decide) (Nat.le_of_ble_eq_true rfl) ?_
  show V E 5 _ _ _ _ _ 0 [some (.inr 33)] [] Mz
  rw [show pW tp key t o u lv = some (false, (drN o (nI (numK tp t.2.1 (t.2.2.1 - t.2.1)) :: u)).1, (drN o (nI (numK tp t.2.1 (t.2.2.1 - t.2.1)) :: u)).2, lv + 1) from if_pos ⟨h2, hlen⟩]
  have hn96 := hT.2.1
  refine v_ald0 dX2_takesPiece_0 ?_
  refine v_geti dX2_takesPiece_1 gX2_59 sh_33 rfl ?_
  refine v_eq (show Mz 33 3 = nI 1002 from by rw [hS.1]; unfold tkC; rw [h2]; rfl) ?_
  refine v_lsw (off := 44) (tgt := 48) dX2_takesPiece_4 (by decide) (by decide) (by decide) ?_
  refine v_ald0 dX2_takesPiece_48 ?_
  refine v_callVi (kR_num1 E Mz hT hS hse hen hP h96 hv hd hlen) dX2_takesPiece_49 cX2_106 rfl sh_33 rfl (by decide) (Nat.le_of_ble_eq_true rfl) rfl (fun r M1z hq => ?_)
  obtain ⟨hr1, hm⟩ := hq
  rw [hr1]
  exact v_zret dX2_takesPiece_52 rfl (by decide +kernel) (⟨rfl, hm⟩)
set_option maxRecDepth 100000 in
set_option maxHeartbeats 4000000 in
theorem kR_p2b (E : ev) (Mz : mm) {tp : Nat → Nat} {n : Nat} {t : tok} (hT : TpC Mz tp n) (hS : ScC Mz tp t) (hse : t.2.1 ≤ t.2.2.1) (hen : t.2.2.1 ≤ n) {o : List Nat} {u : List Int32} {lv : Nat} (hP : PsC Mz o u lv) (h96 : o.length + u.length < 96) (hv : ∀ s ∈ o, s < 128) {key : Nat} (hk : key < 3) (hk0 : Mz 35 0 = nI key) (h33 : ct 33 o ≤ 8) (h40 : ct 40 o ≤ 8) (h2 : t.1 = 2) (hlen : ¬ t.2.2.1 - t.2.1 ≤ 4) : Ct E 5 yX2_takesPiece cX2_takesPiece 1 (some .boolean) [.inr 33] Mz (qI E (fun r M' => match pW tp key t o u lv with | none => r = nI 0 ∧ FrP Mz M' | some q => r = nI 1 ∧ PsC M' q.2.1 q.2.2.1 q.2.2.2 ∧ FrP Mz M')) := by
  refine ct_of (by decide) (Nat.le_of_ble_eq_true rfl) ?_
  show V E 5 _ _ _ _ _ 0 [some (.inr 33)] [] Mz
  rw [show pW tp key t o u lv = none from by unfold pW; rw [if_neg (fun q => hlen q.2), if_neg (fun q => by omega), if_neg (fun q => by omega), if_neg (fun q => by omega)]]
  have hn96 := hT.2.1
  refine v_ald0 dX2_takesPiece_0 ?_
  refine v_geti dX2_takesPiece_1 gX2_59 sh_33 rfl ?_
  refine v_eq (show Mz 33 3 = nI 1002 from by rw [hS.1]; unfold tkC; rw [h2]; rfl) ?_
  refine v_lsw (off := 44) (tgt := 48) dX2_takesPiece_4 (by decide) (by decide) (by decide) ?_
  refine v_ald0 dX2_takesPiece_48 ?_
  refine v_callVi (kR_num0 E Mz hT hS hse hen hlen) dX2_takesPiece_49 cX2_106 rfl sh_33 rfl (by decide) (Nat.le_of_ble_eq_true rfl) rfl (fun r M1z hq => ?_)
  obtain ⟨hr1, hm⟩ := hq
  rw [hr1]
  exact v_zret dX2_takesPiece_52 rfl (by decide +kernel) (⟨rfl, hm⟩)
set_option maxRecDepth 100000 in
set_option maxHeartbeats 4000000 in
theorem kR_p1a (E : ev) (Mz : mm) {tp : Nat → Nat} {n : Nat} {t : tok} (hT : TpC Mz tp n) (hS : ScC Mz tp t) (hse : t.2.1 ≤ t.2.2.1) (hen : t.2.2.1 ≤ n) {o : List Nat} {u : List Int32} {lv : Nat} (hP : PsC Mz o u lv) (h96 : o.length + u.length < 96) (hv : ∀ s ∈ o, s < 128) {key : Nat} (hk : key < 3) (hk0 : Mz 35 0 = nI key) (h33 : ct 33 o ≤ 8) (h40 : ct 40 o ≤ 8) (h1 : t.1 = 1) (hle : isLe (tp t.2.1) = true) (hlen : t.2.2.1 - t.2.1 = 1) (h9 : nmI key (tp t.2.1) ≠ 9) : Ct E 5 yX2_takesPiece cX2_takesPiece 1 (some .boolean) [.inr 33] Mz (qI E (fun r M' => match pW tp key t o u lv with | none => r = nI 0 ∧ FrP Mz M' | some q => r = nI 1 ∧ PsC M' q.2.1 q.2.2.1 q.2.2.2 ∧ FrP Mz M')) := by
  refine ct_of (by decide) (Nat.le_of_ble_eq_true rfl) ?_
  show V E 5 _ _ _ _ _ 0 [some (.inr 33)] [] Mz
  rw [show pW tp key t o u lv = some (false, (drN o ((-1 - nI (nmI key (tp t.2.1))) :: u)).1, (drN o ((-1 - nI (nmI key (tp t.2.1))) :: u)).2, lv + 1) from by unfold pW; rw [if_neg (fun q => by omega), if_pos ⟨h1, hlen, h9⟩]]
  have hn96 := hT.2.1
  refine v_ald0 dX2_takesPiece_0 ?_
  refine v_geti dX2_takesPiece_1 gX2_59 sh_33 rfl ?_
  refine v_eq (show Mz 33 3 = nI 1001 from by rw [hS.1]; unfold tkC; rw [h1]; rfl) ?_
  refine v_lsw (off := 49) (tgt := 53) dX2_takesPiece_4 (by decide) (by decide) (by decide) ?_
  refine v_ald0 dX2_takesPiece_53 ?_
  refine v_callVi (kR_name1 E Mz hT hS hse hen hP h96 hv hk hk0 hle hlen h9) dX2_takesPiece_54 cX2_109 rfl sh_33 rfl (by decide) (Nat.le_of_ble_eq_true rfl) rfl (fun r M1z hq => ?_)
  obtain ⟨hr1, hm⟩ := hq
  rw [hr1]
  exact v_zret dX2_takesPiece_57 rfl (by decide +kernel) (⟨rfl, hm⟩)
set_option maxRecDepth 100000 in
set_option maxHeartbeats 4000000 in
theorem kR_p1b (E : ev) (Mz : mm) {tp : Nat → Nat} {n : Nat} {t : tok} (hT : TpC Mz tp n) (hS : ScC Mz tp t) (hse : t.2.1 ≤ t.2.2.1) (hen : t.2.2.1 ≤ n) {o : List Nat} {u : List Int32} {lv : Nat} (hP : PsC Mz o u lv) (h96 : o.length + u.length < 96) (hv : ∀ s ∈ o, s < 128) {key : Nat} (hk : key < 3) (hk0 : Mz 35 0 = nI key) (h33 : ct 33 o ≤ 8) (h40 : ct 40 o ≤ 8) (h1 : t.1 = 1) (hle : isLe (tp t.2.1) = true) (hlen : t.2.2.1 - t.2.1 = 1) (h9 : nmI key (tp t.2.1) = 9) : Ct E 5 yX2_takesPiece cX2_takesPiece 1 (some .boolean) [.inr 33] Mz (qI E (fun r M' => match pW tp key t o u lv with | none => r = nI 0 ∧ FrP Mz M' | some q => r = nI 1 ∧ PsC M' q.2.1 q.2.2.1 q.2.2.2 ∧ FrP Mz M')) := by
  refine ct_of (by decide) (Nat.le_of_ble_eq_true rfl) ?_
  show V E 5 _ _ _ _ _ 0 [some (.inr 33)] [] Mz
  rw [show pW tp key t o u lv = none from by unfold pW; rw [if_neg (fun q => by omega), if_neg (fun q => q.2.2 h9), if_neg (fun q => by omega), if_neg (fun q => by omega)]]
  have hn96 := hT.2.1
  refine v_ald0 dX2_takesPiece_0 ?_
  refine v_geti dX2_takesPiece_1 gX2_59 sh_33 rfl ?_
  refine v_eq (show Mz 33 3 = nI 1001 from by rw [hS.1]; unfold tkC; rw [h1]; rfl) ?_
  refine v_lsw (off := 49) (tgt := 53) dX2_takesPiece_4 (by decide) (by decide) (by decide) ?_
  refine v_ald0 dX2_takesPiece_53 ?_
  refine v_callVi (kR_name0 E Mz hT hS hse hen hk hk0 hle hlen h9) dX2_takesPiece_54 cX2_109 rfl sh_33 rfl (by decide) (Nat.le_of_ble_eq_true rfl) rfl (fun r M1z hq => ?_)
  obtain ⟨hr1, hm⟩ := hq
  rw [hr1]
  exact v_zret dX2_takesPiece_57 rfl (by decide +kernel) (⟨rfl, hm⟩)
set_option maxRecDepth 100000 in
set_option maxHeartbeats 4000000 in
theorem kR_p1c (E : ev) (Mz : mm) {tp : Nat → Nat} {n : Nat} {t : tok} (hT : TpC Mz tp n) (hS : ScC Mz tp t) (hse : t.2.1 ≤ t.2.2.1) (hen : t.2.2.1 ≤ n) {o : List Nat} {u : List Int32} {lv : Nat} (hP : PsC Mz o u lv) (h96 : o.length + u.length < 96) (hv : ∀ s ∈ o, s < 128) {key : Nat} (hk : key < 3) (hk0 : Mz 35 0 = nI key) (h33 : ct 33 o ≤ 8) (h40 : ct 40 o ≤ 8) (h1 : t.1 = 1) (hlen : t.2.2.1 - t.2.1 ≠ 1) : Ct E 5 yX2_takesPiece cX2_takesPiece 1 (some .boolean) [.inr 33] Mz (qI E (fun r M' => match pW tp key t o u lv with | none => r = nI 0 ∧ FrP Mz M' | some q => r = nI 1 ∧ PsC M' q.2.1 q.2.2.1 q.2.2.2 ∧ FrP Mz M')) := by
  refine ct_of (by decide) (Nat.le_of_ble_eq_true rfl) ?_
  show V E 5 _ _ _ _ _ 0 [some (.inr 33)] [] Mz
  rw [show pW tp key t o u lv = none from by unfold pW; rw [if_neg (fun q => by omega), if_neg (fun q => hlen q.2.1), if_neg (fun q => by omega), if_neg (fun q => by omega)]]
  have hn96 := hT.2.1
  refine v_ald0 dX2_takesPiece_0 ?_
  refine v_geti dX2_takesPiece_1 gX2_59 sh_33 rfl ?_
  refine v_eq (show Mz 33 3 = nI 1001 from by rw [hS.1]; unfold tkC; rw [h1]; rfl) ?_
  refine v_lsw (off := 49) (tgt := 53) dX2_takesPiece_4 (by decide) (by decide) (by decide) ?_
  refine v_ald0 dX2_takesPiece_53 ?_
  refine v_callVi (kR_nameL E Mz hT hS hse hen hlen) dX2_takesPiece_54 cX2_109 rfl sh_33 rfl (by decide) (Nat.le_of_ble_eq_true rfl) rfl (fun r M1z hq => ?_)
  obtain ⟨hr1, hm⟩ := hq
  rw [hr1]
  exact v_zret dX2_takesPiece_57 rfl (by decide +kernel) (⟨rfl, hm⟩)
set_option maxRecDepth 100000 in
set_option maxHeartbeats 4000000 in
theorem kR_p33a (E : ev) (Mz : mm) {tp : Nat → Nat} {n : Nat} {t : tok} (hT : TpC Mz tp n) (hS : ScC Mz tp t) (hse : t.2.1 ≤ t.2.2.1) (hen : t.2.2.1 ≤ n) {o : List Nat} {u : List Int32} {lv : Nat} (hP : PsC Mz o u lv) (h96 : o.length + u.length < 96) (hv : ∀ s ∈ o, s < 128) {key : Nat} (hk : key < 3) (hk0 : Mz 35 0 = nI key) (h33 : ct 33 o ≤ 8) (h40 : ct 40 o ≤ 8) (h3 : t.1 = 3) (hb : tp t.2.1 = 33) (hlt : ct 33 o < 8) : Ct E 5 yX2_takesPiece cX2_takesPiece 1 (some .boolean) [.inr 33] Mz (qI E (fun r M' => match pW tp key t o u lv with | none => r = nI 0 ∧ FrP Mz M' | some q => r = nI 1 ∧ PsC M' q.2.1 q.2.2.1 q.2.2.2 ∧ FrP Mz M')) := by
  refine ct_of (by decide) (Nat.le_of_ble_eq_true rfl) ?_
  show V E 5 _ _ _ _ _ 0 [some (.inr 33)] [] Mz
  rw [show pW tp key t o u lv = some (true, 33 :: o, u, lv) from by unfold pW; rw [if_neg (fun q => by omega), if_neg (fun q => by omega), if_pos ⟨h3, hb, hlt⟩]]
  have hn96 := hT.2.1
  refine v_ald0 dX2_takesPiece_0 ?_
  refine v_geti dX2_takesPiece_1 gX2_59 sh_33 rfl ?_
  refine v_eq (show Mz 33 3 = nI 33 from by rw [hS.1]; unfold tkC; rw [h3, hb]; rfl) ?_
  refine v_lsw (off := 54) (tgt := 58) dX2_takesPiece_4 (by decide) (by decide) (by decide) ?_
  refine v_ald0 dX2_takesPiece_58 ?_
  refine v_dup dX2_takesPiece_59 ?_
  refine v_geti dX2_takesPiece_60 gX2_42 sh_33 rfl ?_
  refine v_eq (show Mz 33 10 = nI (ct 33 o) from hP.2.2.2.1) ?_
  refine v_iconstN (n := 1) dX2_takesPiece_63 ?_
  refine v_iaddN dX2_takesPiece_64 ?_
  refine v_puti dX2_takesPiece_65 pX2_42 sh_33 rfl rfl rfl ?_
  refine v_ald0 dX2_takesPiece_68 ?_
  refine v_bipushN (n := 33) dX2_takesPiece_69 (by decide) ?_
  refine v_callVv (kR_push E _ (h := o.length) (by rw [wr_at, pk_un (by decide)]; exact hP.1) (by omega)) dX2_takesPiece_71 cX2_112 rfl sh_33 rfl (by decide) (Nat.le_of_ble_eq_true rfl) rfl (fun M1z hq => ?_)
  rw [hq]
  clear hq
  refine v_ald0 dX2_takesPiece_74 ?_
  refine v_geti dX2_takesPiece_75 gX2_42 sh_33 rfl ?_
  refine v_eq (show (wr (wr (wr Mz 33 10 (nI (ct 33 o + 1))) 37 o.length (nI 33)) 33 8 (nI (o.length + 1))) 33 10 = nI (ct 33 o + 1) from by simp [wr, wa, upd]) ?_
  refine v_bipushN (n := 8) dX2_takesPiece_78 (by decide) ?_
  refine v_icmpN_gt (tgt := 87) dX2_takesPiece_80 (by decide) (by omega) (by omega) (fun h80 => absurd h80 (by omega)) (fun h80 => ?_)
  refine v_iconstN (n := 1) dX2_takesPiece_83 ?_
  refine v_goto (tgt := 88) dX2_takesPiece_84 (by decide) ?_
  exact v_zret dX2_takesPiece_88 rfl (by decide +kernel) (⟨rfl, PsC_push33 hP, ((((FrP.refl Mz).w33 (by decide)).w37).w33 (by decide))⟩)
set_option maxRecDepth 100000 in
set_option maxHeartbeats 4000000 in
theorem kR_p33b (E : ev) (Mz : mm) {tp : Nat → Nat} {n : Nat} {t : tok} (hT : TpC Mz tp n) (hS : ScC Mz tp t) (hse : t.2.1 ≤ t.2.2.1) (hen : t.2.2.1 ≤ n) {o : List Nat} {u : List Int32} {lv : Nat} (hP : PsC Mz o u lv) (h96 : o.length + u.length < 96) (hv : ∀ s ∈ o, s < 128) {key : Nat} (hk : key < 3) (hk0 : Mz 35 0 = nI key) (h33 : ct 33 o ≤ 8) (h40 : ct 40 o ≤ 8) (h3 : t.1 = 3) (hb : tp t.2.1 = 33) (hlt : ¬ ct 33 o < 8) : Ct E 5 yX2_takesPiece cX2_takesPiece 1 (some .boolean) [.inr 33] Mz (qI E (fun r M' => match pW tp key t o u lv with | none => r = nI 0 ∧ FrP Mz M' | some q => r = nI 1 ∧ PsC M' q.2.1 q.2.2.1 q.2.2.2 ∧ FrP Mz M')) := by
  refine ct_of (by decide) (Nat.le_of_ble_eq_true rfl) ?_
  show V E 5 _ _ _ _ _ 0 [some (.inr 33)] [] Mz
  rw [show pW tp key t o u lv = none from by unfold pW; rw [if_neg (fun q => by omega), if_neg (fun q => by omega), if_neg (fun q => by omega), if_neg (fun q => by omega)]]
  have hn96 := hT.2.1
  refine v_ald0 dX2_takesPiece_0 ?_
  refine v_geti dX2_takesPiece_1 gX2_59 sh_33 rfl ?_
  refine v_eq (show Mz 33 3 = nI 33 from by rw [hS.1]; unfold tkC; rw [h3, hb]; rfl) ?_
  refine v_lsw (off := 54) (tgt := 58) dX2_takesPiece_4 (by decide) (by decide) (by decide) ?_
  refine v_ald0 dX2_takesPiece_58 ?_
  refine v_dup dX2_takesPiece_59 ?_
  refine v_geti dX2_takesPiece_60 gX2_42 sh_33 rfl ?_
  refine v_eq (show Mz 33 10 = nI (ct 33 o) from hP.2.2.2.1) ?_
  refine v_iconstN (n := 1) dX2_takesPiece_63 ?_
  refine v_iaddN dX2_takesPiece_64 ?_
  refine v_puti dX2_takesPiece_65 pX2_42 sh_33 rfl rfl rfl ?_
  refine v_ald0 dX2_takesPiece_68 ?_
  refine v_bipushN (n := 33) dX2_takesPiece_69 (by decide) ?_
  refine v_callVv (kR_push E _ (h := o.length) (by rw [wr_at, pk_un (by decide)]; exact hP.1) (by omega)) dX2_takesPiece_71 cX2_112 rfl sh_33 rfl (by decide) (Nat.le_of_ble_eq_true rfl) rfl (fun M1z hq => ?_)
  rw [hq]
  clear hq
  refine v_ald0 dX2_takesPiece_74 ?_
  refine v_geti dX2_takesPiece_75 gX2_42 sh_33 rfl ?_
  refine v_eq (show (wr (wr (wr Mz 33 10 (nI (ct 33 o + 1))) 37 o.length (nI 33)) 33 8 (nI (o.length + 1))) 33 10 = nI (ct 33 o + 1) from by simp [wr, wa, upd]) ?_
  refine v_bipushN (n := 8) dX2_takesPiece_78 (by decide) ?_
  refine v_icmpN_gt (tgt := 87) dX2_takesPiece_80 (by decide) (by omega) (by omega) (fun h80 => ?_) (fun h80 => absurd h80 (by omega))
  refine v_iconstN (n := 0) dX2_takesPiece_87 ?_
  exact v_zret dX2_takesPiece_88 rfl (by decide +kernel) (⟨rfl, ((((FrP.refl Mz).w33 (by decide)).w37).w33 (by decide))⟩)
set_option maxRecDepth 100000 in
set_option maxHeartbeats 4000000 in
theorem kR_p40a (E : ev) (Mz : mm) {tp : Nat → Nat} {n : Nat} {t : tok} (hT : TpC Mz tp n) (hS : ScC Mz tp t) (hse : t.2.1 ≤ t.2.2.1) (hen : t.2.2.1 ≤ n) {o : List Nat} {u : List Int32} {lv : Nat} (hP : PsC Mz o u lv) (h96 : o.length + u.length < 96) (hv : ∀ s ∈ o, s < 128) {key : Nat} (hk : key < 3) (hk0 : Mz 35 0 = nI key) (h33 : ct 33 o ≤ 8) (h40 : ct 40 o ≤ 8) (h3 : t.1 = 3) (hb : tp t.2.1 = 40) (hlt : ct 40 o < 8) : Ct E 5 yX2_takesPiece cX2_takesPiece 1 (some .boolean) [.inr 33] Mz (qI E (fun r M' => match pW tp key t o u lv with | none => r = nI 0 ∧ FrP Mz M' | some q => r = nI 1 ∧ PsC M' q.2.1 q.2.2.1 q.2.2.2 ∧ FrP Mz M')) := by
  refine ct_of (by decide) (Nat.le_of_ble_eq_true rfl) ?_
  show V E 5 _ _ _ _ _ 0 [some (.inr 33)] [] Mz
  rw [show pW tp key t o u lv = some (true, 40 :: o, u, lv) from by unfold pW; rw [if_neg (fun q => by omega), if_neg (fun q => by omega), if_neg (fun q => by omega), if_pos ⟨h3, hb, hlt⟩]]
  have hn96 := hT.2.1
  refine v_ald0 dX2_takesPiece_0 ?_
  refine v_geti dX2_takesPiece_1 gX2_59 sh_33 rfl ?_
  refine v_eq (show Mz 33 3 = nI 40 from by rw [hS.1]; unfold tkC; rw [h3, hb]; rfl) ?_
  refine v_lsw (off := 85) (tgt := 89) dX2_takesPiece_4 (by decide) (by decide) (by decide) ?_
  refine v_ald0 dX2_takesPiece_89 ?_
  refine v_dup dX2_takesPiece_90 ?_
  refine v_geti dX2_takesPiece_91 gX2_39 sh_33 rfl ?_
  refine v_eq (show Mz 33 9 = nI (ct 40 o) from hP.2.2.1) ?_
  refine v_iconstN (n := 1) dX2_takesPiece_94 ?_
  refine v_iaddN dX2_takesPiece_95 ?_
  refine v_puti dX2_takesPiece_96 pX2_39 sh_33 rfl rfl rfl ?_
  refine v_ald0 dX2_takesPiece_99 ?_
  refine v_bipushN (n := 40) dX2_takesPiece_100 (by decide) ?_
  refine v_callVv (kR_push E _ (h := o.length) (by rw [wr_at, pk_un (by decide)]; exact hP.1) (by omega)) dX2_takesPiece_102 cX2_112 rfl sh_33 rfl (by decide) (Nat.le_of_ble_eq_true rfl) rfl (fun M1z hq => ?_)
  rw [hq]
  clear hq
  refine v_ald0 dX2_takesPiece_105 ?_
  refine v_geti dX2_takesPiece_106 gX2_39 sh_33 rfl ?_
  refine v_eq (show (wr (wr (wr Mz 33 9 (nI (ct 40 o + 1))) 37 o.length (nI 40)) 33 8 (nI (o.length + 1))) 33 9 = nI (ct 40 o + 1) from by simp [wr, wa, upd]) ?_
  refine v_bipushN (n := 8) dX2_takesPiece_109 (by decide) ?_
  refine v_icmpN_gt (tgt := 118) dX2_takesPiece_111 (by decide) (by omega) (by omega) (fun h111 => absurd h111 (by omega)) (fun h111 => ?_)
  refine v_iconstN (n := 1) dX2_takesPiece_114 ?_
  refine v_goto (tgt := 119) dX2_takesPiece_115 (by decide) ?_
  exact v_zret dX2_takesPiece_119 rfl (by decide +kernel) (⟨rfl, PsC_push40 hP, ((((FrP.refl Mz).w33 (by decide)).w37).w33 (by decide))⟩)
set_option maxRecDepth 100000 in
set_option maxHeartbeats 4000000 in
theorem kR_p40b (E : ev) (Mz : mm) {tp : Nat → Nat} {n : Nat} {t : tok} (hT : TpC Mz tp n) (hS : ScC Mz tp t) (hse : t.2.1 ≤ t.2.2.1) (hen : t.2.2.1 ≤ n) {o : List Nat} {u : List Int32} {lv : Nat} (hP : PsC Mz o u lv) (h96 : o.length + u.length < 96) (hv : ∀ s ∈ o, s < 128) {key : Nat} (hk : key < 3) (hk0 : Mz 35 0 = nI key) (h33 : ct 33 o ≤ 8) (h40 : ct 40 o ≤ 8) (h3 : t.1 = 3) (hb : tp t.2.1 = 40) (hlt : ¬ ct 40 o < 8) : Ct E 5 yX2_takesPiece cX2_takesPiece 1 (some .boolean) [.inr 33] Mz (qI E (fun r M' => match pW tp key t o u lv with | none => r = nI 0 ∧ FrP Mz M' | some q => r = nI 1 ∧ PsC M' q.2.1 q.2.2.1 q.2.2.2 ∧ FrP Mz M')) := by
  refine ct_of (by decide) (Nat.le_of_ble_eq_true rfl) ?_
  show V E 5 _ _ _ _ _ 0 [some (.inr 33)] [] Mz
  rw [show pW tp key t o u lv = none from by unfold pW; rw [if_neg (fun q => by omega), if_neg (fun q => by omega), if_neg (fun q => by omega), if_neg (fun q => by omega)]]
  have hn96 := hT.2.1
  refine v_ald0 dX2_takesPiece_0 ?_
  refine v_geti dX2_takesPiece_1 gX2_59 sh_33 rfl ?_
  refine v_eq (show Mz 33 3 = nI 40 from by rw [hS.1]; unfold tkC; rw [h3, hb]; rfl) ?_
  refine v_lsw (off := 85) (tgt := 89) dX2_takesPiece_4 (by decide) (by decide) (by decide) ?_
  refine v_ald0 dX2_takesPiece_89 ?_
  refine v_dup dX2_takesPiece_90 ?_
  refine v_geti dX2_takesPiece_91 gX2_39 sh_33 rfl ?_
  refine v_eq (show Mz 33 9 = nI (ct 40 o) from hP.2.2.1) ?_
  refine v_iconstN (n := 1) dX2_takesPiece_94 ?_
  refine v_iaddN dX2_takesPiece_95 ?_
  refine v_puti dX2_takesPiece_96 pX2_39 sh_33 rfl rfl rfl ?_
  refine v_ald0 dX2_takesPiece_99 ?_
  refine v_bipushN (n := 40) dX2_takesPiece_100 (by decide) ?_
  refine v_callVv (kR_push E _ (h := o.length) (by rw [wr_at, pk_un (by decide)]; exact hP.1) (by omega)) dX2_takesPiece_102 cX2_112 rfl sh_33 rfl (by decide) (Nat.le_of_ble_eq_true rfl) rfl (fun M1z hq => ?_)
  rw [hq]
  clear hq
  refine v_ald0 dX2_takesPiece_105 ?_
  refine v_geti dX2_takesPiece_106 gX2_39 sh_33 rfl ?_
  refine v_eq (show (wr (wr (wr Mz 33 9 (nI (ct 40 o + 1))) 37 o.length (nI 40)) 33 8 (nI (o.length + 1))) 33 9 = nI (ct 40 o + 1) from by simp [wr, wa, upd]) ?_
  refine v_bipushN (n := 8) dX2_takesPiece_109 (by decide) ?_
  refine v_icmpN_gt (tgt := 118) dX2_takesPiece_111 (by decide) (by omega) (by omega) (fun h111 => ?_) (fun h111 => absurd h111 (by omega))
  refine v_iconstN (n := 0) dX2_takesPiece_118 ?_
  exact v_zret dX2_takesPiece_119 rfl (by decide +kernel) (⟨rfl, ((((FrP.refl Mz).w33 (by decide)).w37).w33 (by decide))⟩)
set_option maxRecDepth 100000 in
set_option maxHeartbeats 4000000 in
theorem kR_pD (E : ev) (Mz : mm) {tp : Nat → Nat} {n : Nat} {t : tok} (hT : TpC Mz tp n) (hS : ScC Mz tp t) (hse : t.2.1 ≤ t.2.2.1) (hen : t.2.2.1 ≤ n) {o : List Nat} {u : List Int32} {lv : Nat} (hP : PsC Mz o u lv) (h96 : o.length + u.length < 96) (hv : ∀ s ∈ o, s < 128) {key : Nat} (hk : key < 3) (hk0 : Mz 35 0 = nI key) (h33 : ct 33 o ≤ 8) (h40 : ct 40 o ≤ 8) (n33 : tkC tp t ≠ 33) (n40 : tkC tp t ≠ 40) (n1 : tkC tp t ≠ 1001) (n2 : tkC tp t ≠ 1002) (hno : pW tp key t o u lv = none) : Ct E 5 yX2_takesPiece cX2_takesPiece 1 (some .boolean) [.inr 33] Mz (qI E (fun r M' => match pW tp key t o u lv with | none => r = nI 0 ∧ FrP Mz M' | some q => r = nI 1 ∧ PsC M' q.2.1 q.2.2.1 q.2.2.2 ∧ FrP Mz M')) := by
  refine ct_of (by decide) (Nat.le_of_ble_eq_true rfl) ?_
  show V E 5 _ _ _ _ _ 0 [some (.inr 33)] [] Mz
  rw [hno]
  refine v_ald0 dX2_takesPiece_0 ?_
  refine v_geti dX2_takesPiece_1 gX2_59 sh_33 rfl ?_
  refine v_eq (hS.1) ?_
  refine v_lsw (off := 116) (tgt := 120) dX2_takesPiece_4 (by decide) ((lv_osw n33 rfl).trans ((lv_osw n40 rfl).trans ((lv_osw n1 rfl).trans ((lv_osw n2 rfl).trans rfl)))) (by decide) ?_
  refine v_iconstN (n := 0) dX2_takesPiece_120 ?_
  exact v_zret dX2_takesPiece_121 rfl (by decide +kernel) (⟨rfl, FrP.refl Mz⟩)
theorem kR_takesPiece (E : ev) (Mz : mm) {tp : Nat → Nat} {n : Nat} {t : tok} (hT : TpC Mz tp n) (hS : ScC Mz tp t) (hse : t.2.1 ≤ t.2.2.1) (hen : t.2.2.1 ≤ n) {o : List Nat} {u : List Int32} {lv : Nat} (hP : PsC Mz o u lv) (h96 : o.length + u.length < 96) (hv : ∀ s ∈ o, s < 128) {key : Nat} (hk : key < 3) (hk0 : Mz 35 0 = nI key) (h33 : ct 33 o ≤ 8) (h40 : ct 40 o ≤ 8) (hb : ∀ i, t.2.1 ≤ i → i < t.2.2.1 → tp i < 256) (hd : t.1 = 2 → ∀ j, t.2.1 ≤ j → j < t.2.2.1 → isDi (tp j) = true) (hle : t.1 = 1 → isLe (tp t.2.1) = true) (h0 : t.1 ≠ 0) (h4 : t.1 ≤ 4) (hlt : t.2.1 < t.2.2.1) : Ct E 5 yX2_takesPiece cX2_takesPiece 1 (some .boolean) [.inr 33] Mz (qI E (fun r M' => match pW tp key t o u lv with | none => r = nI 0 ∧ FrP Mz M' | some q => r = nI 1 ∧ PsC M' q.2.1 q.2.2.1 q.2.2.2 ∧ FrP Mz M')) := by
  by_cases c2 : t.1 = 2
  · by_cases hl : t.2.2.1 - t.2.1 ≤ 4
    · exact kR_p2a E Mz hT hS hse hen hP h96 hv hk hk0 h33 h40 (hd c2) c2 hl
    · exact kR_p2b E Mz hT hS hse hen hP h96 hv hk hk0 h33 h40 c2 hl
  by_cases c1 : t.1 = 1
  · by_cases hl : t.2.2.1 - t.2.1 = 1
    · by_cases h9 : nmI key (tp t.2.1) = 9
      · exact kR_p1b E Mz hT hS hse hen hP h96 hv hk hk0 h33 h40 c1 (hle c1) hl h9
      · exact kR_p1a E Mz hT hS hse hen hP h96 hv hk hk0 h33 h40 c1 (hle c1) hl h9
    · exact kR_p1c E Mz hT hS hse hen hP h96 hv hk hk0 h33 h40 c1 hl
  by_cases c3 : t.1 = 3
  · by_cases b33 : tp t.2.1 = 33
    · by_cases hl : ct 33 o < 8
      · exact kR_p33a E Mz hT hS hse hen hP h96 hv hk hk0 h33 h40 c3 b33 hl
      · exact kR_p33b E Mz hT hS hse hen hP h96 hv hk hk0 h33 h40 c3 b33 hl
    by_cases b40 : tp t.2.1 = 40
    · by_cases hl : ct 40 o < 8
      · exact kR_p40a E Mz hT hS hse hen hP h96 hv hk hk0 h33 h40 c3 b40 hl
      · exact kR_p40b E Mz hT hS hse hen hP h96 hv hk hk0 h33 h40 c3 b40 hl
    have ht : tkC tp t = sb (tp t.2.1) := by unfold tkC; rw [c3]; rfl
    have h256 := hb t.2.1 (Nat.le_refl _) hlt
    refine kR_pD E Mz hT hS hse hen hP h96 hv hk hk0 h33 h40 (by rw [ht]; exact fun z => b33 ((sb_eq h256 (by decide)).mp z)) (by rw [ht]; exact fun z => b40 ((sb_eq h256 (by decide)).mp z)) (by rw [ht]; exact (sb_big ⟨_, h256⟩).2.1) (by rw [ht]; exact (sb_big ⟨_, h256⟩).2.2.1) ?_
    unfold pW
    rw [if_neg (fun q => c2 q.1), if_neg (fun q => c1 q.1), if_neg (fun q => b33 q.2.1), if_neg (fun q => b40 q.2.1)]
  · have c4 : t.1 = 4 := by omega
    have ht : tkC tp t = nI 1003 := by unfold tkC; rw [c4]; rfl
    refine kR_pD E Mz hT hS hse hen hP h96 hv hk hk0 h33 h40 (by rw [ht]; decide) (by rw [ht]; decide) (by rw [ht]; decide) (by rw [ht]; decide) ?_
    unfold pW
    rw [if_neg (fun q => c2 q.1), if_neg (fun q => c1 q.1), if_neg (fun q => c3 q.1), if_neg (fun q => c3 q.1)]
