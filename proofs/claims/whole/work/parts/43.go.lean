/-! words and signs of the tape, as the reference reads them -/
def TpM (M : mm) (tp : Nat → Nat) (n : Nat) : Prop := M 92 6 = nI n ∧ n ≤ 96 ∧ ∀ i, i < n → M 97 i = nI (tp i) ∧ tp i < 256
def tkN (t : tok) : Nat := if t.1 = 2 ∧ 4 < t.2.2.1 - t.2.1 then 4 else t.1
def ScN (M : mm) (tp : Nat → Nat) (t : tok) : Prop := M 92 9 = nI (tkN t) ∧ M 92 8 = nI t.2.1 ∧ M 92 7 = nI t.2.2.1 ∧ M 92 11 = t.2.2.2 ∧ (t.1 = 1 ∨ t.1 = 3 → M 92 10 = nI (tp t.2.1)) ∧ (t.1 = 2 → t.2.2.1 - t.2.1 ≤ 4 → M 92 10 = nI (numK tp t.2.1 (t.2.2.1 - t.2.1)))
def NxM (A M : mm) : Prop := (∀ a, a ≠ 92 → M a = A a) ∧ ∀ j, ¬ (7 ≤ j ∧ j ≤ 11) → M 92 j = A 92 j
theorem NxM.refl (A : mm) : NxM A A := ⟨fun _ _ => rfl, fun _ _ => rfl⟩
theorem NxM.w {A M : mm} {j : Nat} {x : Int32} (h : NxM A M) (hj : 7 ≤ j ∧ j ≤ 11) : NxM A (wr M 92 j x) := ⟨fun a ha => by rw [wr_ne ha]; exact h.1 a ha, fun i hi => by rw [wr_at, pk_un (by omega)]; exact h.2 i hi⟩
theorem TpM.w {A M : mm} {tp : Nat → Nat} {n : Nat} (h : TpM A tp n) (f : NxM A M) : TpM M tp n := ⟨(f.2 6 (by decide)).trans h.1, h.2.1, fun i hi => by rw [f.1 97 (by decide)]; exact h.2.2 i hi⟩
theorem wr_4 {M : mm} {a j k : Nat} {x y z u : Int32} (h : j ≠ k) : wr (wr (wr (wr M a j x) a k y) a j z) a k u = wr (wr M a j z) a k u := by
  funext b i
  by_cases hb : b = a
  · subst hb
    by_cases h1 : i = k
    · simp [wr, wa, upd, h1]
    · by_cases h2 : i = j
      · simp [wr, wa, upd, h1, h2]
      · simp [wr, wa, upd, h1, h2]
  · simp [wr, wa, upd, hb]
def vq (tp : Nat → Nat) (s i : Nat) : Nat := numK tp s (if i < 4 then i else 4)
set_option maxRecDepth 100000 in
set_option maxHeartbeats 4000000 in
theorem kM_isLetter (E : ev) (Mz : mm) {tp : Nat → Nat} {n k : Nat} (hT : TpM Mz tp n) (hk : k ≤ n) : Ct E 0 yX7_isLetter cX7_isLetter 2 (some .boolean) [.inr 92, .inl (nI k)] Mz (qI E (fun r M' => r = b2 (decide (k < n) && isLe (tp k)) ∧ M' = Mz)) := by
  refine ct_of (by decide) (Nat.le_of_ble_eq_true rfl) ?_
  show V E 0 _ _ _ _ _ 0 [some (.inr 92), some (.inl (nI k))] [] Mz
  have hn96 := hT.2.1
  refine v_ild1 dX7_isLetter_0 ?_
  refine v_ald0 dX7_isLetter_1 ?_
  refine v_geti dX7_isLetter_2 gX7_203 sh_92 rfl ?_
  refine v_eq (hT.1) ?_
  refine v_icmpN_ge (tgt := 34) dX7_isLetter_5 (by decide) (by omega) (by omega) (fun h5 => ?_) (fun h5 => ?_)
  · refine v_iconstN (n := 0) dX7_isLetter_34 ?_
    exact v_zret dX7_isLetter_35 rfl (by decide +kernel) (⟨by rw [decide_eq_false (by omega), Bool.false_and]; rfl, rfl⟩)
  · refine v_ald0 dX7_isLetter_8 ?_
    refine v_getr dX7_isLetter_9 gX7_22 sh_92 rfl ?_
    refine v_ild1 dX7_isLetter_12 ?_
    refine v_ialdN dX7_isLetter_13 sh_97 (by omega) (by decide) ?_
    have hb := (hT.2.2 k h5).2
    refine v_eq (show Mz 97 k = nI (tp k) from (hT.2.2 k h5).1) ?_
    refine v_bipushN (n := 97) dX7_isLetter_14 (by decide) ?_
    refine v_icmpN_lt (tgt := 34) dX7_isLetter_16 (by decide) (by omega) (by omega) (fun h16 => ?_) (fun h16 => ?_)
    · refine v_iconstN (n := 0) dX7_isLetter_34 ?_
      exact v_zret dX7_isLetter_35 rfl (by decide +kernel) (⟨by rw [show isLe (tp k) = false from decide_eq_false (by omega), Bool.and_false]; rfl, rfl⟩)
    · refine v_ald0 dX7_isLetter_19 ?_
      refine v_getr dX7_isLetter_20 gX7_22 sh_92 rfl ?_
      refine v_ild1 dX7_isLetter_23 ?_
      refine v_ialdN dX7_isLetter_24 sh_97 (by omega) (by decide) ?_
      refine v_eq (show Mz 97 k = nI (tp k) from (hT.2.2 k h5).1) ?_
      refine v_bipushN (n := 122) dX7_isLetter_25 (by decide) ?_
      refine v_icmpN_gt (tgt := 34) dX7_isLetter_27 (by decide) (by omega) (by omega) (fun h27 => ?_) (fun h27 => ?_)
      · refine v_iconstN (n := 0) dX7_isLetter_34 ?_
        exact v_zret dX7_isLetter_35 rfl (by decide +kernel) (⟨by rw [show isLe (tp k) = false from decide_eq_false (by omega), Bool.and_false]; rfl, rfl⟩)
      · refine v_iconstN (n := 1) dX7_isLetter_30 ?_
        refine v_goto (tgt := 35) dX7_isLetter_31 (by decide) ?_
        exact v_zret dX7_isLetter_35 rfl (by decide +kernel) (⟨by rw [decide_eq_true h5, show isLe (tp k) = true from decide_eq_true ⟨by omega, by omega⟩]; rfl, rfl⟩)
set_option maxRecDepth 100000 in
set_option maxHeartbeats 4000000 in
theorem kM_isFigure (E : ev) (Mz : mm) {tp : Nat → Nat} {n k : Nat} (hT : TpM Mz tp n) (hk : k ≤ n) : Ct E 0 yX7_isFigure cX7_isFigure 2 (some .boolean) [.inr 92, .inl (nI k)] Mz (qI E (fun r M' => r = b2 (decide (k < n) && isDi (tp k)) ∧ M' = Mz)) := by
  refine ct_of (by decide) (Nat.le_of_ble_eq_true rfl) ?_
  show V E 0 _ _ _ _ _ 0 [some (.inr 92), some (.inl (nI k))] [] Mz
  have hn96 := hT.2.1
  refine v_ild1 dX7_isFigure_0 ?_
  refine v_ald0 dX7_isFigure_1 ?_
  refine v_geti dX7_isFigure_2 gX7_203 sh_92 rfl ?_
  refine v_eq (hT.1) ?_
  refine v_icmpN_ge (tgt := 34) dX7_isFigure_5 (by decide) (by omega) (by omega) (fun h5 => ?_) (fun h5 => ?_)
  · refine v_iconstN (n := 0) dX7_isFigure_34 ?_
    exact v_zret dX7_isFigure_35 rfl (by decide +kernel) (⟨by rw [decide_eq_false (by omega), Bool.false_and]; rfl, rfl⟩)
  · refine v_ald0 dX7_isFigure_8 ?_
    refine v_getr dX7_isFigure_9 gX7_22 sh_92 rfl ?_
    refine v_ild1 dX7_isFigure_12 ?_
    refine v_ialdN dX7_isFigure_13 sh_97 (by omega) (by decide) ?_
    have hb := (hT.2.2 k h5).2
    refine v_eq (show Mz 97 k = nI (tp k) from (hT.2.2 k h5).1) ?_
    refine v_bipushN (n := 48) dX7_isFigure_14 (by decide) ?_
    refine v_icmpN_lt (tgt := 34) dX7_isFigure_16 (by decide) (by omega) (by omega) (fun h16 => ?_) (fun h16 => ?_)
    · refine v_iconstN (n := 0) dX7_isFigure_34 ?_
      exact v_zret dX7_isFigure_35 rfl (by decide +kernel) (⟨by rw [show isDi (tp k) = false from decide_eq_false (by omega), Bool.and_false]; rfl, rfl⟩)
    · refine v_ald0 dX7_isFigure_19 ?_
      refine v_getr dX7_isFigure_20 gX7_22 sh_92 rfl ?_
      refine v_ild1 dX7_isFigure_23 ?_
      refine v_ialdN dX7_isFigure_24 sh_97 (by omega) (by decide) ?_
      refine v_eq (show Mz 97 k = nI (tp k) from (hT.2.2 k h5).1) ?_
      refine v_bipushN (n := 57) dX7_isFigure_25 (by decide) ?_
      refine v_icmpN_gt (tgt := 34) dX7_isFigure_27 (by decide) (by omega) (by omega) (fun h27 => ?_) (fun h27 => ?_)
      · refine v_iconstN (n := 0) dX7_isFigure_34 ?_
        exact v_zret dX7_isFigure_35 rfl (by decide +kernel) (⟨by rw [show isDi (tp k) = false from decide_eq_false (by omega), Bool.and_false]; rfl, rfl⟩)
      · refine v_iconstN (n := 1) dX7_isFigure_30 ?_
        refine v_goto (tgt := 35) dX7_isFigure_31 (by decide) ?_
        exact v_zret dX7_isFigure_35 rfl (by decide +kernel) (⟨by rw [decide_eq_true h5, show isDi (tp k) = true from decide_eq_true ⟨by omega, by omega⟩]; rfl, rfl⟩)
set_option maxRecDepth 100000 in
set_option maxHeartbeats 4000000 in
theorem kM_go (E : ev) (Mz : mm) {tp : Nat → Nat} {n k : Nat} {we : Int32} (hT : TpM Mz tp n) (hk : k ≤ n) (hk7 : Mz 92 7 = nI k) (hw : Mz 92 11 = we) : Ct E 1 yX7_go cX7_go 2 none [.inr 92] Mz (qV E (fun M' => NxM Mz M' ∧ ScN M' tp (nxt tp n k we))) := by
  refine ct_of (by decide) (Nat.le_of_ble_eq_true rfl) ?_
  show V E 1 _ _ _ _ _ 0 [some (.inr 92), none] [] Mz
  have hn96 := hT.2.1
  have hs0 := skp_ge tp hk
  have hst0 := skp_st tp hk
  refine v_loop (pc := 0) (fun _ => [some (.inr 92), none]) (fun i => (wr Mz 92 7 (nI (k + i)))) (skp tp n k - k) rfl (wr_same hk7) (fun i hi ih => ?_) ?_
  · refine v_ald0 dX7_go_0 ?_
    refine v_geti dX7_go_1 gX7_207 sh_92 rfl ?_
    refine v_eq (show (wr Mz 92 7 (nI (k + i))) 92 7 = nI (k + i) from by simp [wr, wa, upd]) ?_
    refine v_ald0 dX7_go_4 ?_
    refine v_geti dX7_go_5 gX7_203 sh_92 rfl ?_
    refine v_eq (show (wr Mz 92 7 (nI (k + i))) 92 6 = nI n from by simp [wr, wa, upd]; exact hT.1) ?_
    refine v_icmpN_ge (tgt := 38) dX7_go_8 (by decide) (by omega) (by omega) (fun h8 => absurd h8 (by omega)) (fun h8 => ?_)
    refine v_ald0 dX7_go_11 ?_
    refine v_getr dX7_go_12 gX7_22 sh_92 rfl ?_
    refine v_ald0 dX7_go_15 ?_
    refine v_geti dX7_go_16 gX7_207 sh_92 rfl ?_
    refine v_eq (show (wr Mz 92 7 (nI (k + i))) 92 7 = nI (k + i) from by simp [wr, wa, upd]) ?_
    refine v_ialdN dX7_go_19 sh_97 (by omega) (by decide) ?_
    refine v_eq (show (wr Mz 92 7 (nI (k + i))) 97 (k + i) = nI 32 from by rw [show (wr Mz 92 7 (nI (k + i))) 97 = Mz 97 from by simp [wr, wa]]; rw [(hT.2.2 (k + i) (by omega)).1, skp_in tp (n := n) (k := k) (by omega) (by omega)]) ?_
    refine v_bipushN (n := 32) dX7_go_20 (by decide) ?_
    refine v_icmpN_ne (tgt := 38) dX7_go_22 (by decide) (by omega) (by omega) (fun h22 => absurd h22 (fun q => q rfl)) (fun h22 => ?_)
    refine v_ald0 dX7_go_25 ?_
    refine v_dup dX7_go_26 ?_
    refine v_geti dX7_go_27 gX7_207 sh_92 rfl ?_
    refine v_eq (show (wr Mz 92 7 (nI (k + i))) 92 7 = nI (k + i) from by simp [wr, wa, upd]) ?_
    refine v_iconstN (n := 1) dX7_go_30 ?_
    refine v_iaddN dX7_go_31 ?_
    refine v_puti dX7_go_32 pX7_207 sh_92 rfl rfl rfl ?_
    refine v_goto (tgt := 0) dX7_go_35 (by decide) ?_
    exact v_lm rfl (wr_wr _ _ _ _ _) ih
  · obtain ⟨s, hse'⟩ : ∃ s, s = skp tp n k := ⟨_, rfl⟩
    have hse : skp tp n k = s := hse'.symm
    rw [hse] at hs0 hst0
    have hst : s < n → tp s ≠ 32 := fun q => by rcases hst0 with z | z; (exact absurd z (by omega)); exact z
    refine v_lm (M' := (wr Mz 92 7 (nI s))) rfl (by rw [hse, show k + (s - k) = s by omega]) ?_
    refine v_ald0 dX7_go_0 ?_
    refine v_geti dX7_go_1 gX7_207 sh_92 rfl ?_
    refine v_eq (show (wr Mz 92 7 (nI s)) 92 7 = nI s from by simp [wr, wa, upd]) ?_
    refine v_ald0 dX7_go_4 ?_
    refine v_geti dX7_go_5 gX7_203 sh_92 rfl ?_
    refine v_eq (show (wr Mz 92 7 (nI s)) 92 6 = nI n from by simp [wr, wa, upd]; exact hT.1) ?_
    refine v_icmpN_ge (tgt := 38) dX7_go_8 (by decide) (by omega) (by omega) (fun h8 => ?_) (fun h8 => ?_)
    · refine v_ald0 dX7_go_38 ?_
      refine v_ald0 dX7_go_39 ?_
      refine v_geti dX7_go_40 gX7_207 sh_92 rfl ?_
      refine v_eq (show (wr Mz 92 7 (nI s)) 92 7 = nI s from by simp [wr, wa, upd]) ?_
      refine v_puti dX7_go_43 pX7_210 sh_92 rfl rfl rfl ?_
      refine v_ald0 dX7_go_46 ?_
      refine v_geti dX7_go_47 gX7_210 sh_92 rfl ?_
      refine v_eq (show (wr (wr Mz 92 7 (nI s)) 92 8 (nI s)) 92 8 = nI s from by simp [wr, wa, upd]) ?_
      refine v_ald0 dX7_go_50 ?_
      refine v_geti dX7_go_51 gX7_213 sh_92 rfl ?_
      refine v_eq (show (wr (wr Mz 92 7 (nI s)) 92 8 (nI s)) 92 11 = we from by simp [wr, wa, upd]; exact hw) ?_
      refine v_cut (pc' := 62) (L' := [some (.inr 92), none]) (S' := [.inl (b2 (decide (nI s = we)))]) (M' := (wr (wr Mz 92 7 (nI s)) 92 8 (nI s))) (fun J62 => ?_) ?_
      · refine v_icmp_ne (tgt := 61) dX7_go_54 (by decide) (fun h54 => ?_) (fun h54 => ?_)
        · refine v_iconstN (n := 0) dX7_go_61 ?_
          rw [show b2 (decide (nI s = we)) = nI 0 from by rw [decide_eq_false h54]; rfl] at J62
          exact J62
        · refine v_iconstN (n := 1) dX7_go_57 ?_
          refine v_goto (tgt := 62) dX7_go_58 (by decide) ?_
          rw [show b2 (decide (nI s = we)) = nI 1 from by rw [decide_eq_true h54]; rfl] at J62
          exact J62
      · refine v_ist1 dX7_go_62 (by decide) ?_
        refine v_ald0 dX7_go_63 ?_
        refine v_geti dX7_go_64 gX7_210 sh_92 rfl ?_
        refine v_eq (show (wr (wr Mz 92 7 (nI s)) 92 8 (nI s)) 92 8 = nI s from by simp [wr, wa, upd]) ?_
        refine v_ald0 dX7_go_67 ?_
        refine v_geti dX7_go_68 gX7_203 sh_92 rfl ?_
        refine v_eq (show (wr (wr Mz 92 7 (nI s)) 92 8 (nI s)) 92 6 = nI n from by simp [wr, wa, upd]; exact hT.1) ?_
        refine v_icmpN_ne (tgt := 82) dX7_go_71 (by decide) (by omega) (by omega) (fun h71 => absurd h71 (fun q => q (by omega))) (fun h71 => ?_)
        refine v_ald0 dX7_go_74 ?_
        refine v_iconstN (n := 0) dX7_go_75 ?_
        refine v_puti dX7_go_76 pX7_216 sh_92 rfl rfl rfl ?_
        refine v_goto (tgt := 303) dX7_go_79 (by decide) ?_
        exact v_vret dX7_go_303 rfl (⟨(((NxM.refl Mz).w (by decide)).w (by decide)).w (by decide), by rw [show nxt tp n k we = (0, s, s, we) from by unfold nxt; rw [hse, if_pos (by omega)]]; exact ⟨by simp [wr, wa, upd, tkN], by simp [wr, wa, upd], by simp [wr, wa, upd], by simp [wr, wa, upd]; exact hw, fun q => absurd q (by simp), fun q => absurd q (by simp)⟩⟩)
    · refine v_ald0 dX7_go_11 ?_
      refine v_getr dX7_go_12 gX7_22 sh_92 rfl ?_
      refine v_ald0 dX7_go_15 ?_
      refine v_geti dX7_go_16 gX7_207 sh_92 rfl ?_
      refine v_eq (show (wr Mz 92 7 (nI s)) 92 7 = nI s from by simp [wr, wa, upd]) ?_
      refine v_ialdN dX7_go_19 sh_97 (by omega) (by decide) ?_
      have hb := (hT.2.2 s h8).2
      refine v_eq (show (wr Mz 92 7 (nI s)) 97 (s) = nI (tp s) from by rw [show (wr Mz 92 7 (nI s)) 97 = Mz 97 from by simp [wr, wa]]; exact (hT.2.2 s h8).1) ?_
      refine v_bipushN (n := 32) dX7_go_20 (by decide) ?_
      refine v_icmpN_ne (tgt := 38) dX7_go_22 (by decide) (by omega) (by omega) (fun h22 => ?_) (fun h22 => absurd h22 (hst h8))
      refine v_ald0 dX7_go_38 ?_
      refine v_ald0 dX7_go_39 ?_
      refine v_geti dX7_go_40 gX7_207 sh_92 rfl ?_
      refine v_eq (show (wr Mz 92 7 (nI s)) 92 7 = nI s from by simp [wr, wa, upd]) ?_
      refine v_puti dX7_go_43 pX7_210 sh_92 rfl rfl rfl ?_
      refine v_ald0 dX7_go_46 ?_
      refine v_geti dX7_go_47 gX7_210 sh_92 rfl ?_
      refine v_eq (show (wr (wr Mz 92 7 (nI s)) 92 8 (nI s)) 92 8 = nI s from by simp [wr, wa, upd]) ?_
      refine v_ald0 dX7_go_50 ?_
      refine v_geti dX7_go_51 gX7_213 sh_92 rfl ?_
      refine v_eq (show (wr (wr Mz 92 7 (nI s)) 92 8 (nI s)) 92 11 = we from by simp [wr, wa, upd]; exact hw) ?_
      refine v_cut (pc' := 62) (L' := [some (.inr 92), none]) (S' := [.inl (b2 (decide (nI s = we)))]) (M' := (wr (wr Mz 92 7 (nI s)) 92 8 (nI s))) (fun J62 => ?_) ?_
      · refine v_icmp_ne (tgt := 61) dX7_go_54 (by decide) (fun h54 => ?_) (fun h54 => ?_)
        · refine v_iconstN (n := 0) dX7_go_61 ?_
          rw [show b2 (decide (nI s = we)) = nI 0 from by rw [decide_eq_false h54]; rfl] at J62
          exact J62
        · refine v_iconstN (n := 1) dX7_go_57 ?_
          refine v_goto (tgt := 62) dX7_go_58 (by decide) ?_
          rw [show b2 (decide (nI s = we)) = nI 1 from by rw [decide_eq_true h54]; rfl] at J62
          exact J62
      · refine v_ist1 dX7_go_62 (by decide) ?_
        refine v_ald0 dX7_go_63 ?_
        refine v_geti dX7_go_64 gX7_210 sh_92 rfl ?_
        refine v_eq (show (wr (wr Mz 92 7 (nI s)) 92 8 (nI s)) 92 8 = nI s from by simp [wr, wa, upd]) ?_
        refine v_ald0 dX7_go_67 ?_
        refine v_geti dX7_go_68 gX7_203 sh_92 rfl ?_
        refine v_eq (show (wr (wr Mz 92 7 (nI s)) 92 8 (nI s)) 92 6 = nI n from by simp [wr, wa, upd]; exact hT.1) ?_
        refine v_icmpN_ne (tgt := 82) dX7_go_71 (by decide) (by omega) (by omega) (fun h71 => ?_) (fun h71 => absurd h71 (by omega))
        refine v_ald0 dX7_go_82 ?_
        refine v_ald0 dX7_go_83 ?_
        refine v_geti dX7_go_84 gX7_210 sh_92 rfl ?_
        refine v_eq (show (wr (wr Mz 92 7 (nI s)) 92 8 (nI s)) 92 8 = nI s from by simp [wr, wa, upd]) ?_
        refine v_callVi (kM_isLetter E _ (hT.w (((NxM.refl Mz).w (by decide)).w (by decide))) (by omega)) dX7_go_87 cX7_219 rfl sh_92 rfl (by decide) (Nat.le_of_ble_eq_true rfl) rfl (fun r M1z hq => ?_)
        obtain ⟨hr, hm⟩ := hq
        rw [hr, hm]
        clear hr hm
        refine v_eq (show b2 (decide (s < n) && isLe (tp s)) = b2 (isLe (tp s)) from by rw [decide_eq_true h8, Bool.true_and]) ?_
        refine v_if_eq (tgt := 154) dX7_go_90 (by decide) (fun h90 => ?_) (fun h90 => ?_)
        · have hle : ¬ isLe (tp s) = true := by rw [b2_0.mp h90]; decide
          refine v_ald0 dX7_go_154 ?_
          refine v_ald0 dX7_go_155 ?_
          refine v_geti dX7_go_156 gX7_210 sh_92 rfl ?_
          refine v_eq (show (wr (wr Mz 92 7 (nI s)) 92 8 (nI s)) 92 8 = nI s from by simp [wr, wa, upd]) ?_
          refine v_callVi (kM_isFigure E _ (hT.w (((NxM.refl Mz).w (by decide)).w (by decide))) (by omega)) dX7_go_159 cX7_225 rfl sh_92 rfl (by decide) (Nat.le_of_ble_eq_true rfl) rfl (fun r M1z hq => ?_)
          obtain ⟨hr, hm⟩ := hq
          rw [hr, hm]
          clear hr hm
          refine v_eq (show b2 (decide (s < n) && isDi (tp s)) = b2 (isDi (tp s)) from by rw [decide_eq_true h8, Bool.true_and]) ?_
          refine v_if_eq (tgt := 275) dX7_go_162 (by decide) (fun h162 => ?_) (fun h162 => ?_)
          · have hdi : ¬ isDi (tp s) = true := by rw [b2_0.mp h162]; decide
            refine v_ald0 dX7_go_275 ?_
            refine v_iconstN (n := 3) dX7_go_276 ?_
            refine v_puti dX7_go_277 pX7_216 sh_92 rfl rfl rfl ?_
            refine v_ald0 dX7_go_280 ?_
            refine v_ald0 dX7_go_281 ?_
            refine v_getr dX7_go_282 gX7_22 sh_92 rfl ?_
            refine v_ald0 dX7_go_285 ?_
            refine v_geti dX7_go_286 gX7_210 sh_92 rfl ?_
            refine v_eq (show (wr (wr (wr Mz 92 7 (nI s)) 92 8 (nI s)) 92 9 (nI 3)) 92 8 = nI s from by simp [wr, wa, upd]) ?_
            refine v_ialdN dX7_go_289 sh_97 (by omega) (by decide) ?_
            refine v_eq (show (wr (wr (wr Mz 92 7 (nI s)) 92 8 (nI s)) 92 9 (nI 3)) 97 (s) = nI (tp s) from by rw [show (wr (wr (wr Mz 92 7 (nI s)) 92 8 (nI s)) 92 9 (nI 3)) 97 = Mz 97 from by simp [wr, wa]]; exact (hT.2.2 s h8).1) ?_
            refine v_puti dX7_go_290 pX7_222 sh_92 rfl rfl rfl ?_
            refine v_ald0 dX7_go_293 ?_
            refine v_dup dX7_go_294 ?_
            refine v_geti dX7_go_295 gX7_207 sh_92 rfl ?_
            refine v_eq (show (wr (wr (wr (wr Mz 92 7 (nI s)) 92 8 (nI s)) 92 9 (nI 3)) 92 10 (nI (tp s))) 92 7 = nI s from by simp [wr, wa, upd]) ?_
            refine v_iconstN (n := 1) dX7_go_298 ?_
            refine v_iaddN dX7_go_299 ?_
            refine v_puti dX7_go_300 pX7_207 sh_92 rfl rfl rfl ?_
            exact v_vret dX7_go_303 rfl (⟨(((((NxM.refl Mz).w (by decide)).w (by decide)).w (by decide)).w (by decide)).w (by decide), by rw [show nxt tp n k we = (3, s, s + 1, we) from by unfold nxt; rw [hse, if_neg (by omega), if_neg hle, if_neg hdi]]; exact ⟨by simp [wr, wa, upd, tkN], by simp [wr, wa, upd], by simp [wr, wa, upd], by simp [wr, wa, upd]; exact hw, fun _ => by simp [wr, wa, upd], fun q => absurd q (by simp)⟩⟩)
          · refine v_ald0 dX7_go_165 ?_
            refine v_iconstN (n := 0) dX7_go_166 ?_
            refine v_puti dX7_go_167 pX7_222 sh_92 rfl rfl rfl ?_
            have hsn : s < n := h8
            have hdi : isDi (tp s) = true := b2_1.mp h162
            have hee0 := drn_ge tp (Nat.le_of_lt hsn)
            have hst0 := drn_st tp (Nat.le_of_lt hsn)
            refine v_loop (pc := 170) (fun _ => [some (.inr 92), some (.inl (b2 (decide (nI s = we))))]) (fun i => (wr (wr (wr (wr Mz 92 7 (nI s)) 92 8 (nI s)) 92 10 (nI (vq tp s i))) 92 7 (nI (s + i)))) (drn tp n s - s) rfl (show wr (wr (wr Mz 92 7 (nI s)) 92 8 (nI s)) 92 10 (nI 0) = wr (wr (wr (wr Mz 92 7 (nI s)) 92 8 (nI s)) 92 10 (nI 0)) 92 7 (nI s) from wr_same (by simp [wr, wa, upd])) (fun i hi ih => ?_) ?_
            · have hdi1 := isDi_lt (drn_in tp (n := n) (k := s) (j := s + i) (by omega) (by omega))
              refine v_ald0 dX7_go_170 ?_
              refine v_ald0 dX7_go_171 ?_
              refine v_geti dX7_go_172 gX7_207 sh_92 rfl ?_
              refine v_eq (show (wr (wr (wr (wr Mz 92 7 (nI s)) 92 8 (nI s)) 92 10 (nI (vq tp s i))) 92 7 (nI (s + i))) 92 7 = nI (s + i) from by simp [wr, wa, upd]) ?_
              refine v_callVi (kM_isFigure E _ (hT.w (((((NxM.refl Mz).w (by decide)).w (by decide)).w (by decide)).w (by decide))) (by omega)) dX7_go_175 cX7_225 rfl sh_92 rfl (by decide) (Nat.le_of_ble_eq_true rfl) rfl (fun r M1z hq => ?_)
              obtain ⟨hr, hm⟩ := hq
              rw [hr, hm]
              clear hr hm
              refine v_eq (show b2 (decide (s + i < n) && isDi (tp (s + i))) = b2 true from by rw [decide_eq_true (by omega), drn_in tp (n := n) (k := s) (by omega) (by omega)]; rfl) ?_
              refine v_if_eq (tgt := 238) dX7_go_178 (by decide) (fun h178 => absurd h178 (by decide)) (fun h178 => ?_)
              refine v_ald0 dX7_go_181 ?_
              refine v_ald0 dX7_go_182 ?_
              refine v_geti dX7_go_183 gX7_207 sh_92 rfl ?_
              refine v_eq (show (wr (wr (wr (wr Mz 92 7 (nI s)) 92 8 (nI s)) 92 10 (nI (vq tp s i))) 92 7 (nI (s + i))) 92 7 = nI (s + i) from by simp [wr, wa, upd]) ?_
              refine v_ald0 dX7_go_186 ?_
              refine v_geti dX7_go_187 gX7_210 sh_92 rfl ?_
              refine v_eq (show (wr (wr (wr (wr Mz 92 7 (nI s)) 92 8 (nI s)) 92 10 (nI (vq tp s i))) 92 7 (nI (s + i))) 92 8 = nI s from by simp [wr, wa, upd]) ?_
              refine v_isubN dX7_go_190 (by omega) ?_
              refine v_eq (show nI (s + i - s) = nI i from by congr 1; omega) ?_
              refine v_iconstN (n := 4) dX7_go_191 ?_
              refine v_icmpN_ge (tgt := 218) dX7_go_192 (by decide) (by omega) (by omega) (fun h192 => ?_) (fun h192 => ?_)
              · refine v_ald0 dX7_go_218 ?_
                refine v_geti dX7_go_219 gX7_222 sh_92 rfl ?_
                refine v_eq (show (wr (wr (wr (wr Mz 92 7 (nI s)) 92 8 (nI s)) 92 10 (nI (vq tp s i))) 92 7 (nI (s + i))) 92 10 = nI (vq tp s (i + 1)) from by simp [wr, wa, upd, vq, show ¬ i < 4 by omega, show ¬ i + 1 < 4 by omega]) ?_
                refine v_puti dX7_go_222 pX7_222 sh_92 rfl rfl rfl ?_
                refine v_ald0 dX7_go_225 ?_
                refine v_dup dX7_go_226 ?_
                refine v_geti dX7_go_227 gX7_207 sh_92 rfl ?_
                refine v_eq (show wr (wr (wr (wr (wr Mz 92 7 (nI s)) 92 8 (nI s)) 92 10 (nI (vq tp s i))) 92 7 (nI (s + i))) 92 10 _ 92 7 = nI (s + i) from by simp [wr, wa, upd]) ?_
                refine v_iconstN (n := 1) dX7_go_230 ?_
                refine v_iaddN dX7_go_231 ?_
                refine v_puti dX7_go_232 pX7_207 sh_92 rfl rfl rfl ?_
                refine v_goto (tgt := 170) dX7_go_235 (by decide) ?_
                exact v_lm rfl (wr_4 (by decide)) ih
              · refine v_bipushN (n := 10) dX7_go_195 (by decide) ?_
                refine v_ald0 dX7_go_197 ?_
                refine v_geti dX7_go_198 gX7_222 sh_92 rfl ?_
                refine v_eq (show (wr (wr (wr (wr Mz 92 7 (nI s)) 92 8 (nI s)) 92 10 (nI (vq tp s i))) 92 7 (nI (s + i))) 92 10 = nI (numK tp s i) from by simp [wr, wa, upd, vq, h192]) ?_
                refine v_imulN dX7_go_201 ?_
                refine v_ald0 dX7_go_202 ?_
                refine v_getr dX7_go_203 gX7_22 sh_92 rfl ?_
                refine v_ald0 dX7_go_206 ?_
                refine v_geti dX7_go_207 gX7_207 sh_92 rfl ?_
                refine v_eq (show (wr (wr (wr (wr Mz 92 7 (nI s)) 92 8 (nI s)) 92 10 (nI (vq tp s i))) 92 7 (nI (s + i))) 92 7 = nI (s + i) from by simp [wr, wa, upd]) ?_
                refine v_ialdN dX7_go_210 sh_97 (by omega) (by decide) ?_
                refine v_eq (show (wr (wr (wr (wr Mz 92 7 (nI s)) 92 8 (nI s)) 92 10 (nI (vq tp s i))) 92 7 (nI (s + i))) 97 (s + i) = nI (tp (s + i)) from by rw [show (wr (wr (wr (wr Mz 92 7 (nI s)) 92 8 (nI s)) 92 10 (nI (vq tp s i))) 92 7 (nI (s + i))) 97 = Mz 97 from by simp [wr, wa]]; exact (hT.2.2 (s + i) (by omega)).1) ?_
                refine v_iaddN dX7_go_211 ?_
                refine v_bipushN (n := 48) dX7_go_212 (by decide) ?_
                refine v_isubN dX7_go_214 (by omega) ?_
                refine v_eq (show nI (10 * numK tp s i + tp (s + i) - 48) = nI (vq tp s (i + 1)) from by unfold vq; rw [show (if i + 1 < 4 then i + 1 else 4) = i + 1 by split <;> omega]; congr 1; show _ = numK tp s i * 10 + (tp (s + i) - 48); omega) ?_
                refine v_goto (tgt := 222) dX7_go_215 (by decide) ?_
                refine v_puti dX7_go_222 pX7_222 sh_92 rfl rfl rfl ?_
                refine v_ald0 dX7_go_225 ?_
                refine v_dup dX7_go_226 ?_
                refine v_geti dX7_go_227 gX7_207 sh_92 rfl ?_
                refine v_eq (show wr (wr (wr (wr (wr Mz 92 7 (nI s)) 92 8 (nI s)) 92 10 (nI (vq tp s i))) 92 7 (nI (s + i))) 92 10 _ 92 7 = nI (s + i) from by simp [wr, wa, upd]) ?_
                refine v_iconstN (n := 1) dX7_go_230 ?_
                refine v_iaddN dX7_go_231 ?_
                refine v_puti dX7_go_232 pX7_207 sh_92 rfl rfl rfl ?_
                refine v_goto (tgt := 170) dX7_go_235 (by decide) ?_
                exact v_lm rfl (wr_4 (by decide)) ih
            · obtain ⟨e, hee⟩ : ∃ e, e = drn tp n s := ⟨_, rfl⟩
              rw [← hee] at hee0 hst0
              refine v_lm (M' := (wr (wr (wr (wr Mz 92 7 (nI s)) 92 8 (nI s)) 92 10 (nI (vq tp s (e - s)))) 92 7 (nI e))) rfl (by rw [← hee, show s + (e - s) = e by omega]) ?_
              refine v_ald0 dX7_go_170 ?_
              refine v_ald0 dX7_go_171 ?_
              refine v_geti dX7_go_172 gX7_207 sh_92 rfl ?_
              refine v_eq (show (wr (wr (wr (wr Mz 92 7 (nI s)) 92 8 (nI s)) 92 10 (nI (vq tp s (e - s)))) 92 7 (nI e)) 92 7 = nI e from by simp [wr, wa, upd]) ?_
              refine v_callVi (kM_isFigure E _ (hT.w (((((NxM.refl Mz).w (by decide)).w (by decide)).w (by decide)).w (by decide))) (by omega)) dX7_go_175 cX7_225 rfl sh_92 rfl (by decide) (Nat.le_of_ble_eq_true rfl) rfl (fun r M1z hq => ?_)
              obtain ⟨hr, hm⟩ := hq
              rw [hr, hm]
              clear hr hm
              refine v_eq (show b2 (decide (e < n) && isDi (tp e)) = b2 false from by rcases hst0 with z | z; (rw [decide_eq_false (by omega)]; rfl); rw [z, Bool.and_false]) ?_
              refine v_if_eq (tgt := 238) dX7_go_178 (by decide) (fun h178 => ?_) (fun h178 => absurd h178 (fun q => q rfl))
              refine v_ald0 dX7_go_238 ?_
              refine v_ild1 dX7_go_239 ?_
              refine v_if_ne (tgt := 256) dX7_go_240 (by decide) (fun h240 => ?_) (fun h240 => ?_)
              · refine v_iconstN (n := 4) dX7_go_256 ?_
                refine v_goto (tgt := 261) dX7_go_257 (by decide) ?_
                refine v_puti dX7_go_261 pX7_216 sh_92 rfl rfl rfl ?_
                refine v_ald0 dX7_go_264 ?_
                refine v_ald0 dX7_go_265 ?_
                refine v_geti dX7_go_266 gX7_207 sh_92 rfl ?_
                refine v_eq (show wr (wr (wr (wr (wr Mz 92 7 (nI s)) 92 8 (nI s)) 92 10 (nI (vq tp s (e - s)))) 92 7 (nI e)) 92 9 _ 92 7 = nI e from by simp [wr, wa, upd]) ?_
                refine v_puti dX7_go_269 pX7_213 sh_92 rfl rfl rfl ?_
                refine v_goto (tgt := 303) dX7_go_272 (by decide) ?_
                exact v_vret dX7_go_303 rfl (⟨((((((NxM.refl Mz).w (by decide)).w (by decide)).w (by decide)).w (by decide)).w (by decide)).w (by decide), by rw [show nxt tp n k we = (4, s, drn tp n s, nI (drn tp n s)) from by unfold nxt; rw [hse, if_neg (by omega), if_neg hle, if_pos hdi, if_pos (of_decide_eq_true (b2_1.mp h240))], ← hee]; exact ⟨by simp [wr, wa, upd, tkN], by simp [wr, wa, upd], by simp [wr, wa, upd], by simp [wr, wa, upd], fun q => absurd q (by simp), fun q => absurd q (by simp)⟩⟩)
              · refine v_ald0 dX7_go_243 ?_
                refine v_geti dX7_go_244 gX7_207 sh_92 rfl ?_
                refine v_eq (show (wr (wr (wr (wr Mz 92 7 (nI s)) 92 8 (nI s)) 92 10 (nI (vq tp s (e - s)))) 92 7 (nI e)) 92 7 = nI e from by simp [wr, wa, upd]) ?_
                refine v_ald0 dX7_go_247 ?_
                refine v_geti dX7_go_248 gX7_210 sh_92 rfl ?_
                refine v_eq (show (wr (wr (wr (wr Mz 92 7 (nI s)) 92 8 (nI s)) 92 10 (nI (vq tp s (e - s)))) 92 7 (nI e)) 92 8 = nI s from by simp [wr, wa, upd]) ?_
                refine v_isubN dX7_go_251 (by omega) ?_
                refine v_iconstN (n := 4) dX7_go_252 ?_
                refine v_icmpN_le (tgt := 260) dX7_go_253 (by decide) (by omega) (by omega) (fun h253 => ?_) (fun h253 => ?_)
                · refine v_iconstN (n := 2) dX7_go_260 ?_
                  refine v_puti dX7_go_261 pX7_216 sh_92 rfl rfl rfl ?_
                  refine v_ald0 dX7_go_264 ?_
                  refine v_ald0 dX7_go_265 ?_
                  refine v_geti dX7_go_266 gX7_207 sh_92 rfl ?_
                  refine v_eq (show wr (wr (wr (wr (wr Mz 92 7 (nI s)) 92 8 (nI s)) 92 10 (nI (vq tp s (e - s)))) 92 7 (nI e)) 92 9 _ 92 7 = nI e from by simp [wr, wa, upd]) ?_
                  refine v_puti dX7_go_269 pX7_213 sh_92 rfl rfl rfl ?_
                  refine v_goto (tgt := 303) dX7_go_272 (by decide) ?_
                  exact v_vret dX7_go_303 rfl (⟨((((((NxM.refl Mz).w (by decide)).w (by decide)).w (by decide)).w (by decide)).w (by decide)).w (by decide), by rw [show nxt tp n k we = (2, s, drn tp n s, nI (drn tp n s)) from by unfold nxt; rw [hse, if_neg (by omega), if_neg hle, if_pos hdi, if_neg (of_decide_eq_false (b2_0.mp h240))], ← hee]; exact ⟨by rw [show tkN (2, s, e, nI e) = 2 from if_neg (fun q => absurd q.2 (by show ¬ 4 < e - s; omega))]; simp [wr, wa, upd], by simp [wr, wa, upd], by simp [wr, wa, upd], by simp [wr, wa, upd], fun q => absurd q (by simp), fun _ _ => by simp [wr, wa, upd, vq, show (if e - s < 4 then e - s else 4) = e - s by split <;> omega]⟩⟩)
                · refine v_iconstN (n := 4) dX7_go_256 ?_
                  refine v_goto (tgt := 261) dX7_go_257 (by decide) ?_
                  refine v_puti dX7_go_261 pX7_216 sh_92 rfl rfl rfl ?_
                  refine v_ald0 dX7_go_264 ?_
                  refine v_ald0 dX7_go_265 ?_
                  refine v_geti dX7_go_266 gX7_207 sh_92 rfl ?_
                  refine v_eq (show wr (wr (wr (wr (wr Mz 92 7 (nI s)) 92 8 (nI s)) 92 10 (nI (vq tp s (e - s)))) 92 7 (nI e)) 92 9 _ 92 7 = nI e from by simp [wr, wa, upd]) ?_
                  refine v_puti dX7_go_269 pX7_213 sh_92 rfl rfl rfl ?_
                  refine v_goto (tgt := 303) dX7_go_272 (by decide) ?_
                  exact v_vret dX7_go_303 rfl (⟨((((((NxM.refl Mz).w (by decide)).w (by decide)).w (by decide)).w (by decide)).w (by decide)).w (by decide), by rw [show nxt tp n k we = (2, s, drn tp n s, nI (drn tp n s)) from by unfold nxt; rw [hse, if_neg (by omega), if_neg hle, if_pos hdi, if_neg (of_decide_eq_false (b2_0.mp h240))], ← hee]; exact ⟨by rw [show tkN (2, s, e, nI e) = 4 from if_pos ⟨rfl, by show 4 < e - s; omega⟩]; simp [wr, wa, upd], by simp [wr, wa, upd], by simp [wr, wa, upd], by simp [wr, wa, upd], fun q => absurd q (by simp), fun _ q => absurd q (by show ¬ e - s ≤ 4; omega)⟩⟩)
        · have hsn : s < n := h8
          have hle : isLe (tp s) = true := b2_1.mp h90
          have hee0 := lrn_ge tp (Nat.le_of_lt hsn)
          have hst0 := lrn_st tp (Nat.le_of_lt hsn)
          refine v_loop (pc := 93) (fun _ => [some (.inr 92), some (.inl (b2 (decide (nI s = we))))]) (fun i => (wr (wr (wr Mz 92 7 (nI s)) 92 8 (nI s)) 92 7 (nI (s + i)))) (lrn tp n s - s) rfl (wr_same (by simp [wr, wa, upd])) (fun i hi ih => ?_) ?_
          · refine v_ald0 dX7_go_93 ?_
            refine v_ald0 dX7_go_94 ?_
            refine v_geti dX7_go_95 gX7_207 sh_92 rfl ?_
            refine v_eq (show (wr (wr (wr Mz 92 7 (nI s)) 92 8 (nI s)) 92 7 (nI (s + i))) 92 7 = nI (s + i) from by simp [wr, wa, upd]) ?_
            refine v_callVi (kM_isLetter E _ (hT.w ((((NxM.refl Mz).w (by decide)).w (by decide)).w (by decide))) (by omega)) dX7_go_98 cX7_219 rfl sh_92 rfl (by decide) (Nat.le_of_ble_eq_true rfl) rfl (fun r M1z hq => ?_)
            obtain ⟨hr, hm⟩ := hq
            rw [hr, hm]
            clear hr hm
            refine v_eq (show b2 (decide (s + i < n) && isLe (tp (s + i))) = b2 true from by rw [decide_eq_true (by omega), lrn_in tp (n := n) (k := s) (by omega) (by omega)]; rfl) ?_
            refine v_if_eq (tgt := 117) dX7_go_101 (by decide) (fun h101 => absurd h101 (by decide)) (fun h101 => ?_)
            refine v_ald0 dX7_go_104 ?_
            refine v_dup dX7_go_105 ?_
            refine v_geti dX7_go_106 gX7_207 sh_92 rfl ?_
            refine v_eq (show (wr (wr (wr Mz 92 7 (nI s)) 92 8 (nI s)) 92 7 (nI (s + i))) 92 7 = nI (s + i) from by simp [wr, wa, upd]) ?_
            refine v_iconstN (n := 1) dX7_go_109 ?_
            refine v_iaddN dX7_go_110 ?_
            refine v_puti dX7_go_111 pX7_207 sh_92 rfl rfl rfl ?_
            refine v_goto (tgt := 93) dX7_go_114 (by decide) ?_
            exact v_lm rfl (wr_wr _ _ _ _ _) ih
          · obtain ⟨e, hee⟩ : ∃ e, e = lrn tp n s := ⟨_, rfl⟩
            rw [← hee] at hee0 hst0
            refine v_lm (M' := (wr (wr (wr Mz 92 7 (nI s)) 92 8 (nI s)) 92 7 (nI e))) rfl (by rw [← hee, show s + (e - s) = e by omega]) ?_
            refine v_ald0 dX7_go_93 ?_
            refine v_ald0 dX7_go_94 ?_
            refine v_geti dX7_go_95 gX7_207 sh_92 rfl ?_
            refine v_eq (show (wr (wr (wr Mz 92 7 (nI s)) 92 8 (nI s)) 92 7 (nI e)) 92 7 = nI e from by simp [wr, wa, upd]) ?_
            refine v_callVi (kM_isLetter E _ (hT.w ((((NxM.refl Mz).w (by decide)).w (by decide)).w (by decide))) (by omega)) dX7_go_98 cX7_219 rfl sh_92 rfl (by decide) (Nat.le_of_ble_eq_true rfl) rfl (fun r M1z hq => ?_)
            obtain ⟨hr, hm⟩ := hq
            rw [hr, hm]
            clear hr hm
            refine v_eq (show b2 (decide (e < n) && isLe (tp e)) = b2 false from by rcases hst0 with z | z; (rw [decide_eq_false (by omega)]; rfl); rw [z, Bool.and_false]) ?_
            refine v_if_eq (tgt := 117) dX7_go_101 (by decide) (fun h101 => ?_) (fun h101 => absurd h101 (fun q => q rfl))
            refine v_ald0 dX7_go_117 ?_
            refine v_ild1 dX7_go_118 ?_
            refine v_if_eq (tgt := 126) dX7_go_119 (by decide) (fun h119 => ?_) (fun h119 => ?_)
            · have hcl : ¬ nI s = we := of_decide_eq_false (b2_0.mp h119)
              refine v_iconstN (n := 1) dX7_go_126 ?_
              refine v_puti dX7_go_127 pX7_216 sh_92 rfl rfl rfl ?_
              refine v_ald0 dX7_go_130 ?_
              refine v_ald0 dX7_go_131 ?_
              refine v_getr dX7_go_132 gX7_22 sh_92 rfl ?_
              refine v_ald0 dX7_go_135 ?_
              refine v_geti dX7_go_136 gX7_210 sh_92 rfl ?_
              refine v_eq (show wr (wr (wr (wr Mz 92 7 (nI s)) 92 8 (nI s)) 92 7 (nI e)) 92 9 _ 92 8 = nI s from by simp [wr, wa, upd]) ?_
              refine v_ialdN dX7_go_139 sh_97 (by omega) (by decide) ?_
              refine v_eq (show wr (wr (wr (wr Mz 92 7 (nI s)) 92 8 (nI s)) 92 7 (nI e)) 92 9 _ 97 s = nI (tp s) from by rw [wr_ne (by decide), show (wr (wr (wr Mz 92 7 (nI s)) 92 8 (nI s)) 92 7 (nI e)) 97 = Mz 97 from by simp [wr, wa]]; exact (hT.2.2 s hsn).1) ?_
              refine v_puti dX7_go_140 pX7_222 sh_92 rfl rfl rfl ?_
              refine v_ald0 dX7_go_143 ?_
              refine v_ald0 dX7_go_144 ?_
              refine v_geti dX7_go_145 gX7_207 sh_92 rfl ?_
              refine v_eq (show wr (wr (wr (wr (wr Mz 92 7 (nI s)) 92 8 (nI s)) 92 7 (nI e)) 92 9 _) 92 10 _ 92 7 = nI e from by simp [wr, wa, upd]) ?_
              refine v_puti dX7_go_148 pX7_213 sh_92 rfl rfl rfl ?_
              refine v_goto (tgt := 303) dX7_go_151 (by decide) ?_
              exact v_vret dX7_go_303 rfl (⟨(((((((NxM.refl Mz).w (by decide)).w (by decide)).w (by decide)).w (by decide)).w (by decide)).w (by decide)), by rw [show nxt tp n k we = (1, s, lrn tp n s, nI (lrn tp n s)) from by unfold nxt; rw [hse, if_neg (by omega), if_pos hle, if_neg hcl], ← hee]; exact ⟨by simp [wr, wa, upd, tkN], by simp [wr, wa, upd], by simp [wr, wa, upd], by simp [wr, wa, upd], fun _ => by simp [wr, wa, upd], fun q => absurd q (by simp)⟩⟩)
            · have hcl : nI s = we := of_decide_eq_true (b2_1.mp h119)
              refine v_iconstN (n := 4) dX7_go_122 ?_
              refine v_goto (tgt := 127) dX7_go_123 (by decide) ?_
              refine v_puti dX7_go_127 pX7_216 sh_92 rfl rfl rfl ?_
              refine v_ald0 dX7_go_130 ?_
              refine v_ald0 dX7_go_131 ?_
              refine v_getr dX7_go_132 gX7_22 sh_92 rfl ?_
              refine v_ald0 dX7_go_135 ?_
              refine v_geti dX7_go_136 gX7_210 sh_92 rfl ?_
              refine v_eq (show wr (wr (wr (wr Mz 92 7 (nI s)) 92 8 (nI s)) 92 7 (nI e)) 92 9 _ 92 8 = nI s from by simp [wr, wa, upd]) ?_
              refine v_ialdN dX7_go_139 sh_97 (by omega) (by decide) ?_
              refine v_eq (show wr (wr (wr (wr Mz 92 7 (nI s)) 92 8 (nI s)) 92 7 (nI e)) 92 9 _ 97 s = nI (tp s) from by rw [wr_ne (by decide), show (wr (wr (wr Mz 92 7 (nI s)) 92 8 (nI s)) 92 7 (nI e)) 97 = Mz 97 from by simp [wr, wa]]; exact (hT.2.2 s hsn).1) ?_
              refine v_puti dX7_go_140 pX7_222 sh_92 rfl rfl rfl ?_
              refine v_ald0 dX7_go_143 ?_
              refine v_ald0 dX7_go_144 ?_
              refine v_geti dX7_go_145 gX7_207 sh_92 rfl ?_
              refine v_eq (show wr (wr (wr (wr (wr Mz 92 7 (nI s)) 92 8 (nI s)) 92 7 (nI e)) 92 9 _) 92 10 _ 92 7 = nI e from by simp [wr, wa, upd]) ?_
              refine v_puti dX7_go_148 pX7_213 sh_92 rfl rfl rfl ?_
              refine v_goto (tgt := 303) dX7_go_151 (by decide) ?_
              exact v_vret dX7_go_303 rfl (⟨(((((((NxM.refl Mz).w (by decide)).w (by decide)).w (by decide)).w (by decide)).w (by decide)).w (by decide)), by rw [show nxt tp n k we = (4, s, lrn tp n s, nI (lrn tp n s)) from by unfold nxt; rw [hse, if_neg (by omega), if_pos hle, if_pos hcl], ← hee]; exact ⟨by simp [wr, wa, upd, tkN], by simp [wr, wa, upd], by simp [wr, wa, upd], by simp [wr, wa, upd], fun _ => by simp [wr, wa, upd], fun q => absurd q (by simp)⟩⟩)
