/-! words and signs of the tape, as the Reader reads them -/
def TpC (M : mm) (tp : Nat → Nat) (n : Nat) : Prop := M 33 1 = nI n ∧ n ≤ 96 ∧ ∀ i, i < n → M 34 i = sb (tp i) ∧ tp i < 256
def tkC (tp : Nat → Nat) (t : tok) : Int32 := if t.1 = 0 then nI 1000 else if t.1 = 1 then nI 1001 else if t.1 = 2 then nI 1002 else if t.1 = 4 then nI 1003 else sb (tp t.2.1)
def ScC (M : mm) (tp : Nat → Nat) (t : tok) : Prop := M 33 3 = tkC tp t ∧ M 33 4 = nI t.2.1 ∧ M 33 5 = nI t.2.2.1 ∧ M 33 6 = t.2.2.2
theorem TpC.fr {A M : mm} {tp : Nat → Nat} {n : Nat} (h : TpC A tp n) (f : FrP A M) : TpC M tp n := ⟨(f.2.1 1 (by decide)).trans h.1, h.2.1, fun i hi => by rw [f.1 34 (by decide) (by decide) (by decide) (by decide)]; exact h.2.2 i hi⟩
theorem ScC.fr {A M : mm} {tp : Nat → Nat} {t : tok} (h : ScC A tp t) (f : FrP A M) : ScC M tp t := ⟨(f.2.1 3 (by decide)).trans h.1, (f.2.1 4 (by decide)).trans h.2.1, (f.2.1 5 (by decide)).trans h.2.2.1, (f.2.1 6 (by decide)).trans h.2.2.2⟩
theorem wr_same {M : mm} {a j : Nat} {x : Int32} (h : M a j = x) : M = wr M a j x := by rw [← h, wr_self]
theorem run_stop (P : Nat → Bool) : ∀ m k, run P m k = k + m ∨ P (run P m k) = false
  | 0, k => Or.inl rfl
  | m + 1, k => by
    unfold run
    by_cases hp : P k = true
    · rw [if_pos hp]
      rcases run_stop P m (k + 1) with e | e
      · exact Or.inl (by omega)
      · exact Or.inr e
    · rw [if_neg hp]; exact Or.inr (by simpa using hp)
theorem skp_st (tp : Nat → Nat) {n k : Nat} (h : k ≤ n) : skp tp n k = n ∨ tp (skp tp n k) ≠ 32 := by
  rcases run_stop (fun j => decide (tp j = 32)) (n - k) k with e | e
  · exact Or.inl (by unfold skp; omega)
  · exact Or.inr (of_decide_eq_false e)
theorem lrn_st (tp : Nat → Nat) {n k : Nat} (h : k ≤ n) : lrn tp n k = n ∨ isLe (tp (lrn tp n k)) = false := by
  rcases run_stop (fun j => isLe (tp j)) (n - k) k with e | e
  · exact Or.inl (by unfold lrn; omega)
  · exact Or.inr e
theorem drn_st (tp : Nat → Nat) {n k : Nat} (h : k ≤ n) : drn tp n k = n ∨ isDi (tp (drn tp n k)) = false := by
  rcases run_stop (fun j => isDi (tp j)) (n - k) k with e | e
  · exact Or.inl (by unfold drn; omega)
  · exact Or.inr e
theorem skp_in (tp : Nat → Nat) {n k j : Nat} (h1 : k ≤ j) (h2 : j < skp tp n k) : tp j = 32 := of_decide_eq_true (run_in (fun j => decide (tp j = 32)) _ _ j h1 h2)
theorem lrn_in (tp : Nat → Nat) {n k j : Nat} (h1 : k ≤ j) (h2 : j < lrn tp n k) : isLe (tp j) = true := run_in (fun j => isLe (tp j)) _ _ j h1 h2
theorem drn_in (tp : Nat → Nat) {n k j : Nat} (h1 : k ≤ j) (h2 : j < drn tp n k) : isDi (tp j) = true := run_in (fun j => isDi (tp j)) _ _ j h1 h2
set_option maxRecDepth 100000 in
set_option maxHeartbeats 4000000 in
theorem kR_isLetter (E : ev) (Mz : mm) {b : Nat} (hb : b < 256) : Ct E 0 yX2_isLetter cX2_isLetter 1 (some .boolean) [.inl (sb b)] Mz (qI E (fun r M' => r = b2 (isLe b) ∧ M' = Mz)) := by
  refine ct_of (by decide) (Nat.le_of_ble_eq_true rfl) ?_
  show V E 0 _ _ _ _ _ 0 [some (.inl (sb b))] [] Mz
  refine v_ild0 dX2_isLetter_0 ?_
  refine v_bipushN (n := 97) dX2_isLetter_1 (by decide) ?_
  refine v_icmp_lt (tgt := 16) dX2_isLetter_3 (by decide) (fun h3 => ?_) (fun h3 => ?_)
  · refine v_iconstN (n := 0) dX2_isLetter_16 ?_
    exact v_zret dX2_isLetter_17 rfl (by decide +kernel) (⟨by rw [← sbLeD ⟨b, hb⟩, decide_eq_false (Int32.not_le.mpr h3)]; rfl, rfl⟩)
  · refine v_ild0 dX2_isLetter_6 ?_
    refine v_bipushN (n := 122) dX2_isLetter_7 (by decide) ?_
    refine v_icmp_gt (tgt := 16) dX2_isLetter_9 (by decide) (fun h9 => ?_) (fun h9 => ?_)
    · refine v_iconstN (n := 0) dX2_isLetter_16 ?_
      exact v_zret dX2_isLetter_17 rfl (by decide +kernel) (⟨by rw [← sbLeD ⟨b, hb⟩, decide_eq_false (Int32.not_le.mpr h9), Bool.and_false]; rfl, rfl⟩)
    · refine v_iconstN (n := 1) dX2_isLetter_12 ?_
      refine v_goto (tgt := 17) dX2_isLetter_13 (by decide) ?_
      exact v_zret dX2_isLetter_17 rfl (by decide +kernel) (⟨by rw [← sbLeD ⟨b, hb⟩, decide_eq_true (Int32.not_lt.mp h3), decide_eq_true (Int32.not_lt.mp h9)]; rfl, rfl⟩)
set_option maxRecDepth 100000 in
set_option maxHeartbeats 4000000 in
theorem kR_isDigit (E : ev) (Mz : mm) {b : Nat} (hb : b < 256) : Ct E 0 yX2_isDigit cX2_isDigit 1 (some .boolean) [.inl (sb b)] Mz (qI E (fun r M' => r = b2 (isDi b) ∧ M' = Mz)) := by
  refine ct_of (by decide) (Nat.le_of_ble_eq_true rfl) ?_
  show V E 0 _ _ _ _ _ 0 [some (.inl (sb b))] [] Mz
  refine v_ild0 dX2_isDigit_0 ?_
  refine v_bipushN (n := 48) dX2_isDigit_1 (by decide) ?_
  refine v_icmp_lt (tgt := 16) dX2_isDigit_3 (by decide) (fun h3 => ?_) (fun h3 => ?_)
  · refine v_iconstN (n := 0) dX2_isDigit_16 ?_
    exact v_zret dX2_isDigit_17 rfl (by decide +kernel) (⟨by rw [← sbDiD ⟨b, hb⟩, decide_eq_false (Int32.not_le.mpr h3)]; rfl, rfl⟩)
  · refine v_ild0 dX2_isDigit_6 ?_
    refine v_bipushN (n := 57) dX2_isDigit_7 (by decide) ?_
    refine v_icmp_gt (tgt := 16) dX2_isDigit_9 (by decide) (fun h9 => ?_) (fun h9 => ?_)
    · refine v_iconstN (n := 0) dX2_isDigit_16 ?_
      exact v_zret dX2_isDigit_17 rfl (by decide +kernel) (⟨by rw [← sbDiD ⟨b, hb⟩, decide_eq_false (Int32.not_le.mpr h9), Bool.and_false]; rfl, rfl⟩)
    · refine v_iconstN (n := 1) dX2_isDigit_12 ?_
      refine v_goto (tgt := 17) dX2_isDigit_13 (by decide) ?_
      exact v_zret dX2_isDigit_17 rfl (by decide +kernel) (⟨by rw [← sbDiD ⟨b, hb⟩, decide_eq_true (Int32.not_lt.mp h3), decide_eq_true (Int32.not_lt.mp h9)]; rfl, rfl⟩)
set_option maxRecDepth 100000 in
set_option maxHeartbeats 4000000 in
theorem kR_next (E : ev) (Mz : mm) {tp : Nat → Nat} {n k : Nat} {we : Int32} (hT : TpC Mz tp n) (hk : k ≤ n) (hk5 : Mz 33 5 = nI k) (hw : Mz 33 6 = we) : Ct E 1 yX2_next cX2_next 2 none [.inr 33] Mz (qV E (fun M' => (∀ a, a ≠ 33 → M' a = Mz a) ∧ (∀ j, j ≠ 3 → j ≠ 4 → j ≠ 5 → j ≠ 6 → M' 33 j = Mz 33 j) ∧ ScC M' tp (nxt tp n k we))) := by
  refine ct_of (by decide) (Nat.le_of_ble_eq_true rfl) ?_
  show V E 1 _ _ _ _ _ 0 [some (.inr 33), none] [] Mz
  have hn96 := hT.2.1
  have hs0 := skp_ge tp hk
  have hst0 := skp_st tp hk
  refine v_loop (pc := 0) (fun _ => [some (.inr 33), none]) (fun i => (wr Mz 33 5 (nI (k + i)))) (skp tp n k - k) rfl (wr_same hk5) (fun i hi ih => ?_) ?_
  · refine v_ald0 dX2_next_0 ?_
    refine v_geti dX2_next_1 gX2_30 sh_33 rfl ?_
    refine v_eq (show (wr Mz 33 5 (nI (k + i))) 33 5 = nI (k + i) from by simp [wr, wa, upd]) ?_
    refine v_ald0 dX2_next_4 ?_
    refine v_geti dX2_next_5 gX2_26 sh_33 rfl ?_
    refine v_eq (show (wr Mz 33 5 (nI (k + i))) 33 1 = nI n from by simp [wr, wa, upd]; exact hT.1) ?_
    refine v_icmpN_ge (tgt := 38) dX2_next_8 (by decide) (by omega) (by omega) (fun h8 => absurd h8 (by omega)) (fun h8 => ?_)
    refine v_ald0 dX2_next_11 ?_
    refine v_getr dX2_next_12 gX2_9 sh_33 rfl ?_
    refine v_ald0 dX2_next_15 ?_
    refine v_geti dX2_next_16 gX2_30 sh_33 rfl ?_
    refine v_eq (show (wr Mz 33 5 (nI (k + i))) 33 5 = nI (k + i) from by simp [wr, wa, upd]) ?_
    refine v_baldN dX2_next_19 sh_34 (by omega) (by decide) ?_
    refine v_eq (show (wr Mz 33 5 (nI (k + i))) 34 (k + i) = nI 32 from by rw [show (wr Mz 33 5 (nI (k + i))) 34 = Mz 34 from by simp [wr, wa]]; rw [(hT.2.2 (k + i) (by omega)).1, skp_in tp (n := n) (k := k) (by omega) (by omega)]; rfl) ?_
    refine v_bipushN (n := 32) dX2_next_20 (by decide) ?_
    refine v_icmp_ne (tgt := 38) dX2_next_22 (by decide) (fun h22 => absurd h22 (fun q => q rfl)) (fun h22 => ?_)
    refine v_ald0 dX2_next_25 ?_
    refine v_dup dX2_next_26 ?_
    refine v_geti dX2_next_27 gX2_30 sh_33 rfl ?_
    refine v_eq (show (wr Mz 33 5 (nI (k + i))) 33 5 = nI (k + i) from by simp [wr, wa, upd]) ?_
    refine v_iconstN (n := 1) dX2_next_30 ?_
    refine v_iaddN dX2_next_31 ?_
    refine v_puti dX2_next_32 pX2_30 sh_33 rfl rfl rfl ?_
    refine v_goto (tgt := 0) dX2_next_35 (by decide) ?_
    exact v_lm rfl (wr_wr _ _ _ _ _) ih
  · obtain ⟨s, hse'⟩ : ∃ s, s = skp tp n k := ⟨_, rfl⟩
    have hse : skp tp n k = s := hse'.symm
    rw [hse] at hs0 hst0
    have hst : s < n → tp s ≠ 32 := fun q => by rcases hst0 with z | z; (exact absurd z (by omega)); exact z
    refine v_lm (M' := (wr Mz 33 5 (nI s))) rfl (by rw [hse, show k + (s - k) = s by omega]) ?_
    refine v_ald0 dX2_next_0 ?_
    refine v_geti dX2_next_1 gX2_30 sh_33 rfl ?_
    refine v_eq (show (wr Mz 33 5 (nI s)) 33 5 = nI s from by simp [wr, wa, upd]) ?_
    refine v_ald0 dX2_next_4 ?_
    refine v_geti dX2_next_5 gX2_26 sh_33 rfl ?_
    refine v_eq (show (wr Mz 33 5 (nI s)) 33 1 = nI n from by simp [wr, wa, upd]; exact hT.1) ?_
    refine v_icmpN_ge (tgt := 38) dX2_next_8 (by decide) (by omega) (by omega) (fun h8 => ?_) (fun h8 => ?_)
    · refine v_ald0 dX2_next_38 ?_
      refine v_ald0 dX2_next_39 ?_
      refine v_geti dX2_next_40 gX2_30 sh_33 rfl ?_
      refine v_eq (show (wr Mz 33 5 (nI s)) 33 5 = nI s from by simp [wr, wa, upd]) ?_
      refine v_puti dX2_next_43 pX2_52 sh_33 rfl rfl rfl ?_
      refine v_ald0 dX2_next_46 ?_
      refine v_geti dX2_next_47 gX2_30 sh_33 rfl ?_
      refine v_eq (show (wr (wr Mz 33 5 (nI s)) 33 4 (nI s)) 33 5 = nI s from by simp [wr, wa, upd]) ?_
      refine v_ald0 dX2_next_50 ?_
      refine v_geti dX2_next_51 gX2_26 sh_33 rfl ?_
      refine v_eq (show (wr (wr Mz 33 5 (nI s)) 33 4 (nI s)) 33 1 = nI n from by simp [wr, wa, upd]; exact hT.1) ?_
      refine v_icmpN_lt (tgt := 65) dX2_next_54 (by decide) (by omega) (by omega) (fun h54 => absurd h54 (by omega)) (fun h54 => ?_)
      refine v_ald0 dX2_next_57 ?_
      refine v_sipushN (n := 1000) dX2_next_58 (by decide +kernel) ?_
      refine v_puti dX2_next_61 pX2_59 sh_33 rfl rfl rfl ?_
      exact v_vret dX2_next_64 rfl (⟨fun a ha => by simp [wr, wa, ha], fun j h3 h4 h5 h6 => by simp [wr, wa, upd, h3, h4, h5, h6], by rw [show nxt tp n k we = (0, s, s, we) from by unfold nxt; rw [hse, if_pos (by omega)]]; exact ⟨(show _ = nI 1000 from by simp [wr, wa, upd]), by simp [wr, wa, upd], by simp [wr, wa, upd], by simp [wr, wa, upd]; exact hw⟩⟩)
    · refine v_ald0 dX2_next_11 ?_
      refine v_getr dX2_next_12 gX2_9 sh_33 rfl ?_
      refine v_ald0 dX2_next_15 ?_
      refine v_geti dX2_next_16 gX2_30 sh_33 rfl ?_
      refine v_eq (show (wr Mz 33 5 (nI s)) 33 5 = nI s from by simp [wr, wa, upd]) ?_
      refine v_baldN dX2_next_19 sh_34 (by omega) (by decide) ?_
      refine v_eq (show (wr Mz 33 5 (nI s)) 34 (s) = sb (tp s) from by rw [show (wr Mz 33 5 (nI s)) 34 = Mz 34 from by simp [wr, wa]]; exact (hT.2.2 s h8).1) ?_
      refine v_bipushN (n := 32) dX2_next_20 (by decide) ?_
      refine v_icmp_ne (tgt := 38) dX2_next_22 (by decide) (fun h22 => ?_) (fun h22 => absurd h22 (fun z => hst h8 ((sb_eq (hT.2.2 s h8).2 (by decide)).mp z)))
      refine v_ald0 dX2_next_38 ?_
      refine v_ald0 dX2_next_39 ?_
      refine v_geti dX2_next_40 gX2_30 sh_33 rfl ?_
      refine v_eq (show (wr Mz 33 5 (nI s)) 33 5 = nI s from by simp [wr, wa, upd]) ?_
      refine v_puti dX2_next_43 pX2_52 sh_33 rfl rfl rfl ?_
      refine v_ald0 dX2_next_46 ?_
      refine v_geti dX2_next_47 gX2_30 sh_33 rfl ?_
      refine v_eq (show (wr (wr Mz 33 5 (nI s)) 33 4 (nI s)) 33 5 = nI s from by simp [wr, wa, upd]) ?_
      refine v_ald0 dX2_next_50 ?_
      refine v_geti dX2_next_51 gX2_26 sh_33 rfl ?_
      refine v_eq (show (wr (wr Mz 33 5 (nI s)) 33 4 (nI s)) 33 1 = nI n from by simp [wr, wa, upd]; exact hT.1) ?_
      refine v_icmpN_lt (tgt := 65) dX2_next_54 (by decide) (by omega) (by omega) (fun h54 => ?_) (fun h54 => absurd h54 (by omega))
      refine v_ald0 dX2_next_65 ?_
      refine v_getr dX2_next_66 gX2_9 sh_33 rfl ?_
      refine v_ald0 dX2_next_69 ?_
      refine v_geti dX2_next_70 gX2_30 sh_33 rfl ?_
      refine v_eq (show (wr (wr Mz 33 5 (nI s)) 33 4 (nI s)) 33 5 = nI s from by simp [wr, wa, upd]) ?_
      refine v_baldN dX2_next_73 sh_34 (by omega) (by decide) ?_
      have hsn : s < n := h8
      refine v_eq (show (wr (wr Mz 33 5 (nI s)) 33 4 (nI s)) 34 (s) = sb (tp s) from by rw [show (wr (wr Mz 33 5 (nI s)) 33 4 (nI s)) 34 = Mz 34 from by simp [wr, wa]]; exact (hT.2.2 s h8).1) ?_
      refine v_callSi (kR_isLetter E _ (hT.2.2 s h8).2) dX2_next_74 cX2_80 rfl (by decide) (Nat.le_of_ble_eq_true rfl) rfl (fun r M1z hq => ?_)
      obtain ⟨hr, hm⟩ := hq
      rw [hr, hm]
      clear hr hm
      refine v_if_eq (tgt := 126) dX2_next_77 (by decide) (fun h77 => ?_) (fun h77 => ?_)
      · have hle : ¬ isLe (tp s) = true := by rw [b2_0.mp h77]; decide
        refine v_ald0 dX2_next_126 ?_
        refine v_getr dX2_next_127 gX2_9 sh_33 rfl ?_
        refine v_ald0 dX2_next_130 ?_
        refine v_geti dX2_next_131 gX2_30 sh_33 rfl ?_
        refine v_eq (show (wr (wr Mz 33 5 (nI s)) 33 4 (nI s)) 33 5 = nI s from by simp [wr, wa, upd]) ?_
        refine v_baldN dX2_next_134 sh_34 (by omega) (by decide) ?_
        refine v_eq (show (wr (wr Mz 33 5 (nI s)) 33 4 (nI s)) 34 (s) = sb (tp s) from by rw [show (wr (wr Mz 33 5 (nI s)) 33 4 (nI s)) 34 = Mz 34 from by simp [wr, wa]]; exact (hT.2.2 s h8).1) ?_
        refine v_callSi (kR_isDigit E _ (hT.2.2 s h8).2) dX2_next_135 cX2_84 rfl (by decide) (Nat.le_of_ble_eq_true rfl) rfl (fun r M1z hq => ?_)
        obtain ⟨hr, hm⟩ := hq
        rw [hr, hm]
        clear hr hm
        refine v_if_eq (tgt := 187) dX2_next_138 (by decide) (fun h138 => ?_) (fun h138 => ?_)
        · have hdi : ¬ isDi (tp s) = true := by rw [b2_0.mp h138]; decide
          refine v_ald0 dX2_next_187 ?_
          refine v_ald0 dX2_next_188 ?_
          refine v_getr dX2_next_189 gX2_9 sh_33 rfl ?_
          refine v_ald0 dX2_next_192 ?_
          refine v_geti dX2_next_193 gX2_30 sh_33 rfl ?_
          refine v_eq (show (wr (wr Mz 33 5 (nI s)) 33 4 (nI s)) 33 5 = nI s from by simp [wr, wa, upd]) ?_
          refine v_baldN dX2_next_196 sh_34 (by omega) (by decide) ?_
          refine v_eq (show (wr (wr Mz 33 5 (nI s)) 33 4 (nI s)) 34 (s) = sb (tp s) from by rw [show (wr (wr Mz 33 5 (nI s)) 33 4 (nI s)) 34 = Mz 34 from by simp [wr, wa]]; exact (hT.2.2 s h8).1) ?_
          refine v_puti dX2_next_197 pX2_59 sh_33 rfl rfl rfl ?_
          refine v_ald0 dX2_next_200 ?_
          refine v_dup dX2_next_201 ?_
          refine v_geti dX2_next_202 gX2_30 sh_33 rfl ?_
          refine v_eq (show (wr (wr (wr Mz 33 5 (nI s)) 33 4 (nI s)) 33 3 (sb (tp s))) 33 5 = nI s from by simp [wr, wa, upd]) ?_
          refine v_iconstN (n := 1) dX2_next_205 ?_
          refine v_iaddN dX2_next_206 ?_
          refine v_puti dX2_next_207 pX2_30 sh_33 rfl rfl rfl ?_
          exact v_vret dX2_next_210 rfl (⟨fun a ha => by simp [wr, wa, ha], fun j h3 h4 h5 h6 => by simp [wr, wa, upd, h3, h4, h5, h6], by rw [show nxt tp n k we = (3, s, s + 1, we) from by unfold nxt; rw [hse, if_neg (by omega), if_neg hle, if_neg hdi]]; exact ⟨(show _ = sb (tp s) from by simp [wr, wa, upd]), by simp [wr, wa, upd], by simp [wr, wa, upd], by simp [wr, wa, upd]; exact hw⟩⟩)
        · have hdi : isDi (tp s) = true := b2_1.mp h138
          refine v_ald0 dX2_next_141 ?_
          refine v_sipushN (n := 1002) dX2_next_142 (by decide +kernel) ?_
          refine v_puti dX2_next_145 pX2_59 sh_33 rfl rfl rfl ?_
          have hee0 := drn_ge tp (Nat.le_of_lt hsn)
          have hst0 := drn_st tp (Nat.le_of_lt hsn)
          refine v_loop (pc := 148) (fun _ => [some (.inr 33), none]) (fun i => (wr (wr (wr (wr Mz 33 5 (nI s)) 33 4 (nI s)) 33 3 (nI 1002)) 33 5 (nI (s + i)))) (drn tp n s - s) rfl (wr_same (by simp [wr, wa, upd])) (fun i hi ih => ?_) ?_
          · refine v_ald0 dX2_next_148 ?_
            refine v_geti dX2_next_149 gX2_30 sh_33 rfl ?_
            refine v_eq (show (wr (wr (wr (wr Mz 33 5 (nI s)) 33 4 (nI s)) 33 3 (nI 1002)) 33 5 (nI (s + i))) 33 5 = nI (s + i) from by simp [wr, wa, upd]) ?_
            refine v_ald0 dX2_next_152 ?_
            refine v_geti dX2_next_153 gX2_26 sh_33 rfl ?_
            refine v_eq (show (wr (wr (wr (wr Mz 33 5 (nI s)) 33 4 (nI s)) 33 3 (nI 1002)) 33 5 (nI (s + i))) 33 1 = nI n from by simp [wr, wa, upd]; exact hT.1) ?_
            refine v_icmpN_ge (tgt := 211) dX2_next_156 (by decide) (by omega) (by omega) (fun h156 => absurd h156 (by omega)) (fun h156 => ?_)
            refine v_ald0 dX2_next_159 ?_
            refine v_getr dX2_next_160 gX2_9 sh_33 rfl ?_
            refine v_ald0 dX2_next_163 ?_
            refine v_geti dX2_next_164 gX2_30 sh_33 rfl ?_
            refine v_eq (show (wr (wr (wr (wr Mz 33 5 (nI s)) 33 4 (nI s)) 33 3 (nI 1002)) 33 5 (nI (s + i))) 33 5 = nI (s + i) from by simp [wr, wa, upd]) ?_
            refine v_baldN dX2_next_167 sh_34 (by omega) (by decide) ?_
            refine v_eq (show (wr (wr (wr (wr Mz 33 5 (nI s)) 33 4 (nI s)) 33 3 (nI 1002)) 33 5 (nI (s + i))) 34 (s + i) = sb (tp (s + i)) from by rw [show (wr (wr (wr (wr Mz 33 5 (nI s)) 33 4 (nI s)) 33 3 (nI 1002)) 33 5 (nI (s + i))) 34 = Mz 34 from by simp [wr, wa]]; exact (hT.2.2 (s + i) (by omega)).1) ?_
            refine v_callSi (kR_isDigit E _ (hT.2.2 (s + i) (by omega)).2) dX2_next_168 cX2_84 rfl (by decide) (Nat.le_of_ble_eq_true rfl) rfl (fun r M1z hq => ?_)
            obtain ⟨hr, hm⟩ := hq
            rw [hr, hm]
            clear hr hm
            refine v_if_eq (tgt := 211) dX2_next_171 (by decide) (fun h171 => absurd h171 (by rw [drn_in tp (n := n) (k := s) (by omega) (by omega)]; decide)) (fun h171 => ?_)
            refine v_ald0 dX2_next_174 ?_
            refine v_dup dX2_next_175 ?_
            refine v_geti dX2_next_176 gX2_30 sh_33 rfl ?_
            refine v_eq (show (wr (wr (wr (wr Mz 33 5 (nI s)) 33 4 (nI s)) 33 3 (nI 1002)) 33 5 (nI (s + i))) 33 5 = nI (s + i) from by simp [wr, wa, upd]) ?_
            refine v_iconstN (n := 1) dX2_next_179 ?_
            refine v_iaddN dX2_next_180 ?_
            refine v_puti dX2_next_181 pX2_30 sh_33 rfl rfl rfl ?_
            refine v_goto (tgt := 148) dX2_next_184 (by decide) ?_
            exact v_lm rfl (wr_wr _ _ _ _ _) ih
          · obtain ⟨e, hee⟩ : ∃ e, e = drn tp n s := ⟨_, rfl⟩
            rw [← hee] at hee0 hst0
            have hstop : e < n → isDi (tp e) = false := fun q => by rcases hst0 with z | z; (exact absurd z (by omega)); exact z
            refine v_lm (M' := (wr (wr (wr (wr Mz 33 5 (nI s)) 33 4 (nI s)) 33 3 (nI 1002)) 33 5 (nI e))) rfl (by rw [← hee, show s + (e - s) = e by omega]) ?_
            refine v_ald0 dX2_next_148 ?_
            refine v_geti dX2_next_149 gX2_30 sh_33 rfl ?_
            refine v_eq (show (wr (wr (wr (wr Mz 33 5 (nI s)) 33 4 (nI s)) 33 3 (nI 1002)) 33 5 (nI e)) 33 5 = nI e from by simp [wr, wa, upd]) ?_
            refine v_ald0 dX2_next_152 ?_
            refine v_geti dX2_next_153 gX2_26 sh_33 rfl ?_
            refine v_eq (show (wr (wr (wr (wr Mz 33 5 (nI s)) 33 4 (nI s)) 33 3 (nI 1002)) 33 5 (nI e)) 33 1 = nI n from by simp [wr, wa, upd]; exact hT.1) ?_
            refine v_icmpN_ge (tgt := 211) dX2_next_156 (by decide) (by omega) (by omega) (fun h156 => ?_) (fun h156 => ?_)
            · refine v_ald0 dX2_next_211 ?_
              refine v_geti dX2_next_212 gX2_52 sh_33 rfl ?_
              refine v_eq (show (wr (wr (wr (wr Mz 33 5 (nI s)) 33 4 (nI s)) 33 3 (nI 1002)) 33 5 (nI e)) 33 4 = nI s from by simp [wr, wa, upd]) ?_
              refine v_ald0 dX2_next_215 ?_
              refine v_geti dX2_next_216 gX2_33 sh_33 rfl ?_
              refine v_eq (show (wr (wr (wr (wr Mz 33 5 (nI s)) 33 4 (nI s)) 33 3 (nI 1002)) 33 5 (nI e)) 33 6 = we from by simp [wr, wa, upd]; exact hw) ?_
              refine v_icmp_ne (tgt := 226) dX2_next_219 (by decide) (fun h219 => ?_) (fun h219 => ?_)
              · refine v_iconstN (n := 0) dX2_next_226 ?_
                refine v_ist1 dX2_next_227 (by decide) ?_
                refine v_ald0 dX2_next_228 ?_
                refine v_ald0 dX2_next_229 ?_
                refine v_geti dX2_next_230 gX2_30 sh_33 rfl ?_
                refine v_eq (show (wr (wr (wr (wr Mz 33 5 (nI s)) 33 4 (nI s)) 33 3 (nI 1002)) 33 5 (nI e)) 33 5 = nI e from by simp [wr, wa, upd]) ?_
                refine v_puti dX2_next_233 pX2_33 sh_33 rfl rfl rfl ?_
                refine v_ild1 dX2_next_236 ?_
                refine v_if_eq (tgt := 247) dX2_next_237 (by decide) (fun h237 => ?_) (fun h237 => absurd h237 (fun q => q rfl))
                exact v_vret dX2_next_247 rfl (⟨fun a ha => by simp [wr, wa, ha], fun j h3 h4 h5 h6 => by simp [wr, wa, upd, h3, h4, h5, h6], by rw [show nxt tp n k we = (2, s, drn tp n s, nI (drn tp n s)) from by unfold nxt; rw [hse, if_neg (by omega), if_neg hle, if_pos hdi, if_neg h219], ← hee]; exact ⟨(show _ = nI 1002 from by simp [wr, wa, upd]), by simp [wr, wa, upd], by simp [wr, wa, upd], by simp [wr, wa, upd]⟩⟩)
              · refine v_iconstN (n := 1) dX2_next_222 ?_
                refine v_goto (tgt := 227) dX2_next_223 (by decide) ?_
                refine v_ist1 dX2_next_227 (by decide) ?_
                refine v_ald0 dX2_next_228 ?_
                refine v_ald0 dX2_next_229 ?_
                refine v_geti dX2_next_230 gX2_30 sh_33 rfl ?_
                refine v_eq (show (wr (wr (wr (wr Mz 33 5 (nI s)) 33 4 (nI s)) 33 3 (nI 1002)) 33 5 (nI e)) 33 5 = nI e from by simp [wr, wa, upd]) ?_
                refine v_puti dX2_next_233 pX2_33 sh_33 rfl rfl rfl ?_
                refine v_ild1 dX2_next_236 ?_
                refine v_if_eq (tgt := 247) dX2_next_237 (by decide) (fun h237 => absurd h237 (by decide)) (fun h237 => ?_)
                refine v_ald0 dX2_next_240 ?_
                refine v_sipushN (n := 1003) dX2_next_241 (by decide +kernel) ?_
                refine v_puti dX2_next_244 pX2_59 sh_33 rfl rfl rfl ?_
                exact v_vret dX2_next_247 rfl (⟨fun a ha => by simp [wr, wa, ha], fun j h3 h4 h5 h6 => by simp [wr, wa, upd, h3, h4, h5, h6], by rw [show nxt tp n k we = (4, s, drn tp n s, nI (drn tp n s)) from by unfold nxt; rw [hse, if_neg (by omega), if_neg hle, if_pos hdi, if_pos h219], ← hee]; exact ⟨(show _ = nI 1003 from by simp [wr, wa, upd]), by simp [wr, wa, upd], by simp [wr, wa, upd], by simp [wr, wa, upd]⟩⟩)
            · refine v_ald0 dX2_next_159 ?_
              refine v_getr dX2_next_160 gX2_9 sh_33 rfl ?_
              refine v_ald0 dX2_next_163 ?_
              refine v_geti dX2_next_164 gX2_30 sh_33 rfl ?_
              refine v_eq (show (wr (wr (wr (wr Mz 33 5 (nI s)) 33 4 (nI s)) 33 3 (nI 1002)) 33 5 (nI e)) 33 5 = nI e from by simp [wr, wa, upd]) ?_
              refine v_baldN dX2_next_167 sh_34 (by omega) (by decide) ?_
              refine v_eq (show (wr (wr (wr (wr Mz 33 5 (nI s)) 33 4 (nI s)) 33 3 (nI 1002)) 33 5 (nI e)) 34 (e) = sb (tp e) from by rw [show (wr (wr (wr (wr Mz 33 5 (nI s)) 33 4 (nI s)) 33 3 (nI 1002)) 33 5 (nI e)) 34 = Mz 34 from by simp [wr, wa]]; exact (hT.2.2 e h156).1) ?_
              refine v_callSi (kR_isDigit E _ (hT.2.2 e h156).2) dX2_next_168 cX2_84 rfl (by decide) (Nat.le_of_ble_eq_true rfl) rfl (fun r M1z hq => ?_)
              obtain ⟨hr, hm⟩ := hq
              rw [hr, hm]
              clear hr hm
              refine v_if_eq (tgt := 211) dX2_next_171 (by decide) (fun h171 => ?_) (fun h171 => absurd h171 (fun q => q (by rw [hstop h156]; rfl)))
              refine v_ald0 dX2_next_211 ?_
              refine v_geti dX2_next_212 gX2_52 sh_33 rfl ?_
              refine v_eq (show (wr (wr (wr (wr Mz 33 5 (nI s)) 33 4 (nI s)) 33 3 (nI 1002)) 33 5 (nI e)) 33 4 = nI s from by simp [wr, wa, upd]) ?_
              refine v_ald0 dX2_next_215 ?_
              refine v_geti dX2_next_216 gX2_33 sh_33 rfl ?_
              refine v_eq (show (wr (wr (wr (wr Mz 33 5 (nI s)) 33 4 (nI s)) 33 3 (nI 1002)) 33 5 (nI e)) 33 6 = we from by simp [wr, wa, upd]; exact hw) ?_
              refine v_icmp_ne (tgt := 226) dX2_next_219 (by decide) (fun h219 => ?_) (fun h219 => ?_)
              · refine v_iconstN (n := 0) dX2_next_226 ?_
                refine v_ist1 dX2_next_227 (by decide) ?_
                refine v_ald0 dX2_next_228 ?_
                refine v_ald0 dX2_next_229 ?_
                refine v_geti dX2_next_230 gX2_30 sh_33 rfl ?_
                refine v_eq (show (wr (wr (wr (wr Mz 33 5 (nI s)) 33 4 (nI s)) 33 3 (nI 1002)) 33 5 (nI e)) 33 5 = nI e from by simp [wr, wa, upd]) ?_
                refine v_puti dX2_next_233 pX2_33 sh_33 rfl rfl rfl ?_
                refine v_ild1 dX2_next_236 ?_
                refine v_if_eq (tgt := 247) dX2_next_237 (by decide) (fun h237 => ?_) (fun h237 => absurd h237 (fun q => q rfl))
                exact v_vret dX2_next_247 rfl (⟨fun a ha => by simp [wr, wa, ha], fun j h3 h4 h5 h6 => by simp [wr, wa, upd, h3, h4, h5, h6], by rw [show nxt tp n k we = (2, s, drn tp n s, nI (drn tp n s)) from by unfold nxt; rw [hse, if_neg (by omega), if_neg hle, if_pos hdi, if_neg h219], ← hee]; exact ⟨(show _ = nI 1002 from by simp [wr, wa, upd]), by simp [wr, wa, upd], by simp [wr, wa, upd], by simp [wr, wa, upd]⟩⟩)
              · refine v_iconstN (n := 1) dX2_next_222 ?_
                refine v_goto (tgt := 227) dX2_next_223 (by decide) ?_
                refine v_ist1 dX2_next_227 (by decide) ?_
                refine v_ald0 dX2_next_228 ?_
                refine v_ald0 dX2_next_229 ?_
                refine v_geti dX2_next_230 gX2_30 sh_33 rfl ?_
                refine v_eq (show (wr (wr (wr (wr Mz 33 5 (nI s)) 33 4 (nI s)) 33 3 (nI 1002)) 33 5 (nI e)) 33 5 = nI e from by simp [wr, wa, upd]) ?_
                refine v_puti dX2_next_233 pX2_33 sh_33 rfl rfl rfl ?_
                refine v_ild1 dX2_next_236 ?_
                refine v_if_eq (tgt := 247) dX2_next_237 (by decide) (fun h237 => absurd h237 (by decide)) (fun h237 => ?_)
                refine v_ald0 dX2_next_240 ?_
                refine v_sipushN (n := 1003) dX2_next_241 (by decide +kernel) ?_
                refine v_puti dX2_next_244 pX2_59 sh_33 rfl rfl rfl ?_
                exact v_vret dX2_next_247 rfl (⟨fun a ha => by simp [wr, wa, ha], fun j h3 h4 h5 h6 => by simp [wr, wa, upd, h3, h4, h5, h6], by rw [show nxt tp n k we = (4, s, drn tp n s, nI (drn tp n s)) from by unfold nxt; rw [hse, if_neg (by omega), if_neg hle, if_pos hdi, if_pos h219], ← hee]; exact ⟨(show _ = nI 1003 from by simp [wr, wa, upd]), by simp [wr, wa, upd], by simp [wr, wa, upd], by simp [wr, wa, upd]⟩⟩)
      · have hle : isLe (tp s) = true := b2_1.mp h77
        refine v_ald0 dX2_next_80 ?_
        refine v_sipushN (n := 1001) dX2_next_81 (by decide +kernel) ?_
        refine v_puti dX2_next_84 pX2_59 sh_33 rfl rfl rfl ?_
        have hee0 := lrn_ge tp (Nat.le_of_lt hsn)
        have hst0 := lrn_st tp (Nat.le_of_lt hsn)
        refine v_loop (pc := 87) (fun _ => [some (.inr 33), none]) (fun i => (wr (wr (wr (wr Mz 33 5 (nI s)) 33 4 (nI s)) 33 3 (nI 1001)) 33 5 (nI (s + i)))) (lrn tp n s - s) rfl (wr_same (by simp [wr, wa, upd])) (fun i hi ih => ?_) ?_
        · refine v_ald0 dX2_next_87 ?_
          refine v_geti dX2_next_88 gX2_30 sh_33 rfl ?_
          refine v_eq (show (wr (wr (wr (wr Mz 33 5 (nI s)) 33 4 (nI s)) 33 3 (nI 1001)) 33 5 (nI (s + i))) 33 5 = nI (s + i) from by simp [wr, wa, upd]) ?_
          refine v_ald0 dX2_next_91 ?_
          refine v_geti dX2_next_92 gX2_26 sh_33 rfl ?_
          refine v_eq (show (wr (wr (wr (wr Mz 33 5 (nI s)) 33 4 (nI s)) 33 3 (nI 1001)) 33 5 (nI (s + i))) 33 1 = nI n from by simp [wr, wa, upd]; exact hT.1) ?_
          refine v_icmpN_ge (tgt := 211) dX2_next_95 (by decide) (by omega) (by omega) (fun h95 => absurd h95 (by omega)) (fun h95 => ?_)
          refine v_ald0 dX2_next_98 ?_
          refine v_getr dX2_next_99 gX2_9 sh_33 rfl ?_
          refine v_ald0 dX2_next_102 ?_
          refine v_geti dX2_next_103 gX2_30 sh_33 rfl ?_
          refine v_eq (show (wr (wr (wr (wr Mz 33 5 (nI s)) 33 4 (nI s)) 33 3 (nI 1001)) 33 5 (nI (s + i))) 33 5 = nI (s + i) from by simp [wr, wa, upd]) ?_
          refine v_baldN dX2_next_106 sh_34 (by omega) (by decide) ?_
          refine v_eq (show (wr (wr (wr (wr Mz 33 5 (nI s)) 33 4 (nI s)) 33 3 (nI 1001)) 33 5 (nI (s + i))) 34 (s + i) = sb (tp (s + i)) from by rw [show (wr (wr (wr (wr Mz 33 5 (nI s)) 33 4 (nI s)) 33 3 (nI 1001)) 33 5 (nI (s + i))) 34 = Mz 34 from by simp [wr, wa]]; exact (hT.2.2 (s + i) (by omega)).1) ?_
          refine v_callSi (kR_isLetter E _ (hT.2.2 (s + i) (by omega)).2) dX2_next_107 cX2_80 rfl (by decide) (Nat.le_of_ble_eq_true rfl) rfl (fun r M1z hq => ?_)
          obtain ⟨hr, hm⟩ := hq
          rw [hr, hm]
          clear hr hm
          refine v_if_eq (tgt := 211) dX2_next_110 (by decide) (fun h110 => absurd h110 (by rw [lrn_in tp (n := n) (k := s) (by omega) (by omega)]; decide)) (fun h110 => ?_)
          refine v_ald0 dX2_next_113 ?_
          refine v_dup dX2_next_114 ?_
          refine v_geti dX2_next_115 gX2_30 sh_33 rfl ?_
          refine v_eq (show (wr (wr (wr (wr Mz 33 5 (nI s)) 33 4 (nI s)) 33 3 (nI 1001)) 33 5 (nI (s + i))) 33 5 = nI (s + i) from by simp [wr, wa, upd]) ?_
          refine v_iconstN (n := 1) dX2_next_118 ?_
          refine v_iaddN dX2_next_119 ?_
          refine v_puti dX2_next_120 pX2_30 sh_33 rfl rfl rfl ?_
          refine v_goto (tgt := 87) dX2_next_123 (by decide) ?_
          exact v_lm rfl (wr_wr _ _ _ _ _) ih
        · obtain ⟨e, hee⟩ : ∃ e, e = lrn tp n s := ⟨_, rfl⟩
          rw [← hee] at hee0 hst0
          have hstop : e < n → isLe (tp e) = false := fun q => by rcases hst0 with z | z; (exact absurd z (by omega)); exact z
          refine v_lm (M' := (wr (wr (wr (wr Mz 33 5 (nI s)) 33 4 (nI s)) 33 3 (nI 1001)) 33 5 (nI e))) rfl (by rw [← hee, show s + (e - s) = e by omega]) ?_
          refine v_ald0 dX2_next_87 ?_
          refine v_geti dX2_next_88 gX2_30 sh_33 rfl ?_
          refine v_eq (show (wr (wr (wr (wr Mz 33 5 (nI s)) 33 4 (nI s)) 33 3 (nI 1001)) 33 5 (nI e)) 33 5 = nI e from by simp [wr, wa, upd]) ?_
          refine v_ald0 dX2_next_91 ?_
          refine v_geti dX2_next_92 gX2_26 sh_33 rfl ?_
          refine v_eq (show (wr (wr (wr (wr Mz 33 5 (nI s)) 33 4 (nI s)) 33 3 (nI 1001)) 33 5 (nI e)) 33 1 = nI n from by simp [wr, wa, upd]; exact hT.1) ?_
          refine v_icmpN_ge (tgt := 211) dX2_next_95 (by decide) (by omega) (by omega) (fun h95 => ?_) (fun h95 => ?_)
          · refine v_ald0 dX2_next_211 ?_
            refine v_geti dX2_next_212 gX2_52 sh_33 rfl ?_
            refine v_eq (show (wr (wr (wr (wr Mz 33 5 (nI s)) 33 4 (nI s)) 33 3 (nI 1001)) 33 5 (nI e)) 33 4 = nI s from by simp [wr, wa, upd]) ?_
            refine v_ald0 dX2_next_215 ?_
            refine v_geti dX2_next_216 gX2_33 sh_33 rfl ?_
            refine v_eq (show (wr (wr (wr (wr Mz 33 5 (nI s)) 33 4 (nI s)) 33 3 (nI 1001)) 33 5 (nI e)) 33 6 = we from by simp [wr, wa, upd]; exact hw) ?_
            refine v_icmp_ne (tgt := 226) dX2_next_219 (by decide) (fun h219 => ?_) (fun h219 => ?_)
            · refine v_iconstN (n := 0) dX2_next_226 ?_
              refine v_ist1 dX2_next_227 (by decide) ?_
              refine v_ald0 dX2_next_228 ?_
              refine v_ald0 dX2_next_229 ?_
              refine v_geti dX2_next_230 gX2_30 sh_33 rfl ?_
              refine v_eq (show (wr (wr (wr (wr Mz 33 5 (nI s)) 33 4 (nI s)) 33 3 (nI 1001)) 33 5 (nI e)) 33 5 = nI e from by simp [wr, wa, upd]) ?_
              refine v_puti dX2_next_233 pX2_33 sh_33 rfl rfl rfl ?_
              refine v_ild1 dX2_next_236 ?_
              refine v_if_eq (tgt := 247) dX2_next_237 (by decide) (fun h237 => ?_) (fun h237 => absurd h237 (fun q => q rfl))
              exact v_vret dX2_next_247 rfl (⟨fun a ha => by simp [wr, wa, ha], fun j h3 h4 h5 h6 => by simp [wr, wa, upd, h3, h4, h5, h6], by rw [show nxt tp n k we = (1, s, lrn tp n s, nI (lrn tp n s)) from by unfold nxt; rw [hse, if_neg (by omega), if_pos hle, if_neg h219], ← hee]; exact ⟨(show _ = nI 1001 from by simp [wr, wa, upd]), by simp [wr, wa, upd], by simp [wr, wa, upd], by simp [wr, wa, upd]⟩⟩)
            · refine v_iconstN (n := 1) dX2_next_222 ?_
              refine v_goto (tgt := 227) dX2_next_223 (by decide) ?_
              refine v_ist1 dX2_next_227 (by decide) ?_
              refine v_ald0 dX2_next_228 ?_
              refine v_ald0 dX2_next_229 ?_
              refine v_geti dX2_next_230 gX2_30 sh_33 rfl ?_
              refine v_eq (show (wr (wr (wr (wr Mz 33 5 (nI s)) 33 4 (nI s)) 33 3 (nI 1001)) 33 5 (nI e)) 33 5 = nI e from by simp [wr, wa, upd]) ?_
              refine v_puti dX2_next_233 pX2_33 sh_33 rfl rfl rfl ?_
              refine v_ild1 dX2_next_236 ?_
              refine v_if_eq (tgt := 247) dX2_next_237 (by decide) (fun h237 => absurd h237 (by decide)) (fun h237 => ?_)
              refine v_ald0 dX2_next_240 ?_
              refine v_sipushN (n := 1003) dX2_next_241 (by decide +kernel) ?_
              refine v_puti dX2_next_244 pX2_59 sh_33 rfl rfl rfl ?_
              exact v_vret dX2_next_247 rfl (⟨fun a ha => by simp [wr, wa, ha], fun j h3 h4 h5 h6 => by simp [wr, wa, upd, h3, h4, h5, h6], by rw [show nxt tp n k we = (4, s, lrn tp n s, nI (lrn tp n s)) from by unfold nxt; rw [hse, if_neg (by omega), if_pos hle, if_pos h219], ← hee]; exact ⟨(show _ = nI 1003 from by simp [wr, wa, upd]), by simp [wr, wa, upd], by simp [wr, wa, upd], by simp [wr, wa, upd]⟩⟩)
          · refine v_ald0 dX2_next_98 ?_
            refine v_getr dX2_next_99 gX2_9 sh_33 rfl ?_
            refine v_ald0 dX2_next_102 ?_
            refine v_geti dX2_next_103 gX2_30 sh_33 rfl ?_
            refine v_eq (show (wr (wr (wr (wr Mz 33 5 (nI s)) 33 4 (nI s)) 33 3 (nI 1001)) 33 5 (nI e)) 33 5 = nI e from by simp [wr, wa, upd]) ?_
            refine v_baldN dX2_next_106 sh_34 (by omega) (by decide) ?_
            refine v_eq (show (wr (wr (wr (wr Mz 33 5 (nI s)) 33 4 (nI s)) 33 3 (nI 1001)) 33 5 (nI e)) 34 (e) = sb (tp e) from by rw [show (wr (wr (wr (wr Mz 33 5 (nI s)) 33 4 (nI s)) 33 3 (nI 1001)) 33 5 (nI e)) 34 = Mz 34 from by simp [wr, wa]]; exact (hT.2.2 e h95).1) ?_
            refine v_callSi (kR_isLetter E _ (hT.2.2 e h95).2) dX2_next_107 cX2_80 rfl (by decide) (Nat.le_of_ble_eq_true rfl) rfl (fun r M1z hq => ?_)
            obtain ⟨hr, hm⟩ := hq
            rw [hr, hm]
            clear hr hm
            refine v_if_eq (tgt := 211) dX2_next_110 (by decide) (fun h110 => ?_) (fun h110 => absurd h110 (fun q => q (by rw [hstop h95]; rfl)))
            refine v_ald0 dX2_next_211 ?_
            refine v_geti dX2_next_212 gX2_52 sh_33 rfl ?_
            refine v_eq (show (wr (wr (wr (wr Mz 33 5 (nI s)) 33 4 (nI s)) 33 3 (nI 1001)) 33 5 (nI e)) 33 4 = nI s from by simp [wr, wa, upd]) ?_
            refine v_ald0 dX2_next_215 ?_
            refine v_geti dX2_next_216 gX2_33 sh_33 rfl ?_
            refine v_eq (show (wr (wr (wr (wr Mz 33 5 (nI s)) 33 4 (nI s)) 33 3 (nI 1001)) 33 5 (nI e)) 33 6 = we from by simp [wr, wa, upd]; exact hw) ?_
            refine v_icmp_ne (tgt := 226) dX2_next_219 (by decide) (fun h219 => ?_) (fun h219 => ?_)
            · refine v_iconstN (n := 0) dX2_next_226 ?_
              refine v_ist1 dX2_next_227 (by decide) ?_
              refine v_ald0 dX2_next_228 ?_
              refine v_ald0 dX2_next_229 ?_
              refine v_geti dX2_next_230 gX2_30 sh_33 rfl ?_
              refine v_eq (show (wr (wr (wr (wr Mz 33 5 (nI s)) 33 4 (nI s)) 33 3 (nI 1001)) 33 5 (nI e)) 33 5 = nI e from by simp [wr, wa, upd]) ?_
              refine v_puti dX2_next_233 pX2_33 sh_33 rfl rfl rfl ?_
              refine v_ild1 dX2_next_236 ?_
              refine v_if_eq (tgt := 247) dX2_next_237 (by decide) (fun h237 => ?_) (fun h237 => absurd h237 (fun q => q rfl))
              exact v_vret dX2_next_247 rfl (⟨fun a ha => by simp [wr, wa, ha], fun j h3 h4 h5 h6 => by simp [wr, wa, upd, h3, h4, h5, h6], by rw [show nxt tp n k we = (1, s, lrn tp n s, nI (lrn tp n s)) from by unfold nxt; rw [hse, if_neg (by omega), if_pos hle, if_neg h219], ← hee]; exact ⟨(show _ = nI 1001 from by simp [wr, wa, upd]), by simp [wr, wa, upd], by simp [wr, wa, upd], by simp [wr, wa, upd]⟩⟩)
            · refine v_iconstN (n := 1) dX2_next_222 ?_
              refine v_goto (tgt := 227) dX2_next_223 (by decide) ?_
              refine v_ist1 dX2_next_227 (by decide) ?_
              refine v_ald0 dX2_next_228 ?_
              refine v_ald0 dX2_next_229 ?_
              refine v_geti dX2_next_230 gX2_30 sh_33 rfl ?_
              refine v_eq (show (wr (wr (wr (wr Mz 33 5 (nI s)) 33 4 (nI s)) 33 3 (nI 1001)) 33 5 (nI e)) 33 5 = nI e from by simp [wr, wa, upd]) ?_
              refine v_puti dX2_next_233 pX2_33 sh_33 rfl rfl rfl ?_
              refine v_ild1 dX2_next_236 ?_
              refine v_if_eq (tgt := 247) dX2_next_237 (by decide) (fun h237 => absurd h237 (by decide)) (fun h237 => ?_)
              refine v_ald0 dX2_next_240 ?_
              refine v_sipushN (n := 1003) dX2_next_241 (by decide +kernel) ?_
              refine v_puti dX2_next_244 pX2_59 sh_33 rfl rfl rfl ?_
              exact v_vret dX2_next_247 rfl (⟨fun a ha => by simp [wr, wa, ha], fun j h3 h4 h5 h6 => by simp [wr, wa, upd, h3, h4, h5, h6], by rw [show nxt tp n k we = (4, s, lrn tp n s, nI (lrn tp n s)) from by unfold nxt; rw [hse, if_neg (by omega), if_pos hle, if_pos h219], ← hee]; exact ⟨(show _ = nI 1003 from by simp [wr, wa, upd]), by simp [wr, wa, upd], by simp [wr, wa, upd], by simp [wr, wa, upd]⟩⟩)
