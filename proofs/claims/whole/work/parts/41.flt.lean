/-! a text read whole by the class; the tape fed -/
def FrQ (A M : mm) : Prop := (∀ a, a ≠ 33 → a ≠ 35 → a ≠ 36 → a ≠ 37 → M a = A a) ∧ M 33 1 = A 33 1
theorem FrQ.p {A B M : mm} (h : FrQ A B) (f : FrP B M) : FrQ A M := ⟨fun a h1 h2 h3 h4 => (f.1 a h1 h2 h3 h4).trans (h.1 a h1 h2 h3 h4), (f.2.1 1 (by decide)).trans h.2⟩
def NxF (A M : mm) : Prop := (∀ a, a ≠ 33 → M a = A a) ∧ ∀ j, j ≠ 3 → j ≠ 4 → j ≠ 5 → j ≠ 6 → M 33 j = A 33 j
theorem NxF.ps {A M : mm} {o : List Nat} {u : List Int32} {lv : Nat} (f : NxF A M) (h : PsC A o u lv) : PsC M o u lv := by
  obtain ⟨h1, h2, h3, h4, h5, h6, h7⟩ := h
  exact ⟨(f.2 8 (by decide) (by decide) (by decide) (by decide)).trans h1, by rw [f.1 37 (by decide)]; exact h2, (f.2 9 (by decide) (by decide) (by decide) (by decide)).trans h3, (f.2 10 (by decide) (by decide) (by decide) (by decide)).trans h4, by rw [f.1 35 (by decide)]; exact h5, by rw [f.1 35 (by decide)]; exact h6, by rw [f.1 36 (by decide)]; exact h7⟩
theorem NxF.tp {A M : mm} {tp : Nat → Nat} {n : Nat} (f : NxF A M) (h : TpC A tp n) : TpC M tp n := ⟨(f.2 1 (by decide) (by decide) (by decide) (by decide)).trans h.1, h.2.1, fun i hi => by rw [f.1 34 (by decide)]; exact h.2.2 i hi⟩
theorem NxF.fr {A B M : mm} (f : NxF B M) (h : FrQ A B) : FrQ A M := ⟨fun a h1 h2 h3 h4 => (f.1 a h1).trans (h.1 a h1 h2 h3 h4), (f.2 1 (by decide) (by decide) (by decide) (by decide)).trans h.2⟩
def PostF (A : mm) (key : Nat) (res : Option (List Int32 × Nat) × Nat) (r : Int32) (M : mm) : Prop := match res with
  | (none, p) => r = nI p ∧ FrQ A M
  | (some (u, lv), _) => r = -1 ∧ M 35 0 = nI key ∧ M 35 1 = nI lv ∧ M 35 2 = nI u.length ∧ rp (M 36) u ∧ FrQ A M
theorem seg_lt {o : List Nat} {b : Nat} (h : seg o b) : ∀ s ∈ o, s < 128 := fun s hs => by
  rcases seg_vld h s hs with e | e | e
  · omega
  · omega
  · exact lev_lt e
theorem tkC_40 {tp : Nat → Nat} {t : tok} (h3 : t.1 = 3) : tkC tp t = sb (tp t.2.1) := by unfold tkC; rw [h3]; rfl
/-- whether a piece is wanted next, as the class has it -/
def wtB (tp : Nat → Nat) (t : tok) : Bool := decide (tkC tp t = nI 40) || (decide (tkC tp t = nI 33) || decide (levI (tkC tp t) ≠ 0))
theorem wt_ok {tp : Nat → Nat} {key : Nat} {t : tok} {q q' : pst} (h : pS tp key t q = some q') (hb : t.1 = 3 → tp t.2.1 < 256) : q'.1 = wtB tp t := by
  obtain ⟨wn, o, u, lv⟩ := q
  unfold wtB
  cases wn with
  | true =>
    unfold pS at h
    rw [if_pos rfl] at h
    simp only at h
    unfold pW at h
    by_cases c1 : t.1 = 2 ∧ t.2.2.1 - t.2.1 ≤ 4
    · rw [if_pos c1] at h
      cases h
      rw [show tkC tp t = nI 1002 from by unfold tkC; rw [c1.1]; rfl]
      show false = _
      decide
    · rw [if_neg c1] at h
      by_cases c2 : t.1 = 1 ∧ t.2.2.1 - t.2.1 = 1 ∧ nmI key (tp t.2.1) ≠ 9
      · rw [if_pos c2] at h
        cases h
        rw [show tkC tp t = nI 1001 from by unfold tkC; rw [c2.1]; rfl]
        show false = _
        decide
      · rw [if_neg c2] at h
        by_cases c3 : t.1 = 3 ∧ tp t.2.1 = 33 ∧ ct 33 o < 8
        · rw [if_pos c3] at h
          cases h
          rw [tkC_40 c3.1, c3.2.1]
          show true = _
          decide
        · rw [if_neg c3] at h
          by_cases c4 : t.1 = 3 ∧ tp t.2.1 = 40 ∧ ct 40 o < 8
          · rw [if_pos c4] at h
            cases h
            rw [tkC_40 c4.1, c4.2.1]
            show true = _
            decide
          · rw [if_neg c4] at h; cases h
  | false =>
    unfold pS at h
    rw [if_neg (show ¬ (false = true) by decide)] at h
    simp only at h
    unfold pN at h
    by_cases c1 : t.1 = 3 ∧ tp t.2.1 = 41 ∧ 0 < ct 40 o
    · rw [if_pos c1] at h
      cases h
      rw [tkC_40 c1.1, c1.2.1]
      show false = _
      decide
    · rw [if_neg c1] at h
      by_cases c2 : t.1 = 3 ∧ 0 < lev (tp t.2.1)
      · rw [if_pos c2] at h
        by_cases c3 : lev (tp t.2.1) = 3 ∧ tpl (drL (dlv (lev (tp t.2.1))) o u).1 = 3
        · rw [if_pos c3] at h; cases h
        · rw [if_neg c3] at h
          cases h
          rw [tkC_40 c2.1, levsD ⟨_, hb c2.1⟩, decide_eq_true (show lev (tp t.2.1) ≠ 0 by omega), Bool.or_true, Bool.or_true]
      · rw [if_neg c2] at h; cases h
theorem tk_n0 {tp : Nat → Nat} {t : tok} (h : t.1 ≠ 0) (hb : t.1 = 3 → tp t.2.1 < 256) (h4 : t.1 ≤ 4) : tkC tp t ≠ nI 1000 := by
  unfold tkC
  rcases (show t.1 = 1 ∨ t.1 = 2 ∨ t.1 = 3 ∨ t.1 = 4 by omega) with e | e | e | e <;> rw [e]
  · exact (show nI 1001 ≠ nI 1000 by decide)
  · exact (show nI 1002 ≠ nI 1000 by decide)
  · exact (sb_big ⟨tp t.2.1, hb e⟩).1
  · exact (show nI 1003 ≠ nI 1000 by decide)
theorem lvI_le (x : Int32) : levI x ≤ 5 := by
  unfold levI
  (repeat' split) <;> decide
set_option maxRecDepth 100000 in
set_option maxHeartbeats 8000000 in
theorem kR_loop (E : ev) (A : mm) {tp : Nat → Nat} {n key : Nat} (hkey : key < 3) : ∀ (f k : Nat) (we : Int32) (q : pst) (Mz : mm), f ≤ 96 → k ≤ n → PI key k q → TpC Mz tp n → Mz 33 5 = nI k → Mz 33 6 = we → PsC Mz q.2.1 q.2.2.1 q.2.2.2 → Mz 35 0 = nI key → FrQ A Mz → V E 6 yX2_faultOnTape cX2_faultOnTape 5 (some .int) (qI E (fun r M' => PostF A key (PL tp n key f k we q) r M')) 55 [some (.inr 33), some (.inl (nI key)), some (.inl (b2 q.1)), some (.inl (nI (96 - f))), none] [] Mz
  | 0, k, we, q, Mz, hf, hk, hI, hT, hk5, hw, hP, hk0, hF => by
    refine v_ild3 dX2_faultOnTape_55 ?_
    refine v_bipushN (n := 96) dX2_faultOnTape_56 (by decide) ?_
    refine v_icmpN_ge (tgt := 159) dX2_faultOnTape_58 (by decide) (by omega) (by omega) (fun h58 => ?_) (fun h58 => absurd h58 (by omega))
    refine v_ald0 dX2_faultOnTape_159 ?_
    refine v_geti dX2_faultOnTape_160 gX2_26 sh_33 rfl ?_
    exact v_iret dX2_faultOnTape_163 rfl (⟨hT.1, hF⟩)
  | f + 1, k, we, (wn, o, u, lv), Mz, hf, hk, hI, hT, hk5, hw, hP, hk0, hF => by
    obtain ⟨-, n1, n2, n3, n4⟩ := nxt_ok tp we hk
    have hn96 := hT.2.1
    have hv := seg_lt hI.1
    have hlo := hI.2.2.2.1
    simp only at hv hlo hP
    by_cases h0 : (nxt tp n k we).1 = 0
    · cases wn with
      | true =>
        rw [show PL tp n key (f + 1) k we (true, o, u, lv) = (none, (nxt tp n k we).2.1) from by rw [PL, if_pos h0, if_neg (fun q => absurd q.1 (by simp))]]
        refine v_ild3 dX2_faultOnTape_55 ?_
        refine v_bipushN (n := 96) dX2_faultOnTape_56 (by decide) ?_
        refine v_icmpN_ge (tgt := 159) dX2_faultOnTape_58 (by decide) (by omega) (by omega) (fun h58 => absurd h58 (by omega)) (fun h58 => ?_)
        refine v_ald0 dX2_faultOnTape_61 ?_
        refine v_callVv (kR_next E Mz hT hk hk5 hw) dX2_faultOnTape_62 cX2_45 rfl sh_33 rfl (by decide) (Nat.le_of_ble_eq_true rfl) rfl (fun M1z hq => ?_)
        obtain ⟨hq1, hq2, hq3⟩ := hq
        have hNx : NxF Mz M1z := ⟨hq1, hq2⟩
        have hT1 := hNx.tp hT
        have hP1 := hNx.ps hP
        have hF1 := hNx.fr hF
        have hk1 : M1z 35 0 = nI key := by rw [hq1 35 (by decide)]; exact hk0
        refine v_ald0 dX2_faultOnTape_65 ?_
        refine v_geti dX2_faultOnTape_66 gX2_59 sh_33 rfl ?_
        refine v_eq (show M1z 33 3 = nI 1000 from by rw [hq3.1]; unfold tkC; rw [if_pos h0]) ?_
        refine v_sipushN (n := 1000) dX2_faultOnTape_69 (by decide +kernel) ?_
        refine v_icmp_ne (tgt := 92) dX2_faultOnTape_72 (by decide) (fun h72 => absurd h72 (fun q => q rfl)) (fun h72 => ?_)
        refine v_ald0 dX2_faultOnTape_75 ?_
        refine v_ild2 dX2_faultOnTape_76 ?_
        refine v_callVi (kR_finW E M1z) dX2_faultOnTape_77 cX2_62 rfl sh_33 rfl (by decide) (Nat.le_of_ble_eq_true rfl) rfl (fun r2 M2z hq4 => ?_)
        obtain ⟨hr4, hm4⟩ := hq4
        rw [hr4]
        refine v_if_eq (tgt := 87) dX2_faultOnTape_80 (by decide) (fun h80 => ?_) (fun h80 => absurd h80 (fun q => q rfl))
        refine v_ald0 dX2_faultOnTape_87 ?_
        refine v_geti dX2_faultOnTape_88 gX2_52 sh_33 rfl ?_
        
        exact v_iret dX2_faultOnTape_91 rfl (⟨by rw [hm4.2.1 4 (by decide)]; exact hq3.2.1, hF1.p hm4⟩)
      | false =>
        by_cases hc : ct 40 o = 0
        · rw [show PL tp n key (f + 1) k we (false, o, u, lv) = (some ((drL 0 o u).2, lv), (nxt tp n k we).2.1) from by rw [PL, if_pos h0, if_pos ⟨rfl, hc⟩]]
          refine v_ild3 dX2_faultOnTape_55 ?_
          refine v_bipushN (n := 96) dX2_faultOnTape_56 (by decide) ?_
          refine v_icmpN_ge (tgt := 159) dX2_faultOnTape_58 (by decide) (by omega) (by omega) (fun h58 => absurd h58 (by omega)) (fun h58 => ?_)
          refine v_ald0 dX2_faultOnTape_61 ?_
          refine v_callVv (kR_next E Mz hT hk hk5 hw) dX2_faultOnTape_62 cX2_45 rfl sh_33 rfl (by decide) (Nat.le_of_ble_eq_true rfl) rfl (fun M1z hq => ?_)
          obtain ⟨hq1, hq2, hq3⟩ := hq
          have hNx : NxF Mz M1z := ⟨hq1, hq2⟩
          have hT1 := hNx.tp hT
          have hP1 := hNx.ps hP
          have hF1 := hNx.fr hF
          have hk1 : M1z 35 0 = nI key := by rw [hq1 35 (by decide)]; exact hk0
          refine v_ald0 dX2_faultOnTape_65 ?_
          refine v_geti dX2_faultOnTape_66 gX2_59 sh_33 rfl ?_
          refine v_eq (show M1z 33 3 = nI 1000 from by rw [hq3.1]; unfold tkC; rw [if_pos h0]) ?_
          refine v_sipushN (n := 1000) dX2_faultOnTape_69 (by decide +kernel) ?_
          refine v_icmp_ne (tgt := 92) dX2_faultOnTape_72 (by decide) (fun h72 => absurd h72 (fun q => q rfl)) (fun h72 => ?_)
          refine v_ald0 dX2_faultOnTape_75 ?_
          refine v_ild2 dX2_faultOnTape_76 ?_
          refine v_callVi (kR_fin1 E M1z hP1 (by omega) hv hc) dX2_faultOnTape_77 cX2_62 rfl sh_33 rfl (by decide) (Nat.le_of_ble_eq_true rfl) rfl (fun r2 M2z hq4 => ?_)
          obtain ⟨hr4, hm4⟩ := hq4
          rw [hr4]
          refine v_if_eq (tgt := 87) dX2_faultOnTape_80 (by decide) (fun h80 => absurd h80 (by decide)) (fun h80 => ?_)
          refine v_iconst (x := -1) dX2_faultOnTape_83 (by decide) ?_
          refine v_goto (tgt := 91) dX2_faultOnTape_84 (by decide) ?_
          
          exact v_iret dX2_faultOnTape_91 rfl (⟨rfl, hm4.2.2.2.trans hk1, hm4.1.2.2.2.2.1, hm4.1.2.2.2.2.2.1, hm4.1.2.2.2.2.2.2, hF1.p hm4.2⟩)
        · rw [show PL tp n key (f + 1) k we (false, o, u, lv) = (none, (nxt tp n k we).2.1) from by rw [PL, if_pos h0, if_neg (fun q => hc q.2)]]
          refine v_ild3 dX2_faultOnTape_55 ?_
          refine v_bipushN (n := 96) dX2_faultOnTape_56 (by decide) ?_
          refine v_icmpN_ge (tgt := 159) dX2_faultOnTape_58 (by decide) (by omega) (by omega) (fun h58 => absurd h58 (by omega)) (fun h58 => ?_)
          refine v_ald0 dX2_faultOnTape_61 ?_
          refine v_callVv (kR_next E Mz hT hk hk5 hw) dX2_faultOnTape_62 cX2_45 rfl sh_33 rfl (by decide) (Nat.le_of_ble_eq_true rfl) rfl (fun M1z hq => ?_)
          obtain ⟨hq1, hq2, hq3⟩ := hq
          have hNx : NxF Mz M1z := ⟨hq1, hq2⟩
          have hT1 := hNx.tp hT
          have hP1 := hNx.ps hP
          have hF1 := hNx.fr hF
          have hk1 : M1z 35 0 = nI key := by rw [hq1 35 (by decide)]; exact hk0
          refine v_ald0 dX2_faultOnTape_65 ?_
          refine v_geti dX2_faultOnTape_66 gX2_59 sh_33 rfl ?_
          refine v_eq (show M1z 33 3 = nI 1000 from by rw [hq3.1]; unfold tkC; rw [if_pos h0]) ?_
          refine v_sipushN (n := 1000) dX2_faultOnTape_69 (by decide +kernel) ?_
          refine v_icmp_ne (tgt := 92) dX2_faultOnTape_72 (by decide) (fun h72 => absurd h72 (fun q => q rfl)) (fun h72 => ?_)
          refine v_ald0 dX2_faultOnTape_75 ?_
          refine v_ild2 dX2_faultOnTape_76 ?_
          refine v_callVi (kR_fin0 E M1z hP1 hI.2.2.1 hc) dX2_faultOnTape_77 cX2_62 rfl sh_33 rfl (by decide) (Nat.le_of_ble_eq_true rfl) rfl (fun r2 M2z hq4 => ?_)
          obtain ⟨hr4, hm4⟩ := hq4
          rw [hr4]
          refine v_if_eq (tgt := 87) dX2_faultOnTape_80 (by decide) (fun h80 => ?_) (fun h80 => absurd h80 (fun q => q rfl))
          refine v_ald0 dX2_faultOnTape_87 ?_
          refine v_geti dX2_faultOnTape_88 gX2_52 sh_33 rfl ?_
          
          exact v_iret dX2_faultOnTape_91 rfl (⟨by rw [hm4.2.1 4 (by decide)]; exact hq3.2.1, hF1.p hm4⟩)
    · obtain ⟨-, h4, n5, n6⟩ : (nxt tp n k we).1 ≠ 0 ∧ (nxt tp n k we).1 ≤ 4 ∧ (nxt tp n k we).2.1 < n ∧ (nxt tp n k we).2.1 < (nxt tp n k we).2.2.1 := by
        rcases n4 with ⟨e, -⟩ | e
        · exact absurd e h0
        · exact e
      have hb : (nxt tp n k we).1 = 3 → tp (nxt tp n k we).2.1 < 256 := fun _ => (hT.2.2 _ n5).2
      cases hs : pS tp key (nxt tp n k we) (wn, o, u, lv) with
      | none =>
        rw [show PL tp n key (f + 1) k we (wn, o, u, lv) = (none, (nxt tp n k we).2.1) from by rw [PL, if_neg h0, hs]]
        cases wn with
        | true =>
          refine v_ild3 dX2_faultOnTape_55 ?_
          refine v_bipushN (n := 96) dX2_faultOnTape_56 (by decide) ?_
          refine v_icmpN_ge (tgt := 159) dX2_faultOnTape_58 (by decide) (by omega) (by omega) (fun h58 => absurd h58 (by omega)) (fun h58 => ?_)
          refine v_ald0 dX2_faultOnTape_61 ?_
          refine v_callVv (kR_next E Mz hT hk hk5 hw) dX2_faultOnTape_62 cX2_45 rfl sh_33 rfl (by decide) (Nat.le_of_ble_eq_true rfl) rfl (fun M1z hq => ?_)
          obtain ⟨hq1, hq2, hq3⟩ := hq
          have hNx : NxF Mz M1z := ⟨hq1, hq2⟩
          have hT1 := hNx.tp hT
          have hP1 := hNx.ps hP
          have hF1 := hNx.fr hF
          have hk1 : M1z 35 0 = nI key := by rw [hq1 35 (by decide)]; exact hk0
          refine v_ald0 dX2_faultOnTape_65 ?_
          refine v_geti dX2_faultOnTape_66 gX2_59 sh_33 rfl ?_
          refine v_eq (hq3.1) ?_
          refine v_sipushN (n := 1000) dX2_faultOnTape_69 (by decide +kernel) ?_
          refine v_icmp_ne (tgt := 92) dX2_faultOnTape_72 (by decide) (fun h72 => ?_) (fun h72 => absurd h72 (fun q => tk_n0 h0 hb h4 q))
          refine v_ild2 dX2_faultOnTape_92 ?_
          refine v_if_eq (tgt := 103) dX2_faultOnTape_93 (by decide) (fun h93 => absurd h93 (show ¬ b2 true = 0 by decide)) (fun h93 => ?_)
          refine v_ald0 dX2_faultOnTape_96 ?_
          refine v_callVi (kR_takesPiece E M1z hT1 hq3 n2 n3 hP1 (by omega) hv hkey hk1 hI.2.1 hI.2.2.1 (fun i a b => (hT.2.2 i (by omega)).2) (nxt_2 tp we) (nxt_1 tp we) h0 h4 n6) dX2_faultOnTape_97 cX2_66 rfl sh_33 rfl (by decide) (Nat.le_of_ble_eq_true rfl) rfl (fun r2 M2z hq4 => ?_)
          rw [show pW tp key (nxt tp n k we) o u lv = none from hs] at hq4
          obtain ⟨hr4, hm4⟩ := hq4
          rw [hr4]
          refine v_goto (tgt := 107) dX2_faultOnTape_100 (by decide) ?_
          refine v_ist4 dX2_faultOnTape_107 (by decide) ?_
          refine v_ild4 dX2_faultOnTape_109 ?_
          refine v_if_ne (tgt := 119) dX2_faultOnTape_111 (by decide) (fun h111 => absurd h111 (fun q => q rfl)) (fun h111 => ?_)
          refine v_ald0 dX2_faultOnTape_114 ?_
          refine v_geti dX2_faultOnTape_115 gX2_52 sh_33 rfl ?_
          exact v_iret dX2_faultOnTape_118 rfl (⟨by rw [hm4.2.1 4 (by decide)]; exact hq3.2.1, hF1.p hm4⟩)
        | false =>
          refine v_ild3 dX2_faultOnTape_55 ?_
          refine v_bipushN (n := 96) dX2_faultOnTape_56 (by decide) ?_
          refine v_icmpN_ge (tgt := 159) dX2_faultOnTape_58 (by decide) (by omega) (by omega) (fun h58 => absurd h58 (by omega)) (fun h58 => ?_)
          refine v_ald0 dX2_faultOnTape_61 ?_
          refine v_callVv (kR_next E Mz hT hk hk5 hw) dX2_faultOnTape_62 cX2_45 rfl sh_33 rfl (by decide) (Nat.le_of_ble_eq_true rfl) rfl (fun M1z hq => ?_)
          obtain ⟨hq1, hq2, hq3⟩ := hq
          have hNx : NxF Mz M1z := ⟨hq1, hq2⟩
          have hT1 := hNx.tp hT
          have hP1 := hNx.ps hP
          have hF1 := hNx.fr hF
          have hk1 : M1z 35 0 = nI key := by rw [hq1 35 (by decide)]; exact hk0
          refine v_ald0 dX2_faultOnTape_65 ?_
          refine v_geti dX2_faultOnTape_66 gX2_59 sh_33 rfl ?_
          refine v_eq (hq3.1) ?_
          refine v_sipushN (n := 1000) dX2_faultOnTape_69 (by decide +kernel) ?_
          refine v_icmp_ne (tgt := 92) dX2_faultOnTape_72 (by decide) (fun h72 => ?_) (fun h72 => absurd h72 (fun q => tk_n0 h0 hb h4 q))
          refine v_ild2 dX2_faultOnTape_92 ?_
          refine v_if_eq (tgt := 103) dX2_faultOnTape_93 (by decide) (fun h93 => ?_) (fun h93 => absurd h93 (fun q => q rfl))
          refine v_ald0 dX2_faultOnTape_103 ?_
          refine v_callVi (kR_takesSign E M1z hq3 hP1 (by omega) hv hI.1 hI.2.2.1 hb h0 h4) dX2_faultOnTape_104 cX2_70 rfl sh_33 rfl (by decide) (Nat.le_of_ble_eq_true rfl) rfl (fun r2 M2z hq4 => ?_)
          rw [show pN tp (nxt tp n k we) o u lv = none from hs] at hq4
          obtain ⟨hr4, hm4⟩ := hq4
          rw [hr4]
          refine v_ist4 dX2_faultOnTape_107 (by decide) ?_
          refine v_ild4 dX2_faultOnTape_109 ?_
          refine v_if_ne (tgt := 119) dX2_faultOnTape_111 (by decide) (fun h111 => absurd h111 (fun q => q rfl)) (fun h111 => ?_)
          refine v_ald0 dX2_faultOnTape_114 ?_
          refine v_geti dX2_faultOnTape_115 gX2_52 sh_33 rfl ?_
          exact v_iret dX2_faultOnTape_118 rfl (⟨by rw [hm4.2.1 4 (by decide)]; exact hq3.2.1, hF1.p hm4⟩)
      | some q' =>
        rw [show PL tp n key (f + 1) k we (wn, o, u, lv) = PL tp n key f (nxt tp n k we).2.2.1 (nxt tp n k we).2.2.2 q' from by rw [PL, if_neg h0, hs]]
        have hI2 := PI_step hkey hk hI h0 hs
        have hwt := wt_ok hs hb
        cases wn with
        | true =>
          refine v_ild3 dX2_faultOnTape_55 ?_
          refine v_bipushN (n := 96) dX2_faultOnTape_56 (by decide) ?_
          refine v_icmpN_ge (tgt := 159) dX2_faultOnTape_58 (by decide) (by omega) (by omega) (fun h58 => absurd h58 (by omega)) (fun h58 => ?_)
          refine v_ald0 dX2_faultOnTape_61 ?_
          refine v_callVv (kR_next E Mz hT hk hk5 hw) dX2_faultOnTape_62 cX2_45 rfl sh_33 rfl (by decide) (Nat.le_of_ble_eq_true rfl) rfl (fun M1z hq => ?_)
          obtain ⟨hq1, hq2, hq3⟩ := hq
          have hNx : NxF Mz M1z := ⟨hq1, hq2⟩
          have hT1 := hNx.tp hT
          have hP1 := hNx.ps hP
          have hF1 := hNx.fr hF
          have hk1 : M1z 35 0 = nI key := by rw [hq1 35 (by decide)]; exact hk0
          refine v_ald0 dX2_faultOnTape_65 ?_
          refine v_geti dX2_faultOnTape_66 gX2_59 sh_33 rfl ?_
          refine v_eq (hq3.1) ?_
          refine v_sipushN (n := 1000) dX2_faultOnTape_69 (by decide +kernel) ?_
          refine v_icmp_ne (tgt := 92) dX2_faultOnTape_72 (by decide) (fun h72 => ?_) (fun h72 => absurd h72 (fun q => tk_n0 h0 hb h4 q))
          refine v_ild2 dX2_faultOnTape_92 ?_
          refine v_if_eq (tgt := 103) dX2_faultOnTape_93 (by decide) (fun h93 => absurd h93 (show ¬ b2 true = 0 by decide)) (fun h93 => ?_)
          refine v_ald0 dX2_faultOnTape_96 ?_
          refine v_callVi (kR_takesPiece E M1z hT1 hq3 n2 n3 hP1 (by omega) hv hkey hk1 hI.2.1 hI.2.2.1 (fun i a b => (hT.2.2 i (by omega)).2) (nxt_2 tp we) (nxt_1 tp we) h0 h4 n6) dX2_faultOnTape_97 cX2_66 rfl sh_33 rfl (by decide) (Nat.le_of_ble_eq_true rfl) rfl (fun r2 M2z hq4 => ?_)
          rw [show pW tp key (nxt tp n k we) o u lv = some q' from hs] at hq4
          obtain ⟨hr4, hm4⟩ := hq4
          rw [hr4]
          have htk : M2z 33 3 = tkC tp (nxt tp n k we) := by rw [hm4.2.2.1 3 (by decide)]; exact hq3.1
          refine v_goto (tgt := 107) dX2_faultOnTape_100 (by decide) ?_
          refine v_ist4 dX2_faultOnTape_107 (by decide) ?_
          refine v_ild4 dX2_faultOnTape_109 ?_
          refine v_if_ne (tgt := 119) dX2_faultOnTape_111 (by decide) (fun h111 => ?_) (fun h111 => absurd h111 (by decide))
          refine v_ald0 dX2_faultOnTape_119 ?_
          refine v_geti dX2_faultOnTape_120 gX2_59 sh_33 rfl ?_
          refine v_eq (htk) ?_
          refine v_bipushN (n := 40) dX2_faultOnTape_123 (by decide) ?_
          refine v_icmp_eq (tgt := 147) dX2_faultOnTape_125 (by decide) (fun h125 => ?_) (fun h125 => ?_)
          · refine v_iconstN (n := 1) dX2_faultOnTape_147 ?_
            refine v_goto (tgt := 152) dX2_faultOnTape_148 (by decide) ?_
            refine v_ist2 dX2_faultOnTape_152 (by decide) ?_
            refine v_iincN3 (n := 1) dX2_faultOnTape_153 (by decide) ?_
            refine v_goto (tgt := 55) dX2_faultOnTape_156 (by decide) ?_
            refine v_fg4 ?_
            exact v_lo (by rw [hwt, show wtB tp (nxt tp n k we) = true from by unfold wtB; rw [decide_eq_true h125, Bool.true_or], show 96 - f = 96 - (f + 1) + 1 by omega]; rfl) (kR_loop E A hkey f _ _ q' M2z (by omega) n3 hI2 (hT1.fr hm4.2) ((hm4.2.2.1 5 (by decide)).trans hq3.2.2.1) ((hm4.2.2.1 6 (by decide)).trans hq3.2.2.2) hm4.1 (hm4.2.2.2.trans hk1) (hF1.p hm4.2))
          · refine v_ald0 dX2_faultOnTape_128 ?_
            refine v_geti dX2_faultOnTape_129 gX2_59 sh_33 rfl ?_
            refine v_eq (htk) ?_
            refine v_bipushN (n := 33) dX2_faultOnTape_132 (by decide) ?_
            refine v_icmp_eq (tgt := 147) dX2_faultOnTape_134 (by decide) (fun h134 => ?_) (fun h134 => ?_)
            · refine v_iconstN (n := 1) dX2_faultOnTape_147 ?_
              refine v_goto (tgt := 152) dX2_faultOnTape_148 (by decide) ?_
              refine v_ist2 dX2_faultOnTape_152 (by decide) ?_
              refine v_iincN3 (n := 1) dX2_faultOnTape_153 (by decide) ?_
              refine v_goto (tgt := 55) dX2_faultOnTape_156 (by decide) ?_
              refine v_fg4 ?_
              exact v_lo (by rw [hwt, show wtB tp (nxt tp n k we) = true from by unfold wtB; rw [decide_eq_true h134, Bool.true_or, Bool.or_true], show 96 - f = 96 - (f + 1) + 1 by omega]; rfl) (kR_loop E A hkey f _ _ q' M2z (by omega) n3 hI2 (hT1.fr hm4.2) ((hm4.2.2.1 5 (by decide)).trans hq3.2.2.1) ((hm4.2.2.1 6 (by decide)).trans hq3.2.2.2) hm4.1 (hm4.2.2.2.trans hk1) (hF1.p hm4.2))
            · refine v_ald0 dX2_faultOnTape_137 ?_
              refine v_geti dX2_faultOnTape_138 gX2_59 sh_33 rfl ?_
              refine v_eq (htk) ?_
              refine v_callSi (kR_levelOf E M2z) dX2_faultOnTape_141 cX2_73 rfl (by decide) (Nat.le_of_ble_eq_true rfl) rfl (fun r5 M5z hq5 => ?_)
              obtain ⟨hr5, hm5⟩ := hq5
              rw [hr5, hm5]
              clear hr5 hm5
              refine v_if_eq (tgt := 151) dX2_faultOnTape_144 (by decide) (fun h144 => ?_) (fun h144 => ?_)
              · refine v_iconstN (n := 0) dX2_faultOnTape_151 ?_
                refine v_ist2 dX2_faultOnTape_152 (by decide) ?_
                refine v_iincN3 (n := 1) dX2_faultOnTape_153 (by decide) ?_
                refine v_goto (tgt := 55) dX2_faultOnTape_156 (by decide) ?_
                refine v_fg4 ?_
                exact v_lo (by rw [hwt, show wtB tp (nxt tp n k we) = false from by unfold wtB; rw [decide_eq_false h125, decide_eq_false h134, decide_eq_false (show ¬ (levI (tkC tp (nxt tp n k we)) ≠ 0) from fun q => q (by have := h144; exact (nI_eq (by have := lvI_le (tkC tp (nxt tp n k we)); omega) (by decide)).mp (this.trans nI_0.symm))), Bool.false_or, Bool.false_or], show 96 - f = 96 - (f + 1) + 1 by omega]; rfl) (kR_loop E A hkey f _ _ q' M2z (by omega) n3 hI2 (hT1.fr hm4.2) ((hm4.2.2.1 5 (by decide)).trans hq3.2.2.1) ((hm4.2.2.1 6 (by decide)).trans hq3.2.2.2) hm4.1 (hm4.2.2.2.trans hk1) (hF1.p hm4.2))
              · refine v_iconstN (n := 1) dX2_faultOnTape_147 ?_
                refine v_goto (tgt := 152) dX2_faultOnTape_148 (by decide) ?_
                refine v_ist2 dX2_faultOnTape_152 (by decide) ?_
                refine v_iincN3 (n := 1) dX2_faultOnTape_153 (by decide) ?_
                refine v_goto (tgt := 55) dX2_faultOnTape_156 (by decide) ?_
                refine v_fg4 ?_
                exact v_lo (by rw [hwt, show wtB tp (nxt tp n k we) = true from by unfold wtB; rw [decide_eq_true (show levI (tkC tp (nxt tp n k we)) ≠ 0 from fun q => h144 (by rw [q]; rfl)), Bool.or_true, Bool.or_true], show 96 - f = 96 - (f + 1) + 1 by omega]; rfl) (kR_loop E A hkey f _ _ q' M2z (by omega) n3 hI2 (hT1.fr hm4.2) ((hm4.2.2.1 5 (by decide)).trans hq3.2.2.1) ((hm4.2.2.1 6 (by decide)).trans hq3.2.2.2) hm4.1 (hm4.2.2.2.trans hk1) (hF1.p hm4.2))
        | false =>
          refine v_ild3 dX2_faultOnTape_55 ?_
          refine v_bipushN (n := 96) dX2_faultOnTape_56 (by decide) ?_
          refine v_icmpN_ge (tgt := 159) dX2_faultOnTape_58 (by decide) (by omega) (by omega) (fun h58 => absurd h58 (by omega)) (fun h58 => ?_)
          refine v_ald0 dX2_faultOnTape_61 ?_
          refine v_callVv (kR_next E Mz hT hk hk5 hw) dX2_faultOnTape_62 cX2_45 rfl sh_33 rfl (by decide) (Nat.le_of_ble_eq_true rfl) rfl (fun M1z hq => ?_)
          obtain ⟨hq1, hq2, hq3⟩ := hq
          have hNx : NxF Mz M1z := ⟨hq1, hq2⟩
          have hT1 := hNx.tp hT
          have hP1 := hNx.ps hP
          have hF1 := hNx.fr hF
          have hk1 : M1z 35 0 = nI key := by rw [hq1 35 (by decide)]; exact hk0
          refine v_ald0 dX2_faultOnTape_65 ?_
          refine v_geti dX2_faultOnTape_66 gX2_59 sh_33 rfl ?_
          refine v_eq (hq3.1) ?_
          refine v_sipushN (n := 1000) dX2_faultOnTape_69 (by decide +kernel) ?_
          refine v_icmp_ne (tgt := 92) dX2_faultOnTape_72 (by decide) (fun h72 => ?_) (fun h72 => absurd h72 (fun q => tk_n0 h0 hb h4 q))
          refine v_ild2 dX2_faultOnTape_92 ?_
          refine v_if_eq (tgt := 103) dX2_faultOnTape_93 (by decide) (fun h93 => ?_) (fun h93 => absurd h93 (fun q => q rfl))
          refine v_ald0 dX2_faultOnTape_103 ?_
          refine v_callVi (kR_takesSign E M1z hq3 hP1 (by omega) hv hI.1 hI.2.2.1 hb h0 h4) dX2_faultOnTape_104 cX2_70 rfl sh_33 rfl (by decide) (Nat.le_of_ble_eq_true rfl) rfl (fun r2 M2z hq4 => ?_)
          rw [show pN tp (nxt tp n k we) o u lv = some q' from hs] at hq4
          obtain ⟨hr4, hm4⟩ := hq4
          rw [hr4]
          have htk : M2z 33 3 = tkC tp (nxt tp n k we) := by rw [hm4.2.2.1 3 (by decide)]; exact hq3.1
          refine v_ist4 dX2_faultOnTape_107 (by decide) ?_
          refine v_ild4 dX2_faultOnTape_109 ?_
          refine v_if_ne (tgt := 119) dX2_faultOnTape_111 (by decide) (fun h111 => ?_) (fun h111 => absurd h111 (by decide))
          refine v_ald0 dX2_faultOnTape_119 ?_
          refine v_geti dX2_faultOnTape_120 gX2_59 sh_33 rfl ?_
          refine v_eq (htk) ?_
          refine v_bipushN (n := 40) dX2_faultOnTape_123 (by decide) ?_
          refine v_icmp_eq (tgt := 147) dX2_faultOnTape_125 (by decide) (fun h125 => ?_) (fun h125 => ?_)
          · refine v_iconstN (n := 1) dX2_faultOnTape_147 ?_
            refine v_goto (tgt := 152) dX2_faultOnTape_148 (by decide) ?_
            refine v_ist2 dX2_faultOnTape_152 (by decide) ?_
            refine v_iincN3 (n := 1) dX2_faultOnTape_153 (by decide) ?_
            refine v_goto (tgt := 55) dX2_faultOnTape_156 (by decide) ?_
            refine v_fg4 ?_
            exact v_lo (by rw [hwt, show wtB tp (nxt tp n k we) = true from by unfold wtB; rw [decide_eq_true h125, Bool.true_or], show 96 - f = 96 - (f + 1) + 1 by omega]; rfl) (kR_loop E A hkey f _ _ q' M2z (by omega) n3 hI2 (hT1.fr hm4.2) ((hm4.2.2.1 5 (by decide)).trans hq3.2.2.1) ((hm4.2.2.1 6 (by decide)).trans hq3.2.2.2) hm4.1 (hm4.2.2.2.trans hk1) (hF1.p hm4.2))
          · refine v_ald0 dX2_faultOnTape_128 ?_
            refine v_geti dX2_faultOnTape_129 gX2_59 sh_33 rfl ?_
            refine v_eq (htk) ?_
            refine v_bipushN (n := 33) dX2_faultOnTape_132 (by decide) ?_
            refine v_icmp_eq (tgt := 147) dX2_faultOnTape_134 (by decide) (fun h134 => ?_) (fun h134 => ?_)
            · refine v_iconstN (n := 1) dX2_faultOnTape_147 ?_
              refine v_goto (tgt := 152) dX2_faultOnTape_148 (by decide) ?_
              refine v_ist2 dX2_faultOnTape_152 (by decide) ?_
              refine v_iincN3 (n := 1) dX2_faultOnTape_153 (by decide) ?_
              refine v_goto (tgt := 55) dX2_faultOnTape_156 (by decide) ?_
              refine v_fg4 ?_
              exact v_lo (by rw [hwt, show wtB tp (nxt tp n k we) = true from by unfold wtB; rw [decide_eq_true h134, Bool.true_or, Bool.or_true], show 96 - f = 96 - (f + 1) + 1 by omega]; rfl) (kR_loop E A hkey f _ _ q' M2z (by omega) n3 hI2 (hT1.fr hm4.2) ((hm4.2.2.1 5 (by decide)).trans hq3.2.2.1) ((hm4.2.2.1 6 (by decide)).trans hq3.2.2.2) hm4.1 (hm4.2.2.2.trans hk1) (hF1.p hm4.2))
            · refine v_ald0 dX2_faultOnTape_137 ?_
              refine v_geti dX2_faultOnTape_138 gX2_59 sh_33 rfl ?_
              refine v_eq (htk) ?_
              refine v_callSi (kR_levelOf E M2z) dX2_faultOnTape_141 cX2_73 rfl (by decide) (Nat.le_of_ble_eq_true rfl) rfl (fun r5 M5z hq5 => ?_)
              obtain ⟨hr5, hm5⟩ := hq5
              rw [hr5, hm5]
              clear hr5 hm5
              refine v_if_eq (tgt := 151) dX2_faultOnTape_144 (by decide) (fun h144 => ?_) (fun h144 => ?_)
              · refine v_iconstN (n := 0) dX2_faultOnTape_151 ?_
                refine v_ist2 dX2_faultOnTape_152 (by decide) ?_
                refine v_iincN3 (n := 1) dX2_faultOnTape_153 (by decide) ?_
                refine v_goto (tgt := 55) dX2_faultOnTape_156 (by decide) ?_
                refine v_fg4 ?_
                exact v_lo (by rw [hwt, show wtB tp (nxt tp n k we) = false from by unfold wtB; rw [decide_eq_false h125, decide_eq_false h134, decide_eq_false (show ¬ (levI (tkC tp (nxt tp n k we)) ≠ 0) from fun q => q (by have := h144; exact (nI_eq (by have := lvI_le (tkC tp (nxt tp n k we)); omega) (by decide)).mp (this.trans nI_0.symm))), Bool.false_or, Bool.false_or], show 96 - f = 96 - (f + 1) + 1 by omega]; rfl) (kR_loop E A hkey f _ _ q' M2z (by omega) n3 hI2 (hT1.fr hm4.2) ((hm4.2.2.1 5 (by decide)).trans hq3.2.2.1) ((hm4.2.2.1 6 (by decide)).trans hq3.2.2.2) hm4.1 (hm4.2.2.2.trans hk1) (hF1.p hm4.2))
              · refine v_iconstN (n := 1) dX2_faultOnTape_147 ?_
                refine v_goto (tgt := 152) dX2_faultOnTape_148 (by decide) ?_
                refine v_ist2 dX2_faultOnTape_152 (by decide) ?_
                refine v_iincN3 (n := 1) dX2_faultOnTape_153 (by decide) ?_
                refine v_goto (tgt := 55) dX2_faultOnTape_156 (by decide) ?_
                refine v_fg4 ?_
                exact v_lo (by rw [hwt, show wtB tp (nxt tp n k we) = true from by unfold wtB; rw [decide_eq_true (show levI (tkC tp (nxt tp n k we)) ≠ 0 from fun q => h144 (by rw [q]; rfl)), Bool.or_true, Bool.or_true], show 96 - f = 96 - (f + 1) + 1 by omega]; rfl) (kR_loop E A hkey f _ _ q' M2z (by omega) n3 hI2 (hT1.fr hm4.2) ((hm4.2.2.1 5 (by decide)).trans hq3.2.2.1) ((hm4.2.2.1 6 (by decide)).trans hq3.2.2.2) hm4.1 (hm4.2.2.2.trans hk1) (hF1.p hm4.2))
set_option maxRecDepth 100000 in
set_option maxHeartbeats 4000000 in
theorem kR_fault (E : ev) (Mz : mm) {tp : Nat → Nat} {n : Nat} (hT : TpC Mz tp n) : Ct E 6 yX2_faultOnTape cX2_faultOnTape 5 (some .int) [.inr 33] Mz (qI E (fun r M' => PostF Mz (keyT tp (nxt tp n 0 (-1))) (PT tp n) r M')) := by
  refine ct_of (by decide) (Nat.le_of_ble_eq_true rfl) ?_
  show V E 6 _ _ _ _ _ 0 [some (.inr 33), none, none, none, none] [] Mz
  obtain ⟨-, n1, n2, n3, n4⟩ := nxt_ok tp (n := n) (k := 0) (-1) (Nat.zero_le _)
  have hn96 := hT.2.1
  have hk3 := keyT_le tp (nxt tp n 0 (-1))
  have hT5 : TpC (wr (wr (wr (wr (wr Mz 33 5 (nI 0)) 33 6 (-1)) 33 8 (nI 0)) 33 9 (nI 0)) 33 10 (nI 0)) tp n := ⟨by simp [wr, wa, upd]; exact hT.1, hT.2.1, fun i hi => by rw [wr_ne (by decide), wr_ne (by decide), wr_ne (by decide), wr_ne (by decide), wr_ne (by decide)]; exact hT.2.2 i hi⟩
  have hF5 : FrQ Mz (wr (wr (wr (wr (wr Mz 33 5 (nI 0)) 33 6 (-1)) 33 8 (nI 0)) 33 9 (nI 0)) 33 10 (nI 0)) := ⟨fun a h1 _ _ _ => by rw [wr_ne h1, wr_ne h1, wr_ne h1, wr_ne h1, wr_ne h1], by simp [wr, wa, upd]⟩
  have h4 : (nxt tp n 0 (-1)).1 ≤ 4 := by rcases n4 with e | e <;> omega
  have hb : (nxt tp n 0 (-1)).1 = 3 → tp (nxt tp n 0 (-1)).2.1 < 256 := fun e => by rcases n4 with q | q; (omega); exact (hT.2.2 _ q.2.2.1).2
  by_cases h3 : keyT tp (nxt tp n 0 (-1)) = 3
  · rw [show PT tp n = (none, (nxt tp n 0 (-1)).2.1) from if_pos h3]
    refine v_ald0 dX2_faultOnTape_0 ?_
    refine v_iconstN (n := 0) dX2_faultOnTape_1 ?_
    refine v_puti dX2_faultOnTape_2 pX2_30 sh_33 rfl rfl rfl ?_
    refine v_ald0 dX2_faultOnTape_5 ?_
    refine v_iconst (x := -1) dX2_faultOnTape_6 (by decide) ?_
    refine v_puti dX2_faultOnTape_7 pX2_33 sh_33 rfl rfl rfl ?_
    refine v_ald0 dX2_faultOnTape_10 ?_
    refine v_iconstN (n := 0) dX2_faultOnTape_11 ?_
    refine v_puti dX2_faultOnTape_12 pX2_36 sh_33 rfl rfl rfl ?_
    refine v_ald0 dX2_faultOnTape_15 ?_
    refine v_iconstN (n := 0) dX2_faultOnTape_16 ?_
    refine v_puti dX2_faultOnTape_17 pX2_39 sh_33 rfl rfl rfl ?_
    refine v_ald0 dX2_faultOnTape_20 ?_
    refine v_iconstN (n := 0) dX2_faultOnTape_21 ?_
    refine v_puti dX2_faultOnTape_22 pX2_42 sh_33 rfl rfl rfl ?_
    refine v_ald0 dX2_faultOnTape_25 ?_
    refine v_callVv (kR_next E (wr (wr (wr (wr (wr Mz 33 5 (nI 0)) 33 6 (-1)) 33 8 (nI 0)) 33 9 (nI 0)) 33 10 (nI 0)) (we := -1) (k := 0) hT5 (Nat.zero_le n) (by simp [wr, wa, upd]) (by simp [wr, wa, upd])) dX2_faultOnTape_26 cX2_45 rfl sh_33 rfl (by decide) (Nat.le_of_ble_eq_true rfl) rfl (fun M1z hq => ?_)
    obtain ⟨hq1, hq2, hq3⟩ := hq
    have hNx : NxF (wr (wr (wr (wr (wr Mz 33 5 (nI 0)) 33 6 (-1)) 33 8 (nI 0)) 33 9 (nI 0)) 33 10 (nI 0)) M1z := ⟨hq1, hq2⟩
    have hT1 := hNx.tp hT5
    have hF1 := hNx.fr hF5
    refine v_ald0 dX2_faultOnTape_29 ?_
    refine v_callVi (kR_key E M1z hT1 hq3 n2 n3 hb h4) dX2_faultOnTape_30 cX2_48 rfl sh_33 rfl (by decide) (Nat.le_of_ble_eq_true rfl) rfl (fun r2 M2z hq4 => ?_)
    obtain ⟨hr4, hm4⟩ := hq4
    rw [hr4, hm4]
    clear hr4 hm4
    refine v_eq (show (if keyT tp (nxt tp n 0 (-1)) = 3 then (-1 : Int32) else nI (keyT tp (nxt tp n 0 (-1)))) = -1 from if_pos h3) ?_
    refine v_ist1 dX2_faultOnTape_33 (by decide) ?_
    refine v_ild1 dX2_faultOnTape_34 ?_
    refine v_if_ge (tgt := 43) dX2_faultOnTape_35 (by decide) (fun h35 => absurd h35 (by decide)) (fun h35 => ?_)
    refine v_ald0 dX2_faultOnTape_38 ?_
    refine v_geti dX2_faultOnTape_39 gX2_52 sh_33 rfl ?_
    exact v_iret dX2_faultOnTape_42 rfl (⟨hq3.2.1, hF1⟩)
  · rw [show PT tp n = PL tp n (keyT tp (nxt tp n 0 (-1))) 96 (nxt tp n 0 (-1)).2.2.1 (nxt tp n 0 (-1)).2.2.2 (true, [], [], 0) from if_neg h3]
    refine v_ald0 dX2_faultOnTape_0 ?_
    refine v_iconstN (n := 0) dX2_faultOnTape_1 ?_
    refine v_puti dX2_faultOnTape_2 pX2_30 sh_33 rfl rfl rfl ?_
    refine v_ald0 dX2_faultOnTape_5 ?_
    refine v_iconst (x := -1) dX2_faultOnTape_6 (by decide) ?_
    refine v_puti dX2_faultOnTape_7 pX2_33 sh_33 rfl rfl rfl ?_
    refine v_ald0 dX2_faultOnTape_10 ?_
    refine v_iconstN (n := 0) dX2_faultOnTape_11 ?_
    refine v_puti dX2_faultOnTape_12 pX2_36 sh_33 rfl rfl rfl ?_
    refine v_ald0 dX2_faultOnTape_15 ?_
    refine v_iconstN (n := 0) dX2_faultOnTape_16 ?_
    refine v_puti dX2_faultOnTape_17 pX2_39 sh_33 rfl rfl rfl ?_
    refine v_ald0 dX2_faultOnTape_20 ?_
    refine v_iconstN (n := 0) dX2_faultOnTape_21 ?_
    refine v_puti dX2_faultOnTape_22 pX2_42 sh_33 rfl rfl rfl ?_
    refine v_ald0 dX2_faultOnTape_25 ?_
    refine v_callVv (kR_next E (wr (wr (wr (wr (wr Mz 33 5 (nI 0)) 33 6 (-1)) 33 8 (nI 0)) 33 9 (nI 0)) 33 10 (nI 0)) (we := -1) (k := 0) hT5 (Nat.zero_le n) (by simp [wr, wa, upd]) (by simp [wr, wa, upd])) dX2_faultOnTape_26 cX2_45 rfl sh_33 rfl (by decide) (Nat.le_of_ble_eq_true rfl) rfl (fun M1z hq => ?_)
    obtain ⟨hq1, hq2, hq3⟩ := hq
    have hNx : NxF (wr (wr (wr (wr (wr Mz 33 5 (nI 0)) 33 6 (-1)) 33 8 (nI 0)) 33 9 (nI 0)) 33 10 (nI 0)) M1z := ⟨hq1, hq2⟩
    have hT1 := hNx.tp hT5
    have hF1 := hNx.fr hF5
    refine v_ald0 dX2_faultOnTape_29 ?_
    refine v_callVi (kR_key E M1z hT1 hq3 n2 n3 hb h4) dX2_faultOnTape_30 cX2_48 rfl sh_33 rfl (by decide) (Nat.le_of_ble_eq_true rfl) rfl (fun r2 M2z hq4 => ?_)
    obtain ⟨hr4, hm4⟩ := hq4
    rw [hr4, hm4]
    clear hr4 hm4
    refine v_eq (show (if keyT tp (nxt tp n 0 (-1)) = 3 then (-1 : Int32) else nI (keyT tp (nxt tp n 0 (-1)))) = nI (keyT tp (nxt tp n 0 (-1))) from if_neg h3) ?_
    refine v_ist1 dX2_faultOnTape_33 (by decide) ?_
    refine v_ild1 dX2_faultOnTape_34 ?_
    refine v_if_ge (tgt := 43) dX2_faultOnTape_35 (by decide) (fun h35 => ?_) (fun h35 => absurd h35 (fun q => q (nI_pos' (by omega))))
    refine v_ald0 dX2_faultOnTape_43 ?_
    refine v_getr dX2_faultOnTape_44 gX2_18 sh_33 rfl ?_
    refine v_ild1 dX2_faultOnTape_47 ?_
    refine v_callVv (kT_begin E M1z) dX2_faultOnTape_48 cX2_55 rfl sh_35 rfl (by decide) (Nat.le_of_ble_eq_true rfl) rfl (fun M3z hq5 => ?_)
    rw [hq5]
    clear hq5
    refine v_iconstN (n := 1) dX2_faultOnTape_51 ?_
    refine v_ist2 dX2_faultOnTape_52 (by decide) ?_
    refine v_iconstN (n := 0) dX2_faultOnTape_53 ?_
    refine v_ist3 dX2_faultOnTape_54 (by decide) ?_
    exact kR_loop E Mz (by omega) 96 _ _ (true, [], [], 0) (wr (wr (wr M1z 35 0 (nI (keyT tp (nxt tp n 0 (-1))))) 35 1 (nI 0)) 35 2 (nI 0)) (Nat.le_refl _) n3 (PI_0 _ _) ⟨by rw [wr_ne (by decide), wr_ne (by decide), wr_ne (by decide)]; exact hT1.1, hT1.2.1, fun i hi => by rw [wr_ne (by decide), wr_ne (by decide), wr_ne (by decide)]; exact hT1.2.2 i hi⟩ (by rw [wr_ne (by decide), wr_ne (by decide), wr_ne (by decide)]; exact hq3.2.2.1) (by rw [wr_ne (by decide), wr_ne (by decide), wr_ne (by decide)]; exact hq3.2.2.2) ⟨by rw [wr_ne (by decide), wr_ne (by decide), wr_ne (by decide), hq2 8 (by decide) (by decide) (by decide) (by decide)]; simp [wr, wa, upd], rp_nil _, by rw [wr_ne (by decide), wr_ne (by decide), wr_ne (by decide), hq2 9 (by decide) (by decide) (by decide) (by decide)]; simp [wr, wa, upd, ct], by rw [wr_ne (by decide), wr_ne (by decide), wr_ne (by decide), hq2 10 (by decide) (by decide) (by decide) (by decide)]; simp [wr, wa, upd, ct], by simp [wr, wa, upd], by simp [wr, wa, upd], rp_nil _⟩ (by simp [wr, wa, upd]) ⟨fun a h1 h2 h3 h4 => by rw [wr_ne h2, wr_ne h2, wr_ne h2]; exact hF1.1 a h1 h2 h3 h4, by rw [wr_ne (by decide), wr_ne (by decide), wr_ne (by decide)]; exact hF1.2⟩
