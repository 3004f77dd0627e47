/-! texts on both sides, by one table of them: key, length, leaves, codes -/
def nmW (a b c d : Int32) : Nat → Int32 := fun j => if j = 0 then a else if j = 1 then b else if j = 2 then c else if j = 3 then d else 0
def nmF (a b : Int32) : Nat → Int32 := fun j => if j = 4 then a else if j = 5 then b else 0
def nmN (a b : Int32) : Nat → Int32 := fun j => if j = 0 then a else if j = 2 then b else 0
def okN (key j : Nat) : Prop := (key = 0 ∧ j < 4) ∨ (key = 1 ∧ (j = 4 ∨ j = 5)) ∨ (key = 2 ∧ (j = 0 ∨ j = 2))
def locN (key j : Nat) : Nat := if key = 1 then j - 4 else if key = 2 then j / 2 else j
abbrev tx : Type := Nat × Nat × Nat × (Nat → Int32)
def txOK (t : tx) : Prop := t.1 < 3 ∧ WF t.2.2.2 t.2.1 ∧ (∀ i, i < t.2.1 → ∀ j, j < 6 → t.2.2.2 i = -1 - nI j → okN t.1 j) ∧ t.2.2.1 < 1000
def tmK (key : Nat) (x y : Int32) : Prop := (∃ k : Nat, k < 10000 ∧ x = nI k ∧ y = nI k) ∨ (∃ j : Nat, j < 6 ∧ okN key j ∧ x = -1 - nI j ∧ y = nI (10000 + locN key j)) ∨ (x = -33 ∧ y = -10) ∨ (x = -42 ∧ y = -8) ∨ (x = -47 ∧ y = -9) ∨ (x = -43 ∧ y = -6) ∨ (x = -45 ∧ y = -7) ∨ (x = -60 ∧ y = -3) ∨ (x = -61 ∧ y = -4) ∨ (x = -62 ∧ y = -5) ∨ (x = -38 ∧ y = -2) ∨ (x = -124 ∧ y = -1)
def ClT (M : mm) (tt : Nat → tx) (T : Nat) : Prop := ∀ t, t < T → txOK (tt t) ∧ M (5 + 2 * t) 0 = nI (tt t).1 ∧ M (5 + 2 * t) 1 = nI (tt t).2.2.1 ∧ M (5 + 2 * t) 2 = nI (tt t).2.1 ∧ ∀ i, i < (tt t).2.1 → M (5 + 2 * t + 1) i = (tt t).2.2.2 i
def MoT (w : fl) (tt : Nat → tx) (T : Nat) : Prop := ∀ t, t < T → txOK (tt t) ∧ w (99 + 2 * t) = nI (1000 * (tt t).1 + (tt t).2.1) ∧ w (100 + 2 * t) = nI (tt t).2.2.1 ∧ ∀ i, i < (tt t).2.1 → tmK (tt t).1 ((tt t).2.2.2 i) (w (127 + 96 * t + i))
def ksT (tt : Nat → tx) : Nat → Nat := fun t => (tt t).1
def TxC (M : mm) (c : Nat) (tt : Nat → tx) (T : Nat) : Prop := T ≤ 14 ∧ M c 14 = nI T ∧ ClT M tt T ∧ ∀ key, key < 3 → M (c + 8) key = lastK (ksT tt) key T
def TxM (M : mm) (tt : Nat → tx) (T : Nat) : Prop := T ≤ 14 ∧ M 93 6 = nI T ∧ MoT (M 93) tt T
def evT (tt : Nat → tx) (t : Nat) (nm : Nat → Int32) : Int32 := bot (gst nm (tt t).2.2.2 (tt t).2.1)
def pfT (tt : Nat → tx) (T : Nat) : p4 := fun a b c d => if lastK (ksT tt) 0 T < 0 then a else clampS (evT tt (lastK (ksT tt) 0 T).toNatClampNeg (nmW a b c d)) (nI 0) (nI 99)
theorem lastK_cases (ks : Nat → Nat) (key : Nat) : ∀ T, lastK ks key T = -1 ∨ ∃ t, t < T ∧ lastK ks key T = nI t ∧ ks t = key
  | 0 => Or.inl rfl
  | T + 1 => by
    unfold lastK
    by_cases h : ks T = key
    · rw [if_pos h]; exact Or.inr ⟨T, by omega, rfl, h⟩
    · rw [if_neg h]
      rcases lastK_cases ks key T with e | ⟨t, h1, h2, h3⟩
      · exact Or.inl e
      · exact Or.inr ⟨t, by omega, h2, h3⟩
theorem bin_n6 {x : Int32} (h : isBin x) : ¬ (-6 : Int32) ≤ x ∧ x ≠ -33 := by rcases h with rfl | rfl | rfl | rfl | rfl | rfl | rfl | rfl | rfl <;> decide
theorem gst_congr {nm nm' xs ys : Nat → Int32} {n : Nat} (hw : WF xs n) (hx : ∀ i, i < n → ys i = xs i) (hn : ∀ i, i < n → ∀ j, j < 6 → xs i = -1 - nI j → nm j = nm' j) : ∀ i, i ≤ n → gst nm ys i = gst nm' xs i
  | 0, _ => rfl
  | i + 1, hi => by
    have ih := gst_congr hw hx hn i (by omega)
    show g1 nm (ys i) (gst nm ys i) = g1 nm' (xs i) (gst nm' xs i)
    rw [hx i (by omega), ih]
    have hj := hn i (by omega)
    rcases hw.2.2.2 i (by omega) with ⟨k, hk, e⟩ | e | ⟨e, -⟩ | ⟨e, -⟩
    · rw [e, g1_num hk, g1_num hk]
    · rcases e with e | e | e | e | e | e
      · rw [e]; show nm 0 :: _ = nm' 0 :: _; rw [hj 0 (by decide) (by rw [e]; decide)]
      · rw [e]; show nm 1 :: _ = nm' 1 :: _; rw [hj 1 (by decide) (by rw [e]; decide)]
      · rw [e]; show nm 2 :: _ = nm' 2 :: _; rw [hj 2 (by decide) (by rw [e]; decide)]
      · rw [e]; show nm 3 :: _ = nm' 3 :: _; rw [hj 3 (by decide) (by rw [e]; decide)]
      · rw [e]; show nm 4 :: _ = nm' 4 :: _; rw [hj 4 (by decide) (by rw [e]; decide)]
      · rw [e]; show nm 5 :: _ = nm' 5 :: _; rw [hj 5 (by decide) (by rw [e]; decide)]
    · rw [e]; rfl
    · unfold g1; rw [if_neg (bin_n6 e).1, if_neg (bin_n6 e).1, if_neg (bin_n6 e).2]
theorem htK_congr {xs ys : Nat → Int32} {n : Nat} (hx : ∀ i, i < n → ys i = xs i) : ∀ i, i ≤ n → htK ys i = htK xs i
  | 0, _ => rfl
  | i + 1, hi => by
    unfold htK
    rw [hx i (by omega), htK_congr hx i (by omega)]
theorem WF_congr {xs ys : Nat → Int32} {n : Nat} (hx : ∀ i, i < n → ys i = xs i) (h : WF xs n) : WF ys n :=
  ⟨h.1, h.2.1, by rw [htK_congr hx n (Nat.le_refl _)]; exact h.2.2.1, fun i hi => by rw [hx i hi, htK_congr hx i (by omega)]; exact h.2.2.2 i hi⟩
theorem cv_wa {M : mm} {a c : Nat} {f : Nat → Int32} (h : a < c ∨ c + 8 < a) : cv (wa M a f) c = cv M c := by
  funext i
  unfold cv
  split
  · rw [wa_ne (by omega)]
  · split
    · rw [wa_ne (by omega)]
    · split
      · rw [wa_ne (by omega)]
      · split
        · split
          · rw [wa_ne (by omega)]
          · rw [wa_ne (by omega)]
        · rfl
theorem cv_w {M : mm} {a c j : Nat} {x : Int32} (h : a < c ∨ c + 8 < a) : cv (wr M a j x) c = cv M c := cv_wa h
theorem mv_wa {M : mm} {a : Nat} {f : Nat → Int32} (h : a ≠ 93) : mv (wa M a f) = mv M := by
  funext i; unfold mv; rw [wa_ne (Ne.symm h)]
theorem mv_w {M : mm} {a j : Nat} {x : Int32} (h : a ≠ 93) : mv (wr M a j x) = mv M := mv_wa h
theorem wa_of {M M' : mm} {a : Nat} (h : ∀ b, b ≠ a → M' b = M b) : M' = wa M a (M' a) := by
  funext b
  by_cases e : b = a
  · subst e; rw [wa_at]
  · rw [wa_ne e]; exact h b e
theorem thkN_lt {v : fl} {W : Nat} (hI : CI v W) (f : Nat) (c : Int32) : thkN v f c < 256 := by
  have h := setK_lt (thkP v f c) (pn v)
  have h8 : 2 ^ (pn v) ≤ 2 ^ 8 := Nat.pow_le_pow_right (by decide) hI.pn.2
  unfold thkN
  omega
theorem CB.ge {c : Nat} (h : CB c) : 38 ≤ c ∧ c ≤ 56 := by unfold CB at h; omega
/-- only the class's scratch rows have changed; only the reference's -/
def Scr (M M' : mm) : Prop := ∃ g3 g4, M' = wa (wa M 3 g3) 4 g4
def ScM (M M' : mm) : Prop := ∃ g h, M' = wa (wa M 104 g) 103 h
theorem Scr.rf (M : mm) : Scr M M := ⟨M 3, M 4, by rw [wa_self, wa_self]⟩
theorem ScM.rf (M : mm) : ScM M M := ⟨M 104, M 103, by rw [wa_self, wa_self]⟩
theorem max_min {x lo hi : Int32} (h : lo ≤ hi) : (if lo < (if x < hi then x else hi) then (if x < hi then x else hi) else lo) = clampS x lo hi := by
  unfold clampS
  rw [Int32.le_iff_toInt_le] at h
  simp only [Int32.lt_iff_toInt_lt]
  by_cases h1 : x.toInt < lo.toInt
  · rw [if_pos (show x.toInt < hi.toInt by omega), if_neg (by omega), if_pos h1]
  · rw [if_neg h1]
    by_cases h2 : hi.toInt < x.toInt
    · rw [if_pos h2, if_neg (show ¬ x.toInt < hi.toInt by omega)]
      by_cases h3 : lo.toInt < hi.toInt
      · rw [if_pos h3]
      · rw [if_neg h3]; exact Int32.toInt_inj.mp (by omega)
    · rw [if_neg h2]
      by_cases h4 : x.toInt < hi.toInt
      · rw [if_pos h4]
        by_cases h3 : lo.toInt < x.toInt
        · rw [if_pos h3]
        · rw [if_neg h3]; exact Int32.toInt_inj.mp (by omega)
      · rw [if_neg h4]
        by_cases h3 : lo.toInt < hi.toInt
        · rw [if_pos h3]; exact Int32.toInt_inj.mp (by omega)
        · rw [if_neg h3]; exact Int32.toInt_inj.mp (by omega)
set_option maxRecDepth 100000 in
set_option maxHeartbeats 4000000 in
theorem kX_within (E : ev) (Mz : mm) {x lo hi : Int32} (h : lo ≤ hi) : Ct E 1 yX6_within cX6_within 3 (some .int) [.inl x, .inl lo, .inl hi] Mz (qI E (fun r M' => r = clampS x lo hi ∧ M' = Mz)) := by
  refine ct_of (by decide) (Nat.le_of_ble_eq_true rfl) ?_
  show V E 1 _ _ _ _ _ 0 [some (.inl x), some (.inl lo), some (.inl hi)] [] Mz
  refine v_ild1 dX6_within_0 ?_
  refine v_ild2 dX6_within_1 ?_
  refine v_ild0 dX6_within_2 ?_
  refine v_mmin dX6_within_3 mX6_143 (by decide) (Nat.le_of_ble_eq_true rfl) ?_
  refine v_mmax dX6_within_6 mX6_294 (by decide) (Nat.le_of_ble_eq_true rfl) ?_
  exact v_iret dX6_within_9 rfl (⟨max_min h, rfl⟩)
set_option maxRecDepth 100000 in
set_option maxHeartbeats 4000000 in
theorem kC_plainHeed (E : ev) (Mz : mm) {c p f W T : Nat} {crop : Int32} {tt : Nat → tx} (hc : CB c) (hp : p < 8) (hf : f < 6) (hI : CI (cv Mz c) W) (hT : TxC Mz c tt T) (hcr : crop ≠ 0) : Ct E 2 yX0_plainHeed cX0_plainHeed 5 (some .int) [.inr c, .inl (nI p), .inl (nI f), .inl crop] Mz (qI E (fun r M' => r = pfT tt T (tr (cv Mz c) p) (nI (popc (thkN (cv Mz c) f crop))) (su (cv Mz c) p) crop ∧ Scr Mz M')) := by
  refine ct_of (by decide) (Nat.le_of_ble_eq_true rfl) ?_
  show V E 2 _ _ _ _ _ 0 [some (.inr c), some (.inl (nI p)), some (.inl (nI f)), some (.inl crop), none] [] Mz
  have hcb := hc.ge
  refine v_ald0 dX0_plainHeed_0 ?_
  refine v_getr dX0_plainHeed_1 gX0_37 (shC hc) rfl ?_
  refine v_iconstN (n := 0) dX0_plainHeed_4 ?_
  refine v_ialdN dX0_plainHeed_5 (shC8 hc) (by omega) (by decide) ?_
  refine v_eq (hT.2.2.2 0 (by decide)) ?_
  refine v_ist4 dX0_plainHeed_6 (by decide) ?_
  refine v_ild4 dX0_plainHeed_8 ?_
  refine v_if_ge (tgt := 20) dX0_plainHeed_10 (by decide) (fun h10 => ?_) (fun h10 => ?_)
  · obtain ⟨t, ht, he, hkt⟩ : ∃ t, t < T ∧ lastK (ksT tt) 0 T = nI t ∧ ksT tt t = 0 := (lastK_cases (ksT tt) 0 T).resolve_left (fun e => by rw [e] at h10; exact absurd h10 (by decide))
    refine v_lo (L' := [some (.inr c), some (.inl (nI p)), some (.inl (nI f)), some (.inl crop), some (.inl (nI t))]) (by rw [he]) ?_
    obtain ⟨hok, hk0, hk1, hk2, hkc⟩ := hT.2.2.1 t ht
    have hT14 := hT.1
    have hcb := hc.ge
    refine v_ald0 dX0_plainHeed_20 ?_
    refine v_getr dX0_plainHeed_21 gX0_40 (shC hc) rfl ?_
    refine v_getr dX0_plainHeed_24 gX0_121 sh_1 rfl ?_
    refine v_iconstN (n := 0) dX0_plainHeed_27 ?_
    refine v_ald0 dX0_plainHeed_28 ?_
    refine v_getr dX0_plainHeed_29 gX0_18 (shC hc) rfl ?_
    refine v_ild1 dX0_plainHeed_32 ?_
    refine v_ialdN dX0_plainHeed_33 (shC3 hc) (by omega) (by decide) ?_
    refine v_eq ((cv_tr Mz c hp).symm) ?_
    refine v_iastN dX0_plainHeed_34 sh_3 (by omega) (by decide) ?_
    refine v_ald0 dX0_plainHeed_35 ?_
    refine v_getr dX0_plainHeed_36 gX0_40 (shC hc) rfl ?_
    refine v_getr dX0_plainHeed_39 gX0_121 sh_1 rfl ?_
    refine v_iconstN (n := 1) dX0_plainHeed_42 ?_
    refine v_ald0 dX0_plainHeed_43 ?_
    refine v_ild2 dX0_plainHeed_44 ?_
    refine v_ild3 dX0_plainHeed_45 ?_
    refine v_callVi (kC_believersOf E _ (W := W) hc hf (by rw [cv_w (by omega)]; exact hI)) dX0_plainHeed_46 cX0_113 rfl (shC hc) rfl (by decide) (Nat.le_of_ble_eq_true rfl) rfl (fun r M1z hq => ?_)
    obtain ⟨hr, hm⟩ := hq
    rw [hr, hm, if_neg hcr, cv_w (by omega)]
    clear hr hm
    refine v_callSi (kJ_bitCount E _ (thkN_lt hI f crop)) dX0_plainHeed_49 cX0_116 rfl (by decide) (Nat.le_of_ble_eq_true rfl) rfl (fun r M1z hq => ?_)
    obtain ⟨hr, hm⟩ := hq
    rw [hr, hm]
    clear hr hm
    refine v_iastN dX0_plainHeed_52 sh_3 (by omega) (by decide) ?_
    refine v_ald0 dX0_plainHeed_53 ?_
    refine v_getr dX0_plainHeed_54 gX0_40 (shC hc) rfl ?_
    refine v_getr dX0_plainHeed_57 gX0_121 sh_1 rfl ?_
    refine v_iconstN (n := 2) dX0_plainHeed_60 ?_
    refine v_ald0 dX0_plainHeed_61 ?_
    refine v_getr dX0_plainHeed_62 gX0_21 (shC hc) rfl ?_
    refine v_ild1 dX0_plainHeed_65 ?_
    refine v_ialdN dX0_plainHeed_66 (shC4 hc) (by omega) (by decide) ?_
    refine v_eq (show _ = su (cv Mz c) p from by rw [wr_ne (by omega), wr_ne (by omega)]; exact (cv_su Mz c hp).symm) ?_
    refine v_iastN dX0_plainHeed_67 sh_3 (by omega) (by decide) ?_
    refine v_ald0 dX0_plainHeed_68 ?_
    refine v_getr dX0_plainHeed_69 gX0_40 (shC hc) rfl ?_
    refine v_getr dX0_plainHeed_72 gX0_121 sh_1 rfl ?_
    refine v_iconstN (n := 3) dX0_plainHeed_75 ?_
    refine v_ild3 dX0_plainHeed_76 ?_
    refine v_iastN dX0_plainHeed_77 sh_3 (by omega) (by decide) ?_
    refine v_ald0 dX0_plainHeed_78 ?_
    refine v_getr dX0_plainHeed_79 gX0_40 (shC hc) rfl ?_
    refine v_ild4 dX0_plainHeed_82 ?_
    generalize hM4 : wr (wr (wr (wr Mz 3 0 (tr (cv Mz c) p)) 3 1 (nI (popc (thkN (cv Mz c) f crop)))) 3 2 (su (cv Mz c) p)) 3 3 crop = M4
    have h4 : ∀ b, b ≠ 3 → M4 b = Mz b := fun b hb => by rw [← hM4, wr_ne hb, wr_ne hb, wr_ne hb, wr_ne hb]
    have h43 : ∀ j, j < 4 → M4 3 j = nmW (tr (cv Mz c) p) (nI (popc (thkN (cv Mz c) f crop))) (su (cv Mz c) p) crop j := fun j hj => by
      rw [← hM4, wr_at, wr_at, wr_at, wr_at]
      rcases (show j = 0 ∨ j = 1 ∨ j = 2 ∨ j = 3 by omega) with rfl | rfl | rfl | rfl <;> rfl
    refine v_callVi (kL_given E M4 (num := t) (n := (tt t).2.1) (by omega) (by rw [h4 _ (by omega)]; exact hk2) (WF_congr (fun i hi => by rw [h4 _ (by omega)]; exact hkc i hi) hok.2.1)) dX0_plainHeed_84 cX0_126 rfl sh_1 rfl (by decide) (Nat.le_of_ble_eq_true rfl) rfl (fun r M1z hq => ?_)
    obtain ⟨hr, g, hm⟩ := hq
    rw [hr, hm]
    refine v_iconstN (n := 0) dX0_plainHeed_87 ?_
    refine v_bipushN (n := 99) dX0_plainHeed_88 (by decide) ?_
    refine v_callNi (kX_within E _ (by decide)) dX0_plainHeed_90 cX0_129 (fun s h => h.1) rfl (by decide) (Nat.le_of_ble_eq_true rfl) rfl (fun r2 M2z hq => ?_)
    obtain ⟨hr2, hm2⟩ := hq
    rw [hr2, hm2]
    exact v_iret dX0_plainHeed_93 rfl (⟨by
          unfold pfT evT
          rw [he, if_neg (nI_pos (by omega)), nI_clamp (by omega), gst_congr hok.2.1 (fun i hi => by rw [h4 _ (by omega)]; exact hkc i hi) (fun i hi j hj e => h43 j (by have hz := hok.2.2.1 i hi j hj e; have hk' : (tt t).1 = 0 := hkt; unfold okN at hz; omega)) _ (Nat.le_refl _)],
        M4 3, g, by rw [← wa_of h4]⟩)
  · refine v_ald0 dX0_plainHeed_13 ?_
    refine v_getr dX0_plainHeed_14 gX0_18 (shC hc) rfl ?_
    refine v_ild1 dX0_plainHeed_17 ?_
    refine v_ialdN dX0_plainHeed_18 (shC3 hc) (by omega) (by decide) ?_
    refine v_eq ((cv_tr Mz c hp).symm) ?_
    exact v_iret dX0_plainHeed_19 rfl (⟨by unfold pfT; rw [if_pos (Int32.not_le.mp h10)], Scr.rf Mz⟩)
set_option maxRecDepth 100000 in
set_option maxHeartbeats 4000000 in
theorem kC_heedOf (E : ev) (Mz : mm) {c p f W T : Nat} {crop : Int32} {tt : Nat → tx} (hc : CB c) (hp : p < 8) (hf : f < 6) (hI : CI (cv Mz c) W) (hT : TxC Mz c tt T) (hcr : crop ≠ 0) : Ct E 3 yX0_heedOf cX0_heedOf 4 (some .int) [.inr c, .inl (nI p), .inl (nI f), .inl crop] Mz (qI E (fun r M' => r = heed (pfT tt T) (cv Mz c) p f crop ∧ Scr Mz M')) := by
  refine ct_of (by decide) (Nat.le_of_ble_eq_true rfl) ?_
  show V E 3 _ _ _ _ _ 0 [some (.inr c), some (.inl (nI p)), some (.inl (nI f)), some (.inl crop)] [] Mz
  obtain ⟨ke, hk6, hke⟩ := hI.kd hp
  refine v_ald0 dX0_heedOf_0 ?_
  refine v_getr dX0_heedOf_1 gX0_9 (shC hc) rfl ?_
  refine v_ild1 dX0_heedOf_4 ?_
  refine v_ialdN dX0_heedOf_5 (shC1 hc) (by omega) (by decide) ?_
  refine v_eq ((cv_kd Mz c hp).symm.trans hke) ?_
  rcases (show ke = 0 ∨ ke = 1 ∨ ke = 2 ∨ ke = 3 ∨ ke = 4 ∨ ke = 5 by omega) with rfl | rfl | rfl | rfl | rfl | rfl
  · refine v_tsOut (tgt := 79) dX0_heedOf_6 (by decide) (by decide) ?_
    refine v_ald0 dX0_heedOf_79 ?_
    refine v_ild1 dX0_heedOf_80 ?_
    refine v_ild2 dX0_heedOf_81 ?_
    refine v_ild3 dX0_heedOf_82 ?_
    refine v_callVi (kC_plainHeed E Mz hc hp hf hI hT hcr) dX0_heedOf_83 cX0_109 rfl (shC hc) rfl (by decide) (Nat.le_of_ble_eq_true rfl) rfl (fun r M1z hq => ?_)
    obtain ⟨hr, hm⟩ := hq
    rw [hr]
    exact v_iret dX0_heedOf_86 rfl (⟨by unfold heed; rw [show kd (cv Mz c) p = nI 0 from hke, if_neg (by decide), if_neg (by decide), if_neg (by decide), if_neg (by decide), if_neg (by decide)], hm⟩)
  · refine v_tsIn (off := 34) (tgt := 40) dX0_heedOf_6 (by decide) (by decide) (by decide) (by decide) ?_
    refine v_ald0 dX0_heedOf_40 ?_
    refine v_ild1 dX0_heedOf_41 ?_
    refine v_ild2 dX0_heedOf_42 ?_
    refine v_ild3 dX0_heedOf_43 ?_
    refine v_callVi (kC_plainHeed E Mz hc hp hf hI hT hcr) dX0_heedOf_44 cX0_109 rfl (shC hc) rfl (by decide) (Nat.le_of_ble_eq_true rfl) rfl (fun r M1z hq => ?_)
    obtain ⟨hr, hm⟩ := hq
    rw [hr]
    refine v_iconstN (n := 3) dX0_heedOf_47 ?_
    refine v_iadd dX0_heedOf_48 ?_
    exact v_iret dX0_heedOf_49 rfl (⟨by unfold heed; rw [show kd (cv Mz c) p = nI 1 from hke, if_pos rfl], hm⟩)
  · refine v_tsIn (off := 56) (tgt := 62) dX0_heedOf_6 (by decide) (by decide) (by decide) (by decide) ?_
    refine v_iconstN (n := 0) dX0_heedOf_62 ?_
    exact v_iret dX0_heedOf_63 rfl (⟨by unfold heed; rw [show kd (cv Mz c) p = nI 2 from hke, if_neg (by decide), if_neg (by decide), if_pos rfl], Scr.rf Mz⟩)
  · refine v_tsIn (off := 44) (tgt := 50) dX0_heedOf_6 (by decide) (by decide) (by decide) (by decide) ?_
    refine v_ald0 dX0_heedOf_50 ?_
    refine v_ild1 dX0_heedOf_51 ?_
    refine v_ild2 dX0_heedOf_52 ?_
    refine v_ild3 dX0_heedOf_53 ?_
    refine v_callVi (kC_plainHeed E Mz hc hp hf hI hT hcr) dX0_heedOf_54 cX0_109 rfl (shC hc) rfl (by decide) (Nat.le_of_ble_eq_true rfl) rfl (fun r M1z hq => ?_)
    obtain ⟨hr, hm⟩ := hq
    rw [hr]
    refine v_iconstN (n := 3) dX0_heedOf_57 ?_
    refine v_iadd dX0_heedOf_58 ?_
    refine v_iconstN (n := 2) dX0_heedOf_59 ?_
    refine v_idiv dX0_heedOf_60 (by decide) ?_
    exact v_iret dX0_heedOf_61 rfl (⟨by unfold heed; rw [show kd (cv Mz c) p = nI 3 from hke, if_neg (by decide), if_pos rfl], hm⟩)
  · refine v_tsIn (off := 58) (tgt := 64) dX0_heedOf_6 (by decide) (by decide) (by decide) (by decide) ?_
    refine v_iconstN (n := 2) dX0_heedOf_64 ?_
    refine v_ald0 dX0_heedOf_65 ?_
    refine v_ild2 dX0_heedOf_66 ?_
    refine v_ild3 dX0_heedOf_67 ?_
    refine v_callVi (kC_believersOf E Mz hc hf hI) dX0_heedOf_68 cX0_113 rfl (shC hc) rfl (by decide) (Nat.le_of_ble_eq_true rfl) rfl (fun r M1z hq => ?_)
    obtain ⟨hr, hm⟩ := hq
    rw [hr, hm, if_neg hcr]
    clear hr hm
    refine v_callSi (kJ_bitCount E _ (thkN_lt hI f crop)) dX0_heedOf_71 cX0_116 rfl (by decide) (Nat.le_of_ble_eq_true rfl) rfl (fun r M1z hq => ?_)
    obtain ⟨hr, hm⟩ := hq
    rw [hr, hm]
    clear hr hm
    refine v_imul dX0_heedOf_74 ?_
    exact v_iret dX0_heedOf_75 rfl (⟨by unfold heed; rw [show kd (cv Mz c) p = nI 4 from hke, if_neg (by decide), if_neg (by decide), if_neg (by decide), if_pos rfl], Scr.rf Mz⟩)
  · refine v_tsIn (off := 70) (tgt := 76) dX0_heedOf_6 (by decide) (by decide) (by decide) (by decide) ?_
    refine v_bipushN (n := 99) dX0_heedOf_76 (by decide) ?_
    exact v_iret dX0_heedOf_78 rfl (⟨by unfold heed; rw [show kd (cv Mz c) p = nI 5 from hke, if_neg (by decide), if_neg (by decide), if_neg (by decide), if_neg (by decide), if_pos rfl], Scr.rf Mz⟩)
theorem locN0 (j : Nat) : locN 0 j = j := by unfold locN; rw [if_neg (by decide), if_neg (by decide)]
theorem tm_ok {key : Nat} {fx nm : Nat → Int32} {x y : Int32} (h : tmK key x y) (hf : ∀ j, okN key j → fx (locN key j) = nm j) : tmOK fx nm x y := by
  rcases h with h | ⟨j, h1, h2, h3, h4⟩ | h
  · exact Or.inl h
  · refine Or.inr (Or.inl ⟨j, locN key j, h1, ?_, h3, h4, hf j h2⟩)
    unfold okN at h2; unfold locN
    split
    · omega
    · split <;> omega
  · exact Or.inr (Or.inr h)
set_option maxRecDepth 100000 in
set_option maxHeartbeats 4000000 in
theorem kM_heedsOf (E : ev) (Mz : mm) {p f W T : Nat} {crop : Int32} {tt : Nat → tx} (hp : p < 8) (hf : f < 6) (hI : CI (mv Mz) W) (hT : TxM Mz tt T) : Ct E 3 yX7_heedsOf cX7_heedsOf 7 (some .int) [.inr 92, .inl (nI p), .inl (nI f), .inl crop] Mz (qI E (fun r M' => r = heed (pfT tt T) (mv Mz) p f crop ∧ ScM Mz M')) := by
  refine ct_of (by decide) (Nat.le_of_ble_eq_true rfl) ?_
  show V E 3 _ _ _ _ _ 0 [some (.inr 92), some (.inl (nI p)), some (.inl (nI f)), some (.inl crop), none, none, none] [] Mz
  obtain ⟨ke, hk6, hke⟩ := hI.kd hp
  refine v_ald0 dX7_heedsOf_0 ?_
  refine v_ild2 dX7_heedsOf_1 ?_
  refine v_ild3 dX7_heedsOf_2 ?_
  refine v_callVi (kM_thinkers E Mz hf hI) dX7_heedsOf_3 cX7_96 rfl sh_92 rfl (by decide) (Nat.le_of_ble_eq_true rfl) rfl (fun r M1z hq => ?_)
  obtain ⟨hr, hm⟩ := hq
  rw [hr, hm]
  clear hr hm
  refine v_callSi (kM_bits E Mz (thkN_lt hI f crop)) dX7_heedsOf_6 cX7_99 rfl (by decide) (Nat.le_of_ble_eq_true rfl) rfl (fun r M1z hq => ?_)
  obtain ⟨hr, hm⟩ := hq
  rw [hr, hm]
  clear hr hm
  refine v_ist4 dX7_heedsOf_9 (by decide) ?_
  refine v_ald0 dX7_heedsOf_11 ?_
  refine v_iconstN (n := 0) dX7_heedsOf_12 ?_
  refine v_callVi (kM_counts E _ (T := T) (ks := ksT tt) hT.2.1 hT.1 (by decide) (fun t ht => ⟨(hT.2.2 t ht).1.1, (tt t).2.1, by have := (hT.2.2 t ht).1.2.1.2.1; omega, (hT.2.2 t ht).2.1⟩)) dX7_heedsOf_13 cX7_102 rfl sh_92 rfl (by decide) (Nat.le_of_ble_eq_true rfl) rfl (fun r M1z hq => ?_)
  obtain ⟨hr, hm⟩ := hq
  rw [hr, hm]
  clear hr hm
  refine v_ist5 dX7_heedsOf_16 (by decide) ?_
  refine v_ald0 dX7_heedsOf_18 ?_
  refine v_getr dX7_heedsOf_19 gX7_45 sh_92 rfl ?_
  refine v_iconstN (n := 0) dX7_heedsOf_22 ?_
  refine v_ald0 dX7_heedsOf_23 ?_
  refine v_ild1 dX7_heedsOf_24 ?_
  refine v_iconstN (n := 2) dX7_heedsOf_25 ?_
  refine v_callVi (kM_of E Mz hp (by decide)) dX7_heedsOf_26 cX7_79 rfl sh_92 rfl (by decide) (Nat.le_of_ble_eq_true rfl) rfl (fun r M1z hq => ?_)
  obtain ⟨hr, hm⟩ := hq
  rw [hr, hm, show mv Mz (19 + 10 * p + 2) = tr (mv Mz) p from by show _ = mv Mz (21 + 10 * p); congr 1; omega]
  clear hr hm
  refine v_iastN dX7_heedsOf_29 sh_104 (by omega) (by decide) ?_
  refine v_ald0 dX7_heedsOf_30 ?_
  refine v_getr dX7_heedsOf_31 gX7_45 sh_92 rfl ?_
  refine v_iconstN (n := 1) dX7_heedsOf_34 ?_
  refine v_ild4 dX7_heedsOf_35 ?_
  refine v_iastN dX7_heedsOf_37 sh_104 (by omega) (by decide) ?_
  refine v_ald0 dX7_heedsOf_38 ?_
  refine v_getr dX7_heedsOf_39 gX7_45 sh_92 rfl ?_
  refine v_iconstN (n := 2) dX7_heedsOf_42 ?_
  refine v_ald0 dX7_heedsOf_43 ?_
  refine v_ild1 dX7_heedsOf_44 ?_
  refine v_iconstN (n := 3) dX7_heedsOf_45 ?_
  refine v_callVi (kM_of E _ hp (by decide)) dX7_heedsOf_46 cX7_79 rfl sh_92 rfl (by decide) (Nat.le_of_ble_eq_true rfl) rfl (fun r M1z hq => ?_)
  obtain ⟨hr, hm⟩ := hq
  rw [hr, hm, mv_w (by decide), mv_w (by decide), show mv Mz (19 + 10 * p + 3) = su (mv Mz) p from by show _ = mv Mz (22 + 10 * p); congr 1; omega]
  clear hr hm
  refine v_iastN dX7_heedsOf_49 sh_104 (by omega) (by decide) ?_
  refine v_ald0 dX7_heedsOf_50 ?_
  refine v_getr dX7_heedsOf_51 gX7_45 sh_92 rfl ?_
  refine v_iconstN (n := 3) dX7_heedsOf_54 ?_
  refine v_ild3 dX7_heedsOf_55 ?_
  refine v_iastN dX7_heedsOf_56 sh_104 (by omega) (by decide) ?_
  generalize hM4 : wr (wr (wr (wr Mz 104 0 (tr (mv Mz) p)) 104 1 (nI (popc (thkN (mv Mz) f crop)))) 104 2 (su (mv Mz) p)) 104 3 crop = M4
  have h4 : ∀ b, b ≠ 104 → M4 b = Mz b := fun b hb => by rw [← hM4, wr_ne hb, wr_ne hb, wr_ne hb, wr_ne hb]
  have h4v : mv M4 = mv Mz := by unfold mv; rw [h4 93 (by decide)]
  have h43 : ∀ j, j < 4 → M4 104 j = nmW (tr (mv Mz) p) (nI (popc (thkN (mv Mz) f crop))) (su (mv Mz) p) crop j := fun j hj => by
    rw [← hM4, wr_at, wr_at, wr_at, wr_at]
    rcases (show j = 0 ∨ j = 1 ∨ j = 2 ∨ j = 3 by omega) with rfl | rfl | rfl | rfl <;> rfl
  refine v_ild5 dX7_heedsOf_57 ?_
  refine v_if_ge (tgt := 71) dX7_heedsOf_59 (by decide) (fun h59 => ?_) (fun h59 => ?_)
  · obtain ⟨t, ht, he, hkt⟩ : ∃ t, t < T ∧ lastK (ksT tt) 0 T = nI t ∧ ksT tt t = 0 := (lastK_cases (ksT tt) 0 T).resolve_left (fun e => by rw [e] at h59; exact absurd h59 (by decide))
    refine v_lo (L' := [some (.inr 92), some (.inl (nI p)), some (.inl (nI f)), some (.inl crop), some (.inl (nI (popc (thkN (mv Mz) f crop)))), some (.inl (nI t)), none]) (by rw [he]) ?_
    obtain ⟨hok, hk0, hk1, hkc⟩ := hT.2.2 t ht
    have hT14 := hT.1
    have hpl : pfT tt T (tr (mv Mz) p) (nI (popc (thkN (mv Mz) f crop))) (su (mv Mz) p) crop = clampS (bot (gst (nmW (tr (mv Mz) p) (nI (popc (thkN (mv Mz) f crop))) (su (mv Mz) p) crop) (tt t).2.2.2 (tt t).2.1)) (nI 0) (nI 99) := by
      unfold pfT evT
      rw [he, if_neg (nI_pos (by omega)), nI_clamp (by omega)]
    refine v_ald0 dX7_heedsOf_71 ?_
    refine v_ild5 dX7_heedsOf_72 ?_
    refine v_callVi (kM_worksOut E M4 (t := t) (key := 0) (n := (tt t).2.1) (xs := (tt t).2.2.2) (nm := nmW (tr (mv Mz) p) (nI (popc (thkN (mv Mz) f crop))) (su (mv Mz) p) crop) (by omega) (by decide) (by rw [h4 _ (by decide), hk0, show (tt t).1 = 0 from hkt]) hok.2.1 (fun i hi => tm_ok (by rw [h4 _ (by decide)]; have hz := hkc i hi; rw [show (tt t).1 = 0 from hkt] at hz; exact hz) (fun j hj => by have hj4 : j < 4 := (by unfold okN at hj; omega); rw [locN0]; exact h43 j hj4))) dX7_heedsOf_74 cX7_105 rfl sh_92 rfl (by decide) (Nat.le_of_ble_eq_true rfl) rfl (fun r M1z hq => ?_)
    obtain ⟨hr, g, hm⟩ := hq
    rw [hr, hm]
    refine v_iconstN (n := 0) dX7_heedsOf_77 ?_
    refine v_bipushN (n := 99) dX7_heedsOf_78 (by decide) ?_
    refine v_callSi (kM_within E _) dX7_heedsOf_80 cX7_108 rfl (by decide) (Nat.le_of_ble_eq_true rfl) rfl (fun r2 M2z hq => ?_)
    obtain ⟨hr2, hm2⟩ := hq
    rw [hr2, hm2]
    clear hr2 hm2
    refine v_ist6 dX7_heedsOf_83 (by decide) ?_
    refine v_ald0 dX7_heedsOf_85 ?_
    refine v_ild1 dX7_heedsOf_86 ?_
    refine v_iconstN (n := 0) dX7_heedsOf_87 ?_
    refine v_callVi (kM_of E _ hp (by decide)) dX7_heedsOf_88 cX7_79 rfl sh_92 rfl (by decide) (Nat.le_of_ble_eq_true rfl) rfl (fun r3 M3z hq => ?_)
    obtain ⟨hr3, hm3⟩ := hq
    rw [hr3, hm3, mv_wa (by decide), h4v]
    clear hr3 hm3
    refine v_eq (hke) ?_
    rcases (show ke = 0 ∨ ke = 1 ∨ ke = 2 ∨ ke = 3 ∨ ke = 4 ∨ ke = 5 by omega) with rfl | rfl | rfl | rfl | rfl | rfl
    · refine v_tsOut (tgt := 146) dX7_heedsOf_91 (by decide) (by decide) ?_
      refine v_ild6 dX7_heedsOf_146 ?_
      exact v_iret dX7_heedsOf_148 rfl (⟨by unfold heed; rw [show kd (mv Mz) p = nI 0 from hke, if_neg (by decide), if_neg (by decide), if_neg (by decide), if_neg (by decide), if_neg (by decide)]; rw [hpl], ⟨M4 104, g, by rw [← wa_of h4]⟩⟩)
    · refine v_tsIn (off := 33) (tgt := 124) dX7_heedsOf_91 (by decide) (by decide) (by decide) (by decide) ?_
      refine v_ild6 dX7_heedsOf_124 ?_
      refine v_iconstN (n := 3) dX7_heedsOf_126 ?_
      refine v_iadd dX7_heedsOf_127 ?_
      exact v_iret dX7_heedsOf_128 rfl (⟨by unfold heed; rw [show kd (mv Mz) p = nI 1 from hke, if_pos rfl]; rw [hpl], ⟨M4 104, g, by rw [← wa_of h4]⟩⟩)
    · refine v_tsIn (off := 38) (tgt := 129) dX7_heedsOf_91 (by decide) (by decide) (by decide) (by decide) ?_
      refine v_iconstN (n := 0) dX7_heedsOf_129 ?_
      exact v_iret dX7_heedsOf_130 rfl (⟨by unfold heed; rw [show kd (mv Mz) p = nI 2 from hke, if_neg (by decide), if_neg (by decide), if_pos rfl], ⟨M4 104, g, by rw [← wa_of h4]⟩⟩)
    · refine v_tsIn (off := 40) (tgt := 131) dX7_heedsOf_91 (by decide) (by decide) (by decide) (by decide) ?_
      refine v_ild6 dX7_heedsOf_131 ?_
      refine v_iconstN (n := 3) dX7_heedsOf_133 ?_
      refine v_iadd dX7_heedsOf_134 ?_
      refine v_iconstN (n := 2) dX7_heedsOf_135 ?_
      refine v_idiv dX7_heedsOf_136 (by decide) ?_
      exact v_iret dX7_heedsOf_137 rfl (⟨by unfold heed; rw [show kd (mv Mz) p = nI 3 from hke, if_neg (by decide), if_pos rfl]; rw [hpl], ⟨M4 104, g, by rw [← wa_of h4]⟩⟩)
    · refine v_tsIn (off := 47) (tgt := 138) dX7_heedsOf_91 (by decide) (by decide) (by decide) (by decide) ?_
      refine v_iconstN (n := 2) dX7_heedsOf_138 ?_
      refine v_ild4 dX7_heedsOf_139 ?_
      refine v_imulN dX7_heedsOf_141 ?_
      exact v_iret dX7_heedsOf_142 rfl (⟨by unfold heed; rw [show kd (mv Mz) p = nI 4 from hke, if_neg (by decide), if_neg (by decide), if_neg (by decide), if_pos rfl]; rw [pk_mul], ⟨M4 104, g, by rw [← wa_of h4]⟩⟩)
    · refine v_tsIn (off := 52) (tgt := 143) dX7_heedsOf_91 (by decide) (by decide) (by decide) (by decide) ?_
      refine v_bipushN (n := 99) dX7_heedsOf_143 (by decide) ?_
      exact v_iret dX7_heedsOf_145 rfl (⟨by unfold heed; rw [show kd (mv Mz) p = nI 5 from hke, if_neg (by decide), if_neg (by decide), if_neg (by decide), if_neg (by decide), if_pos rfl], ⟨M4 104, g, by rw [← wa_of h4]⟩⟩)
  · have hpl : pfT tt T (tr (mv Mz) p) (nI (popc (thkN (mv Mz) f crop))) (su (mv Mz) p) crop = tr (mv Mz) p := by unfold pfT; rw [if_pos (Int32.not_le.mp h59)]
    refine v_ald0 dX7_heedsOf_62 ?_
    refine v_ild1 dX7_heedsOf_63 ?_
    refine v_iconstN (n := 2) dX7_heedsOf_64 ?_
    refine v_callVi (kM_of E _ hp (by decide)) dX7_heedsOf_65 cX7_79 rfl sh_92 rfl (by decide) (Nat.le_of_ble_eq_true rfl) rfl (fun r M1z hq => ?_)
    obtain ⟨hr, hm⟩ := hq
    rw [hr, hm, h4v, show mv Mz (19 + 10 * p + 2) = tr (mv Mz) p from by show _ = mv Mz (21 + 10 * p); congr 1; omega]
    clear hr hm
    refine v_goto (tgt := 83) dX7_heedsOf_68 (by decide) ?_
    refine v_ist6 dX7_heedsOf_83 (by decide) ?_
    refine v_ald0 dX7_heedsOf_85 ?_
    refine v_ild1 dX7_heedsOf_86 ?_
    refine v_iconstN (n := 0) dX7_heedsOf_87 ?_
    refine v_callVi (kM_of E _ hp (by decide)) dX7_heedsOf_88 cX7_79 rfl sh_92 rfl (by decide) (Nat.le_of_ble_eq_true rfl) rfl (fun r3 M3z hq => ?_)
    obtain ⟨hr3, hm3⟩ := hq
    rw [hr3, hm3, h4v]
    clear hr3 hm3
    refine v_eq (hke) ?_
    rcases (show ke = 0 ∨ ke = 1 ∨ ke = 2 ∨ ke = 3 ∨ ke = 4 ∨ ke = 5 by omega) with rfl | rfl | rfl | rfl | rfl | rfl
    · refine v_tsOut (tgt := 146) dX7_heedsOf_91 (by decide) (by decide) ?_
      refine v_ild6 dX7_heedsOf_146 ?_
      exact v_iret dX7_heedsOf_148 rfl (⟨by unfold heed; rw [show kd (mv Mz) p = nI 0 from hke, if_neg (by decide), if_neg (by decide), if_neg (by decide), if_neg (by decide), if_neg (by decide)]; rw [hpl], ⟨M4 104, M4 103, by rw [← wa_of h4, wa_self]⟩⟩)
    · refine v_tsIn (off := 33) (tgt := 124) dX7_heedsOf_91 (by decide) (by decide) (by decide) (by decide) ?_
      refine v_ild6 dX7_heedsOf_124 ?_
      refine v_iconstN (n := 3) dX7_heedsOf_126 ?_
      refine v_iadd dX7_heedsOf_127 ?_
      exact v_iret dX7_heedsOf_128 rfl (⟨by unfold heed; rw [show kd (mv Mz) p = nI 1 from hke, if_pos rfl]; rw [hpl], ⟨M4 104, M4 103, by rw [← wa_of h4, wa_self]⟩⟩)
    · refine v_tsIn (off := 38) (tgt := 129) dX7_heedsOf_91 (by decide) (by decide) (by decide) (by decide) ?_
      refine v_iconstN (n := 0) dX7_heedsOf_129 ?_
      exact v_iret dX7_heedsOf_130 rfl (⟨by unfold heed; rw [show kd (mv Mz) p = nI 2 from hke, if_neg (by decide), if_neg (by decide), if_pos rfl], ⟨M4 104, M4 103, by rw [← wa_of h4, wa_self]⟩⟩)
    · refine v_tsIn (off := 40) (tgt := 131) dX7_heedsOf_91 (by decide) (by decide) (by decide) (by decide) ?_
      refine v_ild6 dX7_heedsOf_131 ?_
      refine v_iconstN (n := 3) dX7_heedsOf_133 ?_
      refine v_iadd dX7_heedsOf_134 ?_
      refine v_iconstN (n := 2) dX7_heedsOf_135 ?_
      refine v_idiv dX7_heedsOf_136 (by decide) ?_
      exact v_iret dX7_heedsOf_137 rfl (⟨by unfold heed; rw [show kd (mv Mz) p = nI 3 from hke, if_neg (by decide), if_pos rfl]; rw [hpl], ⟨M4 104, M4 103, by rw [← wa_of h4, wa_self]⟩⟩)
    · refine v_tsIn (off := 47) (tgt := 138) dX7_heedsOf_91 (by decide) (by decide) (by decide) (by decide) ?_
      refine v_iconstN (n := 2) dX7_heedsOf_138 ?_
      refine v_ild4 dX7_heedsOf_139 ?_
      refine v_imulN dX7_heedsOf_141 ?_
      exact v_iret dX7_heedsOf_142 rfl (⟨by unfold heed; rw [show kd (mv Mz) p = nI 4 from hke, if_neg (by decide), if_neg (by decide), if_neg (by decide), if_pos rfl]; rw [pk_mul], ⟨M4 104, M4 103, by rw [← wa_of h4, wa_self]⟩⟩)
    · refine v_tsIn (off := 52) (tgt := 143) dX7_heedsOf_91 (by decide) (by decide) (by decide) (by decide) ?_
      refine v_bipushN (n := 99) dX7_heedsOf_143 (by decide) ?_
      exact v_iret dX7_heedsOf_145 rfl (⟨by unfold heed; rw [show kd (mv Mz) p = nI 5 from hke, if_neg (by decide), if_neg (by decide), if_neg (by decide), if_neg (by decide), if_pos rfl], ⟨M4 104, M4 103, by rw [← wa_of h4, wa_self]⟩⟩)
