/-! tell, trim, feed, text, keep, back, check -/
theorem IC_t {M M' : mm} {v vi : fl} {tt : Nat → tx} {T wn tn Ti : Nat} {S : s3} {sl : Nat → slT} {tl : Nat → Int32} {tp : Nat → Nat} {bi : Bool} {tp' : Nat → Nat} {tn' : Nat} (hq : IC M (v, tt, T, S, sl, wn, tl, tp, tn, bi, vi, Ti)) (g : ∀ a, a < 92 → a ≠ 33 → a ≠ 34 → a ≠ 35 → a ≠ 36 → a ≠ 37 → M' a = M a) (ht : TpC M' tp' tn') : IC M' (v, tt, T, S, sl, wn, tl, tp', tn', bi, vi, Ti) := by
  obtain ⟨c1, c2, c3, c4, c5, c6, c7, c8⟩ := hq
  exact ⟨(cv_eq8 (fun a h1 h2 => g a (by omega) (by omega) (by omega) (by omega) (by omega) (by omega))).trans c1, TxC_eq (by rw [g 38 (by omega) (by omega) (by omega) (by omega) (by omega) (by omega)]) (fun k _ => by rw [g (38 + 8) (by omega) (by omega) (by omega) (by omega) (by omega) (by omega)]) (fun a h1 h2 => g a (by omega) (by omega) (by omega) (by omega) (by omega) (by omega)) c2, ShC_eq (fun a h1 h2 => g a (by omega) (by omega) (by omega) (by omega) (by omega) (by omega)) c3, SlC_eq (fun a h1 h2 => g a (by omega) (by omega) (by omega) (by omega) (by omega) (by omega)) c4, ⟨by rw [g 0 (by omega) (by omega) (by omega) (by omega) (by omega) (by omega)]; exact c5.1, fun i hi => by rw [g 90 (by omega) (by omega) (by omega) (by omega) (by omega) (by omega)]; exact c5.2 i hi⟩, ht, by rw [g 0 (by omega) (by omega) (by omega) (by omega) (by omega) (by omega)]; exact c7, fun hb => ⟨(cv_eq8 (fun a h1 h2 => g a (by omega) (by omega) (by omega) (by omega) (by omega) (by omega))).trans (c8 hb).1, TxC_eq (by rw [g 47 (by omega) (by omega) (by omega) (by omega) (by omega) (by omega)]) (fun k _ => by rw [g (47 + 8) (by omega) (by omega) (by omega) (by omega) (by omega) (by omega)]) (fun a h1 h2 => g a (by omega) (by omega) (by omega) (by omega) (by omega) (by omega)) (c8 hb).2⟩⟩
theorem IM_t {M M' : mm} {v vi : fl} {tt : Nat → tx} {T wn tn Ti : Nat} {S : s3} {sl : Nat → slT} {tl : Nat → Int32} {tp : Nat → Nat} {bi : Bool} {tp' : Nat → Nat} {tn' : Nat} (hq : IM M (v, tt, T, S, sl, wn, tl, tp, tn, bi, vi, Ti)) (g : ∀ a, 92 < a → a ≠ 97 → a ≠ 100 → a ≠ 101 → a ≠ 102 → M' a = M a) (g3 : M' 92 3 = M 92 3) (g32 : M' 92 32 = M 92 32) (ht : TpM M' tp' tn') : IM M' (v, tt, T, S, sl, wn, tl, tp', tn', bi, vi, Ti) := by
  obtain ⟨c1, c2, c3, c4, c5, c6, c7, c8, c9⟩ := hq
  have e : ∀ a, 92 < a ∧ a ≠ 97 ∧ a ≠ 100 ∧ a ≠ 101 ∧ a ≠ 102 → M' a = M a := fun a h => g a h.1 h.2.1 h.2.2.1 h.2.2.2.1 h.2.2.2.2
  exact ⟨(mv_eq (e _ (by decide))).trans c1, TxM_eq (e _ (by decide)) c2, ShM_eq (e _ (by decide)) (e _ (by decide)) (e _ (by decide)) c3, SlM_eq (e _ (by decide)) (e _ (by decide)) (e _ (by decide)) (e _ (by decide)) c4, ⟨g32.trans c5.1, fun i hi => by rw [e 113 (by decide)]; exact c5.2 i hi⟩, ht, g3.trans c7, fun hb => ⟨(imv_eq (e _ (by decide))).trans (c8 hb).1, TxI_eq (e _ (by decide)) (c8 hb).2⟩, KyM_eq (e _ (by decide)) (e _ (by decide)) c9⟩
theorem IC_n {M M' : mm} {v vi : fl} {tt : Nat → tx} {T wn tn Ti : Nat} {S : s3} {sl : Nat → slT} {tl : Nat → Int32} {tp : Nat → Nat} {bi : Bool} {wn' : Nat} {tl' : Nat → Int32} (hq : IC M (v, tt, T, S, sl, wn, tl, tp, tn, bi, vi, Ti)) (g : ∀ a, a ≠ 0 → a ≠ 90 → M' a = M a) (g5 : M' 0 5 = M 0 5) (h9 : M' 0 9 = nI wn') (ht : ∀ i, i < wn' → M' 90 i = tl' i) : IC M' (v, tt, T, S, sl, wn', tl', tp, tn, bi, vi, Ti) := by
  obtain ⟨c1, c2, c3, c4, c5, c6, c7, c8⟩ := hq
  exact ⟨(cv_eq8 (fun a h1 h2 => g a (by omega) (by omega))).trans c1, TxC_eq (by rw [g 38 (by omega) (by omega)]) (fun k _ => by rw [g (38 + 8) (by omega) (by omega)]) (fun a h1 h2 => g a (by omega) (by omega)) c2, ShC_eq (fun a h1 h2 => g a (by omega) (by omega)) c3, SlC_eq (fun a h1 h2 => g a (by omega) (by omega)) c4, ⟨h9, ht⟩, TpC_eq (by rw [g 33 (by omega) (by omega)]) (g 34 (by omega) (by omega)) c6, g5.trans c7, fun hb => ⟨(cv_eq8 (fun a h1 h2 => g a (by omega) (by omega))).trans (c8 hb).1, TxC_eq (by rw [g 47 (by omega) (by omega)]) (fun k _ => by rw [g (47 + 8) (by omega) (by omega)]) (fun a h1 h2 => g a (by omega) (by omega)) (c8 hb).2⟩⟩
theorem IM_n {M M' : mm} {v vi : fl} {tt : Nat → tx} {T wn tn Ti : Nat} {S : s3} {sl : Nat → slT} {tl : Nat → Int32} {tp : Nat → Nat} {bi : Bool} {wn' : Nat} {tl' : Nat → Int32} (hq : IM M (v, tt, T, S, sl, wn, tl, tp, tn, bi, vi, Ti)) (g : ∀ a, a ≠ 92 → a ≠ 113 → M' a = M a) (g6 : ∀ j, j ≠ 32 → M' 92 j = M 92 j) (h9 : M' 92 32 = nI wn') (ht : ∀ i, i < wn' → M' 113 i = tl' i) : IM M' (v, tt, T, S, sl, wn', tl', tp, tn, bi, vi, Ti) := by
  obtain ⟨c1, c2, c3, c4, c5, c6, c7, c8, c9⟩ := hq
  have e : ∀ a, a ≠ 92 ∧ a ≠ 113 → M' a = M a := fun a h => g a h.1 h.2
  exact ⟨(mv_eq (e _ (by decide))).trans c1, TxM_eq (e _ (by decide)) c2, ShM_eq (e _ (by decide)) (e _ (by decide)) (e _ (by decide)) c3, SlM_eq (e _ (by decide)) (e _ (by decide)) (e _ (by decide)) (e _ (by decide)) c4, ⟨h9, ht⟩, TpM_eq (g6 6 (by decide)) (e _ (by decide)) c6, (g6 3 (by decide)).trans c7, fun hb => ⟨(imv_eq (e _ (by decide))).trans (c8 hb).1, TxI_eq (e _ (by decide)) (c8 hb).2⟩, KyM_eq (e _ (by decide)) (e _ (by decide)) c9⟩
theorem pr_tell (E : ev) (M : mm) (h : Inv M) (y : Int32) : Pr E M 1 yX6_tell cX6_tell 2 1 yX7_tell cX7_tell 2 [.inl y] := by
  obtain ⟨⟨v, tt, T, S, sl, wn, tl, tp, tn, bi, vi, Ti⟩, hC, hM, hP⟩ := h
  obtain ⟨c1, c2, c3, c4, c5, c6, c7, c8⟩ := id hC
  obtain ⟨p1, p2, p3⟩ := id hP
  refine ⟨_, fun M1 r M' => r = R_tell wn ∧ M' = (if wn = 60 then M1 else wr (wr M1 113 wn y) 92 32 (nI (wn + 1))), aX_tell E M c5.1 p2, fun x1 M1 hq => ?_⟩
  obtain ⟨hr, hm⟩ := hq
  by_cases h60 : wn = 60
  · rw [if_pos h60] at hm
    have hN : NM M M1 := by rw [hm]; exact NM.rf M
    have hM1 := IM_eq hN.fm hM
    obtain ⟨n1, n2, n3, n4, n5, n6, n7, n8, n9⟩ := id hM1
    refine ⟨aM_tell E M1 n5.1 p2, fun z1 M2 hz => ?_⟩
    obtain ⟨hr2, hm2⟩ := hz
    rw [if_pos h60] at hm2
    exact ⟨by rw [hr, hr2], ⟨(v, tt, T, S, sl, wn, tl, tp, tn, bi, vi, Ti), by rw [hm2, hm]; exact hC, by rw [hm2]; exact hM1, hP⟩⟩
  · rw [if_neg h60] at hm
    have hN : NM M M1 := fun a ha => by rw [hm, wr_ne (by omega), wr_ne (by omega)]
    have hC1 : IC M1 (v, tt, T, S, sl, wn + 1, upd tl wn y, tp, tn, bi, vi, Ti) := IC_n hC (fun a h1 h2 => by rw [hm, wr_ne h1, wr_ne h2]) (by rw [hm, wr_at, pk_un (by decide), wr_ne (by decide)]) (by rw [hm, wr_at, pk_us]) (fun i hi => by
      rw [hm, wr_ne (by decide), wr_at]
      by_cases e : i = wn
      · rw [e, pk_us, pk_us]
      · rw [pk_un e, pk_un e]; exact c5.2 i (by omega))
    have hM1 := IM_eq hN.fm hM
    obtain ⟨n1, n2, n3, n4, n5, n6, n7, n8, n9⟩ := id hM1
    refine ⟨aM_tell E M1 n5.1 p2, fun z1 M2 hz => ?_⟩
    obtain ⟨hr2, hm2⟩ := hz
    rw [if_neg h60] at hm2
    have hX : NX M1 M2 := fun a ha => by rw [hm2, wr_ne (by omega), wr_ne (by omega)]
    refine ⟨by rw [hr, hr2], ⟨_, IC_eq hX.fc hC1, IM_n hM1 (fun a h1 h2 => by rw [hm2, wr_ne h1, wr_ne h2]) (fun j hj => by rw [hm2, wr_at, pk_un hj, wr_ne (by decide)]) (by rw [hm2, wr_at, pk_us]) (fun i hi => ?_), ⟨p1, by omega, p3⟩⟩⟩
    rw [hm2, wr_ne (by decide), wr_at]
    by_cases e : i = wn
    · rw [e, pk_us, pk_us]
    · rw [pk_un e, pk_un e]; exact n5.2 i (by omega)
theorem pr_trim (E : ev) (M : mm) (h : Inv M) (x : Int32) : Pr E M 2 yX6_trim cX6_trim 2 2 yX7_trim cX7_trim 2 [.inl x] := by
  obtain ⟨⟨v, tt, T, S, sl, wn, tl, tp, tn, bi, vi, Ti⟩, hC, hM, hP⟩ := h
  obtain ⟨c1, c2, c3, c4, c5, c6, c7, c8⟩ := id hC
  obtain ⟨p1, p2, p3⟩ := id hP
  refine ⟨_, fun M1 r M' => r = R_trim tn x ∧ M' = (if inB x (nI 0) (nI tn) = true then wr M1 92 6 x else M1), aX_trim E M c6.1, fun x1 M1 hq => ?_⟩
  obtain ⟨hr, hm⟩ := hq
  by_cases hg : inB x (nI 0) (nI tn) = true
  · rw [if_pos hg] at hm
    have hn96 := c6.2.1
    obtain ⟨k, -, hk, rfl⟩ := inB_n (by decide) (by omega) hg
    have hN : NM M M1 := fun a ha => by rw [hm, wr_ne (by omega)]
    have hC1 := IC_t (M' := M1) (tp' := tp) (tn' := k) hC (fun a _ h1 _ _ _ _ => by rw [hm, wr_ne h1]) ⟨by rw [hm, wr_at, pk_us], by omega, fun i hi => by rw [hm, wr_ne (by decide)]; exact c6.2.2 i (by omega)⟩
    have hM1 := IM_eq hN.fm hM
    obtain ⟨n1, n2, n3, n4, n5, n6, n7, n8, n9⟩ := id hM1
    refine ⟨aM_trim E M1 n6.1, fun z1 M2 hz => ?_⟩
    obtain ⟨hr2, hm2⟩ := hz
    rw [if_pos hg] at hm2
    have hX : NX M1 M2 := fun a ha => by rw [hm2, wr_ne (by omega)]
    exact ⟨by rw [hr, hr2], ⟨_, IC_eq hX.fc hC1, IM_t hM1 (fun a h1 _ _ _ _ => by rw [hm2, wr_ne (by omega)]) (by rw [hm2, wr_at, pk_un (by decide)]) (by rw [hm2, wr_at, pk_un (by decide)]) ⟨by rw [hm2, wr_at, pk_us], by omega, fun i hi => by rw [hm2, wr_ne (by decide)]; exact n6.2.2 i (by omega)⟩, hP⟩⟩
  · rw [if_neg hg] at hm
    have hN : NM M M1 := by rw [hm]; exact NM.rf M
    have hM1 := IM_eq hN.fm hM
    obtain ⟨n1, n2, n3, n4, n5, n6, n7, n8, n9⟩ := id hM1
    refine ⟨aM_trim E M1 n6.1, fun z1 M2 hz => ?_⟩
    obtain ⟨hr2, hm2⟩ := hz
    rw [if_neg hg] at hm2
    exact ⟨by rw [hr, hr2], ⟨(v, tt, T, S, sl, wn, tl, tp, tn, bi, vi, Ti), by rw [hm2, hm]; exact hC, by rw [hm2]; exact hM1, hP⟩⟩
theorem pr_feed (E : ev) (M : mm) (h : Inv M) (a : Int32) (b : Int32) (c : Int32) : Pr E M 1 yX6_feed cX6_feed 4 1 yX7_feed cX7_feed 6 [.inl a, .inl b, .inl c] := by
  obtain ⟨⟨v, tt, T, S, sl, wn, tl, tp, tn, bi, vi, Ti⟩, hC, hM, hP⟩ := h
  obtain ⟨c1, c2, c3, c4, c5, c6, c7, c8⟩ := id hC
  obtain ⟨p1, p2, p3⟩ := id hP
  refine ⟨_, fun M1 r M' => r = R_feed tn ∧ TpM M' (F_feed tp tn a b c) (N_feed tn) ∧ FrG M1 M', aX_feed E M c6, fun x1 M1 hq => ?_⟩
  obtain ⟨hr, hv, hm⟩ := hq
  have hN : NM M M1 := fun a ha => hm.1 a (by omega) (by omega)
  have hC1 := IC_t hC (fun a _ h1 h2 _ _ _ => hm.1 a h1 h2) hv
  have hM1 := IM_eq hN.fm hM
  obtain ⟨n1, n2, n3, n4, n5, n6, n7, n8, n9⟩ := id hM1
  refine ⟨aM_feed E M1 n6, fun z1 M2 hz => ?_⟩
  obtain ⟨hr2, hv2, hm2⟩ := hz
  have hX : NX M1 M2 := fun a ha => hm2.1 a (by omega) (by omega)
  exact ⟨by rw [hr, hr2], ⟨_, IC_eq hX.fc hC1, IM_t hM1 (fun a h1 h2 _ _ _ => hm2.1 a (by omega) h2) (hm2.2 3 (by decide)) (hm2.2 32 (by decide)) hv2, hP⟩⟩
theorem MoT_eq {f g : fl} {tt tt' : Nat → tx} {T : Nat} (hT : T ≤ 14) (h : MoT f tt T) (hf : ∀ i, i < 1471 → g i = f i) (ht : ∀ t, t < T → tt' t = tt t) : MoT g tt' T := fun t hlt => by
  obtain ⟨a1, a2, a3, a4⟩ := h t hlt
  have h96 : (tt t).2.1 ≤ 96 := a1.2.1.2.1
  rw [ht t hlt]
  exact ⟨a1, by rw [hf _ (by omega)]; exact a2, by rw [hf _ (by omega)]; exact a3, fun i hi => by rw [hf _ (by omega)]; exact a4 i hi⟩
theorem pr_keep (E : ev) (M : mm) (h : Inv M) : Pr E M 3 yX6_keep cX6_keep 1 3 yX7_keep cX7_keep 1 [] := by
  obtain ⟨⟨v, tt, T, S, sl, wn, tl, tp, tn, bi, vi, Ti⟩, hC, hM, hP⟩ := h
  obtain ⟨c1, c2, c3, c4, c5, c6, c7, c8⟩ := id hC
  obtain ⟨p1, p2, p3⟩ := id hP
  refine ⟨_, fun M1 r M' => r = mv M1 1 ∧ M' = wr (wa M1 94 (cpN 1471 (M1 93) (M1 94))) 92 3 (nI 1), aX_keep E M , fun x1 M1 hq => ?_⟩
  obtain ⟨hr, hv, h46, h0, hm⟩ := hq
  have hN : NM M M1 := fun a ha => hm a (by omega) (by omega)
  have hC1 : IC M1 (v, tt, T, S, sl, wn, tl, tp, tn, true, v, T) := ⟨(cv_eq8 (fun a h1 h2 => hm a (by omega) (by omega))).trans c1, TxC_eq (by rw [hm 38 (by omega) (by omega)]) (fun k _ => by rw [hm (38 + 8) (by omega) (by omega)]) (fun a h1 h2 => hm a (by omega) (by omega)) c2, ShC_eq (fun a h1 h2 => hm a (by omega) (by omega)) c3, SlC_eq (fun a h1 h2 => hm a (by omega) (by omega)) c4, ⟨by rw [h0, pk_un (by decide)]; exact c5.1, fun i hi => by rw [hm 90 (by omega) (by omega)]; exact c5.2 i hi⟩, TpC_eq (by rw [hm 33 (by omega) (by omega)]) (hm 34 (by omega) (by omega)) c6, by rw [h0, pk_us]; rfl, fun _ => ⟨hv.trans c1, c2.1, (show M1 47 14 = M 38 14 from congrFun hv 6).trans c2.2.1, (TxC_eq (by rw [hm 38 (by omega) (by omega)]) (fun k _ => by rw [hm (38 + 8) (by omega) (by omega)]) (fun a h1 h2 => hm a (by omega) (by omega)) c2).2.2.1, fun key hk => (h46 key hk).trans (c2.2.2.2 key hk)⟩⟩
  have hM1 := IM_eq hN.fm hM
  obtain ⟨n1, n2, n3, n4, n5, n6, n7, n8, n9⟩ := id hM1
  refine ⟨aM_keep E M1 , fun z1 M2 hz => ?_⟩
  obtain ⟨hr2, hm2⟩ := hz
  have hX : NX M1 M2 := fun a ha => by rw [hm2, wr_ne (by omega), wa_ne (by omega)]
  have e : ∀ a, a ≠ 92 → a ≠ 94 → M2 a = M1 a := fun a h1 h2 => by rw [hm2, wr_ne h1, wa_ne h2]
  have e2 : ∀ j, j ≠ 3 → M2 92 j = M1 92 j := fun j hj => by rw [hm2, wr_at, pk_un hj, wa_ne (by decide)]
  have e4 : ∀ i, i < 1471 → M2 94 i = M1 93 i := fun i hi => by rw [hm2, wr_ne (by decide), wa_at]; unfold cpN; rw [if_pos hi]
  refine ⟨by rw [hr, hr2, c1, n1], ⟨_, IC_eq hX.fc hC1, ⟨(mv_eq (e _ (by decide) (by decide))).trans n1, TxM_eq (e _ (by decide) (by decide)) n2, ShM_eq (e _ (by decide) (by decide)) (e _ (by decide) (by decide)) (e _ (by decide) (by decide)) n3, SlM_eq (e _ (by decide) (by decide)) (e _ (by decide) (by decide)) (e _ (by decide) (by decide)) (e _ (by decide) (by decide)) n4, ⟨(e2 32 (by decide)).trans n5.1, fun i hi => by rw [e 113 (by decide) (by decide)]; exact n5.2 i hi⟩, TpM_eq (e2 6 (by decide)) (e _ (by decide) (by decide)) n6, by rw [hm2, wr_at, pk_us]; rfl, fun _ => ⟨?_, n2.1, (e4 6 (by decide)).trans n2.2.1, MoT_eq n2.1 n2.2.2 e4 (fun _ _ => rfl)⟩, KyM_eq (e _ (by decide) (by decide)) (e _ (by decide) (by decide)) n9⟩, ⟨p1, p2, fun _ => ⟨p1, Nat.le_refl _⟩⟩⟩⟩
  rw [← n1]
  funext i
  unfold imv mv
  by_cases hi : i < 99
  · rw [if_pos hi, if_pos hi]; exact e4 i (by omega)
  · rw [if_neg hi, if_neg hi]
theorem pr_back (E : ev) (M : mm) (h : Inv M) : Pr E M 3 yX6_back cX6_back 1 3 yX7_back cX7_back 1 [] := by
  obtain ⟨⟨v, tt, T, S, sl, wn, tl, tp, tn, bi, vi, Ti⟩, hC, hM, hP⟩ := h
  obtain ⟨c1, c2, c3, c4, c5, c6, c7, c8⟩ := id hC
  obtain ⟨p1, p2, p3⟩ := id hP
  refine ⟨_, fun M1 r M' => (bi = false ∧ r = cNO ∧ M' = M1) ∨ (bi = true ∧ r = M1 94 1 ∧ M' = wa M1 93 (cpN 1471 (M1 94) (M1 93))), aX_back E M c7, fun x1 M1 hq => ?_⟩
  rcases hq with ⟨hb, hr, hm⟩ | ⟨hb, hr, hv, h46, hm⟩
  · have hN : NM M M1 := by rw [hm]; exact NM.rf M
    have hM1 := IM_eq hN.fm hM
    obtain ⟨n1, n2, n3, n4, n5, n6, n7, n8, n9⟩ := id hM1
    refine ⟨aM_back E M1 n7, fun z1 M2 hz => ?_⟩
    rcases hz with ⟨-, hr2, hm2⟩ | ⟨hb2, -⟩
    · exact ⟨by rw [hr, hr2], ⟨(v, tt, T, S, sl, wn, tl, tp, tn, bi, vi, Ti), by rw [hm2, hm]; exact hC, by rw [hm2]; exact hM1, hP⟩⟩
    · rw [hb] at hb2; cases hb2
  · subst hb
    obtain ⟨d1, d2⟩ := c8 rfl
    obtain ⟨k1, k2⟩ := p3 rfl
    have g : ∀ a, ¬ (38 ≤ a ∧ a < 47) → M1 a = M a := hm
    have hN : NM M M1 := fun a ha => g a (by omega)
    have d3 : TxC M1 47 tt Ti := TxC_eq (by rw [g 47 (by omega)]) (fun k _ => by rw [g (47 + 8) (by omega)]) (fun a h1 h2 => g a (by omega)) d2
    have hC1 : IC M1 (vi, tt, Ti, S, sl, wn, tl, tp, tn, true, vi, Ti) := ⟨hv.trans d1, ⟨d2.1, (show M1 38 14 = M 47 14 from congrFun hv 6).trans d2.2.1, d3.2.2.1, fun key hk => (h46 key hk).trans (d2.2.2.2 key hk)⟩, ShC_eq (fun a h1 h2 => g a (by omega)) c3, SlC_eq (fun a h1 h2 => g a (by omega)) c4, ⟨by rw [g 0 (by omega)]; exact c5.1, fun i hi => by rw [g 90 (by omega)]; exact c5.2 i hi⟩, TpC_eq (by rw [g 33 (by omega)]) (g 34 (by omega)) c6, by rw [g 0 (by omega)]; exact c7, fun _ => ⟨(cv_eq8 (fun a h1 h2 => g a (by omega))).trans d1, d3⟩⟩
    have hM1 := IM_eq hN.fm hM
    obtain ⟨n1, n2, n3, n4, n5, n6, n7, n8, n9⟩ := id hM1
    obtain ⟨i1, i2⟩ := n8 rfl
    refine ⟨aM_back E M1 n7, fun z1 M2 hz => ?_⟩
    rcases hz with ⟨hb2, -⟩ | ⟨-, hr2, hm2⟩
    · cases hb2
    · have e : ∀ a, a ≠ 93 → M2 a = M1 a := fun a h1 => by rw [hm2, wa_ne h1]
      have hX : NX M1 M2 := fun a ha => e a (by omega)
      have e4 : ∀ i, i < 1471 → M2 93 i = M1 94 i := fun i hi => by rw [hm2, wa_at]; unfold cpN; rw [if_pos hi]
      have hr3 : M1 94 1 = vi 1 := by rw [← i1]; rfl
      refine ⟨by rw [hr, hr2, hr3, d1], ⟨_, IC_eq hX.fc hC1, ⟨?_, ⟨i2.1, (e4 6 (by decide)).trans i2.2.1, MoT_eq i2.1 i2.2.2 e4 (fun _ _ => rfl)⟩, ShM_eq (e _ (by decide)) (e _ (by decide)) (e _ (by decide)) n3, SlM_eq (e _ (by decide)) (e _ (by decide)) (e _ (by decide)) (e _ (by decide)) n4, ⟨by rw [e 92 (by decide)]; exact n5.1, fun i hi => by rw [e 113 (by decide)]; exact n5.2 i hi⟩, TpM_eq (by rw [e 92 (by decide)]) (e _ (by decide)) n6, by rw [e 92 (by decide)]; exact n7, fun _ => ⟨(imv_eq (e _ (by decide))).trans i1, TxI_eq (e _ (by decide)) i2⟩, KyM_eq (e _ (by decide)) (e _ (by decide)) n9⟩, ⟨k1, p2, fun _ => ⟨k1, Nat.le_refl _⟩⟩⟩⟩
      rw [← i1]
      funext i
      unfold imv mv
      by_cases hi : i < 99
      · rw [if_pos hi, if_pos hi]; exact e4 i (by omega)
      · rw [if_neg hi, if_neg hi]
theorem pr_check (E : ev) (M : mm) (h : Inv M) (x : Int32) : Pr E M 7 yX6_check cX6_check 6 8 yX7_check cX7_check 6 [.inl x] := by
  obtain ⟨⟨v, tt, T, S, sl, wn, tl, tp, tn, bi, vi, Ti⟩, hC, hM, hP⟩ := h
  obtain ⟨c1, c2, c3, c4, c5, c6, c7, c8⟩ := id hC
  obtain ⟨p1, p2, p3⟩ := id hP
  refine ⟨_, fun M1 r M' => r = R_check (pfT tt Ti) (imv M1) bi tl wn x ∧ FrD (wr M1 92 32 (nI 0)) M', aX_check E M c7 c5.1 p2 c5.2 (fun e => ⟨by rw [(c8 e).1]; exact (p3 e).1, (c8 e).2⟩), fun x1 M1 hq => ?_⟩
  obtain ⟨hr, hm⟩ := hq
  have hm' : FrX (wr M 0 9 (nI 0)) M1 := hm
  have hC0 : IC (wr M 0 9 (nI 0)) (v, tt, T, S, sl, 0, tl, tp, tn, bi, vi, Ti) := IC_n hC (fun a h1 _ => wr_ne h1) (by rw [wr_at, pk_un (by decide)]) (by rw [wr_at, pk_us]) (fun i hi => absurd hi (Nat.not_lt_zero _))
  have hC1 := IC_eq hm'.fc hC0
  have hN : NM M M1 := fun a ha => by rw [hm'.nm a ha, wr_ne (by omega)]
  have hM1 := IM_eq hN.fm hM
  obtain ⟨n1, n2, n3, n4, n5, n6, n7, n8, n9⟩ := id hM1
  refine ⟨aM_check E M1 n7 n5.1 p2 n5.2 (fun e => ⟨by rw [(n8 e).1]; exact (p3 e).1, (n8 e).2⟩), fun z1 M2 hz => ?_⟩
  obtain ⟨hr2, hm2⟩ := hz
  have hm3 : FrD (wr M1 92 32 (nI 0)) M2 := hm2
  have hM0 : IM (wr M1 92 32 (nI 0)) (v, tt, T, S, sl, 0, tl, tp, tn, bi, vi, Ti) := IM_n hM1 (fun a h1 _ => wr_ne h1) (fun j hj => by rw [wr_at, pk_un hj]) (by rw [wr_at, pk_us]) (fun i hi => absurd hi (Nat.not_lt_zero _))
  have hX : NX M1 M2 := fun a ha => by rw [hm3.nx a ha, wr_ne (by omega)]
  refine ⟨?_, ⟨_, IC_eq hX.fc hC1, IM_eq hm3.fm hM0, ⟨p1, Nat.zero_le _, p3⟩⟩⟩
  rw [hr, hr2]
  cases bi with
  | false => unfold R_check; simp only [Bool.false_eq_true, if_false]
  | true => rw [(c8 rfl).1, (n8 rfl).1]
