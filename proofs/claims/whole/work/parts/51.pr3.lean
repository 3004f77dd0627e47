/-! text -/
theorem cv_14 {M M' : mm} {x : Int32} (h38 : M' 38 = upd (M 38) 14 x) (h : ∀ a, 39 ≤ a → a < 46 → M' a = M a) : cv M' 38 = upd (cv M 38) 6 x := by
  funext i
  by_cases h6 : i = 6
  · subst h6; rw [pk_us]; show M' 38 14 = x; rw [h38, pk_us]
  rw [pk_un h6]
  by_cases h1 : i < 7
  · rcases (show i = 0 ∨ i = 1 ∨ i = 2 ∨ i = 3 ∨ i = 4 ∨ i = 5 by omega) with rfl | rfl | rfl | rfl | rfl | rfl
    · show M' 38 13 = M 38 13; rw [h38, pk_un (by decide)]
    · show M' 38 1 = M 38 1; rw [h38, pk_un (by decide)]
    · show M' 38 12 = M 38 12; rw [h38, pk_un (by decide)]
    · show M' 38 9 = M 38 9; rw [h38, pk_un (by decide)]
    · show M' 38 10 = M 38 10; rw [h38, pk_un (by decide)]
    · show M' 38 11 = M 38 11; rw [h38, pk_un (by decide)]
  unfold cv
  rw [if_neg h1, if_neg h1]
  by_cases h2 : i < 13
  · rw [if_pos h2, if_pos h2, h (38 + 6) (by omega) (by omega)]
  rw [if_neg h2, if_neg h2]
  by_cases h3 : i < 19
  · rw [if_pos h3, if_pos h3, h (38 + 7) (by omega) (by omega)]
  rw [if_neg h3, if_neg h3]
  by_cases h4 : i < 99
  · rw [if_pos h4, if_pos h4]
    by_cases h5 : (i - 19) % 10 < 4
    · rw [if_pos h5, if_pos h5, h (38 + 1 + (i - 19) % 10) (by omega) (by omega)]
    · rw [if_neg h5, if_neg h5, h (38 + 5) (by omega) (by omega)]
  · rw [if_neg h4, if_neg h4]
theorem mv_6 {M M' : mm} {x : Int32} (h6 : M' 93 6 = x) (h : ∀ i, i < 99 → i ≠ 6 → M' 93 i = M 93 i) : mv M' = upd (mv M) 6 x := by
  funext i
  by_cases e : i = 6
  · subst e; rw [pk_us]; exact h6
  · rw [pk_un e]; unfold mv
    by_cases h9 : i < 99
    · rw [if_pos h9, if_pos h9]; exact h i h9 e
    · rw [if_neg h9, if_neg h9]
theorem lastK_eq {ks ks' : Nat → Nat} {key : Nat} : ∀ T, (∀ t, t < T → ks' t = ks t) → lastK ks' key T = lastK ks key T
  | 0, _ => rfl
  | T + 1, h => by
    unfold lastK
    rw [h T (by omega), lastK_eq T (fun t ht => h t (by omega))]
theorem TxC_2 {M M' : mm} {c T : Nat} {tt tt' : Nat → tx} (hc : M' c 14 = M c 14) (h8 : ∀ k, k < 3 → M' (c + 8) k = M (c + 8) k) (h5 : ∀ t, t < T → M' (5 + 2 * t) = M (5 + 2 * t) ∧ M' (5 + 2 * t + 1) = M (5 + 2 * t + 1)) (ht : ∀ t, t < T → tt' t = tt t) (h : TxC M c tt T) : TxC M' c tt' T := by
  refine ⟨h.1, hc.trans h.2.1, fun t hlt => ?_, fun key hk => by rw [h8 key hk, lastK_eq T (ks := ksT tt) (ks' := ksT tt') (fun t hlt => by unfold ksT; rw [ht t hlt])]; exact h.2.2.2 key hk⟩
  obtain ⟨a1, a2, a3, a4, a5⟩ := h.2.2.1 t hlt
  obtain ⟨e1, e2⟩ := h5 t hlt
  rw [ht t hlt, e1, e2]
  exact ⟨a1, a2, a3, a4, a5⟩
def addT (tt : Nat → tx) (T : Nat) (x : tx) : Nat → tx := fun i => if i = T then x else tt i
theorem addT_n {tt : Nat → tx} {T : Nat} {x : tx} {t : Nat} (h : t < T) : addT tt T x t = tt t := if_neg (by omega)
theorem addT_y {tt : Nat → tx} {T : Nat} {x : tx} : addT tt T x T = x := if_pos rfl
set_option maxHeartbeats 2000000 in
theorem pr_text (E : ev) (M : mm) (h : Inv M) : Pr E M 7 yX6_text cX6_text 3 4 yX7_text cX7_text 4 [] := by
  obtain ⟨⟨v, tt, T, S, sl, wn, tl, tp, tn, bi, vi, Ti⟩, hC, hM, hP⟩ := h
  obtain ⟨c1, c2, c3, c4, c5, c6, c7, c8⟩ := id hC
  obtain ⟨p1, p2, p3⟩ := id hP
  refine ⟨_, fun M1 r M' => r = R_text tp tn T ∧ TxtM M1 M' (keyT tp (nxt tp tn 0 (-1))) T (PT tp tn), aX_text E M c6 c2.2.1 c2.1, fun x1 M1 hq => ?_⟩
  obtain ⟨hr, hq2⟩ := hq
  obtain ⟨⟨qq, pp⟩, hpt⟩ : ∃ r, PT tp tn = r := ⟨_, rfl⟩
  rw [hpt] at hq2
  cases qq with
  | none =>
    have h33 : M1 33 1 = nI 0 := hq2.1
    have hm : ∀ a, a ≠ 33 → a ≠ 35 → a ≠ 36 → a ≠ 37 → M1 a = M a := hq2.2
    have hN : NM M M1 := fun a ha => hm a (by omega) (by omega) (by omega) (by omega)
    have hC1 := IC_t (M' := M1) (tp' := tp) (tn' := 0) hC (fun a _ h1 _ h3 h4 h5 => hm a h1 h3 h4 h5) ⟨h33, by omega, fun i hi => absurd hi (Nat.not_lt_zero _)⟩
    have hM1 := IM_eq hN.fm hM
    obtain ⟨n1, n2, n3, n4, n5, n6, n7, n8, n9⟩ := id hM1
    refine ⟨aM_text E M1 n6 n2.2.1 n2.1 n9, fun z1 M2 hz => ?_⟩
    obtain ⟨hr2, hz2⟩ := hz
    rw [hpt] at hz2
    have h92 : M2 92 6 = nI 0 := hz2.1
    have hm2 : FrY M1 M2 := hz2.2
    have hX : NX M1 M2 := fun a ha => hm2.1 a (by omega) (by omega) (by omega) (by omega)
    exact ⟨by rw [hr, hr2], ⟨_, IC_eq hX.fc hC1, IM_t hM1 (fun a h1 _ h2 h3 h4 => hm2.1 a (by omega) h2 h3 h4) (hm2.2 3 (by omega) (by decide) (by decide) (by decide)) (hm2.2 32 (by omega) (by decide) (by decide) (by decide)) ⟨h92, by omega, fun i hi => absurd hi (Nat.not_lt_zero _)⟩, hP⟩⟩
  | some ul =>
    obtain ⟨u, lv⟩ := ul
    obtain ⟨hk3, hok⟩ := PT_ok c6.2.1 hpt
    obtain ⟨key, hke⟩ : ∃ key, keyT tp (nxt tp tn 0 (-1)) = key := ⟨_, rfl⟩
    rw [hke] at hq2 hk3 hok
    have h33 : M1 33 1 = nI 0 := hq2.1
    by_cases h14 : T = 14
    · have hm : ∀ a, a ≠ 33 → a ≠ 35 → a ≠ 36 → a ≠ 37 → M1 a = M a := by
        have := hq2.2
        simp only at this
        rw [if_pos h14] at this
        exact this
      have hN : NM M M1 := fun a ha => hm a (by omega) (by omega) (by omega) (by omega)
      have hC1 := IC_t (M' := M1) (tp' := tp) (tn' := 0) hC (fun a _ h1 _ h3 h4 h5 => hm a h1 h3 h4 h5) ⟨h33, by omega, fun i hi => absurd hi (Nat.not_lt_zero _)⟩
      have hM1 := IM_eq hN.fm hM
      obtain ⟨n1, n2, n3, n4, n5, n6, n7, n8, n9⟩ := id hM1
      refine ⟨aM_text E M1 n6 n2.2.1 n2.1 n9, fun z1 M2 hz => ?_⟩
      obtain ⟨hr2, hz2⟩ := hz
      rw [hpt] at hz2
      have h92 : M2 92 6 = nI 0 := hz2.1
      have hm2 : FrY M1 M2 := by
        have := hz2.2
        simp only at this
        rw [if_pos h14] at this
        exact this
      have hX : NX M1 M2 := fun a ha => hm2.1 a (by omega) (by omega) (by omega) (by omega)
      exact ⟨by rw [hr, hr2], ⟨_, IC_eq hX.fc hC1, IM_t hM1 (fun a h1 _ h2 h3 h4 => hm2.1 a (by omega) h2 h3 h4) (hm2.2 3 (by omega) (by decide) (by decide) (by decide)) (hm2.2 32 (by omega) (by decide) (by decide) (by decide)) ⟨h92, by omega, fun i hi => absurd hi (Nat.not_lt_zero _)⟩, hP⟩⟩
    · have hT14 : T < 14 := by have := c2.1; omega
      have hm := hq2.2
      simp only at hm
      rw [if_neg h14] at hm
      obtain ⟨g0, g1, g2, g3, g46, g38, g⟩ := hm
      have hN : NM M M1 := fun a ha => g a (by omega) (by omega) (by omega) (by omega) (by omega) (by omega) (by omega) (by omega)
      have gg : ∀ a, 39 ≤ a → a ≠ 46 → M1 a = M a := fun a h1 h2 => g a (by omega) (by omega) (by omega) (by omega) (by omega) (by omega) h2 (by omega)
      have g5 : ∀ t, t < T → M1 (5 + 2 * t) = M (5 + 2 * t) ∧ M1 (5 + 2 * t + 1) = M (5 + 2 * t + 1) := fun t ht => ⟨g _ (by omega) (by omega) (by omega) (by omega) (by omega) (by omega) (by omega) (by omega), g _ (by omega) (by omega) (by omega) (by omega) (by omega) (by omega) (by omega) (by omega)⟩
      have hC1 : IC M1 (upd v 6 (nI (T + 1)), addT tt T (key, u.length, lv, xsO u), T + 1, S, sl, wn, tl, tp, 0, bi, vi, Ti) := by
        refine ⟨?_, ⟨by omega, by rw [g38, pk_us], fun t ht => ?_, fun k hk => ?_⟩, ShC_eq (fun a h1 h2 => gg a (by omega) (by omega)) c3, SlC_eq (fun a h1 h2 => gg a (by omega) (by omega)) c4, ⟨by rw [g 0 (by omega) (by omega) (by omega) (by omega) (by omega) (by omega) (by omega) (by omega)]; exact c5.1, fun i hi => by rw [gg 90 (by omega) (by omega)]; exact c5.2 i hi⟩, ⟨h33, by omega, fun i hi => absurd hi (Nat.not_lt_zero _)⟩, by rw [g 0 (by omega) (by omega) (by omega) (by omega) (by omega) (by omega) (by omega) (by omega)]; exact c7, fun hb => ⟨(cv_eq8 (fun a h1 h2 => gg a (by omega) (by omega))).trans (c8 hb).1, TxC_2 (by rw [gg 47 (by omega) (by omega)]) (fun k _ => by rw [gg (47 + 8) (by omega) (by omega)]) (fun t ht => g5 t (by have := (p3 hb).2; omega)) (fun t ht => addT_n (by have := (p3 hb).2; omega)) (c8 hb).2⟩⟩
        · rw [← c1]; exact cv_14 g38 (fun a h1 h2 => gg a (by omega) (by omega))
        · by_cases e : t = T
          · subst e; rw [addT_y]; exact ⟨hok, g0, g1, g2, g3⟩
          · obtain ⟨a1, a2, a3, a4, a5⟩ := c2.2.2.1 t (by omega)
            obtain ⟨e1, e2⟩ := g5 t (by omega)
            rw [addT_n (by omega), e1, e2]
            exact ⟨a1, a2, a3, a4, a5⟩
        · show M1 46 k = (if ksT (addT tt T (key, u.length, lv, xsO u)) T = k then nI T else lastK (ksT (addT tt T (key, u.length, lv, xsO u))) k T)
          rw [show ksT (addT tt T (key, u.length, lv, xsO u)) T = key from by unfold ksT; rw [addT_y], g46, lastK_eq T (ks := ksT tt) (fun t ht => by unfold ksT; rw [addT_n ht])]
          by_cases e : key = k
          · rw [if_pos e, e, pk_us]
          · rw [if_neg e, pk_un (fun z => e z.symm)]; exact c2.2.2.2 k hk
      have hM1 := IM_eq hN.fm hM
      obtain ⟨n1, n2, n3, n4, n5, n6, n7, n8, n9⟩ := id hM1
      refine ⟨aM_text E M1 n6 n2.2.1 n2.1 n9, fun z1 M2 hz => ?_⟩
      obtain ⟨hr2, hz2⟩ := hz
      rw [hpt, hke] at hz2
      have h92 : M2 92 6 = nI 0 := hz2.1
      have hm2 := hz2.2
      simp only at hm2
      rw [if_neg h14] at hm2
      obtain ⟨k0, k1, k2, k6, k7, k8, k9⟩ := hm2
      have hX : NX M1 M2 := fun a ha => k8 a (by omega) (by omega) (by omega) (by omega) (by omega)
      have e : ∀ a, 93 < a ∧ a ≠ 100 ∧ a ≠ 101 ∧ a ≠ 102 → M2 a = M1 a := fun a h => k8 a (by omega) (by omega) (by omega) (by omega) (by omega)
      have u96 : u.length ≤ 96 := hok.2.1.2.1
      refine ⟨by rw [hr, hr2], ⟨_, IC_eq hX.fc hC1, ⟨?_, ⟨by omega, k6, fun t ht => ?_⟩, ShM_eq (e _ (by decide)) (e _ (by decide)) (e _ (by decide)) n3, SlM_eq (e _ (by decide)) (e _ (by decide)) (e _ (by decide)) (e _ (by decide)) n4, ⟨(k9 32 (by omega) (by decide) (by decide) (by decide)).trans n5.1, fun i hi => by rw [e 113 (by decide)]; exact n5.2 i hi⟩, ⟨h92, by omega, fun i hi => absurd hi (Nat.not_lt_zero _)⟩, (k9 3 (by omega) (by decide) (by decide) (by decide)).trans n7, fun hb => ⟨(imv_eq (e _ (by decide))).trans (n8 hb).1, ?_⟩, KyM_eq (e _ (by decide)) (e _ (by decide)) n9⟩, ⟨CI_upd0 p1 (Or.inr (Or.inr rfl)), p2, fun hb => ⟨(p3 hb).1, by have := (p3 hb).2; omega⟩⟩⟩⟩
      · rw [← n1]; exact mv_6 k6 (fun i h1 h2 => k7 i h2 (by omega) (by omega) (by omega))
      · by_cases e : t = T
        · subst e; rw [addT_y]; exact ⟨hok, k0, k1, k2⟩
        · have ht' : t < T := by omega
          obtain ⟨a1, a2, a3, a4⟩ := n2.2.2 t ht'
          have a96 : (tt t).2.1 ≤ 96 := a1.2.1.2.1
          rw [addT_n ht']
          exact ⟨a1, by rw [k7 _ (by omega) (by omega) (by omega) (by omega)]; exact a2, by rw [k7 _ (by omega) (by omega) (by omega) (by omega)]; exact a3, fun i hi => by rw [k7 _ (by omega) (by omega) (by omega) (by omega)]; exact a4 i hi⟩
      · have hTi := (p3 hb).2
        obtain ⟨i1, i2, i3⟩ := (n8 hb).2
        exact ⟨i1, by rw [e 94 (by decide)]; exact i2, by rw [e 94 (by decide)]; exact MoT_eq i1 i3 (fun _ _ => rfl) (fun t ht => addT_n (by omega))⟩
