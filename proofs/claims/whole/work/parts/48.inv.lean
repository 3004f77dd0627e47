/-! all that holds between two calls: the class's cells and the reference's are the same county -/
abbrev sT : Type := fl × (Nat → tx) × Nat × s3 × (Nat → slT) × Nat × (Nat → Int32) × (Nat → Nat) × Nat × Bool × fl × Nat
def IC (M : mm) : sT → Prop
  | (v, tt, T, S, W, wn, tl, tp, tn, b, vi, Ti) => cv M 38 = v ∧ TxC M 38 tt T ∧ ShC3 M S ∧ SlC M W ∧ (M 0 9 = nI wn ∧ ∀ i, i < wn → M 90 i = tl i) ∧ TpC M tp tn ∧ M 0 5 = b2 b ∧ (b = true → cv M 47 = vi ∧ TxC M 47 tt Ti)
def IM (M : mm) : sT → Prop
  | (v, tt, T, S, W, wn, tl, tp, tn, b, vi, Ti) => mv M = v ∧ TxM M tt T ∧ ShM3 M S ∧ SlM M W ∧ (M 92 32 = nI wn ∧ ∀ i, i < wn → M 113 i = tl i) ∧ TpM M tp tn ∧ M 92 3 = b2 b ∧ (b = true → imv M = vi ∧ TxI M tt Ti) ∧ KyM M
def IP : sT → Prop
  | (v, tt, T, S, W, wn, tl, tp, tn, b, vi, Ti) => CI v 10000 ∧ wn ≤ 60 ∧ (b = true → CI vi 10000 ∧ Ti ≤ T)
def Inv (M : mm) : Prop := ∃ q, IC M q ∧ IM M q ∧ IP q
theorem cv_eq8 {M M' : mm} {c : Nat} (h : ∀ a, c ≤ a → a < c + 8 → M' a = M a) : cv M' c = cv M c := by
  funext i
  unfold cv
  by_cases h1 : i < 7
  · rw [if_pos h1, if_pos h1, h c (by omega) (by omega)]
  rw [if_neg h1, if_neg h1]
  by_cases h2 : i < 13
  · rw [if_pos h2, if_pos h2, h (c + 6) (by omega) (by omega)]
  rw [if_neg h2, if_neg h2]
  by_cases h3 : i < 19
  · rw [if_pos h3, if_pos h3, h (c + 7) (by omega) (by omega)]
  rw [if_neg h3, if_neg h3]
  by_cases h4 : i < 99
  · rw [if_pos h4, if_pos h4]
    by_cases h5 : (i - 19) % 10 < 4
    · rw [if_pos h5, if_pos h5, h (c + 1 + (i - 19) % 10) (by omega) (by omega)]
    · rw [if_neg h5, if_neg h5, h (c + 5) (by omega) (by omega)]
  · rw [if_neg h4, if_neg h4]
theorem mv_eq {M M' : mm} (h : M' 93 = M 93) : mv M' = mv M := by funext i; unfold mv; rw [h]
theorem imv_eq {M M' : mm} (h : M' 94 = M 94) : imv M' = imv M := by funext i; unfold imv; rw [h]
theorem TxC_eq {M M' : mm} {c T : Nat} {tt : Nat → tx} (hc : M' c 14 = M c 14) (h8 : ∀ k, k < 3 → M' (c + 8) k = M (c + 8) k) (h5 : ∀ a, 5 ≤ a → a < 33 → M' a = M a) (h : TxC M c tt T) : TxC M' c tt T := by
  have h14 := h.1
  refine ⟨h.1, hc.trans h.2.1, fun t ht => ?_, fun key hk => by rw [h8 key hk]; exact h.2.2.2 key hk⟩
  obtain ⟨a1, a2, a3, a4, a5⟩ := h.2.2.1 t ht
  have e1 : M' (5 + 2 * t) = M (5 + 2 * t) := h5 _ (by omega) (by omega)
  have e2 : M' (5 + 2 * t + 1) = M (5 + 2 * t + 1) := h5 _ (by omega) (by omega)
  exact ⟨a1, by rw [e1]; exact a2, by rw [e1]; exact a3, by rw [e1]; exact a4, fun i hi => by rw [e2]; exact a5 i hi⟩
theorem TxM_eq {M M' : mm} {T : Nat} {tt : Nat → tx} (h93 : M' 93 = M 93) (h : TxM M tt T) : TxM M' tt T := by unfold TxM; rw [h93]; exact h
theorem TxI_eq {M M' : mm} {T : Nat} {tt : Nat → tx} (h94 : M' 94 = M 94) (h : TxI M tt T) : TxI M' tt T := by unfold TxI; rw [h94]; exact h
theorem ShC_eq {M M' : mm} {S : s3} (h : ∀ a, 66 ≤ a → a < 74 → M' a = M a) (hs : ShC3 M S) : ShC3 M' S := fun i hi => by
  rw [h (66 + 2 * i) (by omega) (by omega), h (66 + 2 * i + 1) (by omega) (by omega)]; exact hs i hi
theorem ShM_eq {M M' : mm} {S : s3} (h5 : M' 105 = M 105) (h6 : M' 106 = M 106) (h7 : M' 107 = M 107) (hs : ShM3 M S) : ShM3 M' S := fun i hi => by
  rw [h5, h6, h7]; exact hs i hi
theorem SlC_eq {M M' : mm} {W : Nat → slT} (h : ∀ a, 75 ≤ a → a < 90 → M' a = M a) (hs : SlC M W) : SlC M' W := fun i hi => by
  rw [h (75 + 3 * i) (by omega) (by omega), h (75 + 3 * i + 1) (by omega) (by omega), h (75 + 3 * i + 1 + 1) (by omega) (by omega)]; exact hs i hi
theorem SlM_eq {M M' : mm} {W : Nat → slT} (h8 : M' 108 = M 108) (h9 : M' 109 = M 109) (h10 : M' 110 = M 110) (h11 : M' 111 = M 111) (hs : SlM M W) : SlM M' W := fun i hi => by
  rw [h8, h9, h10, h11]; exact hs i hi
theorem TpC_eq {M M' : mm} {tp : Nat → Nat} {n : Nat} (h1 : M' 33 1 = M 33 1) (h34 : M' 34 = M 34) (h : TpC M tp n) : TpC M' tp n := by unfold TpC; rw [h1, h34]; exact h
theorem TpM_eq {M M' : mm} {tp : Nat → Nat} {n : Nat} (h1 : M' 92 6 = M 92 6) (h97 : M' 97 = M 97) (h : TpM M tp n) : TpM M' tp n := by unfold TpM; rw [h1, h97]; exact h
theorem KyM_eq {M M' : mm} (h8 : M' 98 = M 98) (h9 : M' 99 = M 99) (h : KyM M) : KyM M' := by unfold KyM; rw [h8, h9]; exact h
def FC (M M' : mm) : Prop := (∀ a, a < 92 → a ≠ 3 → a ≠ 4 → a ≠ 33 → a ≠ 35 → a ≠ 36 → a ≠ 37 → ¬ (56 ≤ a ∧ a < 65) → a ≠ 91 → M' a = M a) ∧ M' 33 1 = M 33 1
def FM (M M' : mm) : Prop := (∀ a, 92 < a → a ≠ 95 → a ≠ 96 → a ≠ 100 → a ≠ 101 → a ≠ 102 → a ≠ 103 → a ≠ 104 → a ≠ 112 → M' a = M a) ∧ M' 92 6 = M 92 6 ∧ M' 92 3 = M 92 3 ∧ M' 92 32 = M 92 32
/-- the class alone works: no cell of the reference changes -/
def NM (M M' : mm) : Prop := ∀ a, 92 ≤ a → M' a = M a
def NX (M M' : mm) : Prop := ∀ a, a < 92 → M' a = M a
theorem NM.fm {M M' : mm} (h : NM M M') : FM M M' := ⟨fun a ha _ _ _ _ _ _ _ _ => h a (by omega), by rw [h 92 (by omega)], by rw [h 92 (by omega)], by rw [h 92 (by omega)]⟩
theorem NX.fc {M M' : mm} (h : NX M M') : FC M M' := ⟨fun a ha _ _ _ _ _ _ _ _ => h a ha, by rw [h 33 (by omega)]⟩
theorem IC_eq {M M' : mm} {q : sT} (h : FC M M') (hq : IC M q) : IC M' q := by
  obtain ⟨v, tt, T, S, W, wn, tl, tp, tn, b, vi, Ti⟩ := q
  obtain ⟨c1, c2, c3, c4, c5, c6, c7, c8⟩ := hq
  refine ⟨(cv_eq8 (fun a h1 h2 => h.1 a (by omega) (by omega) (by omega) (by omega) (by omega) (by omega) (by omega) (by omega) (by omega))).trans c1, TxC_eq (by rw [h.1 38 (by omega) (by omega) (by omega) (by omega) (by omega) (by omega) (by omega) (by omega) (by omega)]) (fun k _ => by rw [h.1 (38 + 8) (by omega) (by omega) (by omega) (by omega) (by omega) (by omega) (by omega) (by omega) (by omega)]) (fun a h1 h2 => h.1 a (by omega) (by omega) (by omega) (by omega) (by omega) (by omega) (by omega) (by omega) (by omega)) c2, ShC_eq (fun a h1 h2 => h.1 a (by omega) (by omega) (by omega) (by omega) (by omega) (by omega) (by omega) (by omega) (by omega)) c3, SlC_eq (fun a h1 h2 => h.1 a (by omega) (by omega) (by omega) (by omega) (by omega) (by omega) (by omega) (by omega) (by omega)) c4, ⟨by rw [h.1 0 (by omega) (by omega) (by omega) (by omega) (by omega) (by omega) (by omega) (by omega) (by omega)]; exact c5.1, fun i hi => by rw [h.1 90 (by omega) (by omega) (by omega) (by omega) (by omega) (by omega) (by omega) (by omega) (by omega)]; exact c5.2 i hi⟩, TpC_eq h.2 (h.1 34 (by omega) (by omega) (by omega) (by omega) (by omega) (by omega) (by omega) (by omega) (by omega)) c6, by rw [h.1 0 (by omega) (by omega) (by omega) (by omega) (by omega) (by omega) (by omega) (by omega) (by omega)]; exact c7, fun hb => ⟨(cv_eq8 (fun a h1 h2 => h.1 a (by omega) (by omega) (by omega) (by omega) (by omega) (by omega) (by omega) (by omega) (by omega))).trans (c8 hb).1, TxC_eq (by rw [h.1 47 (by omega) (by omega) (by omega) (by omega) (by omega) (by omega) (by omega) (by omega) (by omega)]) (fun k _ => by rw [h.1 (47 + 8) (by omega) (by omega) (by omega) (by omega) (by omega) (by omega) (by omega) (by omega) (by omega)]) (fun a h1 h2 => h.1 a (by omega) (by omega) (by omega) (by omega) (by omega) (by omega) (by omega) (by omega) (by omega)) (c8 hb).2⟩⟩
theorem IM_eq {M M' : mm} {q : sT} (h : FM M M') (hq : IM M q) : IM M' q := by
  obtain ⟨v, tt, T, S, W, wn, tl, tp, tn, b, vi, Ti⟩ := q
  obtain ⟨c1, c2, c3, c4, c5, c6, c7, c8, c9⟩ := hq
  refine ⟨(mv_eq (h.1 93 (by omega) (by omega) (by omega) (by omega) (by omega) (by omega) (by omega) (by omega) (by omega))).trans c1, TxM_eq (h.1 93 (by omega) (by omega) (by omega) (by omega) (by omega) (by omega) (by omega) (by omega) (by omega)) c2, ShM_eq (h.1 105 (by omega) (by omega) (by omega) (by omega) (by omega) (by omega) (by omega) (by omega) (by omega)) (h.1 106 (by omega) (by omega) (by omega) (by omega) (by omega) (by omega) (by omega) (by omega) (by omega)) (h.1 107 (by omega) (by omega) (by omega) (by omega) (by omega) (by omega) (by omega) (by omega) (by omega)) c3, SlM_eq (h.1 108 (by omega) (by omega) (by omega) (by omega) (by omega) (by omega) (by omega) (by omega) (by omega)) (h.1 109 (by omega) (by omega) (by omega) (by omega) (by omega) (by omega) (by omega) (by omega) (by omega)) (h.1 110 (by omega) (by omega) (by omega) (by omega) (by omega) (by omega) (by omega) (by omega) (by omega)) (h.1 111 (by omega) (by omega) (by omega) (by omega) (by omega) (by omega) (by omega) (by omega) (by omega)) c4, ⟨h.2.2.2.trans c5.1, fun i hi => by rw [h.1 113 (by omega) (by omega) (by omega) (by omega) (by omega) (by omega) (by omega) (by omega) (by omega)]; exact c5.2 i hi⟩, TpM_eq h.2.1 (h.1 97 (by omega) (by omega) (by omega) (by omega) (by omega) (by omega) (by omega) (by omega) (by omega)) c6, h.2.2.1.trans c7, fun hb => ⟨(imv_eq (h.1 94 (by omega) (by omega) (by omega) (by omega) (by omega) (by omega) (by omega) (by omega) (by omega))).trans (c8 hb).1, TxI_eq (h.1 94 (by omega) (by omega) (by omega) (by omega) (by omega) (by omega) (by omega) (by omega) (by omega)) (c8 hb).2⟩, KyM_eq (h.1 98 (by omega) (by omega) (by omega) (by omega) (by omega) (by omega) (by omega) (by omega) (by omega)) (h.1 99 (by omega) (by omega) (by omega) (by omega) (by omega) (by omega) (by omega) (by omega) (by omega)) c9⟩
theorem IC_v {M M' : mm} {v v' vi : fl} {tt : Nat → tx} {T wn tn Ti : Nat} {S : s3} {W : Nat → slT} {tl : Nat → Int32} {tp : Nat → Nat} {b : Bool} (hq : IC M (v, tt, T, S, W, wn, tl, tp, tn, b, vi, Ti)) (h : FrC 38 M M') (hv : cv M' 38 = v') (h6 : v' 6 = v 6) : IC M' (v', tt, T, S, W, wn, tl, tp, tn, b, vi, Ti) := by
  obtain ⟨c1, c2, c3, c4, c5, c6, c7, c8⟩ := hq
  have g : ∀ a, ¬ (38 ≤ a ∧ a < 46) → a ≠ 3 → a ≠ 4 → M' a = M a := h
  exact ⟨hv, TxC.fr (Or.inl rfl) c2 h (by rw [hv, h6, ← c1]), ShC_eq (fun a h1 h2 => g a (by omega) (by omega) (by omega)) c3, SlC_eq (fun a h1 h2 => g a (by omega) (by omega) (by omega)) c4, ⟨by rw [g 0 (by omega) (by omega) (by omega)]; exact c5.1, fun i hi => by rw [g 90 (by omega) (by omega) (by omega)]; exact c5.2 i hi⟩, TpC_eq (by rw [g 33 (by omega) (by omega) (by omega)]) (g 34 (by omega) (by omega) (by omega)) c6, by rw [g 0 (by omega) (by omega) (by omega)]; exact c7, fun hb => ⟨(cv_eq8 (fun a h1 h2 => g a (by omega) (by omega) (by omega))).trans (c8 hb).1, TxC_eq (by rw [g 47 (by omega) (by omega) (by omega)]) (fun k _ => by rw [g (47 + 8) (by omega) (by omega) (by omega)]) (fun a h1 h2 => g a (by omega) (by omega) (by omega)) (c8 hb).2⟩⟩
theorem IM_v {M M' : mm} {v v' vi : fl} {tt : Nat → tx} {T wn tn Ti : Nat} {S : s3} {W : Nat → slT} {tl : Nat → Int32} {tp : Nat → Nat} {b : Bool} (hq : IM M (v, tt, T, S, W, wn, tl, tp, tn, b, vi, Ti)) (h : FrM M M') (hv : mv M' = v') (h6 : v' 6 = v 6) : IM M' (v', tt, T, S, W, wn, tl, tp, tn, b, vi, Ti) := by
  obtain ⟨c1, c2, c3, c4, c5, c6, c7, c8, c9⟩ := hq
  have g := h.1
  have g92 : M' 92 = M 92 := g 92 (by decide) (by decide) (by decide)
  exact ⟨hv, TxM.fr c2 h (by rw [hv, h6, ← c1]), ShM_eq (g _ (by decide) (by decide) (by decide)) (g _ (by decide) (by decide) (by decide)) (g _ (by decide) (by decide) (by decide)) c3, SlM_eq (g _ (by decide) (by decide) (by decide)) (g _ (by decide) (by decide) (by decide)) (g _ (by decide) (by decide) (by decide)) (g _ (by decide) (by decide) (by decide)) c4, ⟨by rw [g92]; exact c5.1, fun i hi => by rw [g 113 (by decide) (by decide) (by decide)]; exact c5.2 i hi⟩, TpM_eq (by rw [g92]) (g _ (by decide) (by decide) (by decide)) c6, by rw [g92]; exact c7, fun hb => ⟨(imv_eq (g _ (by decide) (by decide) (by decide))).trans (c8 hb).1, TxI_eq (g _ (by decide) (by decide) (by decide)) (c8 hb).2⟩, KyM_eq (g _ (by decide) (by decide) (by decide)) (g _ (by decide) (by decide) (by decide)) c9⟩
theorem FrC.nm {M M' : mm} (h : FrC 38 M M') : NM M M' := fun a ha => h a (by omega) (by omega) (by omega)
theorem FrM.nx {M M' : mm} (h : FrM M M') : NX M M' := fun a ha => h.1 a (by omega) (by omega) (by omega)
theorem FrX.fc {M M' : mm} (h : FrX M M') : FC M M' := ⟨fun a _ h3 h4 _ _ _ _ h5 h9 => h a h5 h3 h4 h9, by rw [h 33 (by omega) (by omega) (by omega) (by omega)]⟩
theorem FrX.nm {M M' : mm} (h : FrX M M') : NM M M' := fun a ha => h a (by omega) (by omega) (by omega) (by omega)
theorem Scr.x {M M' : mm} (h : Scr M M') : FrX M M' := by
  obtain ⟨g3, g4, rfl⟩ := h
  exact fun a _ h3 h4 _ => by rw [wa_ne h4, wa_ne h3]
theorem FrD.fm {M M' : mm} (h : FrD M M') : FM M M' := ⟨fun a _ h1 h2 _ _ _ h3 h4 _ => h a h1 h2 h3 h4, by rw [h 92 (by decide) (by decide) (by decide) (by decide)], by rw [h 92 (by decide) (by decide) (by decide) (by decide)], by rw [h 92 (by decide) (by decide) (by decide) (by decide)]⟩
theorem FrD.nx {M M' : mm} (h : FrD M M') : NX M M' := fun a ha => h a (by omega) (by omega) (by omega) (by omega)
theorem ScM.d {M M' : mm} (h : ScM M M') : FrD M M' := by
  obtain ⟨g, k, rfl⟩ := h
  exact fun a _ _ h1 h2 => by rw [wa_ne h1, wa_ne h2]
theorem NM.rf (M : mm) : NM M M := fun _ _ => rfl
theorem NX.rf (M : mm) : NX M M := fun _ _ => rfl
theorem IC_s {M M' : mm} {v vi : fl} {tt : Nat → tx} {T wn tn Ti : Nat} {S S' : s3} {W : Nat → slT} {tl : Nat → Int32} {tp : Nat → Nat} {b : Bool} (hq : IC M (v, tt, T, S, W, wn, tl, tp, tn, b, vi, Ti)) (h : FrS M M') (hs : ShC3 M' S') : IC M' (v, tt, T, S', W, wn, tl, tp, tn, b, vi, Ti) := by
  obtain ⟨c1, c2, c3, c4, c5, c6, c7, c8⟩ := hq
  have g : ∀ a, ¬ (66 ≤ a ∧ a < 74) → M' a = M a := h
  exact ⟨(cv_eq8 (fun a h1 h2 => g a (by omega))).trans c1, TxC_eq (by rw [g 38 (by omega)]) (fun k _ => by rw [g (38 + 8) (by omega)]) (fun a h1 h2 => g a (by omega)) c2, hs, SlC_eq (fun a h1 h2 => g a (by omega)) c4, ⟨by rw [g 0 (by omega)]; exact c5.1, fun i hi => by rw [g 90 (by omega)]; exact c5.2 i hi⟩, TpC_eq (by rw [g 33 (by omega)]) (g 34 (by omega)) c6, by rw [g 0 (by omega)]; exact c7, fun hb => ⟨(cv_eq8 (fun a h1 h2 => g a (by omega))).trans (c8 hb).1, TxC_eq (by rw [g 47 (by omega)]) (fun k _ => by rw [g (47 + 8) (by omega)]) (fun a h1 h2 => g a (by omega)) (c8 hb).2⟩⟩
theorem IC_w {M M' : mm} {v vi : fl} {tt : Nat → tx} {T wn tn Ti : Nat} {S : s3} {W W' : Nat → slT} {tl : Nat → Int32} {tp : Nat → Nat} {b : Bool} (hq : IC M (v, tt, T, S, W, wn, tl, tp, tn, b, vi, Ti)) (h : FrL M M') (hs : SlC M' W') : IC M' (v, tt, T, S, W', wn, tl, tp, tn, b, vi, Ti) := by
  obtain ⟨c1, c2, c3, c4, c5, c6, c7, c8⟩ := hq
  have g : ∀ a, ¬ (75 ≤ a ∧ a < 90) → M' a = M a := h
  exact ⟨(cv_eq8 (fun a h1 h2 => g a (by omega))).trans c1, TxC_eq (by rw [g 38 (by omega)]) (fun k _ => by rw [g (38 + 8) (by omega)]) (fun a h1 h2 => g a (by omega)) c2, ShC_eq (fun a h1 h2 => g a (by omega)) c3, hs, ⟨by rw [g 0 (by omega)]; exact c5.1, fun i hi => by rw [g 90 (by omega)]; exact c5.2 i hi⟩, TpC_eq (by rw [g 33 (by omega)]) (g 34 (by omega)) c6, by rw [g 0 (by omega)]; exact c7, fun hb => ⟨(cv_eq8 (fun a h1 h2 => g a (by omega))).trans (c8 hb).1, TxC_eq (by rw [g 47 (by omega)]) (fun k _ => by rw [g (47 + 8) (by omega)]) (fun a h1 h2 => g a (by omega)) (c8 hb).2⟩⟩
theorem IM_s {M M' : mm} {v vi : fl} {tt : Nat → tx} {T wn tn Ti : Nat} {S S' : s3} {W : Nat → slT} {tl : Nat → Int32} {tp : Nat → Nat} {b : Bool} (hq : IM M (v, tt, T, S, W, wn, tl, tp, tn, b, vi, Ti)) (h : FrZ M M') (hs : ShM3 M' S') : IM M' (v, tt, T, S', W, wn, tl, tp, tn, b, vi, Ti) := by
  obtain ⟨c1, c2, c3, c4, c5, c6, c7, c8, c9⟩ := hq
  have g : ∀ a, a ≠ 105 → a ≠ 106 → a ≠ 107 → a ≠ 112 → M' a = M a := h
  have e : M' 92 = M 92 := g 92 (by decide) (by decide) (by decide) (by decide)
  exact ⟨(mv_eq (g _ (by decide) (by decide) (by decide) (by decide))).trans c1, TxM_eq (g _ (by decide) (by decide) (by decide) (by decide)) c2, hs, SlM_eq (g _ (by decide) (by decide) (by decide) (by decide)) (g _ (by decide) (by decide) (by decide) (by decide)) (g _ (by decide) (by decide) (by decide) (by decide)) (g _ (by decide) (by decide) (by decide) (by decide)) c4, ⟨by rw [e]; exact c5.1, fun i hi => by rw [g 113 (by decide) (by decide) (by decide) (by decide)]; exact c5.2 i hi⟩, TpM_eq (by rw [e]) (g _ (by decide) (by decide) (by decide) (by decide)) c6, by rw [e]; exact c7, fun hb => ⟨(imv_eq (g _ (by decide) (by decide) (by decide) (by decide))).trans (c8 hb).1, TxI_eq (g _ (by decide) (by decide) (by decide) (by decide)) (c8 hb).2⟩, KyM_eq (g _ (by decide) (by decide) (by decide) (by decide)) (g _ (by decide) (by decide) (by decide) (by decide)) c9⟩
theorem IM_w {M M' : mm} {v vi : fl} {tt : Nat → tx} {T wn tn Ti : Nat} {S : s3} {W W' : Nat → slT} {tl : Nat → Int32} {tp : Nat → Nat} {b : Bool} (hq : IM M (v, tt, T, S, W, wn, tl, tp, tn, b, vi, Ti)) (h : FrK M M') (hs : SlM M' W') : IM M' (v, tt, T, S, W', wn, tl, tp, tn, b, vi, Ti) := by
  obtain ⟨c1, c2, c3, c4, c5, c6, c7, c8, c9⟩ := hq
  have g : ∀ a, a ≠ 108 → a ≠ 109 → a ≠ 110 → a ≠ 111 → M' a = M a := h
  have e : M' 92 = M 92 := g 92 (by decide) (by decide) (by decide) (by decide)
  exact ⟨(mv_eq (g _ (by decide) (by decide) (by decide) (by decide))).trans c1, TxM_eq (g _ (by decide) (by decide) (by decide) (by decide)) c2, ShM_eq (g _ (by decide) (by decide) (by decide) (by decide)) (g _ (by decide) (by decide) (by decide) (by decide)) (g _ (by decide) (by decide) (by decide) (by decide)) c3, hs, ⟨by rw [e]; exact c5.1, fun i hi => by rw [g 113 (by decide) (by decide) (by decide) (by decide)]; exact c5.2 i hi⟩, TpM_eq (by rw [e]) (g _ (by decide) (by decide) (by decide) (by decide)) c6, by rw [e]; exact c7, fun hb => ⟨(imv_eq (g _ (by decide) (by decide) (by decide) (by decide))).trans (c8 hb).1, TxI_eq (g _ (by decide) (by decide) (by decide) (by decide)) (c8 hb).2⟩, KyM_eq (g _ (by decide) (by decide) (by decide) (by decide)) (g _ (by decide) (by decide) (by decide) (by decide)) c9⟩
theorem FrS.nm {M M' : mm} (h : FrS M M') : NM M M' := fun a ha => h a (by omega)
theorem FrL.nm {M M' : mm} (h : FrL M M') : NM M M' := fun a ha => h a (by omega)
theorem FrZ.nx {M M' : mm} (h : FrZ M M') : NX M M' := fun a ha => h a (by omega) (by omega) (by omega) (by omega)
theorem FrK.nx {M M' : mm} (h : FrK M M') : NX M M' := fun a ha => h a (by omega) (by omega) (by omega) (by omega)
/-- what a call makes of a county keeps it one -/
theorem CI_lets {v : fl} {x f c : Int32} (h : CI v 10000) : CI (F_lets v x f c) 10000 ∧ F_lets v x f c 6 = v 6 := by
  unfold F_lets
  by_cases g : (isP v x && isF f && inB c (nI 0) (nI 9)) = true
  · rw [if_pos g]
    rw [Bool.and_eq_true, Bool.and_eq_true] at g
    obtain ⟨⟨g1, g2⟩, g3⟩ := g
    obtain ⟨p, -, hp, rfl⟩ := isP_n h g1
    obtain ⟨k, -, hk, rfl⟩ := inB_n (by decide) (by decide) g2
    obtain ⟨j, -, hj, rfl⟩ := inB_n (by decide) (by decide) g3
    rw [tN_n (by omega), tN_n (by omega)]
    exact ⟨CI_upd h (by omega) (by omega) (by omega) (by rw [rg_th (by omega)]; exact inR_nI (by omega)), pk_un (by omega)⟩
  · rw [if_neg g]; exact ⟨h, rfl⟩
theorem CI_sow {v : fl} {f c : Int32} (h : CI v 10000) : CI (F_sow v f c) 10000 ∧ F_sow v f c 6 = v 6 := by
  unfold F_sow
  by_cases g : (isF f && inB c (nI 0) (nI 9)) = true
  · rw [if_pos g]
    rw [Bool.and_eq_true] at g
    obtain ⟨g2, g3⟩ := g
    obtain ⟨k, -, hk, rfl⟩ := inB_n (by decide) (by decide) g2
    obtain ⟨j, -, hj, rfl⟩ := inB_n (by decide) (by decide) g3
    rw [tN_n (by omega)]
    exact ⟨CI_upd h (by omega) (by omega) (by omega) (by rw [rg_sw (by omega)]; exact inR_nI (by omega)), pk_un (by omega)⟩
  · rw [if_neg g]; exact ⟨h, rfl⟩
theorem CI_turns {v : fl} {x k : Int32} (h : CI v 10000) : CI (F_turns v x k) 10000 ∧ F_turns v x k 6 = v 6 := by
  unfold F_turns
  by_cases g : (isP v x && isF k) = true
  · rw [if_pos g]
    rw [Bool.and_eq_true] at g
    obtain ⟨g1, g2⟩ := g
    obtain ⟨p, -, hp, rfl⟩ := isP_n h g1
    obtain ⟨j, -, hj, rfl⟩ := inB_n (by decide) (by decide) g2
    rw [tN_n (by omega)]
    exact ⟨CI_kd h (by omega), pk_un (by omega)⟩
  · rw [if_neg g]; exact ⟨h, rfl⟩
theorem rg_tr {q : Nat} : rg (21 + 10 * q) = 10 := by unfold rg; rw [if_neg (by omega), if_neg (by omega), if_neg (by omega), if_neg (by omega), if_pos (by omega)]
theorem CI_set {v : fl} {x u y : Int32} (h : CI v 10000) : CI (F_set v x u y) 10000 ∧ F_set v x u y 6 = v 6 := by
  unfold F_set
  by_cases g : (isP v x && setB u y) = true
  · rw [if_pos g]
    rw [Bool.and_eq_true] at g
    obtain ⟨g1, g2⟩ := g
    obtain ⟨p, -, hp, rfl⟩ := isP_n h g1
    rw [tN_n (show p < 2 ^ 31 by omega)]
    unfold setB at g2
    rw [Bool.or_eq_true, Bool.or_eq_true, Bool.and_eq_true, Bool.and_eq_true, Bool.and_eq_true] at g2
    rcases g2 with (⟨e, g⟩ | ⟨e, g⟩) | ⟨e, g⟩
    · obtain ⟨j, -, hj, rfl⟩ := inB_n (by decide) (by decide) g
      rw [of_decide_eq_true e, tN_n (by decide), show 19 + 10 * p + 1 = 20 + 10 * p by omega]
      exact ⟨CI_pl h (by omega), pk_un (by omega)⟩
    · obtain ⟨j, -, hj, rfl⟩ := inB_n (by decide) (by decide) g
      rw [of_decide_eq_true e, tN_n (by decide), show 19 + 10 * p + 2 = 21 + 10 * p by omega]
      exact ⟨CI_upd h (by omega) (by omega) (by omega) (by rw [rg_tr]; exact inR_nI (by omega)), pk_un (by omega)⟩
    · obtain ⟨j, -, hj, rfl⟩ := inB_n (by decide) (by decide) g
      rw [of_decide_eq_true e, tN_n (by decide), show 19 + 10 * p + 3 = 22 + 10 * p by omega]
      exact ⟨CI_upd h (by omega) (by omega) (by omega) (by rw [rg_su]; exact inR_nI (by omega)), pk_un (by omega)⟩
  · rw [if_neg g]; exact ⟨h, rfl⟩
theorem stS_6 {v : fl} {n : Nat} {k p t : Int32} : stS v n k p t 6 = v 6 := by
  unfold stS
  rw [if_neg (by decide), if_neg (by omega), if_neg (by omega), if_neg (by omega), if_neg (by omega)]
theorem CI_person {v : fl} {k p t : Int32} (h : CI v 10000) : CI (F_person v k p t) 10000 ∧ F_person v k p t 6 = v 6 := by
  unfold F_person
  by_cases g : gPer k p t = true
  · rw [if_pos g]
    by_cases h8 : pn v < 8
    · rw [if_pos h8]
      unfold gPer at g
      rw [Bool.and_eq_true, Bool.and_eq_true] at g
      obtain ⟨⟨g1, g2⟩, g3⟩ := g
      obtain ⟨a, -, ha, rfl⟩ := inB_n (by decide) (by decide) g1
      obtain ⟨b, -, hb, rfl⟩ := inB_n (by decide) (by decide) g2
      obtain ⟨c, -, hc, rfl⟩ := inB_n (by decide) (by decide) g3
      exact ⟨st_ok h h8 (inR_nI (by omega)) (inR_nI (by omega)) (inR_nI (by omega)), stS_6⟩
    · rw [if_neg h8]; exact ⟨h, rfl⟩
  · rw [if_neg g]; exact ⟨h, rfl⟩
theorem dlK_6 {v : fl} : ∀ k, dlK v k 6 = v 6
  | 0 => rfl
  | k + 1 => by
    show lotS (dlK v k) 6 = v 6
    unfold lotS
    rw [stS_6, pk_un (by decide)]
    exact dlK_6 k
theorem CI_deal {v : fl} {n : Int32} (h : CI v 10000) : CI (F_deal v n) 10000 ∧ F_deal v n 6 = v 6 := by
  unfold F_deal
  by_cases g : inB n (nI 1) (nI 8) = true
  · rw [if_pos g]
    have := h.pn.2
    exact ⟨(dl_ok h _ (by omega)).1, dlK_6 _⟩
  · rw [if_neg g]; exact ⟨h, rfl⟩
theorem CI_weeks {pf : p4} (hpf : PFok pf) {v : fl} {n : Int32} (h : CI v 10000) : CI (F_weeks pf v n) 10000 ∧ F_weeks pf v n 6 = v 6 := by
  unfold F_weeks
  by_cases g : inB n (nI 1) (nI 100) = true
  · rw [if_pos g]
    obtain ⟨k, -, hk, rfl⟩ := inB_n (by decide) (by decide) g
    obtain ⟨wv, hw, e⟩ := h.2.2.2.1
    have ht : tN (v 2) = wv := by rw [e, tN_n (by omega)]
    have h1 := h.tight (by decide)
    have h2 : tN (v 2) + 1 + wkN v (nI k) ≤ 10000 := by unfold wkN; rw [ht]; omega
    have h3 := wks_ok hpf h1 (wkN v (nI k)) (by omega)
    exact ⟨h3.1.mono h2, h3.2.2⟩
  · rw [if_neg g]; exact ⟨h, rfl⟩
theorem CI_pour {v : fl} {S : s3} {x : Int32} (h : CI v 10000) : CI (F_pour v S x) 10000 ∧ F_pour v S x 6 = v 6 := by
  unfold F_pour
  by_cases g : isS x = true
  · rw [if_pos g]
    by_cases e : S.1 (tN x) = -1
    · rw [if_pos e]; exact ⟨h, rfl⟩
    · rw [if_neg e]
      have h6 : pm (S.2.1 (tN x)) ≤ 6 := by unfold pm; split <;> omega
      exact ⟨(pr_ok h _ h6).1, (pr_ok h _ h6).2 6 (by decide)⟩
  · rw [if_neg g]; exact ⟨h, rfl⟩
