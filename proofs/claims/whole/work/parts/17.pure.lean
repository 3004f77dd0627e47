/-! what the weeks keep -/
def PFok (pf : p4) : Prop := ∀ a b c d, inR a 10 → inR (pf a b c d) 100
theorem clamp_in (x : Int32) : inR (clampS x (nI 0) (nI 99)) 100 := by
  unfold clampS
  by_cases h : x < nI 0
  · rw [if_pos h]; exact ⟨0, by decide, rfl⟩
  · rw [if_neg h]
    by_cases h2 : nI 99 < x
    · rw [if_pos h2]; exact ⟨99, by decide, rfl⟩
    · rw [if_neg h2]
      obtain ⟨j, hj, e⟩ := nI_of2 (M := nI 99) (n := 99) rfl h (Int32.not_lt.mp h2)
      exact ⟨j, by omega, e⟩
theorem pfT_ok (tt : Nat → tx) (T : Nat) : PFok (pfT tt T) := by
  intro a b c d ha
  unfold pfT
  split
  · exact ha.mono (by decide)
  · exact clamp_in _
theorem popc_le (n : Nat) : popc n ≤ 8 := by unfold popc; omega
theorem tabW_in {x : Int32} (h : inR x 6) : inR (tabW x.toNatClampNeg) 6 := by
  obtain ⟨k, hk, rfl⟩ := h
  rw [nI_clamp (by omega)]
  have : ∀ k : Fin 6, ∃ j : Fin 6, tabW k.val = nI j.val := by decide +kernel
  obtain ⟨j, e⟩ := this ⟨k, hk⟩
  exact ⟨j.val, j.isLt, e⟩
theorem heed_in {pf : p4} (hpf : PFok pf) {v : fl} {W p f : Nat} (hI : CI v W) (hp : p < 8) (c : Int32) : inR (heed pf v p f c) 103 := by
  have h := hpf (tr v p) (nI (popc (thkN v f c))) (su v p) c (hI.tr hp)
  obtain ⟨k, hk, e⟩ := h
  unfold heed
  simp only []
  rw [e]
  split
  · rw [nI_add]; exact ⟨k + 3, by omega, rfl⟩
  · split
    · rw [nI_add, pk_div (by omega) (by decide) (by decide)]; exact ⟨(k + 3) / 2, by omega, rfl⟩
    · split
      · exact ⟨0, by decide, rfl⟩
      · split
        · rw [pk_mul]; exact ⟨2 * popc (thkN v f c), by have := popc_le (thkN v f c); omega, rfl⟩
        · split
          · exact ⟨99, by decide, rfl⟩
          · exact ⟨k, by omega, rfl⟩
theorem one9_in {x : Int32} (h : inR x 10) : inR (one9 x) 10 := by
  obtain ⟨k, hk, rfl⟩ := h
  have : ∀ k : Fin 10, ∃ j : Fin 10, one9 (nI k.val) = nI j.val := by decide +kernel
  obtain ⟨j, e⟩ := this ⟨k, hk⟩
  exact ⟨j.val, j.isLt, e⟩
theorem ten_in {x : Int32} (h : inR x 10) (h0 : x ≠ 0) : inR (nI 10 - one9 x) 10 := by
  obtain ⟨k, hk, rfl⟩ := h
  have : ∀ k : Fin 10, nI k.val ≠ 0 → ∃ j : Fin 10, nI 10 - one9 (nI k.val) = nI j.val := by decide +kernel
  obtain ⟨j, e⟩ := this ⟨k, hk⟩ h0
  exact ⟨j.val, j.isLt, e⟩
theorem fcK_in (v : fl) (f : Nat) : ∀ k, k ≤ 9 → inR (fcK v f k).1 10
  | 0, _ => ⟨0, by decide, rfl⟩
  | k + 1, hk => by
    unfold fcK
    split
    · exact ⟨k + 1, by omega, rfl⟩
    · exact fcK_in v f k (by omega)
theorem fc_in (v : fl) (f : Nat) : inR (fc v f) 10 := fcK_in v f 9 (by decide)
theorem says_in {v : fl} {W p f : Nat} (hI : CI v W) (hp : p < 8) (hf : f < 6) : inR (says v p f) 10 := by
  unfold says
  split
  · exact one9_in (hI.th hp hf)
  · split
    · split
      · exact ⟨0, by decide, rfl⟩
      · rename_i h; exact ten_in (hI.th hp hf) h
    · split
      · exact hI.sw hf
      · split
        · split
          · exact hI.sw hf
          · exact fc_in v f
        · split
          · exact ⟨9, by decide, rfl⟩
          · exact hI.th hp hf
theorem votK_in {v : fl} {W f : Nat} (hI : CI v W) (c : Int32) : ∀ k, k ≤ 8 → inR (votK v f c k) (5 * k + 1)
  | 0, _ => ⟨0, by decide, rfl⟩
  | k + 1, hk => by
    obtain ⟨a, ha, e⟩ := votK_in hI c k (by omega)
    unfold votK
    rw [e]
    split
    · obtain ⟨b, hb, e2⟩ := tabW_in (hI.kd (p := k) (by omega))
      rw [e2, nI_add]; exact ⟨a + b, by omega, rfl⟩
    · rw [show nI a + 0 = nI a from by simp]; exact ⟨a, by omega, rfl⟩
theorem vot_in {v : fl} {W : Nat} (hI : CI v W) (f : Nat) (c : Int32) : inR (vot v f c) 41 := (votK_in hI c (pn v) hI.pn.2).mono (by have := hI.pn.2; omega)
/-- one who hears: what stays, what holds -/
theorem hr1_ne {pf : p4} {f q i : Nat} {c : Int32} {v : fl} (h1 : i ≠ 23 + 10 * q + f) (h2 : i ≠ 22 + 10 * q) (h3 : i ≠ 5) : hr1 pf f c v q i = v i := by
  unfold hr1
  split
  · rw [pk_un h3, pk_un h2, pk_un h1]
  · rw [pk_un h2]
theorem rg_su {q : Nat} : rg (22 + 10 * q) = 100 := by unfold rg; rw [if_neg (by omega), if_neg (by omega), if_neg (by omega), if_neg (by omega), if_neg (by omega), if_pos (by omega)]
theorem rg_th {q f : Nat} (hf : f < 6) : rg (23 + 10 * q + f) = 10 := by unfold rg; rw [if_neg (by omega), if_neg (by omega), if_neg (by omega), if_neg (by omega), if_neg (by omega), if_neg (by omega)]
theorem less_in {x : Int32} {n : Nat} (h : inR x n) (hn : n < 2 ^ 31) (h0 : 0 < n) : inR (if x - nI 1 < nI 0 then nI 0 else x - nI 1) n := by
  obtain ⟨k, hk, rfl⟩ := h
  cases k with
  | zero => rw [if_pos (by decide)]; exact ⟨0, h0, rfl⟩
  | succ k => rw [show nI (k + 1) - nI 1 = nI k from nI_pred k, if_neg (show ¬ nI k < nI 0 from nI_pos (by omega))]; exact ⟨k, by omega, rfl⟩
theorem CI_hr1 {pf : p4} (hpf : PFok pf) {v : fl} {W f q : Nat} {c : Int32} (hI : CI v W) (hq : q < 8) (hf : f < 6) (hc : inR c 10) : CI (hr1 pf f c v q) W := by
  obtain ⟨h, hh, e⟩ := heed_in (f := f) hpf hI hq c
  unfold hr1
  split
  · refine CI_upd0 (CI_upd (CI_upd hI (by omega) (by omega) (by omega) (by rw [rg_th hf]; exact hc)) (by omega) (by omega) (by omega) ?_) (Or.inr (Or.inl rfl))
    rw [rg_su, e]
    split
    · exact ⟨99, by decide, rfl⟩
    · rename_i h9; exact ⟨h, by have := mt (nI_ltI (a := 99) (b := h) (by decide) (by omega)).mpr h9; omega, rfl⟩
  · exact CI_upd hI (by omega) (by omega) (by omega) (by rw [rg_su]; exact less_in (hI.su hq) (by decide) (by decide))
def Kp (v u : fl) : Prop := u 0 = v 0 ∧ u 1 = v 1 ∧ u 2 = v 2 ∧ u 3 = v 3 ∧ u 4 = v 4 ∧ u 6 = v 6
theorem Kp.rf (v : fl) : Kp v v := ⟨rfl, rfl, rfl, rfl, rfl, rfl⟩
theorem Kp.tr {a b c : fl} (h : Kp a b) (g : Kp b c) : Kp a c := ⟨g.1.trans h.1, g.2.1.trans h.2.1, g.2.2.1.trans h.2.2.1, g.2.2.2.1.trans h.2.2.2.1, g.2.2.2.2.1.trans h.2.2.2.2.1, g.2.2.2.2.2.trans h.2.2.2.2.2⟩
theorem Kp.pn {v u : fl} (h : Kp v u) : pn u = pn v := by show (u 1).toNatClampNeg = (v 1).toNatClampNeg; rw [h.2.1]
theorem Kp_hr1 {pf : p4} {f q : Nat} {c : Int32} {v : fl} : Kp v (hr1 pf f c v q) := ⟨hr1_ne (by omega) (by omega) (by omega), hr1_ne (by omega) (by omega) (by omega), hr1_ne (by omega) (by omega) (by omega), hr1_ne (by omega) (by omega) (by omega), hr1_ne (by omega) (by omega) (by omega), hr1_ne (by omega) (by omega) (by omega)⟩
theorem tk_ok {pf : p4} (hpf : PFok pf) {v : fl} {W p f : Nat} {c : Int32} (hI : CI v W) (hf : f < 6) (hc : inR c 10) : ∀ q, q ≤ 8 → CI (tkK pf v p f c q) W ∧ Kp v (tkK pf v p f c q)
  | 0, _ => ⟨hI, Kp.rf v⟩
  | q + 1, hq => by
    obtain ⟨h1, h2⟩ := tk_ok hpf (p := p) hI hf hc q (by omega)
    unfold tkK
    split
    · exact ⟨CI_hr1 hpf h1 (by omega) hf hc, h2.tr Kp_hr1⟩
    · exact ⟨h1, h2⟩
theorem talk_ok {pf : p4} (hpf : PFok pf) {v : fl} {W p : Nat} (hI : CI v W) (hp : p < 8) : CI (talk pf v p) W ∧ Kp v (talk pf v p) := by
  unfold talk
  split
  · exact ⟨hI, Kp.rf v⟩
  · exact tk_ok hpf hI (Nat.mod_lt _ (by decide)) (says_in hI hp (Nat.mod_lt _ (by decide))) _ hI.pn.2
theorem at_ok {pf : p4} (hpf : PFok pf) {v : fl} {W : Nat} (hI : CI v W) : ∀ p, p ≤ 8 → CI (atK pf v p) W ∧ Kp v (atK pf v p)
  | 0, _ => ⟨hI, Kp.rf v⟩
  | p + 1, hp => by
    obtain ⟨h1, h2⟩ := at_ok hpf hI p (by omega)
    obtain ⟨h3, h4⟩ := talk_ok hpf h1 (p := p) (by omega)
    exact ⟨h3, h2.tr h4⟩
theorem rd_ok {v : fl} {W wh f : Nat} (hI : CI v W) (hf : f < 6) : ∀ p, p ≤ 8 → CI (rdK v wh f p) W ∧ Kp v (rdK v wh f p) ∧ (∀ i, i < 19 → rdK v wh f p i = v i)
  | 0, _ => ⟨hI, Kp.rf v, fun _ _ => rfl⟩
  | p + 1, hp => by
    obtain ⟨h1, h2, h3⟩ := rd_ok (wh := wh) hI hf p (by omega)
    unfold rdK
    split
    · refine ⟨CI_upd h1 (by omega) (by omega) (by omega) (by rw [rg_th hf]; exact h1.sw hf), h2.tr ⟨pk_un (by omega), pk_un (by omega), pk_un (by omega), pk_un (by omega), pk_un (by omega), pk_un (by omega)⟩, fun i hi => by rw [pk_un (by omega)]; exact h3 i hi⟩
    · exact ⟨h1, h2, h3⟩
/-- by the road: all stays but z and what some think -/
theorem road_ok {v : fl} {W : Nat} (hI : CI v W) : CI (road v) W ∧ road v 1 = v 1 ∧ road v 2 = v 2 ∧ road v 3 = v 3 ∧ road v 4 = v 4 ∧ road v 6 = v 6 := by
  have h0 : CI (upd v 0 (drw (drw (v 0)))) W := CI_upd0 hI (Or.inl rfl)
  unfold road
  split
  · exact ⟨h0, pk_un (by decide), pk_un (by decide), pk_un (by decide), pk_un (by decide), pk_un (by decide)⟩
  · obtain ⟨h1, h2, -⟩ := rd_ok (wh := dN (v 0) % 8) h0 (f := dN (drw (v 0)) % 6) (Nat.mod_lt _ (by decide)) (pn v) hI.pn.2
    exact ⟨h1, h2.2.1.trans (pk_un (by decide)), h2.2.2.1.trans (pk_un (by decide)), h2.2.2.2.1.trans (pk_un (by decide)), h2.2.2.2.2.1.trans (pk_un (by decide)), h2.2.2.2.2.2.trans (pk_un (by decide))⟩
theorem rg_gr {f : Nat} (hf : f < 6) : rg (13 + f) = 10 := by unfold rg; rw [if_neg (by omega), if_pos (by omega)]
theorem wk_ok {pf : p4} (hpf : PFok pf) {v : fl} {W : Nat} (hI : CI v W) (hW : W < 2 ^ 24) : CI (wkS pf v) (W + 1) ∧ wkS pf v 1 = v 1 ∧ wkS pf v 6 = v 6 ∧ wkS pf v 2 = v 2 + nI 1 := by
  obtain ⟨a1, a2⟩ := at_ok hpf hI (pn v) hI.pn.2
  obtain ⟨r1, r2, r3, r4, r5, r6⟩ := road_ok a1
  unfold wkS
  simp only []
  generalize hu : road (atK pf v (pn v)) = u at r1 r2 r3 r4 r5 r6
  have hf : (u 2).toNatClampNeg % 6 < 6 := Nat.mod_lt _ (by decide)
  generalize (u 2).toNatClampNeg % 6 = f at hf
  have k1 : u 1 = v 1 := r2.trans a2.2.1
  have k2 : u 2 = v 2 := r3.trans a2.2.2.1
  have k3 : u 3 = v 3 := r4.trans a2.2.2.2.1
  have k4 : u 4 = v 4 := r5.trans a2.2.2.2.2.1
  have k6 : u 6 = v 6 := r6.trans a2.2.2.2.2.2
  have hg1 : CI (grw1 u f) W := CI_upd r1 (by omega) (by omega) (by omega) (by rw [rg_gr hf]; exact fc_in u f)
  obtain ⟨wv, hwv, ew⟩ : inR (if fc u f = 0 then 0 else vot u f (fc u f)) 41 := by
    split
    · exact ⟨0, by decide, rfl⟩
    · exact vot_in r1 f _
  obtain ⟨wk, hwk, ek⟩ := hI.2.2.2.1
  obtain ⟨wt, hwt, et⟩ := hI.2.2.2.2.1
  obtain ⟨wg, hwg, eg⟩ := hI.2.2.2.2.2
  rw [ek, nI_clamp (by omega)] at hwt hwg
  have g3 : grw2 u f 3 = nI (wt + wv) := by unfold grw2; rw [pk_us, ew, k3, et, nI_add]
  have e3 : grwS u f 3 = nI (wt + wv) := by
    unfold grwS; split
    · exact g3
    · rw [pk_un (by decide)]; exact g3
  have e2 : grwS u f 2 = nI wk := by
    unfold grwS grw2 grw1; split
    · rw [pk_un (by decide), pk_un (by omega), k2, ek]
    · rw [pk_un (by decide), pk_un (by decide), pk_un (by omega), k2, ek]
  have e1 : grwS u f 1 = v 1 := by
    unfold grwS grw2 grw1; split
    · rw [pk_un (by decide), pk_un (by omega), k1]
    · rw [pk_un (by decide), pk_un (by decide), pk_un (by omega), k1]
  have e6 : grwS u f 6 = v 6 := by
    unfold grwS grw2 grw1; split
    · rw [pk_un (by decide), pk_un (by omega), k6]
    · rw [pk_un (by decide), pk_un (by decide), pk_un (by omega), k6]
  have e4 : ∃ m, m ≤ wg + 1 ∧ grwS u f 4 = nI m := by
    unfold grwS grw2 grw1; split
    · exact ⟨wg, by omega, by rw [pk_un (by decide), pk_un (by omega), k4, eg]⟩
    · exact ⟨wg + 1, by omega, by rw [pk_us, k4, eg, nI_add]⟩
  have eo : ∀ i, 5 ≤ i → grwS u f i = grw1 u f i := by
    intro i hi
    unfold grwS grw2; split
    · rw [pk_un (by omega)]
    · rw [pk_un (by omega), pk_un (by omega)]
  have es : ∀ i, 5 ≤ i → upd (grwS u f) 2 (grwS u f 2 + nI 1) i = grw1 u f i := fun i hi => by rw [pk_un (by omega), eo i hi]
  obtain ⟨m, hm, em⟩ := e4
  refine ⟨⟨?_, fun p hp => ⟨?_, ?_, ?_, ?_, fun f' hf' => ?_⟩, fun f' hf' => ⟨?_, ?_⟩, ?_, ?_, ?_⟩, ?_, ?_, ?_⟩
  · rw [pk_un (by decide), e1]; exact hI.1
  · show inR (upd (grwS u f) 2 (grwS u f 2 + nI 1) (19 + 10 * p)) 6; rw [es _ (by omega)]; exact hg1.kd hp
  · show inR (upd (grwS u f) 2 (grwS u f 2 + nI 1) (20 + 10 * p)) 8; rw [es _ (by omega)]; exact hg1.pl hp
  · show inR (upd (grwS u f) 2 (grwS u f 2 + nI 1) (21 + 10 * p)) 10; rw [es _ (by omega)]; exact hg1.tr hp
  · show inR (upd (grwS u f) 2 (grwS u f 2 + nI 1) (22 + 10 * p)) 100; rw [es _ (by omega)]; exact hg1.su hp
  · show inR (upd (grwS u f) 2 (grwS u f 2 + nI 1) (23 + 10 * p + f')) 10; rw [es _ (by omega)]; exact hg1.th hp hf'
  · show inR (upd (grwS u f) 2 (grwS u f 2 + nI 1) (7 + f')) 10; rw [es _ (by omega)]; exact hg1.sw hf'
  · show inR (upd (grwS u f) 2 (grwS u f 2 + nI 1) (13 + f')) 10; rw [es _ (by omega)]; exact hg1.gr hf'
  · rw [pk_us, e2, nI_add]; exact ⟨wk + 1, by omega, rfl⟩
  · rw [pk_us, e2, nI_add, nI_clamp (by omega), pk_un (by decide), e3]; exact ⟨wt + wv, by omega, rfl⟩
  · rw [pk_us, e2, nI_add, nI_clamp (by omega), pk_un (by decide), em]; exact ⟨m, by omega, rfl⟩
  · rw [pk_un (by decide), e1]
  · rw [pk_un (by decide), e6]
  · rw [pk_us, e2, ek]
theorem wks_ok {pf : p4} (hpf : PFok pf) {v : fl} {W : Nat} (hI : CI v W) : ∀ k, W + k < 2 ^ 24 → CI (wksS pf v k) (W + k) ∧ wksS pf v k 1 = v 1 ∧ wksS pf v k 6 = v 6
  | 0, _ => ⟨hI, rfl, rfl⟩
  | k + 1, hk => by
    obtain ⟨h1, h2, h3⟩ := wks_ok hpf hI k (by omega)
    obtain ⟨g1, g2, g3, -⟩ := wk_ok hpf h1 (by omega)
    exact ⟨g1, g2.trans h2, g3.trans h3⟩
/-! which cells a county's methods may change -/
def FrC (c : Nat) (M M' : mm) : Prop := ∀ a, ¬ (c ≤ a ∧ a < c + 8) → a ≠ 3 → a ≠ 4 → M' a = M a
def FrM (M M' : mm) : Prop := (∀ a, a ≠ 93 → a ≠ 103 → a ≠ 104 → M' a = M a) ∧ ∀ i, 99 ≤ i → M' 93 i = M 93 i
theorem FrC.rf (c : Nat) (M : mm) : FrC c M M := fun _ _ _ _ => rfl
theorem FrC.tr {c : Nat} {A B C : mm} (h : FrC c A B) (g : FrC c B C) : FrC c A C := fun a h1 h2 h3 => (g a h1 h2 h3).trans (h a h1 h2 h3)
theorem FrM.rf (M : mm) : FrM M M := ⟨fun _ _ _ _ => rfl, fun _ _ => rfl⟩
theorem FrM.tr {A B C : mm} (h : FrM A B) (g : FrM B C) : FrM A C := ⟨fun a h1 h2 h3 => (g.1 a h1 h2 h3).trans (h.1 a h1 h2 h3), fun i hi => (g.2 i hi).trans (h.2 i hi)⟩
theorem FrC.w {c : Nat} (M : mm) {a j : Nat} {x : Int32} (h : c ≤ a ∧ a < c + 8) : FrC c M (wr M a j x) := fun b h1 _ _ => wr_ne (fun e => h1 (e ▸ h))
theorem FrM.w (M : mm) {j : Nat} {x : Int32} (h : j < 99) : FrM M (wr M 93 j x) := ⟨fun a h1 _ _ => wr_ne h1, fun i hi => by rw [wr_at, pk_un (by omega)]⟩
theorem FrC.scr {c : Nat} {M M' : mm} (h : Scr M M') : FrC c M M' := by
  obtain ⟨g3, g4, rfl⟩ := h
  exact fun a _ h3 h4 => by rw [wa_ne h4, wa_ne h3]
theorem FrM.scr {M M' : mm} (h : ScM M M') : FrM M M' := by
  obtain ⟨g, k, rfl⟩ := h
  exact ⟨fun a h1 h2 h3 => by rw [wa_ne h2, wa_ne h3], fun i _ => by rw [wa_ne (by decide), wa_ne (by decide)]⟩
theorem cv_scr {c : Nat} (hc : CB c) {M M' : mm} (h : Scr M M') : cv M' c = cv M c := by
  obtain ⟨g3, g4, rfl⟩ := h
  have := hc.ge
  rw [cv_wa (by omega), cv_wa (by omega)]
theorem mv_scr {M M' : mm} (h : ScM M M') : mv M' = mv M := by
  obtain ⟨g, k, rfl⟩ := h
  rw [mv_wa (by decide), mv_wa (by decide)]
theorem TxC.fr {c T : Nat} {tt : Nat → tx} {M M' : mm} (hc : CB c) (h : TxC M c tt T) (hf : FrC c M M') (h6 : cv M' c 6 = cv M c 6) : TxC M' c tt T := by
  have hb := hc.ge
  have h14 := h.1
  refine ⟨h.1, h6.trans h.2.1, fun t ht => ?_, fun key hk => by rw [hf _ (by omega) (by omega) (by omega)]; exact h.2.2.2 key hk⟩
  obtain ⟨a1, a2, a3, a4, a5⟩ := h.2.2.1 t ht
  have e1 : M' (5 + 2 * t) = M (5 + 2 * t) := hf _ (by omega) (by omega) (by omega)
  have e2 : M' (5 + 2 * t + 1) = M (5 + 2 * t + 1) := hf _ (by omega) (by omega) (by omega)
  exact ⟨a1, by rw [e1]; exact a2, by rw [e1]; exact a3, by rw [e1]; exact a4, fun i hi => by rw [e2]; exact a5 i hi⟩
theorem TxM.fr {T : Nat} {tt : Nat → tx} {M M' : mm} (h : TxM M tt T) (hf : FrM M M') (h6 : mv M' 6 = mv M 6) : TxM M' tt T := by
  refine ⟨h.1, h6.trans h.2.1, fun t ht => ?_⟩
  obtain ⟨a1, a2, a3, a4⟩ := h.2.2 t ht
  exact ⟨a1, by rw [hf.2 _ (by omega)]; exact a2, by rw [hf.2 _ (by omega)]; exact a3, fun i hi => by rw [hf.2 _ (by omega)]; exact a4 i hi⟩
