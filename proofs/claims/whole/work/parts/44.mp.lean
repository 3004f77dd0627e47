/-! keys, signs and pieces, as the reference takes them -/
def ofK (i : Nat) : Nat := if i = 0 then 0 else if i = 1 then 4 else if i = 2 then 7 else 11
def KyM (M : mm) : Prop := (∀ i, i < 4 → M 99 i = nI (ofK i)) ∧ ∀ i, i < 3 → ∀ k, k < lnS i → M 98 (ofK i + k) = btS i k
def sgM (s : Nat) : Int32 := if s = 124 then (-1) else if s = 38 then (-2) else if s = 60 then (-3) else if s = 61 then (-4) else if s = 62 then (-5) else if s = 43 then (-6) else if s = 45 then (-7) else if s = 42 then (-8) else if s = 47 then (-9) else if s = 33 then (-10) else (-11)
def rkI (x : Int32) : Nat := if x = -1 then 1 else if x = -2 then 2 else if -5 ≤ x then 3 else if -7 ≤ x then 4 else if -9 ≤ x then 5 else 6
def rkN (s : Nat) : Nat := if s = 33 then 6 else lev s
theorem sgD : ∀ s : Fin 128, (0 < lev s.val → rkI (sgM s.val) = lev s.val ∧ sgM s.val ≠ -11 ∧ sgM s.val ≠ -10 ∧ sgM s.val ≠ 0) := by decide +kernel
theorem sg_rk {s : Nat} (h : 0 < lev s) : rkI (sgM s) = lev s ∧ sgM s ≠ -11 ∧ sgM s ≠ -10 ∧ sgM s ≠ 0 := sgD ⟨s, lev_lt h⟩ h
theorem rkI_le (x : Int32) : rkI x ≤ 6 := by
  unfold rkI
  (repeat' split) <;> decide
def vld (s : Nat) : Prop := s = 33 ∨ s = 40 ∨ 0 < lev s
def stL (v : Nat) : List Nat → List Int32 → List Nat × List Int32
  | [], u => ([], u)
  | s :: t, u => if s ≠ 40 ∧ v ≤ rkN s then stL v t (neS s :: u) else (s :: t, u)
theorem stL_N : ∀ (o : List Nat) (u : List Int32), stL 6 o u = drN o u
  | [], u => rfl
  | s :: t, u => by
    have h5 := lev_le s
    unfold stL drN
    by_cases h : s = 33
    · rw [if_pos h, if_pos ⟨by omega, by unfold rkN; rw [if_pos h]; exact Nat.le_refl _⟩, h]; exact stL_N t _
    · rw [if_neg h, if_neg (fun q => by have := q.2; unfold rkN at this; rw [if_neg h] at this; omega)]
theorem stL_L (v : Nat) : ∀ (o : List Nat) (u : List Int32) (b : Nat), seg o b → b ≤ 6 → stL v o u = drL (v - 1) o u
  | [], u, b, _, _ => rfl
  | s :: t, u, b, h, hb => by
    unfold stL drL
    unfold seg at h
    by_cases h1 : s = 40
    · rw [if_neg (fun q => q.1 h1), if_neg (by rw [h1, lev_40]; omega)]
    · rw [if_neg h1] at h
      by_cases h2 : s = 33
      · rw [if_pos h2] at h; omega
      · rw [if_neg h2] at h
        have h5 := lev_le s
        have hr : rkN s = lev s := if_neg h2
        by_cases h3 : v - 1 < lev s
        · rw [if_pos h3, if_pos ⟨h1, by omega⟩]; exact stL_L v t _ (lev s) h.2.2 (by omega)
        · rw [if_neg h3, if_neg (fun q => by have := q.2; omega)]
theorem tm_sg {key s : Nat} (h : s = 33 ∨ 0 < lev s) : tmK key (neS s) (sgM s) := by
  rcases h with rfl | h
  · exact Or.inr (Or.inr (Or.inl ⟨by decide, by decide⟩))
  · rcases lev_cs h with rfl | rfl | rfl | rfl | rfl | rfl | rfl | rfl | rfl
    · exact Or.inr (Or.inr (Or.inr (Or.inr (Or.inr (Or.inr (Or.inr (Or.inr (Or.inr (Or.inr (Or.inr (⟨by decide, by decide⟩)))))))))))
    · exact Or.inr (Or.inr (Or.inr (Or.inr (Or.inr (Or.inr (Or.inr (Or.inr (Or.inr (Or.inr (Or.inl ⟨by decide, by decide⟩))))))))))
    · exact Or.inr (Or.inr (Or.inr (Or.inr (Or.inr (Or.inr (Or.inr (Or.inl ⟨by decide, by decide⟩)))))))
    · exact Or.inr (Or.inr (Or.inr (Or.inr (Or.inr (Or.inr (Or.inr (Or.inr (Or.inl ⟨by decide, by decide⟩))))))))
    · exact Or.inr (Or.inr (Or.inr (Or.inr (Or.inr (Or.inr (Or.inr (Or.inr (Or.inr (Or.inl ⟨by decide, by decide⟩)))))))))
    · exact Or.inr (Or.inr (Or.inr (Or.inr (Or.inr (Or.inl ⟨by decide, by decide⟩)))))
    · exact Or.inr (Or.inr (Or.inr (Or.inr (Or.inr (Or.inr (Or.inl ⟨by decide, by decide⟩))))))
    · exact Or.inr (Or.inr (Or.inr (Or.inl ⟨by decide, by decide⟩)))
    · exact Or.inr (Or.inr (Or.inr (Or.inr (Or.inl ⟨by decide, by decide⟩))))
def PsM (M : mm) (key : Nat) (o : List Nat) (u : List Int32) (lv : Nat) : Prop := M 92 19 = nI o.length ∧ rp (M 101) (o.map sgM) ∧ M 92 17 = nI lv ∧ M 92 16 = nI u.length ∧ ∀ i, i < u.length → tmK key (xsO u i) (M 100 i)
def FrR (A M : mm) : Prop := (∀ a, a ≠ 92 → a ≠ 100 → a ≠ 101 → a ≠ 102 → M a = A a) ∧ ∀ j, ¬ (7 ≤ j ∧ j ≤ 11) → j ≠ 16 → j ≠ 17 → j ≠ 19 → M 92 j = A 92 j
theorem FrR.refl (A : mm) : FrR A A := ⟨fun _ _ _ _ _ => rfl, fun _ _ _ _ _ => rfl⟩
theorem FrR.trans {A B C : mm} (h : FrR A B) (g : FrR B C) : FrR A C := ⟨fun a h1 h2 h3 h4 => (g.1 a h1 h2 h3 h4).trans (h.1 a h1 h2 h3 h4), fun j a b c d => (g.2 j a b c d).trans (h.2 j a b c d)⟩
theorem FrR.nx {A B C : mm} (h : FrR A B) (g : NxM B C) : FrR A C := ⟨fun a h1 h2 h3 h4 => (g.1 a h1).trans (h.1 a h1 h2 h3 h4), fun j a b c d => (g.2 j a).trans (h.2 j a b c d)⟩
theorem FrR.w92 {A M : mm} {j : Nat} {x : Int32} (h : FrR A M) (hj : j = 16 ∨ j = 17 ∨ j = 19) : FrR A (wr M 92 j x) := ⟨fun a h1 h2 h3 h4 => by rw [wr_ne h1]; exact h.1 a h1 h2 h3 h4, fun i a b c d => by rw [wr_at, pk_un (by omega)]; exact h.2 i a b c d⟩
theorem FrR.wo {A M : mm} {b j : Nat} {x : Int32} (h : FrR A M) (hb : b = 100 ∨ b = 101 ∨ b = 102) : FrR A (wr M b j x) := ⟨fun a h1 h2 h3 h4 => by rw [wr_ne (by omega)]; exact h.1 a h1 h2 h3 h4, fun i a b' c d => by rw [wr_ne (by omega)]; exact h.2 i a b' c d⟩
def FrU (A M : mm) : Prop := (∀ a, a ≠ 92 → a ≠ 100 → a ≠ 101 → M a = A a) ∧ ∀ j, j ≠ 16 → j ≠ 17 → j ≠ 19 → M 92 j = A 92 j
theorem FrU.refl (A : mm) : FrU A A := ⟨fun _ _ _ _ => rfl, fun _ _ _ _ => rfl⟩
theorem FrU.trans {A B C : mm} (h : FrU A B) (g : FrU B C) : FrU A C := ⟨fun a h1 h2 h3 => (g.1 a h1 h2 h3).trans (h.1 a h1 h2 h3), fun j a b c => (g.2 j a b c).trans (h.2 j a b c)⟩
theorem FrU.r {A M : mm} (h : FrU A M) : FrR A M := ⟨fun a h1 h2 h3 _ => h.1 a h1 h2 h3, fun j _ b c d => h.2 j b c d⟩
theorem FrU.w92 {A M : mm} {j : Nat} {x : Int32} (h : FrU A M) (hj : j = 16 ∨ j = 17 ∨ j = 19) : FrU A (wr M 92 j x) := ⟨fun a h1 h2 h3 => by rw [wr_ne h1]; exact h.1 a h1 h2 h3, fun i b c d => by rw [wr_at, pk_un (by omega)]; exact h.2 i b c d⟩
theorem FrU.wo {A M : mm} {b j : Nat} {x : Int32} (h : FrU A M) (hb : b = 100 ∨ b = 101) : FrU A (wr M b j x) := ⟨fun a h1 h2 h3 => by rw [wr_ne (by omega)]; exact h.1 a h1 h2 h3, fun i b' c d => by rw [wr_ne (by omega)]; exact h.2 i b' c d⟩
theorem FrU.sc {A M : mm} {tp : Nat → Nat} {t : tok} (f : FrU A M) (h : ScN A tp t) : ScN M tp t := ⟨(f.2 9 (by decide) (by decide) (by decide)).trans h.1, (f.2 8 (by decide) (by decide) (by decide)).trans h.2.1, (f.2 7 (by decide) (by decide) (by decide)).trans h.2.2.1, (f.2 11 (by decide) (by decide) (by decide)).trans h.2.2.2.1, fun q => (f.2 10 (by decide) (by decide) (by decide)).trans (h.2.2.2.2.1 q), fun q r => (f.2 10 (by decide) (by decide) (by decide)).trans (h.2.2.2.2.2 q r)⟩
theorem FrU.tp {A M : mm} {tp : Nat → Nat} {n : Nat} (f : FrU A M) (h : TpM A tp n) : TpM M tp n := ⟨(f.2 6 (by decide) (by decide) (by decide)).trans h.1, h.2.1, fun i hi => by rw [f.1 97 (by decide) (by decide) (by decide)]; exact h.2.2 i hi⟩
theorem FrR.tp {A M : mm} {tp : Nat → Nat} {n : Nat} (f : FrR A M) (h : TpM A tp n) : TpM M tp n := ⟨(f.2 6 (by decide) (by decide) (by decide) (by decide)).trans h.1, h.2.1, fun i hi => by rw [f.1 97 (by decide) (by decide) (by decide) (by decide)]; exact h.2.2 i hi⟩
theorem NxM.ps {A M : mm} {key : Nat} {o : List Nat} {u : List Int32} {lv : Nat} (f : NxM A M) (h : PsM A key o u lv) : PsM M key o u lv := ⟨(f.2 19 (by decide)).trans h.1, by rw [f.1 101 (by decide)]; exact h.2.1, (f.2 17 (by decide)).trans h.2.2.1, (f.2 16 (by decide)).trans h.2.2.2.1, fun i hi => by rw [f.1 100 (by decide)]; exact h.2.2.2.2 i hi⟩
theorem xsO_c {u : List Int32} {x : Int32} {i : Nat} (h : i < u.length) : xsO (x :: u) i = xsO u i := by
  unfold xsO
  rw [List.length_cons, show u.length + 1 - 1 - i = (u.length - 1 - i) + 1 by omega, List.getD_cons_succ]
theorem xsO_t {u : List Int32} {x : Int32} : xsO (x :: u) u.length = x := by
  unfold xsO
  rw [List.length_cons, show u.length + 1 - 1 - u.length = 0 by omega]; rfl
theorem PsM_add {M : mm} {key : Nat} {o : List Nat} {u : List Int32} {lv : Nat} {x y : Int32} (h : PsM M key o u lv) (hxy : tmK key x y) : PsM (wr (wr M 100 u.length y) 92 16 (nI (u.length + 1))) key o (x :: u) lv := by
  obtain ⟨h1, h2, h3, h4, h5⟩ := h
  refine ⟨by rw [wr_at, pk_un (by decide), wr_ne (by decide)]; exact h1, by rw [wr_ne (by decide), wr_ne (by decide)]; exact h2, by rw [wr_at, pk_un (by decide), wr_ne (by decide)]; exact h3, by rw [wr_at, pk_us]; rfl, fun i hi => ?_⟩
  rw [wr_ne (by decide), wr_at]
  by_cases e : i = u.length
  · subst e; rw [pk_us, xsO_t]; exact hxy
  · have hi' : i < u.length := by simp at hi; omega
    rw [pk_un e, xsO_c hi']; exact h5 i hi'
theorem PsM_lv {M : mm} {key : Nat} {o : List Nat} {u : List Int32} {lv l : Nat} (h : PsM M key o u lv) : PsM (wr M 92 17 (nI l)) key o u l := by
  obtain ⟨h1, h2, h3, h4, h5⟩ := h
  exact ⟨by rw [wr_at, pk_un (by decide)]; exact h1, by rw [wr_ne (by decide)]; exact h2, by rw [wr_at, pk_us], by rw [wr_at, pk_un (by decide)]; exact h4, fun i hi => by rw [wr_ne (by decide)]; exact h5 i hi⟩
theorem PsM_pop {M : mm} {key s : Nat} {t : List Nat} {u : List Int32} {lv : Nat} (h : PsM M key (s :: t) u lv) : PsM (wr M 92 19 (nI t.length)) key t u lv := by
  obtain ⟨h1, h2, h3, h4, h5⟩ := h
  exact ⟨by rw [wr_at, pk_us], by rw [wr_ne (by decide)]; exact rpm_tail h2, by rw [wr_at, pk_un (by decide)]; exact h3, by rw [wr_at, pk_un (by decide)]; exact h4, fun i hi => by rw [wr_ne (by decide)]; exact h5 i hi⟩
theorem PsM_push {M : mm} {key s : Nat} {o : List Nat} {u : List Int32} {lv : Nat} {y : Int32} (h : PsM M key o u lv) (hy : y = sgM s) : PsM (wr (wr M 101 o.length y) 92 19 (nI (o.length + 1))) key (s :: o) u lv := by
  subst hy
  obtain ⟨h1, h2, h3, h4, h5⟩ := h
  refine ⟨by rw [wr_at, pk_us]; rfl, ?_, by rw [wr_at, pk_un (by decide), wr_ne (by decide)]; exact h3, by rw [wr_at, pk_un (by decide), wr_ne (by decide)]; exact h4, fun i hi => by rw [wr_ne (by decide), wr_ne (by decide)]; exact h5 i hi⟩
  rw [wr_ne (by decide), wr_at]
  exact rpm_push h2
theorem PsM_o {M : mm} {key : Nat} {o : List Nat} {u : List Int32} {lv b j : Nat} {x : Int32} (h : PsM M key o u lv) (hb : b = 102) : PsM (wr M b j x) key o u lv := by
  subst hb
  obtain ⟨h1, h2, h3, h4, h5⟩ := h
  exact ⟨by rw [wr_ne (by decide)]; exact h1, by rw [wr_ne (by decide)]; exact h2, by rw [wr_ne (by decide)]; exact h3, by rw [wr_ne (by decide)]; exact h4, fun i hi => by rw [wr_ne (by decide)]; exact h5 i hi⟩
set_option maxRecDepth 100000 in
set_option maxHeartbeats 4000000 in
theorem kM_rank (E : ev) (Mz : mm) {x : Int32} : Ct E 0 yX7_rank cX7_rank 1 (some .int) [.inl x] Mz (qI E (fun r M' => r = nI (rkI x) ∧ M' = Mz)) := by
  refine ct_of (by decide) (Nat.le_of_ble_eq_true rfl) ?_
  show V E 0 _ _ _ _ _ 0 [some (.inl x)] [] Mz
  refine v_ild0 dX7_rank_0 ?_
  refine v_iconst (x := -1) dX7_rank_1 (by decide) ?_
  refine v_icmp_ne (tgt := 9) dX7_rank_2 (by decide) (fun h2 => ?_) (fun h2 => ?_)
  · refine v_ild0 dX7_rank_9 ?_
    refine v_bipush (x := -2) dX7_rank_10 (by decide) ?_
    refine v_icmp_ne (tgt := 19) dX7_rank_12 (by decide) (fun h12 => ?_) (fun h12 => ?_)
    · refine v_ild0 dX7_rank_19 ?_
      refine v_bipush (x := -5) dX7_rank_20 (by decide) ?_
      refine v_icmp_lt (tgt := 29) dX7_rank_22 (by decide) (fun h22 => ?_) (fun h22 => ?_)
      · refine v_ild0 dX7_rank_29 ?_
        refine v_bipush (x := -7) dX7_rank_30 (by decide) ?_
        refine v_icmp_lt (tgt := 39) dX7_rank_32 (by decide) (fun h32 => ?_) (fun h32 => ?_)
        · refine v_ild0 dX7_rank_39 ?_
          refine v_bipush (x := -9) dX7_rank_40 (by decide) ?_
          refine v_icmp_lt (tgt := 49) dX7_rank_42 (by decide) (fun h42 => ?_) (fun h42 => ?_)
          · refine v_bipushN (n := 6) dX7_rank_49 (by decide) ?_
            exact v_iret dX7_rank_51 rfl (⟨by unfold rkI; rw [if_neg h2, if_neg h12, if_neg (Int32.not_le.mpr h22), if_neg (Int32.not_le.mpr h32), if_neg (Int32.not_le.mpr h42)], rfl⟩)
          · refine v_iconstN (n := 5) dX7_rank_45 ?_
            refine v_goto (tgt := 51) dX7_rank_46 (by decide) ?_
            exact v_iret dX7_rank_51 rfl (⟨by unfold rkI; rw [if_neg h2, if_neg h12, if_neg (Int32.not_le.mpr h22), if_neg (Int32.not_le.mpr h32), if_pos (Int32.not_lt.mp h42)], rfl⟩)
        · refine v_iconstN (n := 4) dX7_rank_35 ?_
          refine v_goto (tgt := 51) dX7_rank_36 (by decide) ?_
          exact v_iret dX7_rank_51 rfl (⟨by unfold rkI; rw [if_neg h2, if_neg h12, if_neg (Int32.not_le.mpr h22), if_pos (Int32.not_lt.mp h32)], rfl⟩)
      · refine v_iconstN (n := 3) dX7_rank_25 ?_
        refine v_goto (tgt := 51) dX7_rank_26 (by decide) ?_
        exact v_iret dX7_rank_51 rfl (⟨by unfold rkI; rw [if_neg h2, if_neg h12, if_pos (Int32.not_lt.mp h22)], rfl⟩)
    · refine v_iconstN (n := 2) dX7_rank_15 ?_
      refine v_goto (tgt := 51) dX7_rank_16 (by decide) ?_
      exact v_iret dX7_rank_51 rfl (⟨by unfold rkI; rw [if_neg h2, if_pos h12], rfl⟩)
  · refine v_iconstN (n := 1) dX7_rank_5 ?_
    refine v_goto (tgt := 51) dX7_rank_6 (by decide) ?_
    exact v_iret dX7_rank_51 rfl (⟨by unfold rkI; rw [if_pos h2], rfl⟩)
set_option maxRecDepth 100000 in
set_option maxHeartbeats 4000000 in
theorem kM_settle_l (E : ev) (A : mm) {v lv key : Nat} (hv9 : v < 9) : ∀ (o : List Nat) (u : List Int32) (Mz : mm), o.length + u.length ≤ 96 → (∀ s ∈ o, vld s) → (PsM Mz key o u lv ∧ FrU A Mz) → V E 1 yX7_settle cX7_settle 2 none (qV E (fun M' => PsM M' key (stL v o u).1 (stL v o u).2 lv ∧ FrU A M')) 0 [some (.inr 92), some (.inl (nI v))] [] Mz
  | [], u, Mz, h96, hv, hM => by
    refine v_ald0 dX7_settle_0 ?_
    refine v_geti dX7_settle_1 gX7_234 sh_92 rfl ?_
    refine v_eq (show Mz 92 19 = nI 0 from hM.1.1) ?_
    refine v_if_le (tgt := 82) dX7_settle_4 (by decide) (fun h4 => ?_) (fun h4 => absurd h4 (fun q => q (by decide)))
    exact v_vret dX7_settle_82 rfl (hM)
  | s :: t, u, Mz, h96, hv, hM => by
    have h97 : t.length + 1 + u.length ≤ 96 := h96
    have h5 := lev_le s
    by_cases e40 : s = 40
    · rw [show stL v (s :: t) u = (s :: t, u) from if_neg (fun q => q.1 e40)]
      refine v_ald0 dX7_settle_0 ?_
      refine v_geti dX7_settle_1 gX7_234 sh_92 rfl ?_
      refine v_eq (show Mz 92 19 = nI (t.length + 1) from hM.1.1) ?_
      refine v_if_le (tgt := 82) dX7_settle_4 (by decide) (fun h4 => absurd h4 (nI_nle (by omega) (by omega))) (fun h4 => ?_)
      refine v_ald0 dX7_settle_7 ?_
      refine v_getr dX7_settle_8 gX7_35 sh_92 rfl ?_
      refine v_ald0 dX7_settle_11 ?_
      refine v_geti dX7_settle_12 gX7_234 sh_92 rfl ?_
      refine v_eq (show Mz 92 19 = nI (t.length + 1) from hM.1.1) ?_
      refine v_iconstN (n := 1) dX7_settle_15 ?_
      refine v_isubN dX7_settle_16 (by omega) ?_
      refine v_ialdN dX7_settle_17 sh_101 (by omega) (by decide) ?_
      refine v_eq (show Mz 101 (t.length + 1 - 1) = sgM s from rpm_top hM.1.2.1) ?_
      refine v_bipush (x := -11) dX7_settle_18 (by decide) ?_
      refine v_icmp_eq (tgt := 82) dX7_settle_20 (by decide) (fun h20 => ?_) (fun h20 => absurd h20 (fun q => q (by rw [e40]; decide)))
      exact v_vret dX7_settle_82 rfl (hM)
    · have hvs : s = 33 ∨ 0 < lev s := by rcases hv s List.mem_cons_self with e | e | e; (exact Or.inl e); (exact absurd e e40); exact Or.inr e
      have hrk : rkI (sgM s) = rkN s := by
        rcases hvs with e | e
        · subst e; decide
        · unfold rkN; rw [if_neg (by intro z; subst z; exact absurd e (by decide))]; exact (sg_rk e).1
      have h11 : sgM s ≠ -11 := by
        rcases hvs with e | e
        · subst e; decide
        · exact (sg_rk e).2.1
      have hr6 : rkN s ≤ 6 := by rw [← hrk]; exact rkI_le _
      by_cases hc : v ≤ rkN s
      · rw [show stL v (s :: t) u = stL v t (neS s :: u) from if_pos ⟨e40, hc⟩]
        refine v_ald0 dX7_settle_0 ?_
        refine v_geti dX7_settle_1 gX7_234 sh_92 rfl ?_
        refine v_eq (show Mz 92 19 = nI (t.length + 1) from hM.1.1) ?_
        refine v_if_le (tgt := 82) dX7_settle_4 (by decide) (fun h4 => absurd h4 (nI_nle (by omega) (by omega))) (fun h4 => ?_)
        refine v_ald0 dX7_settle_7 ?_
        refine v_getr dX7_settle_8 gX7_35 sh_92 rfl ?_
        refine v_ald0 dX7_settle_11 ?_
        refine v_geti dX7_settle_12 gX7_234 sh_92 rfl ?_
        refine v_eq (show Mz 92 19 = nI (t.length + 1) from hM.1.1) ?_
        refine v_iconstN (n := 1) dX7_settle_15 ?_
        refine v_isubN dX7_settle_16 (by omega) ?_
        refine v_ialdN dX7_settle_17 sh_101 (by omega) (by decide) ?_
        refine v_eq (show Mz 101 (t.length + 1 - 1) = sgM s from rpm_top hM.1.2.1) ?_
        refine v_bipush (x := -11) dX7_settle_18 (by decide) ?_
        refine v_icmp_eq (tgt := 82) dX7_settle_20 (by decide) (fun h20 => absurd h20 (h11)) (fun h20 => ?_)
        refine v_ald0 dX7_settle_23 ?_
        refine v_getr dX7_settle_24 gX7_35 sh_92 rfl ?_
        refine v_ald0 dX7_settle_27 ?_
        refine v_geti dX7_settle_28 gX7_234 sh_92 rfl ?_
        refine v_eq (show Mz 92 19 = nI (t.length + 1) from hM.1.1) ?_
        refine v_iconstN (n := 1) dX7_settle_31 ?_
        refine v_isubN dX7_settle_32 (by omega) ?_
        refine v_ialdN dX7_settle_33 sh_101 (by omega) (by decide) ?_
        refine v_eq (show Mz 101 (t.length + 1 - 1) = sgM s from rpm_top hM.1.2.1) ?_
        refine v_callSi (kM_rank E Mz) dX7_settle_34 cX7_237 rfl (by decide) (Nat.le_of_ble_eq_true rfl) rfl (fun r M1z hq => ?_)
        obtain ⟨hr1, hm⟩ := hq
        rw [hr1, hm, show rkI (sgM s) = rkN s from hrk]
        clear hr1 hm
        refine v_ild1 dX7_settle_37 ?_
        refine v_icmpN_lt (tgt := 82) dX7_settle_38 (by decide) (by omega) (by omega) (fun h38 => absurd h38 (by omega)) (fun h38 => ?_)
        refine v_ald0 dX7_settle_41 ?_
        refine v_dup dX7_settle_42 ?_
        refine v_geti dX7_settle_43 gX7_234 sh_92 rfl ?_
        refine v_eq (show Mz 92 19 = nI (t.length + 1) from hM.1.1) ?_
        refine v_iconstN (n := 1) dX7_settle_46 ?_
        refine v_isubN dX7_settle_47 (by omega) ?_
        refine v_eq (show nI (t.length + 1 - 1) = nI t.length from rfl) ?_
        refine v_puti dX7_settle_48 pX7_234 sh_92 rfl rfl rfl ?_
        refine v_ald0 dX7_settle_51 ?_
        refine v_getr dX7_settle_52 gX7_32 sh_92 rfl ?_
        refine v_ald0 dX7_settle_55 ?_
        refine v_geti dX7_settle_56 gX7_240 sh_92 rfl ?_
        refine v_eq (show wr Mz 92 19 (nI t.length) 92 16 = nI u.length from by rw [wr_at, pk_un (by decide)]; exact hM.1.2.2.2.1) ?_
        refine v_ald0 dX7_settle_59 ?_
        refine v_getr dX7_settle_60 gX7_35 sh_92 rfl ?_
        refine v_ald0 dX7_settle_63 ?_
        refine v_geti dX7_settle_64 gX7_234 sh_92 rfl ?_
        refine v_eq (show wr Mz 92 19 (nI t.length) 92 19 = nI t.length from by rw [wr_at, pk_us]) ?_
        refine v_ialdN dX7_settle_67 sh_101 (by omega) (by decide) ?_
        refine v_eq (show wr Mz 92 19 (nI t.length) 101 t.length = sgM s from by rw [wr_ne (by decide)]; exact rpm_top hM.1.2.1) ?_
        refine v_iastN dX7_settle_68 sh_100 (by omega) (by decide) ?_
        refine v_ald0 dX7_settle_69 ?_
        refine v_dup dX7_settle_70 ?_
        refine v_geti dX7_settle_71 gX7_240 sh_92 rfl ?_
        refine v_eq (show wr (wr Mz 92 19 (nI t.length)) 100 u.length (sgM s) 92 16 = nI u.length from by rw [wr_ne (by decide), wr_at, pk_un (by decide)]; exact hM.1.2.2.2.1) ?_
        refine v_iconstN (n := 1) dX7_settle_74 ?_
        refine v_iaddN dX7_settle_75 ?_
        refine v_puti dX7_settle_76 pX7_240 sh_92 rfl rfl rfl ?_
        refine v_goto (tgt := 0) dX7_settle_79 (by decide) ?_
        exact kM_settle_l E A hv9 t (neS s :: u) _ (by simp; omega) (fun a ha => hv a (List.mem_cons_of_mem _ ha)) ⟨PsM_add (PsM_pop hM.1) (tm_sg hvs), ((hM.2.w92 (by decide)).wo (by decide)).w92 (by decide)⟩
      · rw [show stL v (s :: t) u = (s :: t, u) from if_neg (fun q => hc q.2)]
        refine v_ald0 dX7_settle_0 ?_
        refine v_geti dX7_settle_1 gX7_234 sh_92 rfl ?_
        refine v_eq (show Mz 92 19 = nI (t.length + 1) from hM.1.1) ?_
        refine v_if_le (tgt := 82) dX7_settle_4 (by decide) (fun h4 => absurd h4 (nI_nle (by omega) (by omega))) (fun h4 => ?_)
        refine v_ald0 dX7_settle_7 ?_
        refine v_getr dX7_settle_8 gX7_35 sh_92 rfl ?_
        refine v_ald0 dX7_settle_11 ?_
        refine v_geti dX7_settle_12 gX7_234 sh_92 rfl ?_
        refine v_eq (show Mz 92 19 = nI (t.length + 1) from hM.1.1) ?_
        refine v_iconstN (n := 1) dX7_settle_15 ?_
        refine v_isubN dX7_settle_16 (by omega) ?_
        refine v_ialdN dX7_settle_17 sh_101 (by omega) (by decide) ?_
        refine v_eq (show Mz 101 (t.length + 1 - 1) = sgM s from rpm_top hM.1.2.1) ?_
        refine v_bipush (x := -11) dX7_settle_18 (by decide) ?_
        refine v_icmp_eq (tgt := 82) dX7_settle_20 (by decide) (fun h20 => absurd h20 (h11)) (fun h20 => ?_)
        refine v_ald0 dX7_settle_23 ?_
        refine v_getr dX7_settle_24 gX7_35 sh_92 rfl ?_
        refine v_ald0 dX7_settle_27 ?_
        refine v_geti dX7_settle_28 gX7_234 sh_92 rfl ?_
        refine v_eq (show Mz 92 19 = nI (t.length + 1) from hM.1.1) ?_
        refine v_iconstN (n := 1) dX7_settle_31 ?_
        refine v_isubN dX7_settle_32 (by omega) ?_
        refine v_ialdN dX7_settle_33 sh_101 (by omega) (by decide) ?_
        refine v_eq (show Mz 101 (t.length + 1 - 1) = sgM s from rpm_top hM.1.2.1) ?_
        refine v_callSi (kM_rank E Mz) dX7_settle_34 cX7_237 rfl (by decide) (Nat.le_of_ble_eq_true rfl) rfl (fun r M1z hq => ?_)
        obtain ⟨hr1, hm⟩ := hq
        rw [hr1, hm, show rkI (sgM s) = rkN s from hrk]
        clear hr1 hm
        refine v_ild1 dX7_settle_37 ?_
        refine v_icmpN_lt (tgt := 82) dX7_settle_38 (by decide) (by omega) (by omega) (fun h38 => ?_) (fun h38 => absurd h38 (by omega))
        exact v_vret dX7_settle_82 rfl (hM)
theorem kM_settle (E : ev) (Mz : mm) {v lv key : Nat} {o : List Nat} {u : List Int32} (hv9 : v < 9) (h96 : o.length + u.length ≤ 96) (hv : ∀ s ∈ o, vld s) (hM : PsM Mz key o u lv) : Ct E 1 yX7_settle cX7_settle 2 none [.inr 92, .inl (nI v)] Mz (qV E (fun M' => PsM M' key (stL v o u).1 (stL v o u).2 lv ∧ FrU Mz M')) := by
  refine ct_of (by decide) (Nat.le_of_ble_eq_true rfl) ?_
  exact kM_settle_l E Mz hv9 o u Mz h96 hv ⟨hM, FrU.refl _⟩
set_option maxRecDepth 100000 in
set_option maxHeartbeats 4000000 in
theorem kM_nameOf (E : ev) (Mz : mm) {key b : Nat} (hkey : key < 3) (hk : Mz 92 12 = nI key) (hb : b < 256) : Ct E 0 yX7_nameOf cX7_nameOf 2 (some .int) [.inr 92, .inl (nI b)] Mz (qI E (fun r M' => r = (if nmI key b = 9 then -1 else nI (locN key (nmI key b))) ∧ M' = Mz)) := by
  refine ct_of (by decide) (Nat.le_of_ble_eq_true rfl) ?_
  show V E 0 _ _ _ _ _ 0 [some (.inr 92), some (.inl (nI b))] [] Mz
  rcases (show key = 0 ∨ key = 1 ∨ key = 2 by omega) with rfl | rfl | rfl
  · refine v_ald0 dX7_nameOf_0 ?_
    refine v_geti dX7_nameOf_1 gX7_228 sh_92 rfl ?_
    refine v_eq (show Mz 92 12 = nI 0 from hk) ?_
    refine v_lsw (off := 28) (tgt := 32) dX7_nameOf_4 (by decide) (by decide) (by decide) ?_
    refine v_ild1 dX7_nameOf_32 ?_
    refine v_bipushN (n := 116) dX7_nameOf_33 (by decide) ?_
    refine v_icmpN_ne (tgt := 42) dX7_nameOf_35 (by decide) (by omega) (by omega) (fun h35 => ?_) (fun h35 => ?_)
    · refine v_ild1 dX7_nameOf_42 ?_
      refine v_bipushN (n := 110) dX7_nameOf_43 (by decide) ?_
      refine v_icmpN_ne (tgt := 52) dX7_nameOf_45 (by decide) (by omega) (by omega) (fun h45 => ?_) (fun h45 => ?_)
      · refine v_ild1 dX7_nameOf_52 ?_
        refine v_bipushN (n := 115) dX7_nameOf_53 (by decide) ?_
        refine v_icmpN_ne (tgt := 62) dX7_nameOf_55 (by decide) (by omega) (by omega) (fun h55 => ?_) (fun h55 => ?_)
        · refine v_ild1 dX7_nameOf_62 ?_
          refine v_bipushN (n := 118) dX7_nameOf_63 (by decide) ?_
          refine v_icmpN_ne (tgt := 72) dX7_nameOf_65 (by decide) (by omega) (by omega) (fun h65 => ?_) (fun h65 => ?_)
          · refine v_iconst (x := -1) dX7_nameOf_72 (by decide) ?_
            exact v_iret dX7_nameOf_73 rfl (⟨by unfold nmI locN; simp [*], rfl⟩)
          · refine v_iconstN (n := 3) dX7_nameOf_68 ?_
            refine v_goto (tgt := 73) dX7_nameOf_69 (by decide) ?_
            exact v_iret dX7_nameOf_73 rfl (⟨by unfold nmI locN; simp [*], rfl⟩)
        · refine v_iconstN (n := 2) dX7_nameOf_58 ?_
          refine v_goto (tgt := 73) dX7_nameOf_59 (by decide) ?_
          exact v_iret dX7_nameOf_73 rfl (⟨by unfold nmI locN; simp [*], rfl⟩)
      · refine v_iconstN (n := 1) dX7_nameOf_48 ?_
        refine v_goto (tgt := 73) dX7_nameOf_49 (by decide) ?_
        exact v_iret dX7_nameOf_73 rfl (⟨by unfold nmI locN; simp [*], rfl⟩)
    · refine v_iconstN (n := 0) dX7_nameOf_38 ?_
      refine v_goto (tgt := 73) dX7_nameOf_39 (by decide) ?_
      exact v_iret dX7_nameOf_73 rfl (⟨by unfold nmI locN; simp [*], rfl⟩)
  · refine v_ald0 dX7_nameOf_0 ?_
    refine v_geti dX7_nameOf_1 gX7_228 sh_92 rfl ?_
    refine v_eq (show Mz 92 12 = nI 1 from hk) ?_
    refine v_lsw (off := 70) (tgt := 74) dX7_nameOf_4 (by decide) (by decide) (by decide) ?_
    refine v_ild1 dX7_nameOf_74 ?_
    refine v_bipushN (n := 119) dX7_nameOf_75 (by decide) ?_
    refine v_icmpN_ne (tgt := 84) dX7_nameOf_77 (by decide) (by omega) (by omega) (fun h77 => ?_) (fun h77 => ?_)
    · refine v_ild1 dX7_nameOf_84 ?_
      refine v_bipushN (n := 103) dX7_nameOf_85 (by decide) ?_
      refine v_icmpN_ne (tgt := 94) dX7_nameOf_87 (by decide) (by omega) (by omega) (fun h87 => ?_) (fun h87 => ?_)
      · refine v_iconst (x := -1) dX7_nameOf_94 (by decide) ?_
        exact v_iret dX7_nameOf_95 rfl (⟨by unfold nmI locN; simp [*], rfl⟩)
      · refine v_iconstN (n := 1) dX7_nameOf_90 ?_
        refine v_goto (tgt := 95) dX7_nameOf_91 (by decide) ?_
        exact v_iret dX7_nameOf_95 rfl (⟨by unfold nmI locN; simp [*], rfl⟩)
    · refine v_iconstN (n := 0) dX7_nameOf_80 ?_
      refine v_goto (tgt := 95) dX7_nameOf_81 (by decide) ?_
      exact v_iret dX7_nameOf_95 rfl (⟨by unfold nmI locN; simp [*], rfl⟩)
  · refine v_ald0 dX7_nameOf_0 ?_
    refine v_geti dX7_nameOf_1 gX7_228 sh_92 rfl ?_
    refine v_eq (show Mz 92 12 = nI 2 from hk) ?_
    refine v_lsw (off := 92) (tgt := 96) dX7_nameOf_4 (by decide) (by decide) (by decide) ?_
    refine v_ild1 dX7_nameOf_96 ?_
    refine v_bipushN (n := 116) dX7_nameOf_97 (by decide) ?_
    refine v_icmpN_ne (tgt := 106) dX7_nameOf_99 (by decide) (by omega) (by omega) (fun h99 => ?_) (fun h99 => ?_)
    · refine v_ild1 dX7_nameOf_106 ?_
      refine v_bipushN (n := 115) dX7_nameOf_107 (by decide) ?_
      refine v_icmpN_ne (tgt := 116) dX7_nameOf_109 (by decide) (by omega) (by omega) (fun h109 => ?_) (fun h109 => ?_)
      · refine v_iconst (x := -1) dX7_nameOf_116 (by decide) ?_
        exact v_iret dX7_nameOf_117 rfl (⟨by unfold nmI locN; simp [*], rfl⟩)
      · refine v_iconstN (n := 1) dX7_nameOf_112 ?_
        refine v_goto (tgt := 117) dX7_nameOf_113 (by decide) ?_
        exact v_iret dX7_nameOf_117 rfl (⟨by unfold nmI locN; simp [*], rfl⟩)
    · refine v_iconstN (n := 0) dX7_nameOf_102 ?_
      refine v_goto (tgt := 117) dX7_nameOf_103 (by decide) ?_
      exact v_iret dX7_nameOf_117 rfl (⟨by unfold nmI locN; simp [*], rfl⟩)
theorem lev0 {s : Nat} (e38 : s ≠ 38) (e42 : s ≠ 42) (e43 : s ≠ 43) (e45 : s ≠ 45) (e47 : s ≠ 47) (e60 : s ≠ 60) (e61 : s ≠ 61) (e62 : s ≠ 62) (e124 : s ≠ 124) : lev s = 0 := by
  rcases Nat.eq_zero_or_pos (lev s) with h | h
  · exact h
  · have := lev_cs h; omega
set_option maxRecDepth 100000 in
set_option maxHeartbeats 4000000 in
theorem kM_sign3 (E : ev) (Mz : mm) {tp : Nat → Nat} {t : tok} (hS : ScN Mz tp t) (hb : tp t.2.1 < 256) (h3 : t.1 = 3) : Ct E 0 yX7_signHere cX7_signHere 1 (some .int) [.inr 92] Mz (qI E (fun r M' => r = (if t.1 = 3 ∧ 0 < lev (tp t.2.1) then sgM (tp t.2.1) else 0) ∧ M' = Mz)) := by
  refine ct_of (by decide) (Nat.le_of_ble_eq_true rfl) ?_
  show V E 0 _ _ _ _ _ 0 [some (.inr 92)] [] Mz
  by_cases e14_38 : tp t.2.1 = 38
  · refine v_ald0 dX7_signHere_0 ?_
    refine v_geti dX7_signHere_1 gX7_216 sh_92 rfl ?_
    refine v_eq (show Mz 92 9 = nI 3 from by rw [hS.1]; unfold tkN; rw [if_neg (by omega), h3]) ?_
    refine v_iconstN (n := 3) dX7_signHere_4 ?_
    refine v_icmpN_eq (tgt := 10) dX7_signHere_5 (by decide) (by omega) (by omega) (fun h5 => ?_) (fun h5 => absurd h5 (fun q => q rfl))
    refine v_ald0 dX7_signHere_10 ?_
    refine v_geti dX7_signHere_11 gX7_222 sh_92 rfl ?_
    refine v_eq (show Mz 92 10 = nI 38 from by rw [hS.2.2.2.2.1 (Or.inr h3), e14_38]) ?_
    refine v_lsw (off := 84) (tgt := 98) dX7_signHere_14 (by decide) (by decide) (by decide) ?_
    refine v_bipush (x := -2) dX7_signHere_98 (by decide) ?_
    exact v_iret dX7_signHere_100 rfl (⟨by rw [if_pos ⟨h3, by rw [e14_38]; decide⟩, e14_38]; rfl, rfl⟩)
  by_cases e14_42 : tp t.2.1 = 42
  · refine v_ald0 dX7_signHere_0 ?_
    refine v_geti dX7_signHere_1 gX7_216 sh_92 rfl ?_
    refine v_eq (show Mz 92 9 = nI 3 from by rw [hS.1]; unfold tkN; rw [if_neg (by omega), h3]) ?_
    refine v_iconstN (n := 3) dX7_signHere_4 ?_
    refine v_icmpN_eq (tgt := 10) dX7_signHere_5 (by decide) (by omega) (by omega) (fun h5 => ?_) (fun h5 => absurd h5 (fun q => q rfl))
    refine v_ald0 dX7_signHere_10 ?_
    refine v_geti dX7_signHere_11 gX7_222 sh_92 rfl ?_
    refine v_eq (show Mz 92 10 = nI 42 from by rw [hS.2.2.2.2.1 (Or.inr h3), e14_42]) ?_
    refine v_lsw (off := 102) (tgt := 116) dX7_signHere_14 (by decide) (by decide) (by decide) ?_
    refine v_bipush (x := -8) dX7_signHere_116 (by decide) ?_
    exact v_iret dX7_signHere_118 rfl (⟨by rw [if_pos ⟨h3, by rw [e14_42]; decide⟩, e14_42]; rfl, rfl⟩)
  by_cases e14_43 : tp t.2.1 = 43
  · refine v_ald0 dX7_signHere_0 ?_
    refine v_geti dX7_signHere_1 gX7_216 sh_92 rfl ?_
    refine v_eq (show Mz 92 9 = nI 3 from by rw [hS.1]; unfold tkN; rw [if_neg (by omega), h3]) ?_
    refine v_iconstN (n := 3) dX7_signHere_4 ?_
    refine v_icmpN_eq (tgt := 10) dX7_signHere_5 (by decide) (by omega) (by omega) (fun h5 => ?_) (fun h5 => absurd h5 (fun q => q rfl))
    refine v_ald0 dX7_signHere_10 ?_
    refine v_geti dX7_signHere_11 gX7_222 sh_92 rfl ?_
    refine v_eq (show Mz 92 10 = nI 43 from by rw [hS.2.2.2.2.1 (Or.inr h3), e14_43]) ?_
    refine v_lsw (off := 96) (tgt := 110) dX7_signHere_14 (by decide) (by decide) (by decide) ?_
    refine v_bipush (x := -6) dX7_signHere_110 (by decide) ?_
    exact v_iret dX7_signHere_112 rfl (⟨by rw [if_pos ⟨h3, by rw [e14_43]; decide⟩, e14_43]; rfl, rfl⟩)
  by_cases e14_45 : tp t.2.1 = 45
  · refine v_ald0 dX7_signHere_0 ?_
    refine v_geti dX7_signHere_1 gX7_216 sh_92 rfl ?_
    refine v_eq (show Mz 92 9 = nI 3 from by rw [hS.1]; unfold tkN; rw [if_neg (by omega), h3]) ?_
    refine v_iconstN (n := 3) dX7_signHere_4 ?_
    refine v_icmpN_eq (tgt := 10) dX7_signHere_5 (by decide) (by omega) (by omega) (fun h5 => ?_) (fun h5 => absurd h5 (fun q => q rfl))
    refine v_ald0 dX7_signHere_10 ?_
    refine v_geti dX7_signHere_11 gX7_222 sh_92 rfl ?_
    refine v_eq (show Mz 92 10 = nI 45 from by rw [hS.2.2.2.2.1 (Or.inr h3), e14_45]) ?_
    refine v_lsw (off := 99) (tgt := 113) dX7_signHere_14 (by decide) (by decide) (by decide) ?_
    refine v_bipush (x := -7) dX7_signHere_113 (by decide) ?_
    exact v_iret dX7_signHere_115 rfl (⟨by rw [if_pos ⟨h3, by rw [e14_45]; decide⟩, e14_45]; rfl, rfl⟩)
  by_cases e14_47 : tp t.2.1 = 47
  · refine v_ald0 dX7_signHere_0 ?_
    refine v_geti dX7_signHere_1 gX7_216 sh_92 rfl ?_
    refine v_eq (show Mz 92 9 = nI 3 from by rw [hS.1]; unfold tkN; rw [if_neg (by omega), h3]) ?_
    refine v_iconstN (n := 3) dX7_signHere_4 ?_
    refine v_icmpN_eq (tgt := 10) dX7_signHere_5 (by decide) (by omega) (by omega) (fun h5 => ?_) (fun h5 => absurd h5 (fun q => q rfl))
    refine v_ald0 dX7_signHere_10 ?_
    refine v_geti dX7_signHere_11 gX7_222 sh_92 rfl ?_
    refine v_eq (show Mz 92 10 = nI 47 from by rw [hS.2.2.2.2.1 (Or.inr h3), e14_47]) ?_
    refine v_lsw (off := 105) (tgt := 119) dX7_signHere_14 (by decide) (by decide) (by decide) ?_
    refine v_bipush (x := -9) dX7_signHere_119 (by decide) ?_
    exact v_iret dX7_signHere_121 rfl (⟨by rw [if_pos ⟨h3, by rw [e14_47]; decide⟩, e14_47]; rfl, rfl⟩)
  by_cases e14_60 : tp t.2.1 = 60
  · refine v_ald0 dX7_signHere_0 ?_
    refine v_geti dX7_signHere_1 gX7_216 sh_92 rfl ?_
    refine v_eq (show Mz 92 9 = nI 3 from by rw [hS.1]; unfold tkN; rw [if_neg (by omega), h3]) ?_
    refine v_iconstN (n := 3) dX7_signHere_4 ?_
    refine v_icmpN_eq (tgt := 10) dX7_signHere_5 (by decide) (by omega) (by omega) (fun h5 => ?_) (fun h5 => absurd h5 (fun q => q rfl))
    refine v_ald0 dX7_signHere_10 ?_
    refine v_geti dX7_signHere_11 gX7_222 sh_92 rfl ?_
    refine v_eq (show Mz 92 10 = nI 60 from by rw [hS.2.2.2.2.1 (Or.inr h3), e14_60]) ?_
    refine v_lsw (off := 87) (tgt := 101) dX7_signHere_14 (by decide) (by decide) (by decide) ?_
    refine v_bipush (x := -3) dX7_signHere_101 (by decide) ?_
    exact v_iret dX7_signHere_103 rfl (⟨by rw [if_pos ⟨h3, by rw [e14_60]; decide⟩, e14_60]; rfl, rfl⟩)
  by_cases e14_61 : tp t.2.1 = 61
  · refine v_ald0 dX7_signHere_0 ?_
    refine v_geti dX7_signHere_1 gX7_216 sh_92 rfl ?_
    refine v_eq (show Mz 92 9 = nI 3 from by rw [hS.1]; unfold tkN; rw [if_neg (by omega), h3]) ?_
    refine v_iconstN (n := 3) dX7_signHere_4 ?_
    refine v_icmpN_eq (tgt := 10) dX7_signHere_5 (by decide) (by omega) (by omega) (fun h5 => ?_) (fun h5 => absurd h5 (fun q => q rfl))
    refine v_ald0 dX7_signHere_10 ?_
    refine v_geti dX7_signHere_11 gX7_222 sh_92 rfl ?_
    refine v_eq (show Mz 92 10 = nI 61 from by rw [hS.2.2.2.2.1 (Or.inr h3), e14_61]) ?_
    refine v_lsw (off := 90) (tgt := 104) dX7_signHere_14 (by decide) (by decide) (by decide) ?_
    refine v_bipush (x := -4) dX7_signHere_104 (by decide) ?_
    exact v_iret dX7_signHere_106 rfl (⟨by rw [if_pos ⟨h3, by rw [e14_61]; decide⟩, e14_61]; rfl, rfl⟩)
  by_cases e14_62 : tp t.2.1 = 62
  · refine v_ald0 dX7_signHere_0 ?_
    refine v_geti dX7_signHere_1 gX7_216 sh_92 rfl ?_
    refine v_eq (show Mz 92 9 = nI 3 from by rw [hS.1]; unfold tkN; rw [if_neg (by omega), h3]) ?_
    refine v_iconstN (n := 3) dX7_signHere_4 ?_
    refine v_icmpN_eq (tgt := 10) dX7_signHere_5 (by decide) (by omega) (by omega) (fun h5 => ?_) (fun h5 => absurd h5 (fun q => q rfl))
    refine v_ald0 dX7_signHere_10 ?_
    refine v_geti dX7_signHere_11 gX7_222 sh_92 rfl ?_
    refine v_eq (show Mz 92 10 = nI 62 from by rw [hS.2.2.2.2.1 (Or.inr h3), e14_62]) ?_
    refine v_lsw (off := 93) (tgt := 107) dX7_signHere_14 (by decide) (by decide) (by decide) ?_
    refine v_bipush (x := -5) dX7_signHere_107 (by decide) ?_
    exact v_iret dX7_signHere_109 rfl (⟨by rw [if_pos ⟨h3, by rw [e14_62]; decide⟩, e14_62]; rfl, rfl⟩)
  by_cases e14_124 : tp t.2.1 = 124
  · refine v_ald0 dX7_signHere_0 ?_
    refine v_geti dX7_signHere_1 gX7_216 sh_92 rfl ?_
    refine v_eq (show Mz 92 9 = nI 3 from by rw [hS.1]; unfold tkN; rw [if_neg (by omega), h3]) ?_
    refine v_iconstN (n := 3) dX7_signHere_4 ?_
    refine v_icmpN_eq (tgt := 10) dX7_signHere_5 (by decide) (by omega) (by omega) (fun h5 => ?_) (fun h5 => absurd h5 (fun q => q rfl))
    refine v_ald0 dX7_signHere_10 ?_
    refine v_geti dX7_signHere_11 gX7_222 sh_92 rfl ?_
    refine v_eq (show Mz 92 10 = nI 124 from by rw [hS.2.2.2.2.1 (Or.inr h3), e14_124]) ?_
    refine v_lsw (off := 82) (tgt := 96) dX7_signHere_14 (by decide) (by decide) (by decide) ?_
    refine v_iconst (x := -1) dX7_signHere_96 (by decide) ?_
    exact v_iret dX7_signHere_97 rfl (⟨by rw [if_pos ⟨h3, by rw [e14_124]; decide⟩, e14_124]; rfl, rfl⟩)
  refine v_ald0 dX7_signHere_0 ?_
  refine v_geti dX7_signHere_1 gX7_216 sh_92 rfl ?_
  refine v_eq (show Mz 92 9 = nI 3 from by rw [hS.1]; unfold tkN; rw [if_neg (by omega), h3]) ?_
  refine v_iconstN (n := 3) dX7_signHere_4 ?_
  refine v_icmpN_eq (tgt := 10) dX7_signHere_5 (by decide) (by omega) (by omega) (fun h5 => ?_) (fun h5 => absurd h5 (fun q => q rfl))
  refine v_ald0 dX7_signHere_10 ?_
  refine v_geti dX7_signHere_11 gX7_222 sh_92 rfl ?_
  refine v_eq (hS.2.2.2.2.1 (Or.inr h3)) ?_
  refine v_lsw (off := 108) (tgt := 122) dX7_signHere_14 (by decide) ((lv_osw (fun z => e14_38 ((nI_eq (by omega) (by decide)).mp z)) rfl).trans ((lv_osw (fun z => e14_42 ((nI_eq (by omega) (by decide)).mp z)) rfl).trans ((lv_osw (fun z => e14_43 ((nI_eq (by omega) (by decide)).mp z)) rfl).trans ((lv_osw (fun z => e14_45 ((nI_eq (by omega) (by decide)).mp z)) rfl).trans ((lv_osw (fun z => e14_47 ((nI_eq (by omega) (by decide)).mp z)) rfl).trans ((lv_osw (fun z => e14_60 ((nI_eq (by omega) (by decide)).mp z)) rfl).trans ((lv_osw (fun z => e14_61 ((nI_eq (by omega) (by decide)).mp z)) rfl).trans ((lv_osw (fun z => e14_62 ((nI_eq (by omega) (by decide)).mp z)) rfl).trans ((lv_osw (fun z => e14_124 ((nI_eq (by omega) (by decide)).mp z)) rfl).trans (rfl)))))))))) (by decide) ?_
  refine v_iconstN (n := 0) dX7_signHere_122 ?_
  exact v_iret dX7_signHere_123 rfl (⟨by rw [if_neg (fun q => by have := lev0 e14_38 e14_42 e14_43 e14_45 e14_47 e14_60 e14_61 e14_62 e14_124; omega)]; rfl, rfl⟩)
set_option maxRecDepth 100000 in
set_option maxHeartbeats 4000000 in
theorem kM_sign0 (E : ev) (Mz : mm) {tp : Nat → Nat} {t : tok} (hS : ScN Mz tp t) (h3 : t.1 ≠ 3) (h4 : t.1 ≤ 4) : Ct E 0 yX7_signHere cX7_signHere 1 (some .int) [.inr 92] Mz (qI E (fun r M' => r = (if t.1 = 3 ∧ 0 < lev (tp t.2.1) then sgM (tp t.2.1) else 0) ∧ M' = Mz)) := by
  refine ct_of (by decide) (Nat.le_of_ble_eq_true rfl) ?_
  show V E 0 _ _ _ _ _ 0 [some (.inr 92)] [] Mz
  have htk4 : tkN t ≤ 4 := by unfold tkN; split <;> omega
  refine v_ald0 dX7_signHere_0 ?_
  refine v_geti dX7_signHere_1 gX7_216 sh_92 rfl ?_
  refine v_eq (hS.1) ?_
  refine v_iconstN (n := 3) dX7_signHere_4 ?_
  refine v_icmpN_eq (tgt := 10) dX7_signHere_5 (by decide) (by omega) (by omega) (fun h5 => absurd h5 (by unfold tkN; split <;> omega)) (fun h5 => ?_)
  refine v_iconstN (n := 0) dX7_signHere_8 ?_
  exact v_iret dX7_signHere_9 rfl (⟨by rw [if_neg (fun q => h3 q.1)]; rfl, rfl⟩)
theorem kM_sign (E : ev) (Mz : mm) {tp : Nat → Nat} {t : tok} (hS : ScN Mz tp t) (hb : t.1 = 3 → tp t.2.1 < 256) (h4 : t.1 ≤ 4) : Ct E 0 yX7_signHere cX7_signHere 1 (some .int) [.inr 92] Mz (qI E (fun r M' => r = (if t.1 = 3 ∧ 0 < lev (tp t.2.1) then sgM (tp t.2.1) else 0) ∧ M' = Mz)) := by
  by_cases h3 : t.1 = 3
  · exact kM_sign3 E Mz hS (hb h3) h3
  · exact kM_sign0 E Mz hS h3 h4
theorem rpm_at {f : Nat → Int32} {g : Nat → Int32} {o : List Nat} (h : rp f (o.map g)) {k : Nat} (hk : k < o.length) : f k = g (o[o.length - 1 - k]'(by omega)) := by
  have := h k (by rw [List.length_map]; exact hk)
  rw [this, List.length_map, List.getD_eq_getElem?_getD, List.getElem?_map, List.getElem?_eq_getElem (show o.length - 1 - k < o.length by omega)]
  rfl
theorem ct_dr {x : Nat} {o : List Nat} {k : Nat} (hk : k < o.length) : ct x (o.drop (o.length - (k + 1))) = (if o[o.length - 1 - k]'(by omega) = x then 1 else 0) + ct x (o.drop (o.length - k)) := by
  have hlt : o.length - (k + 1) < o.length := by omega
  rw [List.drop_eq_getElem_cons hlt, show o.length - (k + 1) + 1 = o.length - k by omega]
  show (if o[o.length - (k + 1)] = x then 1 else 0) + _ = _
  simp only [show o.length - (k + 1) = o.length - 1 - k from by omega]
theorem ct_le (x : Nat) : ∀ o : List Nat, ct x o ≤ o.length
  | [] => Nat.le_refl _
  | s :: t => by
    have := ct_le x t
    show (if s = x then 1 else 0) + ct x t ≤ t.length + 1
    split <;> omega
theorem sg_33 {s : Nat} (h : vld s) : sgM s = -10 ↔ s = 33 := by
  constructor
  · intro e
    rcases h with h | h | h
    · exact h
    · subst h; exact absurd e (by decide)
    · exact absurd e (sg_rk h).2.2.1
  · rintro rfl; decide
set_option maxRecDepth 100000 in
set_option maxHeartbeats 4000000 in
theorem kM_notsOpen (E : ev) (Mz : mm) {key lv : Nat} {o : List Nat} {u : List Int32} (hM : PsM Mz key o u lv) (h96 : o.length ≤ 96) (hv : ∀ s ∈ o, vld s) : Ct E 0 yX7_notsOpen cX7_notsOpen 3 (some .int) [.inr 92] Mz (qI E (fun r M' => r = nI (ct 33 o) ∧ M' = Mz)) := by
  refine ct_of (by decide) (Nat.le_of_ble_eq_true rfl) ?_
  show V E 0 _ _ _ _ _ 0 [some (.inr 92), none, none] [] Mz
  have hc96 := ct_le 33 o
  refine v_iconstN (n := 0) dX7_notsOpen_0 ?_
  refine v_ist1 dX7_notsOpen_1 (by decide) ?_
  refine v_iconstN (n := 0) dX7_notsOpen_2 ?_
  refine v_ist2 dX7_notsOpen_3 (by decide) ?_
  refine v_loop (pc := 4) (fun k => [some (.inr 92), some (.inl (nI (ct 33 (o.drop (o.length - k))))), some (.inl (nI k))]) (fun k => Mz) (o.length) (by rw [Nat.sub_zero, List.drop_length]; rfl) rfl (fun k hk ih => ?_) ?_
  · have hvk := hv _ (List.getElem_mem (show o.length - 1 - k < o.length by omega))
    refine v_ild2 dX7_notsOpen_4 ?_
    refine v_ald0 dX7_notsOpen_5 ?_
    refine v_geti dX7_notsOpen_6 gX7_234 sh_92 rfl ?_
    refine v_eq (hM.1) ?_
    refine v_icmpN_ge (tgt := 37) dX7_notsOpen_9 (by decide) (by omega) (by omega) (fun h9 => absurd h9 (by omega)) (fun h9 => ?_)
    refine v_ild1 dX7_notsOpen_12 ?_
    refine v_ald0 dX7_notsOpen_13 ?_
    refine v_getr dX7_notsOpen_14 gX7_35 sh_92 rfl ?_
    refine v_ild2 dX7_notsOpen_17 ?_
    refine v_ialdN dX7_notsOpen_18 sh_101 (by omega) (by decide) ?_
    refine v_eq (rpm_at hM.2.1 hk) ?_
    refine v_bipush (x := -10) dX7_notsOpen_19 (by decide) ?_
    refine v_icmp_ne (tgt := 28) dX7_notsOpen_21 (by decide) (fun h21 => ?_) (fun h21 => ?_)
    · refine v_iconstN (n := 0) dX7_notsOpen_28 ?_
      refine v_iaddN dX7_notsOpen_29 ?_
      refine v_ist1 dX7_notsOpen_30 (by decide) ?_
      refine v_iincN2 (n := 1) dX7_notsOpen_31 (by decide) ?_
      refine v_goto (tgt := 4) dX7_notsOpen_34 (by decide) ?_
      exact v_lo (by rw [ct_dr hk, if_neg (fun z => h21 ((sg_33 hvk).mpr z)), Nat.add_comm]) ih
    · refine v_iconstN (n := 1) dX7_notsOpen_24 ?_
      refine v_goto (tgt := 29) dX7_notsOpen_25 (by decide) ?_
      refine v_iaddN dX7_notsOpen_29 ?_
      refine v_ist1 dX7_notsOpen_30 (by decide) ?_
      refine v_iincN2 (n := 1) dX7_notsOpen_31 (by decide) ?_
      refine v_goto (tgt := 4) dX7_notsOpen_34 (by decide) ?_
      exact v_lo (by rw [ct_dr hk, if_pos ((sg_33 hvk).mp h21), Nat.add_comm]) ih
  · refine v_ild2 dX7_notsOpen_4 ?_
    refine v_ald0 dX7_notsOpen_5 ?_
    refine v_geti dX7_notsOpen_6 gX7_234 sh_92 rfl ?_
    refine v_eq (hM.1) ?_
    refine v_icmpN_ge (tgt := 37) dX7_notsOpen_9 (by decide) (by omega) (by omega) (fun h9 => ?_) (fun h9 => absurd h9 (by omega))
    refine v_ild1 dX7_notsOpen_37 ?_
    exact v_iret dX7_notsOpen_38 rfl (⟨by rw [Nat.sub_self, List.drop_zero], rfl⟩)
set_option maxRecDepth 100000 in
set_option maxHeartbeats 4000000 in
theorem kM_part2 (E : ev) (Mz : mm) {tp : Nat → Nat} {n key : Nat} {t : tok} {o : List Nat} {u : List Int32} {lv : Nat} (hT : TpM Mz tp n) (hS : ScN Mz tp t) (hse : t.2.1 ≤ t.2.2.1) (hen : t.2.2.1 ≤ n) (hkey : key < 3) (hk : Mz 92 12 = nI key) (hP : PsM Mz key o u lv) (h96 : o.length + u.length < 96) (hv : ∀ s ∈ o, vld s) (hb : t.2.1 < n) (h4 : t.1 ≤ 4) (hd : ∀ j, t.2.1 ≤ j → j < t.2.2.1 → isDi (tp j) = true) (ht : t.1 = 2) (hl : t.2.2.1 - t.2.1 ≤ 4) : Ct E 2 yX7_takesPart cX7_takesPart 2 (some .boolean) [.inr 92] Mz (qI E (fun r M' => r = nI 1 ∧ PsM M' key (drN o (nI (numK tp t.2.1 (t.2.2.1 - t.2.1)) :: u)).1 (drN o (nI (numK tp t.2.1 (t.2.2.1 - t.2.1)) :: u)).2 (lv + 1) ∧ ScN M' tp (nxt tp n t.2.2.1 t.2.2.2) ∧ FrR Mz M' ∧ M' 102 = Mz 102)) := by
  refine ct_of (by decide) (Nat.le_of_ble_eq_true rfl) ?_
  show V E 2 _ _ _ _ _ 0 [some (.inr 92), none] [] Mz
  have hn96 := hT.2.1
  refine v_ald0 dX7_takesPart_0 ?_
  refine v_geti dX7_takesPart_1 gX7_216 sh_92 rfl ?_
  refine v_eq (show Mz 92 9 = nI 2 from by rw [hS.1]; unfold tkN; rw [if_neg (by omega), ht]) ?_
  refine v_iconstN (n := 1) dX7_takesPart_4 ?_
  refine v_icmpN_ne (tgt := 36) dX7_takesPart_5 (by decide) (by omega) (by omega) (fun h5 => ?_) (fun h5 => absurd h5 (by decide))
  refine v_iconstN (n := 0) dX7_takesPart_36 ?_
  refine v_ist1 dX7_takesPart_37 (by decide) ?_
  refine v_ald0 dX7_takesPart_38 ?_
  refine v_geti dX7_takesPart_39 gX7_216 sh_92 rfl ?_
  refine v_eq (show Mz 92 9 = nI 2 from by rw [hS.1]; unfold tkN; rw [if_neg (by omega), ht]) ?_
  refine v_iconstN (n := 2) dX7_takesPart_42 ?_
  refine v_icmpN_eq (tgt := 52) dX7_takesPart_43 (by decide) (by omega) (by omega) (fun h43 => ?_) (fun h43 => absurd h43 (fun q => q rfl))
  refine v_ald0 dX7_takesPart_52 ?_
  refine v_getr dX7_takesPart_53 gX7_32 sh_92 rfl ?_
  refine v_ald0 dX7_takesPart_56 ?_
  refine v_geti dX7_takesPart_57 gX7_240 sh_92 rfl ?_
  refine v_eq (hP.2.2.2.1) ?_
  refine v_ald0 dX7_takesPart_60 ?_
  refine v_geti dX7_takesPart_61 gX7_216 sh_92 rfl ?_
  refine v_eq (show Mz 92 9 = nI 2 from by rw [hS.1]; unfold tkN; rw [if_neg (by omega), ht]) ?_
  refine v_iconstN (n := 2) dX7_takesPart_64 ?_
  refine v_icmpN_ne (tgt := 75) dX7_takesPart_65 (by decide) (by omega) (by omega) (fun h65 => absurd h65 (fun q => q rfl)) (fun h65 => ?_)
  refine v_ald0 dX7_takesPart_68 ?_
  refine v_geti dX7_takesPart_69 gX7_222 sh_92 rfl ?_
  refine v_eq (hS.2.2.2.2.2 ht hl) ?_
  refine v_goto (tgt := 87) dX7_takesPart_72 (by decide) ?_
  refine v_iastN dX7_takesPart_87 sh_100 (by omega) (by decide) ?_
  refine v_ald0 dX7_takesPart_88 ?_
  refine v_dup dX7_takesPart_89 ?_
  refine v_geti dX7_takesPart_90 gX7_240 sh_92 rfl ?_
  refine v_eq (show wr Mz 100 u.length (nI (numK tp t.2.1 (t.2.2.1 - t.2.1))) 92 16 = nI u.length from by rw [wr_ne (by decide)]; exact hP.2.2.2.1) ?_
  refine v_iconstN (n := 1) dX7_takesPart_93 ?_
  refine v_iaddN dX7_takesPart_94 ?_
  refine v_puti dX7_takesPart_95 pX7_240 sh_92 rfl rfl rfl ?_
  refine v_ald0 dX7_takesPart_98 ?_
  refine v_dup dX7_takesPart_99 ?_
  refine v_geti dX7_takesPart_100 gX7_246 sh_92 rfl ?_
  refine v_eq (show (wr (wr Mz 100 u.length (nI (numK tp t.2.1 (t.2.2.1 - t.2.1)))) 92 16 (nI (u.length + 1))) 92 17 = nI lv from by rw [wr_at, pk_un (by decide), wr_ne (by decide)]; exact hP.2.2.1) ?_
  refine v_iconstN (n := 1) dX7_takesPart_103 ?_
  refine v_iaddN dX7_takesPart_104 ?_
  refine v_puti dX7_takesPart_105 pX7_246 sh_92 rfl rfl rfl ?_
  refine v_ald0 dX7_takesPart_108 ?_
  refine v_bipushN (n := 6) dX7_takesPart_109 (by decide) ?_
  refine v_callVv (kM_settle E (wr (wr (wr Mz 100 u.length (nI (numK tp t.2.1 (t.2.2.1 - t.2.1)))) 92 16 (nI (u.length + 1))) 92 17 (nI (lv + 1))) (v := 6) (key := key) (o := o) (u := nI (numK tp t.2.1 (t.2.2.1 - t.2.1)) :: u) (lv := lv + 1) (by decide) (by simp; omega) hv (PsM_lv (PsM_add hP (Or.inl ⟨_, num_lt hl (fun j a b => hd j a (by omega)), rfl, rfl⟩)))) dX7_takesPart_111 cX7_249 rfl sh_92 rfl (by decide) (Nat.le_of_ble_eq_true rfl) rfl (fun M2z hq2 => ?_)
  rw [stL_N] at hq2
  have hF2 : FrU Mz M2z := (((((FrU.refl Mz).wo (by decide)).w92 (by decide)).w92 (by decide)).trans hq2.2)
  have hS2 := hF2.sc hS
  refine v_ald0 dX7_takesPart_114 ?_
  refine v_callVv (kM_go E M2z (hF2.tp hT) hen hS2.2.2.1 hS2.2.2.2.1) dX7_takesPart_115 cX7_231 rfl sh_92 rfl (by decide) (Nat.le_of_ble_eq_true rfl) rfl (fun M3z hq3 => ?_)
  refine v_iconstN (n := 1) dX7_takesPart_118 ?_
  exact v_zret dX7_takesPart_119 rfl (by decide +kernel) (⟨rfl, hq3.1.ps hq2.1, hq3.2, (hF2.r).nx hq3.1, by rw [hq3.1.1 102 (by decide)]; exact hF2.1 102 (by decide) (by decide) (by decide)⟩)
set_option maxRecDepth 100000 in
set_option maxHeartbeats 4000000 in
theorem kM_part1 (E : ev) (Mz : mm) {tp : Nat → Nat} {n key : Nat} {t : tok} {o : List Nat} {u : List Int32} {lv : Nat} (hT : TpM Mz tp n) (hS : ScN Mz tp t) (hse : t.2.1 ≤ t.2.2.1) (hen : t.2.2.1 ≤ n) (hkey : key < 3) (hk : Mz 92 12 = nI key) (hP : PsM Mz key o u lv) (h96 : o.length + u.length < 96) (hv : ∀ s ∈ o, vld s) (hb : t.2.1 < n) (h4 : t.1 ≤ 4) (ht : t.1 = 1) (hl : t.2.2.1 - t.2.1 = 1) (h9 : nmI key (tp t.2.1) ≠ 9) : Ct E 2 yX7_takesPart cX7_takesPart 2 (some .boolean) [.inr 92] Mz (qI E (fun r M' => r = nI 1 ∧ PsM M' key (drN o ((-1 - nI (nmI key (tp t.2.1))) :: u)).1 (drN o ((-1 - nI (nmI key (tp t.2.1))) :: u)).2 (lv + 1) ∧ ScN M' tp (nxt tp n t.2.2.1 t.2.2.2) ∧ FrR Mz M' ∧ M' 102 = Mz 102)) := by
  refine ct_of (by decide) (Nat.le_of_ble_eq_true rfl) ?_
  show V E 2 _ _ _ _ _ 0 [some (.inr 92), none] [] Mz
  have hn96 := hT.2.1
  have hb6 := (hT.2.2 _ hb).2
  have hnm := nmI_ok hkey h9
  have hloc : locN key (nmI key (tp t.2.1)) < 6 := by unfold locN; split <;> (try split) <;> omega
  refine v_ald0 dX7_takesPart_0 ?_
  refine v_geti dX7_takesPart_1 gX7_216 sh_92 rfl ?_
  refine v_eq (show Mz 92 9 = nI 1 from by rw [hS.1]; unfold tkN; rw [if_neg (by omega), ht]) ?_
  refine v_iconstN (n := 1) dX7_takesPart_4 ?_
  refine v_icmpN_ne (tgt := 36) dX7_takesPart_5 (by decide) (by omega) (by omega) (fun h5 => absurd h5 (fun q => q rfl)) (fun h5 => ?_)
  refine v_ald0 dX7_takesPart_8 ?_
  refine v_geti dX7_takesPart_9 gX7_207 sh_92 rfl ?_
  refine v_eq (hS.2.2.1) ?_
  refine v_ald0 dX7_takesPart_12 ?_
  refine v_geti dX7_takesPart_13 gX7_210 sh_92 rfl ?_
  refine v_eq (hS.2.1) ?_
  refine v_isubN dX7_takesPart_16 (hse) ?_
  refine v_iconstN (n := 1) dX7_takesPart_17 ?_
  refine v_icmpN_ne (tgt := 36) dX7_takesPart_18 (by decide) (by omega) (by omega) (fun h18 => absurd h18 (fun q => q hl)) (fun h18 => ?_)
  refine v_ald0 dX7_takesPart_21 ?_
  refine v_ald0 dX7_takesPart_22 ?_
  refine v_geti dX7_takesPart_23 gX7_222 sh_92 rfl ?_
  refine v_eq (hS.2.2.2.2.1 (Or.inl ht)) ?_
  refine v_callVi (kM_nameOf E Mz hkey hk hb6) dX7_takesPart_26 cX7_243 rfl sh_92 rfl (by decide) (Nat.le_of_ble_eq_true rfl) rfl (fun r M1z hq => ?_)
  obtain ⟨hr1, hm⟩ := hq
  rw [hr1, hm, if_neg h9]
  clear hr1 hm
  refine v_if_lt (tgt := 36) dX7_takesPart_29 (by decide) (fun h29 => absurd h29 (nI_pos (by omega))) (fun h29 => ?_)
  refine v_iconstN (n := 1) dX7_takesPart_32 ?_
  refine v_goto (tgt := 37) dX7_takesPart_33 (by decide) ?_
  refine v_ist1 dX7_takesPart_37 (by decide) ?_
  refine v_ald0 dX7_takesPart_38 ?_
  refine v_geti dX7_takesPart_39 gX7_216 sh_92 rfl ?_
  refine v_eq (show Mz 92 9 = nI 1 from by rw [hS.1]; unfold tkN; rw [if_neg (by omega), ht]) ?_
  refine v_iconstN (n := 2) dX7_takesPart_42 ?_
  refine v_icmpN_eq (tgt := 52) dX7_takesPart_43 (by decide) (by omega) (by omega) (fun h43 => absurd h43 (by decide)) (fun h43 => ?_)
  refine v_ild1 dX7_takesPart_46 ?_
  refine v_if_ne (tgt := 52) dX7_takesPart_47 (by decide) (fun h47 => ?_) (fun h47 => absurd h47 (by decide))
  refine v_ald0 dX7_takesPart_52 ?_
  refine v_getr dX7_takesPart_53 gX7_32 sh_92 rfl ?_
  refine v_ald0 dX7_takesPart_56 ?_
  refine v_geti dX7_takesPart_57 gX7_240 sh_92 rfl ?_
  refine v_eq (hP.2.2.2.1) ?_
  refine v_ald0 dX7_takesPart_60 ?_
  refine v_geti dX7_takesPart_61 gX7_216 sh_92 rfl ?_
  refine v_eq (show Mz 92 9 = nI 1 from by rw [hS.1]; unfold tkN; rw [if_neg (by omega), ht]) ?_
  refine v_iconstN (n := 2) dX7_takesPart_64 ?_
  refine v_icmpN_ne (tgt := 75) dX7_takesPart_65 (by decide) (by omega) (by omega) (fun h65 => ?_) (fun h65 => absurd h65 (by decide))
  refine v_sipushN (n := 10000) dX7_takesPart_75 (by decide +kernel) ?_
  refine v_ald0 dX7_takesPart_78 ?_
  refine v_ald0 dX7_takesPart_79 ?_
  refine v_geti dX7_takesPart_80 gX7_222 sh_92 rfl ?_
  refine v_eq (hS.2.2.2.2.1 (Or.inl ht)) ?_
  refine v_callVi (kM_nameOf E Mz hkey hk hb6) dX7_takesPart_83 cX7_243 rfl sh_92 rfl (by decide) (Nat.le_of_ble_eq_true rfl) rfl (fun r M1z hq => ?_)
  obtain ⟨hr1, hm⟩ := hq
  rw [hr1, hm, if_neg h9]
  clear hr1 hm
  refine v_iaddN dX7_takesPart_86 ?_
  refine v_iastN dX7_takesPart_87 sh_100 (by omega) (by decide) ?_
  refine v_ald0 dX7_takesPart_88 ?_
  refine v_dup dX7_takesPart_89 ?_
  refine v_geti dX7_takesPart_90 gX7_240 sh_92 rfl ?_
  refine v_eq (show wr Mz 100 u.length (nI (10000 + locN key (nmI key (tp t.2.1)))) 92 16 = nI u.length from by rw [wr_ne (by decide)]; exact hP.2.2.2.1) ?_
  refine v_iconstN (n := 1) dX7_takesPart_93 ?_
  refine v_iaddN dX7_takesPart_94 ?_
  refine v_puti dX7_takesPart_95 pX7_240 sh_92 rfl rfl rfl ?_
  refine v_ald0 dX7_takesPart_98 ?_
  refine v_dup dX7_takesPart_99 ?_
  refine v_geti dX7_takesPart_100 gX7_246 sh_92 rfl ?_
  refine v_eq (show (wr (wr Mz 100 u.length (nI (10000 + locN key (nmI key (tp t.2.1))))) 92 16 (nI (u.length + 1))) 92 17 = nI lv from by rw [wr_at, pk_un (by decide), wr_ne (by decide)]; exact hP.2.2.1) ?_
  refine v_iconstN (n := 1) dX7_takesPart_103 ?_
  refine v_iaddN dX7_takesPart_104 ?_
  refine v_puti dX7_takesPart_105 pX7_246 sh_92 rfl rfl rfl ?_
  refine v_ald0 dX7_takesPart_108 ?_
  refine v_bipushN (n := 6) dX7_takesPart_109 (by decide) ?_
  refine v_callVv (kM_settle E (wr (wr (wr Mz 100 u.length (nI (10000 + locN key (nmI key (tp t.2.1))))) 92 16 (nI (u.length + 1))) 92 17 (nI (lv + 1))) (v := 6) (key := key) (o := o) (u := (-1 - nI (nmI key (tp t.2.1))) :: u) (lv := lv + 1) (by decide) (by simp; omega) hv (PsM_lv (PsM_add hP (Or.inr (Or.inl ⟨_, hnm.1, hnm.2, rfl, rfl⟩))))) dX7_takesPart_111 cX7_249 rfl sh_92 rfl (by decide) (Nat.le_of_ble_eq_true rfl) rfl (fun M2z hq2 => ?_)
  rw [stL_N] at hq2
  have hF2 : FrU Mz M2z := (((((FrU.refl Mz).wo (by decide)).w92 (by decide)).w92 (by decide)).trans hq2.2)
  have hS2 := hF2.sc hS
  refine v_ald0 dX7_takesPart_114 ?_
  refine v_callVv (kM_go E M2z (hF2.tp hT) hen hS2.2.2.1 hS2.2.2.2.1) dX7_takesPart_115 cX7_231 rfl sh_92 rfl (by decide) (Nat.le_of_ble_eq_true rfl) rfl (fun M3z hq3 => ?_)
  refine v_iconstN (n := 1) dX7_takesPart_118 ?_
  exact v_zret dX7_takesPart_119 rfl (by decide +kernel) (⟨rfl, hq3.1.ps hq2.1, hq3.2, (hF2.r).nx hq3.1, by rw [hq3.1.1 102 (by decide)]; exact hF2.1 102 (by decide) (by decide) (by decide)⟩)
set_option maxRecDepth 100000 in
set_option maxHeartbeats 4000000 in
theorem kM_part1c (E : ev) (Mz : mm) {tp : Nat → Nat} {n key : Nat} {t : tok} {o : List Nat} {u : List Int32} {lv : Nat} (hT : TpM Mz tp n) (hS : ScN Mz tp t) (hse : t.2.1 ≤ t.2.2.1) (hen : t.2.2.1 ≤ n) (hkey : key < 3) (hk : Mz 92 12 = nI key) (hP : PsM Mz key o u lv) (h96 : o.length + u.length < 96) (hv : ∀ s ∈ o, vld s) (hb : t.2.1 < n) (h4 : t.1 ≤ 4) (ht : t.1 = 1) (hl : t.2.2.1 - t.2.1 ≠ 1) : Ct E 2 yX7_takesPart cX7_takesPart 2 (some .boolean) [.inr 92] Mz (qI E (fun r M' => r = nI 0 ∧ M' = Mz)) := by
  refine ct_of (by decide) (Nat.le_of_ble_eq_true rfl) ?_
  show V E 2 _ _ _ _ _ 0 [some (.inr 92), none] [] Mz
  have hn96 := hT.2.1
  refine v_ald0 dX7_takesPart_0 ?_
  refine v_geti dX7_takesPart_1 gX7_216 sh_92 rfl ?_
  refine v_eq (show Mz 92 9 = nI 1 from by rw [hS.1]; unfold tkN; rw [if_neg (by omega), ht]) ?_
  refine v_iconstN (n := 1) dX7_takesPart_4 ?_
  refine v_icmpN_ne (tgt := 36) dX7_takesPart_5 (by decide) (by omega) (by omega) (fun h5 => absurd h5 (fun q => q rfl)) (fun h5 => ?_)
  refine v_ald0 dX7_takesPart_8 ?_
  refine v_geti dX7_takesPart_9 gX7_207 sh_92 rfl ?_
  refine v_eq (hS.2.2.1) ?_
  refine v_ald0 dX7_takesPart_12 ?_
  refine v_geti dX7_takesPart_13 gX7_210 sh_92 rfl ?_
  refine v_eq (hS.2.1) ?_
  refine v_isubN dX7_takesPart_16 (hse) ?_
  refine v_iconstN (n := 1) dX7_takesPart_17 ?_
  refine v_icmpN_ne (tgt := 36) dX7_takesPart_18 (by decide) (by omega) (by omega) (fun h18 => ?_) (fun h18 => absurd h18 (hl))
  refine v_iconstN (n := 0) dX7_takesPart_36 ?_
  refine v_ist1 dX7_takesPart_37 (by decide) ?_
  refine v_ald0 dX7_takesPart_38 ?_
  refine v_geti dX7_takesPart_39 gX7_216 sh_92 rfl ?_
  refine v_eq (show Mz 92 9 = nI 1 from by rw [hS.1]; unfold tkN; rw [if_neg (by omega), ht]) ?_
  refine v_iconstN (n := 2) dX7_takesPart_42 ?_
  refine v_icmpN_eq (tgt := 52) dX7_takesPart_43 (by decide) (by omega) (by omega) (fun h43 => absurd h43 (by decide)) (fun h43 => ?_)
  refine v_ild1 dX7_takesPart_46 ?_
  refine v_if_ne (tgt := 52) dX7_takesPart_47 (by decide) (fun h47 => absurd h47 (fun q => q rfl)) (fun h47 => ?_)
  refine v_iconstN (n := 0) dX7_takesPart_50 ?_
  exact v_zret dX7_takesPart_51 rfl (by decide +kernel) (⟨rfl, rfl⟩)
set_option maxRecDepth 100000 in
set_option maxHeartbeats 4000000 in
theorem kM_part1b (E : ev) (Mz : mm) {tp : Nat → Nat} {n key : Nat} {t : tok} {o : List Nat} {u : List Int32} {lv : Nat} (hT : TpM Mz tp n) (hS : ScN Mz tp t) (hse : t.2.1 ≤ t.2.2.1) (hen : t.2.2.1 ≤ n) (hkey : key < 3) (hk : Mz 92 12 = nI key) (hP : PsM Mz key o u lv) (h96 : o.length + u.length < 96) (hv : ∀ s ∈ o, vld s) (hb : t.2.1 < n) (h4 : t.1 ≤ 4) (ht : t.1 = 1) (hl : t.2.2.1 - t.2.1 = 1) (h9 : nmI key (tp t.2.1) = 9) : Ct E 2 yX7_takesPart cX7_takesPart 2 (some .boolean) [.inr 92] Mz (qI E (fun r M' => r = nI 0 ∧ M' = Mz)) := by
  refine ct_of (by decide) (Nat.le_of_ble_eq_true rfl) ?_
  show V E 2 _ _ _ _ _ 0 [some (.inr 92), none] [] Mz
  have hn96 := hT.2.1
  have hb6 := (hT.2.2 _ hb).2
  refine v_ald0 dX7_takesPart_0 ?_
  refine v_geti dX7_takesPart_1 gX7_216 sh_92 rfl ?_
  refine v_eq (show Mz 92 9 = nI 1 from by rw [hS.1]; unfold tkN; rw [if_neg (by omega), ht]) ?_
  refine v_iconstN (n := 1) dX7_takesPart_4 ?_
  refine v_icmpN_ne (tgt := 36) dX7_takesPart_5 (by decide) (by omega) (by omega) (fun h5 => absurd h5 (fun q => q rfl)) (fun h5 => ?_)
  refine v_ald0 dX7_takesPart_8 ?_
  refine v_geti dX7_takesPart_9 gX7_207 sh_92 rfl ?_
  refine v_eq (hS.2.2.1) ?_
  refine v_ald0 dX7_takesPart_12 ?_
  refine v_geti dX7_takesPart_13 gX7_210 sh_92 rfl ?_
  refine v_eq (hS.2.1) ?_
  refine v_isubN dX7_takesPart_16 (hse) ?_
  refine v_iconstN (n := 1) dX7_takesPart_17 ?_
  refine v_icmpN_ne (tgt := 36) dX7_takesPart_18 (by decide) (by omega) (by omega) (fun h18 => absurd h18 (fun q => q hl)) (fun h18 => ?_)
  refine v_ald0 dX7_takesPart_21 ?_
  refine v_ald0 dX7_takesPart_22 ?_
  refine v_geti dX7_takesPart_23 gX7_222 sh_92 rfl ?_
  refine v_eq (hS.2.2.2.2.1 (Or.inl ht)) ?_
  refine v_callVi (kM_nameOf E Mz hkey hk hb6) dX7_takesPart_26 cX7_243 rfl sh_92 rfl (by decide) (Nat.le_of_ble_eq_true rfl) rfl (fun r M1z hq => ?_)
  obtain ⟨hr1, hm⟩ := hq
  rw [hr1, hm, if_pos h9]
  clear hr1 hm
  refine v_if_lt (tgt := 36) dX7_takesPart_29 (by decide) (fun h29 => ?_) (fun h29 => absurd h29 (fun q => q (by decide)))
  refine v_iconstN (n := 0) dX7_takesPart_36 ?_
  refine v_ist1 dX7_takesPart_37 (by decide) ?_
  refine v_ald0 dX7_takesPart_38 ?_
  refine v_geti dX7_takesPart_39 gX7_216 sh_92 rfl ?_
  refine v_eq (show Mz 92 9 = nI 1 from by rw [hS.1]; unfold tkN; rw [if_neg (by omega), ht]) ?_
  refine v_iconstN (n := 2) dX7_takesPart_42 ?_
  refine v_icmpN_eq (tgt := 52) dX7_takesPart_43 (by decide) (by omega) (by omega) (fun h43 => absurd h43 (by decide)) (fun h43 => ?_)
  refine v_ild1 dX7_takesPart_46 ?_
  refine v_if_ne (tgt := 52) dX7_takesPart_47 (by decide) (fun h47 => absurd h47 (fun q => q rfl)) (fun h47 => ?_)
  refine v_iconstN (n := 0) dX7_takesPart_50 ?_
  exact v_zret dX7_takesPart_51 rfl (by decide +kernel) (⟨rfl, rfl⟩)
set_option maxRecDepth 100000 in
set_option maxHeartbeats 4000000 in
theorem kM_part0 (E : ev) (Mz : mm) {tp : Nat → Nat} {t : tok} (hS : ScN Mz tp t) (h4 : t.1 ≤ 4) (n1 : tkN t ≠ 1) (n2 : tkN t ≠ 2) : Ct E 2 yX7_takesPart cX7_takesPart 2 (some .boolean) [.inr 92] Mz (qI E (fun r M' => r = nI 0 ∧ M' = Mz)) := by
  refine ct_of (by decide) (Nat.le_of_ble_eq_true rfl) ?_
  show V E 2 _ _ _ _ _ 0 [some (.inr 92), none] [] Mz
  have htk4 : tkN t ≤ 4 := by unfold tkN; split <;> omega
  refine v_ald0 dX7_takesPart_0 ?_
  refine v_geti dX7_takesPart_1 gX7_216 sh_92 rfl ?_
  refine v_eq (hS.1) ?_
  refine v_iconstN (n := 1) dX7_takesPart_4 ?_
  refine v_icmpN_ne (tgt := 36) dX7_takesPart_5 (by decide) (by omega) (by omega) (fun h5 => ?_) (fun h5 => absurd h5 (n1))
  refine v_iconstN (n := 0) dX7_takesPart_36 ?_
  refine v_ist1 dX7_takesPart_37 (by decide) ?_
  refine v_ald0 dX7_takesPart_38 ?_
  refine v_geti dX7_takesPart_39 gX7_216 sh_92 rfl ?_
  refine v_eq (hS.1) ?_
  refine v_iconstN (n := 2) dX7_takesPart_42 ?_
  refine v_icmpN_eq (tgt := 52) dX7_takesPart_43 (by decide) (by omega) (by omega) (fun h43 => absurd h43 (n2)) (fun h43 => ?_)
  refine v_ild1 dX7_takesPart_46 ?_
  refine v_if_ne (tgt := 52) dX7_takesPart_47 (by decide) (fun h47 => absurd h47 (fun q => q rfl)) (fun h47 => ?_)
  refine v_iconstN (n := 0) dX7_takesPart_50 ?_
  exact v_zret dX7_takesPart_51 rfl (by decide +kernel) (⟨rfl, rfl⟩)
