/-! one more of people -/
def stS (v : fl) (n : Nat) (k p t : Int32) : fl := fun i => if i = 1 then nI n + nI 1 else if i = 19 + 10 * n then k else if i = 20 + 10 * n then p else if i = 21 + 10 * n then t else if 22 + 10 * n ≤ i ∧ i < 29 + 10 * n then nI 0 else v i
def zM (M : mm) (c n : Nat) : Nat → mm
  | 0 => M
  | f + 1 => wr (zM M c n f) (c + 5) (n * 6 + f) (nI 0)
def zT (u : fl) (a : Nat) : Nat → fl
  | 0 => u
  | f + 1 => upd (zT u a f) (a + f) (nI 0)
def zA (M : mm) (a : Nat) : Nat → mm
  | 0 => M
  | f + 1 => wr (zA M a f) 93 (a + f) (nI 0)
theorem zT_at (u : fl) (a : Nat) : ∀ f i, zT u a f i = if a ≤ i ∧ i < a + f then nI 0 else u i
  | 0, i => by rw [if_neg (by omega)]; rfl
  | f + 1, i => by
    unfold zT
    by_cases e : i = a + f
    · subst e; rw [pk_us, if_pos (by omega)]
    · rw [pk_un e, zT_at u a f i]
      by_cases h : a ≤ i ∧ i < a + f
      · rw [if_pos h, if_pos (by omega)]
      · rw [if_neg h, if_neg (by omega)]
theorem cv_zM {M : mm} {c n : Nat} (hn : n < 8) : ∀ f, f ≤ 6 → cv (zM M c n f) c = zT (cv M c) (23 + 10 * n) f
  | 0, _ => rfl
  | f + 1, hf => by
    unfold zM zT
    rw [cv_uth hn (by omega), cv_zM hn f (by omega)]
theorem mv_zA {M : mm} {a : Nat} : ∀ f, a + f ≤ 99 → mv (zA M a f) = zT (mv M) a f
  | 0, _ => rfl
  | f + 1, hf => by
    unfold zA zT
    rw [mv_u (by omega), mv_zA f (by omega)]
theorem zM_ne {M : mm} {c n b : Nat} (h : b ≠ c + 5) : ∀ f, zM M c n f b = M b
  | 0 => rfl
  | f + 1 => by unfold zM; rw [wr_ne h]; exact zM_ne h f
theorem FrC.zM (M : mm) (c n : Nat) (f : Nat) : FrC c M (zM M c n f) := fun a h _ _ => zM_ne (by omega) f
theorem FrM.zA (M : mm) (a : Nat) : ∀ f, a + f ≤ 99 → FrM M (zA M a f)
  | 0, _ => FrM.rf M
  | f + 1, hf => (FrM.zA M a f (by omega)).tr (FrM.w _ (by omega))
theorem st_c {v : fl} {n : Nat} {k p t : Int32} : upd (zT (upd (upd (upd (upd v (19 + 10 * n) k) (20 + 10 * n) p) (21 + 10 * n) t) (22 + 10 * n) (nI 0)) (23 + 10 * n) 6) 1 (nI n + nI 1) = stS v n k p t := by
  funext i
  simp only [upd, zT_at, stS]
  rcases (show i = 1 ∨ i = 19 + 10 * n ∨ i = 20 + 10 * n ∨ i = 21 + 10 * n ∨ i = 22 + 10 * n ∨ (23 + 10 * n ≤ i ∧ i < 29 + 10 * n) ∨ (i ≠ 1 ∧ (i < 19 + 10 * n ∨ 29 + 10 * n ≤ i)) by omega) with h | h | h | h | h | h | h <;> (repeat (first | rw [if_pos (by omega)] | rw [if_neg (by omega)]))
theorem st_m {v : fl} {n : Nat} {k p t : Int32} : upd (upd (upd (zT (upd v 1 (nI n + nI 1)) (19 + 10 * n) 10) (19 + 10 * n) k) (20 + 10 * n) p) (21 + 10 * n) t = stS v n k p t := by
  funext i
  simp only [upd, zT_at, stS]
  rcases (show i = 1 ∨ i = 19 + 10 * n ∨ i = 20 + 10 * n ∨ i = 21 + 10 * n ∨ i = 22 + 10 * n ∨ (23 + 10 * n ≤ i ∧ i < 29 + 10 * n) ∨ (i ≠ 1 ∧ (i < 19 + 10 * n ∨ 29 + 10 * n ≤ i)) by omega) with h | h | h | h | h | h | h <;> (repeat (first | rw [if_pos (by omega)] | rw [if_neg (by omega)]))
theorem rg_pos (i : Nat) : 0 < rg i := by
  unfold rg
  split
  · decide
  · split
    · decide
    · split
      · decide
      · split
        · decide
        · split
          · decide
          · split <;> decide
theorem st_ok {v : fl} {W : Nat} (hI : CI v W) (h8 : pn v < 8) {k p t : Int32} (hk : inR k 6) (hp : inR p 8) (ht : inR t 10) : CI (stS v (pn v) k p t) W := by
  rw [← st_m]
  have z : ∀ f, f ≤ 10 → CI (zT (upd v 1 (nI (pn v) + nI 1)) (19 + 10 * pn v) f) W := by
    intro f
    induction f with
    | zero => exact fun _ => CI_upd hI (by decide) (by decide) (by decide) ⟨pn v + 1, by show pn v + 1 < 9; omega, nI_add _ _⟩
    | succ f ih => exact fun hf => CI_upd (ih (by omega)) (by omega) (by omega) (by omega) ⟨0, rg_pos _, rfl⟩
  refine CI_upd (CI_upd (CI_upd (z 10 (by decide)) (by omega) (by omega) (by omega) ?_) (by omega) (by omega) (by omega) ?_) (by omega) (by omega) (by omega) ?_
  · rw [show rg (19 + 10 * pn v) = 6 from by unfold rg; rw [if_neg (by omega), if_neg (by omega), if_pos (by omega)]]; exact hk
  · rw [show rg (20 + 10 * pn v) = 8 from by unfold rg; rw [if_neg (by omega), if_neg (by omega), if_neg (by omega), if_pos (by omega)]]; exact hp
  · rw [show rg (21 + 10 * pn v) = 10 from by unfold rg; rw [if_neg (by omega), if_neg (by omega), if_neg (by omega), if_neg (by omega), if_pos (by omega)]]; exact ht
def lotS (v : fl) : fl := stS (upd v 0 (drw (drw (drw (v 0))))) (pn v) (nI (dN (v 0) % 6)) (nI (dN (drw (v 0)) % 8)) (nI (dN (drw (drw (v 0))) % 10))
def dlK (v : fl) : Nat → fl
  | 0 => v
  | k + 1 => lotS (dlK v k)
theorem dl_ok {v : fl} {W : Nat} (hI : CI v W) : ∀ k, pn v + k ≤ 8 → CI (dlK v k) W ∧ pn (dlK v k) = pn v + k
  | 0, _ => ⟨hI, rfl⟩
  | k + 1, hk => by
    obtain ⟨h1, h2⟩ := dl_ok hI k (by omega)
    have h0 : CI (upd (dlK v k) 0 (drw (drw (drw (dlK v k 0))))) W := CI_upd0 h1 (Or.inl rfl)
    have hp0 : pn (upd (dlK v k) 0 (drw (drw (drw (dlK v k 0))))) = pn (dlK v k) := by show (upd _ 0 _ 1).toNatClampNeg = _; rw [pk_un (by decide)]; rfl
    have := st_ok h0 (by rw [hp0, h2]; omega) (inR_nI (Nat.mod_lt (dN (dlK v k 0)) (by decide))) (inR_nI (Nat.mod_lt (dN (drw (dlK v k 0))) (by decide))) (inR_nI (Nat.mod_lt (dN (drw (drw (dlK v k 0)))) (by decide)))
    rw [hp0] at this
    refine ⟨this, ?_⟩
    show (lotS (dlK v k) 1).toNatClampNeg = _
    unfold lotS stS
    rw [if_pos rfl, nI_add, nI_clamp (by omega), h2]
    omega
set_option maxRecDepth 100000 in
set_option maxHeartbeats 4000000 in
theorem kC_settle (E : ev) (Mz : mm) {c : Nat} {k p t : Int32} {W : Nat} (hc : CB c) (hI : CI (cv Mz c) W) (h8 : pn (cv Mz c) < 8) : Ct E 1 yX0_settle cX0_settle 5 none [.inr c, .inl k, .inl p, .inl t] Mz (qV E (fun M' => cv M' c = stS (cv Mz c) (pn (cv Mz c)) k p t ∧ FrC c Mz M')) := by
  refine ct_of (by decide) (Nat.le_of_ble_eq_true rfl) ?_
  show V E 1 _ _ _ _ _ 0 [some (.inr c), some (.inl k), some (.inl p), some (.inl t), none] [] Mz
  have hpe : Mz c 1 = nI (pn (cv Mz c)) := hI.pn.1
  refine v_ald0 dX0_settle_0 ?_
  refine v_getr dX0_settle_1 gX0_9 (shC hc) rfl ?_
  refine v_ald0 dX0_settle_4 ?_
  refine v_geti dX0_settle_5 gX0_44 (shC hc) rfl ?_
  refine v_eq (hpe) ?_
  refine v_ild1 dX0_settle_8 ?_
  refine v_iastN dX0_settle_9 (shC1 hc) (by omega) (by decide) ?_
  refine v_ald0 dX0_settle_10 ?_
  refine v_getr dX0_settle_11 gX0_15 (shC hc) rfl ?_
  refine v_ald0 dX0_settle_14 ?_
  refine v_geti dX0_settle_15 gX0_44 (shC hc) rfl ?_
  refine v_eq (show _ = nI (pn (cv Mz c)) from by rw [wr_ne (by omega)]; exact hpe) ?_
  refine v_ild2 dX0_settle_18 ?_
  refine v_iastN dX0_settle_19 (shC2 hc) (by omega) (by decide) ?_
  refine v_ald0 dX0_settle_20 ?_
  refine v_getr dX0_settle_21 gX0_18 (shC hc) rfl ?_
  refine v_ald0 dX0_settle_24 ?_
  refine v_geti dX0_settle_25 gX0_44 (shC hc) rfl ?_
  refine v_eq (show _ = nI (pn (cv Mz c)) from by rw [wr_ne (by omega), wr_ne (by omega)]; exact hpe) ?_
  refine v_ild3 dX0_settle_28 ?_
  refine v_iastN dX0_settle_29 (shC3 hc) (by omega) (by decide) ?_
  refine v_ald0 dX0_settle_30 ?_
  refine v_getr dX0_settle_31 gX0_21 (shC hc) rfl ?_
  refine v_ald0 dX0_settle_34 ?_
  refine v_geti dX0_settle_35 gX0_44 (shC hc) rfl ?_
  refine v_eq (show _ = nI (pn (cv Mz c)) from by rw [wr_ne (by omega), wr_ne (by omega), wr_ne (by omega)]; exact hpe) ?_
  refine v_iconstN (n := 0) dX0_settle_38 ?_
  refine v_iastN dX0_settle_39 (shC4 hc) (by omega) (by decide) ?_
  refine v_iconstN (n := 0) dX0_settle_40 ?_
  refine v_ist4 dX0_settle_41 (by decide) ?_
  refine v_loop (pc := 43) (fun j => [some (.inr c), some (.inl k), some (.inl p), some (.inl t), some (.inl (nI j))]) (fun j => zM (wr (wr (wr (wr Mz (c + 1) (pn (cv Mz c)) k) (c + 2) (pn (cv Mz c)) p) (c + 3) (pn (cv Mz c)) t) (c + 4) (pn (cv Mz c)) (nI 0)) c (pn (cv Mz c)) j) (6) (rfl) (rfl) (fun j hj ih => ?_) ?_
  · refine v_ild4 dX0_settle_43 ?_
    refine v_bipushN (n := 6) dX0_settle_45 (by decide) ?_
    refine v_icmpN_ge (tgt := 67) dX0_settle_47 (by decide) (by omega) (by omega) (fun h47 => absurd h47 (by omega)) (fun h47 => ?_)
    refine v_ald0 dX0_settle_50 ?_
    refine v_ald0 dX0_settle_51 ?_
    refine v_geti dX0_settle_52 gX0_44 (shC hc) rfl ?_
    refine v_eq (show _ = nI (pn (cv Mz c)) from by rw [zM_ne (by omega), wr_ne (by omega), wr_ne (by omega), wr_ne (by omega), wr_ne (by omega)]; exact hpe) ?_
    refine v_ild4 dX0_settle_55 ?_
    refine v_iconstN (n := 0) dX0_settle_57 ?_
    refine v_callVv (kC_think E _ hc h8 (by omega)) dX0_settle_58 cX0_68 rfl (shC hc) rfl (by decide) (Nat.le_of_ble_eq_true rfl) rfl (fun M1z hq => ?_)
    rw [hq]
    clear hq
    refine v_iincN4 (n := 1) dX0_settle_61 (by decide) ?_
    refine v_goto (tgt := 43) dX0_settle_64 (by decide) ?_
    exact ih
  · refine v_ild4 dX0_settle_43 ?_
    refine v_bipushN (n := 6) dX0_settle_45 (by decide) ?_
    refine v_icmpN_ge (tgt := 67) dX0_settle_47 (by decide) (by omega) (by omega) (fun h47 => ?_) (fun h47 => absurd h47 (by omega))
    refine v_ald0 dX0_settle_67 ?_
    refine v_dup dX0_settle_68 ?_
    refine v_geti dX0_settle_69 gX0_44 (shC hc) rfl ?_
    refine v_eq (show _ = nI (pn (cv Mz c)) from by rw [zM_ne (by omega), wr_ne (by omega), wr_ne (by omega), wr_ne (by omega), wr_ne (by omega)]; exact hpe) ?_
    refine v_iconstN (n := 1) dX0_settle_72 ?_
    refine v_iaddN dX0_settle_73 ?_
    refine v_puti dX0_settle_74 pX0_44 (shC hc) rfl rfl rfl ?_
    exact v_vret dX0_settle_77 rfl (⟨by rw [← nI_add, cv_upe, cv_zM h8 6 (by decide), cv_usu h8, cv_utr h8, cv_upl h8, cv_ukd h8]; exact st_c, (((((FrC.w Mz (by omega)).tr (FrC.w _ (by omega))).tr (FrC.w _ (by omega))).tr (FrC.w _ (by omega))).tr (FrC.zM _ c _ 6)).tr (FrC.w _ (by omega))⟩)
set_option maxRecDepth 100000 in
set_option maxHeartbeats 4000000 in
theorem kC_settleByLot (E : ev) (Mz : mm) {c W : Nat} (hc : CB c) (hI : CI (cv Mz c) W) (h8 : pn (cv Mz c) < 8) : Ct E 2 yX0_settleByLot cX0_settleByLot 4 none [.inr c] Mz (qV E (fun M' => cv M' c = lotS (cv Mz c) ∧ FrC c Mz M')) := by
  refine ct_of (by decide) (Nat.le_of_ble_eq_true rfl) ?_
  show V E 2 _ _ _ _ _ 0 [some (.inr c), none, none, none] [] Mz
  have hd1 := dN_lt (cv Mz c 0)
  have hd2 := dN_lt (drw (cv Mz c 0))
  have hd3 := dN_lt (drw (drw (cv Mz c 0)))
  refine v_ald0 dX0_settleByLot_0 ?_
  refine v_callVi (kC_draw E Mz hc) dX0_settleByLot_1 cX0_72 rfl (shC hc) rfl (by decide) (Nat.le_of_ble_eq_true rfl) rfl (fun r M1z hq => ?_)
  obtain ⟨hr, hm⟩ := hq
  rw [hr, hm]
  clear hr hm
  refine v_bipushN (n := 6) dX0_settleByLot_4 (by decide) ?_
  refine v_iremN dX0_settleByLot_6 (by omega) (by omega) (by omega) ?_
  refine v_ist1 dX0_settleByLot_7 (by decide) ?_
  refine v_ald0 dX0_settleByLot_8 ?_
  refine v_callVi (kC_draw E _ hc) dX0_settleByLot_9 cX0_72 rfl (shC hc) rfl (by decide) (Nat.le_of_ble_eq_true rfl) rfl (fun r M1z hq => ?_)
  obtain ⟨hr, hm⟩ := hq
  rw [hr, hm, cv_uz, pk_us]
  clear hr hm
  refine v_bipushN (n := 8) dX0_settleByLot_12 (by decide) ?_
  refine v_iremN dX0_settleByLot_14 (by omega) (by omega) (by omega) ?_
  refine v_ist2 dX0_settleByLot_15 (by decide) ?_
  refine v_ald0 dX0_settleByLot_16 ?_
  refine v_callVi (kC_draw E _ hc) dX0_settleByLot_17 cX0_72 rfl (shC hc) rfl (by decide) (Nat.le_of_ble_eq_true rfl) rfl (fun r M1z hq => ?_)
  obtain ⟨hr, hm⟩ := hq
  rw [hr, hm, cv_uz, pk_us]
  clear hr hm
  refine v_bipushN (n := 10) dX0_settleByLot_20 (by decide) ?_
  refine v_iremN dX0_settleByLot_22 (by omega) (by omega) (by omega) ?_
  refine v_ist3 dX0_settleByLot_23 (by decide) ?_
  have hcz : cv (wr (wr (wr Mz c 13 (drw (cv Mz c 0))) c 13 (drw (drw (cv Mz c 0)))) c 13 (drw (drw (drw (cv Mz c 0))))) c = upd (cv Mz c) 0 (drw (drw (drw (cv Mz c 0)))) := by rw [cv_uz, cv_uz, cv_uz, upd_same, upd_same]
  have hpz : pn (upd (cv Mz c) 0 (drw (drw (drw (cv Mz c 0))))) = pn (cv Mz c) := by show (upd _ 0 _ 1).toNatClampNeg = _; rw [pk_un (by decide)]; rfl
  refine v_ald0 dX0_settleByLot_24 ?_
  refine v_ild1 dX0_settleByLot_25 ?_
  refine v_ild2 dX0_settleByLot_26 ?_
  refine v_ild3 dX0_settleByLot_27 ?_
  refine v_callVv (kC_settle E _ (W := W) hc (by rw [hcz]; exact CI_upd0 hI (Or.inl rfl)) (by rw [hcz, hpz]; exact h8)) dX0_settleByLot_28 cX0_76 rfl (shC hc) rfl (by decide) (Nat.le_of_ble_eq_true rfl) rfl (fun M3z hq3 => ?_)
  exact v_vret dX0_settleByLot_31 rfl (⟨by rw [hq3.1, hcz, hpz]; rfl, (((FrC.w Mz (by omega)).tr (FrC.w _ (by omega))).tr (FrC.w _ (by omega))).tr hq3.2⟩)
set_option maxRecDepth 100000 in
set_option maxHeartbeats 4000000 in
theorem kM_comes (E : ev) (Mz : mm) {k p t : Int32} {W : Nat} (hI : CI (mv Mz) W) (h8 : pn (mv Mz) < 8) : Ct E 1 yX7_comes cX7_comes 6 (some .int) [.inr 92, .inl k, .inl p, .inl t] Mz (qI E (fun r M' => r = mv Mz 1 ∧ mv M' = stS (mv Mz) (pn (mv Mz)) k p t ∧ FrM Mz M')) := by
  refine ct_of (by decide) (Nat.le_of_ble_eq_true rfl) ?_
  show V E 1 _ _ _ _ _ 0 [some (.inr 92), some (.inl k), some (.inl p), some (.inl t), none, none] [] Mz
  have hpe : Mz 93 1 = nI (pn (mv Mz)) := hI.pn.1
  refine v_ald0 dX7_comes_0 ?_
  refine v_getr dX7_comes_1 gX7_9 sh_92 rfl ?_
  refine v_iconstN (n := 1) dX7_comes_4 ?_
  refine v_ialdN dX7_comes_5 sh_93 (by omega) (by decide) ?_
  refine v_eq (hpe) ?_
  refine v_ist4 dX7_comes_6 (by decide) ?_
  refine v_ald0 dX7_comes_8 ?_
  refine v_getr dX7_comes_9 gX7_9 sh_92 rfl ?_
  refine v_iconstN (n := 1) dX7_comes_12 ?_
  refine v_dup2 dX7_comes_13 ?_
  refine v_ialdN dX7_comes_14 sh_93 (by omega) (by decide) ?_
  refine v_eq (hpe) ?_
  refine v_iconstN (n := 1) dX7_comes_15 ?_
  refine v_iaddN dX7_comes_16 ?_
  refine v_iastN dX7_comes_17 sh_93 (by omega) (by decide) ?_
  refine v_iconstN (n := 0) dX7_comes_18 ?_
  refine v_ist5 dX7_comes_19 (by decide) ?_
  refine v_loop (pc := 21) (fun j => [some (.inr 92), some (.inl k), some (.inl p), some (.inl t), some (.inl (nI (pn (mv Mz)))), some (.inl (nI j))]) (fun j => zA (wr Mz 93 1 (nI (pn (mv Mz)) + nI 1)) (19 + 10 * (pn (mv Mz))) j) (10) (rfl) (by rw [← nI_add]; rfl) (fun j hj ih => ?_) ?_
  · refine v_ild5 dX7_comes_21 ?_
    refine v_bipushN (n := 10) dX7_comes_23 (by decide) ?_
    refine v_icmpN_ge (tgt := 43) dX7_comes_25 (by decide) (by omega) (by omega) (fun h25 => absurd h25 (by omega)) (fun h25 => ?_)
    refine v_ald0 dX7_comes_28 ?_
    refine v_ild4 dX7_comes_29 ?_
    refine v_ild5 dX7_comes_31 ?_
    refine v_iconstN (n := 0) dX7_comes_33 ?_
    refine v_callVv (kM_put E _ h8 (by omega)) dX7_comes_34 cX7_115 rfl sh_92 rfl (by decide) (Nat.le_of_ble_eq_true rfl) rfl (fun M1z hq => ?_)
    rw [hq]
    clear hq
    refine v_iincN5 (n := 1) dX7_comes_37 (by decide) ?_
    refine v_goto (tgt := 21) dX7_comes_40 (by decide) ?_
    exact ih
  · refine v_ild5 dX7_comes_21 ?_
    refine v_bipushN (n := 10) dX7_comes_23 (by decide) ?_
    refine v_icmpN_ge (tgt := 43) dX7_comes_25 (by decide) (by omega) (by omega) (fun h25 => ?_) (fun h25 => absurd h25 (by omega))
    refine v_ald0 dX7_comes_43 ?_
    refine v_ild4 dX7_comes_44 ?_
    refine v_iconstN (n := 0) dX7_comes_46 ?_
    refine v_ild1 dX7_comes_47 ?_
    refine v_callVv (kM_put E _ h8 (by omega)) dX7_comes_48 cX7_115 rfl sh_92 rfl (by decide) (Nat.le_of_ble_eq_true rfl) rfl (fun M1z hq => ?_)
    rw [hq]
    clear hq
    refine v_ald0 dX7_comes_51 ?_
    refine v_ild4 dX7_comes_52 ?_
    refine v_iconstN (n := 1) dX7_comes_54 ?_
    refine v_ild2 dX7_comes_55 ?_
    refine v_callVv (kM_put E _ h8 (by omega)) dX7_comes_56 cX7_115 rfl sh_92 rfl (by decide) (Nat.le_of_ble_eq_true rfl) rfl (fun M1z hq => ?_)
    rw [hq]
    clear hq
    refine v_ald0 dX7_comes_59 ?_
    refine v_ild4 dX7_comes_60 ?_
    refine v_iconstN (n := 2) dX7_comes_62 ?_
    refine v_ild3 dX7_comes_63 ?_
    refine v_callVv (kM_put E _ h8 (by omega)) dX7_comes_64 cX7_115 rfl sh_92 rfl (by decide) (Nat.le_of_ble_eq_true rfl) rfl (fun M1z hq => ?_)
    rw [hq]
    clear hq
    refine v_ild4 dX7_comes_67 ?_
    exact v_iret dX7_comes_69 rfl (⟨hpe.symm, by rw [mv_u (by omega), mv_u (by omega), mv_u (by omega), mv_zA 10 (by omega), mv_u (by decide), show 19 + 10 * (pn (mv Mz)) + 0 = 19 + 10 * (pn (mv Mz)) from rfl, show 19 + 10 * (pn (mv Mz)) + 1 = 20 + 10 * (pn (mv Mz)) by omega, show 19 + 10 * (pn (mv Mz)) + 2 = 21 + 10 * (pn (mv Mz)) by omega]; exact st_m, ((((FrM.w Mz (by decide)).tr (FrM.zA _ _ 10 (by omega))).tr (FrM.w _ (by omega))).tr (FrM.w _ (by omega))).tr (FrM.w _ (by omega))⟩)
def gPer (k p t : Int32) : Bool := isF k && inB p (nI 0) (nI 7) && inB t (nI 0) (nI 9)
def R_person (v : fl) (k p t : Int32) : Int32 := if gPer k p t = true then (if pn v < 8 then v 1 else cFULL) else cBAD
def F_person (v : fl) (k p t : Int32) : fl := if gPer k p t = true then (if pn v < 8 then stS v (pn v) k p t else v) else v
set_option maxRecDepth 100000 in
set_option maxHeartbeats 4000000 in
theorem aX_person (E : ev) (Mz : mm) {k p t : Int32} {W : Nat} (hI : CI (cv Mz 38) W) : Ct E 2 yX6_person cX6_person 4 (some .int) [.inr 0, .inl k, .inl p, .inl t] Mz (qI E (fun r M' => r = R_person (cv Mz 38) k p t ∧ cv M' 38 = F_person (cv Mz 38) k p t ∧ FrC 38 Mz M')) := by
  refine ct_of (by decide) (Nat.le_of_ble_eq_true rfl) ?_
  show V E 2 _ _ _ _ _ 0 [some (.inr 0), some (.inl k), some (.inl p), some (.inl t)] [] Mz
  have hp8 := hI.pn.2
  refine v_ild1 dX6_person_0 ?_
  refine v_callSi (kX_noKind E _) dX6_person_1 cX6_59 rfl (by decide) (Nat.le_of_ble_eq_true rfl) rfl (fun r M1z hq => ?_)
  obtain ⟨hr, hm⟩ := hq
  rw [hr, hm]
  clear hr hm
  refine v_if_ne (tgt := 27) dX6_person_4 (by decide) (fun h4 => ?_) (fun h4 => ?_)
  · refine v_ldc dX6_person_27 kX6_67 ?_
    exact v_iret dX6_person_29 rfl (⟨by unfold R_person; rw [if_neg (by simp [gPer, show isF k = false from nb1 h4])], by unfold F_person; rw [if_neg (by simp [gPer, show isF k = false from nb1 h4])], FrC.rf 38 Mz⟩)
  · refine v_ild2 dX6_person_7 ?_
    refine v_iconstN (n := 0) dX6_person_8 ?_
    refine v_bipushN (n := 7) dX6_person_9 (by decide) ?_
    refine v_callSi (kX_outside E _) dX6_person_11 cX6_63 rfl (by decide) (Nat.le_of_ble_eq_true rfl) rfl (fun r M1z hq => ?_)
    obtain ⟨hr, hm⟩ := hq
    rw [hr, hm]
    clear hr hm
    refine v_if_ne (tgt := 27) dX6_person_14 (by decide) (fun h14 => ?_) (fun h14 => ?_)
    · refine v_ldc dX6_person_27 kX6_67 ?_
      exact v_iret dX6_person_29 rfl (⟨by unfold R_person; rw [if_neg (by simp [gPer, show isF k = true from nb0 h4, nb1 h14])], by unfold F_person; rw [if_neg (by simp [gPer, show isF k = true from nb0 h4, nb1 h14])], FrC.rf 38 Mz⟩)
    · refine v_ild3 dX6_person_17 ?_
      refine v_iconstN (n := 0) dX6_person_18 ?_
      refine v_bipushN (n := 9) dX6_person_19 (by decide) ?_
      refine v_callSi (kX_outside E _) dX6_person_21 cX6_63 rfl (by decide) (Nat.le_of_ble_eq_true rfl) rfl (fun r M1z hq => ?_)
      obtain ⟨hr, hm⟩ := hq
      rw [hr, hm]
      clear hr hm
      refine v_if_eq (tgt := 30) dX6_person_24 (by decide) (fun h24 => ?_) (fun h24 => ?_)
      · refine v_ald0 dX6_person_30 ?_
        refine v_getr dX6_person_31 gX6_28 sh_0 rfl ?_
        refine v_geti dX6_person_34 gX6_68 sh_38 rfl ?_
        refine v_eq (hI.pn.1) ?_
        refine v_bipushN (n := 8) dX6_person_37 (by decide) ?_
        refine v_icmpN_lt (tgt := 45) dX6_person_39 (by decide) (by omega) (by omega) (fun h39 => ?_) (fun h39 => ?_)
        · refine v_ald0 dX6_person_45 ?_
          refine v_getr dX6_person_46 gX6_28 sh_0 rfl ?_
          refine v_ild1 dX6_person_49 ?_
          refine v_ild2 dX6_person_50 ?_
          refine v_ild3 dX6_person_51 ?_
          refine v_callVv (kC_settle E Mz CB.now hI h39) dX6_person_52 cX6_73 rfl sh_38 rfl (by decide) (Nat.le_of_ble_eq_true rfl) rfl (fun M3z hq3 => ?_)
          refine v_ald0 dX6_person_55 ?_
          refine v_getr dX6_person_56 gX6_28 sh_0 rfl ?_
          refine v_geti dX6_person_59 gX6_68 sh_38 rfl ?_
          refine v_iconstN (n := 1) dX6_person_62 ?_
          refine v_isub dX6_person_63 ?_
          exact v_iret dX6_person_64 rfl (⟨by unfold R_person; rw [if_pos (by simp [gPer, show isF k = true from nb0 h4, nb0 h14, nb0 h24]), if_pos h39]; show cv M3z 38 1 - nI 1 = _; rw [hq3.1]; unfold stS; rw [if_pos rfl, hI.pn.1, nI_add]; exact nI_pred _, by unfold F_person; rw [if_pos (by simp [gPer, show isF k = true from nb0 h4, nb0 h14, nb0 h24]), if_pos h39]; exact hq3.1, hq3.2⟩)
        · refine v_ldc dX6_person_42 kX6_72 ?_
          exact v_iret dX6_person_44 rfl (⟨by unfold R_person; rw [if_pos (by simp [gPer, show isF k = true from nb0 h4, nb0 h14, nb0 h24]), if_neg (by omega)], by unfold F_person; rw [if_pos (by simp [gPer, show isF k = true from nb0 h4, nb0 h14, nb0 h24]), if_neg (by omega)], FrC.rf 38 Mz⟩)
      · refine v_ldc dX6_person_27 kX6_67 ?_
        exact v_iret dX6_person_29 rfl (⟨by unfold R_person; rw [if_neg (by simp [gPer, show isF k = true from nb0 h4, nb0 h14, nb1 h24])], by unfold F_person; rw [if_neg (by simp [gPer, show isF k = true from nb0 h4, nb0 h14, nb1 h24])], FrC.rf 38 Mz⟩)
set_option maxRecDepth 100000 in
set_option maxHeartbeats 4000000 in
theorem aM_person (E : ev) (Mz : mm) {k p t : Int32} {W : Nat} (hI : CI (mv Mz) W) : Ct E 2 yX7_person cX7_person 4 (some .int) [.inr 92, .inl k, .inl p, .inl t] Mz (qI E (fun r M' => r = R_person (mv Mz) k p t ∧ mv M' = F_person (mv Mz) k p t ∧ FrM Mz M')) := by
  refine ct_of (by decide) (Nat.le_of_ble_eq_true rfl) ?_
  show V E 2 _ _ _ _ _ 0 [some (.inr 92), some (.inl k), some (.inl p), some (.inl t)] [] Mz
  have hp8 := hI.pn.2
  refine v_ild1 dX7_person_0 ?_
  refine v_iconstN (n := 0) dX7_person_1 ?_
  refine v_iconstN (n := 5) dX7_person_2 ?_
  refine v_callSi (kM_in E _) dX7_person_3 cX7_75 rfl (by decide) (Nat.le_of_ble_eq_true rfl) rfl (fun r M1z hq => ?_)
  obtain ⟨hr, hm⟩ := hq
  rw [hr, hm]
  clear hr hm
  refine v_if_eq (tgt := 29) dX7_person_6 (by decide) (fun h6 => ?_) (fun h6 => ?_)
  · refine v_ldc dX7_person_29 kX7_119 ?_
    exact v_iret dX7_person_31 rfl (⟨by unfold R_person; rw [if_neg (by simp [gPer, show isF k = false from b2_0.mp h6])], by unfold F_person; rw [if_neg (by simp [gPer, show isF k = false from b2_0.mp h6])], FrM.rf Mz⟩)
  · refine v_ild2 dX7_person_9 ?_
    refine v_iconstN (n := 0) dX7_person_10 ?_
    refine v_bipushN (n := 7) dX7_person_11 (by decide) ?_
    refine v_callSi (kM_in E _) dX7_person_13 cX7_75 rfl (by decide) (Nat.le_of_ble_eq_true rfl) rfl (fun r M1z hq => ?_)
    obtain ⟨hr, hm⟩ := hq
    rw [hr, hm]
    clear hr hm
    refine v_if_eq (tgt := 29) dX7_person_16 (by decide) (fun h16 => ?_) (fun h16 => ?_)
    · refine v_ldc dX7_person_29 kX7_119 ?_
      exact v_iret dX7_person_31 rfl (⟨by unfold R_person; rw [if_neg (by simp [gPer, show isF k = true from b2_1.mp h6, b2_0.mp h16])], by unfold F_person; rw [if_neg (by simp [gPer, show isF k = true from b2_1.mp h6, b2_0.mp h16])], FrM.rf Mz⟩)
    · refine v_ild3 dX7_person_19 ?_
      refine v_iconstN (n := 0) dX7_person_20 ?_
      refine v_bipushN (n := 9) dX7_person_21 (by decide) ?_
      refine v_callSi (kM_in E _) dX7_person_23 cX7_75 rfl (by decide) (Nat.le_of_ble_eq_true rfl) rfl (fun r M1z hq => ?_)
      obtain ⟨hr, hm⟩ := hq
      rw [hr, hm]
      clear hr hm
      refine v_if_ne (tgt := 32) dX7_person_26 (by decide) (fun h26 => ?_) (fun h26 => ?_)
      · refine v_ald0 dX7_person_32 ?_
        refine v_getr dX7_person_33 gX7_9 sh_92 rfl ?_
        refine v_iconstN (n := 1) dX7_person_36 ?_
        refine v_ialdN dX7_person_37 sh_93 (by omega) (by decide) ?_
        refine v_eq (hI.pn.1) ?_
        refine v_bipushN (n := 8) dX7_person_38 (by decide) ?_
        refine v_icmpN_ne (tgt := 48) dX7_person_40 (by decide) (by omega) (by omega) (fun h40 => ?_) (fun h40 => ?_)
        · have h8 : pn (mv Mz) < 8 := by omega
          refine v_ald0 dX7_person_48 ?_
          refine v_ild1 dX7_person_49 ?_
          refine v_ild2 dX7_person_50 ?_
          refine v_ild3 dX7_person_51 ?_
          refine v_callVi (kM_comes E Mz hI h8) dX7_person_52 cX7_121 rfl sh_92 rfl (by decide) (Nat.le_of_ble_eq_true rfl) rfl (fun r3 M3z hq3 => ?_)
          exact v_iret dX7_person_55 rfl (⟨by unfold R_person; rw [if_pos (by simp [gPer, show isF k = true from b2_1.mp h6, b2_1.mp h16, b2_1.mp h26]), if_pos h8]; exact hq3.1, by unfold F_person; rw [if_pos (by simp [gPer, show isF k = true from b2_1.mp h6, b2_1.mp h16, b2_1.mp h26]), if_pos h8]; exact hq3.2.1, hq3.2.2⟩)
        · refine v_ldc dX7_person_43 kX7_120 ?_
          refine v_goto (tgt := 55) dX7_person_45 (by decide) ?_
          exact v_iret dX7_person_55 rfl (⟨by unfold R_person; rw [if_pos (by simp [gPer, show isF k = true from b2_1.mp h6, b2_1.mp h16, b2_1.mp h26]), if_neg (by omega)], by unfold F_person; rw [if_pos (by simp [gPer, show isF k = true from b2_1.mp h6, b2_1.mp h16, b2_1.mp h26]), if_neg (by omega)], FrM.rf Mz⟩)
      · refine v_ldc dX7_person_29 kX7_119 ?_
        exact v_iret dX7_person_31 rfl (⟨by unfold R_person; rw [if_neg (by simp [gPer, show isF k = true from b2_1.mp h6, b2_1.mp h16, b2_0.mp h26])], by unfold F_person; rw [if_neg (by simp [gPer, show isF k = true from b2_1.mp h6, b2_1.mp h16, b2_0.mp h26])], FrM.rf Mz⟩)
