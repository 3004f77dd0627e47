/-! where one had best live, as what -/
theorem i_neg1 {k : Nat} (h : k < 2 ^ 31) : (-1 : Int32) < nI k := by rw [Int32.lt_iff_toInt_lt, nI_toInt h]; show (-1 : Int) < _; omega
def hsW (pf : p4) (v : fl) (p n k : Nat) : Int32 := wksS pf (upd v (20 + 10 * p) (nI k)) n 3
def hsK (pf : p4) (v : fl) (p n : Nat) : Nat → Int32 × Int32
  | 0 => (nI 0, -1)
  | k + 1 => if (hsK pf v p n k).2 < hsW pf v p n k then (nI k, hsW pf v p n k) else hsK pf v p n k
def bcW (pf : p4) (v : fl) (p n k : Nat) : Int32 := wksS pf (upd v (19 + 10 * p) (nI k)) n 4
def bcK (pf : p4) (v : fl) (p n : Nat) : Nat → Int32 × Int32
  | 0 => (nI 0, -1)
  | k + 1 => if (bcK pf v p n k).2 < 0 ∨ bcW pf v p n k < (bcK pf v p n k).2 then (nI k, bcW pf v p n k) else bcK pf v p n k
def gHs (v : fl) (x n u : Int32) : Bool := isP v x && inB n (nI 1) (nI 60) && inB u (nI 0) (nI 1)
def R_house (pf : p4) (v : fl) (x n u : Int32) : Int32 := if gHs v x n u = true then (if u = 0 then (hsK pf v (tN x) (tN n) 8).1 else (hsK pf v (tN x) (tN n) 8).2) else cBAD
def R_becomes (pf : p4) (v : fl) (x n u : Int32) : Int32 := if gHs v x n u = true then (if u = 0 then (bcK pf v (tN x) (tN n) 6).1 else (bcK pf v (tN x) (tN n) 6).2) else cBAD
theorem rg_pl {q : Nat} : rg (20 + 10 * q) = 8 := by unfold rg; rw [if_neg (by omega), if_neg (by omega), if_neg (by omega), if_pos (by omega)]
theorem rg_kd {q : Nat} : rg (19 + 10 * q) = 6 := by unfold rg; rw [if_neg (by omega), if_neg (by omega), if_pos (by omega)]
theorem CI_pl {v : fl} {W p k : Nat} (h : CI v W) (hk : k < 8) : CI (upd v (20 + 10 * p) (nI k)) W := CI_upd h (by omega) (by omega) (by omega) (by rw [rg_pl]; exact inR_nI hk)
theorem CI_kd {v : fl} {W p k : Nat} (h : CI v W) (hk : k < 6) : CI (upd v (19 + 10 * p) (nI k)) W := CI_upd h (by omega) (by omega) (by omega) (by rw [rg_kd]; exact inR_nI hk)
theorem hsW_in {pf : p4} (hpf : PFok pf) {v : fl} {p n k : Nat} (h : CI v 10000) (hk : k < 8) (hn : n ≤ 60) : ∃ m : Nat, m < 2 ^ 31 ∧ hsW pf v p n k = nI m := by
  have hc := (wks_ok hpf (CI_pl (p := p) h hk) n (by omega)).1
  obtain ⟨m, hm, e⟩ := hc.2.2.2.2.1
  have := (hc.2.2.2.1.eq (by omega)).2
  exact ⟨m, by omega, e⟩
theorem bcW_in {pf : p4} (hpf : PFok pf) {v : fl} {p n k : Nat} (h : CI v 10000) (hk : k < 6) (hn : n ≤ 60) : ∃ m : Nat, m < 2 ^ 31 ∧ bcW pf v p n k = nI m := by
  have hc := (wks_ok hpf (CI_kd (p := p) h hk) n (by omega)).1
  obtain ⟨m, hm, e⟩ := hc.2.2.2.2.2
  have := (hc.2.2.2.1.eq (by omega)).2
  exact ⟨m, by omega, e⟩
theorem hs_1 {pf : p4} (hpf : PFok pf) {v : fl} {p n : Nat} (h : CI v 10000) (hn : n ≤ 60) : hsK pf v p n 1 = (nI 0, hsW pf v p n 0) := by
  obtain ⟨m, hm, e⟩ := hsW_in hpf (p := p) (n := n) (k := 0) h (by decide) hn
  show (if (-1 : Int32) < hsW pf v p n 0 then _ else _) = _
  rw [if_pos (by rw [e]; exact i_neg1 hm)]
theorem bc_1 {pf : p4} {v : fl} {p n : Nat} : bcK pf v p n 1 = (nI 0, bcW pf v p n 0) := if_pos (Or.inl (show (-1 : Int32) < 0 by decide))
theorem bc_pos {pf : p4} (hpf : PFok pf) {v : fl} {p n : Nat} (h : CI v 10000) (hn : n ≤ 60) : ∀ k, k < 6 → ¬ (bcK pf v p n (k + 1)).2 < 0
  | 0, _ => by
    obtain ⟨m, hm, e⟩ := bcW_in hpf (p := p) (n := n) (k := 0) h (by decide) hn
    rw [bc_1]; show ¬ bcW pf v p n 0 < 0; rw [e]; exact nI_pos hm
  | k + 1, hk => by
    obtain ⟨m, hm, e⟩ := bcW_in hpf (p := p) (n := n) (k := k + 1) h (by omega) hn
    by_cases hq : (bcK pf v p n (k + 1)).2 < 0 ∨ bcW pf v p n (k + 1) < (bcK pf v p n (k + 1)).2
    · rw [show bcK pf v p n (k + 1 + 1) = (nI (k + 1), bcW pf v p n (k + 1)) from if_pos hq]
      show ¬ bcW pf v p n (k + 1) < 0
      rw [e]; exact nI_pos hm
    · rw [show bcK pf v p n (k + 1 + 1) = bcK pf v p n (k + 1) from if_neg hq]
      exact bc_pos hpf h hn k (by omega)
theorem cv_fr {c : Nat} {M M' : mm} (hc : c = 38 ∨ c = 47) (h : FrX M M') : cv M' c = cv M c := cv_ext (fun k _ => by rw [h c (by omega) (by omega) (by omega) (by omega)]) (fun r h1 h4 j _ => by rw [h _ (by omega) (by omega) (by omega) (by omega)]) (fun j _ => by rw [h _ (by omega) (by omega) (by omega) (by omega)]) (fun j _ => by rw [h _ (by omega) (by omega) (by omega) (by omega)]) (fun j _ => by rw [h _ (by omega) (by omega) (by omega) (by omega)])
theorem TxC.frX {T : Nat} {tt : Nat → tx} {M M' : mm} (h : TxC M 38 tt T) (hf : FrX M M') : TxC M' 38 tt T := by
  have h14 := h.1
  refine ⟨h.1, by rw [hf 38 (by omega) (by omega) (by omega) (by omega)]; exact h.2.1, fun t ht => ?_, fun key hk => by rw [hf _ (by omega) (by omega) (by omega) (by omega)]; exact h.2.2.2 key hk⟩
  obtain ⟨a1, a2, a3, a4, a5⟩ := h.2.2.1 t ht
  have e1 : M' (5 + 2 * t) = M (5 + 2 * t) := hf _ (by omega) (by omega) (by omega) (by omega)
  have e2 : M' (5 + 2 * t + 1) = M (5 + 2 * t + 1) := hf _ (by omega) (by omega) (by omega) (by omega)
  exact ⟨a1, by rw [e1]; exact a2, by rw [e1]; exact a3, by rw [e1]; exact a4, fun i hi => by rw [e2]; exact a5 i hi⟩
set_option maxRecDepth 100000 in
set_option maxHeartbeats 4000000 in
theorem aX_house (E : ev) (Mz : mm) {x m u : Int32} {T : Nat} {tt : Nat → tx} (hI : CI (cv Mz 38) 10000) (hT : TxC Mz 38 tt T) : Ct E 7 yX6_house cX6_house 7 (some .int) [.inr 0, .inl x, .inl m, .inl u] Mz (qI E (fun r M' => r = R_house (pfT tt T) (cv Mz 38) x m u ∧ FrX Mz M')) := by
  refine ct_of (by decide) (Nat.le_of_ble_eq_true rfl) ?_
  show V E 7 _ _ _ _ _ 0 [some (.inr 0), some (.inl x), some (.inl m), some (.inl u), none, none, none] [] Mz
  refine v_ald0 dX6_house_0 ?_
  refine v_ild1 dX6_house_1 ?_
  refine v_callVi (kX_noPerson E _) dX6_house_2 cX6_77 rfl sh_0 rfl (by decide) (Nat.le_of_ble_eq_true rfl) rfl (fun r M1z hq => ?_)
  obtain ⟨hr, hm⟩ := hq
  rw [hr, hm]
  clear hr hm
  refine v_if_ne (tgt := 27) dX6_house_5 (by decide) (fun h5 => ?_) (fun h5 => ?_)
  · refine v_ldc dX6_house_27 kX6_67 ?_
    exact v_iret dX6_house_29 rfl (⟨by unfold R_house; rw [if_neg (by simp [gHs, nb1 h5])], FrX.rf Mz⟩)
  · refine v_ild2 dX6_house_8 ?_
    refine v_iconstN (n := 1) dX6_house_9 ?_
    refine v_bipushN (n := 60) dX6_house_10 (by decide) ?_
    refine v_callSi (kX_outside E _) dX6_house_12 cX6_63 rfl (by decide) (Nat.le_of_ble_eq_true rfl) rfl (fun r M1z hq => ?_)
    obtain ⟨hr, hm⟩ := hq
    rw [hr, hm]
    clear hr hm
    refine v_if_ne (tgt := 27) dX6_house_15 (by decide) (fun h15 => ?_) (fun h15 => ?_)
    · refine v_ldc dX6_house_27 kX6_67 ?_
      exact v_iret dX6_house_29 rfl (⟨by unfold R_house; rw [if_neg (by simp [gHs, nb0 h5, nb1 h15])], FrX.rf Mz⟩)
    · refine v_ild3 dX6_house_18 ?_
      refine v_iconstN (n := 0) dX6_house_19 ?_
      refine v_iconstN (n := 1) dX6_house_20 ?_
      refine v_callSi (kX_outside E _) dX6_house_21 cX6_63 rfl (by decide) (Nat.le_of_ble_eq_true rfl) rfl (fun r M1z hq => ?_)
      obtain ⟨hr, hm⟩ := hq
      rw [hr, hm]
      clear hr hm
      refine v_if_eq (tgt := 30) dX6_house_24 (by decide) (fun h24 => ?_) (fun h24 => ?_)
      · obtain ⟨p, hpn, hp, rfl⟩ := isP_n hI (nb0 h5)
        obtain ⟨n, hnl, hn, rfl⟩ := inB_n (by decide) (by decide) (nb0 h15)
        obtain ⟨j, hjl, hj, rfl⟩ := inB_n (by decide) (by decide) (nb0 h24)
        refine v_iconstN (n := 0) dX6_house_30 ?_
        refine v_ist4 dX6_house_31 (by decide) ?_
        refine v_iconstN (n := 0) dX6_house_33 ?_
        refine v_ist5 dX6_house_34 (by decide) ?_
        refine v_iconstN (n := 0) dX6_house_36 ?_
        refine v_ist6 dX6_house_37 (by decide) ?_
        refine v_loopP (pc := 39) (fun k _ => [some (.inr 0), some (.inl (nI p)), some (.inl (nI n)), some (.inl (nI j)), some (.inl (if k = 0 then nI 0 else (hsK (pfT tt T) (cv Mz 38) p n k).1)), some (.inl (if k = 0 then nI 0 else (hsK (pfT tt T) (cv Mz 38) p n k).2)), some (.inl (nI k))]) (fun k Mj => FrX Mz Mj) (8) (rfl) (FrX.rf Mz) (fun k Mj hk hfr ih => ?_) (fun Mj hfr => ?_)
        · by_cases hk0 : k = 0
          · subst hk0
            refine v_ild6 dX6_house_39 ?_
            refine v_bipushN (n := 8) dX6_house_41 (by decide) ?_
            refine v_icmpN_ge (tgt := 112) dX6_house_43 (by decide) (by omega) (by omega) (fun h43 => absurd h43 (by decide)) (fun h43 => ?_)
            refine v_ald0 dX6_house_46 ?_
            refine v_getr dX6_house_47 gX6_35 sh_0 rfl ?_
            refine v_ald0 dX6_house_50 ?_
            refine v_getr dX6_house_51 gX6_28 sh_0 rfl ?_
            refine v_callVv (kC_over_56_38 E Mj) dX6_house_54 cX6_177 rfl sh_56 rfl (by decide) (Nat.le_of_ble_eq_true rfl) rfl (fun M1z hq1 => ?_)
            obtain ⟨hv1, hl1, hf1⟩ := hq1
            have hv0 : cv Mj 38 = cv Mz 38 := cv_fr (by decide) hfr
            rw [hv0] at hv1
            have hIt : CI (upd (cv Mz 38) (20 + 10 * p) (nI 0)) 10000 := CI_pl hI (by omega)
            have hcvt : cv (wr M1z 58 p (nI 0)) 56 = upd (cv Mz 38) (20 + 10 * p) (nI 0) := by rw [cv_upl (c := 56) hp, hv1]
            have hT0 : TxC Mj 38 tt T := hT.frX hfr
            have hT1 : TxC M1z 56 tt T := hT0.over CB.trial (by rw [hv1, hv0]) hl1 hf1
            have hT2 : TxC (wr M1z 58 p (nI 0)) 56 tt T := hT1.fr CB.trial (FrC.w _ (by decide)) (by rw [hcvt, hv1]; exact pk_un (by omega))
            refine v_ald0 dX6_house_57 ?_
            refine v_getr dX6_house_58 gX6_35 sh_0 rfl ?_
            refine v_getr dX6_house_61 gX6_83 sh_56 rfl ?_
            refine v_ild1 dX6_house_64 ?_
            refine v_ild6 dX6_house_65 ?_
            refine v_iastN dX6_house_67 sh_58 (by omega) (by decide) ?_
            refine v_ald0 dX6_house_68 ?_
            refine v_getr dX6_house_69 gX6_35 sh_0 rfl ?_
            refine v_ild2 dX6_house_72 ?_
            refine v_callVv (kC_pass E _ (W := 10000) CB.trial (by rw [hcvt]; exact hIt) (by omega) hT2) dX6_house_73 cX6_160 rfl sh_56 rfl (by decide) (Nat.le_of_ble_eq_true rfl) rfl (fun M2z hq2 => ?_)
            obtain ⟨hv2, hf2⟩ := hq2
            rw [hcvt] at hv2
            have hw2 : M2z 56 9 = hsW (pfT tt T) (cv Mz 38) p n (0) := by show cv M2z 56 3 = _; rw [hv2]; rfl
            have hfr2 : FrX Mz M2z := ((hfr.tr (FrX.t hf1)).tr (FrX.c (FrC.w _ (by decide)))).tr (FrX.c hf2)
            refine v_ild6 dX6_house_76 ?_
            refine v_if_eq (tgt := 93) dX6_house_78 (by decide) (fun h78 => ?_) (fun h78 => absurd h78 (by decide))
            refine v_ild6 dX6_house_93 ?_
            refine v_ist4 dX6_house_95 (by decide) ?_
            refine v_ald0 dX6_house_97 ?_
            refine v_getr dX6_house_98 gX6_35 sh_0 rfl ?_
            refine v_geti dX6_house_101 gX6_154 sh_56 rfl ?_
            refine v_eq (hw2) ?_
            refine v_ist5 dX6_house_104 (by decide) ?_
            refine v_iincN6 (n := 1) dX6_house_106 (by decide) ?_
            refine v_goto (tgt := 39) dX6_house_109 (by decide) ?_
            exact v_lo (by rw [if_neg (by decide), if_neg (by decide), hs_1 (pfT_ok tt T) hI (by omega)]) (ih _ hfr2)
          · refine v_lo (L' := [some (.inr 0), some (.inl (nI p)), some (.inl (nI n)), some (.inl (nI j)), some (.inl (hsK (pfT tt T) (cv Mz 38) p n k).1), some (.inl (hsK (pfT tt T) (cv Mz 38) p n k).2), some (.inl (nI k))]) (by rw [if_neg hk0, if_neg hk0]) ?_
            refine v_ild6 dX6_house_39 ?_
            refine v_bipushN (n := 8) dX6_house_41 (by decide) ?_
            refine v_icmpN_ge (tgt := 112) dX6_house_43 (by decide) (by omega) (by omega) (fun h43 => absurd h43 (by omega)) (fun h43 => ?_)
            refine v_ald0 dX6_house_46 ?_
            refine v_getr dX6_house_47 gX6_35 sh_0 rfl ?_
            refine v_ald0 dX6_house_50 ?_
            refine v_getr dX6_house_51 gX6_28 sh_0 rfl ?_
            refine v_callVv (kC_over_56_38 E Mj) dX6_house_54 cX6_177 rfl sh_56 rfl (by decide) (Nat.le_of_ble_eq_true rfl) rfl (fun M1z hq1 => ?_)
            obtain ⟨hv1, hl1, hf1⟩ := hq1
            have hv0 : cv Mj 38 = cv Mz 38 := cv_fr (by decide) hfr
            rw [hv0] at hv1
            have hIt : CI (upd (cv Mz 38) (20 + 10 * p) (nI k)) 10000 := CI_pl hI (by omega)
            have hcvt : cv (wr M1z 58 p (nI k)) 56 = upd (cv Mz 38) (20 + 10 * p) (nI k) := by rw [cv_upl (c := 56) hp, hv1]
            have hT0 : TxC Mj 38 tt T := hT.frX hfr
            have hT1 : TxC M1z 56 tt T := hT0.over CB.trial (by rw [hv1, hv0]) hl1 hf1
            have hT2 : TxC (wr M1z 58 p (nI k)) 56 tt T := hT1.fr CB.trial (FrC.w _ (by decide)) (by rw [hcvt, hv1]; exact pk_un (by omega))
            refine v_ald0 dX6_house_57 ?_
            refine v_getr dX6_house_58 gX6_35 sh_0 rfl ?_
            refine v_getr dX6_house_61 gX6_83 sh_56 rfl ?_
            refine v_ild1 dX6_house_64 ?_
            refine v_ild6 dX6_house_65 ?_
            refine v_iastN dX6_house_67 sh_58 (by omega) (by decide) ?_
            refine v_ald0 dX6_house_68 ?_
            refine v_getr dX6_house_69 gX6_35 sh_0 rfl ?_
            refine v_ild2 dX6_house_72 ?_
            refine v_callVv (kC_pass E _ (W := 10000) CB.trial (by rw [hcvt]; exact hIt) (by omega) hT2) dX6_house_73 cX6_160 rfl sh_56 rfl (by decide) (Nat.le_of_ble_eq_true rfl) rfl (fun M2z hq2 => ?_)
            obtain ⟨hv2, hf2⟩ := hq2
            rw [hcvt] at hv2
            have hw2 : M2z 56 9 = hsW (pfT tt T) (cv Mz 38) p n (k) := by show cv M2z 56 3 = _; rw [hv2]; rfl
            have hfr2 : FrX Mz M2z := ((hfr.tr (FrX.t hf1)).tr (FrX.c (FrC.w _ (by decide)))).tr (FrX.c hf2)
            refine v_ild6 dX6_house_76 ?_
            refine v_if_eq (tgt := 93) dX6_house_78 (by decide) (fun h78 => absurd h78 (nI_ne0 (by omega) (by omega))) (fun h78 => ?_)
            refine v_ald0 dX6_house_81 ?_
            refine v_getr dX6_house_82 gX6_35 sh_0 rfl ?_
            refine v_geti dX6_house_85 gX6_154 sh_56 rfl ?_
            refine v_eq (hw2) ?_
            refine v_ild5 dX6_house_88 ?_
            refine v_icmp_le (tgt := 106) dX6_house_90 (by decide) (fun h90 => ?_) (fun h90 => ?_)
            · refine v_iincN6 (n := 1) dX6_house_106 (by decide) ?_
              refine v_goto (tgt := 39) dX6_house_109 (by decide) ?_
              exact v_lo (by rw [if_neg (by omega), if_neg (by omega), show hsK (pfT tt T) (cv Mz 38) p n (k + 1) = hsK (pfT tt T) (cv Mz 38) p n k from if_neg (Int32.not_lt.mpr h90)]) (ih _ hfr2)
            · refine v_ild6 dX6_house_93 ?_
              refine v_ist4 dX6_house_95 (by decide) ?_
              refine v_ald0 dX6_house_97 ?_
              refine v_getr dX6_house_98 gX6_35 sh_0 rfl ?_
              refine v_geti dX6_house_101 gX6_154 sh_56 rfl ?_
              refine v_eq (hw2) ?_
              refine v_ist5 dX6_house_104 (by decide) ?_
              refine v_iincN6 (n := 1) dX6_house_106 (by decide) ?_
              refine v_goto (tgt := 39) dX6_house_109 (by decide) ?_
              exact v_lo (by rw [if_neg (by omega), if_neg (by omega), show hsK (pfT tt T) (cv Mz 38) p n (k + 1) = (nI k, hsW (pfT tt T) (cv Mz 38) p n k) from if_pos (Int32.not_le.mp h90)]) (ih _ hfr2)
        · refine v_lo (L' := [some (.inr 0), some (.inl (nI p)), some (.inl (nI n)), some (.inl (nI j)), some (.inl (hsK (pfT tt T) (cv Mz 38) p n 8).1), some (.inl (hsK (pfT tt T) (cv Mz 38) p n 8).2), some (.inl (nI 8))]) (by rw [if_neg (by decide), if_neg (by decide)]) ?_
          refine v_ild6 dX6_house_39 ?_
          refine v_bipushN (n := 8) dX6_house_41 (by decide) ?_
          refine v_icmpN_ge (tgt := 112) dX6_house_43 (by decide) (by omega) (by omega) (fun h43 => ?_) (fun h43 => absurd h43 (by decide))
          refine v_ild3 dX6_house_112 ?_
          refine v_if_ne (tgt := 121) dX6_house_113 (by decide) (fun h113 => ?_) (fun h113 => ?_)
          · refine v_ild5 dX6_house_121 ?_
            exact v_iret dX6_house_123 rfl (⟨by unfold R_house; rw [if_pos (by simp [gHs, nb0 h5, nb0 h15, nb0 h24]), tN_n (by omega), tN_n (by omega), if_neg h113], hfr⟩)
          · refine v_ild4 dX6_house_116 ?_
            refine v_goto (tgt := 123) dX6_house_118 (by decide) ?_
            exact v_iret dX6_house_123 rfl (⟨by unfold R_house; rw [if_pos (by simp [gHs, nb0 h5, nb0 h15, nb0 h24]), tN_n (by omega), tN_n (by omega), if_pos h113], hfr⟩)
      · refine v_ldc dX6_house_27 kX6_67 ?_
        exact v_iret dX6_house_29 rfl (⟨by unfold R_house; rw [if_neg (by simp [gHs, nb0 h5, nb0 h15, nb1 h24])], FrX.rf Mz⟩)
set_option maxRecDepth 100000 in
set_option maxHeartbeats 4000000 in
theorem aX_becomes (E : ev) (Mz : mm) {x m u : Int32} {T : Nat} {tt : Nat → tx} (hI : CI (cv Mz 38) 10000) (hT : TxC Mz 38 tt T) : Ct E 7 yX6_becomes cX6_becomes 7 (some .int) [.inr 0, .inl x, .inl m, .inl u] Mz (qI E (fun r M' => r = R_becomes (pfT tt T) (cv Mz 38) x m u ∧ FrX Mz M')) := by
  refine ct_of (by decide) (Nat.le_of_ble_eq_true rfl) ?_
  show V E 7 _ _ _ _ _ 0 [some (.inr 0), some (.inl x), some (.inl m), some (.inl u), none, none, none] [] Mz
  refine v_ald0 dX6_becomes_0 ?_
  refine v_ild1 dX6_becomes_1 ?_
  refine v_callVi (kX_noPerson E _) dX6_becomes_2 cX6_77 rfl sh_0 rfl (by decide) (Nat.le_of_ble_eq_true rfl) rfl (fun r M1z hq => ?_)
  obtain ⟨hr, hm⟩ := hq
  rw [hr, hm]
  clear hr hm
  refine v_if_ne (tgt := 27) dX6_becomes_5 (by decide) (fun h5 => ?_) (fun h5 => ?_)
  · refine v_ldc dX6_becomes_27 kX6_67 ?_
    exact v_iret dX6_becomes_29 rfl (⟨by unfold R_becomes; rw [if_neg (by simp [gHs, nb1 h5])], FrX.rf Mz⟩)
  · refine v_ild2 dX6_becomes_8 ?_
    refine v_iconstN (n := 1) dX6_becomes_9 ?_
    refine v_bipushN (n := 60) dX6_becomes_10 (by decide) ?_
    refine v_callSi (kX_outside E _) dX6_becomes_12 cX6_63 rfl (by decide) (Nat.le_of_ble_eq_true rfl) rfl (fun r M1z hq => ?_)
    obtain ⟨hr, hm⟩ := hq
    rw [hr, hm]
    clear hr hm
    refine v_if_ne (tgt := 27) dX6_becomes_15 (by decide) (fun h15 => ?_) (fun h15 => ?_)
    · refine v_ldc dX6_becomes_27 kX6_67 ?_
      exact v_iret dX6_becomes_29 rfl (⟨by unfold R_becomes; rw [if_neg (by simp [gHs, nb0 h5, nb1 h15])], FrX.rf Mz⟩)
    · refine v_ild3 dX6_becomes_18 ?_
      refine v_iconstN (n := 0) dX6_becomes_19 ?_
      refine v_iconstN (n := 1) dX6_becomes_20 ?_
      refine v_callSi (kX_outside E _) dX6_becomes_21 cX6_63 rfl (by decide) (Nat.le_of_ble_eq_true rfl) rfl (fun r M1z hq => ?_)
      obtain ⟨hr, hm⟩ := hq
      rw [hr, hm]
      clear hr hm
      refine v_if_eq (tgt := 30) dX6_becomes_24 (by decide) (fun h24 => ?_) (fun h24 => ?_)
      · obtain ⟨p, hpn, hp, rfl⟩ := isP_n hI (nb0 h5)
        obtain ⟨n, hnl, hn, rfl⟩ := inB_n (by decide) (by decide) (nb0 h15)
        obtain ⟨j, hjl, hj, rfl⟩ := inB_n (by decide) (by decide) (nb0 h24)
        refine v_iconstN (n := 0) dX6_becomes_30 ?_
        refine v_ist4 dX6_becomes_31 (by decide) ?_
        refine v_iconstN (n := 0) dX6_becomes_33 ?_
        refine v_ist5 dX6_becomes_34 (by decide) ?_
        refine v_iconstN (n := 0) dX6_becomes_36 ?_
        refine v_ist6 dX6_becomes_37 (by decide) ?_
        refine v_loopP (pc := 39) (fun k _ => [some (.inr 0), some (.inl (nI p)), some (.inl (nI n)), some (.inl (nI j)), some (.inl (if k = 0 then nI 0 else (bcK (pfT tt T) (cv Mz 38) p n k).1)), some (.inl (if k = 0 then nI 0 else (bcK (pfT tt T) (cv Mz 38) p n k).2)), some (.inl (nI k))]) (fun k Mj => FrX Mz Mj) (6) (rfl) (FrX.rf Mz) (fun k Mj hk hfr ih => ?_) (fun Mj hfr => ?_)
        · by_cases hk0 : k = 0
          · subst hk0
            refine v_ild6 dX6_becomes_39 ?_
            refine v_bipushN (n := 6) dX6_becomes_41 (by decide) ?_
            refine v_icmpN_ge (tgt := 112) dX6_becomes_43 (by decide) (by omega) (by omega) (fun h43 => absurd h43 (by decide)) (fun h43 => ?_)
            refine v_ald0 dX6_becomes_46 ?_
            refine v_getr dX6_becomes_47 gX6_35 sh_0 rfl ?_
            refine v_ald0 dX6_becomes_50 ?_
            refine v_getr dX6_becomes_51 gX6_28 sh_0 rfl ?_
            refine v_callVv (kC_over_56_38 E Mj) dX6_becomes_54 cX6_177 rfl sh_56 rfl (by decide) (Nat.le_of_ble_eq_true rfl) rfl (fun M1z hq1 => ?_)
            obtain ⟨hv1, hl1, hf1⟩ := hq1
            have hv0 : cv Mj 38 = cv Mz 38 := cv_fr (by decide) hfr
            rw [hv0] at hv1
            have hIt : CI (upd (cv Mz 38) (19 + 10 * p) (nI 0)) 10000 := CI_kd hI (by omega)
            have hcvt : cv (wr M1z 57 p (nI 0)) 56 = upd (cv Mz 38) (19 + 10 * p) (nI 0) := by rw [cv_ukd (c := 56) hp, hv1]
            have hT0 : TxC Mj 38 tt T := hT.frX hfr
            have hT1 : TxC M1z 56 tt T := hT0.over CB.trial (by rw [hv1, hv0]) hl1 hf1
            have hT2 : TxC (wr M1z 57 p (nI 0)) 56 tt T := hT1.fr CB.trial (FrC.w _ (by decide)) (by rw [hcvt, hv1]; exact pk_un (by omega))
            refine v_ald0 dX6_becomes_57 ?_
            refine v_getr dX6_becomes_58 gX6_35 sh_0 rfl ?_
            refine v_getr dX6_becomes_61 gX6_80 sh_56 rfl ?_
            refine v_ild1 dX6_becomes_64 ?_
            refine v_ild6 dX6_becomes_65 ?_
            refine v_iastN dX6_becomes_67 sh_57 (by omega) (by decide) ?_
            refine v_ald0 dX6_becomes_68 ?_
            refine v_getr dX6_becomes_69 gX6_35 sh_0 rfl ?_
            refine v_ild2 dX6_becomes_72 ?_
            refine v_callVv (kC_pass E _ (W := 10000) CB.trial (by rw [hcvt]; exact hIt) (by omega) hT2) dX6_becomes_73 cX6_160 rfl sh_56 rfl (by decide) (Nat.le_of_ble_eq_true rfl) rfl (fun M2z hq2 => ?_)
            obtain ⟨hv2, hf2⟩ := hq2
            rw [hcvt] at hv2
            have hw2 : M2z 56 10 = bcW (pfT tt T) (cv Mz 38) p n (0) := by show cv M2z 56 4 = _; rw [hv2]; rfl
            have hfr2 : FrX Mz M2z := ((hfr.tr (FrX.t hf1)).tr (FrX.c (FrC.w _ (by decide)))).tr (FrX.c hf2)
            refine v_ild6 dX6_becomes_76 ?_
            refine v_if_eq (tgt := 93) dX6_becomes_78 (by decide) (fun h78 => ?_) (fun h78 => absurd h78 (by decide))
            refine v_ild6 dX6_becomes_93 ?_
            refine v_ist4 dX6_becomes_95 (by decide) ?_
            refine v_ald0 dX6_becomes_97 ?_
            refine v_getr dX6_becomes_98 gX6_35 sh_0 rfl ?_
            refine v_geti dX6_becomes_101 gX6_164 sh_56 rfl ?_
            refine v_eq (hw2) ?_
            refine v_ist5 dX6_becomes_104 (by decide) ?_
            refine v_iincN6 (n := 1) dX6_becomes_106 (by decide) ?_
            refine v_goto (tgt := 39) dX6_becomes_109 (by decide) ?_
            exact v_lo (by rw [if_neg (by decide), if_neg (by decide), bc_1]) (ih _ hfr2)
          · refine v_lo (L' := [some (.inr 0), some (.inl (nI p)), some (.inl (nI n)), some (.inl (nI j)), some (.inl (bcK (pfT tt T) (cv Mz 38) p n k).1), some (.inl (bcK (pfT tt T) (cv Mz 38) p n k).2), some (.inl (nI k))]) (by rw [if_neg hk0, if_neg hk0]) ?_
            have hpos : ¬ (bcK (pfT tt T) (cv Mz 38) p n k).2 < 0 := by have := bc_pos (pfT_ok tt T) (p := p) hI (n := n) (by omega) (k - 1) (by omega); rwa [show k - 1 + 1 = k by omega] at this
            refine v_ild6 dX6_becomes_39 ?_
            refine v_bipushN (n := 6) dX6_becomes_41 (by decide) ?_
            refine v_icmpN_ge (tgt := 112) dX6_becomes_43 (by decide) (by omega) (by omega) (fun h43 => absurd h43 (by omega)) (fun h43 => ?_)
            refine v_ald0 dX6_becomes_46 ?_
            refine v_getr dX6_becomes_47 gX6_35 sh_0 rfl ?_
            refine v_ald0 dX6_becomes_50 ?_
            refine v_getr dX6_becomes_51 gX6_28 sh_0 rfl ?_
            refine v_callVv (kC_over_56_38 E Mj) dX6_becomes_54 cX6_177 rfl sh_56 rfl (by decide) (Nat.le_of_ble_eq_true rfl) rfl (fun M1z hq1 => ?_)
            obtain ⟨hv1, hl1, hf1⟩ := hq1
            have hv0 : cv Mj 38 = cv Mz 38 := cv_fr (by decide) hfr
            rw [hv0] at hv1
            have hIt : CI (upd (cv Mz 38) (19 + 10 * p) (nI k)) 10000 := CI_kd hI (by omega)
            have hcvt : cv (wr M1z 57 p (nI k)) 56 = upd (cv Mz 38) (19 + 10 * p) (nI k) := by rw [cv_ukd (c := 56) hp, hv1]
            have hT0 : TxC Mj 38 tt T := hT.frX hfr
            have hT1 : TxC M1z 56 tt T := hT0.over CB.trial (by rw [hv1, hv0]) hl1 hf1
            have hT2 : TxC (wr M1z 57 p (nI k)) 56 tt T := hT1.fr CB.trial (FrC.w _ (by decide)) (by rw [hcvt, hv1]; exact pk_un (by omega))
            refine v_ald0 dX6_becomes_57 ?_
            refine v_getr dX6_becomes_58 gX6_35 sh_0 rfl ?_
            refine v_getr dX6_becomes_61 gX6_80 sh_56 rfl ?_
            refine v_ild1 dX6_becomes_64 ?_
            refine v_ild6 dX6_becomes_65 ?_
            refine v_iastN dX6_becomes_67 sh_57 (by omega) (by decide) ?_
            refine v_ald0 dX6_becomes_68 ?_
            refine v_getr dX6_becomes_69 gX6_35 sh_0 rfl ?_
            refine v_ild2 dX6_becomes_72 ?_
            refine v_callVv (kC_pass E _ (W := 10000) CB.trial (by rw [hcvt]; exact hIt) (by omega) hT2) dX6_becomes_73 cX6_160 rfl sh_56 rfl (by decide) (Nat.le_of_ble_eq_true rfl) rfl (fun M2z hq2 => ?_)
            obtain ⟨hv2, hf2⟩ := hq2
            rw [hcvt] at hv2
            have hw2 : M2z 56 10 = bcW (pfT tt T) (cv Mz 38) p n (k) := by show cv M2z 56 4 = _; rw [hv2]; rfl
            have hfr2 : FrX Mz M2z := ((hfr.tr (FrX.t hf1)).tr (FrX.c (FrC.w _ (by decide)))).tr (FrX.c hf2)
            refine v_ild6 dX6_becomes_76 ?_
            refine v_if_eq (tgt := 93) dX6_becomes_78 (by decide) (fun h78 => absurd h78 (nI_ne0 (by omega) (by omega))) (fun h78 => ?_)
            refine v_ald0 dX6_becomes_81 ?_
            refine v_getr dX6_becomes_82 gX6_35 sh_0 rfl ?_
            refine v_geti dX6_becomes_85 gX6_164 sh_56 rfl ?_
            refine v_eq (hw2) ?_
            refine v_ild5 dX6_becomes_88 ?_
            refine v_icmp_ge (tgt := 106) dX6_becomes_90 (by decide) (fun h90 => ?_) (fun h90 => ?_)
            · refine v_iincN6 (n := 1) dX6_becomes_106 (by decide) ?_
              refine v_goto (tgt := 39) dX6_becomes_109 (by decide) ?_
              exact v_lo (by rw [if_neg (by omega), if_neg (by omega), show bcK (pfT tt T) (cv Mz 38) p n (k + 1) = bcK (pfT tt T) (cv Mz 38) p n k from if_neg (fun q => q.elim hpos (Int32.not_lt.mpr h90))]) (ih _ hfr2)
            · refine v_ild6 dX6_becomes_93 ?_
              refine v_ist4 dX6_becomes_95 (by decide) ?_
              refine v_ald0 dX6_becomes_97 ?_
              refine v_getr dX6_becomes_98 gX6_35 sh_0 rfl ?_
              refine v_geti dX6_becomes_101 gX6_164 sh_56 rfl ?_
              refine v_eq (hw2) ?_
              refine v_ist5 dX6_becomes_104 (by decide) ?_
              refine v_iincN6 (n := 1) dX6_becomes_106 (by decide) ?_
              refine v_goto (tgt := 39) dX6_becomes_109 (by decide) ?_
              exact v_lo (by rw [if_neg (by omega), if_neg (by omega), show bcK (pfT tt T) (cv Mz 38) p n (k + 1) = (nI k, bcW (pfT tt T) (cv Mz 38) p n k) from if_pos (Or.inr (Int32.not_le.mp h90))]) (ih _ hfr2)
        · refine v_lo (L' := [some (.inr 0), some (.inl (nI p)), some (.inl (nI n)), some (.inl (nI j)), some (.inl (bcK (pfT tt T) (cv Mz 38) p n 6).1), some (.inl (bcK (pfT tt T) (cv Mz 38) p n 6).2), some (.inl (nI 6))]) (by rw [if_neg (by decide), if_neg (by decide)]) ?_
          refine v_ild6 dX6_becomes_39 ?_
          refine v_bipushN (n := 6) dX6_becomes_41 (by decide) ?_
          refine v_icmpN_ge (tgt := 112) dX6_becomes_43 (by decide) (by omega) (by omega) (fun h43 => ?_) (fun h43 => absurd h43 (by decide))
          refine v_ild3 dX6_becomes_112 ?_
          refine v_if_ne (tgt := 121) dX6_becomes_113 (by decide) (fun h113 => ?_) (fun h113 => ?_)
          · refine v_ild5 dX6_becomes_121 ?_
            exact v_iret dX6_becomes_123 rfl (⟨by unfold R_becomes; rw [if_pos (by simp [gHs, nb0 h5, nb0 h15, nb0 h24]), tN_n (by omega), tN_n (by omega), if_neg h113], hfr⟩)
          · refine v_ild4 dX6_becomes_116 ?_
            refine v_goto (tgt := 123) dX6_becomes_118 (by decide) ?_
            exact v_iret dX6_becomes_123 rfl (⟨by unfold R_becomes; rw [if_pos (by simp [gHs, nb0 h5, nb0 h15, nb0 h24]), tN_n (by omega), tN_n (by omega), if_pos h113], hfr⟩)
      · refine v_ldc dX6_becomes_27 kX6_67 ?_
        exact v_iret dX6_becomes_29 rfl (⟨by unfold R_becomes; rw [if_neg (by simp [gHs, nb0 h5, nb0 h15, nb1 h24])], FrX.rf Mz⟩)
set_option maxRecDepth 100000 in
set_option maxHeartbeats 4000000 in
theorem aM_house (E : ev) (Mz : mm) {x m u : Int32} {T : Nat} {tt : Nat → tx} (hI : CI (mv Mz) 10000) (hT : TxM Mz tt T) : Ct E 8 yX7_house cX7_house 8 (some .int) [.inr 92, .inl x, .inl m, .inl u] Mz (qI E (fun r M' => r = R_house (pfT tt T) (mv Mz) x m u ∧ FrD Mz M')) := by
  refine ct_of (by decide) (Nat.le_of_ble_eq_true rfl) ?_
  show V E 8 _ _ _ _ _ 0 [some (.inr 92), some (.inl x), some (.inl m), some (.inl u), none, none, none, none] [] Mz
  refine v_ald0 dX7_house_0 ?_
  refine v_ild1 dX7_house_1 ?_
  refine v_callVi (kM_isPerson E _) dX7_house_2 cX7_128 rfl sh_92 rfl (by decide) (Nat.le_of_ble_eq_true rfl) rfl (fun r M1z hq => ?_)
  obtain ⟨hr, hm⟩ := hq
  rw [hr, hm, show inB x (nI 0) (mv Mz 1 - nI 1) = isP (mv Mz) x from rfl]
  clear hr hm
  refine v_if_eq (tgt := 27) dX7_house_5 (by decide) (fun h5 => ?_) (fun h5 => ?_)
  · refine v_ldc dX7_house_27 kX7_119 ?_
    exact v_iret dX7_house_29 rfl (⟨by unfold R_house; rw [if_neg (by simp [gHs, b2_0.mp h5])], FrD.rf Mz⟩)
  · refine v_ild2 dX7_house_8 ?_
    refine v_iconstN (n := 1) dX7_house_9 ?_
    refine v_bipushN (n := 60) dX7_house_10 (by decide) ?_
    refine v_callSi (kM_in E _) dX7_house_12 cX7_75 rfl (by decide) (Nat.le_of_ble_eq_true rfl) rfl (fun r M1z hq => ?_)
    obtain ⟨hr, hm⟩ := hq
    rw [hr, hm]
    clear hr hm
    refine v_if_eq (tgt := 27) dX7_house_15 (by decide) (fun h15 => ?_) (fun h15 => ?_)
    · refine v_ldc dX7_house_27 kX7_119 ?_
      exact v_iret dX7_house_29 rfl (⟨by unfold R_house; rw [if_neg (by simp [gHs, b2_1.mp h5, b2_0.mp h15])], FrD.rf Mz⟩)
    · refine v_ild3 dX7_house_18 ?_
      refine v_iconstN (n := 0) dX7_house_19 ?_
      refine v_iconstN (n := 1) dX7_house_20 ?_
      refine v_callSi (kM_in E _) dX7_house_21 cX7_75 rfl (by decide) (Nat.le_of_ble_eq_true rfl) rfl (fun r M1z hq => ?_)
      obtain ⟨hr, hm⟩ := hq
      rw [hr, hm]
      clear hr hm
      refine v_if_ne (tgt := 30) dX7_house_24 (by decide) (fun h24 => ?_) (fun h24 => ?_)
      · obtain ⟨p, hpn, hp, rfl⟩ := isP_n hI (b2_1.mp h5)
        obtain ⟨n, hnl, hn, rfl⟩ := inB_n (by decide) (by decide) (b2_1.mp h15)
        obtain ⟨j, hjl, hj, rfl⟩ := inB_n (by decide) (by decide) (b2_1.mp h24)
        refine v_ald0 dX7_house_30 ?_
        refine v_callVv (kM_dreams E Mz) dX7_house_31 cX7_185 rfl sh_92 rfl (by decide) (Nat.le_of_ble_eq_true rfl) rfl (fun M1z hq => ?_)
        rw [hq]
        clear hq
        refine v_iconstN (n := 0) dX7_house_34 ?_
        refine v_ist4 dX7_house_35 (by decide) ?_
        refine v_iconst dX7_house_37 rfl ?_
        refine v_ist5 dX7_house_38 (by decide) ?_
        refine v_iconstN (n := 0) dX7_house_40 ?_
        refine v_ist6 dX7_house_41 (by decide) ?_
        refine v_loopP (pc := 43) (fun k _ => [some (.inr 92), some (.inl (nI p)), some (.inl (nI n)), some (.inl (nI j)), some (.inl (hsK (pfT tt T) (mv Mz) p n k).1), some (.inl (hsK (pfT tt T) (mv Mz) p n k).2), some (.inl (nI k)), none]) (fun k Mj => DR Mz Mj ∧ Mj 93 = Mz 93) (8) (rfl) (⟨DR.start Mz, wa_ne (by decide)⟩) (fun k Mj hk hM ih => ?_) (fun Mj hM => ?_)
        · obtain ⟨hd, he⟩ := hM
          refine v_ild6 dX7_house_43 ?_
          refine v_bipushN (n := 8) dX7_house_45 (by decide) ?_
          refine v_icmpN_ge (tgt := 113) dX7_house_47 (by decide) (by omega) (by omega) (fun h47 => absurd h47 (by omega)) (fun h47 => ?_)
          refine v_ald0 dX7_house_50 ?_
          refine v_ild1 dX7_house_51 ?_
          refine v_iconstN (n := 1) dX7_house_52 ?_
          refine v_ild6 dX7_house_53 ?_
          refine v_callVv (kM_put E Mj hp (by decide)) dX7_house_55 cX7_115 rfl sh_92 rfl (by decide) (Nat.le_of_ble_eq_true rfl) rfl (fun M1z hq1 => ?_)
          rw [hq1]
          clear hq1
          have hmt : mv (wr Mj 93 (19 + 10 * p + 1) (nI k)) = upd (mv Mz) (20 + 10 * p) (nI k) := by rw [mv_u (by omega), mv_93 he, show 19 + 10 * p + 1 = 20 + 10 * p by omega]
          have hIt : CI (upd (mv Mz) (20 + 10 * p) (nI k)) 10000 := CI_pl hI (by omega)
          have hd1 : DR Mz (wr Mj 93 (19 + 10 * p + 1) (nI k)) := hd.fr (FrM.w _ (by omega))
          have hT1 : TxM (wr Mj 93 (19 + 10 * p + 1) (nI k)) tt T := hT.dr hd1 (by rw [hmt]; exact pk_un (by omega))
          refine v_ald0 dX7_house_58 ?_
          refine v_ild2 dX7_house_59 ?_
          refine v_callVv (kM_goesOn E _ (W := 10000) (by rw [hmt]; exact hIt) (by omega) hT1) dX7_house_60 cX7_172 rfl sh_92 rfl (by decide) (Nat.le_of_ble_eq_true rfl) rfl (fun M2z hq2 => ?_)
          obtain ⟨hv2, hf2⟩ := hq2
          rw [hmt] at hv2
          have hw2 : M2z 93 3 = hsW (pfT tt T) (mv Mz) p n k := by show mv M2z 3 = _; rw [hv2]; rfl
          have hd2 : DR Mz M2z := hd1.fr hf2
          refine v_ald0 dX7_house_63 ?_
          refine v_getr dX7_house_64 gX7_9 sh_92 rfl ?_
          refine v_iconstN (n := 3) dX7_house_67 ?_
          refine v_ialdN dX7_house_68 sh_93 (by omega) (by decide) ?_
          refine v_eq (hw2) ?_
          refine v_ist7 dX7_house_69 (by decide) ?_
          refine v_ild7 dX7_house_71 ?_
          refine v_ild5 dX7_house_73 ?_
          refine v_icmp_le (tgt := 83) dX7_house_75 (by decide) (fun h75 => ?_) (fun h75 => ?_)
          · refine v_ild4 dX7_house_83 ?_
            refine v_ist4 dX7_house_85 (by decide) ?_
            refine v_ild7 dX7_house_87 ?_
            refine v_ild5 dX7_house_89 ?_
            refine v_icmp_le (tgt := 99) dX7_house_91 (by decide) (fun h91 => ?_) (fun h91 => ?_)
            · refine v_ild5 dX7_house_99 ?_
              refine v_ist5 dX7_house_101 (by decide) ?_
              refine v_ald0 dX7_house_103 ?_
              refine v_callVv (kM_putsBack E M2z) dX7_house_104 cX7_188 rfl sh_92 rfl (by decide) (Nat.le_of_ble_eq_true rfl) rfl (fun M3z hq3 => ?_)
              rw [hq3]
              clear hq3
              refine v_iincN6 (n := 1) dX7_house_107 (by decide) ?_
              refine v_goto (tgt := 43) dX7_house_110 (by decide) ?_
              refine v_fg7 ?_
              exact v_lo (by rw [show hsK (pfT tt T) (mv Mz) p n (k + 1) = hsK (pfT tt T) (mv Mz) p n k from if_neg (Int32.not_lt.mpr h75)]) (ih _ ⟨hd2.back.1, hd2.back.2⟩)
            · refine v_ild7 dX7_house_94 ?_
              refine v_goto (tgt := 101) dX7_house_96 (by decide) ?_
              refine v_ist5 dX7_house_101 (by decide) ?_
              refine v_ald0 dX7_house_103 ?_
              refine v_callVv (kM_putsBack E M2z) dX7_house_104 cX7_188 rfl sh_92 rfl (by decide) (Nat.le_of_ble_eq_true rfl) rfl (fun M3z hq3 => ?_)
              rw [hq3]
              clear hq3
              refine v_iincN6 (n := 1) dX7_house_107 (by decide) ?_
              refine v_goto (tgt := 43) dX7_house_110 (by decide) ?_
              exact absurd h75 h91
          · refine v_ild6 dX7_house_78 ?_
            refine v_goto (tgt := 85) dX7_house_80 (by decide) ?_
            refine v_ist4 dX7_house_85 (by decide) ?_
            refine v_ild7 dX7_house_87 ?_
            refine v_ild5 dX7_house_89 ?_
            refine v_icmp_le (tgt := 99) dX7_house_91 (by decide) (fun h91 => ?_) (fun h91 => ?_)
            · refine v_ild5 dX7_house_99 ?_
              refine v_ist5 dX7_house_101 (by decide) ?_
              refine v_ald0 dX7_house_103 ?_
              refine v_callVv (kM_putsBack E M2z) dX7_house_104 cX7_188 rfl sh_92 rfl (by decide) (Nat.le_of_ble_eq_true rfl) rfl (fun M3z hq3 => ?_)
              rw [hq3]
              clear hq3
              refine v_iincN6 (n := 1) dX7_house_107 (by decide) ?_
              refine v_goto (tgt := 43) dX7_house_110 (by decide) ?_
              exact absurd h91 h75
            · refine v_ild7 dX7_house_94 ?_
              refine v_goto (tgt := 101) dX7_house_96 (by decide) ?_
              refine v_ist5 dX7_house_101 (by decide) ?_
              refine v_ald0 dX7_house_103 ?_
              refine v_callVv (kM_putsBack E M2z) dX7_house_104 cX7_188 rfl sh_92 rfl (by decide) (Nat.le_of_ble_eq_true rfl) rfl (fun M3z hq3 => ?_)
              rw [hq3]
              clear hq3
              refine v_iincN6 (n := 1) dX7_house_107 (by decide) ?_
              refine v_goto (tgt := 43) dX7_house_110 (by decide) ?_
              refine v_fg7 ?_
              exact v_lo (by rw [show hsK (pfT tt T) (mv Mz) p n (k + 1) = (nI k, hsW (pfT tt T) (mv Mz) p n k) from if_pos (Int32.not_le.mp h75)]) (ih _ ⟨hd2.back.1, hd2.back.2⟩)
        · obtain ⟨hd, he⟩ := hM
          refine v_ild6 dX7_house_43 ?_
          refine v_bipushN (n := 8) dX7_house_45 (by decide) ?_
          refine v_icmpN_ge (tgt := 113) dX7_house_47 (by decide) (by omega) (by omega) (fun h47 => ?_) (fun h47 => absurd h47 (by decide))
          refine v_ild3 dX7_house_113 ?_
          refine v_if_ne (tgt := 122) dX7_house_114 (by decide) (fun h114 => ?_) (fun h114 => ?_)
          · refine v_ild5 dX7_house_122 ?_
            exact v_iret dX7_house_124 rfl (⟨by unfold R_house; rw [if_pos (by simp [gHs, b2_1.mp h5, b2_1.mp h15, b2_1.mp h24]), tN_n (by omega), tN_n (by omega), if_neg h114], hd.fin he⟩)
          · refine v_ild4 dX7_house_117 ?_
            refine v_goto (tgt := 124) dX7_house_119 (by decide) ?_
            exact v_iret dX7_house_124 rfl (⟨by unfold R_house; rw [if_pos (by simp [gHs, b2_1.mp h5, b2_1.mp h15, b2_1.mp h24]), tN_n (by omega), tN_n (by omega), if_pos h114], hd.fin he⟩)
      · refine v_ldc dX7_house_27 kX7_119 ?_
        exact v_iret dX7_house_29 rfl (⟨by unfold R_house; rw [if_neg (by simp [gHs, b2_1.mp h5, b2_1.mp h15, b2_0.mp h24])], FrD.rf Mz⟩)
set_option maxRecDepth 100000 in
set_option maxHeartbeats 4000000 in
theorem aM_becomes (E : ev) (Mz : mm) {x m u : Int32} {T : Nat} {tt : Nat → tx} (hI : CI (mv Mz) 10000) (hT : TxM Mz tt T) : Ct E 8 yX7_becomes cX7_becomes 8 (some .int) [.inr 92, .inl x, .inl m, .inl u] Mz (qI E (fun r M' => r = R_becomes (pfT tt T) (mv Mz) x m u ∧ FrD Mz M')) := by
  refine ct_of (by decide) (Nat.le_of_ble_eq_true rfl) ?_
  show V E 8 _ _ _ _ _ 0 [some (.inr 92), some (.inl x), some (.inl m), some (.inl u), none, none, none, none] [] Mz
  refine v_ald0 dX7_becomes_0 ?_
  refine v_ild1 dX7_becomes_1 ?_
  refine v_callVi (kM_isPerson E _) dX7_becomes_2 cX7_128 rfl sh_92 rfl (by decide) (Nat.le_of_ble_eq_true rfl) rfl (fun r M1z hq => ?_)
  obtain ⟨hr, hm⟩ := hq
  rw [hr, hm, show inB x (nI 0) (mv Mz 1 - nI 1) = isP (mv Mz) x from rfl]
  clear hr hm
  refine v_if_eq (tgt := 27) dX7_becomes_5 (by decide) (fun h5 => ?_) (fun h5 => ?_)
  · refine v_ldc dX7_becomes_27 kX7_119 ?_
    exact v_iret dX7_becomes_29 rfl (⟨by unfold R_becomes; rw [if_neg (by simp [gHs, b2_0.mp h5])], FrD.rf Mz⟩)
  · refine v_ild2 dX7_becomes_8 ?_
    refine v_iconstN (n := 1) dX7_becomes_9 ?_
    refine v_bipushN (n := 60) dX7_becomes_10 (by decide) ?_
    refine v_callSi (kM_in E _) dX7_becomes_12 cX7_75 rfl (by decide) (Nat.le_of_ble_eq_true rfl) rfl (fun r M1z hq => ?_)
    obtain ⟨hr, hm⟩ := hq
    rw [hr, hm]
    clear hr hm
    refine v_if_eq (tgt := 27) dX7_becomes_15 (by decide) (fun h15 => ?_) (fun h15 => ?_)
    · refine v_ldc dX7_becomes_27 kX7_119 ?_
      exact v_iret dX7_becomes_29 rfl (⟨by unfold R_becomes; rw [if_neg (by simp [gHs, b2_1.mp h5, b2_0.mp h15])], FrD.rf Mz⟩)
    · refine v_ild3 dX7_becomes_18 ?_
      refine v_iconstN (n := 0) dX7_becomes_19 ?_
      refine v_iconstN (n := 1) dX7_becomes_20 ?_
      refine v_callSi (kM_in E _) dX7_becomes_21 cX7_75 rfl (by decide) (Nat.le_of_ble_eq_true rfl) rfl (fun r M1z hq => ?_)
      obtain ⟨hr, hm⟩ := hq
      rw [hr, hm]
      clear hr hm
      refine v_if_ne (tgt := 30) dX7_becomes_24 (by decide) (fun h24 => ?_) (fun h24 => ?_)
      · obtain ⟨p, hpn, hp, rfl⟩ := isP_n hI (b2_1.mp h5)
        obtain ⟨n, hnl, hn, rfl⟩ := inB_n (by decide) (by decide) (b2_1.mp h15)
        obtain ⟨j, hjl, hj, rfl⟩ := inB_n (by decide) (by decide) (b2_1.mp h24)
        refine v_ald0 dX7_becomes_30 ?_
        refine v_callVv (kM_dreams E Mz) dX7_becomes_31 cX7_185 rfl sh_92 rfl (by decide) (Nat.le_of_ble_eq_true rfl) rfl (fun M1z hq => ?_)
        rw [hq]
        clear hq
        refine v_iconstN (n := 0) dX7_becomes_34 ?_
        refine v_ist4 dX7_becomes_35 (by decide) ?_
        refine v_iconst dX7_becomes_37 rfl ?_
        refine v_ist5 dX7_becomes_38 (by decide) ?_
        refine v_iconstN (n := 0) dX7_becomes_40 ?_
        refine v_ist6 dX7_becomes_41 (by decide) ?_
        refine v_loopP (pc := 43) (fun k _ => [some (.inr 92), some (.inl (nI p)), some (.inl (nI n)), some (.inl (nI j)), some (.inl (bcK (pfT tt T) (mv Mz) p n k).1), some (.inl (bcK (pfT tt T) (mv Mz) p n k).2), some (.inl (nI k)), none]) (fun k Mj => DR Mz Mj ∧ Mj 93 = Mz 93) (6) (rfl) (⟨DR.start Mz, wa_ne (by decide)⟩) (fun k Mj hk hM ih => ?_) (fun Mj hM => ?_)
        · obtain ⟨hd, he⟩ := hM
          refine v_ild6 dX7_becomes_43 ?_
          refine v_iconstN (n := 5) dX7_becomes_45 ?_
          refine v_icmpN_gt (tgt := 122) dX7_becomes_46 (by decide) (by omega) (by omega) (fun h46 => absurd h46 (by omega)) (fun h46 => ?_)
          refine v_ald0 dX7_becomes_49 ?_
          refine v_ild1 dX7_becomes_50 ?_
          refine v_iconstN (n := 0) dX7_becomes_51 ?_
          refine v_ild6 dX7_becomes_52 ?_
          refine v_callVv (kM_put E Mj hp (by decide)) dX7_becomes_54 cX7_115 rfl sh_92 rfl (by decide) (Nat.le_of_ble_eq_true rfl) rfl (fun M1z hq1 => ?_)
          rw [hq1]
          clear hq1
          have hmt : mv (wr Mj 93 (19 + 10 * p + 0) (nI k)) = upd (mv Mz) (19 + 10 * p) (nI k) := by rw [mv_u (by omega), mv_93 he, show 19 + 10 * p + 0 = 19 + 10 * p by omega]
          have hIt : CI (upd (mv Mz) (19 + 10 * p) (nI k)) 10000 := CI_kd hI (by omega)
          have hd1 : DR Mz (wr Mj 93 (19 + 10 * p + 0) (nI k)) := hd.fr (FrM.w _ (by omega))
          have hT1 : TxM (wr Mj 93 (19 + 10 * p + 0) (nI k)) tt T := hT.dr hd1 (by rw [hmt]; exact pk_un (by omega))
          refine v_ald0 dX7_becomes_57 ?_
          refine v_ild2 dX7_becomes_58 ?_
          refine v_callVv (kM_goesOn E _ (W := 10000) (by rw [hmt]; exact hIt) (by omega) hT1) dX7_becomes_59 cX7_172 rfl sh_92 rfl (by decide) (Nat.le_of_ble_eq_true rfl) rfl (fun M2z hq2 => ?_)
          obtain ⟨hv2, hf2⟩ := hq2
          rw [hmt] at hv2
          have hw2 : M2z 93 4 = bcW (pfT tt T) (mv Mz) p n k := by show mv M2z 4 = _; rw [hv2]; rfl
          have hd2 : DR Mz M2z := hd1.fr hf2
          refine v_ald0 dX7_becomes_62 ?_
          refine v_getr dX7_becomes_63 gX7_9 sh_92 rfl ?_
          refine v_iconstN (n := 4) dX7_becomes_66 ?_
          refine v_ialdN dX7_becomes_67 sh_93 (by omega) (by decide) ?_
          refine v_eq (hw2) ?_
          refine v_ist7 dX7_becomes_68 (by decide) ?_
          refine v_ild5 dX7_becomes_70 ?_
          refine v_if_lt (tgt := 82) dX7_becomes_72 (by decide) (fun h72 => ?_) (fun h72 => ?_)
          · refine v_ild6 dX7_becomes_82 ?_
            refine v_goto (tgt := 89) dX7_becomes_84 (by decide) ?_
            refine v_ist4 dX7_becomes_89 (by decide) ?_
            refine v_ild5 dX7_becomes_91 ?_
            refine v_if_lt (tgt := 103) dX7_becomes_93 (by decide) (fun h93 => ?_) (fun h93 => ?_)
            · refine v_ild7 dX7_becomes_103 ?_
              refine v_goto (tgt := 110) dX7_becomes_105 (by decide) ?_
              refine v_ist5 dX7_becomes_110 (by decide) ?_
              refine v_ald0 dX7_becomes_112 ?_
              refine v_callVv (kM_putsBack E M2z) dX7_becomes_113 cX7_188 rfl sh_92 rfl (by decide) (Nat.le_of_ble_eq_true rfl) rfl (fun M3z hq3 => ?_)
              rw [hq3]
              clear hq3
              refine v_iincN6 (n := 1) dX7_becomes_116 (by decide) ?_
              refine v_goto (tgt := 43) dX7_becomes_119 (by decide) ?_
              refine v_fg7 ?_
              exact v_lo (by rw [show bcK (pfT tt T) (mv Mz) p n (k + 1) = (nI k, bcW (pfT tt T) (mv Mz) p n k) from if_pos (Or.inl h72)]) (ih _ ⟨hd2.back.1, hd2.back.2⟩)
            · refine v_ild7 dX7_becomes_96 ?_
              refine v_ild5 dX7_becomes_98 ?_
              refine v_icmp_ge (tgt := 108) dX7_becomes_100 (by decide) (fun h100 => ?_) (fun h100 => ?_)
              · refine v_ild5 dX7_becomes_108 ?_
                refine v_ist5 dX7_becomes_110 (by decide) ?_
                refine v_ald0 dX7_becomes_112 ?_
                refine v_callVv (kM_putsBack E M2z) dX7_becomes_113 cX7_188 rfl sh_92 rfl (by decide) (Nat.le_of_ble_eq_true rfl) rfl (fun M3z hq3 => ?_)
                rw [hq3]
                clear hq3
                refine v_iincN6 (n := 1) dX7_becomes_116 (by decide) ?_
                refine v_goto (tgt := 43) dX7_becomes_119 (by decide) ?_
                exact absurd h72 h93
              · refine v_ild7 dX7_becomes_103 ?_
                refine v_goto (tgt := 110) dX7_becomes_105 (by decide) ?_
                refine v_ist5 dX7_becomes_110 (by decide) ?_
                refine v_ald0 dX7_becomes_112 ?_
                refine v_callVv (kM_putsBack E M2z) dX7_becomes_113 cX7_188 rfl sh_92 rfl (by decide) (Nat.le_of_ble_eq_true rfl) rfl (fun M3z hq3 => ?_)
                rw [hq3]
                clear hq3
                refine v_iincN6 (n := 1) dX7_becomes_116 (by decide) ?_
                refine v_goto (tgt := 43) dX7_becomes_119 (by decide) ?_
                exact absurd h72 h93
          · refine v_ild7 dX7_becomes_75 ?_
            refine v_ild5 dX7_becomes_77 ?_
            refine v_icmp_ge (tgt := 87) dX7_becomes_79 (by decide) (fun h79 => ?_) (fun h79 => ?_)
            · refine v_ild4 dX7_becomes_87 ?_
              refine v_ist4 dX7_becomes_89 (by decide) ?_
              refine v_ild5 dX7_becomes_91 ?_
              refine v_if_lt (tgt := 103) dX7_becomes_93 (by decide) (fun h93 => ?_) (fun h93 => ?_)
              · refine v_ild7 dX7_becomes_103 ?_
                refine v_goto (tgt := 110) dX7_becomes_105 (by decide) ?_
                refine v_ist5 dX7_becomes_110 (by decide) ?_
                refine v_ald0 dX7_becomes_112 ?_
                refine v_callVv (kM_putsBack E M2z) dX7_becomes_113 cX7_188 rfl sh_92 rfl (by decide) (Nat.le_of_ble_eq_true rfl) rfl (fun M3z hq3 => ?_)
                rw [hq3]
                clear hq3
                refine v_iincN6 (n := 1) dX7_becomes_116 (by decide) ?_
                refine v_goto (tgt := 43) dX7_becomes_119 (by decide) ?_
                exact absurd h93 h72
              · refine v_ild7 dX7_becomes_96 ?_
                refine v_ild5 dX7_becomes_98 ?_
                refine v_icmp_ge (tgt := 108) dX7_becomes_100 (by decide) (fun h100 => ?_) (fun h100 => ?_)
                · refine v_ild5 dX7_becomes_108 ?_
                  refine v_ist5 dX7_becomes_110 (by decide) ?_
                  refine v_ald0 dX7_becomes_112 ?_
                  refine v_callVv (kM_putsBack E M2z) dX7_becomes_113 cX7_188 rfl sh_92 rfl (by decide) (Nat.le_of_ble_eq_true rfl) rfl (fun M3z hq3 => ?_)
                  rw [hq3]
                  clear hq3
                  refine v_iincN6 (n := 1) dX7_becomes_116 (by decide) ?_
                  refine v_goto (tgt := 43) dX7_becomes_119 (by decide) ?_
                  refine v_fg7 ?_
                  exact v_lo (by rw [show bcK (pfT tt T) (mv Mz) p n (k + 1) = bcK (pfT tt T) (mv Mz) p n k from if_neg (fun q => q.elim h72 (Int32.not_lt.mpr h79))]) (ih _ ⟨hd2.back.1, hd2.back.2⟩)
                · refine v_ild7 dX7_becomes_103 ?_
                  refine v_goto (tgt := 110) dX7_becomes_105 (by decide) ?_
                  refine v_ist5 dX7_becomes_110 (by decide) ?_
                  refine v_ald0 dX7_becomes_112 ?_
                  refine v_callVv (kM_putsBack E M2z) dX7_becomes_113 cX7_188 rfl sh_92 rfl (by decide) (Nat.le_of_ble_eq_true rfl) rfl (fun M3z hq3 => ?_)
                  rw [hq3]
                  clear hq3
                  refine v_iincN6 (n := 1) dX7_becomes_116 (by decide) ?_
                  refine v_goto (tgt := 43) dX7_becomes_119 (by decide) ?_
                  exact absurd h79 h100
            · refine v_ild6 dX7_becomes_82 ?_
              refine v_goto (tgt := 89) dX7_becomes_84 (by decide) ?_
              refine v_ist4 dX7_becomes_89 (by decide) ?_
              refine v_ild5 dX7_becomes_91 ?_
              refine v_if_lt (tgt := 103) dX7_becomes_93 (by decide) (fun h93 => ?_) (fun h93 => ?_)
              · refine v_ild7 dX7_becomes_103 ?_
                refine v_goto (tgt := 110) dX7_becomes_105 (by decide) ?_
                refine v_ist5 dX7_becomes_110 (by decide) ?_
                refine v_ald0 dX7_becomes_112 ?_
                refine v_callVv (kM_putsBack E M2z) dX7_becomes_113 cX7_188 rfl sh_92 rfl (by decide) (Nat.le_of_ble_eq_true rfl) rfl (fun M3z hq3 => ?_)
                rw [hq3]
                clear hq3
                refine v_iincN6 (n := 1) dX7_becomes_116 (by decide) ?_
                refine v_goto (tgt := 43) dX7_becomes_119 (by decide) ?_
                exact absurd h93 h72
              · refine v_ild7 dX7_becomes_96 ?_
                refine v_ild5 dX7_becomes_98 ?_
                refine v_icmp_ge (tgt := 108) dX7_becomes_100 (by decide) (fun h100 => ?_) (fun h100 => ?_)
                · refine v_ild5 dX7_becomes_108 ?_
                  refine v_ist5 dX7_becomes_110 (by decide) ?_
                  refine v_ald0 dX7_becomes_112 ?_
                  refine v_callVv (kM_putsBack E M2z) dX7_becomes_113 cX7_188 rfl sh_92 rfl (by decide) (Nat.le_of_ble_eq_true rfl) rfl (fun M3z hq3 => ?_)
                  rw [hq3]
                  clear hq3
                  refine v_iincN6 (n := 1) dX7_becomes_116 (by decide) ?_
                  refine v_goto (tgt := 43) dX7_becomes_119 (by decide) ?_
                  exact absurd h100 h79
                · refine v_ild7 dX7_becomes_103 ?_
                  refine v_goto (tgt := 110) dX7_becomes_105 (by decide) ?_
                  refine v_ist5 dX7_becomes_110 (by decide) ?_
                  refine v_ald0 dX7_becomes_112 ?_
                  refine v_callVv (kM_putsBack E M2z) dX7_becomes_113 cX7_188 rfl sh_92 rfl (by decide) (Nat.le_of_ble_eq_true rfl) rfl (fun M3z hq3 => ?_)
                  rw [hq3]
                  clear hq3
                  refine v_iincN6 (n := 1) dX7_becomes_116 (by decide) ?_
                  refine v_goto (tgt := 43) dX7_becomes_119 (by decide) ?_
                  refine v_fg7 ?_
                  exact v_lo (by rw [show bcK (pfT tt T) (mv Mz) p n (k + 1) = (nI k, bcW (pfT tt T) (mv Mz) p n k) from if_pos (Or.inr (Int32.not_le.mp h79))]) (ih _ ⟨hd2.back.1, hd2.back.2⟩)
        · obtain ⟨hd, he⟩ := hM
          refine v_ild6 dX7_becomes_43 ?_
          refine v_iconstN (n := 5) dX7_becomes_45 ?_
          refine v_icmpN_gt (tgt := 122) dX7_becomes_46 (by decide) (by omega) (by omega) (fun h46 => ?_) (fun h46 => absurd h46 (by decide))
          refine v_ild3 dX7_becomes_122 ?_
          refine v_if_ne (tgt := 131) dX7_becomes_123 (by decide) (fun h123 => ?_) (fun h123 => ?_)
          · refine v_ild5 dX7_becomes_131 ?_
            exact v_iret dX7_becomes_133 rfl (⟨by unfold R_becomes; rw [if_pos (by simp [gHs, b2_1.mp h5, b2_1.mp h15, b2_1.mp h24]), tN_n (by omega), tN_n (by omega), if_neg h123], hd.fin he⟩)
          · refine v_ild4 dX7_becomes_126 ?_
            refine v_goto (tgt := 133) dX7_becomes_128 (by decide) ?_
            exact v_iret dX7_becomes_133 rfl (⟨by unfold R_becomes; rw [if_pos (by simp [gHs, b2_1.mp h5, b2_1.mp h15, b2_1.mp h24]), tN_n (by omega), tN_n (by omega), if_pos h123], hd.fin he⟩)
      · refine v_ldc dX7_becomes_27 kX7_119 ?_
        exact v_iret dX7_becomes_29 rfl (⟨by unfold R_becomes; rw [if_neg (by simp [gHs, b2_1.mp h5, b2_1.mp h15, b2_0.mp h24])], FrD.rf Mz⟩)
