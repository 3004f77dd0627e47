/-! how few -/
def fwK (g : Nat → Bool) : Nat → Int32
  | 0 => cNONE
  | j + 1 => if (fwK g j = cNONE ∨ popc j < popc (tN (fwK g j))) ∧ g j = true then nI j else fwK g j
def FW (g : Nat → Bool) (n : Nat) (r : Int32) : Prop := (r = cNONE ∧ ∀ s, s < n → g s = false) ∨ ∃ s, s < n ∧ r = nI s ∧ g s = true ∧ ∀ t, t < n → g t = true → popc s < popc t ∨ (popc s = popc t ∧ s ≤ t)
theorem fw_ok (g : Nat → Bool) : ∀ n, n ≤ 256 → FW g n (fwK g n)
  | 0, _ => Or.inl ⟨rfl, fun s h => by omega⟩
  | n + 1, hn => by
    have ih := fw_ok g n (by omega)
    unfold fwK
    split
    · rename_i h
      refine Or.inr ⟨n, by omega, rfl, h.2, fun t ht hg => ?_⟩
      by_cases e : t = n
      · subst e; exact Or.inr ⟨rfl, Nat.le_refl _⟩
      · rcases ih with ⟨-, h0⟩ | ⟨s, hs, e1, -, hm⟩
        · rw [h0 t (by omega)] at hg; exact absurd hg (by decide)
        · have h1 : popc n < popc s := by
            rcases h.1 with q | q
            · rw [e1] at q; exact absurd q (none_ne (by omega))
            · rw [e1, tN_n (by omega)] at q; exact q
          rcases hm t (by omega) hg with q | ⟨q, -⟩
          · exact Or.inl (by omega)
          · exact Or.inl (by omega)
    · rename_i h
      rcases ih with ⟨h1, h0⟩ | ⟨s, hs, e1, hgs, hm⟩
      · refine Or.inl ⟨h1, fun s hs => ?_⟩
        by_cases e : s = n
        · subst e
          cases hg : g s with
          | false => rfl
          | true => exact absurd ⟨Or.inl h1, hg⟩ h
        · exact h0 s (by omega)
      · refine Or.inr ⟨s, by omega, e1, hgs, fun t ht hg => ?_⟩
        by_cases e : t = n
        · subst e
          have : ¬ popc t < popc s := fun q => h ⟨Or.inr (by rw [e1, tN_n (by omega)]; exact q), hg⟩
          by_cases q : popc s = popc t
          · exact Or.inr ⟨q, by omega⟩
          · exact Or.inl (by omega)
        · exact hm t (by omega) hg
theorem FW.uniq {g : Nat → Bool} {n : Nat} {r r' : Int32} (h : FW g n r) (h' : FW g n r') : r = r' := by
  rcases h with ⟨e, h0⟩ | ⟨s, hs, e, hg, hm⟩
  · rcases h' with ⟨e', -⟩ | ⟨s', hs', -, hg', -⟩
    · rw [e, e']
    · rw [h0 s' hs'] at hg'; exact absurd hg' (by decide)
  · rcases h' with ⟨-, h0⟩ | ⟨s', hs', e', hg', hm'⟩
    · rw [h0 s hs] at hg; exact absurd hg (by decide)
    · have a := hm s' hs' hg'
      have b := hm' s hs hg
      rw [e, e', show s = s' by omega]
theorem pop_2 : ∀ t : Fin 256, ∀ p : Fin 9, t.val < 2 ^ p.val → popc t.val ≤ p.val := by decide +kernel
theorem pop_p {t p : Nat} (hp : p ≤ 8) (ht : t < 2 ^ p) : popc t ≤ p := pop_2 ⟨t, Nat.lt_of_lt_of_le ht (Nat.le_trans (Nat.pow_le_pow_right (by decide) hp) (by decide))⟩ ⟨p, by omega⟩ ht
def gFe (f c n : Int32) : Bool := isF f && inB c (nI 1) (nI 9) && inB n (nI 0) (nI 12)
def R_fewest (pf : p4) (v : fl) (f c n : Int32) : Int32 := if gFe f c n = true then fwK (gG pf v (tN f) c (tN n)) (2 ^ pn v) else cBAD
set_option maxRecDepth 100000 in
set_option maxHeartbeats 4000000 in
theorem aX_fewest (E : ev) (Mz : mm) {f c m : Int32} {T : Nat} {tt : Nat → tx} (hI : CI (cv Mz 38) 10000) (hT : TxC Mz 38 tt T) : Ct E 7 yX6_fewest cX6_fewest 7 (some .int) [.inr 0, .inl f, .inl c, .inl m] Mz (qI E (fun r M' => r = R_fewest (pfT tt T) (cv Mz 38) f c m ∧ FrX Mz M')) := by
  refine ct_of (by decide) (Nat.le_of_ble_eq_true rfl) ?_
  show V E 7 _ _ _ _ _ 0 [some (.inr 0), some (.inl f), some (.inl c), some (.inl m), none, none, none] [] Mz
  have hp8 := hI.pn.2
  have hpw : 2 ^ pn (cv Mz 38) ≤ 256 := Nat.le_trans (Nat.pow_le_pow_right (by decide) hp8) (by decide)
  refine v_ild1 dX6_fewest_0 ?_
  refine v_callSi (kX_noField E _) dX6_fewest_1 cX6_111 rfl (by decide) (Nat.le_of_ble_eq_true rfl) rfl (fun r M1z hq => ?_)
  obtain ⟨hr, hm⟩ := hq
  rw [hr, hm]
  clear hr hm
  refine v_if_ne (tgt := 27) dX6_fewest_4 (by decide) (fun h4 => ?_) (fun h4 => ?_)
  · refine v_ldc dX6_fewest_27 kX6_67 ?_
    exact v_iret dX6_fewest_29 rfl (⟨by unfold R_fewest; rw [if_neg (by simp [gFe, nb1 h4])], FrX.rf Mz⟩)
  · refine v_ild2 dX6_fewest_7 ?_
    refine v_iconstN (n := 1) dX6_fewest_8 ?_
    refine v_bipushN (n := 9) dX6_fewest_9 (by decide) ?_
    refine v_callSi (kX_outside E _) dX6_fewest_11 cX6_63 rfl (by decide) (Nat.le_of_ble_eq_true rfl) rfl (fun r M1z hq => ?_)
    obtain ⟨hr, hm⟩ := hq
    rw [hr, hm]
    clear hr hm
    refine v_if_ne (tgt := 27) dX6_fewest_14 (by decide) (fun h14 => ?_) (fun h14 => ?_)
    · refine v_ldc dX6_fewest_27 kX6_67 ?_
      exact v_iret dX6_fewest_29 rfl (⟨by unfold R_fewest; rw [if_neg (by simp [gFe, nb0 h4, nb1 h14])], FrX.rf Mz⟩)
    · refine v_ild3 dX6_fewest_17 ?_
      refine v_iconstN (n := 0) dX6_fewest_18 ?_
      refine v_bipushN (n := 12) dX6_fewest_19 (by decide) ?_
      refine v_callSi (kX_outside E _) dX6_fewest_21 cX6_63 rfl (by decide) (Nat.le_of_ble_eq_true rfl) rfl (fun r M1z hq => ?_)
      obtain ⟨hr, hm⟩ := hq
      rw [hr, hm]
      clear hr hm
      refine v_if_eq (tgt := 30) dX6_fewest_24 (by decide) (fun h24 => ?_) (fun h24 => ?_)
      · obtain ⟨g, hgl, hg, rfl⟩ := inB_n (by decide) (by decide) (nb0 h4)
        obtain ⟨k, hkl, hk, rfl⟩ := inB_n (by decide) (by decide) (nb0 h14)
        obtain ⟨n, hnl, hn, rfl⟩ := inB_n (by decide) (by decide) (nb0 h24)
        have hg6 : g < 6 := by omega
        have hcr : inR (nI k) 10 := inR_nI (by omega)
        refine v_iconstN (n := 1) dX6_fewest_30 ?_
        refine v_ald0 dX6_fewest_31 ?_
        refine v_getr dX6_fewest_32 gX6_28 sh_0 rfl ?_
        refine v_geti dX6_fewest_35 gX6_68 sh_38 rfl ?_
        refine v_eq (hI.pn.1) ?_
        refine v_ishl dX6_fewest_38 ?_
        refine v_eq (shl1 (by omega)) ?_
        refine v_ist4 dX6_fewest_39 (by decide) ?_
        refine v_iconstN (n := 0) dX6_fewest_41 ?_
        refine v_ist5 dX6_fewest_42 (by decide) ?_
        refine v_loopP (pc := 44) (fun i _ => [some (.inr 0), some (.inl (nI g)), some (.inl (nI k)), some (.inl (nI n)), some (.inl (nI (2 ^ pn (cv Mz 38)))), some (.inl (nI i)), none]) (fun i Mk => FrX Mz Mk ∧ ∀ t, t < 2 ^ pn (cv Mz 38) → popc t < i → gG (pfT tt T) (cv Mz 38) g (nI k) n t = false) (pn (cv Mz 38) + 1) (rfl) (⟨FrX.rf Mz, fun t _ h => by omega⟩) (fun i Mk hi hM ih => ?_) (fun Mk hM => ?_)
        · obtain ⟨hfr, hout⟩ := hM
          have hpk : Mk 38 1 = nI (pn (cv Mz 38)) := by rw [hfr 38 (by omega) (by omega) (by omega) (by omega)]; exact hI.pn.1
          refine v_ild5 dX6_fewest_44 ?_
          refine v_ald0 dX6_fewest_46 ?_
          refine v_getr dX6_fewest_47 gX6_28 sh_0 rfl ?_
          refine v_geti dX6_fewest_50 gX6_68 sh_38 rfl ?_
          refine v_eq (hpk) ?_
          refine v_icmpN_gt (tgt := 119) dX6_fewest_53 (by decide) (by omega) (by omega) (fun h53 => absurd h53 (by omega)) (fun h53 => ?_)
          refine v_iconstN (n := 0) dX6_fewest_56 ?_
          refine v_ist6 dX6_fewest_57 (by decide) ?_
          refine v_loopP (pc := 59) (fun j _ => [some (.inr 0), some (.inl (nI g)), some (.inl (nI k)), some (.inl (nI n)), some (.inl (nI (2 ^ pn (cv Mz 38)))), some (.inl (nI i)), some (.inl (nI j))]) (fun j Mj => FrX Mz Mj ∧ ∀ t, t < j → popc t = i → gG (pfT tt T) (cv Mz 38) g (nI k) n t = false) (2 ^ pn (cv Mz 38)) (rfl) (⟨hfr, fun t ht => by omega⟩) (fun j Mj hj hMj ihj => ?_) (fun Mj hMj => ?_)
          · obtain ⟨hfr, hin⟩ := hMj
            have hj256 : j < 256 := by omega
            have hv0 : cv Mj 38 = cv Mz 38 := cv_fr (by decide) hfr
            have hpj := popc_le j
            refine v_ild6 dX6_fewest_59 ?_
            refine v_ild4 dX6_fewest_61 ?_
            refine v_icmpN_ge (tgt := 113) dX6_fewest_63 (by decide) (by omega) (by omega) (fun h63 => absurd h63 (by omega)) (fun h63 => ?_)
            refine v_ild6 dX6_fewest_66 ?_
            refine v_callSi (kJ_bitCount E Mj hj256) dX6_fewest_68 cX6_185 rfl (by decide) (Nat.le_of_ble_eq_true rfl) rfl (fun r M1z hq => ?_)
            obtain ⟨hr, hm⟩ := hq
            rw [hr, hm]
            clear hr hm
            refine v_ild5 dX6_fewest_71 ?_
            refine v_icmpN_ne (tgt := 107) dX6_fewest_73 (by decide) (by omega) (by omega) (fun h73 => ?_) (fun h73 => ?_)
            · refine v_iincN6 (n := 1) dX6_fewest_107 (by decide) ?_
              refine v_goto (tgt := 59) dX6_fewest_110 (by decide) ?_
              exact ihj _ ⟨hfr, fun t ht hpt => if e : t = j then by subst e; exact absurd hpt h73 else hin t (by omega) hpt⟩
            · refine v_ald0 dX6_fewest_76 ?_
              refine v_ild6 dX6_fewest_77 ?_
              refine v_ild1 dX6_fewest_79 ?_
              refine v_ild2 dX6_fewest_80 ?_
              refine v_callVv (kX_tryTelling E Mj hj256 hg6 hcr (by rw [hv0]; exact hI) (hT.frX hfr)) dX6_fewest_81 cX6_182 rfl sh_0 rfl (by decide) (Nat.le_of_ble_eq_true rfl) rfl (fun M1z hq1 => ?_)
              obtain ⟨hv1, hf1, hT1⟩ := hq1
              rw [hv0] at hv1
              have hI1 : CI (cv M1z 56) 10000 := by rw [hv1]; exact (tl_ok hI hg6 hcr _ hp8).1
              refine v_ald0 dX6_fewest_84 ?_
              refine v_getr dX6_fewest_85 gX6_35 sh_0 rfl ?_
              refine v_ild3 dX6_fewest_88 ?_
              refine v_callVv (kC_pass E M1z CB.trial hI1 (by omega) hT1) dX6_fewest_89 cX6_160 rfl sh_56 rfl (by decide) (Nat.le_of_ble_eq_true rfl) rfl (fun M2z hq2 => ?_)
              obtain ⟨hv2, hf2⟩ := hq2
              have hI2 : CI (cv M2z 56) (10000 + n) := by rw [hv2]; exact (wks_ok (pfT_ok tt T) hI1 n (by omega)).1
              rw [hv1] at hv2
              refine v_ald0 dX6_fewest_92 ?_
              refine v_getr dX6_fewest_93 gX6_35 sh_0 rfl ?_
              refine v_ild1 dX6_fewest_96 ?_
              refine v_callVi (kC_firstCrop E M2z CB.trial hg6 hI2) dX6_fewest_97 cX6_131 rfl sh_56 rfl (by decide) (Nat.le_of_ble_eq_true rfl) rfl (fun r3 M3z hq3 => ?_)
              obtain ⟨hr3, hm3⟩ := hq3
              rw [hr3, hm3]
              clear hr3 hm3
              refine v_ild2 dX6_fewest_100 ?_
              refine v_icmp_ne (tgt := 107) dX6_fewest_101 (by decide) (fun h101 => ?_) (fun h101 => ?_)
              · refine v_iincN6 (n := 1) dX6_fewest_107 (by decide) ?_
                refine v_goto (tgt := 59) dX6_fewest_110 (by decide) ?_
                exact ihj _ ⟨hfr.tr (hf1.tr (FrX.c hf2)), fun t ht hpt => if e : t = j then by subst e; unfold gG; rw [← hv2]; exact decide_eq_false h101 else hin t (by omega) hpt⟩
              · refine v_ild6 dX6_fewest_104 ?_
                exact v_iret dX6_fewest_106 rfl (⟨by unfold R_fewest; rw [if_pos (by simp [gFe, nb0 h4, nb0 h14, nb0 h24]), tN_n (by omega), tN_n (by omega)]; exact FW.uniq (Or.inr ⟨j, hj, rfl, by unfold gG; rw [← hv2]; exact decide_eq_true h101, fun t ht hgt => if q : popc t < i then absurd hgt (by rw [hout t ht q]; decide) else if q2 : popc t = i then Or.inr ⟨by omega, if q3 : t < j then absurd hgt (by rw [hin t q3 q2]; decide) else by omega⟩ else Or.inl (by omega)⟩) (fw_ok _ _ hpw), hfr.tr (hf1.tr (FrX.c hf2))⟩)
          · obtain ⟨hfr, hin⟩ := hMj
            refine v_ild6 dX6_fewest_59 ?_
            refine v_ild4 dX6_fewest_61 ?_
            refine v_icmpN_ge (tgt := 113) dX6_fewest_63 (by decide) (by omega) (by omega) (fun h63 => ?_) (fun h63 => absurd h63 (by omega))
            refine v_iincN5 (n := 1) dX6_fewest_113 (by decide) ?_
            refine v_goto (tgt := 44) dX6_fewest_116 (by decide) ?_
            refine v_fg6 ?_
            exact ih _ ⟨hfr, fun t ht hpt => if q : popc t < i then hout t ht q else hin t ht (by omega)⟩
        · obtain ⟨hfr, hout⟩ := hM
          have hpk : Mk 38 1 = nI (pn (cv Mz 38)) := by rw [hfr 38 (by omega) (by omega) (by omega) (by omega)]; exact hI.pn.1
          refine v_ild5 dX6_fewest_44 ?_
          refine v_ald0 dX6_fewest_46 ?_
          refine v_getr dX6_fewest_47 gX6_28 sh_0 rfl ?_
          refine v_geti dX6_fewest_50 gX6_68 sh_38 rfl ?_
          refine v_eq (hpk) ?_
          refine v_icmpN_gt (tgt := 119) dX6_fewest_53 (by decide) (by omega) (by omega) (fun h53 => ?_) (fun h53 => absurd h53 (by omega))
          refine v_ldc dX6_fewest_119 kX6_181 ?_
          exact v_iret dX6_fewest_121 rfl (⟨by unfold R_fewest; rw [if_pos (by simp [gFe, nb0 h4, nb0 h14, nb0 h24]), tN_n (by omega), tN_n (by omega)]; exact FW.uniq (Or.inl ⟨rfl, fun t ht => hout t ht (by have := pop_p hp8 ht; omega)⟩) (fw_ok _ _ hpw), hfr⟩)
      · refine v_ldc dX6_fewest_27 kX6_67 ?_
        exact v_iret dX6_fewest_29 rfl (⟨by unfold R_fewest; rw [if_neg (by simp [gFe, nb0 h4, nb0 h14, nb1 h24])], FrX.rf Mz⟩)
set_option maxRecDepth 100000 in
set_option maxHeartbeats 4000000 in
theorem aM_fewest (E : ev) (Mz : mm) {f c m : Int32} {T : Nat} {tt : Nat → tx} (hI : CI (mv Mz) 10000) (hT : TxM Mz tt T) : Ct E 9 yX7_fewest cX7_fewest 7 (some .int) [.inr 92, .inl f, .inl c, .inl m] Mz (qI E (fun r M' => r = R_fewest (pfT tt T) (mv Mz) f c m ∧ FrD Mz M')) := by
  refine ct_of (by decide) (Nat.le_of_ble_eq_true rfl) ?_
  show V E 9 _ _ _ _ _ 0 [some (.inr 92), some (.inl f), some (.inl c), some (.inl m), none, none, none] [] Mz
  have hp8 := hI.pn.2
  have hpw : 2 ^ pn (mv Mz) ≤ 256 := Nat.le_trans (Nat.pow_le_pow_right (by decide) hp8) (by decide)
  refine v_ild1 dX7_fewest_0 ?_
  refine v_callSi (kM_isField E _) dX7_fewest_1 cX7_145 rfl (by decide) (Nat.le_of_ble_eq_true rfl) rfl (fun r M1z hq => ?_)
  obtain ⟨hr, hm⟩ := hq
  rw [hr, hm]
  clear hr hm
  refine v_if_eq (tgt := 27) dX7_fewest_4 (by decide) (fun h4 => ?_) (fun h4 => ?_)
  · refine v_ldc dX7_fewest_27 kX7_119 ?_
    exact v_iret dX7_fewest_29 rfl (⟨by unfold R_fewest; rw [if_neg (by simp [gFe, show isF f = false from b2_0.mp h4])], FrD.rf Mz⟩)
  · refine v_ild2 dX7_fewest_7 ?_
    refine v_iconstN (n := 1) dX7_fewest_8 ?_
    refine v_bipushN (n := 9) dX7_fewest_9 (by decide) ?_
    refine v_callSi (kM_in E _) dX7_fewest_11 cX7_75 rfl (by decide) (Nat.le_of_ble_eq_true rfl) rfl (fun r M1z hq => ?_)
    obtain ⟨hr, hm⟩ := hq
    rw [hr, hm]
    clear hr hm
    refine v_if_eq (tgt := 27) dX7_fewest_14 (by decide) (fun h14 => ?_) (fun h14 => ?_)
    · refine v_ldc dX7_fewest_27 kX7_119 ?_
      exact v_iret dX7_fewest_29 rfl (⟨by unfold R_fewest; rw [if_neg (by simp [gFe, show isF f = true from b2_1.mp h4, b2_0.mp h14])], FrD.rf Mz⟩)
    · refine v_ild3 dX7_fewest_17 ?_
      refine v_iconstN (n := 0) dX7_fewest_18 ?_
      refine v_bipushN (n := 12) dX7_fewest_19 (by decide) ?_
      refine v_callSi (kM_in E _) dX7_fewest_21 cX7_75 rfl (by decide) (Nat.le_of_ble_eq_true rfl) rfl (fun r M1z hq => ?_)
      obtain ⟨hr, hm⟩ := hq
      rw [hr, hm]
      clear hr hm
      refine v_if_ne (tgt := 30) dX7_fewest_24 (by decide) (fun h24 => ?_) (fun h24 => ?_)
      · obtain ⟨g, hgl, hg, rfl⟩ := inB_n (by decide) (by decide) (b2_1.mp h4)
        obtain ⟨k, hkl, hk, rfl⟩ := inB_n (by decide) (by decide) (b2_1.mp h14)
        obtain ⟨n, hnl, hn, rfl⟩ := inB_n (by decide) (by decide) (b2_1.mp h24)
        have hg6 : g < 6 := by omega
        have hcr : inR (nI k) 10 := inR_nI (by omega)
        refine v_ald0 dX7_fewest_30 ?_
        refine v_callVv (kM_dreams E Mz) dX7_fewest_31 cX7_185 rfl sh_92 rfl (by decide) (Nat.le_of_ble_eq_true rfl) rfl (fun M1z hq => ?_)
        rw [hq]
        clear hq
        refine v_ldc dX7_fewest_34 kX7_191 ?_
        refine v_ist4 dX7_fewest_36 (by decide) ?_
        refine v_iconstN (n := 0) dX7_fewest_38 ?_
        refine v_ist5 dX7_fewest_39 (by decide) ?_
        refine v_loopP (pc := 41) (fun j _ => [some (.inr 92), some (.inl (nI g)), some (.inl (nI k)), some (.inl (nI n)), some (.inl (fwK (gG (pfT tt T) (mv Mz) g (nI k) n) j)), some (.inl (nI j)), none]) (fun j Mj => DR Mz Mj ∧ Mj 93 = Mz 93) (2 ^ pn (mv Mz)) (rfl) (⟨DR.start Mz, wa_ne (by decide)⟩) (fun j Mj hj hM ih => ?_) (fun Mj hM => ?_)
        · obtain ⟨hd, he⟩ := hM
          have hpk : Mj 93 1 = nI (pn (mv Mz)) := by rw [he]; exact hI.pn.1
          have hj256 : j < 256 := by omega
          refine v_ild5 dX7_fewest_41 ?_
          refine v_iconstN (n := 1) dX7_fewest_43 ?_
          refine v_ald0 dX7_fewest_44 ?_
          refine v_getr dX7_fewest_45 gX7_9 sh_92 rfl ?_
          refine v_iconstN (n := 1) dX7_fewest_48 ?_
          refine v_ialdN dX7_fewest_49 sh_93 (by omega) (by decide) ?_
          refine v_eq (hpk) ?_
          refine v_ishl dX7_fewest_50 ?_
          refine v_eq (shl1 (by omega)) ?_
          refine v_icmpN_ge (tgt := 113) dX7_fewest_51 (by decide) (by omega) (by omega) (fun h51 => absurd h51 (by omega)) (fun h51 => ?_)
          refine v_ild4 dX7_fewest_54 ?_
          refine v_ldc dX7_fewest_56 kX7_191 ?_
          refine v_icmp_eq (tgt := 74) dX7_fewest_58 (by decide) (fun h58 => ?_) (fun h58 => ?_)
          · refine v_iconstN (n := 1) dX7_fewest_74 ?_
            refine v_goto (tgt := 79) dX7_fewest_75 (by decide) ?_
            refine v_ist6 dX7_fewest_79 (by decide) ?_
            refine v_ild6 dX7_fewest_81 ?_
            refine v_if_eq (tgt := 103) dX7_fewest_83 (by decide) (fun h83 => absurd h83 (by decide)) (fun h83 => ?_)
            refine v_ald0 dX7_fewest_86 ?_
            refine v_ild5 dX7_fewest_87 ?_
            refine v_ild1 dX7_fewest_89 ?_
            refine v_ild2 dX7_fewest_90 ?_
            refine v_ild3 dX7_fewest_91 ?_
            refine v_callVi (kM_doesGrow E Mj hj256 hg6 hcr (by omega) hI hT hd he) dX7_fewest_92 cX7_195 rfl sh_92 rfl (by decide) (Nat.le_of_ble_eq_true rfl) rfl (fun r3 M3z hq3 => ?_)
            obtain ⟨hr3, hd3, he3⟩ := hq3
            rw [hr3]
            refine v_if_eq (tgt := 103) dX7_fewest_95 (by decide) (fun h95 => ?_) (fun h95 => ?_)
            · refine v_ild4 dX7_fewest_103 ?_
              refine v_ist4 dX7_fewest_105 (by decide) ?_
              refine v_iincN5 (n := 1) dX7_fewest_107 (by decide) ?_
              refine v_goto (tgt := 41) dX7_fewest_110 (by decide) ?_
              refine v_fg6 ?_
              exact v_lo (by rw [show fwK (gG (pfT tt T) (mv Mz) g (nI k) n) (j + 1) = fwK (gG (pfT tt T) (mv Mz) g (nI k) n) j from if_neg (fun q => absurd q.2 (by rw [b2_0.mp h95]; decide))]) (ih _ ⟨hd3, he3⟩)
            · refine v_ild5 dX7_fewest_98 ?_
              refine v_goto (tgt := 105) dX7_fewest_100 (by decide) ?_
              refine v_ist4 dX7_fewest_105 (by decide) ?_
              refine v_iincN5 (n := 1) dX7_fewest_107 (by decide) ?_
              refine v_goto (tgt := 41) dX7_fewest_110 (by decide) ?_
              refine v_fg6 ?_
              exact v_lo (by rw [show fwK (gG (pfT tt T) (mv Mz) g (nI k) n) (j + 1) = nI j from if_pos ⟨Or.inl h58, b2_1.mp h95⟩]) (ih _ ⟨hd3, he3⟩)
          · obtain ⟨s0, hs0, he0, -⟩ := (fw_ok (gG (pfT tt T) (mv Mz) g (nI k) n) j (by omega)).resolve_left (fun q => h58 q.1)
            have hp1 := popc_le j
            have hp2 := popc_le s0
            refine v_lo (L' := [some (.inr 92), some (.inl (nI g)), some (.inl (nI k)), some (.inl (nI n)), some (.inl (nI s0)), some (.inl (nI j)), none]) (by rw [he0]) ?_
            refine v_ild5 dX7_fewest_61 ?_
            refine v_callSi (kM_bits E Mj (s := j) (by omega)) dX7_fewest_63 cX7_99 rfl (by decide) (Nat.le_of_ble_eq_true rfl) rfl (fun r M1z hq => ?_)
            obtain ⟨hr, hm⟩ := hq
            rw [hr, hm]
            clear hr hm
            refine v_ild4 dX7_fewest_66 ?_
            refine v_callSi (kM_bits E Mj (s := s0) (by omega)) dX7_fewest_68 cX7_99 rfl (by decide) (Nat.le_of_ble_eq_true rfl) rfl (fun r M1z hq => ?_)
            obtain ⟨hr, hm⟩ := hq
            rw [hr, hm]
            clear hr hm
            refine v_icmpN_ge (tgt := 78) dX7_fewest_71 (by decide) (by omega) (by omega) (fun h71 => ?_) (fun h71 => ?_)
            · refine v_iconstN (n := 0) dX7_fewest_78 ?_
              refine v_ist6 dX7_fewest_79 (by decide) ?_
              refine v_ild6 dX7_fewest_81 ?_
              refine v_if_eq (tgt := 103) dX7_fewest_83 (by decide) (fun h83 => ?_) (fun h83 => absurd h83 (by decide))
              refine v_ild4 dX7_fewest_103 ?_
              refine v_ist4 dX7_fewest_105 (by decide) ?_
              refine v_iincN5 (n := 1) dX7_fewest_107 (by decide) ?_
              refine v_goto (tgt := 41) dX7_fewest_110 (by decide) ?_
              refine v_fg6 ?_
              exact v_lo (by rw [show fwK (gG (pfT tt T) (mv Mz) g (nI k) n) (j + 1) = fwK (gG (pfT tt T) (mv Mz) g (nI k) n) j from if_neg (fun q => q.1.elim h58 (fun q => absurd q (by rw [he0, tN_n (by omega)]; omega)))]; rw [he0]) (ih _ ⟨hd, he⟩)
            · refine v_iconstN (n := 1) dX7_fewest_74 ?_
              refine v_goto (tgt := 79) dX7_fewest_75 (by decide) ?_
              refine v_ist6 dX7_fewest_79 (by decide) ?_
              refine v_ild6 dX7_fewest_81 ?_
              refine v_if_eq (tgt := 103) dX7_fewest_83 (by decide) (fun h83 => absurd h83 (by decide)) (fun h83 => ?_)
              refine v_ald0 dX7_fewest_86 ?_
              refine v_ild5 dX7_fewest_87 ?_
              refine v_ild1 dX7_fewest_89 ?_
              refine v_ild2 dX7_fewest_90 ?_
              refine v_ild3 dX7_fewest_91 ?_
              refine v_callVi (kM_doesGrow E Mj hj256 hg6 hcr (by omega) hI hT hd he) dX7_fewest_92 cX7_195 rfl sh_92 rfl (by decide) (Nat.le_of_ble_eq_true rfl) rfl (fun r3 M3z hq3 => ?_)
              obtain ⟨hr3, hd3, he3⟩ := hq3
              rw [hr3]
              refine v_if_eq (tgt := 103) dX7_fewest_95 (by decide) (fun h95 => ?_) (fun h95 => ?_)
              · refine v_ild4 dX7_fewest_103 ?_
                refine v_ist4 dX7_fewest_105 (by decide) ?_
                refine v_iincN5 (n := 1) dX7_fewest_107 (by decide) ?_
                refine v_goto (tgt := 41) dX7_fewest_110 (by decide) ?_
                refine v_fg6 ?_
                exact v_lo (by rw [show fwK (gG (pfT tt T) (mv Mz) g (nI k) n) (j + 1) = fwK (gG (pfT tt T) (mv Mz) g (nI k) n) j from if_neg (fun q => absurd q.2 (by rw [b2_0.mp h95]; decide))]; rw [he0]) (ih _ ⟨hd3, he3⟩)
              · refine v_ild5 dX7_fewest_98 ?_
                refine v_goto (tgt := 105) dX7_fewest_100 (by decide) ?_
                refine v_ist4 dX7_fewest_105 (by decide) ?_
                refine v_iincN5 (n := 1) dX7_fewest_107 (by decide) ?_
                refine v_goto (tgt := 41) dX7_fewest_110 (by decide) ?_
                refine v_fg6 ?_
                exact v_lo (by rw [show fwK (gG (pfT tt T) (mv Mz) g (nI k) n) (j + 1) = nI j from if_pos ⟨Or.inr (by rw [he0, tN_n (by omega)]; omega), b2_1.mp h95⟩]) (ih _ ⟨hd3, he3⟩)
        · obtain ⟨hd, he⟩ := hM
          have hpk : Mj 93 1 = nI (pn (mv Mz)) := by rw [he]; exact hI.pn.1
          refine v_ild5 dX7_fewest_41 ?_
          refine v_iconstN (n := 1) dX7_fewest_43 ?_
          refine v_ald0 dX7_fewest_44 ?_
          refine v_getr dX7_fewest_45 gX7_9 sh_92 rfl ?_
          refine v_iconstN (n := 1) dX7_fewest_48 ?_
          refine v_ialdN dX7_fewest_49 sh_93 (by omega) (by decide) ?_
          refine v_eq (hpk) ?_
          refine v_ishl dX7_fewest_50 ?_
          refine v_eq (shl1 (by omega)) ?_
          refine v_icmpN_ge (tgt := 113) dX7_fewest_51 (by decide) (by omega) (by omega) (fun h51 => ?_) (fun h51 => absurd h51 (by omega))
          refine v_ild4 dX7_fewest_113 ?_
          exact v_iret dX7_fewest_115 rfl (⟨by unfold R_fewest; rw [if_pos (by simp [gFe, show isF (nI g) = true from b2_1.mp h4, b2_1.mp h14, b2_1.mp h24]), tN_n (by omega), tN_n (by omega)], hd.fin he⟩)
      · refine v_ldc dX7_fewest_27 kX7_119 ?_
        exact v_iret dX7_fewest_29 rfl (⟨by unfold R_fewest; rw [if_neg (by simp [gFe, show isF f = true from b2_1.mp h4, b2_1.mp h14, b2_0.mp h24])], FrD.rf Mz⟩)
