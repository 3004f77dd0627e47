theorem tN_n {p : Nat} (h : p < 2 ^ 31) : tN (nI p) = p := nI_clamp h
def R_thought (v : fl) (x f : Int32) : Int32 := if (isP v x && isF f) = true then th v (tN x) (tN f) else cBAD
def R_says (v : fl) (x f : Int32) : Int32 := if (isP v x && isF f) = true then says v (tN x) (tN f) else cBAD
def R_heeds (pf : p4) (v : fl) (x f c : Int32) : Int32 := if (isP v x && isF f && inB c (nI 1) (nI 9)) = true then heed pf v (tN x) (tN f) c else cBAD
def R_lets (v : fl) (x f c : Int32) : Int32 := if (isP v x && isF f && inB c (nI 0) (nI 9)) = true then th v (tN x) (tN f) else cBAD
def F_lets (v : fl) (x f c : Int32) : fl := if (isP v x && isF f && inB c (nI 0) (nI 9)) = true then upd v (23 + 10 * tN x + tN f) c else v
def R_sow (v : fl) (f c : Int32) : Int32 := if (isF f && inB c (nI 0) (nI 9)) = true then sw v (tN f) else cBAD
def F_sow (v : fl) (f c : Int32) : fl := if (isF f && inB c (nI 0) (nI 9)) = true then upd v (7 + tN f) c else v
def R_votes (v : fl) (f c : Int32) : Int32 := if (isF f && inB c (nI 1) (nI 9)) = true then vot v (tN f) c else cBAD
def R_as (v : fl) (x k : Int32) : Int32 := if (isP v x && isF k) = true then (if unB (kd v (tN x)) k = true then su v (tN x) else cKIND) else cBAD
def R_turns (v : fl) (x k : Int32) : Int32 := if (isP v x && isF k) = true then kd v (tN x) else cBAD
def F_turns (v : fl) (x k : Int32) : fl := if (isP v x && isF k) = true then upd v (19 + 10 * tN x) k else v
def R_told (v : fl) (x u : Int32) : Int32 := if isP v x = true then (if u = 0 then kd v (tN x) else if u = 1 then pl v (tN x) else if u = 2 then tr v (tN x) else if u = 3 then su v (tN x) else if u = 4 then tabW (kd v (tN x)).toNatClampNeg else if u = 5 then nI (fldN v (tN x)) else if u = 6 then nI (hrsN v (tN x)) else cBAD) else cBAD
def R_field (v : fl) (f u : Int32) : Int32 := if isF f = true then (if u = 0 then sw v (tN f) else if u = 1 then gr v (tN f) else if u = 2 then fc v (tN f) else if u = 3 then (if fc v (tN f) = 0 then 0 else vot v (tN f) (fc v (tN f))) else if u = 4 then (if fc v (tN f) = 0 then nI 0 else nI (thkN v (tN f) (fc v (tN f)))) else cBAD) else cBAD
def R_county (v : fl) (u : Int32) : Int32 := if u = 0 then v 3 else if u = 1 then v 4 else if u = 2 then v 5 else if u = 3 then surK v (pn v) else if u = 4 then nI (agrN v) else cBAD
def setB (u y : Int32) : Bool := (decide (u = nI 1) && inB y (nI 0) (nI 7)) || (decide (u = nI 2) && inB y (nI 0) (nI 9)) || (decide (u = nI 3) && inB y (nI 0) (nI 99))
def R_set (v : fl) (x u y : Int32) : Int32 := if (isP v x && setB u y) = true then v (19 + 10 * tN x + tN u) else cBAD
def F_set (v : fl) (x u y : Int32) : fl := if (isP v x && setB u y) = true then upd v (19 + 10 * tN x + tN u) y else v
set_option maxRecDepth 100000 in
set_option maxHeartbeats 4000000 in
theorem aX_thought (E : ev) (Mz : mm) {x f : Int32} {W : Nat} (hI : CI (cv Mz 38) W) : Ct E 2 yX6_thought cX6_thought 3 (some .int) [.inr 0, .inl x, .inl f] Mz (qI E (fun r M' => r = R_thought (cv Mz 38) x f ∧ M' = Mz)) := by
  refine ct_of (by decide) (Nat.le_of_ble_eq_true rfl) ?_
  show V E 2 _ _ _ _ _ 0 [some (.inr 0), some (.inl x), some (.inl f)] [] Mz
  refine v_ald0 dX6_thought_0 ?_
  refine v_ild1 dX6_thought_1 ?_
  refine v_callVi (kX_noPerson E _) dX6_thought_2 cX6_77 rfl sh_0 rfl (by decide) (Nat.le_of_ble_eq_true rfl) rfl (fun r M1z hq => ?_)
  obtain ⟨hr, hm⟩ := hq
  rw [hr, hm]
  clear hr hm
  refine v_if_ne (tgt := 15) dX6_thought_5 (by decide) (fun h5 => ?_) (fun h5 => ?_)
  · refine v_ldc dX6_thought_15 kX6_67 ?_
    exact v_iret dX6_thought_17 rfl (⟨by unfold R_thought; rw [if_neg (by simp [nb1 h5])], rfl⟩)
  · refine v_ild2 dX6_thought_8 ?_
    refine v_callSi (kX_noField E _) dX6_thought_9 cX6_111 rfl (by decide) (Nat.le_of_ble_eq_true rfl) rfl (fun r M1z hq => ?_)
    obtain ⟨hr, hm⟩ := hq
    rw [hr, hm]
    clear hr hm
    refine v_if_eq (tgt := 18) dX6_thought_12 (by decide) (fun h12 => ?_) (fun h12 => ?_)
    · obtain ⟨p, hpn, hp, rfl⟩ := isP_n hI (nb0 h5)
      obtain ⟨g, hgl, hg, rfl⟩ := inB_n (by decide) (by decide) (nb0 h12)
      refine v_ald0 dX6_thought_18 ?_
      refine v_getr dX6_thought_19 gX6_28 sh_0 rfl ?_
      refine v_ild1 dX6_thought_22 ?_
      refine v_ild2 dX6_thought_23 ?_
      refine v_callVi (kC_thoughtOf E Mz CB.now hp (by omega)) dX6_thought_24 cX6_114 rfl sh_38 rfl (by decide) (Nat.le_of_ble_eq_true rfl) rfl (fun r M1z hq => ?_)
      obtain ⟨hr, hm⟩ := hq
      rw [hr, hm]
      clear hr hm
      exact v_iret dX6_thought_27 rfl (⟨by unfold R_thought; rw [if_pos (by simp [nb0 h5, nb0 h12]), tN_n (p := p) (by omega), tN_n (p := g) (by omega)], rfl⟩)
    · refine v_ldc dX6_thought_15 kX6_67 ?_
      exact v_iret dX6_thought_17 rfl (⟨by unfold R_thought; rw [if_neg (by simp [nb0 h5, nb1 h12])], rfl⟩)
set_option maxRecDepth 100000 in
set_option maxHeartbeats 4000000 in
theorem aM_thought (E : ev) (Mz : mm) {x f : Int32} {W : Nat} (hI : CI (mv Mz) W) : Ct E 2 yX7_thought cX7_thought 3 (some .int) [.inr 92, .inl x, .inl f] Mz (qI E (fun r M' => r = R_thought (mv Mz) x f ∧ M' = Mz)) := by
  refine ct_of (by decide) (Nat.le_of_ble_eq_true rfl) ?_
  show V E 2 _ _ _ _ _ 0 [some (.inr 92), some (.inl x), some (.inl f)] [] Mz
  refine v_ald0 dX7_thought_0 ?_
  refine v_ild1 dX7_thought_1 ?_
  refine v_callVi (kM_isPerson E _) dX7_thought_2 cX7_128 rfl sh_92 rfl (by decide) (Nat.le_of_ble_eq_true rfl) rfl (fun r M1z hq => ?_)
  obtain ⟨hr, hm⟩ := hq
  rw [hr, hm, show inB x (nI 0) (mv Mz 1 - nI 1) = isP (mv Mz) x from rfl]
  clear hr hm
  refine v_if_eq (tgt := 24) dX7_thought_5 (by decide) (fun h5 => ?_) (fun h5 => ?_)
  · refine v_ldc dX7_thought_24 kX7_119 ?_
    exact v_iret dX7_thought_26 rfl (⟨by unfold R_thought; rw [if_neg (by simp [b2_0.mp h5])], rfl⟩)
  · refine v_ild2 dX7_thought_8 ?_
    refine v_callSi (kM_isField E _) dX7_thought_9 cX7_145 rfl (by decide) (Nat.le_of_ble_eq_true rfl) rfl (fun r M1z hq => ?_)
    obtain ⟨hr, hm⟩ := hq
    rw [hr, hm]
    clear hr hm
    refine v_if_eq (tgt := 24) dX7_thought_12 (by decide) (fun h12 => ?_) (fun h12 => ?_)
    · refine v_ldc dX7_thought_24 kX7_119 ?_
      exact v_iret dX7_thought_26 rfl (⟨by unfold R_thought; rw [if_neg (by simp [b2_1.mp h5, b2_0.mp h12])], rfl⟩)
    · obtain ⟨p, hpn, hp, rfl⟩ := isP_n hI (b2_1.mp h5)
      obtain ⟨g, hgl, hg, rfl⟩ := inB_n (by decide) (by decide) (b2_1.mp h12)
      refine v_ald0 dX7_thought_15 ?_
      refine v_ild1 dX7_thought_16 ?_
      refine v_ild2 dX7_thought_17 ?_
      refine v_callVi (kM_thinks E Mz hp (by omega)) dX7_thought_18 cX7_83 rfl sh_92 rfl (by decide) (Nat.le_of_ble_eq_true rfl) rfl (fun r M1z hq => ?_)
      obtain ⟨hr, hm⟩ := hq
      rw [hr, hm]
      clear hr hm
      refine v_goto (tgt := 26) dX7_thought_21 (by decide) ?_
      exact v_iret dX7_thought_26 rfl (⟨by unfold R_thought; rw [if_pos (by simp [b2_1.mp h5, b2_1.mp h12]), tN_n (p := p) (by omega), tN_n (p := g) (by omega)], rfl⟩)
set_option maxRecDepth 100000 in
set_option maxHeartbeats 4000000 in
theorem aX_says (E : ev) (Mz : mm) {x f : Int32} {W : Nat} (hI : CI (cv Mz 38) W) : Ct E 5 yX6_says cX6_says 3 (some .int) [.inr 0, .inl x, .inl f] Mz (qI E (fun r M' => r = R_says (cv Mz 38) x f ∧ M' = Mz)) := by
  refine ct_of (by decide) (Nat.le_of_ble_eq_true rfl) ?_
  show V E 5 _ _ _ _ _ 0 [some (.inr 0), some (.inl x), some (.inl f)] [] Mz
  refine v_ald0 dX6_says_0 ?_
  refine v_ild1 dX6_says_1 ?_
  refine v_callVi (kX_noPerson E _) dX6_says_2 cX6_77 rfl sh_0 rfl (by decide) (Nat.le_of_ble_eq_true rfl) rfl (fun r M1z hq => ?_)
  obtain ⟨hr, hm⟩ := hq
  rw [hr, hm]
  clear hr hm
  refine v_if_ne (tgt := 15) dX6_says_5 (by decide) (fun h5 => ?_) (fun h5 => ?_)
  · refine v_ldc dX6_says_15 kX6_67 ?_
    exact v_iret dX6_says_17 rfl (⟨by unfold R_says; rw [if_neg (by simp [nb1 h5])], rfl⟩)
  · refine v_ild2 dX6_says_8 ?_
    refine v_callSi (kX_noField E _) dX6_says_9 cX6_111 rfl (by decide) (Nat.le_of_ble_eq_true rfl) rfl (fun r M1z hq => ?_)
    obtain ⟨hr, hm⟩ := hq
    rw [hr, hm]
    clear hr hm
    refine v_if_eq (tgt := 18) dX6_says_12 (by decide) (fun h12 => ?_) (fun h12 => ?_)
    · obtain ⟨p, hpn, hp, rfl⟩ := isP_n hI (nb0 h5)
      obtain ⟨g, hgl, hg, rfl⟩ := inB_n (by decide) (by decide) (nb0 h12)
      refine v_ald0 dX6_says_18 ?_
      refine v_getr dX6_says_19 gX6_28 sh_0 rfl ?_
      refine v_ild1 dX6_says_22 ?_
      refine v_ild2 dX6_says_23 ?_
      refine v_callVi (kC_wordOf E Mz CB.now hp (by omega) hI) dX6_says_24 cX6_121 rfl sh_38 rfl (by decide) (Nat.le_of_ble_eq_true rfl) rfl (fun r M1z hq => ?_)
      obtain ⟨hr, hm⟩ := hq
      rw [hr, hm]
      clear hr hm
      exact v_iret dX6_says_27 rfl (⟨by unfold R_says; rw [if_pos (by simp [nb0 h5, nb0 h12]), tN_n (p := p) (by omega), tN_n (p := g) (by omega)], rfl⟩)
    · refine v_ldc dX6_says_15 kX6_67 ?_
      exact v_iret dX6_says_17 rfl (⟨by unfold R_says; rw [if_neg (by simp [nb0 h5, nb1 h12])], rfl⟩)
set_option maxRecDepth 100000 in
set_option maxHeartbeats 4000000 in
theorem aM_says (E : ev) (Mz : mm) {x f : Int32} {W : Nat} (hI : CI (mv Mz) W) : Ct E 5 yX7_says cX7_says 3 (some .int) [.inr 92, .inl x, .inl f] Mz (qI E (fun r M' => r = R_says (mv Mz) x f ∧ M' = Mz)) := by
  refine ct_of (by decide) (Nat.le_of_ble_eq_true rfl) ?_
  show V E 5 _ _ _ _ _ 0 [some (.inr 92), some (.inl x), some (.inl f)] [] Mz
  refine v_ald0 dX7_says_0 ?_
  refine v_ild1 dX7_says_1 ?_
  refine v_callVi (kM_isPerson E _) dX7_says_2 cX7_128 rfl sh_92 rfl (by decide) (Nat.le_of_ble_eq_true rfl) rfl (fun r M1z hq => ?_)
  obtain ⟨hr, hm⟩ := hq
  rw [hr, hm, show inB x (nI 0) (mv Mz 1 - nI 1) = isP (mv Mz) x from rfl]
  clear hr hm
  refine v_if_eq (tgt := 24) dX7_says_5 (by decide) (fun h5 => ?_) (fun h5 => ?_)
  · refine v_ldc dX7_says_24 kX7_119 ?_
    exact v_iret dX7_says_26 rfl (⟨by unfold R_says; rw [if_neg (by simp [b2_0.mp h5])], rfl⟩)
  · refine v_ild2 dX7_says_8 ?_
    refine v_callSi (kM_isField E _) dX7_says_9 cX7_145 rfl (by decide) (Nat.le_of_ble_eq_true rfl) rfl (fun r M1z hq => ?_)
    obtain ⟨hr, hm⟩ := hq
    rw [hr, hm]
    clear hr hm
    refine v_if_eq (tgt := 24) dX7_says_12 (by decide) (fun h12 => ?_) (fun h12 => ?_)
    · refine v_ldc dX7_says_24 kX7_119 ?_
      exact v_iret dX7_says_26 rfl (⟨by unfold R_says; rw [if_neg (by simp [b2_1.mp h5, b2_0.mp h12])], rfl⟩)
    · obtain ⟨p, hpn, hp, rfl⟩ := isP_n hI (b2_1.mp h5)
      obtain ⟨g, hgl, hg, rfl⟩ := inB_n (by decide) (by decide) (b2_1.mp h12)
      refine v_ald0 dX7_says_15 ?_
      refine v_ild1 dX7_says_16 ?_
      refine v_ild2 dX7_says_17 ?_
      refine v_callVi (kM_saysOf E Mz hp (by omega) hI) dX7_says_18 cX7_148 rfl sh_92 rfl (by decide) (Nat.le_of_ble_eq_true rfl) rfl (fun r M1z hq => ?_)
      obtain ⟨hr, hm⟩ := hq
      rw [hr, hm]
      clear hr hm
      refine v_goto (tgt := 26) dX7_says_21 (by decide) ?_
      exact v_iret dX7_says_26 rfl (⟨by unfold R_says; rw [if_pos (by simp [b2_1.mp h5, b2_1.mp h12]), tN_n (p := p) (by omega), tN_n (p := g) (by omega)], rfl⟩)
set_option maxRecDepth 100000 in
set_option maxHeartbeats 4000000 in
theorem aX_heeds (E : ev) (Mz : mm) {x f c : Int32} {W T : Nat} {tt : Nat → tx} (hI : CI (cv Mz 38) W) (hT : TxC Mz 38 tt T) : Ct E 4 yX6_heeds cX6_heeds 4 (some .int) [.inr 0, .inl x, .inl f, .inl c] Mz (qI E (fun r M' => r = R_heeds (pfT tt T) (cv Mz 38) x f c ∧ Scr Mz M')) := by
  refine ct_of (by decide) (Nat.le_of_ble_eq_true rfl) ?_
  show V E 4 _ _ _ _ _ 0 [some (.inr 0), some (.inl x), some (.inl f), some (.inl c)] [] Mz
  refine v_ald0 dX6_heeds_0 ?_
  refine v_ild1 dX6_heeds_1 ?_
  refine v_callVi (kX_noPerson E _) dX6_heeds_2 cX6_77 rfl sh_0 rfl (by decide) (Nat.le_of_ble_eq_true rfl) rfl (fun r M1z hq => ?_)
  obtain ⟨hr, hm⟩ := hq
  rw [hr, hm]
  clear hr hm
  refine v_if_ne (tgt := 25) dX6_heeds_5 (by decide) (fun h5 => ?_) (fun h5 => ?_)
  · refine v_ldc dX6_heeds_25 kX6_67 ?_
    exact v_iret dX6_heeds_27 rfl (⟨by unfold R_heeds; rw [if_neg (by simp [nb1 h5])], Scr.rf Mz⟩)
  · refine v_ild2 dX6_heeds_8 ?_
    refine v_callSi (kX_noField E _) dX6_heeds_9 cX6_111 rfl (by decide) (Nat.le_of_ble_eq_true rfl) rfl (fun r M1z hq => ?_)
    obtain ⟨hr, hm⟩ := hq
    rw [hr, hm]
    clear hr hm
    refine v_if_ne (tgt := 25) dX6_heeds_12 (by decide) (fun h12 => ?_) (fun h12 => ?_)
    · refine v_ldc dX6_heeds_25 kX6_67 ?_
      exact v_iret dX6_heeds_27 rfl (⟨by unfold R_heeds; rw [if_neg (by simp [nb0 h5, nb1 h12])], Scr.rf Mz⟩)
    · refine v_ild3 dX6_heeds_15 ?_
      refine v_iconstN (n := 1) dX6_heeds_16 ?_
      refine v_bipushN (n := 9) dX6_heeds_17 (by decide) ?_
      refine v_callSi (kX_outside E _) dX6_heeds_19 cX6_63 rfl (by decide) (Nat.le_of_ble_eq_true rfl) rfl (fun r M1z hq => ?_)
      obtain ⟨hr, hm⟩ := hq
      rw [hr, hm]
      clear hr hm
      refine v_if_eq (tgt := 28) dX6_heeds_22 (by decide) (fun h22 => ?_) (fun h22 => ?_)
      · obtain ⟨p, hpn, hp, rfl⟩ := isP_n hI (nb0 h5)
        obtain ⟨g, hgl, hg, rfl⟩ := inB_n (by decide) (by decide) (nb0 h12)
        obtain ⟨k, hkl, hk, rfl⟩ := inB_n (by decide) (by decide) (nb0 h22)
        refine v_ald0 dX6_heeds_28 ?_
        refine v_getr dX6_heeds_29 gX6_28 sh_0 rfl ?_
        refine v_ild1 dX6_heeds_32 ?_
        refine v_ild2 dX6_heeds_33 ?_
        refine v_ild3 dX6_heeds_34 ?_
        refine v_callVi (kC_heedOf E Mz CB.now hp (by omega) hI hT (nI_ne0 (by omega) (by omega))) dX6_heeds_35 cX6_124 rfl sh_38 rfl (by decide) (Nat.le_of_ble_eq_true rfl) rfl (fun r M1z hq => ?_)
        obtain ⟨hr, hm⟩ := hq
        rw [hr]
        exact v_iret dX6_heeds_38 rfl (⟨by unfold R_heeds; rw [if_pos (by simp [nb0 h5, nb0 h12, nb0 h22]), tN_n (p := p) (by omega), tN_n (p := g) (by omega)], hm⟩)
      · refine v_ldc dX6_heeds_25 kX6_67 ?_
        exact v_iret dX6_heeds_27 rfl (⟨by unfold R_heeds; rw [if_neg (by simp [nb0 h5, nb0 h12, nb1 h22])], Scr.rf Mz⟩)
set_option maxRecDepth 100000 in
set_option maxHeartbeats 4000000 in
theorem aM_heeds (E : ev) (Mz : mm) {x f c : Int32} {W T : Nat} {tt : Nat → tx} (hI : CI (mv Mz) W) (hT : TxM Mz tt T) : Ct E 4 yX7_heeds cX7_heeds 4 (some .int) [.inr 92, .inl x, .inl f, .inl c] Mz (qI E (fun r M' => r = R_heeds (pfT tt T) (mv Mz) x f c ∧ ScM Mz M')) := by
  refine ct_of (by decide) (Nat.le_of_ble_eq_true rfl) ?_
  show V E 4 _ _ _ _ _ 0 [some (.inr 92), some (.inl x), some (.inl f), some (.inl c)] [] Mz
  refine v_ald0 dX7_heeds_0 ?_
  refine v_ild1 dX7_heeds_1 ?_
  refine v_callVi (kM_isPerson E _) dX7_heeds_2 cX7_128 rfl sh_92 rfl (by decide) (Nat.le_of_ble_eq_true rfl) rfl (fun r M1z hq => ?_)
  obtain ⟨hr, hm⟩ := hq
  rw [hr, hm, show inB x (nI 0) (mv Mz 1 - nI 1) = isP (mv Mz) x from rfl]
  clear hr hm
  refine v_if_eq (tgt := 35) dX7_heeds_5 (by decide) (fun h5 => ?_) (fun h5 => ?_)
  · refine v_ldc dX7_heeds_35 kX7_119 ?_
    exact v_iret dX7_heeds_37 rfl (⟨by unfold R_heeds; rw [if_neg (by simp [b2_0.mp h5])], ScM.rf Mz⟩)
  · refine v_ild2 dX7_heeds_8 ?_
    refine v_callSi (kM_isField E _) dX7_heeds_9 cX7_145 rfl (by decide) (Nat.le_of_ble_eq_true rfl) rfl (fun r M1z hq => ?_)
    obtain ⟨hr, hm⟩ := hq
    rw [hr, hm]
    clear hr hm
    refine v_if_eq (tgt := 35) dX7_heeds_12 (by decide) (fun h12 => ?_) (fun h12 => ?_)
    · refine v_ldc dX7_heeds_35 kX7_119 ?_
      exact v_iret dX7_heeds_37 rfl (⟨by unfold R_heeds; rw [if_neg (by simp [b2_1.mp h5, b2_0.mp h12])], ScM.rf Mz⟩)
    · refine v_ild3 dX7_heeds_15 ?_
      refine v_iconstN (n := 1) dX7_heeds_16 ?_
      refine v_bipushN (n := 9) dX7_heeds_17 (by decide) ?_
      refine v_callSi (kM_in E _) dX7_heeds_19 cX7_75 rfl (by decide) (Nat.le_of_ble_eq_true rfl) rfl (fun r M1z hq => ?_)
      obtain ⟨hr, hm⟩ := hq
      rw [hr, hm]
      clear hr hm
      refine v_if_eq (tgt := 35) dX7_heeds_22 (by decide) (fun h22 => ?_) (fun h22 => ?_)
      · refine v_ldc dX7_heeds_35 kX7_119 ?_
        exact v_iret dX7_heeds_37 rfl (⟨by unfold R_heeds; rw [if_neg (by simp [b2_1.mp h5, b2_1.mp h12, b2_0.mp h22])], ScM.rf Mz⟩)
      · obtain ⟨p, hpn, hp, rfl⟩ := isP_n hI (b2_1.mp h5)
        obtain ⟨g, hgl, hg, rfl⟩ := inB_n (by decide) (by decide) (b2_1.mp h12)
        obtain ⟨k, hkl, hk, rfl⟩ := inB_n (by decide) (by decide) (b2_1.mp h22)
        refine v_ald0 dX7_heeds_25 ?_
        refine v_ild1 dX7_heeds_26 ?_
        refine v_ild2 dX7_heeds_27 ?_
        refine v_ild3 dX7_heeds_28 ?_
        refine v_callVi (kM_heedsOf E Mz hp (by omega) hI hT) dX7_heeds_29 cX7_151 rfl sh_92 rfl (by decide) (Nat.le_of_ble_eq_true rfl) rfl (fun r M1z hq => ?_)
        obtain ⟨hr, hm⟩ := hq
        rw [hr]
        refine v_goto (tgt := 37) dX7_heeds_32 (by decide) ?_
        exact v_iret dX7_heeds_37 rfl (⟨by unfold R_heeds; rw [if_pos (by simp [b2_1.mp h5, b2_1.mp h12, b2_1.mp h22]), tN_n (p := p) (by omega), tN_n (p := g) (by omega)], hm⟩)
set_option maxRecDepth 100000 in
set_option maxHeartbeats 4000000 in
theorem aX_lets (E : ev) (Mz : mm) {x f c : Int32} {W : Nat} (hI : CI (cv Mz 38) W) : Ct E 2 yX6_lets cX6_lets 5 (some .int) [.inr 0, .inl x, .inl f, .inl c] Mz (qI E (fun r M' => r = R_lets (cv Mz 38) x f c ∧ cv M' 38 = F_lets (cv Mz 38) x f c ∧ FrC 38 Mz M')) := by
  refine ct_of (by decide) (Nat.le_of_ble_eq_true rfl) ?_
  show V E 2 _ _ _ _ _ 0 [some (.inr 0), some (.inl x), some (.inl f), some (.inl c), none] [] Mz
  refine v_ald0 dX6_lets_0 ?_
  refine v_ild1 dX6_lets_1 ?_
  refine v_callVi (kX_noPerson E _) dX6_lets_2 cX6_77 rfl sh_0 rfl (by decide) (Nat.le_of_ble_eq_true rfl) rfl (fun r M1z hq => ?_)
  obtain ⟨hr, hm⟩ := hq
  rw [hr, hm]
  clear hr hm
  refine v_if_ne (tgt := 25) dX6_lets_5 (by decide) (fun h5 => ?_) (fun h5 => ?_)
  · refine v_ldc dX6_lets_25 kX6_67 ?_
    exact v_iret dX6_lets_27 rfl (⟨by unfold R_lets; rw [if_neg (by simp [nb1 h5])], by unfold F_lets; rw [if_neg (by simp [nb1 h5])], FrC.rf 38 Mz⟩)
  · refine v_ild2 dX6_lets_8 ?_
    refine v_callSi (kX_noField E _) dX6_lets_9 cX6_111 rfl (by decide) (Nat.le_of_ble_eq_true rfl) rfl (fun r M1z hq => ?_)
    obtain ⟨hr, hm⟩ := hq
    rw [hr, hm]
    clear hr hm
    refine v_if_ne (tgt := 25) dX6_lets_12 (by decide) (fun h12 => ?_) (fun h12 => ?_)
    · refine v_ldc dX6_lets_25 kX6_67 ?_
      exact v_iret dX6_lets_27 rfl (⟨by unfold R_lets; rw [if_neg (by simp [nb0 h5, nb1 h12])], by unfold F_lets; rw [if_neg (by simp [nb0 h5, nb1 h12])], FrC.rf 38 Mz⟩)
    · refine v_ild3 dX6_lets_15 ?_
      refine v_iconstN (n := 0) dX6_lets_16 ?_
      refine v_bipushN (n := 9) dX6_lets_17 (by decide) ?_
      refine v_callSi (kX_outside E _) dX6_lets_19 cX6_63 rfl (by decide) (Nat.le_of_ble_eq_true rfl) rfl (fun r M1z hq => ?_)
      obtain ⟨hr, hm⟩ := hq
      rw [hr, hm]
      clear hr hm
      refine v_if_eq (tgt := 28) dX6_lets_22 (by decide) (fun h22 => ?_) (fun h22 => ?_)
      · obtain ⟨p, hpn, hp, rfl⟩ := isP_n hI (nb0 h5)
        obtain ⟨g, hgl, hg, rfl⟩ := inB_n (by decide) (by decide) (nb0 h12)
        obtain ⟨k, hkl, hk, rfl⟩ := inB_n (by decide) (by decide) (nb0 h22)
        refine v_ald0 dX6_lets_28 ?_
        refine v_getr dX6_lets_29 gX6_28 sh_0 rfl ?_
        refine v_ild1 dX6_lets_32 ?_
        refine v_ild2 dX6_lets_33 ?_
        refine v_callVi (kC_thoughtOf E Mz CB.now hp (by omega)) dX6_lets_34 cX6_114 rfl sh_38 rfl (by decide) (Nat.le_of_ble_eq_true rfl) rfl (fun r M1z hq => ?_)
        obtain ⟨hr, hm⟩ := hq
        rw [hr, hm]
        clear hr hm
        refine v_ist4 dX6_lets_37 (by decide) ?_
        refine v_ald0 dX6_lets_39 ?_
        refine v_getr dX6_lets_40 gX6_28 sh_0 rfl ?_
        refine v_ild1 dX6_lets_43 ?_
        refine v_ild2 dX6_lets_44 ?_
        refine v_ild3 dX6_lets_45 ?_
        refine v_callVv (kC_think E Mz CB.now hp (by omega)) dX6_lets_46 cX6_118 rfl sh_38 rfl (by decide) (Nat.le_of_ble_eq_true rfl) rfl (fun M2z hq2 => ?_)
        rw [hq2]
        clear hq2
        refine v_ild4 dX6_lets_49 ?_
        exact v_iret dX6_lets_51 rfl (⟨by unfold R_lets; rw [if_pos (by simp [nb0 h5, nb0 h12, nb0 h22]), tN_n (p := p) (by omega), tN_n (p := g) (by omega)], by unfold F_lets; rw [if_pos (by simp [nb0 h5, nb0 h12, nb0 h22]), tN_n (p := p) (by omega), tN_n (p := g) (by omega)]; exact cv_uth hp (by omega), FrC.w _ (by decide)⟩)
      · refine v_ldc dX6_lets_25 kX6_67 ?_
        exact v_iret dX6_lets_27 rfl (⟨by unfold R_lets; rw [if_neg (by simp [nb0 h5, nb0 h12, nb1 h22])], by unfold F_lets; rw [if_neg (by simp [nb0 h5, nb0 h12, nb1 h22])], FrC.rf 38 Mz⟩)
set_option maxRecDepth 100000 in
set_option maxHeartbeats 4000000 in
theorem aM_lets (E : ev) (Mz : mm) {x f c : Int32} {W : Nat} (hI : CI (mv Mz) W) : Ct E 2 yX7_lets cX7_lets 4 (some .int) [.inr 92, .inl x, .inl f, .inl c] Mz (qI E (fun r M' => r = R_lets (mv Mz) x f c ∧ mv M' = F_lets (mv Mz) x f c ∧ FrM Mz M')) := by
  refine ct_of (by decide) (Nat.le_of_ble_eq_true rfl) ?_
  show V E 2 _ _ _ _ _ 0 [some (.inr 92), some (.inl x), some (.inl f), some (.inl c)] [] Mz
  refine v_ald0 dX7_lets_0 ?_
  refine v_ild1 dX7_lets_1 ?_
  refine v_callVi (kM_isPerson E _) dX7_lets_2 cX7_128 rfl sh_92 rfl (by decide) (Nat.le_of_ble_eq_true rfl) rfl (fun r M1z hq => ?_)
  obtain ⟨hr, hm⟩ := hq
  rw [hr, hm, show inB x (nI 0) (mv Mz 1 - nI 1) = isP (mv Mz) x from rfl]
  clear hr hm
  refine v_if_eq (tgt := 44) dX7_lets_5 (by decide) (fun h5 => ?_) (fun h5 => ?_)
  · refine v_ldc dX7_lets_44 kX7_119 ?_
    exact v_iret dX7_lets_46 rfl (⟨by unfold R_lets; rw [if_neg (by simp [b2_0.mp h5])], by unfold F_lets; rw [if_neg (by simp [b2_0.mp h5])], FrM.rf Mz⟩)
  · refine v_ild2 dX7_lets_8 ?_
    refine v_callSi (kM_isField E _) dX7_lets_9 cX7_145 rfl (by decide) (Nat.le_of_ble_eq_true rfl) rfl (fun r M1z hq => ?_)
    obtain ⟨hr, hm⟩ := hq
    rw [hr, hm]
    clear hr hm
    refine v_if_eq (tgt := 44) dX7_lets_12 (by decide) (fun h12 => ?_) (fun h12 => ?_)
    · refine v_ldc dX7_lets_44 kX7_119 ?_
      exact v_iret dX7_lets_46 rfl (⟨by unfold R_lets; rw [if_neg (by simp [b2_1.mp h5, b2_0.mp h12])], by unfold F_lets; rw [if_neg (by simp [b2_1.mp h5, b2_0.mp h12])], FrM.rf Mz⟩)
    · refine v_ild3 dX7_lets_15 ?_
      refine v_iconstN (n := 0) dX7_lets_16 ?_
      refine v_bipushN (n := 9) dX7_lets_17 (by decide) ?_
      refine v_callSi (kM_in E _) dX7_lets_19 cX7_75 rfl (by decide) (Nat.le_of_ble_eq_true rfl) rfl (fun r M1z hq => ?_)
      obtain ⟨hr, hm⟩ := hq
      rw [hr, hm]
      clear hr hm
      refine v_if_eq (tgt := 44) dX7_lets_22 (by decide) (fun h22 => ?_) (fun h22 => ?_)
      · refine v_ldc dX7_lets_44 kX7_119 ?_
        exact v_iret dX7_lets_46 rfl (⟨by unfold R_lets; rw [if_neg (by simp [b2_1.mp h5, b2_1.mp h12, b2_0.mp h22])], by unfold F_lets; rw [if_neg (by simp [b2_1.mp h5, b2_1.mp h12, b2_0.mp h22])], FrM.rf Mz⟩)
      · obtain ⟨p, hpn, hp, rfl⟩ := isP_n hI (b2_1.mp h5)
        obtain ⟨g, hgl, hg, rfl⟩ := inB_n (by decide) (by decide) (b2_1.mp h12)
        obtain ⟨k, hkl, hk, rfl⟩ := inB_n (by decide) (by decide) (b2_1.mp h22)
        refine v_ald0 dX7_lets_25 ?_
        refine v_bipushN (n := 19) dX7_lets_26 (by decide) ?_
        refine v_bipushN (n := 10) dX7_lets_28 (by decide) ?_
        refine v_ild1 dX7_lets_30 ?_
        refine v_imulN dX7_lets_31 ?_
        refine v_iaddN dX7_lets_32 ?_
        refine v_iconstN (n := 4) dX7_lets_33 ?_
        refine v_iaddN dX7_lets_34 ?_
        refine v_ild2 dX7_lets_35 ?_
        refine v_iaddN dX7_lets_36 ?_
        refine v_ild3 dX7_lets_37 ?_
        refine v_callVi (kM_swaps E Mz (i := 19 + 10 * p + 4 + g) (by omega)) dX7_lets_38 cX7_142 rfl sh_92 rfl (by decide) (Nat.le_of_ble_eq_true rfl) rfl (fun r2 M2z hq2 => ?_)
        obtain ⟨hr2, hm2⟩ := hq2
        rw [hr2, hm2]
        refine v_goto (tgt := 46) dX7_lets_41 (by decide) ?_
        exact v_iret dX7_lets_46 rfl (⟨by unfold R_lets; rw [if_pos (by simp [b2_1.mp h5, b2_1.mp h12, b2_1.mp h22]), tN_n (p := p) (by omega), tN_n (p := g) (by omega)]; congr 1; omega, by unfold F_lets; rw [if_pos (by simp [b2_1.mp h5, b2_1.mp h12, b2_1.mp h22]), tN_n (p := p) (by omega), tN_n (p := g) (by omega)]; rw [mv_u (by omega), show 19 + 10 * p + 4 + g = 23 + 10 * p + g by omega], FrM.w _ (by omega)⟩)
set_option maxRecDepth 100000 in
set_option maxHeartbeats 4000000 in
theorem aX_sow (E : ev) (Mz : mm) {f c : Int32} {W : Nat} (hI : CI (cv Mz 38) W) : Ct E 2 yX6_sow cX6_sow 4 (some .int) [.inr 0, .inl f, .inl c] Mz (qI E (fun r M' => r = R_sow (cv Mz 38) f c ∧ cv M' 38 = F_sow (cv Mz 38) f c ∧ FrC 38 Mz M')) := by
  refine ct_of (by decide) (Nat.le_of_ble_eq_true rfl) ?_
  show V E 2 _ _ _ _ _ 0 [some (.inr 0), some (.inl f), some (.inl c), none] [] Mz
  refine v_ild1 dX6_sow_0 ?_
  refine v_callSi (kX_noField E _) dX6_sow_1 cX6_111 rfl (by decide) (Nat.le_of_ble_eq_true rfl) rfl (fun r M1z hq => ?_)
  obtain ⟨hr, hm⟩ := hq
  rw [hr, hm]
  clear hr hm
  refine v_if_ne (tgt := 17) dX6_sow_4 (by decide) (fun h4 => ?_) (fun h4 => ?_)
  · refine v_ldc dX6_sow_17 kX6_67 ?_
    exact v_iret dX6_sow_19 rfl (⟨by unfold R_sow; rw [if_neg (by simp [nb1 h4])], by unfold F_sow; rw [if_neg (by simp [nb1 h4])], FrC.rf 38 Mz⟩)
  · refine v_ild2 dX6_sow_7 ?_
    refine v_iconstN (n := 0) dX6_sow_8 ?_
    refine v_bipushN (n := 9) dX6_sow_9 (by decide) ?_
    refine v_callSi (kX_outside E _) dX6_sow_11 cX6_63 rfl (by decide) (Nat.le_of_ble_eq_true rfl) rfl (fun r M1z hq => ?_)
    obtain ⟨hr, hm⟩ := hq
    rw [hr, hm]
    clear hr hm
    refine v_if_eq (tgt := 20) dX6_sow_14 (by decide) (fun h14 => ?_) (fun h14 => ?_)
    · obtain ⟨g, hgl, hg, rfl⟩ := inB_n (by decide) (by decide) (nb0 h4)
      obtain ⟨k, hkl, hk, rfl⟩ := inB_n (by decide) (by decide) (nb0 h14)
      refine v_ald0 dX6_sow_20 ?_
      refine v_getr dX6_sow_21 gX6_28 sh_0 rfl ?_
      refine v_getr dX6_sow_24 gX6_128 sh_38 rfl ?_
      refine v_ild1 dX6_sow_27 ?_
      refine v_ialdN dX6_sow_28 sh_44 (by omega) (by decide) ?_
      refine v_ist3 dX6_sow_29 (by decide) ?_
      refine v_ald0 dX6_sow_30 ?_
      refine v_getr dX6_sow_31 gX6_28 sh_0 rfl ?_
      refine v_getr dX6_sow_34 gX6_128 sh_38 rfl ?_
      refine v_ild1 dX6_sow_37 ?_
      refine v_ild2 dX6_sow_38 ?_
      refine v_iastN dX6_sow_39 sh_44 (by omega) (by decide) ?_
      refine v_ild3 dX6_sow_40 ?_
      exact v_iret dX6_sow_41 rfl (⟨by unfold R_sow; rw [if_pos (by simp [nb0 h4, nb0 h14]), tN_n (p := g) (by omega)]; exact (cv_sw Mz 38 (by omega)).symm, by unfold F_sow; rw [if_pos (by simp [nb0 h4, nb0 h14]), tN_n (p := g) (by omega)]; exact cv_usw (c := 38) (by omega), FrC.w _ (by decide)⟩)
    · refine v_ldc dX6_sow_17 kX6_67 ?_
      exact v_iret dX6_sow_19 rfl (⟨by unfold R_sow; rw [if_neg (by simp [nb0 h4, nb1 h14])], by unfold F_sow; rw [if_neg (by simp [nb0 h4, nb1 h14])], FrC.rf 38 Mz⟩)
set_option maxRecDepth 100000 in
set_option maxHeartbeats 4000000 in
theorem aM_sow (E : ev) (Mz : mm) {f c : Int32} {W : Nat} (hI : CI (mv Mz) W) : Ct E 2 yX7_sow cX7_sow 3 (some .int) [.inr 92, .inl f, .inl c] Mz (qI E (fun r M' => r = R_sow (mv Mz) f c ∧ mv M' = F_sow (mv Mz) f c ∧ FrM Mz M')) := by
  refine ct_of (by decide) (Nat.le_of_ble_eq_true rfl) ?_
  show V E 2 _ _ _ _ _ 0 [some (.inr 92), some (.inl f), some (.inl c)] [] Mz
  refine v_ild1 dX7_sow_0 ?_
  refine v_callSi (kM_isField E _) dX7_sow_1 cX7_145 rfl (by decide) (Nat.le_of_ble_eq_true rfl) rfl (fun r M1z hq => ?_)
  obtain ⟨hr, hm⟩ := hq
  rw [hr, hm]
  clear hr hm
  refine v_if_eq (tgt := 29) dX7_sow_4 (by decide) (fun h4 => ?_) (fun h4 => ?_)
  · refine v_ldc dX7_sow_29 kX7_119 ?_
    exact v_iret dX7_sow_31 rfl (⟨by unfold R_sow; rw [if_neg (by simp [b2_0.mp h4])], by unfold F_sow; rw [if_neg (by simp [b2_0.mp h4])], FrM.rf Mz⟩)
  · refine v_ild2 dX7_sow_7 ?_
    refine v_iconstN (n := 0) dX7_sow_8 ?_
    refine v_bipushN (n := 9) dX7_sow_9 (by decide) ?_
    refine v_callSi (kM_in E _) dX7_sow_11 cX7_75 rfl (by decide) (Nat.le_of_ble_eq_true rfl) rfl (fun r M1z hq => ?_)
    obtain ⟨hr, hm⟩ := hq
    rw [hr, hm]
    clear hr hm
    refine v_if_eq (tgt := 29) dX7_sow_14 (by decide) (fun h14 => ?_) (fun h14 => ?_)
    · refine v_ldc dX7_sow_29 kX7_119 ?_
      exact v_iret dX7_sow_31 rfl (⟨by unfold R_sow; rw [if_neg (by simp [b2_1.mp h4, b2_0.mp h14])], by unfold F_sow; rw [if_neg (by simp [b2_1.mp h4, b2_0.mp h14])], FrM.rf Mz⟩)
    · obtain ⟨g, hgl, hg, rfl⟩ := inB_n (by decide) (by decide) (b2_1.mp h4)
      obtain ⟨k, hkl, hk, rfl⟩ := inB_n (by decide) (by decide) (b2_1.mp h14)
      refine v_ald0 dX7_sow_17 ?_
      refine v_bipushN (n := 7) dX7_sow_18 (by decide) ?_
      refine v_ild1 dX7_sow_20 ?_
      refine v_iaddN dX7_sow_21 ?_
      refine v_ild2 dX7_sow_22 ?_
      refine v_callVi (kM_swaps E Mz (i := 7 + g) (by omega)) dX7_sow_23 cX7_142 rfl sh_92 rfl (by decide) (Nat.le_of_ble_eq_true rfl) rfl (fun r2 M2z hq2 => ?_)
      obtain ⟨hr2, hm2⟩ := hq2
      rw [hr2, hm2]
      refine v_goto (tgt := 31) dX7_sow_26 (by decide) ?_
      exact v_iret dX7_sow_31 rfl (⟨by unfold R_sow; rw [if_pos (by simp [b2_1.mp h4, b2_1.mp h14]), tN_n (p := g) (by omega)], by unfold F_sow; rw [if_pos (by simp [b2_1.mp h4, b2_1.mp h14]), tN_n (p := g) (by omega)]; exact mv_u (by omega), FrM.w _ (by omega)⟩)
set_option maxRecDepth 100000 in
set_option maxHeartbeats 4000000 in
theorem aX_votes (E : ev) (Mz : mm) {f c : Int32} {W : Nat} (hI : CI (cv Mz 38) W) : Ct E 2 yX6_votes cX6_votes 3 (some .int) [.inr 0, .inl f, .inl c] Mz (qI E (fun r M' => r = R_votes (cv Mz 38) f c ∧ M' = Mz)) := by
  refine ct_of (by decide) (Nat.le_of_ble_eq_true rfl) ?_
  show V E 2 _ _ _ _ _ 0 [some (.inr 0), some (.inl f), some (.inl c)] [] Mz
  refine v_ild1 dX6_votes_0 ?_
  refine v_callSi (kX_noField E _) dX6_votes_1 cX6_111 rfl (by decide) (Nat.le_of_ble_eq_true rfl) rfl (fun r M1z hq => ?_)
  obtain ⟨hr, hm⟩ := hq
  rw [hr, hm]
  clear hr hm
  refine v_if_ne (tgt := 17) dX6_votes_4 (by decide) (fun h4 => ?_) (fun h4 => ?_)
  · refine v_ldc dX6_votes_17 kX6_67 ?_
    exact v_iret dX6_votes_19 rfl (⟨by unfold R_votes; rw [if_neg (by simp [nb1 h4])], rfl⟩)
  · refine v_ild2 dX6_votes_7 ?_
    refine v_iconstN (n := 1) dX6_votes_8 ?_
    refine v_bipushN (n := 9) dX6_votes_9 (by decide) ?_
    refine v_callSi (kX_outside E _) dX6_votes_11 cX6_63 rfl (by decide) (Nat.le_of_ble_eq_true rfl) rfl (fun r M1z hq => ?_)
    obtain ⟨hr, hm⟩ := hq
    rw [hr, hm]
    clear hr hm
    refine v_if_eq (tgt := 20) dX6_votes_14 (by decide) (fun h14 => ?_) (fun h14 => ?_)
    · obtain ⟨g, hgl, hg, rfl⟩ := inB_n (by decide) (by decide) (nb0 h4)
      obtain ⟨k, hkl, hk, rfl⟩ := inB_n (by decide) (by decide) (nb0 h14)
      refine v_ald0 dX6_votes_20 ?_
      refine v_getr dX6_votes_21 gX6_28 sh_0 rfl ?_
      refine v_ild1 dX6_votes_24 ?_
      refine v_ild2 dX6_votes_25 ?_
      refine v_callVi (kC_votesFor E Mz CB.now (by omega) hI) dX6_votes_26 cX6_137 rfl sh_38 rfl (by decide) (Nat.le_of_ble_eq_true rfl) rfl (fun r M1z hq => ?_)
      obtain ⟨hr, hm⟩ := hq
      rw [hr, hm, if_neg (nI_ne0 (by omega) (by omega))]
      clear hr hm
      exact v_iret dX6_votes_29 rfl (⟨by unfold R_votes; rw [if_pos (by simp [nb0 h4, nb0 h14]), tN_n (p := g) (by omega)], rfl⟩)
    · refine v_ldc dX6_votes_17 kX6_67 ?_
      exact v_iret dX6_votes_19 rfl (⟨by unfold R_votes; rw [if_neg (by simp [nb0 h4, nb1 h14])], rfl⟩)
set_option maxRecDepth 100000 in
set_option maxHeartbeats 4000000 in
theorem aM_votes (E : ev) (Mz : mm) {f c : Int32} {W : Nat} (hI : CI (mv Mz) W) : Ct E 3 yX7_votes cX7_votes 3 (some .int) [.inr 92, .inl f, .inl c] Mz (qI E (fun r M' => r = R_votes (mv Mz) f c ∧ M' = Mz)) := by
  refine ct_of (by decide) (Nat.le_of_ble_eq_true rfl) ?_
  show V E 3 _ _ _ _ _ 0 [some (.inr 92), some (.inl f), some (.inl c)] [] Mz
  refine v_ild1 dX7_votes_0 ?_
  refine v_callSi (kM_isField E _) dX7_votes_1 cX7_145 rfl (by decide) (Nat.le_of_ble_eq_true rfl) rfl (fun r M1z hq => ?_)
  obtain ⟨hr, hm⟩ := hq
  rw [hr, hm]
  clear hr hm
  refine v_if_eq (tgt := 26) dX7_votes_4 (by decide) (fun h4 => ?_) (fun h4 => ?_)
  · refine v_ldc dX7_votes_26 kX7_119 ?_
    exact v_iret dX7_votes_28 rfl (⟨by unfold R_votes; rw [if_neg (by simp [b2_0.mp h4])], rfl⟩)
  · refine v_ild2 dX7_votes_7 ?_
    refine v_iconstN (n := 1) dX7_votes_8 ?_
    refine v_bipushN (n := 9) dX7_votes_9 (by decide) ?_
    refine v_callSi (kM_in E _) dX7_votes_11 cX7_75 rfl (by decide) (Nat.le_of_ble_eq_true rfl) rfl (fun r M1z hq => ?_)
    obtain ⟨hr, hm⟩ := hq
    rw [hr, hm]
    clear hr hm
    refine v_if_eq (tgt := 26) dX7_votes_14 (by decide) (fun h14 => ?_) (fun h14 => ?_)
    · refine v_ldc dX7_votes_26 kX7_119 ?_
      exact v_iret dX7_votes_28 rfl (⟨by unfold R_votes; rw [if_neg (by simp [b2_1.mp h4, b2_0.mp h14])], rfl⟩)
    · obtain ⟨g, hgl, hg, rfl⟩ := inB_n (by decide) (by decide) (b2_1.mp h4)
      obtain ⟨k, hkl, hk, rfl⟩ := inB_n (by decide) (by decide) (b2_1.mp h14)
      refine v_ald0 dX7_votes_17 ?_
      refine v_ild1 dX7_votes_18 ?_
      refine v_ild2 dX7_votes_19 ?_
      refine v_callVi (kM_votesFor E Mz (by omega) hI) dX7_votes_20 cX7_90 rfl sh_92 rfl (by decide) (Nat.le_of_ble_eq_true rfl) rfl (fun r M1z hq => ?_)
      obtain ⟨hr, hm⟩ := hq
      rw [hr, hm]
      clear hr hm
      refine v_goto (tgt := 28) dX7_votes_23 (by decide) ?_
      exact v_iret dX7_votes_28 rfl (⟨by unfold R_votes; rw [if_pos (by simp [b2_1.mp h4, b2_1.mp h14]), tN_n (p := g) (by omega)], rfl⟩)
set_option maxRecDepth 100000 in
set_option maxHeartbeats 4000000 in
theorem aX_as (E : ev) (Mz : mm) {x k : Int32} {W : Nat} (hI : CI (cv Mz 38) W) : Ct E 2 yX6_as cX6_as 3 (some .int) [.inr 0, .inl x, .inl k] Mz (qI E (fun r M' => r = R_as (cv Mz 38) x k ∧ M' = Mz)) := by
  refine ct_of (by decide) (Nat.le_of_ble_eq_true rfl) ?_
  show V E 2 _ _ _ _ _ 0 [some (.inr 0), some (.inl x), some (.inl k)] [] Mz
  refine v_ald0 dX6_as_0 ?_
  refine v_ild1 dX6_as_1 ?_
  refine v_callVi (kX_noPerson E _) dX6_as_2 cX6_77 rfl sh_0 rfl (by decide) (Nat.le_of_ble_eq_true rfl) rfl (fun r M1z hq => ?_)
  obtain ⟨hr, hm⟩ := hq
  rw [hr, hm]
  clear hr hm
  refine v_if_ne (tgt := 15) dX6_as_5 (by decide) (fun h5 => ?_) (fun h5 => ?_)
  · refine v_ldc dX6_as_15 kX6_67 ?_
    exact v_iret dX6_as_17 rfl (⟨by unfold R_as; rw [if_neg (by simp [nb1 h5])], rfl⟩)
  · refine v_ild2 dX6_as_8 ?_
    refine v_callSi (kX_noKind E _) dX6_as_9 cX6_59 rfl (by decide) (Nat.le_of_ble_eq_true rfl) rfl (fun r M1z hq => ?_)
    obtain ⟨hr, hm⟩ := hq
    rw [hr, hm]
    clear hr hm
    refine v_if_eq (tgt := 18) dX6_as_12 (by decide) (fun h12 => ?_) (fun h12 => ?_)
    · obtain ⟨p, hpn, hp, rfl⟩ := isP_n hI (nb0 h5)
      obtain ⟨g, hgl, hg, rfl⟩ := inB_n (by decide) (by decide) (nb0 h12)
      obtain ⟨ke, hk6, hke⟩ := hI.kd hp
      refine v_ald0 dX6_as_18 ?_
      refine v_getr dX6_as_19 gX6_28 sh_0 rfl ?_
      refine v_getr dX6_as_22 gX6_80 sh_38 rfl ?_
      refine v_ild1 dX6_as_25 ?_
      refine v_ialdN dX6_as_26 sh_39 (by omega) (by decide) ?_
      refine v_eq ((cv_kd Mz 38 hp).symm.trans hke) ?_
      refine v_ild2 dX6_as_27 ?_
      refine v_callSi (kX_isOf E Mz hk6 (by omega)) dX6_as_28 cX6_102 rfl (by decide) (Nat.le_of_ble_eq_true rfl) rfl (fun r M1z hq => ?_)
      obtain ⟨hr, hm⟩ := hq
      rw [hr, hm]
      clear hr hm
      refine v_if_eq (tgt := 46) dX6_as_31 (by decide) (fun h31 => ?_) (fun h31 => ?_)
      · refine v_ldc dX6_as_46 kX6_106 ?_
        exact v_iret dX6_as_48 rfl (⟨by unfold R_as; rw [if_pos (by simp [nb0 h5, nb0 h12]), tN_n (p := p) (by omega), show kd (cv Mz 38) p = nI ke from hke, if_neg (by rw [b2_0.mp h31]; exact Bool.false_ne_true)], rfl⟩)
      · refine v_ald0 dX6_as_34 ?_
        refine v_getr dX6_as_35 gX6_28 sh_0 rfl ?_
        refine v_getr dX6_as_38 gX6_89 sh_38 rfl ?_
        refine v_ild1 dX6_as_41 ?_
        refine v_ialdN dX6_as_42 sh_42 (by omega) (by decide) ?_
        refine v_eq ((cv_su Mz 38 hp).symm) ?_
        refine v_goto (tgt := 48) dX6_as_43 (by decide) ?_
        exact v_iret dX6_as_48 rfl (⟨by unfold R_as; rw [if_pos (by simp [nb0 h5, nb0 h12]), tN_n (p := p) (by omega), show kd (cv Mz 38) p = nI ke from hke, if_pos (by rw [b2_1.mp h31])], rfl⟩)
    · refine v_ldc dX6_as_15 kX6_67 ?_
      exact v_iret dX6_as_17 rfl (⟨by unfold R_as; rw [if_neg (by simp [nb0 h5, nb1 h12])], rfl⟩)
set_option maxRecDepth 100000 in
set_option maxHeartbeats 4000000 in
theorem kM_isUnder (E : ev) (Mz : mm) {a b : Int32} : Ct E 0 yX7_isUnder cX7_isUnder 2 (some .boolean) [.inl a, .inl b] Mz (qI E (fun r M' => r = b2 (unB a b) ∧ M' = Mz)) := by
  refine ct_of (by decide) (Nat.le_of_ble_eq_true rfl) ?_
  show V E 0 _ _ _ _ _ 0 [some (.inl a), some (.inl b)] [] Mz
  refine v_ild1 dX7_isUnder_0 ?_
  refine v_if_eq (tgt := 29) dX7_isUnder_1 (by decide) (fun h1 => ?_) (fun h1 => ?_)
  · refine v_iconstN (n := 1) dX7_isUnder_29 ?_
    refine v_goto (tgt := 34) dX7_isUnder_30 (by decide) ?_
    exact v_zret dX7_isUnder_34 rfl (by decide +kernel) (⟨by unfold unB; rw [decide_eq_true (show b = nI 0 from h1)]; first | rfl | (cases decide (a = b) <;> rfl) | (cases decide (a = b) <;> cases decide (b = nI 0) <;> rfl) | (simp [b2]; rfl), rfl⟩)
  · refine v_ild0 dX7_isUnder_4 ?_
    refine v_ild1 dX7_isUnder_5 ?_
    refine v_icmp_eq (tgt := 29) dX7_isUnder_6 (by decide) (fun h6 => ?_) (fun h6 => ?_)
    · refine v_iconstN (n := 1) dX7_isUnder_29 ?_
      refine v_goto (tgt := 34) dX7_isUnder_30 (by decide) ?_
      exact v_zret dX7_isUnder_34 rfl (by decide +kernel) (⟨by unfold unB; rw [decide_eq_false (show ¬ b = nI 0 from h1), decide_eq_true (show a = b from h6)]; first | rfl | (cases decide (a = b) <;> rfl) | (cases decide (a = b) <;> cases decide (b = nI 0) <;> rfl) | (simp [b2]; rfl), rfl⟩)
    · refine v_ild1 dX7_isUnder_9 ?_
      refine v_iconstN (n := 1) dX7_isUnder_10 ?_
      refine v_icmp_ne (tgt := 19) dX7_isUnder_11 (by decide) (fun h11 => ?_) (fun h11 => ?_)
      · refine v_ild1 dX7_isUnder_19 ?_
        refine v_iconstN (n := 2) dX7_isUnder_20 ?_
        refine v_icmp_ne (tgt := 33) dX7_isUnder_21 (by decide) (fun h21 => ?_) (fun h21 => ?_)
        · refine v_iconstN (n := 0) dX7_isUnder_33 ?_
          exact v_zret dX7_isUnder_34 rfl (by decide +kernel) (⟨by unfold unB; rw [decide_eq_false (show ¬ b = nI 0 from h1), decide_eq_false (show ¬ a = b from h6), decide_eq_false (show ¬ b = nI 1 from h11), decide_eq_false (show ¬ b = nI 2 from h21)]; first | rfl | (cases decide (a = b) <;> rfl) | (cases decide (a = b) <;> cases decide (b = nI 0) <;> rfl) | (simp [b2]; rfl), rfl⟩)
        · refine v_ild0 dX7_isUnder_24 ?_
          refine v_iconstN (n := 4) dX7_isUnder_25 ?_
          refine v_icmp_ne (tgt := 33) dX7_isUnder_26 (by decide) (fun h26 => ?_) (fun h26 => ?_)
          · refine v_iconstN (n := 0) dX7_isUnder_33 ?_
            exact v_zret dX7_isUnder_34 rfl (by decide +kernel) (⟨by unfold unB; rw [decide_eq_false (show ¬ b = nI 0 from h1), decide_eq_false (show ¬ a = b from h6), decide_eq_false (show ¬ b = nI 1 from h11), decide_eq_true (show b = nI 2 from h21), decide_eq_false (show ¬ a = nI 4 from h26)]; first | rfl | (cases decide (a = b) <;> rfl) | (cases decide (a = b) <;> cases decide (b = nI 0) <;> rfl) | (simp [b2]; rfl), rfl⟩)
          · refine v_iconstN (n := 1) dX7_isUnder_29 ?_
            refine v_goto (tgt := 34) dX7_isUnder_30 (by decide) ?_
            exact v_zret dX7_isUnder_34 rfl (by decide +kernel) (⟨by unfold unB; rw [decide_eq_false (show ¬ b = nI 0 from h1), decide_eq_false (show ¬ a = b from h6), decide_eq_false (show ¬ b = nI 1 from h11), decide_eq_true (show b = nI 2 from h21), decide_eq_true (show a = nI 4 from h26)]; first | rfl | (cases decide (a = b) <;> rfl) | (cases decide (a = b) <;> cases decide (b = nI 0) <;> rfl) | (simp [b2]; rfl), rfl⟩)
      · refine v_ild0 dX7_isUnder_14 ?_
        refine v_iconstN (n := 3) dX7_isUnder_15 ?_
        refine v_icmp_eq (tgt := 29) dX7_isUnder_16 (by decide) (fun h16 => ?_) (fun h16 => ?_)
        · refine v_iconstN (n := 1) dX7_isUnder_29 ?_
          refine v_goto (tgt := 34) dX7_isUnder_30 (by decide) ?_
          exact v_zret dX7_isUnder_34 rfl (by decide +kernel) (⟨by unfold unB; rw [decide_eq_false (show ¬ b = nI 0 from h1), decide_eq_false (show ¬ a = b from h6), decide_eq_true (show b = nI 1 from h11), decide_eq_true (show a = nI 3 from h16)]; first | rfl | (cases decide (a = b) <;> rfl) | (cases decide (a = b) <;> cases decide (b = nI 0) <;> rfl) | (simp [b2]; rfl), rfl⟩)
        · refine v_ild1 dX7_isUnder_19 ?_
          refine v_iconstN (n := 2) dX7_isUnder_20 ?_
          refine v_icmp_ne (tgt := 33) dX7_isUnder_21 (by decide) (fun h21 => ?_) (fun h21 => ?_)
          · refine v_iconstN (n := 0) dX7_isUnder_33 ?_
            exact v_zret dX7_isUnder_34 rfl (by decide +kernel) (⟨by unfold unB; rw [decide_eq_false (show ¬ b = nI 0 from h1), decide_eq_false (show ¬ a = b from h6), decide_eq_true (show b = nI 1 from h11), decide_eq_false (show ¬ a = nI 3 from h16), decide_eq_false (show ¬ b = nI 2 from h21)]; first | rfl | (cases decide (a = b) <;> rfl) | (cases decide (a = b) <;> cases decide (b = nI 0) <;> rfl) | (simp [b2]; rfl), rfl⟩)
          · refine v_ild0 dX7_isUnder_24 ?_
            refine v_iconstN (n := 4) dX7_isUnder_25 ?_
            refine v_icmp_ne (tgt := 33) dX7_isUnder_26 (by decide) (fun h26 => ?_) (fun h26 => ?_)
            · refine v_iconstN (n := 0) dX7_isUnder_33 ?_
              exact v_zret dX7_isUnder_34 rfl (by decide +kernel) (absurd (h11.symm.trans h21) (by decide))
            · refine v_iconstN (n := 1) dX7_isUnder_29 ?_
              refine v_goto (tgt := 34) dX7_isUnder_30 (by decide) ?_
              exact v_zret dX7_isUnder_34 rfl (by decide +kernel) (absurd (h11.symm.trans h21) (by decide))
set_option maxRecDepth 100000 in
set_option maxHeartbeats 4000000 in
theorem aM_as (E : ev) (Mz : mm) {x k : Int32} {W : Nat} (hI : CI (mv Mz) W) : Ct E 2 yX7_as cX7_as 3 (some .int) [.inr 92, .inl x, .inl k] Mz (qI E (fun r M' => r = R_as (mv Mz) x k ∧ M' = Mz)) := by
  refine ct_of (by decide) (Nat.le_of_ble_eq_true rfl) ?_
  show V E 2 _ _ _ _ _ 0 [some (.inr 92), some (.inl x), some (.inl k)] [] Mz
  refine v_ald0 dX7_as_0 ?_
  refine v_ild1 dX7_as_1 ?_
  refine v_callVi (kM_isPerson E _) dX7_as_2 cX7_128 rfl sh_92 rfl (by decide) (Nat.le_of_ble_eq_true rfl) rfl (fun r M1z hq => ?_)
  obtain ⟨hr, hm⟩ := hq
  rw [hr, hm, show inB x (nI 0) (mv Mz 1 - nI 1) = isP (mv Mz) x from rfl]
  clear hr hm
  refine v_if_eq (tgt := 17) dX7_as_5 (by decide) (fun h5 => ?_) (fun h5 => ?_)
  · refine v_ldc dX7_as_17 kX7_119 ?_
    exact v_iret dX7_as_19 rfl (⟨by unfold R_as; rw [if_neg (by simp [b2_0.mp h5])], rfl⟩)
  · refine v_ild2 dX7_as_8 ?_
    refine v_iconstN (n := 0) dX7_as_9 ?_
    refine v_iconstN (n := 5) dX7_as_10 ?_
    refine v_callSi (kM_in E _) dX7_as_11 cX7_75 rfl (by decide) (Nat.le_of_ble_eq_true rfl) rfl (fun r M1z hq => ?_)
    obtain ⟨hr, hm⟩ := hq
    rw [hr, hm]
    clear hr hm
    refine v_if_ne (tgt := 20) dX7_as_14 (by decide) (fun h14 => ?_) (fun h14 => ?_)
    · obtain ⟨p, hpn, hp, rfl⟩ := isP_n hI (b2_1.mp h5)
      obtain ⟨g, hgl, hg, rfl⟩ := inB_n (by decide) (by decide) (b2_1.mp h14)
      refine v_ald0 dX7_as_20 ?_
      refine v_ild1 dX7_as_21 ?_
      refine v_iconstN (n := 0) dX7_as_22 ?_
      refine v_callVi (kM_of E Mz hp (by decide)) dX7_as_23 cX7_79 rfl sh_92 rfl (by decide) (Nat.le_of_ble_eq_true rfl) rfl (fun r M1z hq => ?_)
      obtain ⟨hr, hm⟩ := hq
      rw [hr, hm, show mv Mz (19 + 10 * p + 0) = kd (mv Mz) p from by show _ = mv Mz (19 + 10 * p); congr 1; try omega]
      clear hr hm
      refine v_ild2 dX7_as_26 ?_
      refine v_callSi (kM_isUnder E Mz) dX7_as_27 cX7_138 rfl (by decide) (Nat.le_of_ble_eq_true rfl) rfl (fun r M1z hq => ?_)
      obtain ⟨hr, hm⟩ := hq
      rw [hr, hm]
      clear hr hm
      refine v_if_eq (tgt := 42) dX7_as_30 (by decide) (fun h30 => ?_) (fun h30 => ?_)
      · refine v_ldc dX7_as_42 kX7_141 ?_
        exact v_iret dX7_as_44 rfl (⟨by unfold R_as; rw [if_pos (by simp [b2_1.mp h5, b2_1.mp h14]), tN_n (p := p) (by omega), if_neg (by rw [b2_0.mp h30]; decide)], rfl⟩)
      · refine v_ald0 dX7_as_33 ?_
        refine v_ild1 dX7_as_34 ?_
        refine v_iconstN (n := 3) dX7_as_35 ?_
        refine v_callVi (kM_of E Mz hp (by decide)) dX7_as_36 cX7_79 rfl sh_92 rfl (by decide) (Nat.le_of_ble_eq_true rfl) rfl (fun r M1z hq => ?_)
        obtain ⟨hr, hm⟩ := hq
        rw [hr, hm, show mv Mz (19 + 10 * p + 3) = su (mv Mz) p from by show _ = mv Mz (22 + 10 * p); congr 1; try omega]
        clear hr hm
        refine v_goto (tgt := 44) dX7_as_39 (by decide) ?_
        exact v_iret dX7_as_44 rfl (⟨by unfold R_as; rw [if_pos (by simp [b2_1.mp h5, b2_1.mp h14]), tN_n (p := p) (by omega), if_pos (by rw [b2_1.mp h30])], rfl⟩)
    · refine v_ldc dX7_as_17 kX7_119 ?_
      exact v_iret dX7_as_19 rfl (⟨by unfold R_as; rw [if_neg (by simp [b2_1.mp h5, b2_0.mp h14])], rfl⟩)
set_option maxRecDepth 100000 in
set_option maxHeartbeats 4000000 in
theorem aX_turns (E : ev) (Mz : mm) {x k : Int32} {W : Nat} (hI : CI (cv Mz 38) W) : Ct E 2 yX6_turns cX6_turns 4 (some .int) [.inr 0, .inl x, .inl k] Mz (qI E (fun r M' => r = R_turns (cv Mz 38) x k ∧ cv M' 38 = F_turns (cv Mz 38) x k ∧ FrC 38 Mz M')) := by
  refine ct_of (by decide) (Nat.le_of_ble_eq_true rfl) ?_
  show V E 2 _ _ _ _ _ 0 [some (.inr 0), some (.inl x), some (.inl k), none] [] Mz
  refine v_ald0 dX6_turns_0 ?_
  refine v_ild1 dX6_turns_1 ?_
  refine v_callVi (kX_noPerson E _) dX6_turns_2 cX6_77 rfl sh_0 rfl (by decide) (Nat.le_of_ble_eq_true rfl) rfl (fun r M1z hq => ?_)
  obtain ⟨hr, hm⟩ := hq
  rw [hr, hm]
  clear hr hm
  refine v_if_ne (tgt := 15) dX6_turns_5 (by decide) (fun h5 => ?_) (fun h5 => ?_)
  · refine v_ldc dX6_turns_15 kX6_67 ?_
    exact v_iret dX6_turns_17 rfl (⟨by unfold R_turns; rw [if_neg (by simp [nb1 h5])], by unfold F_turns; rw [if_neg (by simp [nb1 h5])], FrC.rf 38 Mz⟩)
  · refine v_ild2 dX6_turns_8 ?_
    refine v_callSi (kX_noKind E _) dX6_turns_9 cX6_59 rfl (by decide) (Nat.le_of_ble_eq_true rfl) rfl (fun r M1z hq => ?_)
    obtain ⟨hr, hm⟩ := hq
    rw [hr, hm]
    clear hr hm
    refine v_if_eq (tgt := 18) dX6_turns_12 (by decide) (fun h12 => ?_) (fun h12 => ?_)
    · obtain ⟨p, hpn, hp, rfl⟩ := isP_n hI (nb0 h5)
      obtain ⟨g, hgl, hg, rfl⟩ := inB_n (by decide) (by decide) (nb0 h12)
      refine v_ald0 dX6_turns_18 ?_
      refine v_getr dX6_turns_19 gX6_28 sh_0 rfl ?_
      refine v_getr dX6_turns_22 gX6_80 sh_38 rfl ?_
      refine v_ild1 dX6_turns_25 ?_
      refine v_ialdN dX6_turns_26 sh_39 (by omega) (by decide) ?_
      refine v_ist3 dX6_turns_27 (by decide) ?_
      refine v_ald0 dX6_turns_28 ?_
      refine v_getr dX6_turns_29 gX6_28 sh_0 rfl ?_
      refine v_getr dX6_turns_32 gX6_80 sh_38 rfl ?_
      refine v_ild1 dX6_turns_35 ?_
      refine v_ild2 dX6_turns_36 ?_
      refine v_iastN dX6_turns_37 sh_39 (by omega) (by decide) ?_
      refine v_ild3 dX6_turns_38 ?_
      exact v_iret dX6_turns_39 rfl (⟨by unfold R_turns; rw [if_pos (by simp [nb0 h5, nb0 h12]), tN_n (p := p) (by omega)]; exact (cv_kd Mz 38 hp).symm, by unfold F_turns; rw [if_pos (by simp [nb0 h5, nb0 h12]), tN_n (p := p) (by omega)]; exact cv_ukd (c := 38) hp, FrC.w _ (by decide)⟩)
    · refine v_ldc dX6_turns_15 kX6_67 ?_
      exact v_iret dX6_turns_17 rfl (⟨by unfold R_turns; rw [if_neg (by simp [nb0 h5, nb1 h12])], by unfold F_turns; rw [if_neg (by simp [nb0 h5, nb1 h12])], FrC.rf 38 Mz⟩)
set_option maxRecDepth 100000 in
set_option maxHeartbeats 4000000 in
theorem aM_turns (E : ev) (Mz : mm) {x k : Int32} {W : Nat} (hI : CI (mv Mz) W) : Ct E 2 yX7_turns cX7_turns 3 (some .int) [.inr 92, .inl x, .inl k] Mz (qI E (fun r M' => r = R_turns (mv Mz) x k ∧ mv M' = F_turns (mv Mz) x k ∧ FrM Mz M')) := by
  refine ct_of (by decide) (Nat.le_of_ble_eq_true rfl) ?_
  show V E 2 _ _ _ _ _ 0 [some (.inr 92), some (.inl x), some (.inl k)] [] Mz
  refine v_ald0 dX7_turns_0 ?_
  refine v_ild1 dX7_turns_1 ?_
  refine v_callVi (kM_isPerson E _) dX7_turns_2 cX7_128 rfl sh_92 rfl (by decide) (Nat.le_of_ble_eq_true rfl) rfl (fun r M1z hq => ?_)
  obtain ⟨hr, hm⟩ := hq
  rw [hr, hm, show inB x (nI 0) (mv Mz 1 - nI 1) = isP (mv Mz) x from rfl]
  clear hr hm
  refine v_if_eq (tgt := 32) dX7_turns_5 (by decide) (fun h5 => ?_) (fun h5 => ?_)
  · refine v_ldc dX7_turns_32 kX7_119 ?_
    exact v_iret dX7_turns_34 rfl (⟨by unfold R_turns; rw [if_neg (by simp [b2_0.mp h5])], by unfold F_turns; rw [if_neg (by simp [b2_0.mp h5])], FrM.rf Mz⟩)
  · refine v_ild2 dX7_turns_8 ?_
    refine v_iconstN (n := 0) dX7_turns_9 ?_
    refine v_iconstN (n := 5) dX7_turns_10 ?_
    refine v_callSi (kM_in E _) dX7_turns_11 cX7_75 rfl (by decide) (Nat.le_of_ble_eq_true rfl) rfl (fun r M1z hq => ?_)
    obtain ⟨hr, hm⟩ := hq
    rw [hr, hm]
    clear hr hm
    refine v_if_eq (tgt := 32) dX7_turns_14 (by decide) (fun h14 => ?_) (fun h14 => ?_)
    · refine v_ldc dX7_turns_32 kX7_119 ?_
      exact v_iret dX7_turns_34 rfl (⟨by unfold R_turns; rw [if_neg (by simp [b2_1.mp h5, b2_0.mp h14])], by unfold F_turns; rw [if_neg (by simp [b2_1.mp h5, b2_0.mp h14])], FrM.rf Mz⟩)
    · obtain ⟨p, hpn, hp, rfl⟩ := isP_n hI (b2_1.mp h5)
      obtain ⟨g, hgl, hg, rfl⟩ := inB_n (by decide) (by decide) (b2_1.mp h14)
      refine v_ald0 dX7_turns_17 ?_
      refine v_bipushN (n := 19) dX7_turns_18 (by decide) ?_
      refine v_bipushN (n := 10) dX7_turns_20 (by decide) ?_
      refine v_ild1 dX7_turns_22 ?_
      refine v_imulN dX7_turns_23 ?_
      refine v_iaddN dX7_turns_24 ?_
      refine v_ild2 dX7_turns_25 ?_
      refine v_callVi (kM_swaps E Mz (i := 19 + 10 * p) (by omega)) dX7_turns_26 cX7_142 rfl sh_92 rfl (by decide) (Nat.le_of_ble_eq_true rfl) rfl (fun r2 M2z hq2 => ?_)
      obtain ⟨hr2, hm2⟩ := hq2
      rw [hr2, hm2]
      refine v_goto (tgt := 34) dX7_turns_29 (by decide) ?_
      exact v_iret dX7_turns_34 rfl (⟨by unfold R_turns; rw [if_pos (by simp [b2_1.mp h5, b2_1.mp h14]), tN_n (p := p) (by omega)], by unfold F_turns; rw [if_pos (by simp [b2_1.mp h5, b2_1.mp h14]), tN_n (p := p) (by omega)]; exact mv_u (by omega), FrM.w _ (by omega)⟩)
set_option maxRecDepth 100000 in
set_option maxHeartbeats 4000000 in
theorem aX_told (E : ev) (Mz : mm) {x u : Int32} {W : Nat} (hI : CI (cv Mz 38) W) : Ct E 3 yX6_told cX6_told 3 (some .int) [.inr 0, .inl x, .inl u] Mz (qI E (fun r M' => r = R_told (cv Mz 38) x u ∧ M' = Mz)) := by
  refine ct_of (by decide) (Nat.le_of_ble_eq_true rfl) ?_
  show V E 3 _ _ _ _ _ 0 [some (.inr 0), some (.inl x), some (.inl u)] [] Mz
  refine v_ald0 dX6_told_0 ?_
  refine v_ild1 dX6_told_1 ?_
  refine v_callVi (kX_noPerson E _) dX6_told_2 cX6_77 rfl sh_0 rfl (by decide) (Nat.le_of_ble_eq_true rfl) rfl (fun r M1z hq => ?_)
  obtain ⟨hr, hm⟩ := hq
  rw [hr, hm]
  clear hr hm
  refine v_if_eq (tgt := 11) dX6_told_5 (by decide) (fun h5 => ?_) (fun h5 => ?_)
  · obtain ⟨p, hpn, hp, rfl⟩ := isP_n hI (nb0 h5)
    refine v_ild2 dX6_told_11 ?_
    by_cases e12_0 : u = 0
    · subst e12_0
      refine v_tsIn (off := 44) (tgt := 56) dX6_told_12 (by decide) (by decide) (by decide) (by decide) ?_
      refine v_ald0 dX6_told_56 ?_
      refine v_getr dX6_told_57 gX6_28 sh_0 rfl ?_
      refine v_getr dX6_told_60 gX6_80 sh_38 rfl ?_
      refine v_ild1 dX6_told_63 ?_
      refine v_ialdN dX6_told_64 sh_39 (by omega) (by decide) ?_
      exact v_iret dX6_told_65 rfl (⟨by unfold R_told; rw [if_pos (nb0 h5), if_pos (by decide), tN_n (p := p) (by omega)]; exact (cv_kd Mz 38 hp).symm, rfl⟩)
    by_cases e12_1 : u = 1
    · subst e12_1
      refine v_tsIn (off := 54) (tgt := 66) dX6_told_12 (by decide) (by decide) (by decide) (by decide) ?_
      refine v_ald0 dX6_told_66 ?_
      refine v_getr dX6_told_67 gX6_28 sh_0 rfl ?_
      refine v_getr dX6_told_70 gX6_83 sh_38 rfl ?_
      refine v_ild1 dX6_told_73 ?_
      refine v_ialdN dX6_told_74 sh_40 (by omega) (by decide) ?_
      exact v_iret dX6_told_75 rfl (⟨by unfold R_told; rw [if_pos (nb0 h5), if_neg (by decide), if_pos (by decide), tN_n (p := p) (by omega)]; exact (cv_pl Mz 38 hp).symm, rfl⟩)
    by_cases e12_2 : u = 2
    · subst e12_2
      refine v_tsIn (off := 64) (tgt := 76) dX6_told_12 (by decide) (by decide) (by decide) (by decide) ?_
      refine v_ald0 dX6_told_76 ?_
      refine v_getr dX6_told_77 gX6_28 sh_0 rfl ?_
      refine v_getr dX6_told_80 gX6_86 sh_38 rfl ?_
      refine v_ild1 dX6_told_83 ?_
      refine v_ialdN dX6_told_84 sh_41 (by omega) (by decide) ?_
      exact v_iret dX6_told_85 rfl (⟨by unfold R_told; rw [if_pos (nb0 h5), if_neg (by decide), if_neg (by decide), if_pos (by decide), tN_n (p := p) (by omega)]; exact (cv_tr Mz 38 hp).symm, rfl⟩)
    by_cases e12_3 : u = 3
    · subst e12_3
      refine v_tsIn (off := 74) (tgt := 86) dX6_told_12 (by decide) (by decide) (by decide) (by decide) ?_
      refine v_ald0 dX6_told_86 ?_
      refine v_getr dX6_told_87 gX6_28 sh_0 rfl ?_
      refine v_getr dX6_told_90 gX6_89 sh_38 rfl ?_
      refine v_ild1 dX6_told_93 ?_
      refine v_ialdN dX6_told_94 sh_42 (by omega) (by decide) ?_
      exact v_iret dX6_told_95 rfl (⟨by unfold R_told; rw [if_pos (nb0 h5), if_neg (by decide), if_neg (by decide), if_neg (by decide), if_pos (by decide), tN_n (p := p) (by omega)]; exact (cv_su Mz 38 hp).symm, rfl⟩)
    by_cases e12_4 : u = 4
    · subst e12_4
      refine v_tsIn (off := 84) (tgt := 96) dX6_told_12 (by decide) (by decide) (by decide) (by decide) ?_
      refine v_getW dX6_told_96 sX6_92 ?_
      refine v_ald0 dX6_told_99 ?_
      refine v_getr dX6_told_100 gX6_28 sh_0 rfl ?_
      refine v_getr dX6_told_103 gX6_80 sh_38 rfl ?_
      refine v_ild1 dX6_told_106 ?_
      refine v_ialdN dX6_told_107 sh_39 (by omega) (by decide) ?_
      refine v_eq ((cv_kd Mz 38 hp).symm) ?_
      refine v_aldW dX6_told_108 ((hI.kd hp).in (by decide)) ?_
      exact v_iret dX6_told_109 rfl (⟨by unfold R_told; rw [if_pos (nb0 h5), if_neg (by decide), if_neg (by decide), if_neg (by decide), if_neg (by decide), if_pos (by decide), tN_n (p := p) (by omega)], rfl⟩)
    by_cases e12_5 : u = 5
    · subst e12_5
      refine v_tsIn (off := 98) (tgt := 110) dX6_told_12 (by decide) (by decide) (by decide) (by decide) ?_
      refine v_ald0 dX6_told_110 ?_
      refine v_getr dX6_told_111 gX6_28 sh_0 rfl ?_
      refine v_ild1 dX6_told_114 ?_
      refine v_callVi (kC_fieldsThoughtOf E Mz CB.now hp) dX6_told_115 cX6_95 rfl sh_38 rfl (by decide) (Nat.le_of_ble_eq_true rfl) rfl (fun r M1z hq => ?_)
      obtain ⟨hr, hm⟩ := hq
      rw [hr, hm]
      clear hr hm
      exact v_iret dX6_told_118 rfl (⟨by unfold R_told; rw [if_pos (nb0 h5), if_neg (by decide), if_neg (by decide), if_neg (by decide), if_neg (by decide), if_neg (by decide), if_pos (by decide), tN_n (p := p) (by omega)], rfl⟩)
    by_cases e12_6 : u = 6
    · subst e12_6
      refine v_tsIn (off := 107) (tgt := 119) dX6_told_12 (by decide) (by decide) (by decide) (by decide) ?_
      refine v_ald0 dX6_told_119 ?_
      refine v_getr dX6_told_120 gX6_28 sh_0 rfl ?_
      refine v_ild1 dX6_told_123 ?_
      refine v_callVi (kC_hearersOf E Mz CB.now hp hI) dX6_told_124 cX6_99 rfl sh_38 rfl (by decide) (Nat.le_of_ble_eq_true rfl) rfl (fun r M1z hq => ?_)
      obtain ⟨hr, hm⟩ := hq
      rw [hr, hm]
      clear hr hm
      exact v_iret dX6_told_127 rfl (⟨by unfold R_told; rw [if_pos (nb0 h5), if_neg (by decide), if_neg (by decide), if_neg (by decide), if_neg (by decide), if_neg (by decide), if_neg (by decide), if_pos (by decide), tN_n (p := p) (by omega)], rfl⟩)
    refine v_tsOut (tgt := 128) dX6_told_12 (by have := ne_toK (0) rfl e12_0; have := ne_toK (1) rfl e12_1; have := ne_toK (2) rfl e12_2; have := ne_toK (3) rfl e12_3; have := ne_toK (4) rfl e12_4; have := ne_toK (5) rfl e12_5; have := ne_toK (6) rfl e12_6; omega) (by decide) ?_
    refine v_ldc dX6_told_128 kX6_67 ?_
    exact v_iret dX6_told_130 rfl (⟨by unfold R_told; rw [if_pos (nb0 h5), if_neg e12_0, if_neg e12_1, if_neg e12_2, if_neg e12_3, if_neg e12_4, if_neg e12_5, if_neg e12_6], rfl⟩)
  · refine v_ldc dX6_told_8 kX6_67 ?_
    exact v_iret dX6_told_10 rfl (⟨by unfold R_told; rw [if_neg (by rw [nb1 h5]; decide)], rfl⟩)
theorem inB_f {x : Int32} {a b : Nat} (h : inB x (nI a) (nI b) = false) {k : Nat} (h1 : a ≤ k) (h2 : k ≤ b) (hb : b < 2 ^ 31) : x ≠ nI k := by
  intro e
  subst e
  unfold inB at h
  rw [decide_eq_true ((nI_leI (by omega) (by omega)).mpr h1), decide_eq_true ((nI_leI (by omega) (by omega)).mpr h2)] at h
  exact absurd h (by decide)
theorem R_told_out {v : fl} {x u : Int32} (h : inB u (nI 0) (nI 6) = false) {hP : isP v x = true} : R_told v x u = cBAD := by
  unfold R_told
  have q : ∀ k, k ≤ 6 → u ≠ nI k := fun k hk => inB_f h (Nat.zero_le _) hk (by decide)
  rw [if_pos hP, if_neg (show ¬ u = 0 from q 0 (by decide)), if_neg (show ¬ u = 1 from q 1 (by decide)), if_neg (show ¬ u = 2 from q 2 (by decide)), if_neg (show ¬ u = 3 from q 3 (by decide)), if_neg (show ¬ u = 4 from q 4 (by decide)), if_neg (show ¬ u = 5 from q 5 (by decide)), if_neg (show ¬ u = 6 from q 6 (by decide))]
set_option maxRecDepth 100000 in
set_option maxHeartbeats 4000000 in
theorem aM_told (E : ev) (Mz : mm) {x u : Int32} {W : Nat} (hI : CI (mv Mz) W) : Ct E 3 yX7_told cX7_told 3 (some .int) [.inr 92, .inl x, .inl u] Mz (qI E (fun r M' => r = R_told (mv Mz) x u ∧ M' = Mz)) := by
  refine ct_of (by decide) (Nat.le_of_ble_eq_true rfl) ?_
  show V E 3 _ _ _ _ _ 0 [some (.inr 92), some (.inl x), some (.inl u)] [] Mz
  refine v_ald0 dX7_told_0 ?_
  refine v_ild1 dX7_told_1 ?_
  refine v_callVi (kM_isPerson E _) dX7_told_2 cX7_128 rfl sh_92 rfl (by decide) (Nat.le_of_ble_eq_true rfl) rfl (fun r M1z hq => ?_)
  obtain ⟨hr, hm⟩ := hq
  rw [hr, hm, show inB x (nI 0) (mv Mz 1 - nI 1) = isP (mv Mz) x from rfl]
  clear hr hm
  refine v_if_eq (tgt := 18) dX7_told_5 (by decide) (fun h5 => ?_) (fun h5 => ?_)
  · refine v_ldc dX7_told_18 kX7_119 ?_
    exact v_iret dX7_told_20 rfl (⟨by unfold R_told; rw [if_neg (by rw [b2_0.mp h5]; decide)], rfl⟩)
  · refine v_ild2 dX7_told_8 ?_
    refine v_iconstN (n := 0) dX7_told_9 ?_
    refine v_bipushN (n := 6) dX7_told_10 (by decide) ?_
    refine v_callSi (kM_in E _) dX7_told_12 cX7_75 rfl (by decide) (Nat.le_of_ble_eq_true rfl) rfl (fun r M1z hq => ?_)
    obtain ⟨hr, hm⟩ := hq
    rw [hr, hm]
    clear hr hm
    refine v_if_ne (tgt := 21) dX7_told_15 (by decide) (fun h15 => ?_) (fun h15 => ?_)
    · obtain ⟨p, hpn, hp, rfl⟩ := isP_n hI (b2_1.mp h5)
      obtain ⟨k, hkl, hk, rfl⟩ := inB_n (by decide) (by decide) (b2_1.mp h15)
      rcases (show k = 0 ∨ k = 1 ∨ k = 2 ∨ k = 3 ∨ k = 4 ∨ k = 5 ∨ k = 6 by omega) with rfl | rfl | rfl | rfl | rfl | rfl | rfl
      · refine v_ild2 dX7_told_21 ?_
        refine v_iconstN (n := 4) dX7_told_22 ?_
        refine v_icmpN_ge (tgt := 35) dX7_told_23 (by decide) (by omega) (by omega) (fun h23 => absurd h23 (by decide)) (fun h23 => ?_)
        refine v_ald0 dX7_told_26 ?_
        refine v_ild1 dX7_told_27 ?_
        refine v_ild2 dX7_told_28 ?_
        refine v_callVi (kM_of E Mz hp (by decide)) dX7_told_29 cX7_79 rfl sh_92 rfl (by decide) (Nat.le_of_ble_eq_true rfl) rfl (fun r M1z hq => ?_)
        obtain ⟨hr, hm⟩ := hq
        rw [hr, hm]
        clear hr hm
        refine v_goto (tgt := 66) dX7_told_32 (by decide) ?_
        exact v_iret dX7_told_66 rfl (⟨by unfold R_told; rw [if_pos (b2_1.mp h5), if_pos (by decide), tN_n (p := p) (by omega)]; rfl, rfl⟩)
      · refine v_ild2 dX7_told_21 ?_
        refine v_iconstN (n := 4) dX7_told_22 ?_
        refine v_icmpN_ge (tgt := 35) dX7_told_23 (by decide) (by omega) (by omega) (fun h23 => absurd h23 (by decide)) (fun h23 => ?_)
        refine v_ald0 dX7_told_26 ?_
        refine v_ild1 dX7_told_27 ?_
        refine v_ild2 dX7_told_28 ?_
        refine v_callVi (kM_of E Mz hp (by decide)) dX7_told_29 cX7_79 rfl sh_92 rfl (by decide) (Nat.le_of_ble_eq_true rfl) rfl (fun r M1z hq => ?_)
        obtain ⟨hr, hm⟩ := hq
        rw [hr, hm]
        clear hr hm
        refine v_goto (tgt := 66) dX7_told_32 (by decide) ?_
        exact v_iret dX7_told_66 rfl (⟨by unfold R_told; rw [if_pos (b2_1.mp h5), if_neg (by decide), if_pos (by decide), tN_n (p := p) (by omega)]; congr 1; omega, rfl⟩)
      · refine v_ild2 dX7_told_21 ?_
        refine v_iconstN (n := 4) dX7_told_22 ?_
        refine v_icmpN_ge (tgt := 35) dX7_told_23 (by decide) (by omega) (by omega) (fun h23 => absurd h23 (by decide)) (fun h23 => ?_)
        refine v_ald0 dX7_told_26 ?_
        refine v_ild1 dX7_told_27 ?_
        refine v_ild2 dX7_told_28 ?_
        refine v_callVi (kM_of E Mz hp (by decide)) dX7_told_29 cX7_79 rfl sh_92 rfl (by decide) (Nat.le_of_ble_eq_true rfl) rfl (fun r M1z hq => ?_)
        obtain ⟨hr, hm⟩ := hq
        rw [hr, hm]
        clear hr hm
        refine v_goto (tgt := 66) dX7_told_32 (by decide) ?_
        exact v_iret dX7_told_66 rfl (⟨by unfold R_told; rw [if_pos (b2_1.mp h5), if_neg (by decide), if_neg (by decide), if_pos (by decide), tN_n (p := p) (by omega)]; congr 1; omega, rfl⟩)
      · refine v_ild2 dX7_told_21 ?_
        refine v_iconstN (n := 4) dX7_told_22 ?_
        refine v_icmpN_ge (tgt := 35) dX7_told_23 (by decide) (by omega) (by omega) (fun h23 => absurd h23 (by decide)) (fun h23 => ?_)
        refine v_ald0 dX7_told_26 ?_
        refine v_ild1 dX7_told_27 ?_
        refine v_ild2 dX7_told_28 ?_
        refine v_callVi (kM_of E Mz hp (by decide)) dX7_told_29 cX7_79 rfl sh_92 rfl (by decide) (Nat.le_of_ble_eq_true rfl) rfl (fun r M1z hq => ?_)
        obtain ⟨hr, hm⟩ := hq
        rw [hr, hm]
        clear hr hm
        refine v_goto (tgt := 66) dX7_told_32 (by decide) ?_
        exact v_iret dX7_told_66 rfl (⟨by unfold R_told; rw [if_pos (b2_1.mp h5), if_neg (by decide), if_neg (by decide), if_neg (by decide), if_pos (by decide), tN_n (p := p) (by omega)]; congr 1; omega, rfl⟩)
      · refine v_ild2 dX7_told_21 ?_
        refine v_iconstN (n := 4) dX7_told_22 ?_
        refine v_icmpN_ge (tgt := 35) dX7_told_23 (by decide) (by omega) (by omega) (fun h23 => ?_) (fun h23 => absurd h23 (by decide))
        refine v_ild2 dX7_told_35 ?_
        refine v_iconstN (n := 4) dX7_told_36 ?_
        refine v_icmpN_ne (tgt := 48) dX7_told_37 (by decide) (by omega) (by omega) (fun h37 => absurd h37 (by decide)) (fun h37 => ?_)
        refine v_ald0 dX7_told_40 ?_
        refine v_ild1 dX7_told_41 ?_
        refine v_callVi (kM_worthOf E Mz hp hI) dX7_told_42 cX7_86 rfl sh_92 rfl (by decide) (Nat.le_of_ble_eq_true rfl) rfl (fun r M1z hq => ?_)
        obtain ⟨hr, hm⟩ := hq
        rw [hr, hm]
        clear hr hm
        refine v_goto (tgt := 66) dX7_told_45 (by decide) ?_
        exact v_iret dX7_told_66 rfl (⟨by unfold R_told; rw [if_pos (b2_1.mp h5), if_neg (by decide), if_neg (by decide), if_neg (by decide), if_neg (by decide), if_pos (by decide), tN_n (p := p) (by omega)], rfl⟩)
      · refine v_ild2 dX7_told_21 ?_
        refine v_iconstN (n := 4) dX7_told_22 ?_
        refine v_icmpN_ge (tgt := 35) dX7_told_23 (by decide) (by omega) (by omega) (fun h23 => ?_) (fun h23 => absurd h23 (by decide))
        refine v_ild2 dX7_told_35 ?_
        refine v_iconstN (n := 4) dX7_told_36 ?_
        refine v_icmpN_ne (tgt := 48) dX7_told_37 (by decide) (by omega) (by omega) (fun h37 => ?_) (fun h37 => absurd h37 (by decide))
        refine v_ild2 dX7_told_48 ?_
        refine v_iconstN (n := 5) dX7_told_49 ?_
        refine v_icmpN_ne (tgt := 61) dX7_told_50 (by decide) (by omega) (by omega) (fun h50 => absurd h50 (by decide)) (fun h50 => ?_)
        refine v_ald0 dX7_told_53 ?_
        refine v_ild1 dX7_told_54 ?_
        refine v_callVi (kM_fieldsOf E Mz hp) dX7_told_55 cX7_132 rfl sh_92 rfl (by decide) (Nat.le_of_ble_eq_true rfl) rfl (fun r M1z hq => ?_)
        obtain ⟨hr, hm⟩ := hq
        rw [hr, hm]
        clear hr hm
        refine v_goto (tgt := 66) dX7_told_58 (by decide) ?_
        exact v_iret dX7_told_66 rfl (⟨by unfold R_told; rw [if_pos (b2_1.mp h5), if_neg (by decide), if_neg (by decide), if_neg (by decide), if_neg (by decide), if_neg (by decide), if_pos (by decide), tN_n (p := p) (by omega)], rfl⟩)
      · refine v_ild2 dX7_told_21 ?_
        refine v_iconstN (n := 4) dX7_told_22 ?_
        refine v_icmpN_ge (tgt := 35) dX7_told_23 (by decide) (by omega) (by omega) (fun h23 => ?_) (fun h23 => absurd h23 (by decide))
        refine v_ild2 dX7_told_35 ?_
        refine v_iconstN (n := 4) dX7_told_36 ?_
        refine v_icmpN_ne (tgt := 48) dX7_told_37 (by decide) (by omega) (by omega) (fun h37 => ?_) (fun h37 => absurd h37 (by decide))
        refine v_ild2 dX7_told_48 ?_
        refine v_iconstN (n := 5) dX7_told_49 ?_
        refine v_icmpN_ne (tgt := 61) dX7_told_50 (by decide) (by omega) (by omega) (fun h50 => ?_) (fun h50 => absurd h50 (by decide))
        refine v_ald0 dX7_told_61 ?_
        refine v_ild1 dX7_told_62 ?_
        refine v_callVi (kM_hearers E Mz hp hI) dX7_told_63 cX7_135 rfl sh_92 rfl (by decide) (Nat.le_of_ble_eq_true rfl) rfl (fun r M1z hq => ?_)
        obtain ⟨hr, hm⟩ := hq
        rw [hr, hm]
        clear hr hm
        exact v_iret dX7_told_66 rfl (⟨by unfold R_told; rw [if_pos (b2_1.mp h5), if_neg (by decide), if_neg (by decide), if_neg (by decide), if_neg (by decide), if_neg (by decide), if_neg (by decide), if_pos (by decide), tN_n (p := p) (by omega)], rfl⟩)
    · refine v_ldc dX7_told_18 kX7_119 ?_
      exact v_iret dX7_told_20 rfl (⟨(R_told_out (by rw [← Bool.not_eq_true]; exact fun q => absurd q (by rw [b2_0.mp h15]; decide)) (hP := b2_1.mp h5)).symm, rfl⟩)
set_option maxRecDepth 100000 in
set_option maxHeartbeats 4000000 in
theorem aX_field (E : ev) (Mz : mm) {f u : Int32} {W : Nat} (hI : CI (cv Mz 38) W) : Ct E 3 yX6_field cX6_field 4 (some .int) [.inr 0, .inl f, .inl u] Mz (qI E (fun r M' => r = R_field (cv Mz 38) f u ∧ M' = Mz)) := by
  refine ct_of (by decide) (Nat.le_of_ble_eq_true rfl) ?_
  show V E 3 _ _ _ _ _ 0 [some (.inr 0), some (.inl f), some (.inl u), none] [] Mz
  refine v_ild1 dX6_field_0 ?_
  refine v_callSi (kX_noField E _) dX6_field_1 cX6_111 rfl (by decide) (Nat.le_of_ble_eq_true rfl) rfl (fun r M1z hq => ?_)
  obtain ⟨hr, hm⟩ := hq
  rw [hr, hm]
  clear hr hm
  refine v_if_eq (tgt := 10) dX6_field_4 (by decide) (fun h4 => ?_) (fun h4 => ?_)
  · obtain ⟨g, hgl, hg, rfl⟩ := inB_n (by decide) (by decide) (nb0 h4)
    refine v_ald0 dX6_field_10 ?_
    refine v_getr dX6_field_11 gX6_28 sh_0 rfl ?_
    refine v_ild1 dX6_field_14 ?_
    refine v_callVi (kC_firstCrop E Mz CB.now (by omega) hI) dX6_field_15 cX6_131 rfl sh_38 rfl (by decide) (Nat.le_of_ble_eq_true rfl) rfl (fun r M1z hq => ?_)
    obtain ⟨hr, hm⟩ := hq
    rw [hr, hm]
    clear hr hm
    refine v_ist3 dX6_field_18 (by decide) ?_
    refine v_ild2 dX6_field_19 ?_
    by_cases e20_0 : u = 0
    · subst e20_0
      refine v_tsIn (off := 36) (tgt := 56) dX6_field_20 (by decide) (by decide) (by decide) (by decide) ?_
      refine v_ald0 dX6_field_56 ?_
      refine v_getr dX6_field_57 gX6_28 sh_0 rfl ?_
      refine v_getr dX6_field_60 gX6_128 sh_38 rfl ?_
      refine v_ild1 dX6_field_63 ?_
      refine v_ialdN dX6_field_64 sh_44 (by omega) (by decide) ?_
      exact v_iret dX6_field_65 rfl (⟨by unfold R_field; (conv => rhs; rw [if_pos (nb0 h4), if_pos (by decide), tN_n (p := g) (by omega)]); exact (cv_sw Mz 38 (by omega)).symm, rfl⟩)
    by_cases e20_1 : u = 1
    · subst e20_1
      refine v_tsIn (off := 46) (tgt := 66) dX6_field_20 (by decide) (by decide) (by decide) (by decide) ?_
      refine v_ald0 dX6_field_66 ?_
      refine v_getr dX6_field_67 gX6_28 sh_0 rfl ?_
      refine v_getr dX6_field_70 gX6_134 sh_38 rfl ?_
      refine v_ild1 dX6_field_73 ?_
      refine v_ialdN dX6_field_74 sh_45 (by omega) (by decide) ?_
      exact v_iret dX6_field_75 rfl (⟨by unfold R_field; (conv => rhs; rw [if_pos (nb0 h4), if_neg (by decide), if_pos (by decide), tN_n (p := g) (by omega)]); exact (cv_gr Mz 38 (by omega)).symm, rfl⟩)
    by_cases e20_2 : u = 2
    · subst e20_2
      refine v_tsIn (off := 56) (tgt := 76) dX6_field_20 (by decide) (by decide) (by decide) (by decide) ?_
      refine v_ild3 dX6_field_76 ?_
      exact v_iret dX6_field_77 rfl (⟨by unfold R_field; (conv => rhs; rw [if_pos (nb0 h4), if_neg (by decide), if_neg (by decide), if_pos (by decide), tN_n (p := g) (by omega)]); try rfl, rfl⟩)
    by_cases e20_3 : u = 3
    · subst e20_3
      refine v_tsIn (off := 58) (tgt := 78) dX6_field_20 (by decide) (by decide) (by decide) (by decide) ?_
      refine v_ald0 dX6_field_78 ?_
      refine v_getr dX6_field_79 gX6_28 sh_0 rfl ?_
      refine v_ild1 dX6_field_82 ?_
      refine v_ild3 dX6_field_83 ?_
      refine v_callVi (kC_votesFor E Mz CB.now (by omega) hI) dX6_field_84 cX6_137 rfl sh_38 rfl (by decide) (Nat.le_of_ble_eq_true rfl) rfl (fun r M1z hq => ?_)
      obtain ⟨hr, hm⟩ := hq
      rw [hr, hm]
      clear hr hm
      exact v_iret dX6_field_87 rfl (⟨by unfold R_field; (conv => rhs; rw [if_pos (nb0 h4), if_neg (by decide), if_neg (by decide), if_neg (by decide), if_pos (by decide), tN_n (p := g) (by omega)]); try rfl, rfl⟩)
    by_cases e20_4 : u = 4
    · subst e20_4
      refine v_tsIn (off := 68) (tgt := 88) dX6_field_20 (by decide) (by decide) (by decide) (by decide) ?_
      refine v_ald0 dX6_field_88 ?_
      refine v_getr dX6_field_89 gX6_28 sh_0 rfl ?_
      refine v_ild1 dX6_field_92 ?_
      refine v_ild3 dX6_field_93 ?_
      refine v_callVi (kC_believersOf E Mz CB.now (by omega) hI) dX6_field_94 cX6_140 rfl sh_38 rfl (by decide) (Nat.le_of_ble_eq_true rfl) rfl (fun r M1z hq => ?_)
      obtain ⟨hr, hm⟩ := hq
      rw [hr, hm]
      clear hr hm
      exact v_iret dX6_field_97 rfl (⟨by unfold R_field; (conv => rhs; rw [if_pos (nb0 h4), if_neg (by decide), if_neg (by decide), if_neg (by decide), if_neg (by decide), if_pos (by decide), tN_n (p := g) (by omega)]); try rfl, rfl⟩)
    refine v_tsOut (tgt := 98) dX6_field_20 (by have := ne_toK (0) rfl e20_0; have := ne_toK (1) rfl e20_1; have := ne_toK (2) rfl e20_2; have := ne_toK (3) rfl e20_3; have := ne_toK (4) rfl e20_4; omega) (by decide) ?_
    refine v_ldc dX6_field_98 kX6_67 ?_
    exact v_iret dX6_field_100 rfl (⟨by unfold R_field; rw [if_pos (nb0 h4), if_neg e20_0, if_neg e20_1, if_neg e20_2, if_neg e20_3, if_neg e20_4], rfl⟩)
  · refine v_ldc dX6_field_7 kX6_67 ?_
    exact v_iret dX6_field_9 rfl (⟨by unfold R_field; rw [if_neg (by rw [nb1 h4]; decide)], rfl⟩)
set_option maxRecDepth 100000 in
set_option maxHeartbeats 4000000 in
theorem aM_field (E : ev) (Mz : mm) {f u : Int32} {W : Nat} (hI : CI (mv Mz) W) : Ct E 4 yX7_field cX7_field 4 (some .int) [.inr 92, .inl f, .inl u] Mz (qI E (fun r M' => r = R_field (mv Mz) f u ∧ M' = Mz)) := by
  refine ct_of (by decide) (Nat.le_of_ble_eq_true rfl) ?_
  show V E 4 _ _ _ _ _ 0 [some (.inr 92), some (.inl f), some (.inl u), none] [] Mz
  refine v_ild1 dX7_field_0 ?_
  refine v_callSi (kM_isField E _) dX7_field_1 cX7_145 rfl (by decide) (Nat.le_of_ble_eq_true rfl) rfl (fun r M1z hq => ?_)
  obtain ⟨hr, hm⟩ := hq
  rw [hr, hm]
  clear hr hm
  refine v_if_ne (tgt := 10) dX7_field_4 (by decide) (fun h4 => ?_) (fun h4 => ?_)
  · obtain ⟨g, hgl, hg, rfl⟩ := inB_n (by decide) (by decide) (b2_1.mp h4)
    refine v_ald0 dX7_field_10 ?_
    refine v_ild1 dX7_field_11 ?_
    refine v_callVi (kM_firstOf E Mz (by omega) hI) dX7_field_12 cX7_93 rfl sh_92 rfl (by decide) (Nat.le_of_ble_eq_true rfl) rfl (fun r M1z hq => ?_)
    obtain ⟨hr, hm⟩ := hq
    rw [hr, hm]
    clear hr hm
    refine v_ist3 dX7_field_15 (by decide) ?_
    refine v_ild2 dX7_field_16 ?_
    by_cases e17_0 : u = 0
    · subst e17_0
      refine v_tsIn (off := 35) (tgt := 52) dX7_field_17 (by decide) (by decide) (by decide) (by decide) ?_
      refine v_ald0 dX7_field_52 ?_
      refine v_getr dX7_field_53 gX7_9 sh_92 rfl ?_
      refine v_bipushN (n := 7) dX7_field_56 (by decide) ?_
      refine v_ild1 dX7_field_58 ?_
      refine v_iaddN dX7_field_59 ?_
      refine v_ialdN dX7_field_60 sh_93 (by omega) (by decide) ?_
      exact v_iret dX7_field_61 rfl (⟨by unfold R_field; (conv => rhs; rw [if_pos (b2_1.mp h4), if_pos (by decide), tN_n (p := g) (by omega)]); exact (mv_at Mz (by omega)).symm, rfl⟩)
    by_cases e17_1 : u = 1
    · subst e17_1
      refine v_tsIn (off := 45) (tgt := 62) dX7_field_17 (by decide) (by decide) (by decide) (by decide) ?_
      refine v_ald0 dX7_field_62 ?_
      refine v_getr dX7_field_63 gX7_9 sh_92 rfl ?_
      refine v_bipushN (n := 13) dX7_field_66 (by decide) ?_
      refine v_ild1 dX7_field_68 ?_
      refine v_iaddN dX7_field_69 ?_
      refine v_ialdN dX7_field_70 sh_93 (by omega) (by decide) ?_
      exact v_iret dX7_field_71 rfl (⟨by unfold R_field; (conv => rhs; rw [if_pos (b2_1.mp h4), if_neg (by decide), if_pos (by decide), tN_n (p := g) (by omega)]); exact (mv_at Mz (by omega)).symm, rfl⟩)
    by_cases e17_2 : u = 2
    · subst e17_2
      refine v_tsIn (off := 55) (tgt := 72) dX7_field_17 (by decide) (by decide) (by decide) (by decide) ?_
      refine v_ild3 dX7_field_72 ?_
      exact v_iret dX7_field_73 rfl (⟨by unfold R_field; (conv => rhs; rw [if_pos (b2_1.mp h4), if_neg (by decide), if_neg (by decide), if_pos (by decide), tN_n (p := g) (by omega)]); try rfl, rfl⟩)
    by_cases e17_3 : u = 3
    · subst e17_3
      refine v_tsIn (off := 57) (tgt := 74) dX7_field_17 (by decide) (by decide) (by decide) (by decide) ?_
      refine v_ild3 dX7_field_74 ?_
      refine v_if_ne (tgt := 82) dX7_field_75 (by decide) (fun h75 => ?_) (fun h75 => ?_)
      · refine v_ald0 dX7_field_82 ?_
        refine v_ild1 dX7_field_83 ?_
        refine v_ild3 dX7_field_84 ?_
        refine v_callVi (kM_votesFor E Mz (by omega) hI) dX7_field_85 cX7_90 rfl sh_92 rfl (by decide) (Nat.le_of_ble_eq_true rfl) rfl (fun r M1z hq => ?_)
        obtain ⟨hr, hm⟩ := hq
        rw [hr, hm]
        clear hr hm
        exact v_iret dX7_field_88 rfl (⟨by unfold R_field; (conv => rhs; rw [if_pos (b2_1.mp h4), if_neg (by decide), if_neg (by decide), if_neg (by decide), if_pos (by decide), tN_n (p := g) (by omega), if_neg h75]); try rfl, rfl⟩)
      · refine v_iconstN (n := 0) dX7_field_78 ?_
        refine v_goto (tgt := 88) dX7_field_79 (by decide) ?_
        exact v_iret dX7_field_88 rfl (⟨by unfold R_field; (conv => rhs; rw [if_pos (b2_1.mp h4), if_neg (by decide), if_neg (by decide), if_neg (by decide), if_pos (by decide), tN_n (p := g) (by omega), if_pos h75]); rfl, rfl⟩)
    by_cases e17_4 : u = 4
    · subst e17_4
      refine v_tsIn (off := 72) (tgt := 89) dX7_field_17 (by decide) (by decide) (by decide) (by decide) ?_
      refine v_ild3 dX7_field_89 ?_
      refine v_if_ne (tgt := 97) dX7_field_90 (by decide) (fun h90 => ?_) (fun h90 => ?_)
      · refine v_ald0 dX7_field_97 ?_
        refine v_ild1 dX7_field_98 ?_
        refine v_ild3 dX7_field_99 ?_
        refine v_callVi (kM_thinkers E Mz (by omega) hI) dX7_field_100 cX7_96 rfl sh_92 rfl (by decide) (Nat.le_of_ble_eq_true rfl) rfl (fun r M1z hq => ?_)
        obtain ⟨hr, hm⟩ := hq
        rw [hr, hm]
        clear hr hm
        exact v_iret dX7_field_103 rfl (⟨by unfold R_field; (conv => rhs; rw [if_pos (b2_1.mp h4), if_neg (by decide), if_neg (by decide), if_neg (by decide), if_neg (by decide), if_pos (by decide), tN_n (p := g) (by omega), if_neg h90]); try rfl, rfl⟩)
      · refine v_iconstN (n := 0) dX7_field_93 ?_
        refine v_goto (tgt := 103) dX7_field_94 (by decide) ?_
        exact v_iret dX7_field_103 rfl (⟨by unfold R_field; (conv => rhs; rw [if_pos (b2_1.mp h4), if_neg (by decide), if_neg (by decide), if_neg (by decide), if_neg (by decide), if_pos (by decide), tN_n (p := g) (by omega), if_pos h90]); try rfl, rfl⟩)
    refine v_tsOut (tgt := 104) dX7_field_17 (by have := ne_toK (0) rfl e17_0; have := ne_toK (1) rfl e17_1; have := ne_toK (2) rfl e17_2; have := ne_toK (3) rfl e17_3; have := ne_toK (4) rfl e17_4; omega) (by decide) ?_
    refine v_ldc dX7_field_104 kX7_119 ?_
    exact v_iret dX7_field_106 rfl (⟨by unfold R_field; rw [if_pos (b2_1.mp h4), if_neg e17_0, if_neg e17_1, if_neg e17_2, if_neg e17_3, if_neg e17_4], rfl⟩)
  · refine v_ldc dX7_field_7 kX7_119 ?_
    exact v_iret dX7_field_9 rfl (⟨by unfold R_field; rw [if_neg (by rw [show isF f = false from b2_0.mp h4]; decide)], rfl⟩)
set_option maxRecDepth 100000 in
set_option maxHeartbeats 4000000 in
theorem aX_county (E : ev) (Mz : mm) {u : Int32} {W : Nat} (hI : CI (cv Mz 38) W) : Ct E 4 yX6_county cX6_county 2 (some .int) [.inr 0, .inl u] Mz (qI E (fun r M' => r = R_county (cv Mz 38) u ∧ M' = Mz)) := by
  refine ct_of (by decide) (Nat.le_of_ble_eq_true rfl) ?_
  show V E 4 _ _ _ _ _ 0 [some (.inr 0), some (.inl u)] [] Mz
  refine v_ild1 dX6_county_0 ?_
  by_cases e1_0 : u = 0
  · subst e1_0
    refine v_tsIn (off := 35) (tgt := 36) dX6_county_1 (by decide) (by decide) (by decide) (by decide) ?_
    refine v_ald0 dX6_county_36 ?_
    refine v_getr dX6_county_37 gX6_28 sh_0 rfl ?_
    refine v_geti dX6_county_40 gX6_154 sh_38 rfl ?_
    exact v_iret dX6_county_43 rfl (⟨by unfold R_county; rw [if_pos (by decide)]; rfl, rfl⟩)
  by_cases e1_1 : u = 1
  · subst e1_1
    refine v_tsIn (off := 43) (tgt := 44) dX6_county_1 (by decide) (by decide) (by decide) (by decide) ?_
    refine v_ald0 dX6_county_44 ?_
    refine v_getr dX6_county_45 gX6_28 sh_0 rfl ?_
    refine v_geti dX6_county_48 gX6_164 sh_38 rfl ?_
    exact v_iret dX6_county_51 rfl (⟨by unfold R_county; rw [if_neg (by decide), if_pos (by decide)]; rfl, rfl⟩)
  by_cases e1_2 : u = 2
  · subst e1_2
    refine v_tsIn (off := 51) (tgt := 52) dX6_county_1 (by decide) (by decide) (by decide) (by decide) ?_
    refine v_ald0 dX6_county_52 ?_
    refine v_getr dX6_county_53 gX6_28 sh_0 rfl ?_
    refine v_geti dX6_county_56 gX6_167 sh_38 rfl ?_
    exact v_iret dX6_county_59 rfl (⟨by unfold R_county; rw [if_neg (by decide), if_neg (by decide), if_pos (by decide)]; rfl, rfl⟩)
  by_cases e1_3 : u = 3
  · subst e1_3
    refine v_tsIn (off := 59) (tgt := 60) dX6_county_1 (by decide) (by decide) (by decide) (by decide) ?_
    refine v_ald0 dX6_county_60 ?_
    refine v_getr dX6_county_61 gX6_28 sh_0 rfl ?_
    refine v_callVi (kC_sureOfAll E Mz CB.now hI) dX6_county_64 cX6_170 rfl sh_38 rfl (by decide) (Nat.le_of_ble_eq_true rfl) rfl (fun r M1z hq => ?_)
    obtain ⟨hr, hm⟩ := hq
    rw [hr, hm]
    clear hr hm
    exact v_iret dX6_county_67 rfl (⟨by unfold R_county; rw [if_neg (by decide), if_neg (by decide), if_neg (by decide), if_pos (by decide)], rfl⟩)
  by_cases e1_4 : u = 4
  · subst e1_4
    refine v_tsIn (off := 67) (tgt := 68) dX6_county_1 (by decide) (by decide) (by decide) (by decide) ?_
    refine v_ald0 dX6_county_68 ?_
    refine v_getr dX6_county_69 gX6_28 sh_0 rfl ?_
    refine v_callVi (kC_agreed E Mz CB.now hI) dX6_county_72 cX6_174 rfl sh_38 rfl (by decide) (Nat.le_of_ble_eq_true rfl) rfl (fun r M1z hq => ?_)
    obtain ⟨hr, hm⟩ := hq
    rw [hr, hm]
    clear hr hm
    exact v_iret dX6_county_75 rfl (⟨by unfold R_county; rw [if_neg (by decide), if_neg (by decide), if_neg (by decide), if_neg (by decide), if_pos (by decide)], rfl⟩)
  refine v_tsOut (tgt := 76) dX6_county_1 (by have := ne_toK (0) rfl e1_0; have := ne_toK (1) rfl e1_1; have := ne_toK (2) rfl e1_2; have := ne_toK (3) rfl e1_3; have := ne_toK (4) rfl e1_4; omega) (by decide) ?_
  refine v_ldc dX6_county_76 kX6_67 ?_
  exact v_iret dX6_county_78 rfl (⟨by unfold R_county; rw [if_neg e1_0, if_neg e1_1, if_neg e1_2, if_neg e1_3, if_neg e1_4], rfl⟩)
set_option maxRecDepth 100000 in
set_option maxHeartbeats 4000000 in
theorem aM_county (E : ev) (Mz : mm) {u : Int32} {W : Nat} (hI : CI (mv Mz) W) : Ct E 5 yX7_county cX7_county 2 (some .int) [.inr 92, .inl u] Mz (qI E (fun r M' => r = R_county (mv Mz) u ∧ M' = Mz)) := by
  refine ct_of (by decide) (Nat.le_of_ble_eq_true rfl) ?_
  show V E 5 _ _ _ _ _ 0 [some (.inr 92), some (.inl u)] [] Mz
  refine v_ild1 dX7_county_0 ?_
  by_cases e1_0 : u = 0
  · subst e1_0
    refine v_tsIn (off := 35) (tgt := 36) dX7_county_1 (by decide) (by decide) (by decide) (by decide) ?_
    refine v_ald0 dX7_county_36 ?_
    refine v_getr dX7_county_37 gX7_9 sh_92 rfl ?_
    refine v_iconstN (n := 3) dX7_county_40 ?_
    refine v_ild1 dX7_county_41 ?_
    refine v_iadd dX7_county_42 ?_
    refine v_eq (show nI 3 + (0) = nI 3 from by decide) ?_
    refine v_ialdN dX7_county_43 sh_93 (by omega) (by decide) ?_
    exact v_iret dX7_county_44 rfl (⟨by unfold R_county; rw [if_pos (by decide)]; rfl, rfl⟩)
  by_cases e1_1 : u = 1
  · subst e1_1
    refine v_tsIn (off := 35) (tgt := 36) dX7_county_1 (by decide) (by decide) (by decide) (by decide) ?_
    refine v_ald0 dX7_county_36 ?_
    refine v_getr dX7_county_37 gX7_9 sh_92 rfl ?_
    refine v_iconstN (n := 3) dX7_county_40 ?_
    refine v_ild1 dX7_county_41 ?_
    refine v_iadd dX7_county_42 ?_
    refine v_eq (show nI 3 + (1) = nI 4 from by decide) ?_
    refine v_ialdN dX7_county_43 sh_93 (by omega) (by decide) ?_
    exact v_iret dX7_county_44 rfl (⟨by unfold R_county; rw [if_neg (by decide), if_pos (by decide)]; rfl, rfl⟩)
  by_cases e1_2 : u = 2
  · subst e1_2
    refine v_tsIn (off := 35) (tgt := 36) dX7_county_1 (by decide) (by decide) (by decide) (by decide) ?_
    refine v_ald0 dX7_county_36 ?_
    refine v_getr dX7_county_37 gX7_9 sh_92 rfl ?_
    refine v_iconstN (n := 3) dX7_county_40 ?_
    refine v_ild1 dX7_county_41 ?_
    refine v_iadd dX7_county_42 ?_
    refine v_eq (show nI 3 + (2) = nI 5 from by decide) ?_
    refine v_ialdN dX7_county_43 sh_93 (by omega) (by decide) ?_
    exact v_iret dX7_county_44 rfl (⟨by unfold R_county; rw [if_neg (by decide), if_neg (by decide), if_pos (by decide)]; rfl, rfl⟩)
  by_cases e1_3 : u = 3
  · subst e1_3
    refine v_tsIn (off := 44) (tgt := 45) dX7_county_1 (by decide) (by decide) (by decide) (by decide) ?_
    refine v_ald0 dX7_county_45 ?_
    refine v_callVi (kM_allSure E Mz hI) dX7_county_46 cX7_175 rfl sh_92 rfl (by decide) (Nat.le_of_ble_eq_true rfl) rfl (fun r M1z hq => ?_)
    obtain ⟨hr, hm⟩ := hq
    rw [hr, hm]
    clear hr hm
    exact v_iret dX7_county_49 rfl (⟨by unfold R_county; rw [if_neg (by decide), if_neg (by decide), if_neg (by decide), if_pos (by decide)], rfl⟩)
  by_cases e1_4 : u = 4
  · subst e1_4
    refine v_tsIn (off := 49) (tgt := 50) dX7_county_1 (by decide) (by decide) (by decide) (by decide) ?_
    refine v_ald0 dX7_county_50 ?_
    refine v_callVi (kM_agreed E Mz hI) dX7_county_51 cX7_178 rfl sh_92 rfl (by decide) (Nat.le_of_ble_eq_true rfl) rfl (fun r M1z hq => ?_)
    obtain ⟨hr, hm⟩ := hq
    rw [hr, hm]
    clear hr hm
    exact v_iret dX7_county_54 rfl (⟨by unfold R_county; rw [if_neg (by decide), if_neg (by decide), if_neg (by decide), if_neg (by decide), if_pos (by decide)], rfl⟩)
  refine v_tsOut (tgt := 55) dX7_county_1 (by have := ne_toK (0) rfl e1_0; have := ne_toK (1) rfl e1_1; have := ne_toK (2) rfl e1_2; have := ne_toK (3) rfl e1_3; have := ne_toK (4) rfl e1_4; omega) (by decide) ?_
  refine v_ldc dX7_county_55 kX7_119 ?_
  exact v_iret dX7_county_57 rfl (⟨by unfold R_county; rw [if_neg e1_0, if_neg e1_1, if_neg e1_2, if_neg e1_3, if_neg e1_4], rfl⟩)
