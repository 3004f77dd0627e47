theorem min_nI {a b : Nat} (ha : a < 2 ^ 31) (hb : b < 2 ^ 31) : (if nI b < nI a then nI b else nI a) = nI (min a b) := by
  by_cases h : b < a
  · rw [if_pos ((nI_ltI hb ha).mpr h), Nat.min_eq_right (by omega)]
  · rw [if_neg (fun q => h ((nI_ltI hb ha).mp q)), Nat.min_eq_left (by omega)]
theorem clamp_nI {a b : Nat} (ha : a < 2 ^ 31) (hb : b < 2 ^ 31) : clampS (nI a) (nI 0) (nI b) = nI (min b a) := by
  unfold clampS
  rw [if_neg (show ¬ nI a < nI 0 from nI_pos ha)]
  by_cases h : b < a
  · rw [if_pos ((nI_ltI hb ha).mpr h), Nat.min_eq_left (by omega)]
  · rw [if_neg (fun q => h ((nI_ltI hb ha).mp q)), Nat.min_eq_right (by omega)]
def R_deal (v : fl) (n : Int32) : Int32 := if inB n (nI 1) (nI 8) = true then nI (min (tN n) (8 - pn v)) else cBAD
def F_deal (v : fl) (n : Int32) : fl := if inB n (nI 1) (nI 8) = true then dlK v (min (tN n) (8 - pn v)) else v
def wkN (v : fl) (n : Int32) : Nat := min (tN n) (9999 - tN (v 2))
def R_weeks (pf : p4) (v : fl) (n : Int32) : Int32 := if inB n (nI 1) (nI 100) = true then wksS pf v (wkN v n) 3 - v 3 else cBAD
def F_weeks (pf : p4) (v : fl) (n : Int32) : fl := if inB n (nI 1) (nI 100) = true then wksS pf v (wkN v n) else v
theorem CI.tight {v : fl} {W : Nat} (h : CI v W) (hW : W < 2 ^ 31) : CI v (tN (v 2) + 1) := by
  obtain ⟨k, hk, e⟩ := h.2.2.2.1
  exact ⟨h.1, h.2.1, h.2.2.1, ⟨k, by rw [e, tN_n (by omega)]; omega, e⟩, h.2.2.2.2⟩
theorem CI.mono {v : fl} {W W' : Nat} (h : CI v W) (hW : W ≤ W') : CI v W' := ⟨h.1, h.2.1, h.2.2.1, h.2.2.2.1.mono hW, h.2.2.2.2⟩
theorem set_B {K m : Nat} {y : Int32} (hK : (K = 1 ∧ m = 7) ∨ (K = 2 ∧ m = 9) ∨ (K = 3 ∧ m = 99)) : setB (nI K) y = inB y (nI 0) (nI m) := by
  unfold setB
  rcases hK with ⟨rfl, rfl⟩ | ⟨rfl, rfl⟩ | ⟨rfl, rfl⟩
  · rw [decide_eq_true rfl, decide_eq_false (by decide), decide_eq_false (by decide)]; simp
  · rw [decide_eq_false (by decide), decide_eq_true rfl, decide_eq_false (by decide)]; simp
  · rw [decide_eq_false (by decide), decide_eq_false (by decide), decide_eq_true rfl]; simp
theorem set_no {u y : Int32} (h1 : ¬ u = nI 1) (h2 : ¬ u = nI 2) (h3 : ¬ u = nI 3) : setB u y = false := by
  unfold setB
  rw [decide_eq_false h1, decide_eq_false h2, decide_eq_false h3]; rfl
theorem set_X {Mz M1 : mm} {r y : Int32} {p K m : Nat} (hp : p < 8) (hP : isP (cv Mz 38) (nI p) = true) (hK : (K = 1 ∧ m = 7) ∨ (K = 2 ∧ m = 9) ∨ (K = 3 ∧ m = 99)) (hq : r = (if inB y (nI 0) (nI m) = true then Mz (39 + K) p else cBAD) ∧ M1 = (if inB y (nI 0) (nI m) = true then wr Mz (39 + K) p y else Mz)) : r = R_set (cv Mz 38) (nI p) (nI K) y ∧ cv M1 38 = F_set (cv Mz 38) (nI p) (nI K) y ∧ FrC 38 Mz M1 := by
  obtain ⟨hr, hm⟩ := hq
  unfold R_set F_set
  rw [set_B hK, hP]
  by_cases hb : inB y (nI 0) (nI m) = true
  · rw [if_pos hb] at hr hm
    rw [hb, if_pos (by decide), if_pos (by decide), tN_n (by omega), tN_n (by omega), hr, hm]
    rcases hK with ⟨rfl, -⟩ | ⟨rfl, -⟩ | ⟨rfl, -⟩
    · exact ⟨(cv_pl Mz 38 hp).symm.trans (by congr 1; omega), (cv_upl (c := 38) hp).trans (by congr 1; omega), FrC.w _ (by omega)⟩
    · exact ⟨(cv_tr Mz 38 hp).symm.trans (by congr 1; omega), (cv_utr (c := 38) hp).trans (by congr 1; omega), FrC.w _ (by omega)⟩
    · exact ⟨(cv_su Mz 38 hp).symm.trans (by congr 1; omega), (cv_usu (c := 38) hp).trans (by congr 1; omega), FrC.w _ (by omega)⟩
  · rw [if_neg hb] at hr hm
    rw [show inB y (nI 0) (nI m) = false from by cases h : inB y (nI 0) (nI m) <;> first | rfl | exact absurd h hb, if_neg (by decide), if_neg (by decide)]
    rw [hr, hm]
    exact ⟨rfl, rfl, FrC.rf 38 Mz⟩
set_option maxRecDepth 100000 in
set_option maxHeartbeats 4000000 in
theorem kX_replaced (E : ev) (Mz : mm) {a n p : Nat} {y hi : Int32} (ha : sh a = .inl (0, n, none)) (hn : n < 2 ^ 31) (hp : p < n) : Ct E 1 yX6_replaced cX6_replaced 5 (some .int) [.inr a, .inl (nI p), .inl y, .inl hi] Mz (qI E (fun r M' => r = (if inB y (nI 0) hi = true then Mz a p else cBAD) ∧ M' = (if inB y (nI 0) hi = true then wr Mz a p y else Mz))) := by
  refine ct_of (by decide) (Nat.le_of_ble_eq_true rfl) ?_
  show V E 1 _ _ _ _ _ 0 [some (.inr a), some (.inl (nI p)), some (.inl y), some (.inl hi), none] [] Mz
  refine v_ild2 dX6_replaced_0 ?_
  refine v_iconstN (n := 0) dX6_replaced_1 ?_
  refine v_ild3 dX6_replaced_2 ?_
  refine v_callSi (kX_outside E _) dX6_replaced_3 cX6_63 rfl (by decide) (Nat.le_of_ble_eq_true rfl) rfl (fun r M1z hq => ?_)
  obtain ⟨hr, hm⟩ := hq
  rw [hr, hm]
  clear hr hm
  refine v_if_eq (tgt := 12) dX6_replaced_6 (by decide) (fun h6 => ?_) (fun h6 => ?_)
  · refine v_ald0 dX6_replaced_12 ?_
    refine v_ild1 dX6_replaced_13 ?_
    refine v_ialdN dX6_replaced_14 ha hp hn ?_
    refine v_ist4 dX6_replaced_15 (by decide) ?_
    refine v_ald0 dX6_replaced_17 ?_
    refine v_ild1 dX6_replaced_18 ?_
    refine v_ild2 dX6_replaced_19 ?_
    refine v_iastN dX6_replaced_20 ha hp hn ?_
    refine v_ild4 dX6_replaced_21 ?_
    exact v_iret dX6_replaced_23 rfl (⟨by rw [if_pos (nb0 h6)], by rw [if_pos (nb0 h6)]⟩)
  · refine v_ldc dX6_replaced_9 kX6_67 ?_
    exact v_iret dX6_replaced_11 rfl (⟨by rw [if_neg (by rw [nb1 h6]; decide)], by rw [if_neg (by rw [nb1 h6]; decide)]⟩)
set_option maxRecDepth 100000 in
set_option maxHeartbeats 4000000 in
theorem aX_set (E : ev) (Mz : mm) {x u y : Int32} {W : Nat} (hI : CI (cv Mz 38) W) : Ct E 2 yX6_set cX6_set 4 (some .int) [.inr 0, .inl x, .inl u, .inl y] Mz (qI E (fun r M' => r = R_set (cv Mz 38) x u y ∧ cv M' 38 = F_set (cv Mz 38) x u y ∧ FrC 38 Mz M')) := by
  refine ct_of (by decide) (Nat.le_of_ble_eq_true rfl) ?_
  show V E 2 _ _ _ _ _ 0 [some (.inr 0), some (.inl x), some (.inl u), some (.inl y)] [] Mz
  refine v_ald0 dX6_set_0 ?_
  refine v_ild1 dX6_set_1 ?_
  refine v_callVi (kX_noPerson E _) dX6_set_2 cX6_77 rfl sh_0 rfl (by decide) (Nat.le_of_ble_eq_true rfl) rfl (fun r M1z hq => ?_)
  obtain ⟨hr, hm⟩ := hq
  rw [hr, hm]
  clear hr hm
  refine v_if_eq (tgt := 11) dX6_set_5 (by decide) (fun h5 => ?_) (fun h5 => ?_)
  · obtain ⟨p, hpn, hp, rfl⟩ := isP_n hI (nb0 h5)
    refine v_ild2 dX6_set_11 ?_
    by_cases e12_1 : u = 1
    · subst e12_1
      refine v_tsIn (off := 28) (tgt := 40) dX6_set_12 (by decide) (by decide) (by decide) (by decide) ?_
      refine v_ald0 dX6_set_40 ?_
      refine v_getr dX6_set_41 gX6_28 sh_0 rfl ?_
      refine v_getr dX6_set_44 gX6_83 sh_38 rfl ?_
      refine v_ild1 dX6_set_47 ?_
      refine v_ild3 dX6_set_48 ?_
      refine v_bipushN (n := 7) dX6_set_49 (by decide) ?_
      refine v_callSi (kX_replaced E Mz sh_40 (by decide) hp) dX6_set_51 cX6_107 rfl (by decide) (Nat.le_of_ble_eq_true rfl) rfl (fun r M1z hq => ?_)
      exact v_iret dX6_set_54 rfl (set_X hp (nb0 h5) (by omega) (K := 1) (m := 7) hq)
    by_cases e12_2 : u = 2
    · subst e12_2
      refine v_tsIn (off := 43) (tgt := 55) dX6_set_12 (by decide) (by decide) (by decide) (by decide) ?_
      refine v_ald0 dX6_set_55 ?_
      refine v_getr dX6_set_56 gX6_28 sh_0 rfl ?_
      refine v_getr dX6_set_59 gX6_86 sh_38 rfl ?_
      refine v_ild1 dX6_set_62 ?_
      refine v_ild3 dX6_set_63 ?_
      refine v_bipushN (n := 9) dX6_set_64 (by decide) ?_
      refine v_callSi (kX_replaced E Mz sh_41 (by decide) hp) dX6_set_66 cX6_107 rfl (by decide) (Nat.le_of_ble_eq_true rfl) rfl (fun r M1z hq => ?_)
      exact v_iret dX6_set_69 rfl (set_X hp (nb0 h5) (by omega) (K := 2) (m := 9) hq)
    by_cases e12_3 : u = 3
    · subst e12_3
      refine v_tsIn (off := 58) (tgt := 70) dX6_set_12 (by decide) (by decide) (by decide) (by decide) ?_
      refine v_ald0 dX6_set_70 ?_
      refine v_getr dX6_set_71 gX6_28 sh_0 rfl ?_
      refine v_getr dX6_set_74 gX6_89 sh_38 rfl ?_
      refine v_ild1 dX6_set_77 ?_
      refine v_ild3 dX6_set_78 ?_
      refine v_bipushN (n := 99) dX6_set_79 (by decide) ?_
      refine v_callSi (kX_replaced E Mz sh_42 (by decide) hp) dX6_set_81 cX6_107 rfl (by decide) (Nat.le_of_ble_eq_true rfl) rfl (fun r M1z hq => ?_)
      exact v_iret dX6_set_84 rfl (set_X hp (nb0 h5) (by omega) (K := 3) (m := 99) hq)
    refine v_tsOut (tgt := 85) dX6_set_12 (by have := ne_toK (1) rfl e12_1; have := ne_toK (2) rfl e12_2; have := ne_toK (3) rfl e12_3; omega) (by decide) ?_
    refine v_ldc dX6_set_85 kX6_67 ?_
    exact v_iret dX6_set_87 rfl (⟨by unfold R_set; rw [set_no e12_1 e12_2 e12_3, if_neg (by simp)], by unfold F_set; rw [set_no e12_1 e12_2 e12_3, if_neg (by simp)], FrC.rf 38 Mz⟩)
  · refine v_ldc dX6_set_8 kX6_67 ?_
    exact v_iret dX6_set_10 rfl (⟨by unfold R_set; rw [if_neg (by simp [nb1 h5])], by unfold F_set; rw [if_neg (by simp [nb1 h5])], FrC.rf 38 Mz⟩)
set_option maxRecDepth 100000 in
set_option maxHeartbeats 4000000 in
theorem aM_set (E : ev) (Mz : mm) {x u y : Int32} {W : Nat} (hI : CI (mv Mz) W) : Ct E 2 yX7_set cX7_set 5 (some .int) [.inr 92, .inl x, .inl u, .inl y] Mz (qI E (fun r M' => r = R_set (mv Mz) x u y ∧ mv M' = F_set (mv Mz) x u y ∧ FrM Mz M')) := by
  refine ct_of (by decide) (Nat.le_of_ble_eq_true rfl) ?_
  show V E 2 _ _ _ _ _ 0 [some (.inr 92), some (.inl x), some (.inl u), some (.inl y), none] [] Mz
  by_cases e1 : u = nI 1
  · subst e1
    refine v_ild2 dX7_set_0 ?_
    refine v_iconstN (n := 1) dX7_set_1 ?_
    refine v_icmpN_ne (tgt := 15) dX7_set_2 (by decide) (by omega) (by omega) (fun h2 => absurd h2 (by decide)) (fun h2 => ?_)
    refine v_ild3 dX7_set_5 ?_
    refine v_iconstN (n := 0) dX7_set_6 ?_
    refine v_bipushN (n := 7) dX7_set_7 (by decide) ?_
    refine v_callSi (kM_in E _) dX7_set_9 cX7_75 rfl (by decide) (Nat.le_of_ble_eq_true rfl) rfl (fun r M1z hq => ?_)
    obtain ⟨hr, hm⟩ := hq
    rw [hr, hm]
    clear hr hm
    refine v_if_ne (tgt := 45) dX7_set_12 (by decide) (fun h12 => ?_) (fun h12 => ?_)
    · refine v_iconstN (n := 1) dX7_set_45 ?_
      refine v_goto (tgt := 50) dX7_set_46 (by decide) ?_
      refine v_ist4 dX7_set_50 (by decide) ?_
      refine v_ald0 dX7_set_52 ?_
      refine v_ild1 dX7_set_53 ?_
      refine v_callVi (kM_isPerson E _) dX7_set_54 cX7_128 rfl sh_92 rfl (by decide) (Nat.le_of_ble_eq_true rfl) rfl (fun r M1z hq => ?_)
      obtain ⟨hr, hm⟩ := hq
      rw [hr, hm, show inB x (nI 0) (mv Mz 1 - nI 1) = isP (mv Mz) x from rfl]
      clear hr hm
      refine v_if_eq (tgt := 82) dX7_set_57 (by decide) (fun h57 => ?_) (fun h57 => ?_)
      · refine v_ldc dX7_set_82 kX7_119 ?_
        exact v_iret dX7_set_84 rfl (⟨by unfold R_set; rw [set_B (by omega : (1 = 1 ∧ 7 = 7) ∨ (1 = 2 ∧ 7 = 9) ∨ (1 = 3 ∧ 7 = 99)), if_neg (by simp [b2_1.mp h12, b2_0.mp h57])], by unfold F_set; rw [set_B (by omega : (1 = 1 ∧ 7 = 7) ∨ (1 = 2 ∧ 7 = 9) ∨ (1 = 3 ∧ 7 = 99)), if_neg (by simp [b2_1.mp h12, b2_0.mp h57])], FrM.rf Mz⟩)
      · refine v_ild4 dX7_set_60 ?_
        refine v_if_eq (tgt := 82) dX7_set_62 (by decide) (fun h62 => absurd h62 (by decide)) (fun h62 => ?_)
        obtain ⟨p, hpn, hp, rfl⟩ := isP_n hI (b2_1.mp h57)
        refine v_ald0 dX7_set_65 ?_
        refine v_bipushN (n := 19) dX7_set_66 (by decide) ?_
        refine v_bipushN (n := 10) dX7_set_68 (by decide) ?_
        refine v_ild1 dX7_set_70 ?_
        refine v_imulN dX7_set_71 ?_
        refine v_iaddN dX7_set_72 ?_
        refine v_ild2 dX7_set_73 ?_
        refine v_iaddN dX7_set_74 ?_
        refine v_ild3 dX7_set_75 ?_
        refine v_callVi (kM_swaps E Mz (i := 19 + 10 * p + 1) (by omega)) dX7_set_76 cX7_142 rfl sh_92 rfl (by decide) (Nat.le_of_ble_eq_true rfl) rfl (fun r2 M2z hq2 => ?_)
        obtain ⟨hr2, hm2⟩ := hq2
        rw [hr2, hm2]
        refine v_goto (tgt := 84) dX7_set_79 (by decide) ?_
        exact v_iret dX7_set_84 rfl (⟨by unfold R_set; rw [set_B (by omega : (1 = 1 ∧ 7 = 7) ∨ (1 = 2 ∧ 7 = 9) ∨ (1 = 3 ∧ 7 = 99)), if_pos (by simp [b2_1.mp h57, b2_1.mp h12]), tN_n (by omega), tN_n (by omega)], by unfold F_set; rw [set_B (by omega : (1 = 1 ∧ 7 = 7) ∨ (1 = 2 ∧ 7 = 9) ∨ (1 = 3 ∧ 7 = 99)), if_pos (by simp [b2_1.mp h57, b2_1.mp h12]), tN_n (by omega), tN_n (by omega)]; exact mv_u (by omega), FrM.w _ (by omega)⟩)
    · refine v_ild2 dX7_set_15 ?_
      refine v_iconstN (n := 2) dX7_set_16 ?_
      refine v_icmpN_ne (tgt := 30) dX7_set_17 (by decide) (by omega) (by omega) (fun h17 => ?_) (fun h17 => absurd h17 (by decide))
      refine v_ild2 dX7_set_30 ?_
      refine v_iconstN (n := 3) dX7_set_31 ?_
      refine v_icmpN_ne (tgt := 49) dX7_set_32 (by decide) (by omega) (by omega) (fun h32 => ?_) (fun h32 => absurd h32 (by decide))
      refine v_iconstN (n := 0) dX7_set_49 ?_
      refine v_ist4 dX7_set_50 (by decide) ?_
      refine v_ald0 dX7_set_52 ?_
      refine v_ild1 dX7_set_53 ?_
      refine v_callVi (kM_isPerson E _) dX7_set_54 cX7_128 rfl sh_92 rfl (by decide) (Nat.le_of_ble_eq_true rfl) rfl (fun r M1z hq => ?_)
      obtain ⟨hr, hm⟩ := hq
      rw [hr, hm, show inB x (nI 0) (mv Mz 1 - nI 1) = isP (mv Mz) x from rfl]
      clear hr hm
      refine v_if_eq (tgt := 82) dX7_set_57 (by decide) (fun h57 => ?_) (fun h57 => ?_)
      · refine v_ldc dX7_set_82 kX7_119 ?_
        exact v_iret dX7_set_84 rfl (⟨by unfold R_set; rw [set_B (by omega : (1 = 1 ∧ 7 = 7) ∨ (1 = 2 ∧ 7 = 9) ∨ (1 = 3 ∧ 7 = 99)), if_neg (by simp [b2_0.mp h12, b2_0.mp h57])], by unfold F_set; rw [set_B (by omega : (1 = 1 ∧ 7 = 7) ∨ (1 = 2 ∧ 7 = 9) ∨ (1 = 3 ∧ 7 = 99)), if_neg (by simp [b2_0.mp h12, b2_0.mp h57])], FrM.rf Mz⟩)
      · refine v_ild4 dX7_set_60 ?_
        refine v_if_eq (tgt := 82) dX7_set_62 (by decide) (fun h62 => ?_) (fun h62 => absurd h62 (by decide))
        refine v_ldc dX7_set_82 kX7_119 ?_
        exact v_iret dX7_set_84 rfl (⟨by unfold R_set; rw [set_B (by omega : (1 = 1 ∧ 7 = 7) ∨ (1 = 2 ∧ 7 = 9) ∨ (1 = 3 ∧ 7 = 99)), if_neg (by simp [b2_0.mp h12, b2_1.mp h57])], by unfold F_set; rw [set_B (by omega : (1 = 1 ∧ 7 = 7) ∨ (1 = 2 ∧ 7 = 9) ∨ (1 = 3 ∧ 7 = 99)), if_neg (by simp [b2_0.mp h12, b2_1.mp h57])], FrM.rf Mz⟩)
  by_cases e2 : u = nI 2
  · subst e2
    refine v_ild2 dX7_set_0 ?_
    refine v_iconstN (n := 1) dX7_set_1 ?_
    refine v_icmpN_ne (tgt := 15) dX7_set_2 (by decide) (by omega) (by omega) (fun h2 => ?_) (fun h2 => absurd h2 (by decide))
    refine v_ild2 dX7_set_15 ?_
    refine v_iconstN (n := 2) dX7_set_16 ?_
    refine v_icmpN_ne (tgt := 30) dX7_set_17 (by decide) (by omega) (by omega) (fun h17 => absurd h17 (by decide)) (fun h17 => ?_)
    refine v_ild3 dX7_set_20 ?_
    refine v_iconstN (n := 0) dX7_set_21 ?_
    refine v_bipushN (n := 9) dX7_set_22 (by decide) ?_
    refine v_callSi (kM_in E _) dX7_set_24 cX7_75 rfl (by decide) (Nat.le_of_ble_eq_true rfl) rfl (fun r M1z hq => ?_)
    obtain ⟨hr, hm⟩ := hq
    rw [hr, hm]
    clear hr hm
    refine v_if_ne (tgt := 45) dX7_set_27 (by decide) (fun h27 => ?_) (fun h27 => ?_)
    · refine v_iconstN (n := 1) dX7_set_45 ?_
      refine v_goto (tgt := 50) dX7_set_46 (by decide) ?_
      refine v_ist4 dX7_set_50 (by decide) ?_
      refine v_ald0 dX7_set_52 ?_
      refine v_ild1 dX7_set_53 ?_
      refine v_callVi (kM_isPerson E _) dX7_set_54 cX7_128 rfl sh_92 rfl (by decide) (Nat.le_of_ble_eq_true rfl) rfl (fun r M1z hq => ?_)
      obtain ⟨hr, hm⟩ := hq
      rw [hr, hm, show inB x (nI 0) (mv Mz 1 - nI 1) = isP (mv Mz) x from rfl]
      clear hr hm
      refine v_if_eq (tgt := 82) dX7_set_57 (by decide) (fun h57 => ?_) (fun h57 => ?_)
      · refine v_ldc dX7_set_82 kX7_119 ?_
        exact v_iret dX7_set_84 rfl (⟨by unfold R_set; rw [set_B (by omega : (2 = 1 ∧ 9 = 7) ∨ (2 = 2 ∧ 9 = 9) ∨ (2 = 3 ∧ 9 = 99)), if_neg (by simp [b2_1.mp h27, b2_0.mp h57])], by unfold F_set; rw [set_B (by omega : (2 = 1 ∧ 9 = 7) ∨ (2 = 2 ∧ 9 = 9) ∨ (2 = 3 ∧ 9 = 99)), if_neg (by simp [b2_1.mp h27, b2_0.mp h57])], FrM.rf Mz⟩)
      · refine v_ild4 dX7_set_60 ?_
        refine v_if_eq (tgt := 82) dX7_set_62 (by decide) (fun h62 => absurd h62 (by decide)) (fun h62 => ?_)
        obtain ⟨p, hpn, hp, rfl⟩ := isP_n hI (b2_1.mp h57)
        refine v_ald0 dX7_set_65 ?_
        refine v_bipushN (n := 19) dX7_set_66 (by decide) ?_
        refine v_bipushN (n := 10) dX7_set_68 (by decide) ?_
        refine v_ild1 dX7_set_70 ?_
        refine v_imulN dX7_set_71 ?_
        refine v_iaddN dX7_set_72 ?_
        refine v_ild2 dX7_set_73 ?_
        refine v_iaddN dX7_set_74 ?_
        refine v_ild3 dX7_set_75 ?_
        refine v_callVi (kM_swaps E Mz (i := 19 + 10 * p + 2) (by omega)) dX7_set_76 cX7_142 rfl sh_92 rfl (by decide) (Nat.le_of_ble_eq_true rfl) rfl (fun r2 M2z hq2 => ?_)
        obtain ⟨hr2, hm2⟩ := hq2
        rw [hr2, hm2]
        refine v_goto (tgt := 84) dX7_set_79 (by decide) ?_
        exact v_iret dX7_set_84 rfl (⟨by unfold R_set; rw [set_B (by omega : (2 = 1 ∧ 9 = 7) ∨ (2 = 2 ∧ 9 = 9) ∨ (2 = 3 ∧ 9 = 99)), if_pos (by simp [b2_1.mp h57, b2_1.mp h27]), tN_n (by omega), tN_n (by omega)], by unfold F_set; rw [set_B (by omega : (2 = 1 ∧ 9 = 7) ∨ (2 = 2 ∧ 9 = 9) ∨ (2 = 3 ∧ 9 = 99)), if_pos (by simp [b2_1.mp h57, b2_1.mp h27]), tN_n (by omega), tN_n (by omega)]; exact mv_u (by omega), FrM.w _ (by omega)⟩)
    · refine v_ild2 dX7_set_30 ?_
      refine v_iconstN (n := 3) dX7_set_31 ?_
      refine v_icmpN_ne (tgt := 49) dX7_set_32 (by decide) (by omega) (by omega) (fun h32 => ?_) (fun h32 => absurd h32 (by decide))
      refine v_iconstN (n := 0) dX7_set_49 ?_
      refine v_ist4 dX7_set_50 (by decide) ?_
      refine v_ald0 dX7_set_52 ?_
      refine v_ild1 dX7_set_53 ?_
      refine v_callVi (kM_isPerson E _) dX7_set_54 cX7_128 rfl sh_92 rfl (by decide) (Nat.le_of_ble_eq_true rfl) rfl (fun r M1z hq => ?_)
      obtain ⟨hr, hm⟩ := hq
      rw [hr, hm, show inB x (nI 0) (mv Mz 1 - nI 1) = isP (mv Mz) x from rfl]
      clear hr hm
      refine v_if_eq (tgt := 82) dX7_set_57 (by decide) (fun h57 => ?_) (fun h57 => ?_)
      · refine v_ldc dX7_set_82 kX7_119 ?_
        exact v_iret dX7_set_84 rfl (⟨by unfold R_set; rw [set_B (by omega : (2 = 1 ∧ 9 = 7) ∨ (2 = 2 ∧ 9 = 9) ∨ (2 = 3 ∧ 9 = 99)), if_neg (by simp [b2_0.mp h27, b2_0.mp h57])], by unfold F_set; rw [set_B (by omega : (2 = 1 ∧ 9 = 7) ∨ (2 = 2 ∧ 9 = 9) ∨ (2 = 3 ∧ 9 = 99)), if_neg (by simp [b2_0.mp h27, b2_0.mp h57])], FrM.rf Mz⟩)
      · refine v_ild4 dX7_set_60 ?_
        refine v_if_eq (tgt := 82) dX7_set_62 (by decide) (fun h62 => ?_) (fun h62 => absurd h62 (by decide))
        refine v_ldc dX7_set_82 kX7_119 ?_
        exact v_iret dX7_set_84 rfl (⟨by unfold R_set; rw [set_B (by omega : (2 = 1 ∧ 9 = 7) ∨ (2 = 2 ∧ 9 = 9) ∨ (2 = 3 ∧ 9 = 99)), if_neg (by simp [b2_0.mp h27, b2_1.mp h57])], by unfold F_set; rw [set_B (by omega : (2 = 1 ∧ 9 = 7) ∨ (2 = 2 ∧ 9 = 9) ∨ (2 = 3 ∧ 9 = 99)), if_neg (by simp [b2_0.mp h27, b2_1.mp h57])], FrM.rf Mz⟩)
  by_cases e3 : u = nI 3
  · subst e3
    refine v_ild2 dX7_set_0 ?_
    refine v_iconstN (n := 1) dX7_set_1 ?_
    refine v_icmpN_ne (tgt := 15) dX7_set_2 (by decide) (by omega) (by omega) (fun h2 => ?_) (fun h2 => absurd h2 (by decide))
    refine v_ild2 dX7_set_15 ?_
    refine v_iconstN (n := 2) dX7_set_16 ?_
    refine v_icmpN_ne (tgt := 30) dX7_set_17 (by decide) (by omega) (by omega) (fun h17 => ?_) (fun h17 => absurd h17 (by decide))
    refine v_ild2 dX7_set_30 ?_
    refine v_iconstN (n := 3) dX7_set_31 ?_
    refine v_icmpN_ne (tgt := 49) dX7_set_32 (by decide) (by omega) (by omega) (fun h32 => absurd h32 (by decide)) (fun h32 => ?_)
    refine v_ild3 dX7_set_35 ?_
    refine v_iconstN (n := 0) dX7_set_36 ?_
    refine v_bipushN (n := 99) dX7_set_37 (by decide) ?_
    refine v_callSi (kM_in E _) dX7_set_39 cX7_75 rfl (by decide) (Nat.le_of_ble_eq_true rfl) rfl (fun r M1z hq => ?_)
    obtain ⟨hr, hm⟩ := hq
    rw [hr, hm]
    clear hr hm
    refine v_if_eq (tgt := 49) dX7_set_42 (by decide) (fun h42 => ?_) (fun h42 => ?_)
    · refine v_iconstN (n := 0) dX7_set_49 ?_
      refine v_ist4 dX7_set_50 (by decide) ?_
      refine v_ald0 dX7_set_52 ?_
      refine v_ild1 dX7_set_53 ?_
      refine v_callVi (kM_isPerson E _) dX7_set_54 cX7_128 rfl sh_92 rfl (by decide) (Nat.le_of_ble_eq_true rfl) rfl (fun r M1z hq => ?_)
      obtain ⟨hr, hm⟩ := hq
      rw [hr, hm, show inB x (nI 0) (mv Mz 1 - nI 1) = isP (mv Mz) x from rfl]
      clear hr hm
      refine v_if_eq (tgt := 82) dX7_set_57 (by decide) (fun h57 => ?_) (fun h57 => ?_)
      · refine v_ldc dX7_set_82 kX7_119 ?_
        exact v_iret dX7_set_84 rfl (⟨by unfold R_set; rw [set_B (by omega : (3 = 1 ∧ 99 = 7) ∨ (3 = 2 ∧ 99 = 9) ∨ (3 = 3 ∧ 99 = 99)), if_neg (by simp [b2_0.mp h42, b2_0.mp h57])], by unfold F_set; rw [set_B (by omega : (3 = 1 ∧ 99 = 7) ∨ (3 = 2 ∧ 99 = 9) ∨ (3 = 3 ∧ 99 = 99)), if_neg (by simp [b2_0.mp h42, b2_0.mp h57])], FrM.rf Mz⟩)
      · refine v_ild4 dX7_set_60 ?_
        refine v_if_eq (tgt := 82) dX7_set_62 (by decide) (fun h62 => ?_) (fun h62 => absurd h62 (by decide))
        refine v_ldc dX7_set_82 kX7_119 ?_
        exact v_iret dX7_set_84 rfl (⟨by unfold R_set; rw [set_B (by omega : (3 = 1 ∧ 99 = 7) ∨ (3 = 2 ∧ 99 = 9) ∨ (3 = 3 ∧ 99 = 99)), if_neg (by simp [b2_0.mp h42, b2_1.mp h57])], by unfold F_set; rw [set_B (by omega : (3 = 1 ∧ 99 = 7) ∨ (3 = 2 ∧ 99 = 9) ∨ (3 = 3 ∧ 99 = 99)), if_neg (by simp [b2_0.mp h42, b2_1.mp h57])], FrM.rf Mz⟩)
    · refine v_iconstN (n := 1) dX7_set_45 ?_
      refine v_goto (tgt := 50) dX7_set_46 (by decide) ?_
      refine v_ist4 dX7_set_50 (by decide) ?_
      refine v_ald0 dX7_set_52 ?_
      refine v_ild1 dX7_set_53 ?_
      refine v_callVi (kM_isPerson E _) dX7_set_54 cX7_128 rfl sh_92 rfl (by decide) (Nat.le_of_ble_eq_true rfl) rfl (fun r M1z hq => ?_)
      obtain ⟨hr, hm⟩ := hq
      rw [hr, hm, show inB x (nI 0) (mv Mz 1 - nI 1) = isP (mv Mz) x from rfl]
      clear hr hm
      refine v_if_eq (tgt := 82) dX7_set_57 (by decide) (fun h57 => ?_) (fun h57 => ?_)
      · refine v_ldc dX7_set_82 kX7_119 ?_
        exact v_iret dX7_set_84 rfl (⟨by unfold R_set; rw [set_B (by omega : (3 = 1 ∧ 99 = 7) ∨ (3 = 2 ∧ 99 = 9) ∨ (3 = 3 ∧ 99 = 99)), if_neg (by simp [b2_1.mp h42, b2_0.mp h57])], by unfold F_set; rw [set_B (by omega : (3 = 1 ∧ 99 = 7) ∨ (3 = 2 ∧ 99 = 9) ∨ (3 = 3 ∧ 99 = 99)), if_neg (by simp [b2_1.mp h42, b2_0.mp h57])], FrM.rf Mz⟩)
      · refine v_ild4 dX7_set_60 ?_
        refine v_if_eq (tgt := 82) dX7_set_62 (by decide) (fun h62 => absurd h62 (by decide)) (fun h62 => ?_)
        obtain ⟨p, hpn, hp, rfl⟩ := isP_n hI (b2_1.mp h57)
        refine v_ald0 dX7_set_65 ?_
        refine v_bipushN (n := 19) dX7_set_66 (by decide) ?_
        refine v_bipushN (n := 10) dX7_set_68 (by decide) ?_
        refine v_ild1 dX7_set_70 ?_
        refine v_imulN dX7_set_71 ?_
        refine v_iaddN dX7_set_72 ?_
        refine v_ild2 dX7_set_73 ?_
        refine v_iaddN dX7_set_74 ?_
        refine v_ild3 dX7_set_75 ?_
        refine v_callVi (kM_swaps E Mz (i := 19 + 10 * p + 3) (by omega)) dX7_set_76 cX7_142 rfl sh_92 rfl (by decide) (Nat.le_of_ble_eq_true rfl) rfl (fun r2 M2z hq2 => ?_)
        obtain ⟨hr2, hm2⟩ := hq2
        rw [hr2, hm2]
        refine v_goto (tgt := 84) dX7_set_79 (by decide) ?_
        exact v_iret dX7_set_84 rfl (⟨by unfold R_set; rw [set_B (by omega : (3 = 1 ∧ 99 = 7) ∨ (3 = 2 ∧ 99 = 9) ∨ (3 = 3 ∧ 99 = 99)), if_pos (by simp [b2_1.mp h57, b2_1.mp h42]), tN_n (by omega), tN_n (by omega)], by unfold F_set; rw [set_B (by omega : (3 = 1 ∧ 99 = 7) ∨ (3 = 2 ∧ 99 = 9) ∨ (3 = 3 ∧ 99 = 99)), if_pos (by simp [b2_1.mp h57, b2_1.mp h42]), tN_n (by omega), tN_n (by omega)]; exact mv_u (by omega), FrM.w _ (by omega)⟩)
  refine v_ild2 dX7_set_0 ?_
  refine v_iconstN (n := 1) dX7_set_1 ?_
  refine v_icmp_ne (tgt := 15) dX7_set_2 (by decide) (fun h2 => ?_) (fun h2 => absurd h2 e1)
  refine v_ild2 dX7_set_15 ?_
  refine v_iconstN (n := 2) dX7_set_16 ?_
  refine v_icmp_ne (tgt := 30) dX7_set_17 (by decide) (fun h17 => ?_) (fun h17 => absurd h17 (e2))
  refine v_ild2 dX7_set_30 ?_
  refine v_iconstN (n := 3) dX7_set_31 ?_
  refine v_icmp_ne (tgt := 49) dX7_set_32 (by decide) (fun h32 => ?_) (fun h32 => absurd h32 (e3))
  refine v_iconstN (n := 0) dX7_set_49 ?_
  refine v_ist4 dX7_set_50 (by decide) ?_
  refine v_ald0 dX7_set_52 ?_
  refine v_ild1 dX7_set_53 ?_
  refine v_callVi (kM_isPerson E _) dX7_set_54 cX7_128 rfl sh_92 rfl (by decide) (Nat.le_of_ble_eq_true rfl) rfl (fun r M1z hq => ?_)
  obtain ⟨hr, hm⟩ := hq
  rw [hr, hm, show inB x (nI 0) (mv Mz 1 - nI 1) = isP (mv Mz) x from rfl]
  clear hr hm
  refine v_if_eq (tgt := 82) dX7_set_57 (by decide) (fun h57 => ?_) (fun h57 => ?_)
  · refine v_ldc dX7_set_82 kX7_119 ?_
    exact v_iret dX7_set_84 rfl (⟨by unfold R_set; rw [set_no e1 e2 e3, if_neg (by simp)], by unfold F_set; rw [set_no e1 e2 e3, if_neg (by simp)], FrM.rf Mz⟩)
  · refine v_ild4 dX7_set_60 ?_
    refine v_if_eq (tgt := 82) dX7_set_62 (by decide) (fun h62 => ?_) (fun h62 => absurd h62 (by decide))
    refine v_ldc dX7_set_82 kX7_119 ?_
    exact v_iret dX7_set_84 rfl (⟨by unfold R_set; rw [set_no e1 e2 e3, if_neg (by simp)], by unfold F_set; rw [set_no e1 e2 e3, if_neg (by simp)], FrM.rf Mz⟩)
set_option maxRecDepth 100000 in
set_option maxHeartbeats 4000000 in
theorem aX_seed (E : ev) (Mz : mm) {x : Int32} : Ct E 0 yX6_seed cX6_seed 3 (some .int) [.inr 0, .inl x] Mz (qI E (fun r M' => r = cv Mz 38 0 ∧ cv M' 38 = upd (cv Mz 38) 0 x ∧ FrC 38 Mz M')) := by
  refine ct_of (by decide) (Nat.le_of_ble_eq_true rfl) ?_
  show V E 0 _ _ _ _ _ 0 [some (.inr 0), some (.inl x), none] [] Mz
  refine v_ald0 dX6_seed_0 ?_
  refine v_getr dX6_seed_1 gX6_28 sh_0 rfl ?_
  refine v_geti dX6_seed_4 gX6_151 sh_38 rfl ?_
  refine v_ist2 dX6_seed_7 (by decide) ?_
  refine v_ald0 dX6_seed_8 ?_
  refine v_getr dX6_seed_9 gX6_28 sh_0 rfl ?_
  refine v_ild1 dX6_seed_12 ?_
  refine v_puti dX6_seed_13 pX6_151 sh_38 rfl rfl rfl ?_
  refine v_ild2 dX6_seed_16 ?_
  exact v_iret dX6_seed_17 rfl (⟨rfl, cv_uz, FrC.w _ (by decide)⟩)
set_option maxRecDepth 100000 in
set_option maxHeartbeats 4000000 in
theorem aM_seed (E : ev) (Mz : mm) {x : Int32} : Ct E 1 yX7_seed cX7_seed 2 (some .int) [.inr 92, .inl x] Mz (qI E (fun r M' => r = mv Mz 0 ∧ mv M' = upd (mv Mz) 0 x ∧ FrM Mz M')) := by
  refine ct_of (by decide) (Nat.le_of_ble_eq_true rfl) ?_
  show V E 1 _ _ _ _ _ 0 [some (.inr 92), some (.inl x)] [] Mz
  refine v_ald0 dX7_seed_0 ?_
  refine v_iconstN (n := 0) dX7_seed_1 ?_
  refine v_ild1 dX7_seed_2 ?_
  refine v_callVi (kM_swaps E Mz (i := 0) (by decide)) dX7_seed_3 cX7_142 rfl sh_92 rfl (by decide) (Nat.le_of_ble_eq_true rfl) rfl (fun r2 M2z hq2 => ?_)
  obtain ⟨hr2, hm2⟩ := hq2
  rw [hr2, hm2]
  exact v_iret dX7_seed_6 rfl (⟨rfl, mv_u (by decide), FrM.w _ (by decide)⟩)
set_option maxRecDepth 100000 in
set_option maxHeartbeats 4000000 in
theorem aX_deal (E : ev) (Mz : mm) {n : Int32} {W : Nat} (hI : CI (cv Mz 38) W) : Ct E 3 yX6_deal cX6_deal 4 (some .int) [.inr 0, .inl n] Mz (qI E (fun r M' => r = R_deal (cv Mz 38) n ∧ cv M' 38 = F_deal (cv Mz 38) n ∧ FrC 38 Mz M')) := by
  refine ct_of (by decide) (Nat.le_of_ble_eq_true rfl) ?_
  show V E 3 _ _ _ _ _ 0 [some (.inr 0), some (.inl n), none, none] [] Mz
  have hp8 := hI.pn.2
  refine v_ild1 dX6_deal_0 ?_
  refine v_iconstN (n := 1) dX6_deal_1 ?_
  refine v_bipushN (n := 8) dX6_deal_2 (by decide) ?_
  refine v_callSi (kX_outside E _) dX6_deal_4 cX6_63 rfl (by decide) (Nat.le_of_ble_eq_true rfl) rfl (fun r M1z hq => ?_)
  obtain ⟨hr, hm⟩ := hq
  rw [hr, hm]
  clear hr hm
  refine v_if_eq (tgt := 13) dX6_deal_7 (by decide) (fun h7 => ?_) (fun h7 => ?_)
  · obtain ⟨k, hkl, hk, rfl⟩ := inB_n (by decide) (by decide) (nb0 h7)
    refine v_ild1 dX6_deal_13 ?_
    refine v_bipushN (n := 8) dX6_deal_14 (by decide) ?_
    refine v_ald0 dX6_deal_16 ?_
    refine v_getr dX6_deal_17 gX6_28 sh_0 rfl ?_
    refine v_geti dX6_deal_20 gX6_68 sh_38 rfl ?_
    refine v_eq (hI.pn.1) ?_
    refine v_isubN dX6_deal_23 (by omega) ?_
    refine v_mmin dX6_deal_24 mX6_143 (by decide) (Nat.le_of_ble_eq_true rfl) ?_
    refine v_eq (min_nI (by omega) (by omega)) ?_
    refine v_ist2 dX6_deal_27 (by decide) ?_
    refine v_iconstN (n := 0) dX6_deal_28 ?_
    refine v_ist3 dX6_deal_29 (by decide) ?_
    refine v_loopP (pc := 30) (fun j _ => [some (.inr 0), some (.inl (nI k)), some (.inl (nI (min k (8 - pn (cv Mz 38))))), some (.inl (nI j))]) (fun j Mk => cv Mk 38 = dlK (cv Mz 38) j ∧ FrC 38 Mz Mk) ((min k (8 - pn (cv Mz 38)))) (rfl) (⟨rfl, FrC.rf 38 Mz⟩) (fun j Mk hj hM ih => ?_) (fun Mk hM => ?_)
    · obtain ⟨hv, hfr⟩ := hM
      obtain ⟨hIj, hpj⟩ := dl_ok hI j (by omega)
      rw [← hv] at hIj hpj
      refine v_ild3 dX6_deal_30 ?_
      refine v_ild2 dX6_deal_31 ?_
      refine v_icmpN_ge (tgt := 48) dX6_deal_32 (by decide) (by omega) (by omega) (fun h32 => absurd h32 (by omega)) (fun h32 => ?_)
      refine v_ald0 dX6_deal_35 ?_
      refine v_getr dX6_deal_36 gX6_28 sh_0 rfl ?_
      refine v_callVv (kC_settleByLot E Mk CB.now hIj (by omega)) dX6_deal_39 cX6_148 rfl sh_38 rfl (by decide) (Nat.le_of_ble_eq_true rfl) rfl (fun M1z hq => ?_)
      refine v_iincN3 (n := 1) dX6_deal_42 (by decide) ?_
      refine v_goto (tgt := 30) dX6_deal_45 (by decide) ?_
      exact ih _ ⟨by rw [hq.1, hv]; rfl, hfr.tr hq.2⟩
    · obtain ⟨hv, hfr⟩ := hM
      refine v_ild3 dX6_deal_30 ?_
      refine v_ild2 dX6_deal_31 ?_
      refine v_icmpN_ge (tgt := 48) dX6_deal_32 (by decide) (by omega) (by omega) (fun h32 => ?_) (fun h32 => absurd h32 (by omega))
      refine v_ild2 dX6_deal_48 ?_
      exact v_iret dX6_deal_49 rfl (⟨by unfold R_deal; rw [if_pos (nb0 h7), tN_n (by omega)], by unfold F_deal; rw [if_pos (nb0 h7), tN_n (by omega)]; exact hv, hfr⟩)
  · refine v_ldc dX6_deal_10 kX6_67 ?_
    exact v_iret dX6_deal_12 rfl (⟨by unfold R_deal; rw [if_neg (by rw [nb1 h7]; decide)], by unfold F_deal; rw [if_neg (by rw [nb1 h7]; decide)], FrC.rf 38 Mz⟩)
set_option maxRecDepth 100000 in
set_option maxHeartbeats 4000000 in
theorem aM_deal (E : ev) (Mz : mm) {n : Int32} {W : Nat} (hI : CI (mv Mz) W) : Ct E 3 yX7_deal cX7_deal 6 (some .int) [.inr 92, .inl n] Mz (qI E (fun r M' => r = R_deal (mv Mz) n ∧ mv M' = F_deal (mv Mz) n ∧ FrM Mz M')) := by
  refine ct_of (by decide) (Nat.le_of_ble_eq_true rfl) ?_
  show V E 3 _ _ _ _ _ 0 [some (.inr 92), some (.inl n), none, none, none, none] [] Mz
  have hp8 := hI.pn.2
  refine v_ild1 dX7_deal_0 ?_
  refine v_iconstN (n := 1) dX7_deal_1 ?_
  refine v_bipushN (n := 8) dX7_deal_2 (by decide) ?_
  refine v_callSi (kM_in E _) dX7_deal_4 cX7_75 rfl (by decide) (Nat.le_of_ble_eq_true rfl) rfl (fun r M1z hq => ?_)
  obtain ⟨hr, hm⟩ := hq
  rw [hr, hm]
  clear hr hm
  refine v_if_ne (tgt := 13) dX7_deal_7 (by decide) (fun h7 => ?_) (fun h7 => ?_)
  · obtain ⟨k, hkl, hk, rfl⟩ := inB_n (by decide) (by decide) (b2_1.mp h7)
    refine v_iconstN (n := 0) dX7_deal_13 ?_
    refine v_ist2 dX7_deal_14 (by decide) ?_
    refine v_loopP (pc := 15) (fun j _ => [some (.inr 92), some (.inl (nI k)), some (.inl (nI j)), none, none, none]) (fun j Mk => mv Mk = dlK (mv Mz) j ∧ FrM Mz Mk) ((min k (8 - pn (mv Mz)))) (rfl) (⟨rfl, FrM.rf Mz⟩) (fun j Mk hj hM ih => ?_) (fun Mk hM => ?_)
    · obtain ⟨hv, hfr⟩ := hM
      obtain ⟨hIj, hpj⟩ := dl_ok hI j (by omega)
      rw [← hv] at hIj hpj
      have hd1 := dN_lt (mv Mk 0)
      have hd2 := dN_lt (drw (mv Mk 0))
      have hd3 := dN_lt (drw (drw (mv Mk 0)))
      have hmz : mv (wr (wr (wr Mk 93 0 (drw (mv Mk 0))) 93 0 (drw (drw (mv Mk 0)))) 93 0 (drw (drw (drw (mv Mk 0))))) = upd (mv Mk) 0 (drw (drw (drw (mv Mk 0)))) := by rw [mv_u (by decide), mv_u (by decide), mv_u (by decide), upd_same, upd_same]
      have hpz : pn (upd (mv Mk) 0 (drw (drw (drw (mv Mk 0))))) = pn (mv Mk) := by show (upd _ 0 _ 1).toNatClampNeg = _; rw [pk_un (by decide)]; rfl
      refine v_ild2 dX7_deal_15 ?_
      refine v_ild1 dX7_deal_16 ?_
      refine v_icmpN_ge (tgt := 70) dX7_deal_17 (by decide) (by omega) (by omega) (fun h17 => absurd h17 (by omega)) (fun h17 => ?_)
      refine v_ald0 dX7_deal_20 ?_
      refine v_getr dX7_deal_21 gX7_9 sh_92 rfl ?_
      refine v_iconstN (n := 1) dX7_deal_24 ?_
      refine v_ialdN dX7_deal_25 sh_93 (by omega) (by decide) ?_
      refine v_eq (hIj.pn.1) ?_
      refine v_bipushN (n := 8) dX7_deal_26 (by decide) ?_
      refine v_icmpN_ge (tgt := 70) dX7_deal_28 (by decide) (by omega) (by omega) (fun h28 => absurd h28 (by omega)) (fun h28 => ?_)
      refine v_ald0 dX7_deal_31 ?_
      refine v_callVi (kM_draw E Mk) dX7_deal_32 cX7_155 rfl sh_92 rfl (by decide) (Nat.le_of_ble_eq_true rfl) rfl (fun r M1z hq => ?_)
      obtain ⟨hr, hm⟩ := hq
      rw [hr, hm]
      clear hr hm
      refine v_bipushN (n := 6) dX7_deal_35 (by decide) ?_
      refine v_iremN dX7_deal_37 (by omega) (by omega) (by omega) ?_
      refine v_ist3 dX7_deal_38 (by decide) ?_
      refine v_ald0 dX7_deal_39 ?_
      refine v_callVi (kM_draw E _) dX7_deal_40 cX7_155 rfl sh_92 rfl (by decide) (Nat.le_of_ble_eq_true rfl) rfl (fun r M1z hq => ?_)
      obtain ⟨hr, hm⟩ := hq
      rw [hr, hm, mv_u (by decide), pk_us]
      clear hr hm
      refine v_bipushN (n := 8) dX7_deal_43 (by decide) ?_
      refine v_iremN dX7_deal_45 (by omega) (by omega) (by omega) ?_
      refine v_ist4 dX7_deal_46 (by decide) ?_
      refine v_ald0 dX7_deal_48 ?_
      refine v_ild3 dX7_deal_49 ?_
      refine v_ild4 dX7_deal_50 ?_
      refine v_ald0 dX7_deal_52 ?_
      refine v_callVi (kM_draw E _) dX7_deal_53 cX7_155 rfl sh_92 rfl (by decide) (Nat.le_of_ble_eq_true rfl) rfl (fun r M1z hq => ?_)
      obtain ⟨hr, hm⟩ := hq
      rw [hr, hm, mv_u (by decide), pk_us]
      clear hr hm
      refine v_bipushN (n := 10) dX7_deal_56 (by decide) ?_
      refine v_iremN dX7_deal_58 (by omega) (by omega) (by omega) ?_
      refine v_callVi (kM_comes E _ (W := W) (by rw [hmz]; exact CI_upd0 hIj (Or.inl rfl)) (by rw [hmz, hpz]; omega)) dX7_deal_59 cX7_121 rfl sh_92 rfl (by decide) (Nat.le_of_ble_eq_true rfl) rfl (fun r3 M3z hq3 => ?_)
      refine v_ist5 dX7_deal_62 (by decide) ?_
      refine v_iincN2 (n := 1) dX7_deal_64 (by decide) ?_
      refine v_goto (tgt := 15) dX7_deal_67 (by decide) ?_
      refine v_fg3 (v_fg4 (v_fg5 ?_))
      exact ih _ ⟨by rw [hq3.2.1, hmz, hpz, hv]; rfl, (((hfr.tr (FrM.w _ (by decide))).tr (FrM.w _ (by decide))).tr (FrM.w _ (by decide))).tr hq3.2.2⟩
    · obtain ⟨hv, hfr⟩ := hM
      obtain ⟨hIj, hpj⟩ := dl_ok hI (min k (8 - pn (mv Mz))) (by omega)
      rw [← hv] at hIj hpj
      refine v_ild2 dX7_deal_15 ?_
      refine v_ild1 dX7_deal_16 ?_
      refine v_icmpN_ge (tgt := 70) dX7_deal_17 (by decide) (by omega) (by omega) (fun h17 => ?_) (fun h17 => ?_)
      · refine v_ild2 dX7_deal_70 ?_
        exact v_iret dX7_deal_71 rfl (⟨by unfold R_deal; rw [if_pos (b2_1.mp h7), tN_n (by omega)], by unfold F_deal; rw [if_pos (b2_1.mp h7), tN_n (by omega)]; exact hv, hfr⟩)
      · refine v_ald0 dX7_deal_20 ?_
        refine v_getr dX7_deal_21 gX7_9 sh_92 rfl ?_
        refine v_iconstN (n := 1) dX7_deal_24 ?_
        refine v_ialdN dX7_deal_25 sh_93 (by omega) (by decide) ?_
        refine v_eq (hIj.pn.1) ?_
        refine v_bipushN (n := 8) dX7_deal_26 (by decide) ?_
        refine v_icmpN_ge (tgt := 70) dX7_deal_28 (by decide) (by omega) (by omega) (fun h28 => ?_) (fun h28 => absurd h28 (by omega))
        refine v_ild2 dX7_deal_70 ?_
        exact v_iret dX7_deal_71 rfl (⟨by unfold R_deal; rw [if_pos (b2_1.mp h7), tN_n (by omega)], by unfold F_deal; rw [if_pos (b2_1.mp h7), tN_n (by omega)]; exact hv, hfr⟩)
  · refine v_ldc dX7_deal_10 kX7_119 ?_
    exact v_iret dX7_deal_12 rfl (⟨by unfold R_deal; rw [if_neg (by rw [b2_0.mp h7]; decide)], by unfold F_deal; rw [if_neg (by rw [b2_0.mp h7]; decide)], FrM.rf Mz⟩)
set_option maxRecDepth 100000 in
set_option maxHeartbeats 4000000 in
theorem aX_weeks (E : ev) (Mz : mm) {n : Int32} {T : Nat} {tt : Nat → tx} (hI : CI (cv Mz 38) 10000) (hT : TxC Mz 38 tt T) : Ct E 7 yX6_weeks cX6_weeks 3 (some .int) [.inr 0, .inl n] Mz (qI E (fun r M' => r = R_weeks (pfT tt T) (cv Mz 38) n ∧ cv M' 38 = F_weeks (pfT tt T) (cv Mz 38) n ∧ FrC 38 Mz M')) := by
  refine ct_of (by decide) (Nat.le_of_ble_eq_true rfl) ?_
  show V E 7 _ _ _ _ _ 0 [some (.inr 0), some (.inl n), none] [] Mz
  have hwk : Mz 38 12 = nI (tN (cv Mz 38 2)) ∧ tN (cv Mz 38 2) < 10000 := hI.2.2.2.1.eq (by decide)
  refine v_ild1 dX6_weeks_0 ?_
  refine v_iconstN (n := 1) dX6_weeks_1 ?_
  refine v_bipushN (n := 100) dX6_weeks_2 (by decide) ?_
  refine v_callSi (kX_outside E _) dX6_weeks_4 cX6_63 rfl (by decide) (Nat.le_of_ble_eq_true rfl) rfl (fun r M1z hq => ?_)
  obtain ⟨hr, hm⟩ := hq
  rw [hr, hm]
  clear hr hm
  refine v_if_eq (tgt := 13) dX6_weeks_7 (by decide) (fun h7 => ?_) (fun h7 => ?_)
  · obtain ⟨k, hkl, hk, rfl⟩ := inB_n (by decide) (by decide) (nb0 h7)
    refine v_ald0 dX6_weeks_13 ?_
    refine v_getr dX6_weeks_14 gX6_28 sh_0 rfl ?_
    refine v_geti dX6_weeks_17 gX6_154 sh_38 rfl ?_
    refine v_ist2 dX6_weeks_20 (by decide) ?_
    refine v_ald0 dX6_weeks_21 ?_
    refine v_getr dX6_weeks_22 gX6_28 sh_0 rfl ?_
    refine v_ild1 dX6_weeks_25 ?_
    refine v_sipushN (n := 9999) dX6_weeks_26 (by decide +kernel) ?_
    refine v_ald0 dX6_weeks_29 ?_
    refine v_getr dX6_weeks_30 gX6_28 sh_0 rfl ?_
    refine v_geti dX6_weeks_33 gX6_157 sh_38 rfl ?_
    refine v_eq (hwk.1) ?_
    refine v_isubN dX6_weeks_36 (by omega) ?_
    refine v_mmin dX6_weeks_37 mX6_143 (by decide) (Nat.le_of_ble_eq_true rfl) ?_
    refine v_eq ((min_nI (by omega) (by omega)).trans (show _ = nI (wkN (cv Mz 38) (nI k)) from by unfold wkN; rw [tN_n (by omega)])) ?_
    have hwn : wkN (cv Mz 38) (nI k) ≤ 100 := by unfold wkN; rw [tN_n (by omega)]; omega
    refine v_callVv (kC_pass E Mz CB.now hI (by omega) hT) dX6_weeks_40 cX6_160 rfl sh_38 rfl (by decide) (Nat.le_of_ble_eq_true rfl) rfl (fun M3z hq3 => ?_)
    refine v_ald0 dX6_weeks_43 ?_
    refine v_getr dX6_weeks_44 gX6_28 sh_0 rfl ?_
    refine v_geti dX6_weeks_47 gX6_154 sh_38 rfl ?_
    refine v_ild2 dX6_weeks_50 ?_
    refine v_isub dX6_weeks_51 ?_
    exact v_iret dX6_weeks_52 rfl (⟨by unfold R_weeks; rw [if_pos (nb0 h7), ← hq3.1]; rfl, by unfold F_weeks; rw [if_pos (nb0 h7)]; exact hq3.1, hq3.2⟩)
  · refine v_ldc dX6_weeks_10 kX6_67 ?_
    exact v_iret dX6_weeks_12 rfl (⟨by unfold R_weeks; rw [if_neg (by rw [nb1 h7]; decide)], by unfold F_weeks; rw [if_neg (by rw [nb1 h7]; decide)], FrC.rf 38 Mz⟩)
set_option maxRecDepth 100000 in
set_option maxHeartbeats 4000000 in
theorem aM_weeks (E : ev) (Mz : mm) {n : Int32} {T : Nat} {tt : Nat → tx} (hI : CI (mv Mz) 10000) (hT : TxM Mz tt T) : Ct E 8 yX7_weeks cX7_weeks 3 (some .int) [.inr 92, .inl n] Mz (qI E (fun r M' => r = R_weeks (pfT tt T) (mv Mz) n ∧ mv M' = F_weeks (pfT tt T) (mv Mz) n ∧ FrM Mz M')) := by
  refine ct_of (by decide) (Nat.le_of_ble_eq_true rfl) ?_
  show V E 8 _ _ _ _ _ 0 [some (.inr 92), some (.inl n), none] [] Mz
  have hwk : Mz 93 2 = nI (tN (mv Mz 2)) ∧ tN (mv Mz 2) < 10000 := hI.2.2.2.1.eq (by decide)
  refine v_ild1 dX7_weeks_0 ?_
  refine v_iconstN (n := 1) dX7_weeks_1 ?_
  refine v_bipushN (n := 100) dX7_weeks_2 (by decide) ?_
  refine v_callSi (kM_in E _) dX7_weeks_4 cX7_75 rfl (by decide) (Nat.le_of_ble_eq_true rfl) rfl (fun r M1z hq => ?_)
  obtain ⟨hr, hm⟩ := hq
  rw [hr, hm]
  clear hr hm
  refine v_if_ne (tgt := 13) dX7_weeks_7 (by decide) (fun h7 => ?_) (fun h7 => ?_)
  · obtain ⟨k, hkl, hk, rfl⟩ := inB_n (by decide) (by decide) (b2_1.mp h7)
    refine v_ald0 dX7_weeks_13 ?_
    refine v_getr dX7_weeks_14 gX7_9 sh_92 rfl ?_
    refine v_iconstN (n := 3) dX7_weeks_17 ?_
    refine v_ialdN dX7_weeks_18 sh_93 (by omega) (by decide) ?_
    refine v_ist2 dX7_weeks_19 (by decide) ?_
    refine v_ald0 dX7_weeks_20 ?_
    refine v_sipushN (n := 9999) dX7_weeks_21 (by decide +kernel) ?_
    refine v_ald0 dX7_weeks_24 ?_
    refine v_getr dX7_weeks_25 gX7_9 sh_92 rfl ?_
    refine v_iconstN (n := 2) dX7_weeks_28 ?_
    refine v_ialdN dX7_weeks_29 sh_93 (by omega) (by decide) ?_
    refine v_eq (hwk.1) ?_
    refine v_isubN dX7_weeks_30 (by omega) ?_
    refine v_iconstN (n := 0) dX7_weeks_31 ?_
    refine v_ild1 dX7_weeks_32 ?_
    refine v_callSi (kM_within E Mz) dX7_weeks_33 cX7_108 rfl (by decide) (Nat.le_of_ble_eq_true rfl) rfl (fun r M1z hq => ?_)
    obtain ⟨hr, hm⟩ := hq
    rw [hr, hm]
    clear hr hm
    refine v_eq ((clamp_nI (by omega) (by omega)).trans (show _ = nI (wkN (mv Mz) (nI k)) from by unfold wkN; rw [tN_n (by omega)])) ?_
    have hwn : wkN (mv Mz) (nI k) ≤ 100 := by unfold wkN; rw [tN_n (by omega)]; omega
    refine v_callVv (kM_goesOn E Mz hI (by omega) hT) dX7_weeks_36 cX7_172 rfl sh_92 rfl (by decide) (Nat.le_of_ble_eq_true rfl) rfl (fun M3z hq3 => ?_)
    refine v_ald0 dX7_weeks_39 ?_
    refine v_getr dX7_weeks_40 gX7_9 sh_92 rfl ?_
    refine v_iconstN (n := 3) dX7_weeks_43 ?_
    refine v_ialdN dX7_weeks_44 sh_93 (by omega) (by decide) ?_
    refine v_ild2 dX7_weeks_45 ?_
    refine v_isub dX7_weeks_46 ?_
    exact v_iret dX7_weeks_47 rfl (⟨by unfold R_weeks; rw [if_pos (b2_1.mp h7), ← hq3.1]; rfl, by unfold F_weeks; rw [if_pos (b2_1.mp h7)]; exact hq3.1, hq3.2⟩)
  · refine v_ldc dX7_weeks_10 kX7_119 ?_
    exact v_iret dX7_weeks_12 rfl (⟨by unfold R_weeks; rw [if_neg (by rw [b2_0.mp h7]; decide)], by unfold F_weeks; rw [if_neg (by rw [b2_0.mp h7]; decide)], FrM.rf Mz⟩)
