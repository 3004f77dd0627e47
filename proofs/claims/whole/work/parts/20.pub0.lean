theorem ne_toK {x k : Int32} (n : Int) (hk : k.toInt = n) (h : ¬ x = k) : x.toInt ≠ n := fun e => h (Int32.toInt_inj.mp (e.trans hk.symm))
abbrev cBAD : Int32 := -1000000001
abbrev cNO : Int32 := -1000000002
abbrev cFULL : Int32 := -1000000003
abbrev cNONE : Int32 := -1000000005
abbrev cNOTH : Int32 := -1000000011
abbrev cKIND : Int32 := -1000000012
abbrev cINDX : Int32 := -1000000013
abbrev cSIZE : Int32 := -1000000014
abbrev tN (x : Int32) : Nat := x.toNatClampNeg
theorem nb0 {b : Bool} (h : b2 (!b) = 0) : b = true := by cases b <;> first | rfl | (exact absurd h (by decide))
theorem nb1 {b : Bool} (h : b2 (!b) ≠ 0) : b = false := by cases b <;> first | rfl | (exact absurd rfl h)
def isP (v : fl) (x : Int32) : Bool := inB x (nI 0) (v 1 - nI 1)
abbrev isF (x : Int32) : Bool := inB x (nI 0) (nI 5)
theorem inB_n {x : Int32} {a b : Nat} (hab : a < 2 ^ 31) (hb : b < 2 ^ 31) (h : inB x (nI a) (nI b) = true) : ∃ k, a ≤ k ∧ k ≤ b ∧ x = nI k := by
  unfold inB at h
  simp only [Bool.and_eq_true, decide_eq_true_eq] at h
  obtain ⟨j, hj, e⟩ := nI_of2 (x := x) (M := nI b) (n := b) (nI_toInt hb) (fun h0 => by
      have h1 := h.1
      rw [Int32.le_iff_toInt_le, nI_toInt hab] at h1
      rw [Int32.lt_iff_toInt_lt] at h0
      have : (0 : Int32).toInt = 0 := rfl
      omega) h.2
  subst e
  exact ⟨j, by have h1 := (nI_leI hab (by omega)).mp h.1; exact h1, hj, rfl⟩
theorem isP_n {v : fl} {W : Nat} (hI : CI v W) {x : Int32} (h : isP v x = true) : ∃ p, p < pn v ∧ p < 8 ∧ x = nI p := by
  unfold isP at h
  obtain ⟨e, h8⟩ := hI.pn
  rw [e] at h
  cases hn : pn v with
  | zero => rw [hn] at h; exact absurd h (by
      unfold inB
      simp only [Bool.and_eq_true, decide_eq_true_eq, Int32.le_iff_toInt_le]
      rw [show (nI 0).toInt = 0 from rfl, show (nI 0 - nI 1).toInt = -1 from rfl]
      omega)
  | succ n =>
    rw [hn, show nI (n + 1) - nI 1 = nI n from nI_pred n] at h
    obtain ⟨k, -, hk, e⟩ := inB_n (by decide) (by omega) h
    exact ⟨k, by omega, by omega, e⟩
def unB (a b : Int32) : Bool := decide (b = nI 0) || decide (a = b) || (decide (b = nI 1) && decide (a = nI 3)) || (decide (b = nI 2) && decide (a = nI 4))
set_option maxRecDepth 100000 in
set_option maxHeartbeats 4000000 in
theorem kX_outside (E : ev) (Mz : mm) {x lo hi : Int32} : Ct E 0 yX6_outside cX6_outside 3 (some .boolean) [.inl x, .inl lo, .inl hi] Mz (qI E (fun r M' => r = b2 (!inB x lo hi) ∧ M' = Mz)) := by
  refine ct_of (by decide) (Nat.le_of_ble_eq_true rfl) ?_
  show V E 0 _ _ _ _ _ 0 [some (.inl x), some (.inl lo), some (.inl hi)] [] Mz
  refine v_ild0 dX6_outside_0 ?_
  refine v_ild1 dX6_outside_1 ?_
  refine v_icmp_lt (tgt := 10) dX6_outside_2 (by decide) (fun h2 => ?_) (fun h2 => ?_)
  · refine v_iconstN (n := 1) dX6_outside_10 ?_
    refine v_goto (tgt := 15) dX6_outside_11 (by decide) ?_
    exact v_zret dX6_outside_15 rfl (by decide +kernel) (⟨by simp [inB, b2, Int32.not_le.mpr h2]; try rfl, rfl⟩)
  · refine v_ild0 dX6_outside_5 ?_
    refine v_ild2 dX6_outside_6 ?_
    refine v_icmp_le (tgt := 14) dX6_outside_7 (by decide) (fun h7 => ?_) (fun h7 => ?_)
    · refine v_iconstN (n := 0) dX6_outside_14 ?_
      exact v_zret dX6_outside_15 rfl (by decide +kernel) (⟨by simp [inB, b2, Int32.not_lt.mp h2, h7]; try rfl, rfl⟩)
    · refine v_iconstN (n := 1) dX6_outside_10 ?_
      refine v_goto (tgt := 15) dX6_outside_11 (by decide) ?_
      exact v_zret dX6_outside_15 rfl (by decide +kernel) (⟨by simp [inB, b2, h7]; try rfl, rfl⟩)
set_option maxRecDepth 100000 in
set_option maxHeartbeats 4000000 in
theorem kX_noKind (E : ev) (Mz : mm) {x : Int32} : Ct E 1 yX6_noKind cX6_noKind 1 (some .boolean) [.inl x] Mz (qI E (fun r M' => r = b2 (!isF x) ∧ M' = Mz)) := by
  refine ct_of (by decide) (Nat.le_of_ble_eq_true rfl) ?_
  show V E 1 _ _ _ _ _ 0 [some (.inl x)] [] Mz
  refine v_ild0 dX6_noKind_0 ?_
  refine v_iconstN (n := 0) dX6_noKind_1 ?_
  refine v_iconstN (n := 5) dX6_noKind_2 ?_
  refine v_callSi (kX_outside E _) dX6_noKind_3 cX6_63 rfl (by decide) (Nat.le_of_ble_eq_true rfl) rfl (fun r M1z hq => ?_)
  obtain ⟨hr, hm⟩ := hq
  rw [hr, hm]
  clear hr hm
  exact v_zret dX6_noKind_6 rfl (b2_nar _) (⟨rfl, rfl⟩)
set_option maxRecDepth 100000 in
set_option maxHeartbeats 4000000 in
theorem kX_noField (E : ev) (Mz : mm) {x : Int32} : Ct E 1 yX6_noField cX6_noField 1 (some .boolean) [.inl x] Mz (qI E (fun r M' => r = b2 (!isF x) ∧ M' = Mz)) := by
  refine ct_of (by decide) (Nat.le_of_ble_eq_true rfl) ?_
  show V E 1 _ _ _ _ _ 0 [some (.inl x)] [] Mz
  refine v_ild0 dX6_noField_0 ?_
  refine v_iconstN (n := 0) dX6_noField_1 ?_
  refine v_iconstN (n := 5) dX6_noField_2 ?_
  refine v_callSi (kX_outside E _) dX6_noField_3 cX6_63 rfl (by decide) (Nat.le_of_ble_eq_true rfl) rfl (fun r M1z hq => ?_)
  obtain ⟨hr, hm⟩ := hq
  rw [hr, hm]
  clear hr hm
  exact v_zret dX6_noField_6 rfl (b2_nar _) (⟨rfl, rfl⟩)
set_option maxRecDepth 100000 in
set_option maxHeartbeats 4000000 in
theorem kX_noPerson (E : ev) (Mz : mm) {x : Int32} : Ct E 1 yX6_noPerson cX6_noPerson 2 (some .boolean) [.inr 0, .inl x] Mz (qI E (fun r M' => r = b2 (!isP (cv Mz 38) x) ∧ M' = Mz)) := by
  refine ct_of (by decide) (Nat.le_of_ble_eq_true rfl) ?_
  show V E 1 _ _ _ _ _ 0 [some (.inr 0), some (.inl x)] [] Mz
  refine v_ild1 dX6_noPerson_0 ?_
  refine v_iconstN (n := 0) dX6_noPerson_1 ?_
  refine v_ald0 dX6_noPerson_2 ?_
  refine v_getr dX6_noPerson_3 gX6_28 sh_0 rfl ?_
  refine v_geti dX6_noPerson_6 gX6_68 sh_38 rfl ?_
  refine v_iconstN (n := 1) dX6_noPerson_9 ?_
  refine v_isub dX6_noPerson_10 ?_
  refine v_callSi (kX_outside E _) dX6_noPerson_11 cX6_63 rfl (by decide) (Nat.le_of_ble_eq_true rfl) rfl (fun r M1z hq => ?_)
  obtain ⟨hr, hm⟩ := hq
  rw [hr, hm]
  clear hr hm
  exact v_zret dX6_noPerson_14 rfl (b2_nar _) (⟨rfl, rfl⟩)
set_option maxRecDepth 100000 in
set_option maxHeartbeats 4000000 in
theorem kX_isOf_0 (E : ev) (Mz : mm) {b : Int32} : Ct E 0 yX6_isOf cX6_isOf 4 (some .boolean) [.inl (nI 0), .inl b] Mz (qI E (fun r M' => r = b2 (decide (nI 0 = b)) ∧ M' = Mz)) := by
  refine ct_of (by decide) (Nat.le_of_ble_eq_true rfl) ?_
  show V E 0 _ _ _ _ _ 0 [some (.inl (nI 0)), some (.inl b), none, none] [] Mz
  refine v_ild0 dX6_isOf_0 ?_
  refine v_ist2 dX6_isOf_1 (by decide) ?_
  refine v_iconstN (n := 0) dX6_isOf_2 ?_
  refine v_ist3 dX6_isOf_3 (by decide) ?_
  refine v_ild3 dX6_isOf_4 ?_
  refine v_bipushN (n := 6) dX6_isOf_5 (by decide) ?_
  refine v_icmpN_ge (tgt := 33) dX6_isOf_7 (by decide) (by decide) (by decide) (fun h => absurd h (by decide)) (fun _ => ?_)
  refine v_ild2 dX6_isOf_10 ?_
  refine v_if_lt (tgt := 33) dX6_isOf_11 (by decide) (fun h => absurd h (by decide)) (fun _ => ?_)
  refine v_ild2 dX6_isOf_14 ?_
  refine v_ild1 dX6_isOf_15 ?_
  refine v_icmp_ne (tgt := 21) dX6_isOf_16 (by decide) (fun g0 => ?_) (fun g0 => ?_)
  · refine v_getA dX6_isOf_21 sX6_297 ?_
    refine v_ild2 dX6_isOf_24 ?_
    refine v_aldA dX6_isOf_25 (vp_in_nI (by decide) (by decide)) ?_
    refine v_eq (z := -1) (by decide) ?_
    refine v_ist2 dX6_isOf_26 (by decide) ?_
    refine v_iincN3 (n := 1) dX6_isOf_27 (by decide) ?_
    refine v_goto (tgt := 4) dX6_isOf_30 (by decide) ?_
    refine v_ild3 dX6_isOf_4 ?_
    refine v_bipushN (n := 6) dX6_isOf_5 (by decide) ?_
    refine v_icmpN_ge (tgt := 33) dX6_isOf_7 (by decide) (by decide) (by decide) (fun h => absurd h (by decide)) (fun _ => ?_)
    refine v_ild2 dX6_isOf_10 ?_
    refine v_if_lt (tgt := 33) dX6_isOf_11 (by decide) (fun _ => ?_) (fun h => absurd (by decide) h)
    refine v_iconstN (n := 0) dX6_isOf_33 ?_
    exact v_zret dX6_isOf_34 rfl (by decide +kernel) (⟨by simp [b2, g0]; try rfl, rfl⟩)
  · refine v_iconstN (n := 1) dX6_isOf_19 ?_
    exact v_zret dX6_isOf_20 rfl (by decide +kernel) (⟨by subst g0; rfl, rfl⟩)
set_option maxRecDepth 100000 in
set_option maxHeartbeats 4000000 in
theorem kX_isOf_1 (E : ev) (Mz : mm) {b : Int32} : Ct E 0 yX6_isOf cX6_isOf 4 (some .boolean) [.inl (nI 1), .inl b] Mz (qI E (fun r M' => r = b2 (decide (nI 1 = b) || decide (nI 0 = b)) ∧ M' = Mz)) := by
  refine ct_of (by decide) (Nat.le_of_ble_eq_true rfl) ?_
  show V E 0 _ _ _ _ _ 0 [some (.inl (nI 1)), some (.inl b), none, none] [] Mz
  refine v_ild0 dX6_isOf_0 ?_
  refine v_ist2 dX6_isOf_1 (by decide) ?_
  refine v_iconstN (n := 0) dX6_isOf_2 ?_
  refine v_ist3 dX6_isOf_3 (by decide) ?_
  refine v_ild3 dX6_isOf_4 ?_
  refine v_bipushN (n := 6) dX6_isOf_5 (by decide) ?_
  refine v_icmpN_ge (tgt := 33) dX6_isOf_7 (by decide) (by decide) (by decide) (fun h => absurd h (by decide)) (fun _ => ?_)
  refine v_ild2 dX6_isOf_10 ?_
  refine v_if_lt (tgt := 33) dX6_isOf_11 (by decide) (fun h => absurd h (by decide)) (fun _ => ?_)
  refine v_ild2 dX6_isOf_14 ?_
  refine v_ild1 dX6_isOf_15 ?_
  refine v_icmp_ne (tgt := 21) dX6_isOf_16 (by decide) (fun g0 => ?_) (fun g0 => ?_)
  · refine v_getA dX6_isOf_21 sX6_297 ?_
    refine v_ild2 dX6_isOf_24 ?_
    refine v_aldA dX6_isOf_25 (vp_in_nI (by decide) (by decide)) ?_
    refine v_eq (z := nI 0) (by decide) ?_
    refine v_ist2 dX6_isOf_26 (by decide) ?_
    refine v_iincN3 (n := 1) dX6_isOf_27 (by decide) ?_
    refine v_goto (tgt := 4) dX6_isOf_30 (by decide) ?_
    refine v_ild3 dX6_isOf_4 ?_
    refine v_bipushN (n := 6) dX6_isOf_5 (by decide) ?_
    refine v_icmpN_ge (tgt := 33) dX6_isOf_7 (by decide) (by decide) (by decide) (fun h => absurd h (by decide)) (fun _ => ?_)
    refine v_ild2 dX6_isOf_10 ?_
    refine v_if_lt (tgt := 33) dX6_isOf_11 (by decide) (fun h => absurd h (by decide)) (fun _ => ?_)
    refine v_ild2 dX6_isOf_14 ?_
    refine v_ild1 dX6_isOf_15 ?_
    refine v_icmp_ne (tgt := 21) dX6_isOf_16 (by decide) (fun g1 => ?_) (fun g1 => ?_)
    · refine v_getA dX6_isOf_21 sX6_297 ?_
      refine v_ild2 dX6_isOf_24 ?_
      refine v_aldA dX6_isOf_25 (vp_in_nI (by decide) (by decide)) ?_
      refine v_eq (z := -1) (by decide) ?_
      refine v_ist2 dX6_isOf_26 (by decide) ?_
      refine v_iincN3 (n := 1) dX6_isOf_27 (by decide) ?_
      refine v_goto (tgt := 4) dX6_isOf_30 (by decide) ?_
      refine v_ild3 dX6_isOf_4 ?_
      refine v_bipushN (n := 6) dX6_isOf_5 (by decide) ?_
      refine v_icmpN_ge (tgt := 33) dX6_isOf_7 (by decide) (by decide) (by decide) (fun h => absurd h (by decide)) (fun _ => ?_)
      refine v_ild2 dX6_isOf_10 ?_
      refine v_if_lt (tgt := 33) dX6_isOf_11 (by decide) (fun _ => ?_) (fun h => absurd (by decide) h)
      refine v_iconstN (n := 0) dX6_isOf_33 ?_
      exact v_zret dX6_isOf_34 rfl (by decide +kernel) (⟨by simp [b2, g0, g1]; try rfl, rfl⟩)
    · refine v_iconstN (n := 1) dX6_isOf_19 ?_
      exact v_zret dX6_isOf_20 rfl (by decide +kernel) (⟨by subst g1; rfl, rfl⟩)
  · refine v_iconstN (n := 1) dX6_isOf_19 ?_
    exact v_zret dX6_isOf_20 rfl (by decide +kernel) (⟨by subst g0; rfl, rfl⟩)
set_option maxRecDepth 100000 in
set_option maxHeartbeats 4000000 in
theorem kX_isOf_2 (E : ev) (Mz : mm) {b : Int32} : Ct E 0 yX6_isOf cX6_isOf 4 (some .boolean) [.inl (nI 2), .inl b] Mz (qI E (fun r M' => r = b2 (decide (nI 2 = b) || decide (nI 0 = b)) ∧ M' = Mz)) := by
  refine ct_of (by decide) (Nat.le_of_ble_eq_true rfl) ?_
  show V E 0 _ _ _ _ _ 0 [some (.inl (nI 2)), some (.inl b), none, none] [] Mz
  refine v_ild0 dX6_isOf_0 ?_
  refine v_ist2 dX6_isOf_1 (by decide) ?_
  refine v_iconstN (n := 0) dX6_isOf_2 ?_
  refine v_ist3 dX6_isOf_3 (by decide) ?_
  refine v_ild3 dX6_isOf_4 ?_
  refine v_bipushN (n := 6) dX6_isOf_5 (by decide) ?_
  refine v_icmpN_ge (tgt := 33) dX6_isOf_7 (by decide) (by decide) (by decide) (fun h => absurd h (by decide)) (fun _ => ?_)
  refine v_ild2 dX6_isOf_10 ?_
  refine v_if_lt (tgt := 33) dX6_isOf_11 (by decide) (fun h => absurd h (by decide)) (fun _ => ?_)
  refine v_ild2 dX6_isOf_14 ?_
  refine v_ild1 dX6_isOf_15 ?_
  refine v_icmp_ne (tgt := 21) dX6_isOf_16 (by decide) (fun g0 => ?_) (fun g0 => ?_)
  · refine v_getA dX6_isOf_21 sX6_297 ?_
    refine v_ild2 dX6_isOf_24 ?_
    refine v_aldA dX6_isOf_25 (vp_in_nI (by decide) (by decide)) ?_
    refine v_eq (z := nI 0) (by decide) ?_
    refine v_ist2 dX6_isOf_26 (by decide) ?_
    refine v_iincN3 (n := 1) dX6_isOf_27 (by decide) ?_
    refine v_goto (tgt := 4) dX6_isOf_30 (by decide) ?_
    refine v_ild3 dX6_isOf_4 ?_
    refine v_bipushN (n := 6) dX6_isOf_5 (by decide) ?_
    refine v_icmpN_ge (tgt := 33) dX6_isOf_7 (by decide) (by decide) (by decide) (fun h => absurd h (by decide)) (fun _ => ?_)
    refine v_ild2 dX6_isOf_10 ?_
    refine v_if_lt (tgt := 33) dX6_isOf_11 (by decide) (fun h => absurd h (by decide)) (fun _ => ?_)
    refine v_ild2 dX6_isOf_14 ?_
    refine v_ild1 dX6_isOf_15 ?_
    refine v_icmp_ne (tgt := 21) dX6_isOf_16 (by decide) (fun g1 => ?_) (fun g1 => ?_)
    · refine v_getA dX6_isOf_21 sX6_297 ?_
      refine v_ild2 dX6_isOf_24 ?_
      refine v_aldA dX6_isOf_25 (vp_in_nI (by decide) (by decide)) ?_
      refine v_eq (z := -1) (by decide) ?_
      refine v_ist2 dX6_isOf_26 (by decide) ?_
      refine v_iincN3 (n := 1) dX6_isOf_27 (by decide) ?_
      refine v_goto (tgt := 4) dX6_isOf_30 (by decide) ?_
      refine v_ild3 dX6_isOf_4 ?_
      refine v_bipushN (n := 6) dX6_isOf_5 (by decide) ?_
      refine v_icmpN_ge (tgt := 33) dX6_isOf_7 (by decide) (by decide) (by decide) (fun h => absurd h (by decide)) (fun _ => ?_)
      refine v_ild2 dX6_isOf_10 ?_
      refine v_if_lt (tgt := 33) dX6_isOf_11 (by decide) (fun _ => ?_) (fun h => absurd (by decide) h)
      refine v_iconstN (n := 0) dX6_isOf_33 ?_
      exact v_zret dX6_isOf_34 rfl (by decide +kernel) (⟨by simp [b2, g0, g1]; try rfl, rfl⟩)
    · refine v_iconstN (n := 1) dX6_isOf_19 ?_
      exact v_zret dX6_isOf_20 rfl (by decide +kernel) (⟨by subst g1; rfl, rfl⟩)
  · refine v_iconstN (n := 1) dX6_isOf_19 ?_
    exact v_zret dX6_isOf_20 rfl (by decide +kernel) (⟨by subst g0; rfl, rfl⟩)
set_option maxRecDepth 100000 in
set_option maxHeartbeats 4000000 in
theorem kX_isOf_3 (E : ev) (Mz : mm) {b : Int32} : Ct E 0 yX6_isOf cX6_isOf 4 (some .boolean) [.inl (nI 3), .inl b] Mz (qI E (fun r M' => r = b2 (decide (nI 3 = b) || decide (nI 1 = b) || decide (nI 0 = b)) ∧ M' = Mz)) := by
  refine ct_of (by decide) (Nat.le_of_ble_eq_true rfl) ?_
  show V E 0 _ _ _ _ _ 0 [some (.inl (nI 3)), some (.inl b), none, none] [] Mz
  refine v_ild0 dX6_isOf_0 ?_
  refine v_ist2 dX6_isOf_1 (by decide) ?_
  refine v_iconstN (n := 0) dX6_isOf_2 ?_
  refine v_ist3 dX6_isOf_3 (by decide) ?_
  refine v_ild3 dX6_isOf_4 ?_
  refine v_bipushN (n := 6) dX6_isOf_5 (by decide) ?_
  refine v_icmpN_ge (tgt := 33) dX6_isOf_7 (by decide) (by decide) (by decide) (fun h => absurd h (by decide)) (fun _ => ?_)
  refine v_ild2 dX6_isOf_10 ?_
  refine v_if_lt (tgt := 33) dX6_isOf_11 (by decide) (fun h => absurd h (by decide)) (fun _ => ?_)
  refine v_ild2 dX6_isOf_14 ?_
  refine v_ild1 dX6_isOf_15 ?_
  refine v_icmp_ne (tgt := 21) dX6_isOf_16 (by decide) (fun g0 => ?_) (fun g0 => ?_)
  · refine v_getA dX6_isOf_21 sX6_297 ?_
    refine v_ild2 dX6_isOf_24 ?_
    refine v_aldA dX6_isOf_25 (vp_in_nI (by decide) (by decide)) ?_
    refine v_eq (z := nI 1) (by decide) ?_
    refine v_ist2 dX6_isOf_26 (by decide) ?_
    refine v_iincN3 (n := 1) dX6_isOf_27 (by decide) ?_
    refine v_goto (tgt := 4) dX6_isOf_30 (by decide) ?_
    refine v_ild3 dX6_isOf_4 ?_
    refine v_bipushN (n := 6) dX6_isOf_5 (by decide) ?_
    refine v_icmpN_ge (tgt := 33) dX6_isOf_7 (by decide) (by decide) (by decide) (fun h => absurd h (by decide)) (fun _ => ?_)
    refine v_ild2 dX6_isOf_10 ?_
    refine v_if_lt (tgt := 33) dX6_isOf_11 (by decide) (fun h => absurd h (by decide)) (fun _ => ?_)
    refine v_ild2 dX6_isOf_14 ?_
    refine v_ild1 dX6_isOf_15 ?_
    refine v_icmp_ne (tgt := 21) dX6_isOf_16 (by decide) (fun g1 => ?_) (fun g1 => ?_)
    · refine v_getA dX6_isOf_21 sX6_297 ?_
      refine v_ild2 dX6_isOf_24 ?_
      refine v_aldA dX6_isOf_25 (vp_in_nI (by decide) (by decide)) ?_
      refine v_eq (z := nI 0) (by decide) ?_
      refine v_ist2 dX6_isOf_26 (by decide) ?_
      refine v_iincN3 (n := 1) dX6_isOf_27 (by decide) ?_
      refine v_goto (tgt := 4) dX6_isOf_30 (by decide) ?_
      refine v_ild3 dX6_isOf_4 ?_
      refine v_bipushN (n := 6) dX6_isOf_5 (by decide) ?_
      refine v_icmpN_ge (tgt := 33) dX6_isOf_7 (by decide) (by decide) (by decide) (fun h => absurd h (by decide)) (fun _ => ?_)
      refine v_ild2 dX6_isOf_10 ?_
      refine v_if_lt (tgt := 33) dX6_isOf_11 (by decide) (fun h => absurd h (by decide)) (fun _ => ?_)
      refine v_ild2 dX6_isOf_14 ?_
      refine v_ild1 dX6_isOf_15 ?_
      refine v_icmp_ne (tgt := 21) dX6_isOf_16 (by decide) (fun g2 => ?_) (fun g2 => ?_)
      · refine v_getA dX6_isOf_21 sX6_297 ?_
        refine v_ild2 dX6_isOf_24 ?_
        refine v_aldA dX6_isOf_25 (vp_in_nI (by decide) (by decide)) ?_
        refine v_eq (z := -1) (by decide) ?_
        refine v_ist2 dX6_isOf_26 (by decide) ?_
        refine v_iincN3 (n := 1) dX6_isOf_27 (by decide) ?_
        refine v_goto (tgt := 4) dX6_isOf_30 (by decide) ?_
        refine v_ild3 dX6_isOf_4 ?_
        refine v_bipushN (n := 6) dX6_isOf_5 (by decide) ?_
        refine v_icmpN_ge (tgt := 33) dX6_isOf_7 (by decide) (by decide) (by decide) (fun h => absurd h (by decide)) (fun _ => ?_)
        refine v_ild2 dX6_isOf_10 ?_
        refine v_if_lt (tgt := 33) dX6_isOf_11 (by decide) (fun _ => ?_) (fun h => absurd (by decide) h)
        refine v_iconstN (n := 0) dX6_isOf_33 ?_
        exact v_zret dX6_isOf_34 rfl (by decide +kernel) (⟨by simp [b2, g0, g1, g2]; try rfl, rfl⟩)
      · refine v_iconstN (n := 1) dX6_isOf_19 ?_
        exact v_zret dX6_isOf_20 rfl (by decide +kernel) (⟨by subst g2; rfl, rfl⟩)
    · refine v_iconstN (n := 1) dX6_isOf_19 ?_
      exact v_zret dX6_isOf_20 rfl (by decide +kernel) (⟨by subst g1; rfl, rfl⟩)
  · refine v_iconstN (n := 1) dX6_isOf_19 ?_
    exact v_zret dX6_isOf_20 rfl (by decide +kernel) (⟨by subst g0; rfl, rfl⟩)
set_option maxRecDepth 100000 in
set_option maxHeartbeats 4000000 in
theorem kX_isOf_4 (E : ev) (Mz : mm) {b : Int32} : Ct E 0 yX6_isOf cX6_isOf 4 (some .boolean) [.inl (nI 4), .inl b] Mz (qI E (fun r M' => r = b2 (decide (nI 4 = b) || decide (nI 2 = b) || decide (nI 0 = b)) ∧ M' = Mz)) := by
  refine ct_of (by decide) (Nat.le_of_ble_eq_true rfl) ?_
  show V E 0 _ _ _ _ _ 0 [some (.inl (nI 4)), some (.inl b), none, none] [] Mz
  refine v_ild0 dX6_isOf_0 ?_
  refine v_ist2 dX6_isOf_1 (by decide) ?_
  refine v_iconstN (n := 0) dX6_isOf_2 ?_
  refine v_ist3 dX6_isOf_3 (by decide) ?_
  refine v_ild3 dX6_isOf_4 ?_
  refine v_bipushN (n := 6) dX6_isOf_5 (by decide) ?_
  refine v_icmpN_ge (tgt := 33) dX6_isOf_7 (by decide) (by decide) (by decide) (fun h => absurd h (by decide)) (fun _ => ?_)
  refine v_ild2 dX6_isOf_10 ?_
  refine v_if_lt (tgt := 33) dX6_isOf_11 (by decide) (fun h => absurd h (by decide)) (fun _ => ?_)
  refine v_ild2 dX6_isOf_14 ?_
  refine v_ild1 dX6_isOf_15 ?_
  refine v_icmp_ne (tgt := 21) dX6_isOf_16 (by decide) (fun g0 => ?_) (fun g0 => ?_)
  · refine v_getA dX6_isOf_21 sX6_297 ?_
    refine v_ild2 dX6_isOf_24 ?_
    refine v_aldA dX6_isOf_25 (vp_in_nI (by decide) (by decide)) ?_
    refine v_eq (z := nI 2) (by decide) ?_
    refine v_ist2 dX6_isOf_26 (by decide) ?_
    refine v_iincN3 (n := 1) dX6_isOf_27 (by decide) ?_
    refine v_goto (tgt := 4) dX6_isOf_30 (by decide) ?_
    refine v_ild3 dX6_isOf_4 ?_
    refine v_bipushN (n := 6) dX6_isOf_5 (by decide) ?_
    refine v_icmpN_ge (tgt := 33) dX6_isOf_7 (by decide) (by decide) (by decide) (fun h => absurd h (by decide)) (fun _ => ?_)
    refine v_ild2 dX6_isOf_10 ?_
    refine v_if_lt (tgt := 33) dX6_isOf_11 (by decide) (fun h => absurd h (by decide)) (fun _ => ?_)
    refine v_ild2 dX6_isOf_14 ?_
    refine v_ild1 dX6_isOf_15 ?_
    refine v_icmp_ne (tgt := 21) dX6_isOf_16 (by decide) (fun g1 => ?_) (fun g1 => ?_)
    · refine v_getA dX6_isOf_21 sX6_297 ?_
      refine v_ild2 dX6_isOf_24 ?_
      refine v_aldA dX6_isOf_25 (vp_in_nI (by decide) (by decide)) ?_
      refine v_eq (z := nI 0) (by decide) ?_
      refine v_ist2 dX6_isOf_26 (by decide) ?_
      refine v_iincN3 (n := 1) dX6_isOf_27 (by decide) ?_
      refine v_goto (tgt := 4) dX6_isOf_30 (by decide) ?_
      refine v_ild3 dX6_isOf_4 ?_
      refine v_bipushN (n := 6) dX6_isOf_5 (by decide) ?_
      refine v_icmpN_ge (tgt := 33) dX6_isOf_7 (by decide) (by decide) (by decide) (fun h => absurd h (by decide)) (fun _ => ?_)
      refine v_ild2 dX6_isOf_10 ?_
      refine v_if_lt (tgt := 33) dX6_isOf_11 (by decide) (fun h => absurd h (by decide)) (fun _ => ?_)
      refine v_ild2 dX6_isOf_14 ?_
      refine v_ild1 dX6_isOf_15 ?_
      refine v_icmp_ne (tgt := 21) dX6_isOf_16 (by decide) (fun g2 => ?_) (fun g2 => ?_)
      · refine v_getA dX6_isOf_21 sX6_297 ?_
        refine v_ild2 dX6_isOf_24 ?_
        refine v_aldA dX6_isOf_25 (vp_in_nI (by decide) (by decide)) ?_
        refine v_eq (z := -1) (by decide) ?_
        refine v_ist2 dX6_isOf_26 (by decide) ?_
        refine v_iincN3 (n := 1) dX6_isOf_27 (by decide) ?_
        refine v_goto (tgt := 4) dX6_isOf_30 (by decide) ?_
        refine v_ild3 dX6_isOf_4 ?_
        refine v_bipushN (n := 6) dX6_isOf_5 (by decide) ?_
        refine v_icmpN_ge (tgt := 33) dX6_isOf_7 (by decide) (by decide) (by decide) (fun h => absurd h (by decide)) (fun _ => ?_)
        refine v_ild2 dX6_isOf_10 ?_
        refine v_if_lt (tgt := 33) dX6_isOf_11 (by decide) (fun _ => ?_) (fun h => absurd (by decide) h)
        refine v_iconstN (n := 0) dX6_isOf_33 ?_
        exact v_zret dX6_isOf_34 rfl (by decide +kernel) (⟨by simp [b2, g0, g1, g2]; try rfl, rfl⟩)
      · refine v_iconstN (n := 1) dX6_isOf_19 ?_
        exact v_zret dX6_isOf_20 rfl (by decide +kernel) (⟨by subst g2; rfl, rfl⟩)
    · refine v_iconstN (n := 1) dX6_isOf_19 ?_
      exact v_zret dX6_isOf_20 rfl (by decide +kernel) (⟨by subst g1; rfl, rfl⟩)
  · refine v_iconstN (n := 1) dX6_isOf_19 ?_
    exact v_zret dX6_isOf_20 rfl (by decide +kernel) (⟨by subst g0; rfl, rfl⟩)
set_option maxRecDepth 100000 in
set_option maxHeartbeats 4000000 in
theorem kX_isOf_5 (E : ev) (Mz : mm) {b : Int32} : Ct E 0 yX6_isOf cX6_isOf 4 (some .boolean) [.inl (nI 5), .inl b] Mz (qI E (fun r M' => r = b2 (decide (nI 5 = b) || decide (nI 0 = b)) ∧ M' = Mz)) := by
  refine ct_of (by decide) (Nat.le_of_ble_eq_true rfl) ?_
  show V E 0 _ _ _ _ _ 0 [some (.inl (nI 5)), some (.inl b), none, none] [] Mz
  refine v_ild0 dX6_isOf_0 ?_
  refine v_ist2 dX6_isOf_1 (by decide) ?_
  refine v_iconstN (n := 0) dX6_isOf_2 ?_
  refine v_ist3 dX6_isOf_3 (by decide) ?_
  refine v_ild3 dX6_isOf_4 ?_
  refine v_bipushN (n := 6) dX6_isOf_5 (by decide) ?_
  refine v_icmpN_ge (tgt := 33) dX6_isOf_7 (by decide) (by decide) (by decide) (fun h => absurd h (by decide)) (fun _ => ?_)
  refine v_ild2 dX6_isOf_10 ?_
  refine v_if_lt (tgt := 33) dX6_isOf_11 (by decide) (fun h => absurd h (by decide)) (fun _ => ?_)
  refine v_ild2 dX6_isOf_14 ?_
  refine v_ild1 dX6_isOf_15 ?_
  refine v_icmp_ne (tgt := 21) dX6_isOf_16 (by decide) (fun g0 => ?_) (fun g0 => ?_)
  · refine v_getA dX6_isOf_21 sX6_297 ?_
    refine v_ild2 dX6_isOf_24 ?_
    refine v_aldA dX6_isOf_25 (vp_in_nI (by decide) (by decide)) ?_
    refine v_eq (z := nI 0) (by decide) ?_
    refine v_ist2 dX6_isOf_26 (by decide) ?_
    refine v_iincN3 (n := 1) dX6_isOf_27 (by decide) ?_
    refine v_goto (tgt := 4) dX6_isOf_30 (by decide) ?_
    refine v_ild3 dX6_isOf_4 ?_
    refine v_bipushN (n := 6) dX6_isOf_5 (by decide) ?_
    refine v_icmpN_ge (tgt := 33) dX6_isOf_7 (by decide) (by decide) (by decide) (fun h => absurd h (by decide)) (fun _ => ?_)
    refine v_ild2 dX6_isOf_10 ?_
    refine v_if_lt (tgt := 33) dX6_isOf_11 (by decide) (fun h => absurd h (by decide)) (fun _ => ?_)
    refine v_ild2 dX6_isOf_14 ?_
    refine v_ild1 dX6_isOf_15 ?_
    refine v_icmp_ne (tgt := 21) dX6_isOf_16 (by decide) (fun g1 => ?_) (fun g1 => ?_)
    · refine v_getA dX6_isOf_21 sX6_297 ?_
      refine v_ild2 dX6_isOf_24 ?_
      refine v_aldA dX6_isOf_25 (vp_in_nI (by decide) (by decide)) ?_
      refine v_eq (z := -1) (by decide) ?_
      refine v_ist2 dX6_isOf_26 (by decide) ?_
      refine v_iincN3 (n := 1) dX6_isOf_27 (by decide) ?_
      refine v_goto (tgt := 4) dX6_isOf_30 (by decide) ?_
      refine v_ild3 dX6_isOf_4 ?_
      refine v_bipushN (n := 6) dX6_isOf_5 (by decide) ?_
      refine v_icmpN_ge (tgt := 33) dX6_isOf_7 (by decide) (by decide) (by decide) (fun h => absurd h (by decide)) (fun _ => ?_)
      refine v_ild2 dX6_isOf_10 ?_
      refine v_if_lt (tgt := 33) dX6_isOf_11 (by decide) (fun _ => ?_) (fun h => absurd (by decide) h)
      refine v_iconstN (n := 0) dX6_isOf_33 ?_
      exact v_zret dX6_isOf_34 rfl (by decide +kernel) (⟨by simp [b2, g0, g1]; try rfl, rfl⟩)
    · refine v_iconstN (n := 1) dX6_isOf_19 ?_
      exact v_zret dX6_isOf_20 rfl (by decide +kernel) (⟨by subst g1; rfl, rfl⟩)
  · refine v_iconstN (n := 1) dX6_isOf_19 ?_
    exact v_zret dX6_isOf_20 rfl (by decide +kernel) (⟨by subst g0; rfl, rfl⟩)
theorem un_eq : ∀ a b : Fin 6, (a.val = 0 → unB (nI 0) (nI b.val) = (decide (nI 0 = nI b.val))) ∧ (a.val = 1 → unB (nI 1) (nI b.val) = (decide (nI 1 = nI b.val) || decide (nI 0 = nI b.val))) ∧ (a.val = 2 → unB (nI 2) (nI b.val) = (decide (nI 2 = nI b.val) || decide (nI 0 = nI b.val))) ∧ (a.val = 3 → unB (nI 3) (nI b.val) = (decide (nI 3 = nI b.val) || decide (nI 1 = nI b.val) || decide (nI 0 = nI b.val))) ∧ (a.val = 4 → unB (nI 4) (nI b.val) = (decide (nI 4 = nI b.val) || decide (nI 2 = nI b.val) || decide (nI 0 = nI b.val))) ∧ (a.val = 5 → unB (nI 5) (nI b.val) = (decide (nI 5 = nI b.val) || decide (nI 0 = nI b.val))) := by decide +kernel
theorem kX_isOf (E : ev) (Mz : mm) {a b : Nat} (ha : a < 6) (hb : b < 6) : Ct E 0 yX6_isOf cX6_isOf 4 (some .boolean) [.inl (nI a), .inl (nI b)] Mz (qI E (fun r M' => r = b2 (unB (nI a) (nI b)) ∧ M' = Mz)) := by
  rcases (show a = 0 ∨ a = 1 ∨ a = 2 ∨ a = 3 ∨ a = 4 ∨ a = 5 by omega) with rfl | rfl | rfl | rfl | rfl | rfl
  · have h := un_eq ⟨0, by decide⟩ ⟨b, hb⟩
    rw [h.1 rfl]
    exact kX_isOf_0 E Mz
  · have h := un_eq ⟨1, by decide⟩ ⟨b, hb⟩
    rw [h.2.1 rfl]
    exact kX_isOf_1 E Mz
  · have h := un_eq ⟨2, by decide⟩ ⟨b, hb⟩
    rw [h.2.2.1 rfl]
    exact kX_isOf_2 E Mz
  · have h := un_eq ⟨3, by decide⟩ ⟨b, hb⟩
    rw [h.2.2.2.1 rfl]
    exact kX_isOf_3 E Mz
  · have h := un_eq ⟨4, by decide⟩ ⟨b, hb⟩
    rw [h.2.2.2.2.1 rfl]
    exact kX_isOf_4 E Mz
  · have h := un_eq ⟨5, by decide⟩ ⟨b, hb⟩
    rw [h.2.2.2.2.2 rfl]
    exact kX_isOf_5 E Mz
