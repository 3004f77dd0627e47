/-! the reference's readers -/
def mv (M : mm) : fl := fun i => if i < 99 then M 93 i else 0
theorem mv_at (M : mm) {i : Nat} (h : i < 99) : mv M i = M 93 i := if_pos h
def inB (x lo hi : Int32) : Bool := decide (lo ≤ x) && decide (x ≤ hi)
def clampS (x lo hi : Int32) : Int32 := if x < lo then lo else if hi < x then hi else x
def absS (x : Int32) : Int32 := if 0 ≤ x then x else 0 - x
theorem neg_0 (x : Int32) : -x = 0 - x := by simp
def cpN (n : Nat) (f g : Nat → Int32) : Nat → Int32 := fun i => if i < n then f i else g i
theorem cpN_s (n : Nat) (f g : Nat → Int32) : upd (cpN n f g) n (f n) = cpN (n + 1) f g := by
  funext i
  unfold upd cpN
  by_cases h : i = n
  · subst h; simp
  · rw [if_neg h]
    by_cases h2 : i < n
    · rw [if_pos h2, if_pos (by omega)]
    · rw [if_neg h2, if_neg (by omega)]
theorem cpN_0 (f g : Nat → Int32) : cpN 0 f g = g := by funext i; simp [cpN]
theorem wa_self (M : mm) (a : Nat) : wa M a (M a) = M := by
  funext b
  unfold wa
  split
  · rename_i h; rw [h]
  · rfl
theorem wr_wa (M : mm) (a j : Nat) (f : Nat → Int32) (x : Int32) : wr (wa M a f) a j x = wa M a (upd f j x) := by
  funext b
  unfold wr
  rw [wa_at]
  unfold wa
  split
  · rfl
  · rfl
theorem bits_s : ∀ s : Fin 256, s.val ≠ 0 → (nI s.val &&& (nI s.val - nI 1)) = nI (s.val &&& (s.val - 1)) ∧ (s.val &&& (s.val - 1)) < s.val ∧ popc s.val = popc (s.val &&& (s.val - 1)) + 1 := by decide +kernel
def bcE (x : Int32) : Int32 :=
  let a := x - ((x.toUInt32 >>> ((nI 1).toUInt32 &&& Int32.toUInt32 31)).toInt32 &&& 1431655765)
  let b := (a &&& 858993459) + ((a.toUInt32 >>> ((nI 2).toUInt32 &&& Int32.toUInt32 31)).toInt32 &&& 858993459)
  let c := (b + (b.toUInt32 >>> ((nI 4).toUInt32 &&& Int32.toUInt32 31)).toInt32) &&& 252645135
  let d := c + (c.toUInt32 >>> ((nI 8).toUInt32 &&& Int32.toUInt32 31)).toInt32
  let e := d + (d.toUInt32 >>> ((nI 16).toUInt32 &&& Int32.toUInt32 31)).toInt32
  e &&& nI 63
theorem bc_ok : ∀ s : Fin 256, bcE (nI s.val) = nI (popc s.val) := by decide +kernel
set_option maxRecDepth 100000 in
set_option maxHeartbeats 4000000 in
theorem kJ_bitCount (E : ev) (Mz : mm) {s : Nat} (hs : s < 256) : Ct E 0 yJ6_bitCount_0f7a4 cJ6_bitCount_0f7a4 1 (some .int) [.inl (nI s)] Mz (qI E (fun r M' => r = nI (popc s) ∧ M' = Mz)) := by
  refine ct_of (by decide) (Nat.le_of_ble_eq_true rfl) ?_
  show V E 0 _ _ _ _ _ 0 [some (.inl (nI s))] [] Mz
  refine v_ild0 dJ6_bitCount_0f7a4_0 ?_
  refine v_ild0 dJ6_bitCount_0f7a4_1 ?_
  refine v_iconstN (n := 1) dJ6_bitCount_0f7a4_2 ?_
  refine v_iushr dJ6_bitCount_0f7a4_3 ?_
  refine v_ldcw dJ6_bitCount_0f7a4_4 kJ6_265 ?_
  refine v_iand dJ6_bitCount_0f7a4_7 ?_
  refine v_isub dJ6_bitCount_0f7a4_8 ?_
  refine v_ist0 dJ6_bitCount_0f7a4_9 (by decide) ?_
  refine v_ild0 dJ6_bitCount_0f7a4_10 ?_
  refine v_ldcw dJ6_bitCount_0f7a4_11 kJ6_266 ?_
  refine v_iand dJ6_bitCount_0f7a4_14 ?_
  refine v_ild0 dJ6_bitCount_0f7a4_15 ?_
  refine v_iconstN (n := 2) dJ6_bitCount_0f7a4_16 ?_
  refine v_iushr dJ6_bitCount_0f7a4_17 ?_
  refine v_ldcw dJ6_bitCount_0f7a4_18 kJ6_266 ?_
  refine v_iand dJ6_bitCount_0f7a4_21 ?_
  refine v_iadd dJ6_bitCount_0f7a4_22 ?_
  refine v_ist0 dJ6_bitCount_0f7a4_23 (by decide) ?_
  refine v_ild0 dJ6_bitCount_0f7a4_24 ?_
  refine v_ild0 dJ6_bitCount_0f7a4_25 ?_
  refine v_iconstN (n := 4) dJ6_bitCount_0f7a4_26 ?_
  refine v_iushr dJ6_bitCount_0f7a4_27 ?_
  refine v_iadd dJ6_bitCount_0f7a4_28 ?_
  refine v_ldcw dJ6_bitCount_0f7a4_29 kJ6_267 ?_
  refine v_iand dJ6_bitCount_0f7a4_32 ?_
  refine v_ist0 dJ6_bitCount_0f7a4_33 (by decide) ?_
  refine v_ild0 dJ6_bitCount_0f7a4_34 ?_
  refine v_ild0 dJ6_bitCount_0f7a4_35 ?_
  refine v_bipushN (n := 8) dJ6_bitCount_0f7a4_36 (by decide) ?_
  refine v_iushr dJ6_bitCount_0f7a4_38 ?_
  refine v_iadd dJ6_bitCount_0f7a4_39 ?_
  refine v_ist0 dJ6_bitCount_0f7a4_40 (by decide) ?_
  refine v_ild0 dJ6_bitCount_0f7a4_41 ?_
  refine v_ild0 dJ6_bitCount_0f7a4_42 ?_
  refine v_bipushN (n := 16) dJ6_bitCount_0f7a4_43 (by decide) ?_
  refine v_iushr dJ6_bitCount_0f7a4_45 ?_
  refine v_iadd dJ6_bitCount_0f7a4_46 ?_
  refine v_ist0 dJ6_bitCount_0f7a4_47 (by decide) ?_
  refine v_ild0 dJ6_bitCount_0f7a4_48 ?_
  refine v_bipushN (n := 63) dJ6_bitCount_0f7a4_49 (by decide) ?_
  refine v_iand dJ6_bitCount_0f7a4_51 ?_
  exact v_iret dJ6_bitCount_0f7a4_52 rfl (⟨bc_ok ⟨s, hs⟩, rfl⟩)
set_option maxRecDepth 100000 in
set_option maxHeartbeats 4000000 in
theorem kM_in (E : ev) (Mz : mm) {x lo hi : Int32} : Ct E 0 yX7_in cX7_in 3 (some .boolean) [.inl x, .inl lo, .inl hi] Mz (qI E (fun r M' => r = b2 (inB x lo hi) ∧ M' = Mz)) := by
  refine ct_of (by decide) (Nat.le_of_ble_eq_true rfl) ?_
  show V E 0 _ _ _ _ _ 0 [some (.inl x), some (.inl lo), some (.inl hi)] [] Mz
  refine v_ild0 dX7_in_0 ?_
  refine v_ild1 dX7_in_1 ?_
  refine v_icmp_lt (tgt := 14) dX7_in_2 (by decide) (fun h2 => ?_) (fun h2 => ?_)
  · refine v_iconstN (n := 0) dX7_in_14 ?_
    exact v_zret dX7_in_15 rfl (by decide +kernel) (⟨by simp [inB, b2, Int32.not_le.mpr h2]; try rfl, rfl⟩)
  · refine v_ild0 dX7_in_5 ?_
    refine v_ild2 dX7_in_6 ?_
    refine v_icmp_gt (tgt := 14) dX7_in_7 (by decide) (fun h7 => ?_) (fun h7 => ?_)
    · refine v_iconstN (n := 0) dX7_in_14 ?_
      exact v_zret dX7_in_15 rfl (by decide +kernel) (⟨by simp [inB, b2, Int32.not_le.mpr h7]; try rfl, rfl⟩)
    · refine v_iconstN (n := 1) dX7_in_10 ?_
      refine v_goto (tgt := 15) dX7_in_11 (by decide) ?_
      exact v_zret dX7_in_15 rfl (by decide +kernel) (⟨by simp [inB, b2, Int32.not_lt.mp h2, Int32.not_lt.mp h7]; try rfl, rfl⟩)
set_option maxRecDepth 100000 in
set_option maxHeartbeats 4000000 in
theorem kM_within (E : ev) (Mz : mm) {x lo hi : Int32} : Ct E 0 yX7_within cX7_within 3 (some .int) [.inl x, .inl lo, .inl hi] Mz (qI E (fun r M' => r = clampS x lo hi ∧ M' = Mz)) := by
  refine ct_of (by decide) (Nat.le_of_ble_eq_true rfl) ?_
  show V E 0 _ _ _ _ _ 0 [some (.inl x), some (.inl lo), some (.inl hi)] [] Mz
  refine v_ild0 dX7_within_0 ?_
  refine v_ild1 dX7_within_1 ?_
  refine v_icmp_ge (tgt := 9) dX7_within_2 (by decide) (fun h2 => ?_) (fun h2 => ?_)
  · refine v_ild0 dX7_within_9 ?_
    refine v_ild2 dX7_within_10 ?_
    refine v_icmp_le (tgt := 18) dX7_within_11 (by decide) (fun h11 => ?_) (fun h11 => ?_)
    · refine v_ild0 dX7_within_18 ?_
      exact v_iret dX7_within_19 rfl (⟨by unfold clampS; first | rw [if_pos (Int32.not_le.mp h2)] | rw [if_neg (Int32.not_lt.mpr h2), if_neg (Int32.not_lt.mpr h11)] | rw [if_neg (Int32.not_lt.mpr h2), if_pos (Int32.not_le.mp h11)], rfl⟩)
    · refine v_ild2 dX7_within_14 ?_
      refine v_goto (tgt := 19) dX7_within_15 (by decide) ?_
      exact v_iret dX7_within_19 rfl (⟨by unfold clampS; first | rw [if_pos (Int32.not_le.mp h2)] | rw [if_neg (Int32.not_lt.mpr h2), if_neg (Int32.not_lt.mpr h11)] | rw [if_neg (Int32.not_lt.mpr h2), if_pos (Int32.not_le.mp h11)], rfl⟩)
  · refine v_ild1 dX7_within_5 ?_
    refine v_goto (tgt := 19) dX7_within_6 (by decide) ?_
    exact v_iret dX7_within_19 rfl (⟨by unfold clampS; first | rw [if_pos (Int32.not_le.mp h2)] | rw [if_neg (Int32.not_lt.mpr h2), if_neg (Int32.not_lt.mpr h11)] | rw [if_neg (Int32.not_lt.mpr h2), if_pos (Int32.not_le.mp h11)], rfl⟩)
set_option maxRecDepth 100000 in
set_option maxHeartbeats 4000000 in
theorem kM_off (E : ev) (Mz : mm) {x : Int32} : Ct E 0 yX7_off cX7_off 1 (some .int) [.inl x] Mz (qI E (fun r M' => r = absS x ∧ M' = Mz)) := by
  refine ct_of (by decide) (Nat.le_of_ble_eq_true rfl) ?_
  show V E 0 _ _ _ _ _ 0 [some (.inl x)] [] Mz
  refine v_ild0 dX7_off_0 ?_
  refine v_if_ge (tgt := 9) dX7_off_1 (by decide) (fun h1 => ?_) (fun h1 => ?_)
  · refine v_ild0 dX7_off_9 ?_
    exact v_iret dX7_off_10 rfl (⟨by unfold absS; first | rw [if_pos h1] | rw [if_neg h1, neg_0], rfl⟩)
  · refine v_ild0 dX7_off_4 ?_
    refine v_ineg dX7_off_5 ?_
    refine v_goto (tgt := 10) dX7_off_6 (by decide) ?_
    exact v_iret dX7_off_10 rfl (⟨by unfold absS; first | rw [if_pos h1] | rw [if_neg h1, neg_0], rfl⟩)
set_option maxRecDepth 100000 in
set_option maxHeartbeats 4000000 in
theorem kM_copyAll (E : ev) (Mz : mm) {a b : Nat} (ha : sh a = .inl (0, 1471, none)) (hb : sh b = .inl (0, 1471, none)) (hab : a ≠ b) : Ct E 0 yX7_copyAll cX7_copyAll 3 none [.inr a, .inr b] Mz (qV E (fun M' => M' = wa Mz b (cpN 1471 (Mz a) (Mz b)))) := by
  refine ct_of (by decide) (Nat.le_of_ble_eq_true rfl) ?_
  show V E 0 _ _ _ _ _ 0 [some (.inr a), some (.inr b), none] [] Mz
  refine v_iconstN (n := 0) dX7_copyAll_0 ?_
  refine v_ist2 dX7_copyAll_1 (by decide) ?_
  refine v_loop (pc := 2) (fun k => [some (.inr a), some (.inr b), some (.inl (nI k))]) (fun k => wa Mz b (cpN k (Mz a) (Mz b))) (1471) (rfl) (by rw [cpN_0, wa_self]) (fun k hk ih => ?_) ?_
  · refine v_ild2 dX7_copyAll_2 ?_
    refine v_sipushN (n := 1471) dX7_copyAll_3 (by decide +kernel) ?_
    refine v_icmpN_ge (tgt := 21) dX7_copyAll_6 (by decide) (by omega) (by omega) (fun h6 => absurd h6 (by omega)) (fun h6 => ?_)
    refine v_ald1 dX7_copyAll_9 ?_
    refine v_ild2 dX7_copyAll_10 ?_
    refine v_ald0 dX7_copyAll_11 ?_
    refine v_ild2 dX7_copyAll_12 ?_
    refine v_ialdN dX7_copyAll_13 ha (by omega) (by decide) ?_
    refine v_iastN dX7_copyAll_14 hb (by omega) (by decide) ?_
    refine v_iincN2 (n := 1) dX7_copyAll_15 (by decide) ?_
    refine v_goto (tgt := 2) dX7_copyAll_18 (by decide) ?_
    exact v_lm rfl (by rw [wr_wa, wa_ne hab, cpN_s]) ih
  · refine v_ild2 dX7_copyAll_2 ?_
    refine v_sipushN (n := 1471) dX7_copyAll_3 (by decide +kernel) ?_
    refine v_icmpN_ge (tgt := 21) dX7_copyAll_6 (by decide) (by omega) (by omega) (fun h6 => ?_) (fun h6 => absurd h6 (by omega))
    exact v_vret dX7_copyAll_21 rfl (rfl)
set_option maxRecDepth 100000 in
set_option maxHeartbeats 4000000 in
theorem kM_bits_l (E : ev) (Mz : mm) (s0 : Nat) (x : Int32) (t : Nat) : t < 256 → ∀ n : Nat, popc s0 = n + popc t → V E 0 yX7_bits cX7_bits 3 (some .int) (qI E (fun r M' => r = nI (popc s0) ∧ M' = Mz)) 4 [some (.inl x), some (.inl (nI n)), some (.inl (nI t))] [] Mz := by
  induction t using Nat.strongRecOn with
  | ind t ih =>
  intro ht n hp
  have hz : nI t = 0 → t = 0 := fun e => (nI_eq (b := 0) (by omega) (by decide)).mp e
  refine v_ild2 dX7_bits_4 ?_
  refine v_if_eq (tgt := 20) dX7_bits_5 (by decide) (fun h5 => ?_) (fun h5 => ?_)
  · refine v_ild1 dX7_bits_20 ?_
    exact v_iret dX7_bits_21 rfl (⟨by rw [hz h5] at hp; rw [hp]; rfl, rfl⟩)
  · refine v_iincN1 (n := 1) dX7_bits_8 (by decide) ?_
    refine v_ild2 dX7_bits_11 ?_
    refine v_ild2 dX7_bits_12 ?_
    refine v_iconstN (n := 1) dX7_bits_13 ?_
    refine v_isub dX7_bits_14 ?_
    refine v_iand dX7_bits_15 ?_
    refine v_ist2 dX7_bits_16 (by decide) ?_
    refine v_goto (tgt := 4) dX7_bits_17 (by decide) ?_
    have hb := bits_s ⟨t, ht⟩ (fun e => h5 (by rw [show t = 0 from e]; rfl))
    have hb2 : (t &&& (t - 1)) < t := hb.2.1
    have hb3 : popc t = popc (t &&& (t - 1)) + 1 := hb.2.2
    exact v_lo (by rw [hb.1]) (ih (t &&& (t - 1)) hb2 (by omega) (n + 1) (by omega))
set_option maxRecDepth 100000 in
set_option maxHeartbeats 4000000 in
theorem kM_bits (E : ev) (Mz : mm) {s : Nat} (hs : s < 256) : Ct E 0 yX7_bits cX7_bits 3 (some .int) [.inl (nI s)] Mz (qI E (fun r M' => r = nI (popc s) ∧ M' = Mz)) := by
  refine ct_of (by decide) (Nat.le_of_ble_eq_true rfl) ?_
  show V E 0 _ _ _ _ _ 0 [some (.inl (nI s)), none, none] [] Mz
  refine v_iconstN (n := 0) dX7_bits_0 ?_
  refine v_ist1 dX7_bits_1 (by decide) ?_
  refine v_ild0 dX7_bits_2 ?_
  refine v_ist2 dX7_bits_3 (by decide) ?_
  exact kM_bits_l E Mz s _ s hs 0 (by omega)
set_option maxRecDepth 100000 in
set_option maxHeartbeats 4000000 in
theorem kM_isPerson (E : ev) (Mz : mm) {x : Int32} : Ct E 1 yX7_isPerson cX7_isPerson 2 (some .boolean) [.inr 92, .inl x] Mz (qI E (fun r M' => r = b2 (inB x (nI 0) (mv Mz 1 - nI 1)) ∧ M' = Mz)) := by
  refine ct_of (by decide) (Nat.le_of_ble_eq_true rfl) ?_
  show V E 1 _ _ _ _ _ 0 [some (.inr 92), some (.inl x)] [] Mz
  refine v_ild1 dX7_isPerson_0 ?_
  refine v_iconstN (n := 0) dX7_isPerson_1 ?_
  refine v_ald0 dX7_isPerson_2 ?_
  refine v_getr dX7_isPerson_3 gX7_9 sh_92 rfl ?_
  refine v_iconstN (n := 1) dX7_isPerson_6 ?_
  refine v_ialdN dX7_isPerson_7 sh_93 (by omega) (by decide) ?_
  refine v_iconstN (n := 1) dX7_isPerson_8 ?_
  refine v_isub dX7_isPerson_9 ?_
  refine v_callSi (kM_in E Mz) dX7_isPerson_10 cX7_75 rfl (by decide) (Nat.le_of_ble_eq_true rfl) rfl (fun r M1z hq => ?_)
  obtain ⟨hr, hm⟩ := hq
  rw [hr, hm]
  clear hr hm
  exact v_zret dX7_isPerson_13 rfl (b2_nar _) (⟨rfl, rfl⟩)
set_option maxRecDepth 100000 in
set_option maxHeartbeats 4000000 in
theorem kM_isField (E : ev) (Mz : mm) {x : Int32} : Ct E 1 yX7_isField cX7_isField 1 (some .boolean) [.inl x] Mz (qI E (fun r M' => r = b2 (inB x (nI 0) (nI 5)) ∧ M' = Mz)) := by
  refine ct_of (by decide) (Nat.le_of_ble_eq_true rfl) ?_
  show V E 1 _ _ _ _ _ 0 [some (.inl x)] [] Mz
  refine v_ild0 dX7_isField_0 ?_
  refine v_iconstN (n := 0) dX7_isField_1 ?_
  refine v_iconstN (n := 5) dX7_isField_2 ?_
  refine v_callSi (kM_in E Mz) dX7_isField_3 cX7_75 rfl (by decide) (Nat.le_of_ble_eq_true rfl) rfl (fun r M1z hq => ?_)
  obtain ⟨hr, hm⟩ := hq
  rw [hr, hm]
  clear hr hm
  exact v_zret dX7_isField_6 rfl (b2_nar _) (⟨rfl, rfl⟩)
set_option maxRecDepth 100000 in
set_option maxHeartbeats 4000000 in
theorem kM_of (E : ev) (Mz : mm) {p k : Nat} (hp : p < 8) (hk : k < 10) : Ct E 0 yX7_of cX7_of 3 (some .int) [.inr 92, .inl (nI p), .inl (nI k)] Mz (qI E (fun r M' => r = mv Mz (19 + 10 * p + k) ∧ M' = Mz)) := by
  refine ct_of (by decide) (Nat.le_of_ble_eq_true rfl) ?_
  show V E 0 _ _ _ _ _ 0 [some (.inr 92), some (.inl (nI p)), some (.inl (nI k))] [] Mz
  refine v_ald0 dX7_of_0 ?_
  refine v_getr dX7_of_1 gX7_9 sh_92 rfl ?_
  refine v_bipushN (n := 19) dX7_of_4 (by decide) ?_
  refine v_bipushN (n := 10) dX7_of_6 (by decide) ?_
  refine v_ild1 dX7_of_8 ?_
  refine v_imulN dX7_of_9 ?_
  refine v_iaddN dX7_of_10 ?_
  refine v_ild2 dX7_of_11 ?_
  refine v_iaddN dX7_of_12 ?_
  refine v_ialdN dX7_of_13 sh_93 (by omega) (by decide) ?_
  exact v_iret dX7_of_14 rfl (⟨(mv_at Mz (by omega)).symm, rfl⟩)
set_option maxRecDepth 100000 in
set_option maxHeartbeats 4000000 in
theorem kM_put (E : ev) (Mz : mm) {p k : Nat} {x : Int32} (hp : p < 8) (hk : k < 10) : Ct E 0 yX7_put cX7_put 4 none [.inr 92, .inl (nI p), .inl (nI k), .inl x] Mz (qV E (fun M' => M' = wr Mz 93 (19 + 10 * p + k) x)) := by
  refine ct_of (by decide) (Nat.le_of_ble_eq_true rfl) ?_
  show V E 0 _ _ _ _ _ 0 [some (.inr 92), some (.inl (nI p)), some (.inl (nI k)), some (.inl x)] [] Mz
  refine v_ald0 dX7_put_0 ?_
  refine v_getr dX7_put_1 gX7_9 sh_92 rfl ?_
  refine v_bipushN (n := 19) dX7_put_4 (by decide) ?_
  refine v_bipushN (n := 10) dX7_put_6 (by decide) ?_
  refine v_ild1 dX7_put_8 ?_
  refine v_imulN dX7_put_9 ?_
  refine v_iaddN dX7_put_10 ?_
  refine v_ild2 dX7_put_11 ?_
  refine v_iaddN dX7_put_12 ?_
  refine v_ild3 dX7_put_13 ?_
  refine v_iastN dX7_put_14 sh_93 (by omega) (by decide) ?_
  exact v_vret dX7_put_15 rfl (rfl)
set_option maxRecDepth 100000 in
set_option maxHeartbeats 4000000 in
theorem kM_thinks (E : ev) (Mz : mm) {p f : Nat} (hp : p < 8) (hf : f < 6) : Ct E 1 yX7_thinks cX7_thinks 3 (some .int) [.inr 92, .inl (nI p), .inl (nI f)] Mz (qI E (fun r M' => r = th (mv Mz) p f ∧ M' = Mz)) := by
  refine ct_of (by decide) (Nat.le_of_ble_eq_true rfl) ?_
  show V E 1 _ _ _ _ _ 0 [some (.inr 92), some (.inl (nI p)), some (.inl (nI f))] [] Mz
  refine v_ald0 dX7_thinks_0 ?_
  refine v_ild1 dX7_thinks_1 ?_
  refine v_iconstN (n := 4) dX7_thinks_2 ?_
  refine v_ild2 dX7_thinks_3 ?_
  refine v_iaddN dX7_thinks_4 ?_
  refine v_callVi (kM_of E Mz hp (by omega)) dX7_thinks_5 cX7_79 rfl sh_92 rfl (by decide) (Nat.le_of_ble_eq_true rfl) rfl (fun r M1z hq => ?_)
  obtain ⟨hr, hm⟩ := hq
  rw [hr, hm]
  clear hr hm
  exact v_iret dX7_thinks_8 rfl (⟨by congr 1; omega, rfl⟩)
set_option maxRecDepth 100000 in
set_option maxHeartbeats 4000000 in
theorem kM_swaps (E : ev) (Mz : mm) {i : Nat} {x : Int32} (hi : i < 99) : Ct E 0 yX7_swaps cX7_swaps 4 (some .int) [.inr 92, .inl (nI i), .inl x] Mz (qI E (fun r M' => r = mv Mz i ∧ M' = wr Mz 93 i x)) := by
  refine ct_of (by decide) (Nat.le_of_ble_eq_true rfl) ?_
  show V E 0 _ _ _ _ _ 0 [some (.inr 92), some (.inl (nI i)), some (.inl x), none] [] Mz
  refine v_ald0 dX7_swaps_0 ?_
  refine v_getr dX7_swaps_1 gX7_9 sh_92 rfl ?_
  refine v_ild1 dX7_swaps_4 ?_
  refine v_ialdN dX7_swaps_5 sh_93 (by omega) (by decide) ?_
  refine v_ist3 dX7_swaps_6 (by decide) ?_
  refine v_ald0 dX7_swaps_7 ?_
  refine v_getr dX7_swaps_8 gX7_9 sh_92 rfl ?_
  refine v_ild1 dX7_swaps_11 ?_
  refine v_ild2 dX7_swaps_12 ?_
  refine v_iastN dX7_swaps_13 sh_93 (by omega) (by decide) ?_
  refine v_ild3 dX7_swaps_14 ?_
  exact v_iret dX7_swaps_15 rfl (⟨(mv_at Mz hi).symm, rfl⟩)
set_option maxRecDepth 100000 in
set_option maxHeartbeats 4000000 in
theorem kM_worthOf (E : ev) (Mz : mm) {p W : Nat} (hp : p < 8) (hI : CI (mv Mz) W) : Ct E 1 yX7_worthOf cX7_worthOf 2 (some .int) [.inr 92, .inl (nI p)] Mz (qI E (fun r M' => r = tabW (kd (mv Mz) p).toNatClampNeg ∧ M' = Mz)) := by
  refine ct_of (by decide) (Nat.le_of_ble_eq_true rfl) ?_
  show V E 1 _ _ _ _ _ 0 [some (.inr 92), some (.inl (nI p))] [] Mz
  obtain ⟨ke, hk6, hke⟩ := hI.kd hp
  refine v_ald0 dX7_worthOf_0 ?_
  refine v_ild1 dX7_worthOf_1 ?_
  refine v_iconstN (n := 0) dX7_worthOf_2 ?_
  refine v_callVi (kM_of E Mz (by omega) (by omega)) dX7_worthOf_3 cX7_79 rfl sh_92 rfl (by decide) (Nat.le_of_ble_eq_true rfl) rfl (fun r M1z hq => ?_)
  obtain ⟨hr, hm⟩ := hq
  rw [hr, hm]
  clear hr hm
  refine v_eq (hke) ?_
  rcases (show ke = 0 ∨ ke = 1 ∨ ke = 2 ∨ ke = 3 ∨ ke = 4 ∨ ke = 5 by omega) with rfl | rfl | rfl | rfl | rfl | rfl
  · refine v_tsOut (tgt := 48) dX7_worthOf_6 (by decide) (by decide) ?_
    refine v_iconstN (n := 2) dX7_worthOf_48 ?_
    exact v_iret dX7_worthOf_49 rfl (⟨by rw [show kd (mv Mz) p = _ from hke]; decide, rfl⟩)
  · refine v_tsIn (off := 34) (tgt := 40) dX7_worthOf_6 (by decide) (by decide) (by decide) (by decide) ?_
    refine v_iconstN (n := 1) dX7_worthOf_40 ?_
    exact v_iret dX7_worthOf_41 rfl (⟨by rw [show kd (mv Mz) p = _ from hke]; decide, rfl⟩)
  · refine v_tsIn (off := 36) (tgt := 42) dX7_worthOf_6 (by decide) (by decide) (by decide) (by decide) ?_
    refine v_iconstN (n := 5) dX7_worthOf_42 ?_
    exact v_iret dX7_worthOf_43 rfl (⟨by rw [show kd (mv Mz) p = _ from hke]; decide, rfl⟩)
  · refine v_tsIn (off := 38) (tgt := 44) dX7_worthOf_6 (by decide) (by decide) (by decide) (by decide) ?_
    refine v_iconstN (n := 3) dX7_worthOf_44 ?_
    exact v_iret dX7_worthOf_45 rfl (⟨by rw [show kd (mv Mz) p = _ from hke]; decide, rfl⟩)
  · refine v_tsIn (off := 40) (tgt := 46) dX7_worthOf_6 (by decide) (by decide) (by decide) (by decide) ?_
    refine v_iconstN (n := 4) dX7_worthOf_46 ?_
    exact v_iret dX7_worthOf_47 rfl (⟨by rw [show kd (mv Mz) p = _ from hke]; decide, rfl⟩)
  · refine v_tsIn (off := 34) (tgt := 40) dX7_worthOf_6 (by decide) (by decide) (by decide) (by decide) ?_
    refine v_iconstN (n := 1) dX7_worthOf_40 ?_
    exact v_iret dX7_worthOf_41 rfl (⟨by rw [show kd (mv Mz) p = _ from hke]; decide, rfl⟩)
set_option maxRecDepth 100000 in
set_option maxHeartbeats 4000000 in
theorem kM_thinkers (E : ev) (Mz : mm) {f W : Nat} {crop : Int32} (hf : f < 6) (hI : CI (mv Mz) W) : Ct E 2 yX7_thinkers cX7_thinkers 5 (some .int) [.inr 92, .inl (nI f), .inl crop] Mz (qI E (fun r M' => r = nI (thkN (mv Mz) f crop) ∧ M' = Mz)) := by
  refine ct_of (by decide) (Nat.le_of_ble_eq_true rfl) ?_
  show V E 2 _ _ _ _ _ 0 [some (.inr 92), some (.inl (nI f)), some (.inl crop), none, none] [] Mz
  have hpe : Mz 93 1 = nI (pn (mv Mz)) := hI.pn.1
  have hp8 := hI.pn.2
  refine v_iconstN (n := 0) dX7_thinkers_0 ?_
  refine v_ist3 dX7_thinkers_1 (by decide) ?_
  refine v_iconstN (n := 0) dX7_thinkers_2 ?_
  refine v_ist4 dX7_thinkers_3 (by decide) ?_
  refine v_loop (pc := 5) (fun k => [some (.inr 92), some (.inl (nI f)), some (.inl crop), some (.inl (nI (setK (thkP (mv Mz) f crop) k))), some (.inl (nI k))]) (fun k => Mz) (pn (mv Mz)) (rfl) (rfl) (fun k hk ih => ?_) ?_
  · refine v_ild4 dX7_thinkers_5 ?_
    refine v_ald0 dX7_thinkers_7 ?_
    refine v_getr dX7_thinkers_8 gX7_9 sh_92 rfl ?_
    refine v_iconstN (n := 1) dX7_thinkers_11 ?_
    refine v_ialdN dX7_thinkers_12 sh_93 (by omega) (by decide) ?_
    refine v_eq (hpe) ?_
    refine v_icmpN_ge (tgt := 44) dX7_thinkers_13 (by decide) (by omega) (by omega) (fun h13 => absurd h13 (by omega)) (fun h13 => ?_)
    refine v_ild3 dX7_thinkers_16 ?_
    refine v_ald0 dX7_thinkers_17 ?_
    refine v_ild4 dX7_thinkers_18 ?_
    refine v_ild1 dX7_thinkers_20 ?_
    refine v_callVi (kM_thinks E Mz (by omega) (by omega)) dX7_thinkers_21 cX7_83 rfl sh_92 rfl (by decide) (Nat.le_of_ble_eq_true rfl) rfl (fun r M1z hq => ?_)
    obtain ⟨hr, hm⟩ := hq
    rw [hr, hm]
    clear hr hm
    refine v_ild2 dX7_thinkers_24 ?_
    refine v_icmp_ne (tgt := 35) dX7_thinkers_25 (by decide) (fun h25 => ?_) (fun h25 => ?_)
    · refine v_iconstN (n := 0) dX7_thinkers_35 ?_
      refine v_ior dX7_thinkers_36 ?_
      refine v_ist3 dX7_thinkers_37 (by decide) ?_
      refine v_iincN4 (n := 1) dX7_thinkers_38 (by decide) ?_
      refine v_goto (tgt := 5) dX7_thinkers_41 (by decide) ?_
      exact v_lo (by rw [or_n0, setK_f (P := thkP (mv Mz) f crop) (decide_eq_false h25)]) ih
    · refine v_iconstN (n := 1) dX7_thinkers_28 ?_
      refine v_ild4 dX7_thinkers_29 ?_
      refine v_ishl dX7_thinkers_31 ?_
      refine v_goto (tgt := 36) dX7_thinkers_32 (by decide) ?_
      refine v_ior dX7_thinkers_36 ?_
      refine v_ist3 dX7_thinkers_37 (by decide) ?_
      refine v_iincN4 (n := 1) dX7_thinkers_38 (by decide) ?_
      refine v_goto (tgt := 5) dX7_thinkers_41 (by decide) ?_
      exact v_lo (by rw [setK_t (P := thkP (mv Mz) f crop) (by omega) (decide_eq_true h25)]) ih
  · refine v_ild4 dX7_thinkers_5 ?_
    refine v_ald0 dX7_thinkers_7 ?_
    refine v_getr dX7_thinkers_8 gX7_9 sh_92 rfl ?_
    refine v_iconstN (n := 1) dX7_thinkers_11 ?_
    refine v_ialdN dX7_thinkers_12 sh_93 (by omega) (by decide) ?_
    refine v_eq (hpe) ?_
    refine v_icmpN_ge (tgt := 44) dX7_thinkers_13 (by decide) (by omega) (by omega) (fun h13 => ?_) (fun h13 => absurd h13 (by omega))
    refine v_ild3 dX7_thinkers_44 ?_
    exact v_iret dX7_thinkers_45 rfl (⟨rfl, rfl⟩)
set_option maxRecDepth 100000 in
set_option maxHeartbeats 4000000 in
theorem kM_votesFor (E : ev) (Mz : mm) {f W : Nat} {crop : Int32} (hf : f < 6) (hI : CI (mv Mz) W) : Ct E 2 yX7_votesFor cX7_votesFor 5 (some .int) [.inr 92, .inl (nI f), .inl crop] Mz (qI E (fun r M' => r = vot (mv Mz) f crop ∧ M' = Mz)) := by
  refine ct_of (by decide) (Nat.le_of_ble_eq_true rfl) ?_
  show V E 2 _ _ _ _ _ 0 [some (.inr 92), some (.inl (nI f)), some (.inl crop), none, none] [] Mz
  have hpe : Mz 93 1 = nI (pn (mv Mz)) := hI.pn.1
  have hp8 := hI.pn.2
  refine v_iconstN (n := 0) dX7_votesFor_0 ?_
  refine v_ist3 dX7_votesFor_1 (by decide) ?_
  refine v_iconstN (n := 0) dX7_votesFor_2 ?_
  refine v_ist4 dX7_votesFor_3 (by decide) ?_
  refine v_loop (pc := 5) (fun k => [some (.inr 92), some (.inl (nI f)), some (.inl crop), some (.inl (votK (mv Mz) f crop k)), some (.inl (nI k))]) (fun k => Mz) (pn (mv Mz)) (rfl) (rfl) (fun k hk ih => ?_) ?_
  · refine v_ild4 dX7_votesFor_5 ?_
    refine v_ald0 dX7_votesFor_7 ?_
    refine v_getr dX7_votesFor_8 gX7_9 sh_92 rfl ?_
    refine v_iconstN (n := 1) dX7_votesFor_11 ?_
    refine v_ialdN dX7_votesFor_12 sh_93 (by omega) (by decide) ?_
    refine v_eq (hpe) ?_
    refine v_icmpN_ge (tgt := 46) dX7_votesFor_13 (by decide) (by omega) (by omega) (fun h13 => absurd h13 (by omega)) (fun h13 => ?_)
    refine v_ild3 dX7_votesFor_16 ?_
    refine v_ald0 dX7_votesFor_17 ?_
    refine v_ild4 dX7_votesFor_18 ?_
    refine v_ild1 dX7_votesFor_20 ?_
    refine v_callVi (kM_thinks E Mz (by omega) (by omega)) dX7_votesFor_21 cX7_83 rfl sh_92 rfl (by decide) (Nat.le_of_ble_eq_true rfl) rfl (fun r M1z hq => ?_)
    obtain ⟨hr, hm⟩ := hq
    rw [hr, hm]
    clear hr hm
    refine v_ild2 dX7_votesFor_24 ?_
    refine v_icmp_ne (tgt := 37) dX7_votesFor_25 (by decide) (fun h25 => ?_) (fun h25 => ?_)
    · refine v_iconstN (n := 0) dX7_votesFor_37 ?_
      refine v_iadd dX7_votesFor_38 ?_
      refine v_ist3 dX7_votesFor_39 (by decide) ?_
      refine v_iincN4 (n := 1) dX7_votesFor_40 (by decide) ?_
      refine v_goto (tgt := 5) dX7_votesFor_43 (by decide) ?_
      exact v_lo (by simp [votK, h25, nI_0]) ih
    · refine v_ald0 dX7_votesFor_28 ?_
      refine v_ild4 dX7_votesFor_29 ?_
      refine v_callVi (kM_worthOf E Mz (by omega) hI) dX7_votesFor_31 cX7_86 rfl sh_92 rfl (by decide) (Nat.le_of_ble_eq_true rfl) rfl (fun r M1z hq => ?_)
      obtain ⟨hr, hm⟩ := hq
      rw [hr, hm]
      clear hr hm
      refine v_goto (tgt := 38) dX7_votesFor_34 (by decide) ?_
      refine v_iadd dX7_votesFor_38 ?_
      refine v_ist3 dX7_votesFor_39 (by decide) ?_
      refine v_iincN4 (n := 1) dX7_votesFor_40 (by decide) ?_
      refine v_goto (tgt := 5) dX7_votesFor_43 (by decide) ?_
      exact v_lo (by simp [votK, h25]) ih
  · refine v_ild4 dX7_votesFor_5 ?_
    refine v_ald0 dX7_votesFor_7 ?_
    refine v_getr dX7_votesFor_8 gX7_9 sh_92 rfl ?_
    refine v_iconstN (n := 1) dX7_votesFor_11 ?_
    refine v_ialdN dX7_votesFor_12 sh_93 (by omega) (by decide) ?_
    refine v_eq (hpe) ?_
    refine v_icmpN_ge (tgt := 46) dX7_votesFor_13 (by decide) (by omega) (by omega) (fun h13 => ?_) (fun h13 => absurd h13 (by omega))
    refine v_ild3 dX7_votesFor_46 ?_
    exact v_iret dX7_votesFor_47 rfl (⟨rfl, rfl⟩)
set_option maxRecDepth 100000 in
set_option maxHeartbeats 4000000 in
theorem kM_firstOf (E : ev) (Mz : mm) {f W : Nat} (hf : f < 6) (hI : CI (mv Mz) W) : Ct E 3 yX7_firstOf cX7_firstOf 6 (some .int) [.inr 92, .inl (nI f)] Mz (qI E (fun r M' => r = fc (mv Mz) f ∧ M' = Mz)) := by
  refine ct_of (by decide) (Nat.le_of_ble_eq_true rfl) ?_
  show V E 3 _ _ _ _ _ 0 [some (.inr 92), some (.inl (nI f)), none, none, none, none] [] Mz
  have hpe : Mz 93 1 = nI (pn (mv Mz)) := hI.pn.1
  have hp8 := hI.pn.2
  refine v_iconstN (n := 0) dX7_firstOf_0 ?_
  refine v_ist2 dX7_firstOf_1 (by decide) ?_
  refine v_iconstN (n := 0) dX7_firstOf_2 ?_
  refine v_ist3 dX7_firstOf_3 (by decide) ?_
  refine v_iconstN (n := 1) dX7_firstOf_4 ?_
  refine v_ist4 dX7_firstOf_5 (by decide) ?_
  refine v_loop (pc := 7) (fun k => [some (.inr 92), some (.inl (nI f)), some (.inl (fcK (mv Mz) f k).1), some (.inl (fcK (mv Mz) f k).2), some (.inl (nI (k + 1))), none]) (fun k => Mz) (9) (rfl) (rfl) (fun k hk ih => ?_) ?_
  · refine v_ild4 dX7_firstOf_7 ?_
    refine v_bipushN (n := 10) dX7_firstOf_9 (by decide) ?_
    refine v_icmpN_ge (tgt := 55) dX7_firstOf_11 (by decide) (by omega) (by omega) (fun h11 => absurd h11 (by omega)) (fun h11 => ?_)
    refine v_ald0 dX7_firstOf_14 ?_
    refine v_ild1 dX7_firstOf_15 ?_
    refine v_ild4 dX7_firstOf_16 ?_
    refine v_callVi (kM_votesFor E Mz hf hI) dX7_firstOf_18 cX7_90 rfl sh_92 rfl (by decide) (Nat.le_of_ble_eq_true rfl) rfl (fun r M1z hq => ?_)
    obtain ⟨hr, hm⟩ := hq
    rw [hr, hm]
    clear hr hm
    refine v_ist5 dX7_firstOf_21 (by decide) ?_
    refine v_ild5 dX7_firstOf_23 ?_
    refine v_ild3 dX7_firstOf_25 ?_
    refine v_icmp_le (tgt := 34) dX7_firstOf_26 (by decide) (fun h26 => ?_) (fun h26 => ?_)
    · refine v_ild2 dX7_firstOf_34 ?_
      refine v_ist2 dX7_firstOf_35 (by decide) ?_
      refine v_ild5 dX7_firstOf_36 ?_
      refine v_ild3 dX7_firstOf_38 ?_
      refine v_icmp_le (tgt := 47) dX7_firstOf_39 (by decide) (fun h39 => ?_) (fun h39 => ?_)
      · refine v_ild3 dX7_firstOf_47 ?_
        refine v_ist3 dX7_firstOf_48 (by decide) ?_
        refine v_iincN4 (n := 1) dX7_firstOf_49 (by decide) ?_
        refine v_goto (tgt := 7) dX7_firstOf_52 (by decide) ?_
        refine v_fg5 ?_
        exact v_lo (by rw [show fcK (mv Mz) f (k + 1) = fcK (mv Mz) f k from if_neg (Int32.not_lt.mpr h26)]) ih
      · refine v_ild5 dX7_firstOf_42 ?_
        refine v_goto (tgt := 48) dX7_firstOf_44 (by decide) ?_
        refine v_ist3 dX7_firstOf_48 (by decide) ?_
        refine v_iincN4 (n := 1) dX7_firstOf_49 (by decide) ?_
        refine v_goto (tgt := 7) dX7_firstOf_52 (by decide) ?_
        exact absurd h26 h39
    · refine v_ild4 dX7_firstOf_29 ?_
      refine v_goto (tgt := 35) dX7_firstOf_31 (by decide) ?_
      refine v_ist2 dX7_firstOf_35 (by decide) ?_
      refine v_ild5 dX7_firstOf_36 ?_
      refine v_ild3 dX7_firstOf_38 ?_
      refine v_icmp_le (tgt := 47) dX7_firstOf_39 (by decide) (fun h39 => ?_) (fun h39 => ?_)
      · refine v_ild3 dX7_firstOf_47 ?_
        refine v_ist3 dX7_firstOf_48 (by decide) ?_
        refine v_iincN4 (n := 1) dX7_firstOf_49 (by decide) ?_
        refine v_goto (tgt := 7) dX7_firstOf_52 (by decide) ?_
        exact absurd h39 h26
      · refine v_ild5 dX7_firstOf_42 ?_
        refine v_goto (tgt := 48) dX7_firstOf_44 (by decide) ?_
        refine v_ist3 dX7_firstOf_48 (by decide) ?_
        refine v_iincN4 (n := 1) dX7_firstOf_49 (by decide) ?_
        refine v_goto (tgt := 7) dX7_firstOf_52 (by decide) ?_
        refine v_fg5 ?_
        exact v_lo (by rw [show fcK (mv Mz) f (k + 1) = (nI (k + 1), vot (mv Mz) f (nI (k + 1))) from if_pos (Int32.not_le.mp h26)]) ih
  · refine v_ild4 dX7_firstOf_7 ?_
    refine v_bipushN (n := 10) dX7_firstOf_9 (by decide) ?_
    refine v_icmpN_ge (tgt := 55) dX7_firstOf_11 (by decide) (by omega) (by omega) (fun h11 => ?_) (fun h11 => absurd h11 (by omega))
    refine v_ild2 dX7_firstOf_55 ?_
    exact v_iret dX7_firstOf_56 rfl (⟨rfl, rfl⟩)
