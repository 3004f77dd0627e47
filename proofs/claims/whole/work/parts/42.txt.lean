/-! text, feed, as the class does them -/
def byN (x : Int32) (j : Nat) : Nat := ((x >>> (nI (24 - 8 * j) &&& 31)) &&& nI 255).toBitVec.toNat
theorem and255 (z : Int32) : z &&& nI 255 = nI (z.toBitVec.toNat % 256) := pk_and z 8 (by decide)
theorem byN_lt (x : Int32) (j : Nat) : byN x j < 256 := by
  unfold byN
  rw [and255, pk_tn (by omega)]
  omega
theorem byN_n (x : Int32) (j : Nat) : (x >>> (nI (24 - 8 * j) &&& 31)) &&& nI 255 = nI (byN x j) := by
  unfold byN
  rw [and255, pk_tn (by omega)]
theorem i8_mod (z : Int32) : z.toInt8 = (nI (z.toBitVec.toNat % 256)).toInt8 := by
  apply Int8.toInt_inj.mp
  rw [Int32.toInt_toInt8, Int32.toInt_toInt8, nI_toInt (by omega)]
  have h : z.toInt = (z.toBitVec.toNat : Int).bmod (2 ^ 32) := by
    rw [← BitVec.toInt_eq_toNat_bmod]; rfl
  rw [h, Int.bmod_bmod_of_dvd (by decide)]
  rw [Int.natCast_emod]
  exact (Int.emod_bmod (z.toBitVec.toNat : Int) 256).symm
theorem by_sb (x : Int32) (j : Nat) : vp_nar .byte (x >>> (nI (24 - 8 * j) &&& 31)).toInt8.toInt32 = sb (byN x j) := by
  rw [pk_vb]
  unfold sb byN
  rw [and255, pk_tn (by omega), ← i8_mod]
def tkM (Mz : mm) (n : Nat) (x : Int32) : mm := (wr (wr (wr (wr (wr (wr (wr (wr Mz 34 (n + 0) (vp_nar .byte (x >>> (nI 24 &&& 31)).toInt8.toInt32)) 33 1 (nI (n + 0 + 1))) 34 (n + 1) (vp_nar .byte (x >>> (nI 16 &&& 31)).toInt8.toInt32)) 33 1 (nI (n + 1 + 1))) 34 (n + 2) (vp_nar .byte (x >>> (nI 8 &&& 31)).toInt8.toInt32)) 33 1 (nI (n + 2 + 1))) 34 (n + 3) (vp_nar .byte (x >>> (nI 0 &&& 31)).toInt8.toInt32)) 33 1 (nI (n + 3 + 1)))
theorem tk_out {Mz : mm} {n i : Nat} {x : Int32} (h : i < n) : tkM Mz n x 34 i = Mz 34 i := by
  have h0 : i ≠ n + 0 := by omega
  have h1 : i ≠ n + 1 := by omega
  have h2 : i ≠ n + 2 := by omega
  have h3 : i ≠ n + 3 := by omega
  unfold tkM
  rw [wr_ne (by decide), wr_at, pk_un h3, wr_ne (by decide), wr_at, pk_un h2, wr_ne (by decide), wr_at, pk_un h1, wr_ne (by decide), wr_at, pk_un h0]
theorem tk_in {Mz : mm} {n j : Nat} {x : Int32} (h : j < 4) : tkM Mz n x 34 (n + j) = sb (byN x j) := by
  unfold tkM
  rcases (show j = 0 ∨ j = 1 ∨ j = 2 ∨ j = 3 by omega) with rfl | rfl | rfl | rfl
  · rw [wr_ne (by decide), wr_at, pk_un (by omega), wr_ne (by decide), wr_at, pk_un (by omega), wr_ne (by decide), wr_at, pk_un (by omega), wr_ne (by decide), wr_at, pk_us]; exact by_sb x 0
  · rw [wr_ne (by decide), wr_at, pk_un (by omega), wr_ne (by decide), wr_at, pk_un (by omega), wr_ne (by decide), wr_at, pk_us]; exact by_sb x 1
  · rw [wr_ne (by decide), wr_at, pk_un (by omega), wr_ne (by decide), wr_at, pk_us]; exact by_sb x 2
  · rw [wr_ne (by decide), wr_at, pk_us]; exact by_sb x 3
def TkP (A M : mm) (n : Nat) (x : Int32) : Prop := (∀ a, a ≠ 33 → a ≠ 34 → M a = A a) ∧ M 33 1 = nI (n + 4) ∧ (∀ j, j ≠ 1 → M 33 j = A 33 j) ∧ (∀ i, i < n → M 34 i = A 34 i) ∧ ∀ j, j < 4 → M 34 (n + j) = sb (byN x j)
set_option maxRecDepth 100000 in
set_option maxHeartbeats 4000000 in
theorem kR_take (E : ev) (Mz : mm) {x : Int32} {n : Nat} (hn : Mz 33 1 = nI n) (h96 : n + 4 ≤ 96) : Ct E 0 yX2_take cX2_take 3 none [.inr 33, .inl x] Mz (qV E (fun M' => TkP Mz M' n x)) := by
  refine ct_of (by decide) (Nat.le_of_ble_eq_true rfl) ?_
  show V E 0 _ _ _ _ _ 0 [some (.inr 33), some (.inl x), none] [] Mz
  refine v_bipushN (n := 24) dX2_take_0 (by decide) ?_
  refine v_ist2 dX2_take_2 (by decide) ?_
  refine v_ild2 dX2_take_3 ?_
  refine v_if_lt (tgt := 45) dX2_take_4 (by decide) (fun h4 => absurd h4 (by decide)) (fun h4 => ?_)
  refine v_ald0 dX2_take_7 ?_
  refine v_geti dX2_take_8 gX2_26 sh_33 rfl ?_
  refine v_eq (show Mz 33 1 = nI (n + 0) from hn) ?_
  refine v_bipushN (n := 96) dX2_take_11 (by decide) ?_
  refine v_icmpN_ge (tgt := 45) dX2_take_13 (by decide) (by omega) (by omega) (fun h13 => absurd h13 (by omega)) (fun h13 => ?_)
  refine v_ald0 dX2_take_16 ?_
  refine v_getr dX2_take_17 gX2_9 sh_33 rfl ?_
  refine v_ald0 dX2_take_20 ?_
  refine v_geti dX2_take_21 gX2_26 sh_33 rfl ?_
  refine v_eq (show Mz 33 1 = nI (n + 0) from hn) ?_
  refine v_ild1 dX2_take_24 ?_
  refine v_ild2 dX2_take_25 ?_
  refine v_eq (show nI 24 = nI 24 from by decide) ?_
  refine v_ishr dX2_take_26 ?_
  refine v_i2b dX2_take_27 ?_
  refine v_bastN dX2_take_28 sh_34 (by omega) (by decide) ?_
  refine v_ald0 dX2_take_29 ?_
  refine v_dup dX2_take_30 ?_
  refine v_geti dX2_take_31 gX2_26 sh_33 rfl ?_
  refine v_eq (show (wr Mz 34 (n + 0) _) 33 1 = nI (n + 0) from by rw [wr_ne (by decide)]; exact hn) ?_
  refine v_iconstN (n := 1) dX2_take_34 ?_
  refine v_iaddN dX2_take_35 ?_
  refine v_puti dX2_take_36 pX2_26 sh_33 rfl rfl rfl ?_
  refine v_iinc2 dX2_take_39 (by decide) ?_
  refine v_goto (tgt := 3) dX2_take_42 (by decide) ?_
  refine v_ild2 dX2_take_3 ?_
  refine v_if_lt (tgt := 45) dX2_take_4 (by decide) (fun h4 => absurd h4 (by decide)) (fun h4 => ?_)
  refine v_ald0 dX2_take_7 ?_
  refine v_geti dX2_take_8 gX2_26 sh_33 rfl ?_
  refine v_eq (show (wr (wr Mz 34 (n + 0) (vp_nar .byte (x >>> (nI 24 &&& 31)).toInt8.toInt32)) 33 1 (nI (n + 0 + 1))) 33 1 = nI (n + 1) from by simp [wr, wa, upd]) ?_
  refine v_bipushN (n := 96) dX2_take_11 (by decide) ?_
  refine v_icmpN_ge (tgt := 45) dX2_take_13 (by decide) (by omega) (by omega) (fun h13 => absurd h13 (by omega)) (fun h13 => ?_)
  refine v_ald0 dX2_take_16 ?_
  refine v_getr dX2_take_17 gX2_9 sh_33 rfl ?_
  refine v_ald0 dX2_take_20 ?_
  refine v_geti dX2_take_21 gX2_26 sh_33 rfl ?_
  refine v_eq (show (wr (wr Mz 34 (n + 0) (vp_nar .byte (x >>> (nI 24 &&& 31)).toInt8.toInt32)) 33 1 (nI (n + 0 + 1))) 33 1 = nI (n + 1) from by simp [wr, wa, upd]) ?_
  refine v_ild1 dX2_take_24 ?_
  refine v_ild2 dX2_take_25 ?_
  refine v_eq (show nI 24 + Int32.ofInt (-8) = nI 16 from by decide) ?_
  refine v_ishr dX2_take_26 ?_
  refine v_i2b dX2_take_27 ?_
  refine v_bastN dX2_take_28 sh_34 (by omega) (by decide) ?_
  refine v_ald0 dX2_take_29 ?_
  refine v_dup dX2_take_30 ?_
  refine v_geti dX2_take_31 gX2_26 sh_33 rfl ?_
  refine v_eq (show (wr (wr (wr Mz 34 (n + 0) (vp_nar .byte (x >>> (nI 24 &&& 31)).toInt8.toInt32)) 33 1 (nI (n + 0 + 1))) 34 (n + 1) _) 33 1 = nI (n + 1) from by simp [wr, wa, upd]) ?_
  refine v_iconstN (n := 1) dX2_take_34 ?_
  refine v_iaddN dX2_take_35 ?_
  refine v_puti dX2_take_36 pX2_26 sh_33 rfl rfl rfl ?_
  refine v_iinc2 dX2_take_39 (by decide) ?_
  refine v_goto (tgt := 3) dX2_take_42 (by decide) ?_
  refine v_ild2 dX2_take_3 ?_
  refine v_if_lt (tgt := 45) dX2_take_4 (by decide) (fun h4 => absurd h4 (by decide)) (fun h4 => ?_)
  refine v_ald0 dX2_take_7 ?_
  refine v_geti dX2_take_8 gX2_26 sh_33 rfl ?_
  refine v_eq (show (wr (wr (wr (wr Mz 34 (n + 0) (vp_nar .byte (x >>> (nI 24 &&& 31)).toInt8.toInt32)) 33 1 (nI (n + 0 + 1))) 34 (n + 1) (vp_nar .byte (x >>> (nI 16 &&& 31)).toInt8.toInt32)) 33 1 (nI (n + 1 + 1))) 33 1 = nI (n + 2) from by simp [wr, wa, upd]) ?_
  refine v_bipushN (n := 96) dX2_take_11 (by decide) ?_
  refine v_icmpN_ge (tgt := 45) dX2_take_13 (by decide) (by omega) (by omega) (fun h13 => absurd h13 (by omega)) (fun h13 => ?_)
  refine v_ald0 dX2_take_16 ?_
  refine v_getr dX2_take_17 gX2_9 sh_33 rfl ?_
  refine v_ald0 dX2_take_20 ?_
  refine v_geti dX2_take_21 gX2_26 sh_33 rfl ?_
  refine v_eq (show (wr (wr (wr (wr Mz 34 (n + 0) (vp_nar .byte (x >>> (nI 24 &&& 31)).toInt8.toInt32)) 33 1 (nI (n + 0 + 1))) 34 (n + 1) (vp_nar .byte (x >>> (nI 16 &&& 31)).toInt8.toInt32)) 33 1 (nI (n + 1 + 1))) 33 1 = nI (n + 2) from by simp [wr, wa, upd]) ?_
  refine v_ild1 dX2_take_24 ?_
  refine v_ild2 dX2_take_25 ?_
  refine v_eq (show nI 24 + Int32.ofInt (-8) + Int32.ofInt (-8) = nI 8 from by decide) ?_
  refine v_ishr dX2_take_26 ?_
  refine v_i2b dX2_take_27 ?_
  refine v_bastN dX2_take_28 sh_34 (by omega) (by decide) ?_
  refine v_ald0 dX2_take_29 ?_
  refine v_dup dX2_take_30 ?_
  refine v_geti dX2_take_31 gX2_26 sh_33 rfl ?_
  refine v_eq (show (wr (wr (wr (wr (wr Mz 34 (n + 0) (vp_nar .byte (x >>> (nI 24 &&& 31)).toInt8.toInt32)) 33 1 (nI (n + 0 + 1))) 34 (n + 1) (vp_nar .byte (x >>> (nI 16 &&& 31)).toInt8.toInt32)) 33 1 (nI (n + 1 + 1))) 34 (n + 2) _) 33 1 = nI (n + 2) from by simp [wr, wa, upd]) ?_
  refine v_iconstN (n := 1) dX2_take_34 ?_
  refine v_iaddN dX2_take_35 ?_
  refine v_puti dX2_take_36 pX2_26 sh_33 rfl rfl rfl ?_
  refine v_iinc2 dX2_take_39 (by decide) ?_
  refine v_goto (tgt := 3) dX2_take_42 (by decide) ?_
  refine v_ild2 dX2_take_3 ?_
  refine v_if_lt (tgt := 45) dX2_take_4 (by decide) (fun h4 => absurd h4 (by decide)) (fun h4 => ?_)
  refine v_ald0 dX2_take_7 ?_
  refine v_geti dX2_take_8 gX2_26 sh_33 rfl ?_
  refine v_eq (show (wr (wr (wr (wr (wr (wr Mz 34 (n + 0) (vp_nar .byte (x >>> (nI 24 &&& 31)).toInt8.toInt32)) 33 1 (nI (n + 0 + 1))) 34 (n + 1) (vp_nar .byte (x >>> (nI 16 &&& 31)).toInt8.toInt32)) 33 1 (nI (n + 1 + 1))) 34 (n + 2) (vp_nar .byte (x >>> (nI 8 &&& 31)).toInt8.toInt32)) 33 1 (nI (n + 2 + 1))) 33 1 = nI (n + 3) from by simp [wr, wa, upd]) ?_
  refine v_bipushN (n := 96) dX2_take_11 (by decide) ?_
  refine v_icmpN_ge (tgt := 45) dX2_take_13 (by decide) (by omega) (by omega) (fun h13 => absurd h13 (by omega)) (fun h13 => ?_)
  refine v_ald0 dX2_take_16 ?_
  refine v_getr dX2_take_17 gX2_9 sh_33 rfl ?_
  refine v_ald0 dX2_take_20 ?_
  refine v_geti dX2_take_21 gX2_26 sh_33 rfl ?_
  refine v_eq (show (wr (wr (wr (wr (wr (wr Mz 34 (n + 0) (vp_nar .byte (x >>> (nI 24 &&& 31)).toInt8.toInt32)) 33 1 (nI (n + 0 + 1))) 34 (n + 1) (vp_nar .byte (x >>> (nI 16 &&& 31)).toInt8.toInt32)) 33 1 (nI (n + 1 + 1))) 34 (n + 2) (vp_nar .byte (x >>> (nI 8 &&& 31)).toInt8.toInt32)) 33 1 (nI (n + 2 + 1))) 33 1 = nI (n + 3) from by simp [wr, wa, upd]) ?_
  refine v_ild1 dX2_take_24 ?_
  refine v_ild2 dX2_take_25 ?_
  refine v_eq (show nI 24 + Int32.ofInt (-8) + Int32.ofInt (-8) + Int32.ofInt (-8) = nI 0 from by decide) ?_
  refine v_ishr dX2_take_26 ?_
  refine v_i2b dX2_take_27 ?_
  refine v_bastN dX2_take_28 sh_34 (by omega) (by decide) ?_
  refine v_ald0 dX2_take_29 ?_
  refine v_dup dX2_take_30 ?_
  refine v_geti dX2_take_31 gX2_26 sh_33 rfl ?_
  refine v_eq (show (wr (wr (wr (wr (wr (wr (wr Mz 34 (n + 0) (vp_nar .byte (x >>> (nI 24 &&& 31)).toInt8.toInt32)) 33 1 (nI (n + 0 + 1))) 34 (n + 1) (vp_nar .byte (x >>> (nI 16 &&& 31)).toInt8.toInt32)) 33 1 (nI (n + 1 + 1))) 34 (n + 2) (vp_nar .byte (x >>> (nI 8 &&& 31)).toInt8.toInt32)) 33 1 (nI (n + 2 + 1))) 34 (n + 3) _) 33 1 = nI (n + 3) from by simp [wr, wa, upd]) ?_
  refine v_iconstN (n := 1) dX2_take_34 ?_
  refine v_iaddN dX2_take_35 ?_
  refine v_puti dX2_take_36 pX2_26 sh_33 rfl rfl rfl ?_
  refine v_iinc2 dX2_take_39 (by decide) ?_
  refine v_goto (tgt := 3) dX2_take_42 (by decide) ?_
  refine v_ild2 dX2_take_3 ?_
  refine v_if_lt (tgt := 45) dX2_take_4 (by decide) (fun h4 => ?_) (fun h4 => absurd h4 (by decide))
  exact v_vret dX2_take_45 rfl (⟨fun a h1 h2 => by simp [wr, wa, h1, h2], by simp [wr, wa, upd], fun j hj => by simp [wr, wa, upd, hj], fun i hi => tk_out hi, fun j hj => tk_in hj⟩)
def tpF (tp : Nat → Nat) (n : Nat) (a b c : Int32) : Nat → Nat := fun i => if i < n then tp i else if i < n + 4 then byN a (i - n) else if i < n + 8 then byN b (i - n - 4) else byN c (i - n - 8)
theorem tpF_lt {tp : Nat → Nat} {n : Nat} {a b c : Int32} {i : Nat} (h : i < n → tp i < 256) : tpF tp n a b c i < 256 := by
  unfold tpF
  by_cases h1 : i < n
  · rw [if_pos h1]; exact h h1
  · rw [if_neg h1]
    by_cases h2 : i < n + 4
    · rw [if_pos h2]; exact byN_lt _ _
    · rw [if_neg h2]
      by_cases h3 : i < n + 8
      · rw [if_pos h3]; exact byN_lt _ _
      · rw [if_neg h3]; exact byN_lt _ _
theorem TkP3 {A B C D : mm} {tp : Nat → Nat} {n : Nat} {a b c : Int32} (hT : TpC A tp n) (h96 : n + 12 ≤ 96) (h1 : TkP A B n a) (h2 : TkP B C (n + 4) b) (h3 : TkP C D (n + 4 + 4) c) : TpC D (tpF tp n a b c) (n + 12) := by
  refine ⟨h3.2.1, h96, fun i hi => ⟨?_, tpF_lt (fun q => (hT.2.2 i q).2)⟩⟩
  unfold tpF
  by_cases e1 : i < n
  · rw [if_pos e1, h3.2.2.2.1 i (by omega), h2.2.2.2.1 i (by omega), h1.2.2.2.1 i e1]; exact (hT.2.2 i e1).1
  · rw [if_neg e1]
    by_cases e2 : i < n + 4
    · rw [if_pos e2, h3.2.2.2.1 i (by omega), h2.2.2.2.1 i (by omega)]
      have := h1.2.2.2.2 (i - n) (by omega)
      rwa [show n + (i - n) = i by omega] at this
    · rw [if_neg e2]
      by_cases e3 : i < n + 8
      · rw [if_pos e3, h3.2.2.2.1 i (by omega)]
        have := h2.2.2.2.2 (i - n - 4) (by omega)
        rwa [show n + 4 + (i - n - 4) = i by omega] at this
      · rw [if_neg e3]
        have := h3.2.2.2.2 (i - n - 8) (by omega)
        rwa [show n + 4 + 4 + (i - n - 8) = i by omega] at this
def R_feed (n : Nat) : Int32 := if n + 12 ≤ 96 then nI (n + 12) else cFULL
def F_feed (tp : Nat → Nat) (n : Nat) (a b c : Int32) : Nat → Nat := if n + 12 ≤ 96 then tpF tp n a b c else tp
def N_feed (n : Nat) : Nat := if n + 12 ≤ 96 then n + 12 else n
def FrF (A M : mm) : Prop := (∀ a, a ≠ 33 → a ≠ 34 → M a = A a) ∧ ∀ j, j ≠ 1 → M 33 j = A 33 j
set_option maxRecDepth 100000 in
set_option maxHeartbeats 4000000 in
theorem aX_feed (E : ev) (Mz : mm) {a b c : Int32} {tp : Nat → Nat} {n : Nat} (hT : TpC Mz tp n) : Ct E 1 yX6_feed cX6_feed 4 (some .int) [.inr 0, .inl a, .inl b, .inl c] Mz (qI E (fun r M' => r = R_feed n ∧ TpC M' (F_feed tp n a b c) (N_feed n) ∧ FrF Mz M')) := by
  refine ct_of (by decide) (Nat.le_of_ble_eq_true rfl) ?_
  show V E 1 _ _ _ _ _ 0 [some (.inr 0), some (.inl a), some (.inl b), some (.inl c)] [] Mz
  have hn96 := hT.2.1
  refine v_ald0 dX6_feed_0 ?_
  refine v_getr dX6_feed_1 gX6_19 sh_0 rfl ?_
  refine v_geti dX6_feed_4 gX6_218 sh_33 rfl ?_
  refine v_eq (hT.1) ?_
  refine v_bipushN (n := 12) dX6_feed_7 (by decide) ?_
  refine v_iaddN dX6_feed_9 ?_
  refine v_bipushN (n := 96) dX6_feed_10 (by decide) ?_
  refine v_icmpN_le (tgt := 18) dX6_feed_12 (by decide) (by omega) (by omega) (fun h12 => ?_) (fun h12 => ?_)
  · refine v_ald0 dX6_feed_18 ?_
    refine v_getr dX6_feed_19 gX6_19 sh_0 rfl ?_
    refine v_ild1 dX6_feed_22 ?_
    refine v_callVv (kR_take E Mz hT.1 (by omega)) dX6_feed_23 cX6_221 rfl sh_33 rfl (by decide) (Nat.le_of_ble_eq_true rfl) rfl (fun M1z hq1 => ?_)
    refine v_ald0 dX6_feed_26 ?_
    refine v_getr dX6_feed_27 gX6_19 sh_0 rfl ?_
    refine v_ild2 dX6_feed_30 ?_
    refine v_callVv (kR_take E M1z hq1.2.1 (by omega)) dX6_feed_31 cX6_221 rfl sh_33 rfl (by decide) (Nat.le_of_ble_eq_true rfl) rfl (fun M2z hq2 => ?_)
    refine v_ald0 dX6_feed_34 ?_
    refine v_getr dX6_feed_35 gX6_19 sh_0 rfl ?_
    refine v_ild3 dX6_feed_38 ?_
    refine v_callVv (kR_take E M2z hq2.2.1 (by omega)) dX6_feed_39 cX6_221 rfl sh_33 rfl (by decide) (Nat.le_of_ble_eq_true rfl) rfl (fun M3z hq3 => ?_)
    refine v_ald0 dX6_feed_42 ?_
    refine v_getr dX6_feed_43 gX6_19 sh_0 rfl ?_
    refine v_geti dX6_feed_46 gX6_218 sh_33 rfl ?_
    refine v_eq (show M3z 33 1 = nI (n + 12) from hq3.2.1) ?_
    exact v_iret dX6_feed_49 rfl (⟨by unfold R_feed; rw [if_pos (by omega)], by unfold F_feed N_feed; rw [if_pos (by omega), if_pos (by omega)]; exact TkP3 hT (by omega) hq1 hq2 hq3, fun a h1 h2 => by rw [hq3.1 a h1 h2, hq2.1 a h1 h2, hq1.1 a h1 h2], fun j hj => by rw [hq3.2.2.1 j hj, hq2.2.2.1 j hj, hq1.2.2.1 j hj]⟩)
  · refine v_ldc dX6_feed_15 kX6_72 ?_
    exact v_iret dX6_feed_17 rfl (⟨by unfold R_feed; rw [if_neg (by omega)], by unfold F_feed N_feed; rw [if_neg (by omega), if_neg (by omega)]; exact hT, fun _ _ _ => rfl, fun _ _ => rfl⟩)
set_option maxRecDepth 100000 in
set_option maxHeartbeats 4000000 in
theorem kT_over (E : ev) (Mz : mm) {T : Nat} (hT : T < 14) : Ct E 2 yX5_takeOver cX5_takeOver 2 none [.inr (5 + 2 * T), .inr 35] Mz (qV E (fun M' => M' (5 + 2 * T) 0 = Mz 35 0 ∧ M' (5 + 2 * T) 1 = Mz 35 1 ∧ M' (5 + 2 * T) 2 = Mz 35 2 ∧ (∀ i, i < 96 → M' (5 + 2 * T + 1) i = Mz 36 i) ∧ ∀ a, a ≠ 5 + 2 * T → a ≠ 5 + 2 * T + 1 → M' a = Mz a)) := by
  refine ct_of (by decide) (Nat.le_of_ble_eq_true rfl) ?_
  show V E 2 _ _ _ _ _ 0 [some (.inr (5 + 2 * T)), some (.inr 35)] [] Mz
  have ht := TB.of hT
  refine v_ald0 dX5_takeOver_0 ?_
  refine v_ald1 dX5_takeOver_1 ?_
  refine v_geti dX5_takeOver_2 gX5_15 sh_35 rfl ?_
  refine v_puti dX5_takeOver_5 pX5_15 (shT ht) rfl rfl rfl ?_
  refine v_ald0 dX5_takeOver_8 ?_
  refine v_ald1 dX5_takeOver_9 ?_
  refine v_geti dX5_takeOver_10 gX5_19 sh_35 rfl ?_
  refine v_eq (show wr Mz (5 + 2 * T) 0 (Mz 35 0) 35 1 = Mz 35 1 from by rw [wr_ne (by omega)]) ?_
  refine v_puti dX5_takeOver_13 pX5_19 (shT ht) rfl rfl rfl ?_
  refine v_ald0 dX5_takeOver_16 ?_
  refine v_ald1 dX5_takeOver_17 ?_
  refine v_geti dX5_takeOver_18 gX5_22 sh_35 rfl ?_
  refine v_eq (show wr (wr Mz (5 + 2 * T) 0 (Mz 35 0)) (5 + 2 * T) 1 (Mz 35 1) 35 2 = Mz 35 2 from by rw [wr_ne (by omega), wr_ne (by omega)]) ?_
  refine v_puti dX5_takeOver_21 pX5_22 (shT ht) rfl rfl rfl ?_
  refine v_ald1 dX5_takeOver_24 ?_
  refine v_getr dX5_takeOver_25 gX5_9 sh_35 rfl ?_
  refine v_iconstN (n := 0) dX5_takeOver_28 ?_
  refine v_ald0 dX5_takeOver_29 ?_
  refine v_getr dX5_takeOver_30 gX5_9 (shT ht) rfl ?_
  refine v_iconstN (n := 0) dX5_takeOver_33 ?_
  refine v_bipushN (n := 96) dX5_takeOver_34 (by decide) ?_
  refine v_acopy dX5_takeOver_36 aX5_25 (by decide) (Nat.le_of_ble_eq_true rfl) sh_36 (shT1 ht) (by decide) (by decide) (by decide) (by decide) ?_
  exact v_vret dX5_takeOver_39 rfl (⟨by rw [wa_ne (by omega), wr_at, pk_un (by decide), wr_at, pk_un (by decide), wr_at, pk_us], by rw [wa_ne (by omega), wr_at, pk_un (by decide), wr_at, pk_us], by rw [wa_ne (by omega), wr_at, pk_us], fun i hi => by rw [wa_at, pk_cpy_in (Nat.zero_le _) (by omega), wr_ne (by omega), wr_ne (by omega), wr_ne (by omega)]; simp, fun a h1 h2 => by rw [wa_ne h2, wr_ne h1, wr_ne h1, wr_ne h1]⟩)
def R_text (tp : Nat → Nat) (n T : Nat) : Int32 := match PT tp n with
  | (none, p) => -100 - nI p
  | (some _, _) => if T = 14 then cFULL else nI T
/-- what a text told makes of the class's memory -/
def TxtC (A M : mm) (key T : Nat) (res : Option (List Int32 × Nat) × Nat) : Prop := M 33 1 = nI 0 ∧ match res with
  | (none, _) => ∀ a, a ≠ 33 → a ≠ 35 → a ≠ 36 → a ≠ 37 → M a = A a
  | (some (u, lv), _) => if T = 14 then (∀ a, a ≠ 33 → a ≠ 35 → a ≠ 36 → a ≠ 37 → M a = A a) else (M (5 + 2 * T) 0 = nI key ∧ M (5 + 2 * T) 1 = nI lv ∧ M (5 + 2 * T) 2 = nI u.length ∧ (∀ i, i < u.length → M (5 + 2 * T + 1) i = xsO u i) ∧ M 46 = upd (A 46) key (nI T) ∧ M 38 = upd (A 38) 14 (nI (T + 1)) ∧ ∀ a, a ≠ 33 → a ≠ 35 → a ≠ 36 → a ≠ 37 → a ≠ 5 + 2 * T → a ≠ 5 + 2 * T + 1 → a ≠ 46 → a ≠ 38 → M a = A a)
theorem tx_end {A M1 M2 : mm} {key T lv : Nat} {u : List Int32} (hT : T < 14) (hu : u.length ≤ 96) (h35 : M1 35 0 = nI key) (h351 : M1 35 1 = nI lv) (h352 : M1 35 2 = nI u.length) (h36 : rp (M1 36) u) (hF : FrQ A M1)
    (q1 : M2 (5 + 2 * T) 0 = wr M1 33 1 (nI 0) 35 0) (q2 : M2 (5 + 2 * T) 1 = wr M1 33 1 (nI 0) 35 1) (q3 : M2 (5 + 2 * T) 2 = wr M1 33 1 (nI 0) 35 2) (qc : ∀ i, i < 96 → M2 (5 + 2 * T + 1) i = wr M1 33 1 (nI 0) 36 i) (q5 : ∀ a, a ≠ 5 + 2 * T → a ≠ 5 + 2 * T + 1 → M2 a = wr M1 33 1 (nI 0) a) :
    (wr (wr M2 46 key (nI T)) 38 14 (nI (T + 1))) (5 + 2 * T) 0 = nI key ∧ (wr (wr M2 46 key (nI T)) 38 14 (nI (T + 1))) (5 + 2 * T) 1 = nI lv ∧ (wr (wr M2 46 key (nI T)) 38 14 (nI (T + 1))) (5 + 2 * T) 2 = nI u.length ∧ (∀ i, i < u.length → (wr (wr M2 46 key (nI T)) 38 14 (nI (T + 1))) (5 + 2 * T + 1) i = xsO u i) ∧ (wr (wr M2 46 key (nI T)) 38 14 (nI (T + 1))) 46 = upd (A 46) key (nI T) ∧ (wr (wr M2 46 key (nI T)) 38 14 (nI (T + 1))) 38 = upd (A 38) 14 (nI (T + 1)) ∧ ∀ a, a ≠ 33 → a ≠ 35 → a ≠ 36 → a ≠ 37 → a ≠ 5 + 2 * T → a ≠ 5 + 2 * T + 1 → a ≠ 46 → a ≠ 38 → (wr (wr M2 46 key (nI T)) 38 14 (nI (T + 1))) a = A a := by
  refine ⟨?_, ?_, ?_, fun i hi => ?_, ?_, ?_, fun a h1 h2 h3 h4 h5 h6 h7 h8 => ?_⟩
  · rw [wr_ne (by omega), wr_ne (by omega), q1, wr_ne (by decide)]; exact h35
  · rw [wr_ne (by omega), wr_ne (by omega), q2, wr_ne (by decide)]; exact h351
  · rw [wr_ne (by omega), wr_ne (by omega), q3, wr_ne (by decide)]; exact h352
  · rw [wr_ne (by omega), wr_ne (by omega), qc i (by omega), wr_ne (by decide)]; exact h36 i hi
  · rw [wr_ne (by decide), wr_at, q5 46 (by omega) (by omega), wr_ne (by decide), hF.1 46 (by decide) (by decide) (by decide) (by decide)]
  · rw [wr_at, wr_ne (by decide), q5 38 (by omega) (by omega), wr_ne (by decide), hF.1 38 (by decide) (by decide) (by decide) (by decide)]
  · rw [wr_ne h8, wr_ne h7, q5 a h5 h6, wr_ne h1]; exact hF.1 a h1 h2 h3 h4
theorem PT_le {tp : Nat → Nat} {n p : Nat} (h : PT tp n = (none, p)) : p ≤ n := by
  have key : ∀ (f k : Nat) (we : Int32) (q : pst), k ≤ n → ∀ ky, PL tp n ky f k we q = (none, p) → p ≤ n := by
    intro f
    induction f with
    | zero => intro k we q hk ky e; rw [PL] at e; cases e; exact Nat.le_refl _
    | succ f ih =>
      intro k we q hk ky e
      obtain ⟨-, n1, n2, n3, -⟩ := nxt_ok tp we hk
      rw [PL] at e
      by_cases h0 : (nxt tp n k we).1 = 0
      · rw [if_pos h0] at e
        by_cases h1 : q.1 = false ∧ ct 40 q.2.1 = 0
        · rw [if_pos h1] at e; cases e
        · rw [if_neg h1] at e; cases e; omega
      · rw [if_neg h0] at e
        cases hs : pS tp ky (nxt tp n k we) q with
        | none => rw [hs] at e; cases e; omega
        | some q' => rw [hs] at e; exact ih _ _ q' n3 ky e
  obtain ⟨-, n1, n2, n3, -⟩ := nxt_ok tp (n := n) (k := 0) (-1) (Nat.zero_le _)
  unfold PT at h
  by_cases e : keyT tp (nxt tp n 0 (-1)) = 3
  · rw [if_pos e] at h; cases h; omega
  · rw [if_neg e] at h; exact key 96 _ _ _ n3 _ h
set_option maxRecDepth 100000 in
set_option maxHeartbeats 4000000 in
theorem aX_text (E : ev) (Mz : mm) {tp : Nat → Nat} {n T : Nat} (hT : TpC Mz tp n) (hTn : Mz 38 14 = nI T) (hT15 : T ≤ 14) : Ct E 7 yX6_text cX6_text 3 (some .int) [.inr 0] Mz (qI E (fun r M' => r = R_text tp n T ∧ TxtC Mz M' (keyT tp (nxt tp n 0 (-1))) T (PT tp n))) := by
  refine ct_of (by decide) (Nat.le_of_ble_eq_true rfl) ?_
  show V E 7 _ _ _ _ _ 0 [some (.inr 0), none, none] [] Mz
  have hn96 := hT.2.1
  rcases hpt : PT tp n with ⟨q, p⟩
  cases q with
  | none =>
    have hp := PT_le hpt
    refine v_ald0 dX6_text_0 ?_
    refine v_getr dX6_text_1 gX6_19 sh_0 rfl ?_
    refine v_callVi (kR_fault E Mz hT) dX6_text_4 cX6_224 rfl sh_33 rfl (by decide) (Nat.le_of_ble_eq_true rfl) rfl (fun r M1z hq => ?_)
    rw [hpt] at hq
    obtain ⟨hr1, hF⟩ := hq
    rw [hr1]
    refine v_ist1 dX6_text_7 (by decide) ?_
    refine v_ald0 dX6_text_8 ?_
    refine v_getr dX6_text_9 gX6_19 sh_0 rfl ?_
    refine v_iconstN (n := 0) dX6_text_12 ?_
    refine v_puti dX6_text_13 pX6_218 sh_33 rfl rfl rfl ?_
    refine v_ild1 dX6_text_16 ?_
    refine v_if_lt (tgt := 25) dX6_text_17 (by decide) (fun h17 => absurd h17 (nI_pos (by omega))) (fun h17 => ?_)
    refine v_bipush (x := -100) dX6_text_20 (by decide) ?_
    refine v_ild1 dX6_text_22 ?_
    refine v_isub dX6_text_23 ?_
    exact v_iret dX6_text_24 rfl (⟨by unfold R_text; rw [hpt], by rw [wr_at, pk_us], fun a h1 h2 h3 h4 => by rw [wr_ne h1]; exact hF.1 a h1 h2 h3 h4⟩)
  | some ul =>
    obtain ⟨u, lv⟩ := ul
    obtain ⟨hk3, hok⟩ := PT_ok hT.2.1 hpt
    have hu96 : u.length ≤ 96 := hok.2.1.2.1
    obtain ⟨key, hke⟩ : ∃ key, key = keyT tp (nxt tp n 0 (-1)) := ⟨_, rfl⟩
    rw [← hke] at hk3 ⊢
    by_cases h14 : T = 14
    · have ht := TB.of (show 0 < 14 by decide)
      refine v_ald0 dX6_text_0 ?_
      refine v_getr dX6_text_1 gX6_19 sh_0 rfl ?_
      refine v_callVi (kR_fault E Mz hT) dX6_text_4 cX6_224 rfl sh_33 rfl (by decide) (Nat.le_of_ble_eq_true rfl) rfl (fun r M1z hq => ?_)
      rw [hpt] at hq
      obtain ⟨hr1, h35, h351, h352, h3r, hF⟩ := hq
      rw [hr1]
      rw [← hke] at h35
      refine v_ist1 dX6_text_7 (by decide) ?_
      refine v_ald0 dX6_text_8 ?_
      refine v_getr dX6_text_9 gX6_19 sh_0 rfl ?_
      refine v_iconstN (n := 0) dX6_text_12 ?_
      refine v_puti dX6_text_13 pX6_218 sh_33 rfl rfl rfl ?_
      refine v_ild1 dX6_text_16 ?_
      refine v_if_lt (tgt := 25) dX6_text_17 (by decide) (fun h17 => ?_) (fun h17 => absurd h17 (by decide))
      refine v_ald0 dX6_text_25 ?_
      refine v_getr dX6_text_26 gX6_28 sh_0 rfl ?_
      refine v_geti dX6_text_29 gX6_227 sh_38 rfl ?_
      refine v_eq (show (wr M1z 33 1 (nI 0)) 38 14 = nI T from by rw [wr_ne (by decide), hF.1 38 (by decide) (by decide) (by decide) (by decide)]; exact hTn) ?_
      refine v_ist2 dX6_text_32 (by decide) ?_
      refine v_ild2 dX6_text_33 ?_
      refine v_bipushN (n := 14) dX6_text_34 (by decide) ?_
      refine v_icmpN_lt (tgt := 42) dX6_text_36 (by decide) (by omega) (by omega) (fun h36 => absurd h36 (by omega)) (fun h36 => ?_)
      refine v_ldc dX6_text_39 kX6_72 ?_
      exact v_iret dX6_text_41 rfl (⟨by unfold R_text; rw [hpt]; exact (if_pos h14).symm, by rw [wr_at, pk_us], by show (if T = 14 then _ else _); rw [if_pos h14]; exact fun a h1 h2 h3 h4 => by rw [wr_ne h1]; exact hF.1 a h1 h2 h3 h4⟩)
    · have hT14 : T < 14 := by omega
      have ht := TB.of hT14
      refine v_ald0 dX6_text_0 ?_
      refine v_getr dX6_text_1 gX6_19 sh_0 rfl ?_
      refine v_callVi (kR_fault E Mz hT) dX6_text_4 cX6_224 rfl sh_33 rfl (by decide) (Nat.le_of_ble_eq_true rfl) rfl (fun r M1z hq => ?_)
      rw [hpt] at hq
      obtain ⟨hr1, h35, h351, h352, h3r, hF⟩ := hq
      rw [hr1]
      rw [← hke] at h35
      refine v_ist1 dX6_text_7 (by decide) ?_
      refine v_ald0 dX6_text_8 ?_
      refine v_getr dX6_text_9 gX6_19 sh_0 rfl ?_
      refine v_iconstN (n := 0) dX6_text_12 ?_
      refine v_puti dX6_text_13 pX6_218 sh_33 rfl rfl rfl ?_
      refine v_ild1 dX6_text_16 ?_
      refine v_if_lt (tgt := 25) dX6_text_17 (by decide) (fun h17 => ?_) (fun h17 => absurd h17 (by decide))
      refine v_ald0 dX6_text_25 ?_
      refine v_getr dX6_text_26 gX6_28 sh_0 rfl ?_
      refine v_geti dX6_text_29 gX6_227 sh_38 rfl ?_
      refine v_eq (show (wr M1z 33 1 (nI 0)) 38 14 = nI T from by rw [wr_ne (by decide), hF.1 38 (by decide) (by decide) (by decide) (by decide)]; exact hTn) ?_
      refine v_ist2 dX6_text_32 (by decide) ?_
      refine v_ild2 dX6_text_33 ?_
      refine v_bipushN (n := 14) dX6_text_34 (by decide) ?_
      refine v_icmpN_lt (tgt := 42) dX6_text_36 (by decide) (by omega) (by omega) (fun h36 => ?_) (fun h36 => absurd h36 (by omega))
      refine v_ald0 dX6_text_42 ?_
      refine v_getr dX6_text_43 gX6_10 sh_0 rfl ?_
      refine v_getr dX6_text_46 gX6_230 sh_1 rfl ?_
      refine v_ild2 dX6_text_49 ?_
      refine v_aaldN dX6_text_50 sh_2 rfl (by omega) (by decide) ?_
      refine v_ald0 dX6_text_51 ?_
      refine v_getr dX6_text_52 gX6_19 sh_0 rfl ?_
      refine v_getr dX6_text_55 gX6_233 sh_33 rfl ?_
      refine v_callVv (kT_over E (wr M1z 33 1 (nI 0)) (T := T) (by omega)) dX6_text_58 cX6_237 rfl (shT ht) rfl (by decide) (Nat.le_of_ble_eq_true rfl) rfl (fun M2z hq4 => ?_)
      obtain ⟨hq1, hq2, hq3, hqc, hq5⟩ := hq4
      refine v_ald0 dX6_text_61 ?_
      refine v_getr dX6_text_62 gX6_28 sh_0 rfl ?_
      refine v_getr dX6_text_65 gX6_209 sh_38 rfl ?_
      refine v_ald0 dX6_text_68 ?_
      refine v_getr dX6_text_69 gX6_19 sh_0 rfl ?_
      refine v_getr dX6_text_72 gX6_233 sh_33 rfl ?_
      refine v_geti dX6_text_75 gX6_242 sh_35 rfl ?_
      refine v_eq (show M2z 35 0 = nI key from by rw [hq5 35 (by omega) (by omega), wr_ne (by decide)]; exact h35) ?_
      refine v_ild2 dX6_text_78 ?_
      refine v_iastN dX6_text_79 sh_46 (by omega) (by decide) ?_
      refine v_ald0 dX6_text_80 ?_
      refine v_getr dX6_text_81 gX6_28 sh_0 rfl ?_
      refine v_ild2 dX6_text_84 ?_
      refine v_iconstN (n := 1) dX6_text_85 ?_
      refine v_iaddN dX6_text_86 ?_
      refine v_puti dX6_text_87 pX6_227 sh_38 rfl rfl rfl ?_
      refine v_ild2 dX6_text_90 ?_
      exact v_iret dX6_text_91 rfl (⟨by unfold R_text; rw [hpt]; exact (if_neg h14).symm, by rw [wr_ne (by decide), wr_ne (by decide), hq5 33 (by omega) (by omega), wr_at, pk_us], by show (if T = 14 then _ else _); rw [if_neg h14]; exact tx_end hT14 hu96 h35 h351 h352 h3r hF hq1 hq2 hq3 hqc hq5⟩)
