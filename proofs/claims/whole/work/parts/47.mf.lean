/-! feed, as the reference does it -/
def FrG (A M : mm) : Prop := (∀ a, a ≠ 92 → a ≠ 97 → M a = A a) ∧ ∀ j, j ≠ 6 → M 92 j = A 92 j
theorem tpF_0 {tp : Nat → Nat} {n k : Nat} {a b c : Int32} (h : k < 4) : tpF tp n a b c (n + k) = byN a (k % 4) := by
  unfold tpF
  rw [if_neg (by omega), if_pos (by omega)]
  congr 1; omega
theorem tpF_1 {tp : Nat → Nat} {n k : Nat} {a b c : Int32} (h : 4 ≤ k) (h2 : k < 8) : tpF tp n a b c (n + k) = byN b (k % 4) := by
  unfold tpF
  rw [if_neg (by omega), if_neg (by omega), if_pos (by omega)]
  congr 1; omega
theorem tpF_2 {tp : Nat → Nat} {n k : Nat} {a b c : Int32} (h : 8 ≤ k) (h2 : k < 12) : tpF tp n a b c (n + k) = byN c (k % 4) := by
  unfold tpF
  rw [if_neg (by omega), if_neg (by omega), if_neg (by omega)]
  congr 1; omega
set_option maxRecDepth 100000 in
set_option maxHeartbeats 4000000 in
theorem aM_feed (E : ev) (Mz : mm) {a b c : Int32} {tp : Nat → Nat} {n : Nat} (hT : TpM Mz tp n) : Ct E 1 yX7_feed cX7_feed 6 (some .int) [.inr 92, .inl a, .inl b, .inl c] Mz (qI E (fun r M' => r = R_feed n ∧ TpM M' (F_feed tp n a b c) (N_feed n) ∧ FrG Mz M')) := by
  refine ct_of (by decide) (Nat.le_of_ble_eq_true rfl) ?_
  show V E 1 _ _ _ _ _ 0 [some (.inr 92), some (.inl a), some (.inl b), some (.inl c), none, none] [] Mz
  have hn96 := hT.2.1
  refine v_ald0 dX7_feed_0 ?_
  refine v_geti dX7_feed_1 gX7_203 sh_92 rfl ?_
  refine v_eq (hT.1) ?_
  refine v_bipushN (n := 12) dX7_feed_4 (by decide) ?_
  refine v_iaddN dX7_feed_6 ?_
  refine v_bipushN (n := 96) dX7_feed_7 (by decide) ?_
  refine v_icmpN_le (tgt := 15) dX7_feed_9 (by decide) (by omega) (by omega) (fun h9 => ?_) (fun h9 => ?_)
  · refine v_iconstN (n := 0) dX7_feed_15 ?_
    refine v_ist4 dX7_feed_16 (by decide) ?_
    have h96 : n + 12 ≤ 96 := h9
    refine v_loopP (pc := 18) (fun k _ => [some (.inr 92), some (.inl a), some (.inl b), some (.inl c), some (.inl (nI k)), none]) (fun k Mk => (∀ x, x ≠ 97 → Mk x = Mz x) ∧ (∀ i, i < n → Mk 97 i = Mz 97 i) ∧ ∀ i, i < k → Mk 97 (n + i) = nI (tpF tp n a b c (n + i))) (12) (rfl) (⟨fun _ _ => rfl, fun _ _ => rfl, fun i hi => absurd hi (Nat.not_lt_zero _)⟩) (fun k Mk hk hM ih => ?_) (fun Mk hM => ?_)
    · refine v_ild4 dX7_feed_18 ?_
      refine v_bipushN (n := 12) dX7_feed_20 (by decide) ?_
      refine v_icmpN_ge (tgt := 84) dX7_feed_22 (by decide) (by omega) (by omega) (fun h22 => absurd h22 (by omega)) (fun h22 => ?_)
      refine v_ild4 dX7_feed_25 ?_
      refine v_iconstN (n := 4) dX7_feed_27 ?_
      refine v_icmpN_ge (tgt := 35) dX7_feed_28 (by decide) (by omega) (by omega) (fun h28 => ?_) (fun h28 => ?_)
      · refine v_ild4 dX7_feed_35 ?_
        refine v_bipushN (n := 8) dX7_feed_37 (by decide) ?_
        refine v_icmpN_ge (tgt := 46) dX7_feed_39 (by decide) (by omega) (by omega) (fun h39 => ?_) (fun h39 => ?_)
        · refine v_ild3 dX7_feed_46 ?_
          refine v_ist5 dX7_feed_47 (by decide) ?_
          refine v_ald0 dX7_feed_49 ?_
          refine v_getr dX7_feed_50 gX7_22 sh_92 rfl ?_
          refine v_ald0 dX7_feed_53 ?_
          refine v_geti dX7_feed_54 gX7_203 sh_92 rfl ?_
          refine v_eq (show Mk 92 6 = nI n from by rw [hM.1 92 (by decide)]; exact hT.1) ?_
          refine v_ild4 dX7_feed_57 ?_
          refine v_iaddN dX7_feed_59 ?_
          refine v_ild5 dX7_feed_60 ?_
          refine v_bipushN (n := 24) dX7_feed_62 (by decide) ?_
          refine v_bipushN (n := 8) dX7_feed_64 (by decide) ?_
          refine v_ild4 dX7_feed_66 ?_
          refine v_iconstN (n := 4) dX7_feed_68 ?_
          refine v_iremN dX7_feed_69 (by omega) (by omega) (by omega) ?_
          refine v_imulN dX7_feed_70 ?_
          refine v_isubN dX7_feed_71 (by omega) ?_
          refine v_ishr dX7_feed_72 ?_
          refine v_sipushN (n := 255) dX7_feed_73 (by decide +kernel) ?_
          refine v_iand dX7_feed_76 ?_
          refine v_eq (byN_n _ _) ?_
          refine v_iastN dX7_feed_77 sh_97 (by omega) (by decide) ?_
          refine v_iincN4 (n := 1) dX7_feed_78 (by decide) ?_
          refine v_goto (tgt := 18) dX7_feed_81 (by decide) ?_
          refine v_fg5 ?_
          refine ih _ ⟨fun x hx => by rw [wr_ne hx]; exact hM.1 x hx, fun i hi => by rw [wr_at, pk_un (by omega)]; exact hM.2.1 i hi, fun i hi => ?_⟩
          rw [wr_at]
          by_cases e : i = k
          · rw [e, pk_us, tpF_2 h39 hk]
          · rw [pk_un (by omega)]; exact hM.2.2 i (by omega)
        · refine v_ild2 dX7_feed_42 ?_
          refine v_goto (tgt := 47) dX7_feed_43 (by decide) ?_
          refine v_ist5 dX7_feed_47 (by decide) ?_
          refine v_ald0 dX7_feed_49 ?_
          refine v_getr dX7_feed_50 gX7_22 sh_92 rfl ?_
          refine v_ald0 dX7_feed_53 ?_
          refine v_geti dX7_feed_54 gX7_203 sh_92 rfl ?_
          refine v_eq (show Mk 92 6 = nI n from by rw [hM.1 92 (by decide)]; exact hT.1) ?_
          refine v_ild4 dX7_feed_57 ?_
          refine v_iaddN dX7_feed_59 ?_
          refine v_ild5 dX7_feed_60 ?_
          refine v_bipushN (n := 24) dX7_feed_62 (by decide) ?_
          refine v_bipushN (n := 8) dX7_feed_64 (by decide) ?_
          refine v_ild4 dX7_feed_66 ?_
          refine v_iconstN (n := 4) dX7_feed_68 ?_
          refine v_iremN dX7_feed_69 (by omega) (by omega) (by omega) ?_
          refine v_imulN dX7_feed_70 ?_
          refine v_isubN dX7_feed_71 (by omega) ?_
          refine v_ishr dX7_feed_72 ?_
          refine v_sipushN (n := 255) dX7_feed_73 (by decide +kernel) ?_
          refine v_iand dX7_feed_76 ?_
          refine v_eq (byN_n _ _) ?_
          refine v_iastN dX7_feed_77 sh_97 (by omega) (by decide) ?_
          refine v_iincN4 (n := 1) dX7_feed_78 (by decide) ?_
          refine v_goto (tgt := 18) dX7_feed_81 (by decide) ?_
          refine v_fg5 ?_
          refine ih _ ⟨fun x hx => by rw [wr_ne hx]; exact hM.1 x hx, fun i hi => by rw [wr_at, pk_un (by omega)]; exact hM.2.1 i hi, fun i hi => ?_⟩
          rw [wr_at]
          by_cases e : i = k
          · rw [e, pk_us, tpF_1 h28 h39]
          · rw [pk_un (by omega)]; exact hM.2.2 i (by omega)
      · refine v_ild1 dX7_feed_31 ?_
        refine v_goto (tgt := 47) dX7_feed_32 (by decide) ?_
        refine v_ist5 dX7_feed_47 (by decide) ?_
        refine v_ald0 dX7_feed_49 ?_
        refine v_getr dX7_feed_50 gX7_22 sh_92 rfl ?_
        refine v_ald0 dX7_feed_53 ?_
        refine v_geti dX7_feed_54 gX7_203 sh_92 rfl ?_
        refine v_eq (show Mk 92 6 = nI n from by rw [hM.1 92 (by decide)]; exact hT.1) ?_
        refine v_ild4 dX7_feed_57 ?_
        refine v_iaddN dX7_feed_59 ?_
        refine v_ild5 dX7_feed_60 ?_
        refine v_bipushN (n := 24) dX7_feed_62 (by decide) ?_
        refine v_bipushN (n := 8) dX7_feed_64 (by decide) ?_
        refine v_ild4 dX7_feed_66 ?_
        refine v_iconstN (n := 4) dX7_feed_68 ?_
        refine v_iremN dX7_feed_69 (by omega) (by omega) (by omega) ?_
        refine v_imulN dX7_feed_70 ?_
        refine v_isubN dX7_feed_71 (by omega) ?_
        refine v_ishr dX7_feed_72 ?_
        refine v_sipushN (n := 255) dX7_feed_73 (by decide +kernel) ?_
        refine v_iand dX7_feed_76 ?_
        refine v_eq (byN_n _ _) ?_
        refine v_iastN dX7_feed_77 sh_97 (by omega) (by decide) ?_
        refine v_iincN4 (n := 1) dX7_feed_78 (by decide) ?_
        refine v_goto (tgt := 18) dX7_feed_81 (by decide) ?_
        refine v_fg5 ?_
        refine ih _ ⟨fun x hx => by rw [wr_ne hx]; exact hM.1 x hx, fun i hi => by rw [wr_at, pk_un (by omega)]; exact hM.2.1 i hi, fun i hi => ?_⟩
        rw [wr_at]
        by_cases e : i = k
        · rw [e, pk_us, tpF_0 h28]
        · rw [pk_un (by omega)]; exact hM.2.2 i (by omega)
    · refine v_ild4 dX7_feed_18 ?_
      refine v_bipushN (n := 12) dX7_feed_20 (by decide) ?_
      refine v_icmpN_ge (tgt := 84) dX7_feed_22 (by decide) (by omega) (by omega) (fun h22 => ?_) (fun h22 => absurd h22 (by omega))
      refine v_ald0 dX7_feed_84 ?_
      refine v_dup dX7_feed_85 ?_
      refine v_geti dX7_feed_86 gX7_203 sh_92 rfl ?_
      refine v_eq (show Mk 92 6 = nI n from by rw [hM.1 92 (by decide)]; exact hT.1) ?_
      refine v_bipushN (n := 12) dX7_feed_89 (by decide) ?_
      refine v_iaddN dX7_feed_91 ?_
      refine v_puti dX7_feed_92 pX7_203 sh_92 rfl rfl rfl ?_
      refine v_ald0 dX7_feed_95 ?_
      refine v_geti dX7_feed_96 gX7_203 sh_92 rfl ?_
      refine v_eq (show wr Mk 92 6 (nI (n + 12)) 92 6 = nI (n + 12) from by rw [wr_at, pk_us]) ?_
      exact v_iret dX7_feed_99 rfl (by unfold R_feed F_feed N_feed; rw [if_pos h96, if_pos h96, if_pos h96]; exact ⟨rfl, ⟨by rw [wr_at, pk_us], by omega, fun i hi => by
          rw [wr_ne (by decide)]
          refine ⟨?_, tpF_lt (fun q => (hT.2.2 i q).2)⟩
          by_cases e : i < n
          · rw [hM.2.1 i e, (hT.2.2 i e).1]; unfold tpF; rw [if_pos e]
          · have := hM.2.2 (i - n) (by omega); rwa [show n + (i - n) = i by omega] at this⟩, fun x h1 h2 => by rw [wr_ne h1]; exact hM.1 x h2, fun j hj => by rw [wr_at, pk_un hj, hM.1 92 (by decide)]⟩)
  · refine v_ldc dX7_feed_12 kX7_120 ?_
    exact v_iret dX7_feed_14 rfl (by unfold R_feed F_feed N_feed; rw [if_neg (by omega), if_neg (by omega), if_neg (by omega)]; exact ⟨rfl, hT, fun _ _ _ => rfl, fun _ _ => rfl⟩)
