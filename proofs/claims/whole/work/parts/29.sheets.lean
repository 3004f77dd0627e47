/-! sheets: begun, marked, poured, read, copied -/
abbrev s3 : Type := (Nat → Int32) × (Nat → Nat) × (Nat → Nat → Int32)
def ShC3 (M : mm) (S : s3) : Prop := ShC M S.1 S.2.1 S.2.2
def ShM3 (M : mm) (S : s3) : Prop := ShM M S.1 S.2.1 S.2.2
def setS (S : s3) (i : Nat) (s : Int32) (n : Nat) (c : Nat → Int32) : s3 := (fun j => if j = i then s else S.1 j, fun j => if j = i then n else S.2.1 j, fun j => if j = i then c else S.2.2 j)
def soK (x : Int32) : Prop := x = -1 ∨ x = nI 0 ∨ x = nI 1
def FrS (M M' : mm) : Prop := ∀ a, ¬ (66 ≤ a ∧ a < 74) → M' a = M a
def FrZ (M M' : mm) : Prop := ∀ a, a ≠ 105 → a ≠ 106 → a ≠ 107 → a ≠ 112 → M' a = M a
theorem FrS.rf (M : mm) : FrS M M := fun _ _ => rfl
theorem FrZ.rf (M : mm) : FrZ M M := fun _ _ _ _ _ => rfl
theorem ShC.set {M M' : mm} {S : s3} {i n : Nat} {s : Int32} {c : Nat → Int32} (h : ShC M S.1 S.2.1 S.2.2) (hi : i < 4) (ho : ∀ a, a ≠ 66 + 2 * i → a ≠ 66 + 2 * i + 1 → M' a = M a) (h0 : M' (66 + 2 * i) 0 = s) (h1 : M' (66 + 2 * i) 1 = nI n) (hn : n ≤ 24) (hs : soK s) (hc : ∀ k, k < 24 → M' (66 + 2 * i + 1) k = c k) : ShC3 M' (setS S i s n c) := by
  intro j hj
  show M' (66 + 2 * j) 0 = (if j = i then s else S.1 j) ∧ M' (66 + 2 * j) 1 = nI (if j = i then n else S.2.1 j) ∧ ((if j = i then n else S.2.1 j) ≤ 24 ∧ soK (if j = i then s else S.1 j)) ∧ ∀ k, k < 24 → M' (66 + 2 * j + 1) k = (if j = i then c else S.2.2 j) k
  by_cases e : j = i
  · subst e
    simp only [if_true]
    exact ⟨h0, h1, ⟨hn, hs⟩, hc⟩
  · simp only [if_neg e]
    rw [ho (66 + 2 * j) (by omega) (by omega), ho (66 + 2 * j + 1) (by omega) (by omega)]
    exact h j hj
theorem ShM.set {M M' : mm} {S : s3} {i n : Nat} {s : Int32} {c : Nat → Int32} (h : ShM M S.1 S.2.1 S.2.2) (hi : i < 4) (h0 : ∀ j, j < 4 → M' 105 j = if j = i then s else M 105 j) (h1 : ∀ j, j < 4 → M' 106 j = if j = i then nI n else M 106 j) (hn : n ≤ 24) (hs : soK s) (hc : ∀ q, q < 96 → M' 107 q = if 24 * i ≤ q ∧ q < 24 * i + 24 then c (q - 24 * i) else M 107 q) : ShM3 M' (setS S i s n c) := by
  intro j hj
  show M' 105 j = (if j = i then s else S.1 j) ∧ M' 106 j = nI (if j = i then n else S.2.1 j) ∧ ((if j = i then n else S.2.1 j) ≤ 24 ∧ soK (if j = i then s else S.1 j)) ∧ ∀ k, k < 24 → M' 107 (24 * j + k) = (if j = i then c else S.2.2 j) k
  rw [h0 j hj, h1 j hj]
  by_cases e : j = i
  · subst e
    rw [if_pos rfl, if_pos rfl, if_pos rfl, if_pos rfl, if_pos rfl]
    exact ⟨rfl, rfl, ⟨hn, hs⟩, fun k hk => by rw [hc _ (by omega), if_pos (by omega), show 24 * j + k - 24 * j = k by omega]⟩
  · simp only [if_neg e]
    obtain ⟨a, b, d, g⟩ := h j hj
    exact ⟨a, b, d, fun k hk => by rw [hc _ (by omega), if_neg (by omega)]; exact g k hk⟩
theorem in3 {s : Int32} (h : inB s (-1) (nI 1) = true) : soK s := by
  unfold inB at h
  simp only [Bool.and_eq_true, decide_eq_true_eq, Int32.le_iff_toInt_le] at h
  rw [show (-1 : Int32).toInt = -1 from rfl, show (nI 1).toInt = 1 from rfl] at h
  rcases (show s.toInt = -1 ∨ s.toInt = 0 ∨ s.toInt = 1 by omega) with e | e | e
  · exact Or.inl (Int32.toInt_inj.mp (e.trans rfl))
  · exact Or.inr (Or.inl (Int32.toInt_inj.mp (e.trans rfl)))
  · exact Or.inr (Or.inr (Int32.toInt_inj.mp (e.trans rfl)))
theorem ge_n {y : Int32} {b : Nat} (hb : b < 2 ^ 31) (h0 : ¬ y < 0) (h1 : y ≤ nI b) : ∃ m, m ≤ b ∧ y = nI m := nI_of2 (nI_toInt hb) h0 h1
def R_sheet (x s y : Int32) : Int32 := if (isS x && inB s (-1) (nI 1)) = true then (if s = -1 then nI 0 else if nI 24 < y then cBAD else if y < 0 then cSIZE else y) else cBAD
def F_sheet (S : s3) (x s y : Int32) : s3 := if (isS x && inB s (-1) (nI 1)) = true then (if s = -1 then setS S (tN x) (-1) 0 (fun _ => 0) else if nI 24 < y then S else if y < 0 then S else setS S (tN x) s (tN y) (fun _ => 0)) else S
set_option maxRecDepth 100000 in
set_option maxHeartbeats 4000000 in
theorem kS_begin (E : ev) (Mz : mm) {s : Nat} {a b : Int32} (hs : SB s) : Ct E 0 yX3_begin cX3_begin 4 none [.inr s, .inl a, .inl b] Mz (qV E (fun M' => M' s 0 = a ∧ M' s 1 = b ∧ (∀ k, k < 24 → M' (s + 1) k = 0) ∧ ∀ q, q ≠ s → q ≠ s + 1 → M' q = Mz q)) := by
  refine ct_of (by decide) (Nat.le_of_ble_eq_true rfl) ?_
  show V E 0 _ _ _ _ _ 0 [some (.inr s), some (.inl a), some (.inl b), none] [] Mz
  refine v_ald0 dX3_begin_0 ?_
  refine v_ild1 dX3_begin_1 ?_
  refine v_puti dX3_begin_2 pX3_9 (shS hs) rfl rfl rfl ?_
  refine v_ald0 dX3_begin_5 ?_
  refine v_ild2 dX3_begin_6 ?_
  refine v_puti dX3_begin_7 pX3_19 (shS hs) rfl rfl rfl ?_
  refine v_iconstN (n := 0) dX3_begin_10 ?_
  refine v_ist3 dX3_begin_11 (by decide) ?_
  refine v_loopP (pc := 12) (fun k _ => [some (.inr s), some (.inl a), some (.inl b), some (.inl (nI k))]) (fun k Mk => (∀ f, f < k → Mk (s + 1) f = 0) ∧ ∀ q, q ≠ s + 1 → Mk q = (wr (wr Mz s 0 a) s 1 b) q) (24) (rfl) (⟨fun f h => by omega, fun _ _ => rfl⟩) (fun k Mk hk hM ih => ?_) (fun Mk hM => ?_)
  · obtain ⟨hc, ho⟩ := hM
    refine v_ild3 dX3_begin_12 ?_
    refine v_bipushN (n := 24) dX3_begin_13 (by decide) ?_
    refine v_icmpN_ge (tgt := 31) dX3_begin_15 (by decide) (by omega) (by omega) (fun h15 => absurd h15 (by omega)) (fun h15 => ?_)
    refine v_ald0 dX3_begin_18 ?_
    refine v_getr dX3_begin_19 gX3_15 (shS hs) rfl ?_
    refine v_ild3 dX3_begin_22 ?_
    refine v_iconstN (n := 0) dX3_begin_23 ?_
    refine v_iastN dX3_begin_24 (shS1 hs) (by omega) (by decide) ?_
    refine v_iincN3 (n := 1) dX3_begin_25 (by decide) ?_
    refine v_goto (tgt := 12) dX3_begin_28 (by decide) ?_
    refine ih _ ⟨fun f hf => ?_, fun q h => by rw [wr_ne h]; exact ho q h⟩
    rw [wr_at]
    by_cases e : f = k
    · subst e; rw [pk_us]; rfl
    · rw [pk_un e]; exact hc f (by omega)
  · obtain ⟨hc, ho⟩ := hM
    refine v_ild3 dX3_begin_12 ?_
    refine v_bipushN (n := 24) dX3_begin_13 (by decide) ?_
    refine v_icmpN_ge (tgt := 31) dX3_begin_15 (by decide) (by omega) (by omega) (fun h15 => ?_) (fun h15 => absurd h15 (by omega))
    exact v_vret dX3_begin_31 rfl (⟨by rw [ho s (by omega), wr_at, pk_un (by decide), wr_at, pk_us], by rw [ho s (by omega), wr_at, pk_us], hc, fun q h1 h2 => by rw [ho q h2, wr_ne h1, wr_ne h1]⟩)
set_option maxRecDepth 100000 in
set_option maxHeartbeats 4000000 in
theorem aX_sheet (E : ev) (Mz : mm) {x s y : Int32} {so : Nat → Int32} {sz : Nat → Nat} {ce : Nat → Nat → Int32} (hS : ShC Mz so sz ce) : Ct E 2 yX6_sheet cX6_sheet 4 (some .int) [.inr 0, .inl x, .inl s, .inl y] Mz (qI E (fun r M' => r = R_sheet x s y ∧ ShC3 M' (F_sheet (so, sz, ce) x s y) ∧ FrS Mz M')) := by
  refine ct_of (by decide) (Nat.le_of_ble_eq_true rfl) ?_
  show V E 2 _ _ _ _ _ 0 [some (.inr 0), some (.inl x), some (.inl s), some (.inl y)] [] Mz
  refine v_ild1 dX6_sheet_0 ?_
  refine v_callSi (kX_noSheet E _) dX6_sheet_1 cX6_190 rfl (by decide) (Nat.le_of_ble_eq_true rfl) rfl (fun r M1z hq => ?_)
  obtain ⟨hr, hm⟩ := hq
  rw [hr, hm]
  clear hr hm
  refine v_if_ne (tgt := 16) dX6_sheet_4 (by decide) (fun h4 => ?_) (fun h4 => ?_)
  · refine v_ldc dX6_sheet_16 kX6_67 ?_
    exact v_iret dX6_sheet_18 rfl (⟨by unfold R_sheet; rw [if_neg (by simp [nb1 h4])], by unfold F_sheet; rw [if_neg (by simp [nb1 h4])]; exact hS, FrS.rf Mz⟩)
  · refine v_ild2 dX6_sheet_7 ?_
    refine v_iconst (x := -1) dX6_sheet_8 (by decide) ?_
    refine v_iconstN (n := 1) dX6_sheet_9 ?_
    refine v_callSi (kX_outside E _) dX6_sheet_10 cX6_63 rfl (by decide) (Nat.le_of_ble_eq_true rfl) rfl (fun r M1z hq => ?_)
    obtain ⟨hr, hm⟩ := hq
    rw [hr, hm]
    clear hr hm
    refine v_if_eq (tgt := 19) dX6_sheet_13 (by decide) (fun h13 => ?_) (fun h13 => ?_)
    · obtain ⟨i, hil, hi, rfl⟩ := inB_n (by decide) (by decide) (nb0 h4)
      have hi4 : i < 4 := by omega
      have hs := sbi hi4
      refine v_ild2 dX6_sheet_19 ?_
      refine v_iconst (x := -1) dX6_sheet_20 (by decide) ?_
      refine v_icmp_ne (tgt := 37) dX6_sheet_21 (by decide) (fun h21 => ?_) (fun h21 => ?_)
      · refine v_ild3 dX6_sheet_37 ?_
        refine v_bipushN (n := 24) dX6_sheet_38 (by decide) ?_
        refine v_icmp_le (tgt := 46) dX6_sheet_40 (by decide) (fun h40 => ?_) (fun h40 => ?_)
        · refine v_ild3 dX6_sheet_46 ?_
          refine v_if_ge (tgt := 53) dX6_sheet_47 (by decide) (fun h47 => ?_) (fun h47 => ?_)
          · obtain ⟨m, hm, rfl⟩ := ge_n (by decide) (Int32.not_lt.mpr h47) h40
            refine v_ald0 dX6_sheet_53 ?_
            refine v_getr dX6_sheet_54 gX6_40 sh_0 rfl ?_
            refine v_ild1 dX6_sheet_57 ?_
            refine v_aaldN dX6_sheet_58 sh_65 rfl (by omega) (by decide) ?_
            refine v_ild2 dX6_sheet_59 ?_
            refine v_ild3 dX6_sheet_60 ?_
            refine v_callVv (kS_begin E Mz hs) dX6_sheet_61 cX6_248 rfl (shS hs) rfl (by decide) (Nat.le_of_ble_eq_true rfl) rfl (fun M1z hq => ?_)
            refine v_ild3 dX6_sheet_64 ?_
            exact v_iret dX6_sheet_65 rfl (⟨by unfold R_sheet; rw [if_pos (by simp [nb0 h4, nb0 h13]), if_neg (show ¬ s = -1 from h21), if_neg (Int32.not_lt.mpr h40), if_neg (Int32.not_lt.mpr h47)], by unfold F_sheet; rw [if_pos (by simp [nb0 h4, nb0 h13]), if_neg (show ¬ s = -1 from h21), if_neg (Int32.not_lt.mpr h40), if_neg (Int32.not_lt.mpr h47)]; rw [tN_n (p := i) (by omega), tN_n (p := m) (by omega)]; exact hS.set hi4 hq.2.2.2 hq.1 hq.2.1 hm (in3 (nb0 h13)) hq.2.2.1, fun q h => hq.2.2.2 q (by omega) (by omega)⟩)
          · refine v_ldc dX6_sheet_50 kX6_252 ?_
            exact v_iret dX6_sheet_52 rfl (⟨by unfold R_sheet; rw [if_pos (by simp [nb0 h4, nb0 h13]), if_neg (show ¬ s = -1 from h21), if_neg (Int32.not_lt.mpr h40), if_pos (Int32.not_le.mp h47)], by unfold F_sheet; rw [if_pos (by simp [nb0 h4, nb0 h13]), if_neg (show ¬ s = -1 from h21), if_neg (Int32.not_lt.mpr h40), if_pos (Int32.not_le.mp h47)]; exact hS, FrS.rf Mz⟩)
        · refine v_ldc dX6_sheet_43 kX6_67 ?_
          exact v_iret dX6_sheet_45 rfl (⟨by unfold R_sheet; rw [if_pos (by simp [nb0 h4, nb0 h13]), if_neg (show ¬ s = -1 from h21), if_pos (Int32.not_le.mp h40)], by unfold F_sheet; rw [if_pos (by simp [nb0 h4, nb0 h13]), if_neg (show ¬ s = -1 from h21), if_pos (Int32.not_le.mp h40)]; exact hS, FrS.rf Mz⟩)
      · refine v_ald0 dX6_sheet_24 ?_
        refine v_getr dX6_sheet_25 gX6_40 sh_0 rfl ?_
        refine v_ild1 dX6_sheet_28 ?_
        refine v_aaldN dX6_sheet_29 sh_65 rfl (by omega) (by decide) ?_
        refine v_iconst (x := -1) dX6_sheet_30 (by decide) ?_
        refine v_iconstN (n := 0) dX6_sheet_31 ?_
        refine v_callVv (kS_begin E Mz hs) dX6_sheet_32 cX6_248 rfl (shS hs) rfl (by decide) (Nat.le_of_ble_eq_true rfl) rfl (fun M1z hq => ?_)
        refine v_iconstN (n := 0) dX6_sheet_35 ?_
        exact v_iret dX6_sheet_36 rfl (⟨by unfold R_sheet; rw [if_pos (by simp [nb0 h4, nb0 h13]), if_pos (show s = -1 from h21)], by unfold F_sheet; rw [if_pos (by simp [nb0 h4, nb0 h13]), if_pos (show s = -1 from h21)]; rw [tN_n (by omega)]; exact hS.set hi4 hq.2.2.2 hq.1 hq.2.1 (by decide) (Or.inl rfl) hq.2.2.1, fun q h => hq.2.2.2 q (by omega) (by omega)⟩)
    · refine v_ldc dX6_sheet_16 kX6_67 ?_
      exact v_iret dX6_sheet_18 rfl (⟨by unfold R_sheet; rw [if_neg (by simp [nb0 h4, nb1 h13])], by unfold F_sheet; rw [if_neg (by simp [nb0 h4, nb1 h13])]; exact hS, FrS.rf Mz⟩)
set_option maxRecDepth 100000 in
set_option maxHeartbeats 4000000 in
theorem aM_sheet (E : ev) (Mz : mm) {x s y : Int32} {so : Nat → Int32} {sz : Nat → Nat} {ce : Nat → Nat → Int32} (hS : ShM Mz so sz ce) : Ct E 2 yX7_sheet cX7_sheet 5 (some .int) [.inr 92, .inl x, .inl s, .inl y] Mz (qI E (fun r M' => r = R_sheet x s y ∧ ShM3 M' (F_sheet (so, sz, ce) x s y) ∧ FrZ Mz M')) := by
  refine ct_of (by decide) (Nat.le_of_ble_eq_true rfl) ?_
  show V E 2 _ _ _ _ _ 0 [some (.inr 92), some (.inl x), some (.inl s), some (.inl y), none] [] Mz
  refine v_ild1 dX7_sheet_0 ?_
  refine v_callSi (kM_isSheet E _) dX7_sheet_1 cX7_199 rfl (by decide) (Nat.le_of_ble_eq_true rfl) rfl (fun r M1z hq => ?_)
  obtain ⟨hr, hm⟩ := hq
  rw [hr, hm]
  clear hr hm
  refine v_if_eq (tgt := 26) dX7_sheet_4 (by decide) (fun h4 => ?_) (fun h4 => ?_)
  · refine v_ldc dX7_sheet_26 kX7_119 ?_
    exact v_iret dX7_sheet_28 rfl (⟨by unfold R_sheet; rw [if_neg (by simp [show isS x = false from b2_0.mp h4])], by unfold F_sheet; rw [if_neg (by simp [show isS x = false from b2_0.mp h4])]; exact hS, FrZ.rf Mz⟩)
  · refine v_ild2 dX7_sheet_7 ?_
    refine v_iconst (x := -1) dX7_sheet_8 (by decide) ?_
    refine v_iconstN (n := 1) dX7_sheet_9 ?_
    refine v_callSi (kM_in E _) dX7_sheet_10 cX7_75 rfl (by decide) (Nat.le_of_ble_eq_true rfl) rfl (fun r M1z hq => ?_)
    obtain ⟨hr, hm⟩ := hq
    rw [hr, hm]
    clear hr hm
    refine v_if_eq (tgt := 26) dX7_sheet_13 (by decide) (fun h13 => ?_) (fun h13 => ?_)
    · refine v_ldc dX7_sheet_26 kX7_119 ?_
      exact v_iret dX7_sheet_28 rfl (⟨by unfold R_sheet; rw [if_neg (by simp [show isS x = true from b2_1.mp h4, b2_0.mp h13])], by unfold F_sheet; rw [if_neg (by simp [show isS x = true from b2_1.mp h4, b2_0.mp h13])]; exact hS, FrZ.rf Mz⟩)
    · refine v_ild2 dX7_sheet_16 ?_
      refine v_if_lt (tgt := 29) dX7_sheet_17 (by decide) (fun h17 => ?_) (fun h17 => ?_)
      · refine v_ild2 dX7_sheet_29 ?_
        refine v_if_lt (tgt := 41) dX7_sheet_30 (by decide) (fun h30 => ?_) (fun h30 => absurd h30 (fun q => q h17))
        obtain ⟨i, hil, hi, rfl⟩ := inB_n (by decide) (by decide) (b2_1.mp h4)
        have hi4 : i < 4 := by omega
        have hm1 : s = -1 := (so_neg (in3 (b2_1.mp h13))).mp h17
        refine v_ald0 dX7_sheet_41 ?_
        refine v_getr dX7_sheet_42 gX7_48 sh_92 rfl ?_
        refine v_ild1 dX7_sheet_45 ?_
        refine v_ild2 dX7_sheet_46 ?_
        refine v_iastN dX7_sheet_47 sh_105 (by omega) (by decide) ?_
        refine v_ald0 dX7_sheet_48 ?_
        refine v_getr dX7_sheet_49 gX7_51 sh_92 rfl ?_
        refine v_ild1 dX7_sheet_52 ?_
        refine v_ild2 dX7_sheet_53 ?_
        refine v_if_ge (tgt := 61) dX7_sheet_54 (by decide) (fun h54 => absurd h54 (Int32.not_le.mpr h17)) (fun h54 => ?_)
        refine v_iconstN (n := 0) dX7_sheet_57 ?_
        refine v_goto (tgt := 62) dX7_sheet_58 (by decide) ?_
        refine v_iastN dX7_sheet_62 sh_106 (by omega) (by decide) ?_
        refine v_iconstN (n := 0) dX7_sheet_63 ?_
        refine v_ist4 dX7_sheet_64 (by decide) ?_
        refine v_loopP (pc := 66) (fun k _ => [some (.inr 92), some (.inl (nI i)), some (.inl s), some (.inl y), some (.inl (nI k))]) (fun k Mk => (∀ q, Mk 107 q = if 24 * i ≤ q ∧ q < 24 * i + k then 0 else Mz 107 q) ∧ ∀ q, q ≠ 107 → Mk q = (wr (wr Mz 105 i s) 106 i (nI 0)) q) (24) (rfl) (⟨fun q => by rw [if_neg (by omega), wr_ne (by decide), wr_ne (by decide)], fun _ _ => rfl⟩) (fun k Mk hk hM ih => ?_) (fun Mk hM => ?_)
        · obtain ⟨hc, ho⟩ := hM
          refine v_ild4 dX7_sheet_66 ?_
          refine v_bipushN (n := 24) dX7_sheet_68 (by decide) ?_
          refine v_icmpN_ge (tgt := 92) dX7_sheet_70 (by decide) (by omega) (by omega) (fun h70 => absurd h70 (by omega)) (fun h70 => ?_)
          refine v_ald0 dX7_sheet_73 ?_
          refine v_getr dX7_sheet_74 gX7_54 sh_92 rfl ?_
          refine v_bipushN (n := 24) dX7_sheet_77 (by decide) ?_
          refine v_ild1 dX7_sheet_79 ?_
          refine v_imulN dX7_sheet_80 ?_
          refine v_ild4 dX7_sheet_81 ?_
          refine v_iaddN dX7_sheet_83 ?_
          refine v_iconstN (n := 0) dX7_sheet_84 ?_
          refine v_iastN dX7_sheet_85 sh_107 (by omega) (by decide) ?_
          refine v_iincN4 (n := 1) dX7_sheet_86 (by decide) ?_
          refine v_goto (tgt := 66) dX7_sheet_89 (by decide) ?_
          refine ih _ ⟨fun q => ?_, fun q h => by rw [wr_ne h]; exact ho q h⟩
          rw [wr_at]
          by_cases e : q = 24 * i + k
          · subst e; rw [pk_us, if_pos (by omega)]; rfl
          · rw [pk_un e, hc q]
            by_cases e2 : 24 * i ≤ q ∧ q < 24 * i + k
            · rw [if_pos e2, if_pos (by omega)]
            · rw [if_neg e2, if_neg (by omega)]
        · obtain ⟨hc, ho⟩ := hM
          refine v_ild4 dX7_sheet_66 ?_
          refine v_bipushN (n := 24) dX7_sheet_68 (by decide) ?_
          refine v_icmpN_ge (tgt := 92) dX7_sheet_70 (by decide) (by omega) (by omega) (fun h70 => ?_) (fun h70 => absurd h70 (by omega))
          refine v_ald0 dX7_sheet_92 ?_
          refine v_getr dX7_sheet_93 gX7_51 sh_92 rfl ?_
          refine v_ild1 dX7_sheet_96 ?_
          refine v_ialdN dX7_sheet_97 sh_106 (by omega) (by decide) ?_
          exact v_iret dX7_sheet_98 rfl (⟨by unfold R_sheet; rw [if_pos (by simp [b2_1.mp h4, b2_1.mp h13]), if_pos hm1]; rw [ho 106 (by decide), wr_at, pk_us], by unfold F_sheet; rw [if_pos (by simp [b2_1.mp h4, b2_1.mp h13]), if_pos hm1]; rw [tN_n (p := i) (by omega)]; exact hS.set hi4 (fun j hj => by rw [ho 105 (by decide), wr_ne (by decide), wr_at]; by_cases e : j = i; (subst e; rw [pk_us, if_pos rfl]; exact hm1); rw [pk_un e, if_neg e]) (fun j hj => by rw [ho 106 (by decide), wr_at, wr_ne (by decide)]; by_cases e : j = i; (subst e; rw [pk_us, if_pos rfl]); rw [pk_un e, if_neg e]) (by omega) (Or.inl rfl) (fun q _ => hc q), fun q h1 h2 h3 h4 => by rw [ho q h3, wr_ne h2, wr_ne h1]⟩)
      · refine v_ild3 dX7_sheet_20 ?_
        refine v_bipushN (n := 24) dX7_sheet_21 (by decide) ?_
        refine v_icmp_le (tgt := 29) dX7_sheet_23 (by decide) (fun h23 => ?_) (fun h23 => ?_)
        · refine v_ild2 dX7_sheet_29 ?_
          refine v_if_lt (tgt := 41) dX7_sheet_30 (by decide) (fun h30 => absurd h30 (h17)) (fun h30 => ?_)
          refine v_ild3 dX7_sheet_33 ?_
          refine v_if_ge (tgt := 41) dX7_sheet_34 (by decide) (fun h34 => ?_) (fun h34 => ?_)
          · obtain ⟨i, hil, hi, rfl⟩ := inB_n (by decide) (by decide) (b2_1.mp h4)
            have hi4 : i < 4 := by omega
            have hm1 : ¬ s = -1 := fun e => h17 ((so_neg (in3 (b2_1.mp h13))).mpr e)
            obtain ⟨m, hm, rfl⟩ := ge_n (by decide) (Int32.not_lt.mpr h34) h23
            refine v_ald0 dX7_sheet_41 ?_
            refine v_getr dX7_sheet_42 gX7_48 sh_92 rfl ?_
            refine v_ild1 dX7_sheet_45 ?_
            refine v_ild2 dX7_sheet_46 ?_
            refine v_iastN dX7_sheet_47 sh_105 (by omega) (by decide) ?_
            refine v_ald0 dX7_sheet_48 ?_
            refine v_getr dX7_sheet_49 gX7_51 sh_92 rfl ?_
            refine v_ild1 dX7_sheet_52 ?_
            refine v_ild2 dX7_sheet_53 ?_
            refine v_if_ge (tgt := 61) dX7_sheet_54 (by decide) (fun h54 => ?_) (fun h54 => absurd h54 (fun q => q (Int32.not_lt.mp h17)))
            refine v_ild3 dX7_sheet_61 ?_
            refine v_iastN dX7_sheet_62 sh_106 (by omega) (by decide) ?_
            refine v_iconstN (n := 0) dX7_sheet_63 ?_
            refine v_ist4 dX7_sheet_64 (by decide) ?_
            refine v_loopP (pc := 66) (fun k _ => [some (.inr 92), some (.inl (nI i)), some (.inl s), some (.inl (nI m)), some (.inl (nI k))]) (fun k Mk => (∀ q, Mk 107 q = if 24 * i ≤ q ∧ q < 24 * i + k then 0 else Mz 107 q) ∧ ∀ q, q ≠ 107 → Mk q = (wr (wr Mz 105 i s) 106 i (nI m)) q) (24) (rfl) (⟨fun q => by rw [if_neg (by omega), wr_ne (by decide), wr_ne (by decide)], fun _ _ => rfl⟩) (fun k Mk hk hM ih => ?_) (fun Mk hM => ?_)
            · obtain ⟨hc, ho⟩ := hM
              refine v_ild4 dX7_sheet_66 ?_
              refine v_bipushN (n := 24) dX7_sheet_68 (by decide) ?_
              refine v_icmpN_ge (tgt := 92) dX7_sheet_70 (by decide) (by omega) (by omega) (fun h70 => absurd h70 (by omega)) (fun h70 => ?_)
              refine v_ald0 dX7_sheet_73 ?_
              refine v_getr dX7_sheet_74 gX7_54 sh_92 rfl ?_
              refine v_bipushN (n := 24) dX7_sheet_77 (by decide) ?_
              refine v_ild1 dX7_sheet_79 ?_
              refine v_imulN dX7_sheet_80 ?_
              refine v_ild4 dX7_sheet_81 ?_
              refine v_iaddN dX7_sheet_83 ?_
              refine v_iconstN (n := 0) dX7_sheet_84 ?_
              refine v_iastN dX7_sheet_85 sh_107 (by omega) (by decide) ?_
              refine v_iincN4 (n := 1) dX7_sheet_86 (by decide) ?_
              refine v_goto (tgt := 66) dX7_sheet_89 (by decide) ?_
              refine ih _ ⟨fun q => ?_, fun q h => by rw [wr_ne h]; exact ho q h⟩
              rw [wr_at]
              by_cases e : q = 24 * i + k
              · subst e; rw [pk_us, if_pos (by omega)]; rfl
              · rw [pk_un e, hc q]
                by_cases e2 : 24 * i ≤ q ∧ q < 24 * i + k
                · rw [if_pos e2, if_pos (by omega)]
                · rw [if_neg e2, if_neg (by omega)]
            · obtain ⟨hc, ho⟩ := hM
              refine v_ild4 dX7_sheet_66 ?_
              refine v_bipushN (n := 24) dX7_sheet_68 (by decide) ?_
              refine v_icmpN_ge (tgt := 92) dX7_sheet_70 (by decide) (by omega) (by omega) (fun h70 => ?_) (fun h70 => absurd h70 (by omega))
              refine v_ald0 dX7_sheet_92 ?_
              refine v_getr dX7_sheet_93 gX7_51 sh_92 rfl ?_
              refine v_ild1 dX7_sheet_96 ?_
              refine v_ialdN dX7_sheet_97 sh_106 (by omega) (by decide) ?_
              exact v_iret dX7_sheet_98 rfl (⟨by unfold R_sheet; rw [if_pos (by simp [b2_1.mp h4, b2_1.mp h13]), if_neg hm1, if_neg (Int32.not_lt.mpr h23), if_neg (Int32.not_lt.mpr h34)]; rw [ho 106 (by decide), wr_at, pk_us], by unfold F_sheet; rw [if_pos (by simp [b2_1.mp h4, b2_1.mp h13]), if_neg hm1, if_neg (Int32.not_lt.mpr h23), if_neg (Int32.not_lt.mpr h34)]; rw [tN_n (p := i) (by omega), tN_n (p := m) (by omega)]; exact hS.set hi4 (fun j hj => by rw [ho 105 (by decide), wr_ne (by decide), wr_at]; by_cases e : j = i; (subst e; rw [pk_us, if_pos rfl]); rw [pk_un e, if_neg e]) (fun j hj => by rw [ho 106 (by decide), wr_at, wr_ne (by decide)]; by_cases e : j = i; (subst e; rw [pk_us, if_pos rfl]); rw [pk_un e, if_neg e]) (by omega) (in3 (b2_1.mp h13)) (fun q _ => hc q), fun q h1 h2 h3 h4 => by rw [ho q h3, wr_ne h2, wr_ne h1]⟩)
          · refine v_ldcw dX7_sheet_37 kX7_271 ?_
            exact v_iret dX7_sheet_40 rfl (⟨by unfold R_sheet; rw [if_pos (by simp [b2_1.mp h4, b2_1.mp h13]), if_neg (fun e => h17 ((so_neg (in3 (b2_1.mp h13))).mpr e)), if_neg (Int32.not_lt.mpr h23), if_pos (Int32.not_le.mp h34)], by unfold F_sheet; rw [if_pos (by simp [b2_1.mp h4, b2_1.mp h13]), if_neg (fun e => h17 ((so_neg (in3 (b2_1.mp h13))).mpr e)), if_neg (Int32.not_lt.mpr h23), if_pos (Int32.not_le.mp h34)]; exact hS, FrZ.rf Mz⟩)
        · refine v_ldc dX7_sheet_26 kX7_119 ?_
          exact v_iret dX7_sheet_28 rfl (⟨by unfold R_sheet; rw [if_pos (by simp [b2_1.mp h4, b2_1.mp h13]), if_neg (fun e => h17 ((so_neg (in3 (b2_1.mp h13))).mpr e)), if_pos (Int32.not_le.mp h23)], by unfold F_sheet; rw [if_pos (by simp [b2_1.mp h4, b2_1.mp h13]), if_neg (fun e => h17 ((so_neg (in3 (b2_1.mp h13))).mpr e)), if_pos (Int32.not_le.mp h23)]; exact hS, FrZ.rf Mz⟩)
