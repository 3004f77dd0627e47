/-! sheets: what both have of them -/
def ShC (M : mm) (so : Nat → Int32) (sz : Nat → Nat) (ce : Nat → Nat → Int32) : Prop := ∀ i, i < 4 → M (66 + 2 * i) 0 = so i ∧ M (66 + 2 * i) 1 = nI (sz i) ∧ (sz i ≤ 24 ∧ (so i = -1 ∨ so i = nI 0 ∨ so i = nI 1)) ∧ ∀ k, k < 24 → M (66 + 2 * i + 1) k = ce i k
def ShM (M : mm) (so : Nat → Int32) (sz : Nat → Nat) (ce : Nat → Nat → Int32) : Prop := ∀ i, i < 4 → M 105 i = so i ∧ M 106 i = nI (sz i) ∧ (sz i ≤ 24 ∧ (so i = -1 ∨ so i = nI 0 ∨ so i = nI 1)) ∧ ∀ k, k < 24 → M 107 (24 * i + k) = ce i k
theorem sbi {i : Nat} (h : i < 4) : SB (66 + 2 * i) := by unfold SB; omega
theorem wbi {i : Nat} (h : i < 5) : WB (75 + 3 * i) := by unfold WB; omega
theorem so_neg {x : Int32} (h : x = -1 ∨ x = nI 0 ∨ x = nI 1) : x < 0 ↔ x = -1 := by rcases h with rfl | rfl | rfl <;> decide
abbrev isS (x : Int32) : Bool := inB x (nI 0) (nI 3)
abbrev isW (x : Int32) : Bool := inB x (nI 0) (nI 4)
theorem absS_neg (x : Int32) : absS (0 - x) = absS x := by
  unfold absS
  have h1 := Int32.le_toInt x
  have h2 := Int32.toInt_lt x
  have e : (0 - x).toInt = (0 - x.toInt).bmod (2 ^ 32) := by rw [Int32.toInt_sub]; rfl
  have e0 : (0 : Int32).toInt = 0 := rfl
  by_cases a : x.toInt = -2147483648
  · have : x = -2147483648 := Int32.toInt_inj.mp (a.trans (by decide))
    subst this; decide
  · have e2 : (0 - x).toInt = - x.toInt := by rw [e]; unfold Int.bmod; simp only []; split <;> omega
    by_cases b : 0 ≤ x
    · rw [if_pos b]
      by_cases c : 0 ≤ 0 - x
      · rw [if_pos c]
        rw [Int32.le_iff_toInt_le] at b c
        apply Int32.toInt_inj.mp
        omega
      · rw [if_neg c]
        apply Int32.toInt_inj.mp
        rw [Int32.toInt_sub, e2, e0]
        unfold Int.bmod; simp only []; split <;> omega
    · rw [if_neg b, if_pos]
      rw [Int32.le_iff_toInt_le] at b ⊢
      omega
theorem absS_sub (a b : Int32) : absS (a - b) = absS (b - a) := by
  rw [← absS_neg (b - a)]
  congr 1
  rw [Int32.zero_sub, Int32.neg_sub]
def lkA (pf : p4) (v : fl) (ce : Nat → Int32) : Nat → Nat → Int32
  | 0, _ => 0
  | k + 1, f => if ce k = cNONE then lkA pf v ce k f else lkA pf v ce k f + absS (fc (wksS pf v k) f - ce k)
theorem lkA_n {pf : p4} {v : fl} {ce : Nat → Int32} {k : Nat} (h : ce k = cNONE) (f : Nat) : lkA pf v ce (k + 1) f = lkA pf v ce k f := if_pos h
theorem lkA_y {pf : p4} {v : fl} {ce : Nat → Int32} {k : Nat} (h : ¬ ce k = cNONE) (f : Nat) : lkA pf v ce (k + 1) f = lkA pf v ce k f + absS (fc (wksS pf v k) f - ce k) := if_neg h
def lkB (a : Nat → Int32) : Nat → Nat
  | 0 => 0
  | j + 1 => if a (j + 1) < a (lkB a j) then j + 1 else lkB a j
theorem lkB_le (a : Nat → Int32) : ∀ j, lkB a j ≤ j
  | 0 => Nat.le_refl _
  | j + 1 => by have := lkB_le a j; unfold lkB; split <;> omega
def R_like (pf : p4) (v : fl) (so : Nat → Int32) (sz : Nat → Nat) (ce : Nat → Nat → Int32) (x u : Int32) : Int32 := if (isS x && inB u (nI 0) (nI 1)) = true then (if so (tN x) = -1 then cNOTH else if u = 0 then nI (lkB (lkA pf v (ce (tN x)) (sz (tN x))) 5) else lkA pf v (ce (tN x)) (sz (tN x)) (lkB (lkA pf v (ce (tN x)) (sz (tN x))) 5)) else cBAD
set_option maxRecDepth 100000 in
set_option maxHeartbeats 4000000 in
theorem kX_noSheet (E : ev) (Mz : mm) {x : Int32} : Ct E 1 yX6_noSheet cX6_noSheet 1 (some .boolean) [.inl x] Mz (qI E (fun r M' => r = b2 (!isS x) ∧ M' = Mz)) := by
  refine ct_of (by decide) (Nat.le_of_ble_eq_true rfl) ?_
  show V E 1 _ _ _ _ _ 0 [some (.inl x)] [] Mz
  refine v_ild0 dX6_noSheet_0 ?_
  refine v_iconstN (n := 0) dX6_noSheet_1 ?_
  refine v_iconstN (n := 3) dX6_noSheet_2 ?_
  refine v_callSi (kX_outside E _) dX6_noSheet_3 cX6_63 rfl (by decide) (Nat.le_of_ble_eq_true rfl) rfl (fun r M1z hq => ?_)
  obtain ⟨hr, hm⟩ := hq
  rw [hr, hm]
  clear hr hm
  exact v_zret dX6_noSheet_6 rfl (b2_nar _) (⟨rfl, rfl⟩)
set_option maxRecDepth 100000 in
set_option maxHeartbeats 4000000 in
theorem kX_noSlot (E : ev) (Mz : mm) {x : Int32} : Ct E 1 yX6_noSlot cX6_noSlot 1 (some .boolean) [.inl x] Mz (qI E (fun r M' => r = b2 (!isW x) ∧ M' = Mz)) := by
  refine ct_of (by decide) (Nat.le_of_ble_eq_true rfl) ?_
  show V E 1 _ _ _ _ _ 0 [some (.inl x)] [] Mz
  refine v_ild0 dX6_noSlot_0 ?_
  refine v_iconstN (n := 0) dX6_noSlot_1 ?_
  refine v_iconstN (n := 4) dX6_noSlot_2 ?_
  refine v_callSi (kX_outside E _) dX6_noSlot_3 cX6_63 rfl (by decide) (Nat.le_of_ble_eq_true rfl) rfl (fun r M1z hq => ?_)
  obtain ⟨hr, hm⟩ := hq
  rw [hr, hm]
  clear hr hm
  exact v_zret dX6_noSlot_6 rfl (b2_nar _) (⟨rfl, rfl⟩)
set_option maxRecDepth 100000 in
set_option maxHeartbeats 4000000 in
theorem kM_isSheet (E : ev) (Mz : mm) {x : Int32} : Ct E 1 yX7_isSheet cX7_isSheet 1 (some .boolean) [.inl x] Mz (qI E (fun r M' => r = b2 (isS x) ∧ M' = Mz)) := by
  refine ct_of (by decide) (Nat.le_of_ble_eq_true rfl) ?_
  show V E 1 _ _ _ _ _ 0 [some (.inl x)] [] Mz
  refine v_ild0 dX7_isSheet_0 ?_
  refine v_iconstN (n := 0) dX7_isSheet_1 ?_
  refine v_iconstN (n := 3) dX7_isSheet_2 ?_
  refine v_callSi (kM_in E _) dX7_isSheet_3 cX7_75 rfl (by decide) (Nat.le_of_ble_eq_true rfl) rfl (fun r M1z hq => ?_)
  obtain ⟨hr, hm⟩ := hq
  rw [hr, hm]
  clear hr hm
  exact v_zret dX7_isSheet_6 rfl (b2_nar _) (⟨rfl, rfl⟩)
set_option maxRecDepth 100000 in
set_option maxHeartbeats 4000000 in
theorem kM_isSlot (E : ev) (Mz : mm) {x : Int32} : Ct E 1 yX7_isSlot cX7_isSlot 1 (some .boolean) [.inl x] Mz (qI E (fun r M' => r = b2 (isW x) ∧ M' = Mz)) := by
  refine ct_of (by decide) (Nat.le_of_ble_eq_true rfl) ?_
  show V E 1 _ _ _ _ _ 0 [some (.inl x)] [] Mz
  refine v_ild0 dX7_isSlot_0 ?_
  refine v_iconstN (n := 0) dX7_isSlot_1 ?_
  refine v_iconstN (n := 4) dX7_isSlot_2 ?_
  refine v_callSi (kM_in E _) dX7_isSlot_3 cX7_75 rfl (by decide) (Nat.le_of_ble_eq_true rfl) rfl (fun r M1z hq => ?_)
  obtain ⟨hr, hm⟩ := hq
  rw [hr, hm]
  clear hr hm
  exact v_zret dX7_isSlot_6 rfl (b2_nar _) (⟨rfl, rfl⟩)
set_option maxRecDepth 100000 in
set_option maxHeartbeats 4000000 in
theorem kS_hasNumber (E : ev) (Mz : mm) {s k : Nat} (hs : SB s) (hk : k < 24) : Ct E 0 yX3_hasNumber cX3_hasNumber 2 (some .boolean) [.inr s, .inl (nI k)] Mz (qI E (fun r M' => r = b2 (!decide (Mz (s + 1) k = cNONE)) ∧ M' = Mz)) := by
  refine ct_of (by decide) (Nat.le_of_ble_eq_true rfl) ?_
  show V E 0 _ _ _ _ _ 0 [some (.inr s), some (.inl (nI k))] [] Mz
  refine v_ald0 dX3_hasNumber_0 ?_
  refine v_getr dX3_hasNumber_1 gX3_15 (shS hs) rfl ?_
  refine v_ild1 dX3_hasNumber_4 ?_
  refine v_ialdN dX3_hasNumber_5 (shS1 hs) (by omega) (by decide) ?_
  refine v_ldc dX3_hasNumber_6 kX3_28 ?_
  refine v_icmp_eq (tgt := 15) dX3_hasNumber_8 (by decide) (fun h8 => ?_) (fun h8 => ?_)
  · refine v_iconstN (n := 0) dX3_hasNumber_15 ?_
    exact v_zret dX3_hasNumber_16 rfl (by decide +kernel) (⟨by rw [decide_eq_true (show Mz (s + 1) k = cNONE from h8)]; rfl, rfl⟩)
  · refine v_iconstN (n := 1) dX3_hasNumber_11 ?_
    refine v_goto (tgt := 16) dX3_hasNumber_12 (by decide) ?_
    exact v_zret dX3_hasNumber_16 rfl (by decide +kernel) (⟨by rw [decide_eq_false (show ¬ Mz (s + 1) k = cNONE from h8)]; rfl, rfl⟩)
set_option maxRecDepth 100000 in
set_option maxHeartbeats 4000000 in
theorem kX_addDiff (E : ev) (Mz : mm) {x : Int32} {W : Nat} (hI : CI (cv Mz 56) W) : Ct E 3 yX6_addDifferences cX6_addDifferences 3 none [.inr 0, .inl x] Mz (qV E (fun M' => (∀ f, f < 6 → M' 91 f = Mz 91 f + absS (fc (cv Mz 56) f - x)) ∧ ∀ a, a ≠ 91 → M' a = Mz a)) := by
  refine ct_of (by decide) (Nat.le_of_ble_eq_true rfl) ?_
  show V E 3 _ _ _ _ _ 0 [some (.inr 0), some (.inl x), none] [] Mz
  refine v_iconstN (n := 0) dX6_addDifferences_0 ?_
  refine v_ist2 dX6_addDifferences_1 (by decide) ?_
  refine v_loopP (pc := 2) (fun k _ => [some (.inr 0), some (.inl x), some (.inl (nI k))]) (fun k Mk => (∀ f, f < 6 → Mk 91 f = if f < k then Mz 91 f + absS (fc (cv Mz 56) f - x) else Mz 91 f) ∧ ∀ a, a ≠ 91 → Mk a = Mz a) (6) (rfl) (⟨fun f _ => by rw [if_neg (by omega)], fun _ _ => rfl⟩) (fun k Mk hk hM ih => ?_) (fun Mk hM => ?_)
  · obtain ⟨ha, ho⟩ := hM
    have hv0 : cv Mk 56 = cv Mz 56 := cv_ext (fun k _ => by rw [ho _ (by omega)]) (fun r _ _ j _ => by rw [ho _ (by omega)]) (fun j _ => by rw [ho _ (by omega)]) (fun j _ => by rw [ho _ (by omega)]) (fun j _ => by rw [ho _ (by omega)])
    refine v_ild2 dX6_addDifferences_2 ?_
    refine v_bipushN (n := 6) dX6_addDifferences_3 (by decide) ?_
    refine v_icmpN_ge (tgt := 36) dX6_addDifferences_5 (by decide) (by omega) (by omega) (fun h5 => absurd h5 (by omega)) (fun h5 => ?_)
    refine v_ald0 dX6_addDifferences_8 ?_
    refine v_getr dX6_addDifferences_9 gX6_56 sh_0 rfl ?_
    refine v_ild2 dX6_addDifferences_12 ?_
    refine v_dup2 dX6_addDifferences_13 ?_
    refine v_ialdN dX6_addDifferences_14 sh_91 (by omega) (by decide) ?_
    refine v_ald0 dX6_addDifferences_15 ?_
    refine v_getr dX6_addDifferences_16 gX6_35 sh_0 rfl ?_
    refine v_ild2 dX6_addDifferences_19 ?_
    refine v_callVi (kC_firstCrop E Mk CB.trial (W := W) hk (by rw [hv0]; exact hI)) dX6_addDifferences_20 cX6_131 rfl sh_56 rfl (by decide) (Nat.le_of_ble_eq_true rfl) rfl (fun r M1z hq => ?_)
    obtain ⟨hr, hm⟩ := hq
    rw [hr, hm, hv0]
    clear hr hm
    refine v_ild1 dX6_addDifferences_23 ?_
    refine v_isub dX6_addDifferences_24 ?_
    refine v_mabs dX6_addDifferences_25 mX6_300 (by decide) (Nat.le_of_ble_eq_true rfl) ?_
    refine v_iadd dX6_addDifferences_28 ?_
    refine v_iastN dX6_addDifferences_29 sh_91 (by omega) (by decide) ?_
    refine v_iincN2 (n := 1) dX6_addDifferences_30 (by decide) ?_
    refine v_goto (tgt := 2) dX6_addDifferences_33 (by decide) ?_
    refine ih _ ⟨fun f hf => ?_, fun a h => by rw [wr_ne h]; exact ho a h⟩
    rw [wr_at]
    by_cases e : f = k
    · subst e
      rw [pk_us, ha f hf, if_neg (show ¬ f < f by omega), if_pos (show f < f + 1 by omega)]; rfl
    · rw [pk_un e, ha f hf]
      by_cases q : f < k
      · rw [if_pos q, if_pos (by omega)]
      · rw [if_neg q, if_neg (by omega)]
  · obtain ⟨ha, ho⟩ := hM
    refine v_ild2 dX6_addDifferences_2 ?_
    refine v_bipushN (n := 6) dX6_addDifferences_3 (by decide) ?_
    refine v_icmpN_ge (tgt := 36) dX6_addDifferences_5 (by decide) (by omega) (by omega) (fun h5 => ?_) (fun h5 => absurd h5 (by omega))
    exact v_vret dX6_addDifferences_36 rfl (⟨fun f hf => by rw [ha f hf, if_pos hf], ho⟩)
theorem TxC.fr91 {T : Nat} {tt : Nat → tx} {M M' : mm} (h : TxC M 56 tt T) (hv : cv M' 56 = cv M 56) (hf : ∀ a, a ≠ 91 → M' a = M a) : TxC M' 56 tt T := by
  have h14 := h.1
  refine ⟨h.1, (congrFun hv 6).trans h.2.1, fun t ht => ?_, fun key hk => by rw [hf _ (by omega)]; exact h.2.2.2 key hk⟩
  obtain ⟨a1, a2, a3, a4, a5⟩ := h.2.2.1 t ht
  have e1 : M' (5 + 2 * t) = M (5 + 2 * t) := hf _ (by omega)
  have e2 : M' (5 + 2 * t + 1) = M (5 + 2 * t + 1) := hf _ (by omega)
  exact ⟨a1, by rw [e1]; exact a2, by rw [e1]; exact a3, by rw [e1]; exact a4, fun i hi => by rw [e2]; exact a5 i hi⟩
set_option maxRecDepth 100000 in
set_option maxHeartbeats 4000000 in
theorem aX_like (E : ev) (Mz : mm) {x u : Int32} {T : Nat} {tt : Nat → tx} (hI : CI (cv Mz 38) 10000) (hT : TxC Mz 38 tt T) {so : Nat → Int32} {sz : Nat → Nat} {ce : Nat → Nat → Int32} (hS : ShC Mz so sz ce) : Ct E 7 yX6_like cX6_like 6 (some .int) [.inr 0, .inl x, .inl u] Mz (qI E (fun r M' => r = R_like (pfT tt T) (cv Mz 38) so sz ce x u ∧ FrX Mz M')) := by
  refine ct_of (by decide) (Nat.le_of_ble_eq_true rfl) ?_
  show V E 7 _ _ _ _ _ 0 [some (.inr 0), some (.inl x), some (.inl u), none, none, none] [] Mz
  refine v_ild1 dX6_like_0 ?_
  refine v_callSi (kX_noSheet E _) dX6_like_1 cX6_190 rfl (by decide) (Nat.le_of_ble_eq_true rfl) rfl (fun r M1z hq => ?_)
  obtain ⟨hr, hm⟩ := hq
  rw [hr, hm]
  clear hr hm
  refine v_if_ne (tgt := 16) dX6_like_4 (by decide) (fun h4 => ?_) (fun h4 => ?_)
  · refine v_ldc dX6_like_16 kX6_67 ?_
    exact v_iret dX6_like_18 rfl (⟨by unfold R_like; rw [if_neg (by simp [nb1 h4])], FrX.rf Mz⟩)
  · refine v_ild2 dX6_like_7 ?_
    refine v_iconstN (n := 0) dX6_like_8 ?_
    refine v_iconstN (n := 1) dX6_like_9 ?_
    refine v_callSi (kX_outside E _) dX6_like_10 cX6_63 rfl (by decide) (Nat.le_of_ble_eq_true rfl) rfl (fun r M1z hq => ?_)
    obtain ⟨hr, hm⟩ := hq
    rw [hr, hm]
    clear hr hm
    refine v_if_eq (tgt := 19) dX6_like_13 (by decide) (fun h13 => ?_) (fun h13 => ?_)
    · obtain ⟨i, hil, hi, rfl⟩ := inB_n (by decide) (by decide) (nb0 h4)
      obtain ⟨j, hjl, hj, rfl⟩ := inB_n (by decide) (by decide) (nb0 h13)
      have hi4 : i < 4 := by omega
      have hs := sbi hi4
      obtain ⟨hs0, hsz, ⟨hz24, -⟩, hce⟩ := hS i hi4
      refine v_ald0 dX6_like_19 ?_
      refine v_getr dX6_like_20 gX6_40 sh_0 rfl ?_
      refine v_ild1 dX6_like_23 ?_
      refine v_aaldN dX6_like_24 sh_65 rfl (by omega) (by decide) ?_
      refine v_ast3 dX6_like_25 (by decide) ?_
      refine v_ald3 dX6_like_26 ?_
      refine v_geti dX6_like_27 gX6_193 (shS hs) rfl ?_
      refine v_iconst dX6_like_30 rfl ?_
      refine v_icmp_ne (tgt := 37) dX6_like_31 (by decide) (fun h31 => ?_) (fun h31 => ?_)
      · have hso : ¬ so i = -1 := fun e => h31 (hs0.trans e)
        refine v_iconstN (n := 0) dX6_like_37 ?_
        refine v_ist4 dX6_like_38 (by decide) ?_
        refine v_loopP (pc := 40) (fun k _ => [some (.inr 0), some (.inl (nI i)), some (.inl (nI j)), some (.inr (66 + 2 * i)), some (.inl (nI k)), none]) (fun k Mk => FrX Mz Mk ∧ ∀ f, f < k → Mk 91 f = 0) (6) (rfl) (⟨FrX.rf Mz, fun f h => by omega⟩) (fun k Mk hk hM ih => ?_) (fun Mk hM => ?_)
        · obtain ⟨hfr, ha⟩ := hM
          refine v_ild4 dX6_like_40 ?_
          refine v_bipushN (n := 6) dX6_like_42 (by decide) ?_
          refine v_icmpN_ge (tgt := 61) dX6_like_44 (by decide) (by omega) (by omega) (fun h44 => absurd h44 (by omega)) (fun h44 => ?_)
          refine v_ald0 dX6_like_47 ?_
          refine v_getr dX6_like_48 gX6_56 sh_0 rfl ?_
          refine v_ild4 dX6_like_51 ?_
          refine v_iconstN (n := 0) dX6_like_53 ?_
          refine v_iastN dX6_like_54 sh_91 (by omega) (by decide) ?_
          refine v_iincN4 (n := 1) dX6_like_55 (by decide) ?_
          refine v_goto (tgt := 40) dX6_like_58 (by decide) ?_
          refine ih _ ⟨hfr.tr (fun a _ _ _ h => wr_ne h), fun f hf => ?_⟩
          rw [wr_at]
          by_cases e : f = k
          · subst e; rw [pk_us]; rfl
          · rw [pk_un e]; exact ha f (by omega)
        · obtain ⟨hfr, ha⟩ := hM
          have hv0 : cv Mk 38 = cv Mz 38 := cv_fr (by decide) hfr
          refine v_ild4 dX6_like_40 ?_
          refine v_bipushN (n := 6) dX6_like_42 (by decide) ?_
          refine v_icmpN_ge (tgt := 61) dX6_like_44 (by decide) (by omega) (by omega) (fun h44 => ?_) (fun h44 => absurd h44 (by omega))
          refine v_ald0 dX6_like_61 ?_
          refine v_getr dX6_like_62 gX6_35 sh_0 rfl ?_
          refine v_ald0 dX6_like_65 ?_
          refine v_getr dX6_like_66 gX6_28 sh_0 rfl ?_
          refine v_callVv (kC_over_56_38 E Mk) dX6_like_69 cX6_177 rfl sh_56 rfl (by decide) (Nat.le_of_ble_eq_true rfl) rfl (fun M1z hq1 => ?_)
          obtain ⟨hv1, hl1, hf1⟩ := hq1
          have hT1 : TxC M1z 56 tt T := (hT.frX hfr).over CB.trial hv1 hl1 hf1
          refine v_iconstN (n := 0) dX6_like_72 ?_
          refine v_ist4 dX6_like_73 (by decide) ?_
          refine v_loopP (pc := 75) (fun k _ => [some (.inr 0), some (.inl (nI i)), some (.inl (nI j)), some (.inr (66 + 2 * i)), some (.inl (nI k)), none]) (fun k Mk => cv Mk 56 = wksS (pfT tt T) (cv Mz 38) k ∧ FrX Mz Mk ∧ TxC Mk 56 tt T ∧ ∀ f, f < 6 → Mk 91 f = lkA (pfT tt T) (cv Mz 38) (ce i) k f) (sz i) (rfl) (⟨by rw [hv1]; exact hv0, hfr.tr (FrX.t hf1), hT1, fun f hf => by rw [hf1 91 (by omega)]; exact ha f hf⟩) (fun k Mk hk hM ih => ?_) (fun Mk hM => ?_)
          · obtain ⟨hv, hfr, hTk, ha⟩ := hM
            obtain ⟨hIk, -, hk6⟩ := wks_ok (pfT_ok tt T) hI k (by omega)
            rw [← hv] at hIk
            have hfc : ∀ a, a = 66 + 2 * i ∨ a = 66 + 2 * i + 1 → Mk a = Mz a := fun a h => hfr a (by omega) (by omega) (by omega) (by omega)
            have hszk : Mk (66 + 2 * i) 1 = nI (sz i) := by rw [hfc _ (Or.inl rfl)]; exact hsz
            refine v_ild4 dX6_like_75 ?_
            refine v_ald3 dX6_like_77 ?_
            refine v_geti dX6_like_78 gX6_197 (shS hs) rfl ?_
            refine v_eq (hszk) ?_
            refine v_icmpN_ge (tgt := 118) dX6_like_81 (by decide) (by omega) (by omega) (fun h81 => absurd h81 (by omega)) (fun h81 => ?_)
            refine v_ald3 dX6_like_84 ?_
            refine v_ild4 dX6_like_85 ?_
            refine v_callVi (kS_hasNumber E Mk hs (by omega)) dX6_like_87 cX6_200 rfl (shS hs) rfl (by decide) (Nat.le_of_ble_eq_true rfl) rfl (fun r M1z hq => ?_)
            obtain ⟨hr, hm⟩ := hq
            rw [hr, hm]
            clear hr hm
            have hck : Mk (66 + 2 * i + 1) k = ce i k := by rw [hfc _ (Or.inr rfl)]; exact hce k (by omega)
            have hbn : (b2 (!decide (Mk (66 + 2 * i + 1) k = cNONE)) = 0 → Mk (66 + 2 * i + 1) k = cNONE) ∧ (b2 (!decide (Mk (66 + 2 * i + 1) k = cNONE)) ≠ 0 → ¬ Mk (66 + 2 * i + 1) k = cNONE) := ⟨fun h => of_decide_eq_true (nb0 h), fun h => of_decide_eq_false (nb1 h)⟩
            refine v_if_eq (tgt := 104) dX6_like_90 (by decide) (fun h90 => ?_) (fun h90 => ?_)
            · refine v_ald0 dX6_like_104 ?_
              refine v_getr dX6_like_105 gX6_35 sh_0 rfl ?_
              refine v_iconstN (n := 1) dX6_like_108 ?_
              refine v_callVv (kC_pass E Mk (n := 1) CB.trial hIk (by omega) hTk) dX6_like_109 cX6_160 rfl sh_56 rfl (by decide) (Nat.le_of_ble_eq_true rfl) rfl (fun M2z hq2 => ?_)
              refine v_iincN4 (n := 1) dX6_like_112 (by decide) ?_
              refine v_goto (tgt := 75) dX6_like_115 (by decide) ?_
              exact ih _ ⟨by rw [hq2.1, hv]; rfl, hfr.tr (FrX.c hq2.2), hTk.fr CB.trial hq2.2 (by rw [hq2.1]; exact (wks_ok (pfT_ok tt T) hIk 1 (by omega)).2.2), fun f hf => by rw [lkA_n (by rw [← hck]; exact hbn.1 h90)]; exact (congrFun (hq2.2 91 (by omega) (by omega) (by omega)) f).trans (ha f hf)⟩
            · refine v_ald0 dX6_like_93 ?_
              refine v_ald3 dX6_like_94 ?_
              refine v_getr dX6_like_95 gX6_203 (shS hs) rfl ?_
              refine v_ild4 dX6_like_98 ?_
              refine v_ialdN dX6_like_100 (shS1 hs) (by omega) (by decide) ?_
              refine v_callVv (kX_addDiff E Mk hIk) dX6_like_101 cX6_206 rfl sh_0 rfl (by decide) (Nat.le_of_ble_eq_true rfl) rfl (fun M1z hq1 => ?_)
              have hfx1 : FrX Mk M1z := fun a _ _ _ h => hq1.2 a h
              have hv1 : cv M1z 56 = cv Mk 56 := cv_ext (fun k _ => by rw [hq1.2 _ (by omega)]) (fun r _ _ j _ => by rw [hq1.2 _ (by omega)]) (fun j _ => by rw [hq1.2 _ (by omega)]) (fun j _ => by rw [hq1.2 _ (by omega)]) (fun j _ => by rw [hq1.2 _ (by omega)])
              have hI1 : CI (cv M1z 56) (10000 + k) := by rw [hv1]; exact hIk
              have hT1 : TxC M1z 56 tt T := hTk.fr91 hv1 hq1.2
              refine v_ald0 dX6_like_104 ?_
              refine v_getr dX6_like_105 gX6_35 sh_0 rfl ?_
              refine v_iconstN (n := 1) dX6_like_108 ?_
              refine v_callVv (kC_pass E M1z (n := 1) CB.trial hI1 (by omega) hT1) dX6_like_109 cX6_160 rfl sh_56 rfl (by decide) (Nat.le_of_ble_eq_true rfl) rfl (fun M2z hq2 => ?_)
              refine v_iincN4 (n := 1) dX6_like_112 (by decide) ?_
              refine v_goto (tgt := 75) dX6_like_115 (by decide) ?_
              exact ih _ ⟨by rw [hq2.1, hv1, hv]; rfl, (hfr.tr hfx1).tr (FrX.c hq2.2), hT1.fr CB.trial hq2.2 (by rw [hq2.1]; exact (wks_ok (pfT_ok tt T) hI1 1 (by omega)).2.2), fun f hf => by rw [lkA_y (by rw [← hck]; exact hbn.2 h90), ← hv]; exact (congrFun (hq2.2 91 (by omega) (by omega) (by omega)) f).trans ((hq1.1 f hf).trans (by rw [ha f hf, hck]))⟩
          · obtain ⟨hv, hfr, hTk, ha⟩ := hM
            have hfc : ∀ a, a = 66 + 2 * i ∨ a = 66 + 2 * i + 1 → Mk a = Mz a := fun a h => hfr a (by omega) (by omega) (by omega) (by omega)
            have hszk : Mk (66 + 2 * i) 1 = nI (sz i) := by rw [hfc _ (Or.inl rfl)]; exact hsz
            refine v_ild4 dX6_like_75 ?_
            refine v_ald3 dX6_like_77 ?_
            refine v_geti dX6_like_78 gX6_197 (shS hs) rfl ?_
            refine v_eq (hszk) ?_
            refine v_icmpN_ge (tgt := 118) dX6_like_81 (by decide) (by omega) (by omega) (fun h81 => ?_) (fun h81 => absurd h81 (by omega))
            refine v_iconstN (n := 0) dX6_like_118 ?_
            refine v_ist4 dX6_like_119 (by decide) ?_
            refine v_iconstN (n := 1) dX6_like_121 ?_
            refine v_ist5 dX6_like_122 (by decide) ?_
            refine v_loop (pc := 124) (fun q => [some (.inr 0), some (.inl (nI i)), some (.inl (nI j)), some (.inr (66 + 2 * i)), some (.inl (nI (lkB (lkA (pfT tt T) (cv Mz 38) (ce i) (sz i)) q))), some (.inl (nI (q + 1)))]) (fun q => Mk) (5) (rfl) (rfl) (fun q hq5 ihq => ?_) ?_
            · have hle := lkB_le (lkA (pfT tt T) (cv Mz 38) (ce i) (sz i)) q
              refine v_ild5 dX6_like_124 ?_
              refine v_bipushN (n := 6) dX6_like_126 (by decide) ?_
              refine v_icmpN_ge (tgt := 158) dX6_like_128 (by decide) (by omega) (by omega) (fun h128 => absurd h128 (by omega)) (fun h128 => ?_)
              refine v_ald0 dX6_like_131 ?_
              refine v_getr dX6_like_132 gX6_56 sh_0 rfl ?_
              refine v_ild5 dX6_like_135 ?_
              refine v_ialdN dX6_like_137 sh_91 (by omega) (by decide) ?_
              refine v_eq (ha _ (by omega)) ?_
              refine v_ald0 dX6_like_138 ?_
              refine v_getr dX6_like_139 gX6_56 sh_0 rfl ?_
              refine v_ild4 dX6_like_142 ?_
              refine v_ialdN dX6_like_144 sh_91 (by omega) (by decide) ?_
              refine v_eq (ha _ (by omega)) ?_
              refine v_icmp_ge (tgt := 152) dX6_like_145 (by decide) (fun h145 => ?_) (fun h145 => ?_)
              · refine v_iincN5 (n := 1) dX6_like_152 (by decide) ?_
                refine v_goto (tgt := 124) dX6_like_155 (by decide) ?_
                exact v_lo (by rw [show lkB (lkA (pfT tt T) (cv Mz 38) (ce i) (sz i)) (q + 1) = lkB (lkA (pfT tt T) (cv Mz 38) (ce i) (sz i)) q from if_neg (Int32.not_lt.mpr h145)]) ihq
              · refine v_ild5 dX6_like_148 ?_
                refine v_ist4 dX6_like_150 (by decide) ?_
                refine v_iincN5 (n := 1) dX6_like_152 (by decide) ?_
                refine v_goto (tgt := 124) dX6_like_155 (by decide) ?_
                exact v_lo (by rw [show lkB (lkA (pfT tt T) (cv Mz 38) (ce i) (sz i)) (q + 1) = q + 1 from if_pos (Int32.not_le.mp h145)]) ihq
            · have hle := lkB_le (lkA (pfT tt T) (cv Mz 38) (ce i) (sz i)) 5
              refine v_ild5 dX6_like_124 ?_
              refine v_bipushN (n := 6) dX6_like_126 (by decide) ?_
              refine v_icmpN_ge (tgt := 158) dX6_like_128 (by decide) (by omega) (by omega) (fun h128 => ?_) (fun h128 => absurd h128 (by omega))
              refine v_ild2 dX6_like_158 ?_
              refine v_if_ne (tgt := 167) dX6_like_159 (by decide) (fun h159 => ?_) (fun h159 => ?_)
              · refine v_ald0 dX6_like_167 ?_
                refine v_getr dX6_like_168 gX6_56 sh_0 rfl ?_
                refine v_ild4 dX6_like_171 ?_
                refine v_ialdN dX6_like_173 sh_91 (by omega) (by decide) ?_
                
                exact v_iret dX6_like_174 rfl (⟨by unfold R_like; rw [if_pos (by simp [nb0 h4, nb0 h13]), tN_n (p := i) (by omega), if_neg hso, if_neg h159, ha _ (by omega)], hfr⟩)
              · refine v_ild4 dX6_like_162 ?_
                refine v_goto (tgt := 174) dX6_like_164 (by decide) ?_
                
                exact v_iret dX6_like_174 rfl (⟨by unfold R_like; rw [if_pos (by simp [nb0 h4, nb0 h13]), tN_n (p := i) (by omega), if_neg hso, if_pos h159], hfr⟩)
      · refine v_ldc dX6_like_34 kX6_196 ?_
        exact v_iret dX6_like_36 rfl (⟨by unfold R_like; rw [if_pos (by simp [nb0 h4, nb0 h13]), tN_n (p := i) (by omega), if_pos (show so i = -1 from hs0.symm.trans h31)], FrX.rf Mz⟩)
    · refine v_ldc dX6_like_16 kX6_67 ?_
      exact v_iret dX6_like_18 rfl (⟨by unfold R_like; rw [if_neg (by simp [nb0 h4, nb1 h13])], FrX.rf Mz⟩)
theorem DR.off96 {A M M' : mm} (h : DR A M) (g : ∀ a, a ≠ 96 → M' a = M a) : DR A M' := ⟨fun a h1 h2 h3 h4 h5 => (g a h3).trans (h.1 a h1 h2 h3 h4 h5), fun i hi => by rw [g 95 (by decide)]; exact h.2.1 i hi, fun i hi => by rw [g 93 (by decide)]; exact h.2.2 i hi⟩
set_option maxRecDepth 100000 in
set_option maxHeartbeats 4000000 in
theorem aM_like (E : ev) (Mz : mm) {x u : Int32} {T : Nat} {tt : Nat → tx} (hI : CI (mv Mz) 10000) (hT : TxM Mz tt T) {so : Nat → Int32} {sz : Nat → Nat} {ce : Nat → Nat → Int32} (hS : ShM Mz so sz ce) : Ct E 8 yX7_like cX7_like 6 (some .int) [.inr 92, .inl x, .inl u] Mz (qI E (fun r M' => r = R_like (pfT tt T) (mv Mz) so sz ce x u ∧ FrD Mz M')) := by
  refine ct_of (by decide) (Nat.le_of_ble_eq_true rfl) ?_
  show V E 8 _ _ _ _ _ 0 [some (.inr 92), some (.inl x), some (.inl u), none, none, none] [] Mz
  refine v_ild1 dX7_like_0 ?_
  refine v_callSi (kM_isSheet E _) dX7_like_1 cX7_199 rfl (by decide) (Nat.le_of_ble_eq_true rfl) rfl (fun r M1z hq => ?_)
  obtain ⟨hr, hm⟩ := hq
  rw [hr, hm]
  clear hr hm
  refine v_if_eq (tgt := 16) dX7_like_4 (by decide) (fun h4 => ?_) (fun h4 => ?_)
  · refine v_ldc dX7_like_16 kX7_119 ?_
    exact v_iret dX7_like_18 rfl (⟨by unfold R_like; rw [if_neg (by simp [show isS x = false from b2_0.mp h4])], FrD.rf Mz⟩)
  · refine v_ild2 dX7_like_7 ?_
    refine v_iconstN (n := 0) dX7_like_8 ?_
    refine v_iconstN (n := 1) dX7_like_9 ?_
    refine v_callSi (kM_in E _) dX7_like_10 cX7_75 rfl (by decide) (Nat.le_of_ble_eq_true rfl) rfl (fun r M1z hq => ?_)
    obtain ⟨hr, hm⟩ := hq
    rw [hr, hm]
    clear hr hm
    refine v_if_ne (tgt := 19) dX7_like_13 (by decide) (fun h13 => ?_) (fun h13 => ?_)
    · obtain ⟨i, hil, hi, rfl⟩ := inB_n (by decide) (by decide) (b2_1.mp h4)
      obtain ⟨j, hjl, hj, rfl⟩ := inB_n (by decide) (by decide) (b2_1.mp h13)
      have hi4 : i < 4 := by omega
      obtain ⟨hs0, hsz, ⟨hz24, hsor⟩, hce⟩ := hS i hi4
      refine v_ald0 dX7_like_19 ?_
      refine v_getr dX7_like_20 gX7_48 sh_92 rfl ?_
      refine v_ild1 dX7_like_23 ?_
      refine v_ialdN dX7_like_24 sh_105 (by omega) (by decide) ?_
      refine v_eq (hs0) ?_
      refine v_if_ge (tgt := 31) dX7_like_25 (by decide) (fun h25 => ?_) (fun h25 => ?_)
      · have hso : ¬ so i = -1 := fun e => absurd ((so_neg hsor).mpr e) (Int32.not_lt.mpr h25)
        refine v_ald0 dX7_like_31 ?_
        refine v_callVv (kM_dreams E Mz) dX7_like_32 cX7_185 rfl sh_92 rfl (by decide) (Nat.le_of_ble_eq_true rfl) rfl (fun M1z hq => ?_)
        rw [hq]
        clear hq
        refine v_iconstN (n := 0) dX7_like_35 ?_
        refine v_ist3 dX7_like_36 (by decide) ?_
        refine v_loopP (pc := 37) (fun k _ => [some (.inr 92), some (.inl (nI i)), some (.inl (nI j)), some (.inl (nI k)), none, none]) (fun k Mk => DR Mz Mk ∧ Mk 93 = Mz 93 ∧ ∀ f, f < k → Mk 96 f = 0) (6) (rfl) (⟨DR.start Mz, wa_ne (by decide), fun f h => by omega⟩) (fun k Mk hk hM ih => ?_) (fun Mk hM => ?_)
        · obtain ⟨hd, he, ha⟩ := hM
          refine v_ild3 dX7_like_37 ?_
          refine v_bipushN (n := 6) dX7_like_38 (by decide) ?_
          refine v_icmpN_ge (tgt := 56) dX7_like_40 (by decide) (by omega) (by omega) (fun h40 => absurd h40 (by omega)) (fun h40 => ?_)
          refine v_ald0 dX7_like_43 ?_
          refine v_getr dX7_like_44 gX7_19 sh_92 rfl ?_
          refine v_ild3 dX7_like_47 ?_
          refine v_iconstN (n := 0) dX7_like_48 ?_
          refine v_iastN dX7_like_49 sh_96 (by omega) (by decide) ?_
          refine v_iincN3 (n := 1) dX7_like_50 (by decide) ?_
          refine v_goto (tgt := 37) dX7_like_53 (by decide) ?_
          refine ih _ ⟨hd.off96 (fun a h => wr_ne h), (wr_ne (by decide)).trans he, fun f hf => ?_⟩
          rw [wr_at]
          by_cases e : f = k
          · subst e; rw [pk_us]; rfl
          · rw [pk_un e]; exact ha f (by omega)
        · obtain ⟨hd, he, ha⟩ := hM
          refine v_ild3 dX7_like_37 ?_
          refine v_bipushN (n := 6) dX7_like_38 (by decide) ?_
          refine v_icmpN_ge (tgt := 56) dX7_like_40 (by decide) (by omega) (by omega) (fun h40 => ?_) (fun h40 => absurd h40 (by omega))
          refine v_iconstN (n := 0) dX7_like_56 ?_
          refine v_ist3 dX7_like_57 (by decide) ?_
          refine v_loopP (pc := 58) (fun k _ => [some (.inr 92), some (.inl (nI i)), some (.inl (nI j)), some (.inl (nI k)), none, none]) (fun k Mk => mv Mk = wksS (pfT tt T) (mv Mz) k ∧ DR Mz Mk ∧ ∀ f, f < 6 → Mk 96 f = lkA (pfT tt T) (mv Mz) (ce i) k f) (sz i) (rfl) (⟨mv_93 he, hd, ha⟩) (fun k Mk hk hM ih => ?_) (fun Mk hM => ?_)
          · obtain ⟨hv, hd, ha⟩ := hM
            obtain ⟨hIk, -, hk6⟩ := wks_ok (pfT_ok tt T) hI k (by omega)
            rw [← hv] at hIk hk6
            have hTk : TxM Mk tt T := hT.dr hd hk6
            have hszk : Mk 106 i = nI (sz i) := by rw [hd.1 106 (by decide) (by decide) (by decide) (by decide) (by decide)]; exact hsz
            have hck : Mk 107 (24 * i + k) = ce i k := by rw [hd.1 107 (by decide) (by decide) (by decide) (by decide) (by decide)]; exact hce k (by omega)
            refine v_ild3 dX7_like_58 ?_
            refine v_ald0 dX7_like_59 ?_
            refine v_getr dX7_like_60 gX7_51 sh_92 rfl ?_
            refine v_ild1 dX7_like_63 ?_
            refine v_ialdN dX7_like_64 sh_106 (by omega) (by decide) ?_
            refine v_eq (hszk) ?_
            refine v_icmpN_ge (tgt := 136) dX7_like_65 (by decide) (by omega) (by omega) (fun h65 => absurd h65 (by omega)) (fun h65 => ?_)
            refine v_ald0 dX7_like_68 ?_
            refine v_getr dX7_like_69 gX7_54 sh_92 rfl ?_
            refine v_bipushN (n := 24) dX7_like_72 (by decide) ?_
            refine v_ild1 dX7_like_74 ?_
            refine v_imulN dX7_like_75 ?_
            refine v_ild3 dX7_like_76 ?_
            refine v_iaddN dX7_like_77 ?_
            refine v_ialdN dX7_like_78 sh_107 (by omega) (by decide) ?_
            refine v_eq (hck) ?_
            refine v_ist4 dX7_like_79 (by decide) ?_
            refine v_iconstN (n := 0) dX7_like_81 ?_
            refine v_ist5 dX7_like_82 (by decide) ?_
            by_cases hN : ce i k = cNONE
            · have hIk2 := hIk
              have hTk2 := hTk
              refine v_ild5 dX7_like_84 ?_
              refine v_bipushN (n := 6) dX7_like_86 (by decide) ?_
              refine v_icmpN_ge (tgt := 126) dX7_like_88 (by decide) (by omega) (by omega) (fun h88 => absurd h88 (by decide)) (fun h88 => ?_)
              refine v_ild4 dX7_like_91 ?_
              refine v_ldc dX7_like_93 kX7_191 ?_
              refine v_icmp_eq (tgt := 126) dX7_like_95 (by decide) (fun h95 => ?_) (fun h95 => absurd h95 (fun q => q hN))
              refine v_ald0 dX7_like_126 ?_
              refine v_callVv (kM_week E Mk hIk2 (by omega) hTk2) dX7_like_127 cX7_169 rfl sh_92 rfl (by decide) (Nat.le_of_ble_eq_true rfl) rfl (fun M2z hq2 => ?_)
              refine v_iincN3 (n := 1) dX7_like_130 (by decide) ?_
              refine v_goto (tgt := 58) dX7_like_133 (by decide) ?_
              refine v_fg4 (v_fg5 ?_)
              exact ih _ ⟨by rw [hq2.1, hv]; rfl, hd.fr hq2.2, fun f hf => by rw [lkA_n hN]; exact (congrFun (hq2.2.1 96 (by decide) (by decide) (by decide)) f).trans (ha f hf)⟩
            · refine v_loopP (pc := 84) (fun q _ => [some (.inr 92), some (.inl (nI i)), some (.inl (nI j)), some (.inl (nI k)), some (.inl (ce i k)), some (.inl (nI q))]) (fun q Mq => (∀ f, f < 6 → Mq 96 f = if f < q then Mk 96 f + absS (fc (mv Mk) f - ce i k) else Mk 96 f) ∧ ∀ a, a ≠ 96 → Mq a = Mk a) (6) (rfl) (⟨fun f _ => by rw [if_neg (by omega)], fun _ _ => rfl⟩) (fun q Mq hq6 hMq ihq => ?_) (fun Mq hMq => ?_)
              · obtain ⟨haq, hoq⟩ := hMq
                have hmq : mv Mq = mv Mk := mv_93 (hoq 93 (by decide))
                have hIq : CI (mv Mq) (10000 + k) := by rw [hmq]; exact hIk
                refine v_ild5 dX7_like_84 ?_
                refine v_bipushN (n := 6) dX7_like_86 (by decide) ?_
                refine v_icmpN_ge (tgt := 126) dX7_like_88 (by decide) (by omega) (by omega) (fun h88 => absurd h88 (by omega)) (fun h88 => ?_)
                refine v_ild4 dX7_like_91 ?_
                refine v_ldc dX7_like_93 kX7_191 ?_
                refine v_icmp_eq (tgt := 126) dX7_like_95 (by decide) (fun h95 => absurd h95 (hN)) (fun h95 => ?_)
                refine v_ald0 dX7_like_98 ?_
                refine v_getr dX7_like_99 gX7_19 sh_92 rfl ?_
                refine v_ild5 dX7_like_102 ?_
                refine v_dup2 dX7_like_104 ?_
                refine v_ialdN dX7_like_105 sh_96 (by omega) (by decide) ?_
                refine v_ild4 dX7_like_106 ?_
                refine v_ald0 dX7_like_108 ?_
                refine v_ild5 dX7_like_109 ?_
                refine v_callVi (kM_firstOf E Mq hq6 hIq) dX7_like_111 cX7_93 rfl sh_92 rfl (by decide) (Nat.le_of_ble_eq_true rfl) rfl (fun r M1z hq => ?_)
                obtain ⟨hr, hm⟩ := hq
                rw [hr, hm, hmq]
                clear hr hm
                refine v_isub dX7_like_114 ?_
                refine v_callSi (kM_off E Mq) dX7_like_115 cX7_112 rfl (by decide) (Nat.le_of_ble_eq_true rfl) rfl (fun r M1z hq => ?_)
                obtain ⟨hr, hm⟩ := hq
                rw [hr, hm]
                clear hr hm
                refine v_iadd dX7_like_118 ?_
                refine v_iastN dX7_like_119 sh_96 (by omega) (by decide) ?_
                refine v_iincN5 (n := 1) dX7_like_120 (by decide) ?_
                refine v_goto (tgt := 84) dX7_like_123 (by decide) ?_
                refine ihq _ ⟨fun f hf => ?_, fun a h => by rw [wr_ne h]; exact hoq a h⟩
                rw [wr_at]
                by_cases e : f = q
                · subst e
                  rw [pk_us, haq f hf, if_neg (show ¬ f < f by omega), if_pos (show f < f + 1 by omega), absS_sub]
                · rw [pk_un e, haq f hf]
                  by_cases q2 : f < q
                  · rw [if_pos q2, if_pos (by omega)]
                  · rw [if_neg q2, if_neg (by omega)]
              · obtain ⟨haq, hoq⟩ := hMq
                have hmq : mv Mq = mv Mk := mv_93 (hoq 93 (by decide))
                have hIq : CI (mv Mq) (10000 + k) := by rw [hmq]; exact hIk
                have hdq : DR Mz Mq := hd.off96 hoq
                have hIk2 := hIq
                have hTk2 : TxM Mq tt T := hT.dr hdq (by rw [hmq]; exact hk6)
                refine v_ild5 dX7_like_84 ?_
                refine v_bipushN (n := 6) dX7_like_86 (by decide) ?_
                refine v_icmpN_ge (tgt := 126) dX7_like_88 (by decide) (by omega) (by omega) (fun h88 => ?_) (fun h88 => absurd h88 (by decide))
                refine v_ald0 dX7_like_126 ?_
                refine v_callVv (kM_week E Mq hIk2 (by omega) hTk2) dX7_like_127 cX7_169 rfl sh_92 rfl (by decide) (Nat.le_of_ble_eq_true rfl) rfl (fun M2z hq2 => ?_)
                refine v_iincN3 (n := 1) dX7_like_130 (by decide) ?_
                refine v_goto (tgt := 58) dX7_like_133 (by decide) ?_
                refine v_fg4 (v_fg5 ?_)
                exact ih _ ⟨by rw [hq2.1, hmq, hv]; rfl, hdq.fr hq2.2, fun f hf => by rw [lkA_y hN, ← hv]; exact (congrFun (hq2.2.1 96 (by decide) (by decide) (by decide)) f).trans ((haq f hf).trans (by rw [if_pos hf, ha f hf]))⟩
          · obtain ⟨hv, hd, ha⟩ := hM
            have hszk : Mk 106 i = nI (sz i) := by rw [hd.1 106 (by decide) (by decide) (by decide) (by decide) (by decide)]; exact hsz
            refine v_ild3 dX7_like_58 ?_
            refine v_ald0 dX7_like_59 ?_
            refine v_getr dX7_like_60 gX7_51 sh_92 rfl ?_
            refine v_ild1 dX7_like_63 ?_
            refine v_ialdN dX7_like_64 sh_106 (by omega) (by decide) ?_
            refine v_eq (hszk) ?_
            refine v_icmpN_ge (tgt := 136) dX7_like_65 (by decide) (by omega) (by omega) (fun h65 => ?_) (fun h65 => absurd h65 (by omega))
            refine v_ald0 dX7_like_136 ?_
            refine v_callVv (kM_putsBack E Mk) dX7_like_137 cX7_188 rfl sh_92 rfl (by decide) (Nat.le_of_ble_eq_true rfl) rfl (fun M1z hq => ?_)
            rw [hq]
            clear hq
            refine v_iconstN (n := 0) dX7_like_140 ?_
            refine v_ist3 dX7_like_141 (by decide) ?_
            refine v_iconstN (n := 1) dX7_like_142 ?_
            refine v_ist4 dX7_like_143 (by decide) ?_
            have hb := hd.back
            have hab : ∀ f, f < 6 → (wa Mk 93 (cpN 1471 (Mk 95) (Mk 93))) 96 f = lkA (pfT tt T) (mv Mz) (ce i) (sz i) f := fun f hf => by rw [wa_ne (by decide)]; exact ha f hf
            refine v_fg5 ?_
            refine v_loop (pc := 145) (fun q => [some (.inr 92), some (.inl (nI i)), some (.inl (nI j)), some (.inl (nI (lkB (lkA (pfT tt T) (mv Mz) (ce i) (sz i)) q))), some (.inl (nI (q + 1))), none]) (fun q => wa Mk 93 (cpN 1471 (Mk 95) (Mk 93))) (5) (rfl) (rfl) (fun q hq5 ihq => ?_) ?_
            · have hle := lkB_le (lkA (pfT tt T) (mv Mz) (ce i) (sz i)) q
              refine v_ild4 dX7_like_145 ?_
              refine v_bipushN (n := 6) dX7_like_147 (by decide) ?_
              refine v_icmpN_ge (tgt := 181) dX7_like_149 (by decide) (by omega) (by omega) (fun h149 => absurd h149 (by omega)) (fun h149 => ?_)
              refine v_ald0 dX7_like_152 ?_
              refine v_getr dX7_like_153 gX7_19 sh_92 rfl ?_
              refine v_ild4 dX7_like_156 ?_
              refine v_ialdN dX7_like_158 sh_96 (by omega) (by decide) ?_
              refine v_eq (hab _ (by omega)) ?_
              refine v_ald0 dX7_like_159 ?_
              refine v_getr dX7_like_160 gX7_19 sh_92 rfl ?_
              refine v_ild3 dX7_like_163 ?_
              refine v_ialdN dX7_like_164 sh_96 (by omega) (by decide) ?_
              refine v_eq (hab _ (by omega)) ?_
              refine v_icmp_ge (tgt := 173) dX7_like_165 (by decide) (fun h165 => ?_) (fun h165 => ?_)
              · refine v_ild3 dX7_like_173 ?_
                refine v_ist3 dX7_like_174 (by decide) ?_
                refine v_iincN4 (n := 1) dX7_like_175 (by decide) ?_
                refine v_goto (tgt := 145) dX7_like_178 (by decide) ?_
                exact v_lo (by rw [show lkB (lkA (pfT tt T) (mv Mz) (ce i) (sz i)) (q + 1) = lkB (lkA (pfT tt T) (mv Mz) (ce i) (sz i)) q from if_neg (Int32.not_lt.mpr h165)]) ihq
              · refine v_ild4 dX7_like_168 ?_
                refine v_goto (tgt := 174) dX7_like_170 (by decide) ?_
                refine v_ist3 dX7_like_174 (by decide) ?_
                refine v_iincN4 (n := 1) dX7_like_175 (by decide) ?_
                refine v_goto (tgt := 145) dX7_like_178 (by decide) ?_
                exact v_lo (by rw [show lkB (lkA (pfT tt T) (mv Mz) (ce i) (sz i)) (q + 1) = q + 1 from if_pos (Int32.not_le.mp h165)]) ihq
            · have hle := lkB_le (lkA (pfT tt T) (mv Mz) (ce i) (sz i)) 5
              refine v_ild4 dX7_like_145 ?_
              refine v_bipushN (n := 6) dX7_like_147 (by decide) ?_
              refine v_icmpN_ge (tgt := 181) dX7_like_149 (by decide) (by omega) (by omega) (fun h149 => ?_) (fun h149 => absurd h149 (by omega))
              refine v_ild2 dX7_like_181 ?_
              refine v_if_ne (tgt := 189) dX7_like_182 (by decide) (fun h182 => ?_) (fun h182 => ?_)
              · refine v_ald0 dX7_like_189 ?_
                refine v_getr dX7_like_190 gX7_19 sh_92 rfl ?_
                refine v_ild3 dX7_like_193 ?_
                refine v_ialdN dX7_like_194 sh_96 (by omega) (by decide) ?_
                exact v_iret dX7_like_195 rfl (⟨by unfold R_like; rw [if_pos (by simp [b2_1.mp h4, b2_1.mp h13]), tN_n (p := i) (by omega), if_neg hso, if_neg h182, hab _ (by omega)], hb.1.fin hb.2⟩)
              · refine v_ild3 dX7_like_185 ?_
                refine v_goto (tgt := 195) dX7_like_186 (by decide) ?_
                exact v_iret dX7_like_195 rfl (⟨by unfold R_like; rw [if_pos (by simp [b2_1.mp h4, b2_1.mp h13]), tN_n (p := i) (by omega), if_neg hso, if_pos h182], hb.1.fin hb.2⟩)
      · refine v_ldc dX7_like_28 kX7_202 ?_
        exact v_iret dX7_like_30 rfl (⟨by unfold R_like; rw [if_pos (by simp [b2_1.mp h4, b2_1.mp h13]), tN_n (p := i) (by omega), if_pos ((so_neg hsor).mp (Int32.not_le.mp h25))], FrD.rf Mz⟩)
    · refine v_ldc dX7_like_16 kX7_119 ?_
      exact v_iret dX7_like_18 rfl (⟨by unfold R_like; rw [if_neg (by simp [show isS x = true from b2_1.mp h4, b2_0.mp h13])], FrD.rf Mz⟩)
