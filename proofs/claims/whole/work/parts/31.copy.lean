/-! sheets copied -/
def okB (n : Nat) (p m : Int32) : Bool := inB p (nI 0) (nI n) && inB m (nI 0) (nI n - p)
theorem ok_f1 {n : Nat} {p m : Int32} (h : m < 0) : okB n p m = false := by
  unfold okB inB; rw [decide_eq_false (p := nI 0 ≤ m) (Int32.not_le.mpr h)]; simp
theorem ok_f2 {n : Nat} {p m : Int32} (h : p < 0) : okB n p m = false := by
  unfold okB inB; rw [decide_eq_false (p := nI 0 ≤ p) (Int32.not_le.mpr h)]; simp
theorem ok_f3 {n : Nat} {p m : Int32} (h : nI n < p) : okB n p m = false := by
  unfold okB inB; rw [decide_eq_false (p := p ≤ nI n) (Int32.not_le.mpr h)]; simp
theorem ok_f4 {n : Nat} {p m : Int32} (h : ¬ m ≤ nI n - p) : okB n p m = false := by
  unfold okB inB; rw [decide_eq_false (p := m ≤ nI n - p) h]; simp
theorem ok_t {n : Nat} {p m : Int32} (h1 : ¬ m < 0) (h2 : ¬ p < 0) (h3 : ¬ nI n < p) (h4 : m ≤ nI n - p) : okB n p m = true := by
  unfold okB inB
  rw [decide_eq_true (p := nI 0 ≤ p) (Int32.not_lt.mp h2), decide_eq_true (p := nI 0 ≤ m) (Int32.not_lt.mp h1), decide_eq_true (p := p ≤ nI n) (Int32.not_lt.mp h3), decide_eq_true (p := m ≤ nI n - p) h4]; rfl
theorem ok_n {n : Nat} {p m : Int32} (hn : n ≤ 24) (h : okB n p m = true) : ∃ k l, p = nI k ∧ m = nI l ∧ k + l ≤ n := by
  unfold okB at h
  rw [Bool.and_eq_true] at h
  obtain ⟨k, -, hk, rfl⟩ := inB_n (by decide) (by omega) h.1
  have h2 := h.2
  rw [pk_sub hk] at h2
  obtain ⟨l, -, hl, rfl⟩ := inB_n (by decide) (by omega) h2
  exact ⟨k, l, rfl, rfl, by omega⟩
theorem sub_n {n : Nat} {p : Int32} (hn : n ≤ 24) (h : ¬ p < 0) : (nI n - p).toInt = n - p.toInt := by
  have h1 := Int32.toInt_lt p
  rw [Int32.lt_iff_toInt_lt] at h
  have e0 : (0 : Int32).toInt = 0 := rfl
  rw [Int32.toInt_sub, nI_toInt (by omega)]
  unfold Int.bmod; simp only []; split <;> omega
theorem ok_sub {n : Nat} {p m : Int32} (hn : n ≤ 24) (hp : ¬ p < 0) (hm : ¬ m < 0) : okB n p m = true ↔ p ≤ nI n - m := by
  have a := sub_n hn hp
  have b := sub_n hn hm
  have e0 : (0 : Int32).toInt = 0 := rfl
  have hp' := hp
  have hm' := hm
  rw [Int32.lt_iff_toInt_lt] at hp' hm'
  constructor
  · intro h
    obtain ⟨k, l, rfl, rfl, hkl⟩ := ok_n hn h
    rw [Int32.le_iff_toInt_le, b, nI_toInt (by omega), nI_toInt (by omega)]; omega
  · intro h
    rw [Int32.le_iff_toInt_le, b] at h
    refine ok_t hm hp ?_ ?_
    · rw [Int32.lt_iff_toInt_lt, nI_toInt (by omega)]; omega
    · rw [Int32.le_iff_toInt_le, a]; omega
def R_copy (S : s3) (a p b q m : Int32) : Int32 := if (isS a && isS b) = true then (if S.1 (tN a) = -1 ∨ S.1 (tN b) = -1 then cNOTH else if S.1 (tN a) = S.1 (tN b) then (if (okB (S.2.1 (tN a)) p m && okB (S.2.1 (tN b)) q m) = true then m else cINDX) else cKIND) else cBAD
def F_copy (S : s3) (a p b q m : Int32) : s3 := if (isS a && isS b) = true then (if S.1 (tN a) = -1 ∨ S.1 (tN b) = -1 then S else if S.1 (tN a) = S.1 (tN b) then (if (okB (S.2.1 (tN a)) p m && okB (S.2.1 (tN b)) q m) = true then (S.1, S.2.1, fun j => if j = tN b then va_cpy (S.2.2 (tN a)) (S.2.2 j) (tN p) (tN q) (tN m) else S.2.2 j) else S) else S) else S
theorem ShC.cpy {M : mm} {S : s3} {i j p q m : Nat} (h : ShC M S.1 S.2.1 S.2.2) (hi : i < 4) (hj : j < 4) (hp : p + m ≤ 24) (hq : q + m ≤ 24) : ShC3 (wa M (66 + 2 * j + 1) (va_cpy (M (66 + 2 * i + 1)) (M (66 + 2 * j + 1)) p q m)) (S.1, S.2.1, fun t => if t = j then va_cpy (S.2.2 i) (S.2.2 t) p q m else S.2.2 t) := by
  intro t ht
  obtain ⟨a, b, d, g⟩ := h t ht
  have gi := (h i hi).2.2.2
  refine ⟨by rw [wa_ne (by omega)]; exact a, by rw [wa_ne (by omega)]; exact b, d, fun k hk => ?_⟩
  show _ = (if t = j then va_cpy (S.2.2 i) (S.2.2 t) p q m else S.2.2 t) k
  by_cases e : t = j
  · subst e
    rw [wa_at, if_pos rfl]
    by_cases e2 : q ≤ k ∧ k < q + m
    · rw [pk_cpy_in e2.1 e2.2, pk_cpy_in e2.1 e2.2]; exact gi _ (by omega)
    · rw [pk_cpy_out (by omega), pk_cpy_out (by omega)]; exact g k hk
  · rw [wa_ne (by omega), if_neg e]; exact g k hk
theorem ShM.cpy {M M' : mm} {S : s3} {i j p q m : Nat} (h : ShM M S.1 S.2.1 S.2.2) (hi : i < 4) (hj : j < 4) (hp : p + m ≤ 24) (hq : q + m ≤ 24) (h0 : M' 105 = M 105) (h1 : M' 106 = M 106) (hz : ∀ z, M' 107 z = if 24 * j + q ≤ z ∧ z < 24 * j + q + m then M 107 (24 * i + p + (z - (24 * j + q))) else M 107 z) : ShM3 M' (S.1, S.2.1, fun t => if t = j then va_cpy (S.2.2 i) (S.2.2 t) p q m else S.2.2 t) := by
  intro t ht
  obtain ⟨a, b, d, g⟩ := h t ht
  have gi := (h i hi).2.2.2
  refine ⟨by rw [h0]; exact a, by rw [h1]; exact b, d, fun k hk => ?_⟩
  show _ = (if t = j then va_cpy (S.2.2 i) (S.2.2 t) p q m else S.2.2 t) k
  rw [hz]
  by_cases e : t = j
  · subst e
    rw [if_pos (rfl : t = t)]
    by_cases e2 : q ≤ k ∧ k < q + m
    · rw [pk_cpy_in e2.1 e2.2, if_pos (by omega), show 24 * i + p + (24 * t + k - (24 * t + q)) = 24 * i + (p + (k - q)) by omega]; exact gi _ (by omega)
    · rw [pk_cpy_out (by omega), if_neg (by omega)]; exact g k hk
  · rw [if_neg (by omega), if_neg e]; exact g k hk
set_option maxRecDepth 100000 in
set_option maxHeartbeats 4000000 in
theorem kS_lacks (E : ev) (Mz : mm) {s n : Nat} {p m : Int32} (hs : SB s) (hn : Mz s 1 = nI n) : Ct E 0 yX3_lacks cX3_lacks 3 (some .boolean) [.inr s, .inl p, .inl m] Mz (qI E (fun r M' => r = b2 (!okB n p m) ∧ M' = Mz)) := by
  refine ct_of (by decide) (Nat.le_of_ble_eq_true rfl) ?_
  show V E 0 _ _ _ _ _ 0 [some (.inr s), some (.inl p), some (.inl m)] [] Mz
  refine v_ild2 dX3_lacks_0 ?_
  refine v_if_lt (tgt := 26) dX3_lacks_1 (by decide) (fun h1 => ?_) (fun h1 => ?_)
  · refine v_iconstN (n := 1) dX3_lacks_26 ?_
    refine v_goto (tgt := 31) dX3_lacks_27 (by decide) ?_
    exact v_zret dX3_lacks_31 rfl (by decide +kernel) (⟨by rw [ok_f1 h1]; rfl, rfl⟩)
  · refine v_ild1 dX3_lacks_4 ?_
    refine v_if_lt (tgt := 26) dX3_lacks_5 (by decide) (fun h5 => ?_) (fun h5 => ?_)
    · refine v_iconstN (n := 1) dX3_lacks_26 ?_
      refine v_goto (tgt := 31) dX3_lacks_27 (by decide) ?_
      exact v_zret dX3_lacks_31 rfl (by decide +kernel) (⟨by rw [ok_f2 h5]; rfl, rfl⟩)
    · refine v_ild1 dX3_lacks_8 ?_
      refine v_ald0 dX3_lacks_9 ?_
      refine v_geti dX3_lacks_10 gX3_19 (shS hs) rfl ?_
      refine v_eq (hn) ?_
      refine v_icmp_gt (tgt := 26) dX3_lacks_13 (by decide) (fun h13 => ?_) (fun h13 => ?_)
      · refine v_iconstN (n := 1) dX3_lacks_26 ?_
        refine v_goto (tgt := 31) dX3_lacks_27 (by decide) ?_
        exact v_zret dX3_lacks_31 rfl (by decide +kernel) (⟨by rw [ok_f3 h13]; rfl, rfl⟩)
      · refine v_ild2 dX3_lacks_16 ?_
        refine v_ald0 dX3_lacks_17 ?_
        refine v_geti dX3_lacks_18 gX3_19 (shS hs) rfl ?_
        refine v_eq (hn) ?_
        refine v_ild1 dX3_lacks_21 ?_
        refine v_isub dX3_lacks_22 ?_
        refine v_icmp_le (tgt := 30) dX3_lacks_23 (by decide) (fun h23 => ?_) (fun h23 => ?_)
        · refine v_iconstN (n := 0) dX3_lacks_30 ?_
          exact v_zret dX3_lacks_31 rfl (by decide +kernel) (⟨by rw [ok_t h1 h5 h13 h23]; rfl, rfl⟩)
        · refine v_iconstN (n := 1) dX3_lacks_26 ?_
          refine v_goto (tgt := 31) dX3_lacks_27 (by decide) ?_
          exact v_zret dX3_lacks_31 rfl (by decide +kernel) (⟨by rw [ok_f4 h23]; rfl, rfl⟩)
set_option maxRecDepth 100000 in
set_option maxHeartbeats 4000000 in
theorem aX_copy (E : ev) (Mz : mm) {a p b q m : Int32} {so : Nat → Int32} {sz : Nat → Nat} {ce : Nat → Nat → Int32} (hS : ShC Mz so sz ce) : Ct E 2 yX6_copy cX6_copy 8 (some .int) [.inr 0, .inl a, .inl p, .inl b, .inl q, .inl m] Mz (qI E (fun r M' => r = R_copy (so, sz, ce) a p b q m ∧ ShC3 M' (F_copy (so, sz, ce) a p b q m) ∧ FrS Mz M')) := by
  refine ct_of (by decide) (Nat.le_of_ble_eq_true rfl) ?_
  show V E 2 _ _ _ _ _ 0 [some (.inr 0), some (.inl a), some (.inl p), some (.inl b), some (.inl q), some (.inl m), none, none] [] Mz
  refine v_ild1 dX6_copy_0 ?_
  refine v_callSi (kX_noSheet E _) dX6_copy_1 cX6_190 rfl (by decide) (Nat.le_of_ble_eq_true rfl) rfl (fun r M1z hq => ?_)
  obtain ⟨hr, hm⟩ := hq
  rw [hr, hm]
  clear hr hm
  refine v_if_ne (tgt := 14) dX6_copy_4 (by decide) (fun h4 => ?_) (fun h4 => ?_)
  · refine v_ldc dX6_copy_14 kX6_67 ?_
    exact v_iret dX6_copy_16 rfl (⟨by unfold R_copy; rw [if_neg (by simp [nb1 h4])], by unfold F_copy; rw [if_neg (by simp [nb1 h4])]; exact hS, FrS.rf Mz⟩)
  · refine v_ild3 dX6_copy_7 ?_
    refine v_callSi (kX_noSheet E _) dX6_copy_8 cX6_190 rfl (by decide) (Nat.le_of_ble_eq_true rfl) rfl (fun r M1z hq => ?_)
    obtain ⟨hr, hm⟩ := hq
    rw [hr, hm]
    clear hr hm
    refine v_if_eq (tgt := 17) dX6_copy_11 (by decide) (fun h11 => ?_) (fun h11 => ?_)
    · obtain ⟨i, hil, hi, rfl⟩ := inB_n (by decide) (by decide) (nb0 h4)
      obtain ⟨j, hjl, hj, rfl⟩ := inB_n (by decide) (by decide) (nb0 h11)
      have hi4 : i < 4 := by omega
      have hj4 : j < 4 := by omega
      obtain ⟨hs0, hsz, ⟨hz24, hsor⟩, hce⟩ := hS i hi4
      obtain ⟨gs0, gsz, ⟨gz24, gsor⟩, gce⟩ := hS j hj4
      have hs := sbi hi4
      have gs := sbi hj4
      refine v_ald0 dX6_copy_17 ?_
      refine v_getr dX6_copy_18 gX6_40 sh_0 rfl ?_
      refine v_ild1 dX6_copy_21 ?_
      refine v_aaldN dX6_copy_22 sh_65 rfl (by omega) (by decide) ?_
      refine v_ast6 dX6_copy_23 (by decide) ?_
      refine v_ald0 dX6_copy_25 ?_
      refine v_getr dX6_copy_26 gX6_40 sh_0 rfl ?_
      refine v_ild3 dX6_copy_29 ?_
      refine v_aaldN dX6_copy_30 sh_65 rfl (by omega) (by decide) ?_
      refine v_ast7 dX6_copy_31 (by decide) ?_
      refine v_ald6 dX6_copy_33 ?_
      refine v_geti dX6_copy_35 gX6_193 (shS hs) rfl ?_
      refine v_eq (hs0) ?_
      refine v_iconst (x := -1) dX6_copy_38 (by decide) ?_
      refine v_icmp_eq (tgt := 51) dX6_copy_39 (by decide) (fun h39 => ?_) (fun h39 => ?_)
      · refine v_ldc dX6_copy_51 kX6_196 ?_
        exact v_iret dX6_copy_53 rfl (⟨by unfold R_copy; rw [if_pos (by simp [nb0 h4, nb0 h11]), tN_n (p := i) (by omega), tN_n (p := j) (by omega), if_pos (Or.inl h39)], by unfold F_copy; rw [if_pos (by simp [nb0 h4, nb0 h11]), tN_n (p := i) (by omega), tN_n (p := j) (by omega), if_pos (Or.inl h39)]; exact hS, FrS.rf Mz⟩)
      · refine v_ald7 dX6_copy_42 ?_
        refine v_geti dX6_copy_44 gX6_193 (shS gs) rfl ?_
        refine v_eq (gs0) ?_
        refine v_iconst (x := -1) dX6_copy_47 (by decide) ?_
        refine v_icmp_ne (tgt := 54) dX6_copy_48 (by decide) (fun h48 => ?_) (fun h48 => ?_)
        · refine v_ald6 dX6_copy_54 ?_
          refine v_geti dX6_copy_56 gX6_193 (shS hs) rfl ?_
          refine v_eq (hs0) ?_
          refine v_ald7 dX6_copy_59 ?_
          refine v_geti dX6_copy_61 gX6_193 (shS gs) rfl ?_
          refine v_eq (gs0) ?_
          refine v_icmp_eq (tgt := 70) dX6_copy_64 (by decide) (fun h64 => ?_) (fun h64 => ?_)
          · refine v_ald6 dX6_copy_70 ?_
            refine v_ild2 dX6_copy_72 ?_
            refine v_ild5 dX6_copy_73 ?_
            refine v_callVi (kS_lacks E Mz hs hsz) dX6_copy_75 cX6_259 rfl (shS hs) rfl (by decide) (Nat.le_of_ble_eq_true rfl) rfl (fun r M1z hq => ?_)
            obtain ⟨hr, hm⟩ := hq
            rw [hr, hm]
            clear hr hm
            refine v_if_ne (tgt := 93) dX6_copy_78 (by decide) (fun h78 => ?_) (fun h78 => ?_)
            · refine v_ldc dX6_copy_93 kX6_253 ?_
              exact v_iret dX6_copy_95 rfl (⟨by unfold R_copy; rw [if_pos (by simp [nb0 h4, nb0 h11]), tN_n (p := i) (by omega), tN_n (p := j) (by omega), if_neg (fun q => q.elim h39 h48), if_pos h64, if_neg (by show ¬ (okB (sz i) p m && okB (sz j) q m) = true; rw [nb1 h78]; simp)], by unfold F_copy; rw [if_pos (by simp [nb0 h4, nb0 h11]), tN_n (p := i) (by omega), tN_n (p := j) (by omega), if_neg (fun q => q.elim h39 h48), if_pos h64, if_neg (by show ¬ (okB (sz i) p m && okB (sz j) q m) = true; rw [nb1 h78]; simp)]; exact hS, FrS.rf Mz⟩)
            · refine v_ald7 dX6_copy_81 ?_
              refine v_ild4 dX6_copy_83 ?_
              refine v_ild5 dX6_copy_85 ?_
              refine v_callVi (kS_lacks E Mz gs gsz) dX6_copy_87 cX6_259 rfl (shS gs) rfl (by decide) (Nat.le_of_ble_eq_true rfl) rfl (fun r M1z hq => ?_)
              obtain ⟨hr, hm⟩ := hq
              rw [hr, hm]
              clear hr hm
              refine v_if_eq (tgt := 96) dX6_copy_90 (by decide) (fun h90 => ?_) (fun h90 => ?_)
              · obtain ⟨k, n, rfl, rfl, hkn⟩ := ok_n hz24 (nb0 h78)
                obtain ⟨l, n2, rfl, en, hln⟩ := ok_n gz24 (nb0 h90)
                obtain rfl : n = n2 := by rw [← tN_n (p := n) (by omega), en, tN_n (by omega)]
                refine v_ald6 dX6_copy_96 ?_
                refine v_getr dX6_copy_98 gX6_203 (shS hs) rfl ?_
                refine v_ild2 dX6_copy_101 ?_
                refine v_ald7 dX6_copy_102 ?_
                refine v_getr dX6_copy_104 gX6_203 (shS gs) rfl ?_
                refine v_ild4 dX6_copy_107 ?_
                refine v_ild5 dX6_copy_109 ?_
                refine v_acopy dX6_copy_111 aX6_262 (by decide) (Nat.le_of_ble_eq_true rfl) (shS1 hs) (shS1 gs) (by omega) (by omega) (by decide) (by decide) ?_
                refine v_ild5 dX6_copy_114 ?_
                exact v_iret dX6_copy_116 rfl (⟨by unfold R_copy; rw [if_pos (by simp [nb0 h4, nb0 h11]), tN_n (p := i) (by omega), tN_n (p := j) (by omega), if_neg (fun q => q.elim h39 h48), if_pos h64, if_pos (by show (okB (sz i) (nI k) (nI n) && okB (sz j) (nI l) (nI n)) = true; rw [nb0 h78, nb0 h90]; rfl)], by unfold F_copy; rw [if_pos (by simp [nb0 h4, nb0 h11]), tN_n (p := i) (by omega), tN_n (p := j) (by omega), if_neg (fun q => q.elim h39 h48), if_pos h64, if_pos (by show (okB (sz i) (nI k) (nI n) && okB (sz j) (nI l) (nI n)) = true; rw [nb0 h78, nb0 h90]; rfl)]; rw [tN_n (p := k) (by omega), tN_n (p := l) (by omega), tN_n (p := n) (by omega)]; exact hS.cpy hi4 hj4 (by omega) (by omega), fun a h => wa_ne (by omega)⟩)
              · refine v_ldc dX6_copy_93 kX6_253 ?_
                exact v_iret dX6_copy_95 rfl (⟨by unfold R_copy; rw [if_pos (by simp [nb0 h4, nb0 h11]), tN_n (p := i) (by omega), tN_n (p := j) (by omega), if_neg (fun q => q.elim h39 h48), if_pos h64, if_neg (by show ¬ (okB (sz i) p m && okB (sz j) q m) = true; rw [nb1 h90]; simp)], by unfold F_copy; rw [if_pos (by simp [nb0 h4, nb0 h11]), tN_n (p := i) (by omega), tN_n (p := j) (by omega), if_neg (fun q => q.elim h39 h48), if_pos h64, if_neg (by show ¬ (okB (sz i) p m && okB (sz j) q m) = true; rw [nb1 h90]; simp)]; exact hS, FrS.rf Mz⟩)
          · refine v_ldc dX6_copy_67 kX6_106 ?_
            exact v_iret dX6_copy_69 rfl (⟨by unfold R_copy; rw [if_pos (by simp [nb0 h4, nb0 h11]), tN_n (p := i) (by omega), tN_n (p := j) (by omega), if_neg (fun q => q.elim h39 h48), if_neg h64], by unfold F_copy; rw [if_pos (by simp [nb0 h4, nb0 h11]), tN_n (p := i) (by omega), tN_n (p := j) (by omega), if_neg (fun q => q.elim h39 h48), if_neg h64]; exact hS, FrS.rf Mz⟩)
        · refine v_ldc dX6_copy_51 kX6_196 ?_
          exact v_iret dX6_copy_53 rfl (⟨by unfold R_copy; rw [if_pos (by simp [nb0 h4, nb0 h11]), tN_n (p := i) (by omega), tN_n (p := j) (by omega), if_pos (Or.inr h48)], by unfold F_copy; rw [if_pos (by simp [nb0 h4, nb0 h11]), tN_n (p := i) (by omega), tN_n (p := j) (by omega), if_pos (Or.inr h48)]; exact hS, FrS.rf Mz⟩)
    · refine v_ldc dX6_copy_14 kX6_67 ?_
      exact v_iret dX6_copy_16 rfl (⟨by unfold R_copy; rw [if_neg (by simp [nb0 h4, nb1 h11])], by unfold F_copy; rw [if_neg (by simp [nb0 h4, nb1 h11])]; exact hS, FrS.rf Mz⟩)
set_option maxRecDepth 100000 in
set_option maxHeartbeats 4000000 in
theorem aM_copy (E : ev) (Mz : mm) {a p b q m : Int32} {so : Nat → Int32} {sz : Nat → Nat} {ce : Nat → Nat → Int32} (hS : ShM Mz so sz ce) : Ct E 2 yX7_copy cX7_copy 7 (some .int) [.inr 92, .inl a, .inl p, .inl b, .inl q, .inl m] Mz (qI E (fun r M' => r = R_copy (so, sz, ce) a p b q m ∧ ShM3 M' (F_copy (so, sz, ce) a p b q m) ∧ FrZ Mz M')) := by
  refine ct_of (by decide) (Nat.le_of_ble_eq_true rfl) ?_
  show V E 2 _ _ _ _ _ 0 [some (.inr 92), some (.inl a), some (.inl p), some (.inl b), some (.inl q), some (.inl m), none] [] Mz
  refine v_ild1 dX7_copy_0 ?_
  refine v_callSi (kM_isSheet E _) dX7_copy_1 cX7_199 rfl (by decide) (Nat.le_of_ble_eq_true rfl) rfl (fun r M1z hq => ?_)
  obtain ⟨hr, hm⟩ := hq
  rw [hr, hm]
  clear hr hm
  refine v_if_eq (tgt := 14) dX7_copy_4 (by decide) (fun h4 => ?_) (fun h4 => ?_)
  · refine v_ldc dX7_copy_14 kX7_119 ?_
    exact v_iret dX7_copy_16 rfl (⟨by unfold R_copy; rw [if_neg (by simp [show isS a = false from b2_0.mp h4])], by unfold F_copy; rw [if_neg (by simp [show isS a = false from b2_0.mp h4])]; exact hS, FrZ.rf Mz⟩)
  · refine v_ild3 dX7_copy_7 ?_
    refine v_callSi (kM_isSheet E _) dX7_copy_8 cX7_199 rfl (by decide) (Nat.le_of_ble_eq_true rfl) rfl (fun r M1z hq => ?_)
    obtain ⟨hr, hm⟩ := hq
    rw [hr, hm]
    clear hr hm
    refine v_if_ne (tgt := 17) dX7_copy_11 (by decide) (fun h11 => ?_) (fun h11 => ?_)
    · obtain ⟨i, hil, hi, rfl⟩ := inB_n (by decide) (by decide) (b2_1.mp h4)
      obtain ⟨j, hjl, hj, rfl⟩ := inB_n (by decide) (by decide) (b2_1.mp h11)
      have hi4 : i < 4 := by omega
      have hj4 : j < 4 := by omega
      obtain ⟨hs0, hsz, ⟨hz24, hsor⟩, hce⟩ := hS i hi4
      obtain ⟨gs0, gsz, ⟨gz24, gsor⟩, gce⟩ := hS j hj4
      refine v_ald0 dX7_copy_17 ?_
      refine v_getr dX7_copy_18 gX7_48 sh_92 rfl ?_
      refine v_ild1 dX7_copy_21 ?_
      refine v_ialdN dX7_copy_22 sh_105 (by omega) (by decide) ?_
      refine v_eq (hs0) ?_
      refine v_if_lt (tgt := 35) dX7_copy_23 (by decide) (fun h23 => ?_) (fun h23 => ?_)
      · refine v_ldc dX7_copy_35 kX7_202 ?_
        exact v_iret dX7_copy_37 rfl (⟨by unfold R_copy; rw [if_pos (by simp [b2_1.mp h4, b2_1.mp h11]), tN_n (p := i) (by omega), tN_n (p := j) (by omega), if_pos (Or.inl ((so_neg hsor).mp h23))], by unfold F_copy; rw [if_pos (by simp [b2_1.mp h4, b2_1.mp h11]), tN_n (p := i) (by omega), tN_n (p := j) (by omega), if_pos (Or.inl ((so_neg hsor).mp h23))]; exact hS, FrZ.rf Mz⟩)
      · refine v_ald0 dX7_copy_26 ?_
        refine v_getr dX7_copy_27 gX7_48 sh_92 rfl ?_
        refine v_ild3 dX7_copy_30 ?_
        refine v_ialdN dX7_copy_31 sh_105 (by omega) (by decide) ?_
        refine v_eq (gs0) ?_
        refine v_if_ge (tgt := 38) dX7_copy_32 (by decide) (fun h32 => ?_) (fun h32 => ?_)
        · have hno : ¬ (so i = -1 ∨ so j = -1) := fun q => q.elim (fun e => h23 ((so_neg hsor).mpr e)) (fun e => absurd ((so_neg gsor).mpr e) (Int32.not_lt.mpr h32))
          refine v_ald0 dX7_copy_38 ?_
          refine v_getr dX7_copy_39 gX7_48 sh_92 rfl ?_
          refine v_ild1 dX7_copy_42 ?_
          refine v_ialdN dX7_copy_43 sh_105 (by omega) (by decide) ?_
          refine v_eq (hs0) ?_
          refine v_ald0 dX7_copy_44 ?_
          refine v_getr dX7_copy_45 gX7_48 sh_92 rfl ?_
          refine v_ild3 dX7_copy_48 ?_
          refine v_ialdN dX7_copy_49 sh_105 (by omega) (by decide) ?_
          refine v_eq (gs0) ?_
          refine v_icmp_eq (tgt := 56) dX7_copy_50 (by decide) (fun h50 => ?_) (fun h50 => ?_)
          · refine v_ild2 dX7_copy_56 ?_
            refine v_if_lt (tgt := 97) dX7_copy_57 (by decide) (fun h57 => ?_) (fun h57 => ?_)
            · refine v_ldcw dX7_copy_97 kX7_272 ?_
              exact v_iret dX7_copy_100 rfl (⟨by unfold R_copy; rw [if_pos (by simp [b2_1.mp h4, b2_1.mp h11]), tN_n (p := i) (by omega), tN_n (p := j) (by omega), if_neg hno, if_pos h50, if_neg (by show ¬ (okB (sz i) p m && okB (sz j) q m) = true; rw [ok_f2 h57]; simp)], by unfold F_copy; rw [if_pos (by simp [b2_1.mp h4, b2_1.mp h11]), tN_n (p := i) (by omega), tN_n (p := j) (by omega), if_neg hno, if_pos h50, if_neg (by show ¬ (okB (sz i) p m && okB (sz j) q m) = true; rw [ok_f2 h57]; simp)]; exact hS, FrZ.rf Mz⟩)
            · refine v_ild4 dX7_copy_60 ?_
              refine v_if_lt (tgt := 97) dX7_copy_62 (by decide) (fun h62 => ?_) (fun h62 => ?_)
              · refine v_ldcw dX7_copy_97 kX7_272 ?_
                exact v_iret dX7_copy_100 rfl (⟨by unfold R_copy; rw [if_pos (by simp [b2_1.mp h4, b2_1.mp h11]), tN_n (p := i) (by omega), tN_n (p := j) (by omega), if_neg hno, if_pos h50, if_neg (by show ¬ (okB (sz i) p m && okB (sz j) q m) = true; rw [ok_f2 (n := sz j) (m := m) h62]; simp)], by unfold F_copy; rw [if_pos (by simp [b2_1.mp h4, b2_1.mp h11]), tN_n (p := i) (by omega), tN_n (p := j) (by omega), if_neg hno, if_pos h50, if_neg (by show ¬ (okB (sz i) p m && okB (sz j) q m) = true; rw [ok_f2 (n := sz j) (m := m) h62]; simp)]; exact hS, FrZ.rf Mz⟩)
              · refine v_ild5 dX7_copy_65 ?_
                refine v_if_lt (tgt := 97) dX7_copy_67 (by decide) (fun h67 => ?_) (fun h67 => ?_)
                · refine v_ldcw dX7_copy_97 kX7_272 ?_
                  exact v_iret dX7_copy_100 rfl (⟨by unfold R_copy; rw [if_pos (by simp [b2_1.mp h4, b2_1.mp h11]), tN_n (p := i) (by omega), tN_n (p := j) (by omega), if_neg hno, if_pos h50, if_neg (by show ¬ (okB (sz i) p m && okB (sz j) q m) = true; rw [ok_f1 h67]; simp)], by unfold F_copy; rw [if_pos (by simp [b2_1.mp h4, b2_1.mp h11]), tN_n (p := i) (by omega), tN_n (p := j) (by omega), if_neg hno, if_pos h50, if_neg (by show ¬ (okB (sz i) p m && okB (sz j) q m) = true; rw [ok_f1 h67]; simp)]; exact hS, FrZ.rf Mz⟩)
                · refine v_ild2 dX7_copy_70 ?_
                  refine v_ald0 dX7_copy_71 ?_
                  refine v_getr dX7_copy_72 gX7_51 sh_92 rfl ?_
                  refine v_ild1 dX7_copy_75 ?_
                  refine v_ialdN dX7_copy_76 sh_106 (by omega) (by decide) ?_
                  refine v_eq (hsz) ?_
                  refine v_ild5 dX7_copy_77 ?_
                  refine v_isub dX7_copy_79 ?_
                  refine v_icmp_gt (tgt := 97) dX7_copy_80 (by decide) (fun h80 => ?_) (fun h80 => ?_)
                  · refine v_ldcw dX7_copy_97 kX7_272 ?_
                    exact v_iret dX7_copy_100 rfl (⟨by unfold R_copy; rw [if_pos (by simp [b2_1.mp h4, b2_1.mp h11]), tN_n (p := i) (by omega), tN_n (p := j) (by omega), if_neg hno, if_pos h50, if_neg (by show ¬ (okB (sz i) p m && okB (sz j) q m) = true; rw [show okB (sz i) p m = false from Bool.eq_false_iff.mpr (fun q => absurd ((ok_sub hz24 h57 h67).mp q) (Int32.not_le.mpr h80))]; simp)], by unfold F_copy; rw [if_pos (by simp [b2_1.mp h4, b2_1.mp h11]), tN_n (p := i) (by omega), tN_n (p := j) (by omega), if_neg hno, if_pos h50, if_neg (by show ¬ (okB (sz i) p m && okB (sz j) q m) = true; rw [show okB (sz i) p m = false from Bool.eq_false_iff.mpr (fun q => absurd ((ok_sub hz24 h57 h67).mp q) (Int32.not_le.mpr h80))]; simp)]; exact hS, FrZ.rf Mz⟩)
                  · refine v_ild4 dX7_copy_83 ?_
                    refine v_ald0 dX7_copy_85 ?_
                    refine v_getr dX7_copy_86 gX7_51 sh_92 rfl ?_
                    refine v_ild3 dX7_copy_89 ?_
                    refine v_ialdN dX7_copy_90 sh_106 (by omega) (by decide) ?_
                    refine v_eq (gsz) ?_
                    refine v_ild5 dX7_copy_91 ?_
                    refine v_isub dX7_copy_93 ?_
                    refine v_icmp_le (tgt := 101) dX7_copy_94 (by decide) (fun h94 => ?_) (fun h94 => ?_)
                    · have ok1 := (ok_sub hz24 h57 h67).mpr (Int32.not_lt.mp h80)
                      have ok2 := (ok_sub gz24 h62 h67).mpr h94
                      obtain ⟨k, n, rfl, rfl, hkn⟩ := ok_n hz24 ok1
                      obtain ⟨l, n2, rfl, en, hln⟩ := ok_n gz24 ok2
                      obtain rfl : n = n2 := by rw [← tN_n (p := n) (by omega), en, tN_n (by omega)]
                      have hok : (okB (sz i) (nI k) (nI n) && okB (sz j) (nI l) (nI n)) = true := by rw [ok1, ok2]; rfl
                      refine v_iconstN (n := 0) dX7_copy_101 ?_
                      refine v_ist6 dX7_copy_102 (by decide) ?_
                      refine v_loopP (pc := 104) (fun t _ => [some (.inr 92), some (.inl (nI i)), some (.inl (nI k)), some (.inl (nI j)), some (.inl (nI l)), some (.inl (nI n)), some (.inl (nI t))]) (fun t Mk => (∀ z, z < t → Mk 112 z = Mz 107 (24 * i + k + z)) ∧ ∀ z, z ≠ 112 → Mk z = Mz z) (n) (rfl) (⟨fun z h => by omega, fun _ _ => rfl⟩) (fun t Mk ht1 hM ih => ?_) (fun Mk hM => ?_)
                      · obtain ⟨hmv, ho1⟩ := hM
                        refine v_ild6 dX7_copy_104 ?_
                        refine v_ild5 dX7_copy_106 ?_
                        refine v_icmpN_ge (tgt := 138) dX7_copy_108 (by decide) (by omega) (by omega) (fun h108 => absurd h108 (by omega)) (fun h108 => ?_)
                        refine v_ald0 dX7_copy_111 ?_
                        refine v_getr dX7_copy_112 gX7_69 sh_92 rfl ?_
                        refine v_ild6 dX7_copy_115 ?_
                        refine v_ald0 dX7_copy_117 ?_
                        refine v_getr dX7_copy_118 gX7_54 sh_92 rfl ?_
                        refine v_bipushN (n := 24) dX7_copy_121 (by decide) ?_
                        refine v_ild1 dX7_copy_123 ?_
                        refine v_imulN dX7_copy_124 ?_
                        refine v_ild2 dX7_copy_125 ?_
                        refine v_iaddN dX7_copy_126 ?_
                        refine v_ild6 dX7_copy_127 ?_
                        refine v_iaddN dX7_copy_129 ?_
                        refine v_ialdN dX7_copy_130 sh_107 (by omega) (by decide) ?_
                        refine v_iastN dX7_copy_131 sh_112 (by omega) (by decide) ?_
                        refine v_iincN6 (n := 1) dX7_copy_132 (by decide) ?_
                        refine v_goto (tgt := 104) dX7_copy_135 (by decide) ?_
                        refine ih _ ⟨fun z hz => ?_, fun z h => by rw [wr_ne h]; exact ho1 z h⟩
                        rw [wr_at]
                        by_cases e : z = t
                        · subst e; rw [pk_us, ho1 107 (by decide)]
                        · rw [pk_un e]; exact hmv z (by omega)
                      · obtain ⟨hmv, ho1⟩ := hM
                        refine v_ild6 dX7_copy_104 ?_
                        refine v_ild5 dX7_copy_106 ?_
                        refine v_icmpN_ge (tgt := 138) dX7_copy_108 (by decide) (by omega) (by omega) (fun h108 => ?_) (fun h108 => absurd h108 (by omega))
                        refine v_iconstN (n := 0) dX7_copy_138 ?_
                        refine v_ist6 dX7_copy_139 (by decide) ?_
                        refine v_loopP (pc := 141) (fun t _ => [some (.inr 92), some (.inl (nI i)), some (.inl (nI k)), some (.inl (nI j)), some (.inl (nI l)), some (.inl (nI n)), some (.inl (nI t))]) (fun t M2 => M2 112 = Mk 112 ∧ (∀ z, z ≠ 107 → z ≠ 112 → M2 z = Mz z) ∧ ∀ z, M2 107 z = if 24 * j + l ≤ z ∧ z < 24 * j + l + t then Mz 107 (24 * i + k + (z - (24 * j + l))) else Mz 107 z) (n) (rfl) (⟨rfl, fun z _ h => ho1 z h, fun z => by rw [if_neg (by omega), ho1 107 (by decide)]⟩) (fun t M2 ht2 hM2 ih2 => ?_) (fun M2 hM2 => ?_)
                        · obtain ⟨hm2, ho2, hz2⟩ := hM2
                          refine v_ild6 dX7_copy_141 ?_
                          refine v_ild5 dX7_copy_143 ?_
                          refine v_icmpN_ge (tgt := 176) dX7_copy_145 (by decide) (by omega) (by omega) (fun h145 => absurd h145 (by omega)) (fun h145 => ?_)
                          refine v_ald0 dX7_copy_148 ?_
                          refine v_getr dX7_copy_149 gX7_54 sh_92 rfl ?_
                          refine v_bipushN (n := 24) dX7_copy_152 (by decide) ?_
                          refine v_ild3 dX7_copy_154 ?_
                          refine v_imulN dX7_copy_155 ?_
                          refine v_ild4 dX7_copy_156 ?_
                          refine v_iaddN dX7_copy_158 ?_
                          refine v_ild6 dX7_copy_159 ?_
                          refine v_iaddN dX7_copy_161 ?_
                          refine v_ald0 dX7_copy_162 ?_
                          refine v_getr dX7_copy_163 gX7_69 sh_92 rfl ?_
                          refine v_ild6 dX7_copy_166 ?_
                          refine v_ialdN dX7_copy_168 sh_112 (by omega) (by decide) ?_
                          refine v_iastN dX7_copy_169 sh_107 (by omega) (by decide) ?_
                          refine v_iincN6 (n := 1) dX7_copy_170 (by decide) ?_
                          refine v_goto (tgt := 141) dX7_copy_173 (by decide) ?_
                          refine ih2 _ ⟨by rw [wr_ne (by decide)]; exact hm2, fun z h1 h2 => by rw [wr_ne h1]; exact ho2 z h1 h2, fun z => ?_⟩
                          rw [wr_at]
                          by_cases e : z = 24 * j + l + t
                          · subst e
                            rw [pk_us, if_pos (by omega), hm2, hmv t (by omega), show 24 * i + k + (24 * j + l + t - (24 * j + l)) = 24 * i + k + t by omega]
                          · rw [pk_un e, hz2 z]
                            by_cases e2 : 24 * j + l ≤ z ∧ z < 24 * j + l + t
                            · rw [if_pos e2, if_pos (by omega)]
                            · rw [if_neg e2, if_neg (by omega)]
                        · obtain ⟨hm2, ho2, hz2⟩ := hM2
                          refine v_ild6 dX7_copy_141 ?_
                          refine v_ild5 dX7_copy_143 ?_
                          refine v_icmpN_ge (tgt := 176) dX7_copy_145 (by decide) (by omega) (by omega) (fun h145 => ?_) (fun h145 => absurd h145 (by omega))
                          refine v_ild5 dX7_copy_176 ?_
                          exact v_iret dX7_copy_178 rfl (⟨by unfold R_copy; rw [if_pos (by simp [b2_1.mp h4, b2_1.mp h11]), tN_n (p := i) (by omega), tN_n (p := j) (by omega), if_neg hno, if_pos h50, if_pos hok], by unfold F_copy; rw [if_pos (by simp [b2_1.mp h4, b2_1.mp h11]), tN_n (p := i) (by omega), tN_n (p := j) (by omega), if_neg hno, if_pos h50, if_pos hok]; rw [tN_n (p := k) (by omega), tN_n (p := l) (by omega), tN_n (p := n) (by omega)]; exact hS.cpy hi4 hj4 (by omega) (by omega) (ho2 105 (by decide) (by decide)) (ho2 106 (by decide) (by decide)) hz2, fun z _ _ h3 h4 => ho2 z h3 h4⟩)
                    · refine v_ldcw dX7_copy_97 kX7_272 ?_
                      exact v_iret dX7_copy_100 rfl (⟨by unfold R_copy; rw [if_pos (by simp [b2_1.mp h4, b2_1.mp h11]), tN_n (p := i) (by omega), tN_n (p := j) (by omega), if_neg hno, if_pos h50, if_neg (by show ¬ (okB (sz i) p m && okB (sz j) q m) = true; rw [show okB (sz j) q m = false from Bool.eq_false_iff.mpr (fun q => absurd ((ok_sub gz24 h62 h67).mp q) h94)]; simp)], by unfold F_copy; rw [if_pos (by simp [b2_1.mp h4, b2_1.mp h11]), tN_n (p := i) (by omega), tN_n (p := j) (by omega), if_neg hno, if_pos h50, if_neg (by show ¬ (okB (sz i) p m && okB (sz j) q m) = true; rw [show okB (sz j) q m = false from Bool.eq_false_iff.mpr (fun q => absurd ((ok_sub gz24 h62 h67).mp q) h94)]; simp)]; exact hS, FrZ.rf Mz⟩)
          · refine v_ldc dX7_copy_53 kX7_141 ?_
            exact v_iret dX7_copy_55 rfl (⟨by unfold R_copy; rw [if_pos (by simp [b2_1.mp h4, b2_1.mp h11]), tN_n (p := i) (by omega), tN_n (p := j) (by omega), if_neg hno, if_neg h50], by unfold F_copy; rw [if_pos (by simp [b2_1.mp h4, b2_1.mp h11]), tN_n (p := i) (by omega), tN_n (p := j) (by omega), if_neg hno, if_neg h50]; exact hS, FrZ.rf Mz⟩)
        · refine v_ldc dX7_copy_35 kX7_202 ?_
          exact v_iret dX7_copy_37 rfl (⟨by unfold R_copy; rw [if_pos (by simp [b2_1.mp h4, b2_1.mp h11]), tN_n (p := i) (by omega), tN_n (p := j) (by omega), if_pos (Or.inr ((so_neg gsor).mp (Int32.not_le.mp h32)))], by unfold F_copy; rw [if_pos (by simp [b2_1.mp h4, b2_1.mp h11]), tN_n (p := i) (by omega), tN_n (p := j) (by omega), if_pos (Or.inr ((so_neg gsor).mp (Int32.not_le.mp h32)))]; exact hS, FrZ.rf Mz⟩)
    · refine v_ldc dX7_copy_14 kX7_119 ?_
      exact v_iret dX7_copy_16 rfl (⟨by unfold R_copy; rw [if_neg (by simp [show isS a = true from b2_1.mp h4, show isS b = false from b2_0.mp h11])], by unfold F_copy; rw [if_neg (by simp [show isS a = true from b2_1.mp h4, show isS b = false from b2_0.mp h11])]; exact hS, FrZ.rf Mz⟩)
