/-! a sheet marked -/
def setC (S : s3) (i k : Nat) (v : Int32) : s3 := (S.1, S.2.1, fun j => if j = i then upd (S.2.2 j) k v else S.2.2 j)
theorem ShC.cel {M : mm} {S : s3} {i k : Nat} {v : Int32} (h : ShC M S.1 S.2.1 S.2.2) (hi : i < 4) : ShC3 (wr M (66 + 2 * i + 1) k v) (setC S i k v) := by
  intro j hj
  obtain ⟨a, b, d, g⟩ := h j hj
  refine ⟨by rw [wr_ne (by omega)]; exact a, by rw [wr_ne (by omega)]; exact b, d, fun q hq => ?_⟩
  show _ = (if j = i then upd (S.2.2 j) k v else S.2.2 j) q
  by_cases e : j = i
  · subst e
    rw [wr_at, if_pos rfl]
    by_cases e2 : q = k
    · subst e2; rw [pk_us, pk_us]
    · rw [pk_un e2, pk_un e2]; exact g q hq
  · rw [wr_ne (by omega), if_neg e]; exact g q hq
theorem ShM.cel {M : mm} {S : s3} {i k : Nat} {v : Int32} (h : ShM M S.1 S.2.1 S.2.2) (hi : i < 4) (hk : k < 24) : ShM3 (wr M 107 (24 * i + k) v) (setC S i k v) := by
  intro j hj
  obtain ⟨a, b, d, g⟩ := h j hj
  refine ⟨by rw [wr_ne (by omega)]; exact a, by rw [wr_ne (by omega)]; exact b, d, fun q hq => ?_⟩
  show _ = (if j = i then upd (S.2.2 j) k v else S.2.2 j) q
  rw [wr_at]
  by_cases e : j = i
  · subst e
    rw [if_pos rfl]
    by_cases e2 : q = k
    · subst e2; rw [pk_us, pk_us]
    · rw [pk_un e2, pk_un (by omega)]; exact g q hq
  · rw [if_neg e, pk_un (by omega)]; exact g q hq
/-- a place of a row of n -/
theorem inP {p : Int32} {n : Nat} (hn : n ≤ 24) (h : inB p (nI 0) (nI n - nI 1) = true) : ∃ k, k < n ∧ p = nI k := by
  cases n with
  | zero => exact absurd h (by
      unfold inB
      simp only [Bool.and_eq_true, decide_eq_true_eq, Int32.le_iff_toInt_le]
      rw [show (nI 0).toInt = 0 from rfl, show (nI 0 - nI 1).toInt = -1 from rfl]
      omega)
  | succ n =>
    rw [show nI (n + 1) - nI 1 = nI n from nI_pred n] at h
    obtain ⟨k, -, hk, e⟩ := inB_n (by decide) (by omega) h
    exact ⟨k, by omega, e⟩
def shv (y : Int32) : Int32 := y.toInt16.toInt32
def R_mark (S : s3) (x p y : Int32) : Int32 := if isS x = true then (if S.1 (tN x) = -1 then cNOTH else if inB p (nI 0) (nI (S.2.1 (tN x)) - nI 1) = true then (if S.1 (tN x) = nI 0 then (if y = cNONE then cKIND else nI 1) else (if y = cNONE then nI 1 else if inB y (-99999) 99999 = true then nI 1 else cBAD)) else cINDX) else cBAD
def F_mark (S : s3) (x p y : Int32) : s3 := if isS x = true then (if S.1 (tN x) = -1 then S else if inB p (nI 0) (nI (S.2.1 (tN x)) - nI 1) = true then (if S.1 (tN x) = nI 0 then (if y = cNONE then S else setC S (tN x) (tN p) (shv y)) else (if y = cNONE then setC S (tN x) (tN p) y else if inB y (-99999) 99999 = true then setC S (tN x) (tN p) y else S)) else S) else S
set_option maxRecDepth 100000 in
set_option maxHeartbeats 4000000 in
theorem aX_mark (E : ev) (Mz : mm) {x p y : Int32} {so : Nat → Int32} {sz : Nat → Nat} {ce : Nat → Nat → Int32} (hS : ShC Mz so sz ce) : Ct E 2 yX6_mark cX6_mark 5 (some .int) [.inr 0, .inl x, .inl p, .inl y] Mz (qI E (fun r M' => r = R_mark (so, sz, ce) x p y ∧ ShC3 M' (F_mark (so, sz, ce) x p y) ∧ FrS Mz M')) := by
  refine ct_of (by decide) (Nat.le_of_ble_eq_true rfl) ?_
  show V E 2 _ _ _ _ _ 0 [some (.inr 0), some (.inl x), some (.inl p), some (.inl y), none] [] Mz
  refine v_ild1 dX6_mark_0 ?_
  refine v_callSi (kX_noSheet E _) dX6_mark_1 cX6_190 rfl (by decide) (Nat.le_of_ble_eq_true rfl) rfl (fun r M1z hq => ?_)
  obtain ⟨hr, hm⟩ := hq
  rw [hr, hm]
  clear hr hm
  refine v_if_eq (tgt := 10) dX6_mark_4 (by decide) (fun h4 => ?_) (fun h4 => ?_)
  · obtain ⟨i, hil, hi, rfl⟩ := inB_n (by decide) (by decide) (nb0 h4)
    have hi4 : i < 4 := by omega
    have hs := sbi hi4
    obtain ⟨hs0, hsz, ⟨hz24, hsor⟩, hce⟩ := hS i hi4
    refine v_ald0 dX6_mark_10 ?_
    refine v_getr dX6_mark_11 gX6_40 sh_0 rfl ?_
    refine v_ild1 dX6_mark_14 ?_
    refine v_aaldN dX6_mark_15 sh_65 rfl (by omega) (by decide) ?_
    refine v_ast4 dX6_mark_16 (by decide) ?_
    refine v_ald4 dX6_mark_18 ?_
    refine v_geti dX6_mark_20 gX6_193 (shS hs) rfl ?_
    refine v_eq (hs0) ?_
    refine v_iconst (x := -1) dX6_mark_23 (by decide) ?_
    refine v_icmp_ne (tgt := 30) dX6_mark_24 (by decide) (fun h24 => ?_) (fun h24 => ?_)
    · have hso : ¬ so i = -1 := h24
      refine v_ild2 dX6_mark_30 ?_
      refine v_iconstN (n := 0) dX6_mark_31 ?_
      refine v_ald4 dX6_mark_32 ?_
      refine v_geti dX6_mark_34 gX6_197 (shS hs) rfl ?_
      refine v_eq (hsz) ?_
      refine v_iconstN (n := 1) dX6_mark_37 ?_
      refine v_isub dX6_mark_38 ?_
      refine v_callSi (kX_outside E _) dX6_mark_39 cX6_63 rfl (by decide) (Nat.le_of_ble_eq_true rfl) rfl (fun r M1z hq => ?_)
      obtain ⟨hr, hm⟩ := hq
      rw [hr, hm]
      clear hr hm
      refine v_if_eq (tgt := 48) dX6_mark_42 (by decide) (fun h42 => ?_) (fun h42 => ?_)
      · obtain ⟨k, hk, rfl⟩ := inP hz24 (nb0 h42)
        refine v_ald4 dX6_mark_48 ?_
        refine v_geti dX6_mark_50 gX6_193 (shS hs) rfl ?_
        refine v_eq (hs0) ?_
        refine v_if_ne (tgt := 76) dX6_mark_53 (by decide) (fun h53 => ?_) (fun h53 => ?_)
        · have hz0 : ¬ so i = nI 0 := h53
          refine v_ild3 dX6_mark_76 ?_
          refine v_ldc dX6_mark_77 kX6_181 ?_
          refine v_icmp_eq (tgt := 96) dX6_mark_79 (by decide) (fun h79 => ?_) (fun h79 => ?_)
          · refine v_ald4 dX6_mark_96 ?_
            refine v_getr dX6_mark_98 gX6_203 (shS hs) rfl ?_
            refine v_ild2 dX6_mark_101 ?_
            refine v_ild3 dX6_mark_102 ?_
            refine v_iastN dX6_mark_103 (shS1 hs) (by omega) (by decide) ?_
            refine v_iconstN (n := 1) dX6_mark_104 ?_
            exact v_iret dX6_mark_105 rfl (⟨by unfold R_mark; rw [if_pos (show isS (nI i) = true from nb0 h4), tN_n (p := i) (by omega), if_neg hso, if_pos (show inB (nI k) (nI 0) (nI (sz i) - nI 1) = true from nb0 h42), if_neg hz0, if_pos (show y = cNONE from h79)], by unfold F_mark; rw [if_pos (show isS (nI i) = true from nb0 h4), tN_n (p := i) (by omega), if_neg hso, if_pos (show inB (nI k) (nI 0) (nI (sz i) - nI 1) = true from nb0 h42), if_neg hz0, if_pos (show y = cNONE from h79)]; rw [tN_n (p := k) (by omega)]; exact hS.cel hi4, fun a h => wr_ne (by omega)⟩)
          · refine v_ild3 dX6_mark_82 ?_
            refine v_ldc dX6_mark_83 kX6_254 ?_
            refine v_ldc dX6_mark_85 kX6_255 ?_
            refine v_callSi (kX_outside E _) dX6_mark_87 cX6_63 rfl (by decide) (Nat.le_of_ble_eq_true rfl) rfl (fun r M1z hq => ?_)
            obtain ⟨hr, hm⟩ := hq
            rw [hr, hm]
            clear hr hm
            refine v_if_eq (tgt := 96) dX6_mark_90 (by decide) (fun h90 => ?_) (fun h90 => ?_)
            · refine v_ald4 dX6_mark_96 ?_
              refine v_getr dX6_mark_98 gX6_203 (shS hs) rfl ?_
              refine v_ild2 dX6_mark_101 ?_
              refine v_ild3 dX6_mark_102 ?_
              refine v_iastN dX6_mark_103 (shS1 hs) (by omega) (by decide) ?_
              refine v_iconstN (n := 1) dX6_mark_104 ?_
              exact v_iret dX6_mark_105 rfl (⟨by unfold R_mark; rw [if_pos (show isS (nI i) = true from nb0 h4), tN_n (p := i) (by omega), if_neg hso, if_pos (show inB (nI k) (nI 0) (nI (sz i) - nI 1) = true from nb0 h42), if_neg hz0, if_neg (show ¬ y = cNONE from h79), if_pos (nb0 h90)], by unfold F_mark; rw [if_pos (show isS (nI i) = true from nb0 h4), tN_n (p := i) (by omega), if_neg hso, if_pos (show inB (nI k) (nI 0) (nI (sz i) - nI 1) = true from nb0 h42), if_neg hz0, if_neg (show ¬ y = cNONE from h79), if_pos (nb0 h90)]; rw [tN_n (p := k) (by omega)]; exact hS.cel hi4, fun a h => wr_ne (by omega)⟩)
            · refine v_ldc dX6_mark_93 kX6_67 ?_
              exact v_iret dX6_mark_95 rfl (⟨by unfold R_mark; rw [if_pos (show isS (nI i) = true from nb0 h4), tN_n (p := i) (by omega), if_neg hso, if_pos (show inB (nI k) (nI 0) (nI (sz i) - nI 1) = true from nb0 h42), if_neg hz0, if_neg (show ¬ y = cNONE from h79), if_neg (by rw [nb1 h90]; decide)], by unfold F_mark; rw [if_pos (show isS (nI i) = true from nb0 h4), tN_n (p := i) (by omega), if_neg hso, if_pos (show inB (nI k) (nI 0) (nI (sz i) - nI 1) = true from nb0 h42), if_neg hz0, if_neg (show ¬ y = cNONE from h79), if_neg (by rw [nb1 h90]; decide)]; exact hS, FrS.rf Mz⟩)
        · have hz0 : so i = nI 0 := h53
          refine v_ild3 dX6_mark_56 ?_
          refine v_ldc dX6_mark_57 kX6_181 ?_
          refine v_icmp_ne (tgt := 65) dX6_mark_59 (by decide) (fun h59 => ?_) (fun h59 => ?_)
          · refine v_ald4 dX6_mark_65 ?_
            refine v_getr dX6_mark_67 gX6_203 (shS hs) rfl ?_
            refine v_ild2 dX6_mark_70 ?_
            refine v_ild3 dX6_mark_71 ?_
            refine v_i2s dX6_mark_72 ?_
            refine v_iastN dX6_mark_73 (shS1 hs) (by omega) (by decide) ?_
            refine v_iconstN (n := 1) dX6_mark_74 ?_
            exact v_iret dX6_mark_75 rfl (⟨by unfold R_mark; rw [if_pos (show isS (nI i) = true from nb0 h4), tN_n (p := i) (by omega), if_neg hso, if_pos (show inB (nI k) (nI 0) (nI (sz i) - nI 1) = true from nb0 h42), if_pos hz0, if_neg (show ¬ y = cNONE from h59)], by unfold F_mark; rw [if_pos (show isS (nI i) = true from nb0 h4), tN_n (p := i) (by omega), if_neg hso, if_pos (show inB (nI k) (nI 0) (nI (sz i) - nI 1) = true from nb0 h42), if_pos hz0, if_neg (show ¬ y = cNONE from h59)]; rw [tN_n (p := k) (by omega)]; exact hS.cel hi4, fun a h => wr_ne (by omega)⟩)
          · refine v_ldc dX6_mark_62 kX6_106 ?_
            exact v_iret dX6_mark_64 rfl (⟨by unfold R_mark; rw [if_pos (show isS (nI i) = true from nb0 h4), tN_n (p := i) (by omega), if_neg hso, if_pos (show inB (nI k) (nI 0) (nI (sz i) - nI 1) = true from nb0 h42), if_pos hz0, if_pos h59], by unfold F_mark; rw [if_pos (show isS (nI i) = true from nb0 h4), tN_n (p := i) (by omega), if_neg hso, if_pos (show inB (nI k) (nI 0) (nI (sz i) - nI 1) = true from nb0 h42), if_pos hz0, if_pos h59]; exact hS, FrS.rf Mz⟩)
      · refine v_ldc dX6_mark_45 kX6_253 ?_
        exact v_iret dX6_mark_47 rfl (⟨by unfold R_mark; rw [if_pos (show isS (nI i) = true from nb0 h4), tN_n (p := i) (by omega), if_neg hso, if_neg (by show ¬ inB p (nI 0) (nI (sz i) - nI 1) = true; rw [nb1 h42]; decide)], by unfold F_mark; rw [if_pos (show isS (nI i) = true from nb0 h4), tN_n (p := i) (by omega), if_neg hso, if_neg (by show ¬ inB p (nI 0) (nI (sz i) - nI 1) = true; rw [nb1 h42]; decide)]; exact hS, FrS.rf Mz⟩)
    · have hmis : so i = -1 := h24
      refine v_ldc dX6_mark_27 kX6_196 ?_
      exact v_iret dX6_mark_29 rfl (⟨by unfold R_mark; rw [if_pos (show isS (nI i) = true from nb0 h4), tN_n (p := i) (by omega), if_pos hmis], by unfold F_mark; rw [if_pos (show isS (nI i) = true from nb0 h4), tN_n (p := i) (by omega), if_pos hmis]; exact hS, FrS.rf Mz⟩)
  · refine v_ldc dX6_mark_7 kX6_67 ?_
    exact v_iret dX6_mark_9 rfl (⟨by unfold R_mark; rw [if_neg (by rw [nb1 h4]; decide)], by unfold F_mark; rw [if_neg (by rw [nb1 h4]; decide)]; exact hS, FrS.rf Mz⟩)
set_option maxRecDepth 100000 in
set_option maxHeartbeats 4000000 in
theorem aM_mark (E : ev) (Mz : mm) {x p y : Int32} {so : Nat → Int32} {sz : Nat → Nat} {ce : Nat → Nat → Int32} (hS : ShM Mz so sz ce) : Ct E 2 yX7_mark cX7_mark 4 (some .int) [.inr 92, .inl x, .inl p, .inl y] Mz (qI E (fun r M' => r = R_mark (so, sz, ce) x p y ∧ ShM3 M' (F_mark (so, sz, ce) x p y) ∧ FrZ Mz M')) := by
  refine ct_of (by decide) (Nat.le_of_ble_eq_true rfl) ?_
  show V E 2 _ _ _ _ _ 0 [some (.inr 92), some (.inl x), some (.inl p), some (.inl y)] [] Mz
  refine v_ild1 dX7_mark_0 ?_
  refine v_callSi (kM_isSheet E _) dX7_mark_1 cX7_199 rfl (by decide) (Nat.le_of_ble_eq_true rfl) rfl (fun r M1z hq => ?_)
  obtain ⟨hr, hm⟩ := hq
  rw [hr, hm]
  clear hr hm
  refine v_if_ne (tgt := 10) dX7_mark_4 (by decide) (fun h4 => ?_) (fun h4 => ?_)
  · obtain ⟨i, hil, hi, rfl⟩ := inB_n (by decide) (by decide) (b2_1.mp h4)
    have hi4 : i < 4 := by omega
    obtain ⟨hs0, hsz, ⟨hz24, hsor⟩, hce⟩ := hS i hi4
    refine v_ald0 dX7_mark_10 ?_
    refine v_getr dX7_mark_11 gX7_48 sh_92 rfl ?_
    refine v_ild1 dX7_mark_14 ?_
    refine v_ialdN dX7_mark_15 sh_105 (by omega) (by decide) ?_
    refine v_eq (hs0) ?_
    refine v_if_ge (tgt := 22) dX7_mark_16 (by decide) (fun h16 => ?_) (fun h16 => ?_)
    · have hso : ¬ so i = -1 := fun e => absurd ((so_neg hsor).mpr e) (Int32.not_lt.mpr h16)
      refine v_ild2 dX7_mark_22 ?_
      refine v_iconstN (n := 0) dX7_mark_23 ?_
      refine v_ald0 dX7_mark_24 ?_
      refine v_getr dX7_mark_25 gX7_51 sh_92 rfl ?_
      refine v_ild1 dX7_mark_28 ?_
      refine v_ialdN dX7_mark_29 sh_106 (by omega) (by decide) ?_
      refine v_eq (hsz) ?_
      refine v_iconstN (n := 1) dX7_mark_30 ?_
      refine v_isub dX7_mark_31 ?_
      refine v_callSi (kM_in E _) dX7_mark_32 cX7_75 rfl (by decide) (Nat.le_of_ble_eq_true rfl) rfl (fun r M1z hq => ?_)
      obtain ⟨hr, hm⟩ := hq
      rw [hr, hm]
      clear hr hm
      refine v_if_ne (tgt := 42) dX7_mark_35 (by decide) (fun h35 => ?_) (fun h35 => ?_)
      · obtain ⟨k, hk, rfl⟩ := inP hz24 (b2_1.mp h35)
        refine v_ald0 dX7_mark_42 ?_
        refine v_getr dX7_mark_43 gX7_48 sh_92 rfl ?_
        refine v_ild1 dX7_mark_46 ?_
        refine v_ialdN dX7_mark_47 sh_105 (by omega) (by decide) ?_
        refine v_eq (hs0) ?_
        refine v_if_ne (tgt := 60) dX7_mark_48 (by decide) (fun h48 => ?_) (fun h48 => ?_)
        · refine v_ald0 dX7_mark_60 ?_
          refine v_getr dX7_mark_61 gX7_48 sh_92 rfl ?_
          refine v_ild1 dX7_mark_64 ?_
          refine v_ialdN dX7_mark_65 sh_105 (by omega) (by decide) ?_
          refine v_eq (hs0) ?_
          refine v_iconstN (n := 1) dX7_mark_66 ?_
          refine v_icmp_ne (tgt := 92) dX7_mark_67 (by decide) (fun h67 => absurd h67 (fun q => q ((hsor.resolve_left hso).resolve_left h48))) (fun h67 => ?_)
          have hz0 : ¬ so i = nI 0 := h48
          refine v_ild3 dX7_mark_70 ?_
          refine v_ldc dX7_mark_71 kX7_191 ?_
          refine v_icmp_eq (tgt := 92) dX7_mark_73 (by decide) (fun h73 => ?_) (fun h73 => ?_)
          · refine v_ald0 dX7_mark_92 ?_
            refine v_getr dX7_mark_93 gX7_54 sh_92 rfl ?_
            refine v_bipushN (n := 24) dX7_mark_96 (by decide) ?_
            refine v_ild1 dX7_mark_98 ?_
            refine v_imulN dX7_mark_99 ?_
            refine v_ild2 dX7_mark_100 ?_
            refine v_iaddN dX7_mark_101 ?_
            refine v_ald0 dX7_mark_102 ?_
            refine v_getr dX7_mark_103 gX7_48 sh_92 rfl ?_
            refine v_ild1 dX7_mark_106 ?_
            refine v_ialdN dX7_mark_107 sh_105 (by omega) (by decide) ?_
            refine v_eq (hs0) ?_
            refine v_if_ne (tgt := 116) dX7_mark_108 (by decide) (fun h108 => ?_) (fun h108 => absurd h108 (h48))
            refine v_ild3 dX7_mark_116 ?_
            refine v_iastN dX7_mark_117 sh_107 (by omega) (by decide) ?_
            refine v_iconstN (n := 1) dX7_mark_118 ?_
            exact v_iret dX7_mark_119 rfl (⟨by unfold R_mark; rw [if_pos (show isS (nI i) = true from b2_1.mp h4), tN_n (p := i) (by omega), if_neg hso, if_pos (show inB (nI k) (nI 0) (nI (sz i) - nI 1) = true from b2_1.mp h35), if_neg hz0, if_pos (show y = cNONE from h73)], by unfold F_mark; rw [if_pos (show isS (nI i) = true from b2_1.mp h4), tN_n (p := i) (by omega), if_neg hso, if_pos (show inB (nI k) (nI 0) (nI (sz i) - nI 1) = true from b2_1.mp h35), if_neg hz0, if_pos (show y = cNONE from h73)]; rw [tN_n (p := k) (by omega)]; exact hS.cel hi4 (by omega), fun a _ _ h _ => wr_ne h⟩)
          · refine v_ild3 dX7_mark_76 ?_
            refine v_ldcw dX7_mark_77 kX7_273 ?_
            refine v_ldcw dX7_mark_80 kX7_274 ?_
            refine v_callSi (kM_in E _) dX7_mark_83 cX7_75 rfl (by decide) (Nat.le_of_ble_eq_true rfl) rfl (fun r M1z hq => ?_)
            obtain ⟨hr, hm⟩ := hq
            rw [hr, hm]
            clear hr hm
            refine v_if_ne (tgt := 92) dX7_mark_86 (by decide) (fun h86 => ?_) (fun h86 => ?_)
            · refine v_ald0 dX7_mark_92 ?_
              refine v_getr dX7_mark_93 gX7_54 sh_92 rfl ?_
              refine v_bipushN (n := 24) dX7_mark_96 (by decide) ?_
              refine v_ild1 dX7_mark_98 ?_
              refine v_imulN dX7_mark_99 ?_
              refine v_ild2 dX7_mark_100 ?_
              refine v_iaddN dX7_mark_101 ?_
              refine v_ald0 dX7_mark_102 ?_
              refine v_getr dX7_mark_103 gX7_48 sh_92 rfl ?_
              refine v_ild1 dX7_mark_106 ?_
              refine v_ialdN dX7_mark_107 sh_105 (by omega) (by decide) ?_
              refine v_eq (hs0) ?_
              refine v_if_ne (tgt := 116) dX7_mark_108 (by decide) (fun h108 => ?_) (fun h108 => absurd h108 (h48))
              refine v_ild3 dX7_mark_116 ?_
              refine v_iastN dX7_mark_117 sh_107 (by omega) (by decide) ?_
              refine v_iconstN (n := 1) dX7_mark_118 ?_
              exact v_iret dX7_mark_119 rfl (⟨by unfold R_mark; rw [if_pos (show isS (nI i) = true from b2_1.mp h4), tN_n (p := i) (by omega), if_neg hso, if_pos (show inB (nI k) (nI 0) (nI (sz i) - nI 1) = true from b2_1.mp h35), if_neg hz0, if_neg (show ¬ y = cNONE from h73), if_pos (b2_1.mp h86)], by unfold F_mark; rw [if_pos (show isS (nI i) = true from b2_1.mp h4), tN_n (p := i) (by omega), if_neg hso, if_pos (show inB (nI k) (nI 0) (nI (sz i) - nI 1) = true from b2_1.mp h35), if_neg hz0, if_neg (show ¬ y = cNONE from h73), if_pos (b2_1.mp h86)]; rw [tN_n (p := k) (by omega)]; exact hS.cel hi4 (by omega), fun a _ _ h _ => wr_ne h⟩)
            · refine v_ldc dX7_mark_89 kX7_119 ?_
              exact v_iret dX7_mark_91 rfl (⟨by unfold R_mark; rw [if_pos (show isS (nI i) = true from b2_1.mp h4), tN_n (p := i) (by omega), if_neg hso, if_pos (show inB (nI k) (nI 0) (nI (sz i) - nI 1) = true from b2_1.mp h35), if_neg hz0, if_neg (show ¬ y = cNONE from h73), if_neg (by rw [b2_0.mp h86]; decide)], by unfold F_mark; rw [if_pos (show isS (nI i) = true from b2_1.mp h4), tN_n (p := i) (by omega), if_neg hso, if_pos (show inB (nI k) (nI 0) (nI (sz i) - nI 1) = true from b2_1.mp h35), if_neg hz0, if_neg (show ¬ y = cNONE from h73), if_neg (by rw [b2_0.mp h86]; decide)]; exact hS, FrZ.rf Mz⟩)
        · have hz0 : so i = nI 0 := h48
          refine v_ild3 dX7_mark_51 ?_
          refine v_ldc dX7_mark_52 kX7_191 ?_
          refine v_icmp_ne (tgt := 60) dX7_mark_54 (by decide) (fun h54 => ?_) (fun h54 => ?_)
          · refine v_ald0 dX7_mark_60 ?_
            refine v_getr dX7_mark_61 gX7_48 sh_92 rfl ?_
            refine v_ild1 dX7_mark_64 ?_
            refine v_ialdN dX7_mark_65 sh_105 (by omega) (by decide) ?_
            refine v_eq (hs0) ?_
            refine v_iconstN (n := 1) dX7_mark_66 ?_
            refine v_icmp_ne (tgt := 92) dX7_mark_67 (by decide) (fun h67 => ?_) (fun h67 => absurd h67 (by rw [hz0]; decide))
            refine v_ald0 dX7_mark_92 ?_
            refine v_getr dX7_mark_93 gX7_54 sh_92 rfl ?_
            refine v_bipushN (n := 24) dX7_mark_96 (by decide) ?_
            refine v_ild1 dX7_mark_98 ?_
            refine v_imulN dX7_mark_99 ?_
            refine v_ild2 dX7_mark_100 ?_
            refine v_iaddN dX7_mark_101 ?_
            refine v_ald0 dX7_mark_102 ?_
            refine v_getr dX7_mark_103 gX7_48 sh_92 rfl ?_
            refine v_ild1 dX7_mark_106 ?_
            refine v_ialdN dX7_mark_107 sh_105 (by omega) (by decide) ?_
            refine v_eq (hs0) ?_
            refine v_if_ne (tgt := 116) dX7_mark_108 (by decide) (fun h108 => absurd h108 (fun q => q h48)) (fun h108 => ?_)
            refine v_ild3 dX7_mark_111 ?_
            refine v_i2s dX7_mark_112 ?_
            refine v_goto (tgt := 117) dX7_mark_113 (by decide) ?_
            refine v_iastN dX7_mark_117 sh_107 (by omega) (by decide) ?_
            refine v_iconstN (n := 1) dX7_mark_118 ?_
            exact v_iret dX7_mark_119 rfl (⟨by unfold R_mark; rw [if_pos (show isS (nI i) = true from b2_1.mp h4), tN_n (p := i) (by omega), if_neg hso, if_pos (show inB (nI k) (nI 0) (nI (sz i) - nI 1) = true from b2_1.mp h35), if_pos hz0, if_neg (show ¬ y = cNONE from h54)], by unfold F_mark; rw [if_pos (show isS (nI i) = true from b2_1.mp h4), tN_n (p := i) (by omega), if_neg hso, if_pos (show inB (nI k) (nI 0) (nI (sz i) - nI 1) = true from b2_1.mp h35), if_pos hz0, if_neg (show ¬ y = cNONE from h54)]; rw [tN_n (p := k) (by omega)]; exact hS.cel hi4 (by omega), fun a _ _ h _ => wr_ne h⟩)
          · refine v_ldc dX7_mark_57 kX7_141 ?_
            exact v_iret dX7_mark_59 rfl (⟨by unfold R_mark; rw [if_pos (show isS (nI i) = true from b2_1.mp h4), tN_n (p := i) (by omega), if_neg hso, if_pos (show inB (nI k) (nI 0) (nI (sz i) - nI 1) = true from b2_1.mp h35), if_pos hz0, if_pos h54], by unfold F_mark; rw [if_pos (show isS (nI i) = true from b2_1.mp h4), tN_n (p := i) (by omega), if_neg hso, if_pos (show inB (nI k) (nI 0) (nI (sz i) - nI 1) = true from b2_1.mp h35), if_pos hz0, if_pos h54]; exact hS, FrZ.rf Mz⟩)
      · refine v_ldcw dX7_mark_38 kX7_272 ?_
        exact v_iret dX7_mark_41 rfl (⟨by unfold R_mark; rw [if_pos (show isS (nI i) = true from b2_1.mp h4), tN_n (p := i) (by omega), if_neg hso, if_neg (by show ¬ inB p (nI 0) (nI (sz i) - nI 1) = true; rw [b2_0.mp h35]; decide)], by unfold F_mark; rw [if_pos (show isS (nI i) = true from b2_1.mp h4), tN_n (p := i) (by omega), if_neg hso, if_neg (by show ¬ inB p (nI 0) (nI (sz i) - nI 1) = true; rw [b2_0.mp h35]; decide)]; exact hS, FrZ.rf Mz⟩)
    · have hmis : so i = -1 := (so_neg hsor).mp (Int32.not_le.mp h16)
      refine v_ldc dX7_mark_19 kX7_202 ?_
      exact v_iret dX7_mark_21 rfl (⟨by unfold R_mark; rw [if_pos (show isS (nI i) = true from b2_1.mp h4), tN_n (p := i) (by omega), if_pos hmis], by unfold F_mark; rw [if_pos (show isS (nI i) = true from b2_1.mp h4), tN_n (p := i) (by omega), if_pos hmis]; exact hS, FrZ.rf Mz⟩)
  · refine v_ldc dX7_mark_7 kX7_119 ?_
    exact v_iret dX7_mark_9 rfl (⟨by unfold R_mark; rw [if_neg (by rw [show isS x = false from b2_0.mp h4]; decide)], by unfold F_mark; rw [if_neg (by rw [show isS x = false from b2_0.mp h4]; decide)]; exact hS, FrZ.rf Mz⟩)
/-! a sheet poured, read -/
def prV (v : fl) (ce : Nat → Int32) : Nat → fl
  | 0 => v
  | k + 1 => if ce k = cNONE then prV v ce k else upd (prV v ce k) (7 + k) (clampS (ce k) (nI 0) (nI 9))
def prN (v : fl) (ce : Nat → Int32) : Nat → Nat
  | 0 => 0
  | k + 1 => if ce k = cNONE then prN v ce k else if clampS (ce k) (nI 0) (nI 9) = sw (prV v ce k) k then prN v ce k else prN v ce k + 1
theorem prV_n {v : fl} {ce : Nat → Int32} {k : Nat} (h : ce k = cNONE) : prV v ce (k + 1) = prV v ce k := if_pos h
theorem prV_y {v : fl} {ce : Nat → Int32} {k : Nat} (h : ¬ ce k = cNONE) : prV v ce (k + 1) = upd (prV v ce k) (7 + k) (clampS (ce k) (nI 0) (nI 9)) := if_neg h
theorem prN_n {v : fl} {ce : Nat → Int32} {k : Nat} (h : ce k = cNONE) : prN v ce (k + 1) = prN v ce k := if_pos h
theorem prN_t {v : fl} {ce : Nat → Int32} {k : Nat} (h : ¬ ce k = cNONE) (g : clampS (ce k) (nI 0) (nI 9) = sw (prV v ce k) k) : prN v ce (k + 1) = prN v ce k := by unfold prN; rw [if_neg h, if_pos g]; cases k <;> rfl
theorem prN_f {v : fl} {ce : Nat → Int32} {k : Nat} (h : ¬ ce k = cNONE) (g : ¬ clampS (ce k) (nI 0) (nI 9) = sw (prV v ce k) k) : prN v ce (k + 1) = prN v ce k + 1 := by show (if _ then _ else if _ then _ else _) = _; rw [if_neg h, if_neg g]
theorem rg_sw {f : Nat} (hf : f < 6) : rg (7 + f) = 10 := by unfold rg; rw [if_neg (by omega), if_pos (by omega)]
theorem clamp9 (x : Int32) : inR (clampS x (nI 0) (nI 9)) 10 := by
  unfold clampS
  split
  · exact inR_nI (by decide)
  · rename_i h
    split
    · exact inR_nI (by decide)
    · rename_i h2
      obtain ⟨m, hm, e⟩ := ge_n (b := 9) (by decide) h (Int32.not_lt.mp h2)
      rw [e]; exact inR_nI (by omega)
theorem pr_ok {v : fl} {W : Nat} {ce : Nat → Int32} (h : CI v W) : ∀ k, k ≤ 6 → CI (prV v ce k) W ∧ ∀ i, i < 7 → prV v ce k i = v i
  | 0, _ => ⟨h, fun _ _ => rfl⟩
  | k + 1, hk => by
    obtain ⟨h1, h2⟩ := pr_ok (ce := ce) h k (by omega)
    unfold prV
    split
    · exact ⟨h1, h2⟩
    · exact ⟨CI_upd h1 (by omega) (by omega) (by omega) (by rw [rg_sw (by omega)]; exact clamp9 _), fun i hi => by rw [pk_un (by omega)]; exact h2 i hi⟩
theorem prN_le (v : fl) (ce : Nat → Int32) : ∀ k, prN v ce k ≤ k
  | 0 => Nat.le_refl _
  | k + 1 => by have := prN_le v ce k; unfold prN; split; omega; split <;> omega
def pm (n : Nat) : Nat := if n < 6 then n else 6
theorem pm_le (n : Nat) : pm n ≤ 6 ∧ pm n ≤ n := by unfold pm; split <;> omega
theorem pm_or (n : Nat) : pm n = 6 ∨ pm n = n := by unfold pm; split <;> omega
def R_pour (v : fl) (S : s3) (x : Int32) : Int32 := if isS x = true then (if S.1 (tN x) = -1 then cNOTH else nI (prN v (S.2.2 (tN x)) (pm (S.2.1 (tN x))))) else cBAD
def F_pour (v : fl) (S : s3) (x : Int32) : fl := if isS x = true then (if S.1 (tN x) = -1 then v else prV v (S.2.2 (tN x)) (pm (S.2.1 (tN x)))) else v
def rsB (v : fl) (ce : Nat → Int32) (k : Nat) : Bool := !decide (ce k = cNONE) && (decide (6 ≤ k) || !decide (ce k = gr v k))
def rsR (v : fl) (ce : Nat → Int32) (n : Nat) : Nat → Int32
  | 0 => cNONE
  | r + 1 => if rsB v ce (n - (r + 1)) = true then nI (n - (r + 1)) else rsR v ce n r
theorem rs_t {v : fl} {ce : Nat → Int32} {n k : Nat} (hk : k < n) (h : rsB v ce k = true) : rsR v ce n (n - k) = nI k := by
  rw [show n - k = (n - k - 1) + 1 by omega]
  unfold rsR
  rw [show n - (n - k - 1 + 1) = k by omega, if_pos h]
theorem rs_f {v : fl} {ce : Nat → Int32} {n k : Nat} (hk : k < n) (h : rsB v ce k = false) : rsR v ce n (n - k) = rsR v ce n (n - (k + 1)) := by
  rw [show n - k = (n - (k + 1)) + 1 by omega]
  conv => lhs; unfold rsR
  rw [show n - (n - (k + 1) + 1) = k by omega, if_neg (by rw [h]; decide)]
def R_reads (v : fl) (S : s3) (x : Int32) : Int32 := if isS x = true then (if S.1 (tN x) = -1 then cNOTH else rsR v (S.2.2 (tN x)) (S.2.1 (tN x)) (S.2.1 (tN x))) else cBAD
set_option maxRecDepth 100000 in
set_option maxHeartbeats 4000000 in
theorem aX_pour (E : ev) (Mz : mm) {x : Int32} {W : Nat} (hI : CI (cv Mz 38) W) {so : Nat → Int32} {sz : Nat → Nat} {ce : Nat → Nat → Int32} (hS : ShC Mz so sz ce) : Ct E 2 yX6_pour cX6_pour 6 (some .int) [.inr 0, .inl x] Mz (qI E (fun r M' => r = R_pour (cv Mz 38) (so, sz, ce) x ∧ cv M' 38 = F_pour (cv Mz 38) (so, sz, ce) x ∧ FrC 38 Mz M')) := by
  refine ct_of (by decide) (Nat.le_of_ble_eq_true rfl) ?_
  show V E 2 _ _ _ _ _ 0 [some (.inr 0), some (.inl x), none, none, none, none] [] Mz
  refine v_ild1 dX6_pour_0 ?_
  refine v_callSi (kX_noSheet E _) dX6_pour_1 cX6_190 rfl (by decide) (Nat.le_of_ble_eq_true rfl) rfl (fun r M1z hq => ?_)
  obtain ⟨hr, hm⟩ := hq
  rw [hr, hm]
  clear hr hm
  refine v_if_eq (tgt := 10) dX6_pour_4 (by decide) (fun h4 => ?_) (fun h4 => ?_)
  · obtain ⟨i, hil, hi, rfl⟩ := inB_n (by decide) (by decide) (nb0 h4)
    have hi4 : i < 4 := by omega
    have hs := sbi hi4
    obtain ⟨hs0, hsz, ⟨hz24, hsor⟩, hce⟩ := hS i hi4
    have hpm := pm_le (sz i)
    have hpo := pm_or (sz i)
    refine v_ald0 dX6_pour_10 ?_
    refine v_getr dX6_pour_11 gX6_40 sh_0 rfl ?_
    refine v_ild1 dX6_pour_14 ?_
    refine v_aaldN dX6_pour_15 sh_65 rfl (by omega) (by decide) ?_
    refine v_ast2 dX6_pour_16 (by decide) ?_
    refine v_ald2 dX6_pour_17 ?_
    refine v_geti dX6_pour_18 gX6_193 (shS hs) rfl ?_
    refine v_eq (hs0) ?_
    refine v_iconst (x := -1) dX6_pour_21 (by decide) ?_
    refine v_icmp_ne (tgt := 28) dX6_pour_22 (by decide) (fun h22 => ?_) (fun h22 => ?_)
    · have hso : ¬ so i = -1 := h22
      refine v_iconstN (n := 0) dX6_pour_28 ?_
      refine v_ist3 dX6_pour_29 (by decide) ?_
      refine v_iconstN (n := 0) dX6_pour_30 ?_
      refine v_ist4 dX6_pour_31 (by decide) ?_
      refine v_loopP (pc := 33) (fun k _ => [some (.inr 0), some (.inl (nI i)), some (.inr (66 + 2 * i)), some (.inl (nI (prN (cv Mz 38) (ce i) k))), some (.inl (nI k)), none]) (fun k Mk => cv Mk 38 = prV (cv Mz 38) (ce i) k ∧ FrC 38 Mz Mk) (pm (sz i)) (rfl) (⟨rfl, FrC.rf 38 Mz⟩) (fun k Mk hk hM ih => ?_) (fun Mk hM => ?_)
      · obtain ⟨hv, hfr⟩ := hM
        obtain ⟨hI1, -⟩ := pr_ok (ce := ce i) hI k (by omega)
        have hpn := prN_le (cv Mz 38) (ce i) k
        have hszk : Mk (66 + 2 * i) 1 = nI (sz i) := by rw [hfr _ (by omega) (by omega) (by omega)]; exact hsz
        have hck : Mk (66 + 2 * i + 1) k = ce i k := by rw [hfr _ (by omega) (by omega) (by omega)]; exact hce k (by omega)
        have hk6 : k < 6 := by omega
        have hbn : (b2 (!decide (Mk (66 + 2 * i + 1) k = cNONE)) = 0 → ce i k = cNONE) ∧ (b2 (!decide (Mk (66 + 2 * i + 1) k = cNONE)) ≠ 0 → ¬ ce i k = cNONE) := by rw [hck]; exact ⟨fun h => of_decide_eq_true (nb0 h), fun h => of_decide_eq_false (nb1 h)⟩
        refine v_ild4 dX6_pour_33 ?_
        refine v_bipushN (n := 6) dX6_pour_35 (by decide) ?_
        refine v_icmpN_ge (tgt := 109) dX6_pour_37 (by decide) (by omega) (by omega) (fun h37 => absurd h37 (by omega)) (fun h37 => ?_)
        refine v_ild4 dX6_pour_40 ?_
        refine v_ald2 dX6_pour_42 ?_
        refine v_geti dX6_pour_43 gX6_197 (shS hs) rfl ?_
        refine v_eq (hszk) ?_
        refine v_icmpN_ge (tgt := 109) dX6_pour_46 (by decide) (by omega) (by omega) (fun h46 => absurd h46 (by omega)) (fun h46 => ?_)
        refine v_ald2 dX6_pour_49 ?_
        refine v_ild4 dX6_pour_50 ?_
        refine v_callVi (kS_hasNumber E Mk hs (by omega)) dX6_pour_52 cX6_200 rfl (shS hs) rfl (by decide) (Nat.le_of_ble_eq_true rfl) rfl (fun r M1z hq => ?_)
        obtain ⟨hr, hm⟩ := hq
        rw [hr, hm]
        clear hr hm
        refine v_if_eq (tgt := 103) dX6_pour_55 (by decide) (fun h55 => ?_) (fun h55 => ?_)
        · refine v_iincN4 (n := 1) dX6_pour_103 (by decide) ?_
          refine v_goto (tgt := 33) dX6_pour_106 (by decide) ?_
          refine v_fg5 ?_
          exact v_lo (by rw [prN_n (hbn.1 h55)]) (ih _ ⟨by rw [hv, prV_n (hbn.1 h55)], hfr⟩)
        · refine v_ald2 dX6_pour_58 ?_
          refine v_getr dX6_pour_59 gX6_203 (shS hs) rfl ?_
          refine v_ild4 dX6_pour_62 ?_
          refine v_ialdN dX6_pour_64 (shS1 hs) (by omega) (by decide) ?_
          refine v_iconstN (n := 0) dX6_pour_65 ?_
          refine v_bipushN (n := 9) dX6_pour_66 (by decide) ?_
          refine v_callSi (kX_within E Mk (by decide)) dX6_pour_68 cX6_256 rfl (by decide) (Nat.le_of_ble_eq_true rfl) rfl (fun r M1z hq => ?_)
          obtain ⟨hr, hm⟩ := hq
          rw [hr, hm]
          clear hr hm
          refine v_ist5 dX6_pour_71 (by decide) ?_
          refine v_ild5 dX6_pour_73 ?_
          refine v_ald0 dX6_pour_75 ?_
          refine v_getr dX6_pour_76 gX6_28 sh_0 rfl ?_
          refine v_getr dX6_pour_79 gX6_128 sh_38 rfl ?_
          refine v_ild4 dX6_pour_82 ?_
          refine v_ialdN dX6_pour_84 sh_44 (by omega) (by decide) ?_
          refine v_eq ((cv_sw Mk 38 hk6).symm) ?_
          refine v_icmp_eq (tgt := 91) dX6_pour_85 (by decide) (fun h85 => ?_) (fun h85 => ?_)
          · refine v_ald0 dX6_pour_91 ?_
            refine v_getr dX6_pour_92 gX6_28 sh_0 rfl ?_
            refine v_getr dX6_pour_95 gX6_128 sh_38 rfl ?_
            refine v_ild4 dX6_pour_98 ?_
            refine v_ild5 dX6_pour_100 ?_
            refine v_iastN dX6_pour_102 sh_44 (by omega) (by decide) ?_
            refine v_iincN4 (n := 1) dX6_pour_103 (by decide) ?_
            refine v_goto (tgt := 33) dX6_pour_106 (by decide) ?_
            refine v_fg5 ?_
            exact v_lo (by rw [prN_t (hbn.2 h55) (by rw [← hv, ← hck]; exact h85)]) (ih _ ⟨by rw [cv_usw (c := 38) hk6, hv, hck, prV_y (hbn.2 h55)], hfr.tr (FrC.w _ (by decide))⟩)
          · refine v_iincN3 (n := 1) dX6_pour_88 (by decide) ?_
            refine v_ald0 dX6_pour_91 ?_
            refine v_getr dX6_pour_92 gX6_28 sh_0 rfl ?_
            refine v_getr dX6_pour_95 gX6_128 sh_38 rfl ?_
            refine v_ild4 dX6_pour_98 ?_
            refine v_ild5 dX6_pour_100 ?_
            refine v_iastN dX6_pour_102 sh_44 (by omega) (by decide) ?_
            refine v_iincN4 (n := 1) dX6_pour_103 (by decide) ?_
            refine v_goto (tgt := 33) dX6_pour_106 (by decide) ?_
            refine v_fg5 ?_
            exact v_lo (by rw [prN_f (hbn.2 h55) (by rw [← hv, ← hck]; exact h85)]) (ih _ ⟨by rw [cv_usw (c := 38) hk6, hv, hck, prV_y (hbn.2 h55)], hfr.tr (FrC.w _ (by decide))⟩)
      · obtain ⟨hv, hfr⟩ := hM
        obtain ⟨hI1, -⟩ := pr_ok (ce := ce i) hI (pm (sz i)) hpm.1
        have hpn := prN_le (cv Mz 38) (ce i) (pm (sz i))
        have hszk : Mk (66 + 2 * i) 1 = nI (sz i) := by rw [hfr _ (by omega) (by omega) (by omega)]; exact hsz
        refine v_ild4 dX6_pour_33 ?_
        refine v_bipushN (n := 6) dX6_pour_35 (by decide) ?_
        refine v_icmpN_ge (tgt := 109) dX6_pour_37 (by decide) (by omega) (by omega) (fun h37 => ?_) (fun h37 => ?_)
        · refine v_ild3 dX6_pour_109 ?_
          exact v_iret dX6_pour_110 rfl (⟨by unfold R_pour; rw [if_pos (show isS (nI i) = true from nb0 h4), tN_n (p := i) (by omega), if_neg hso], by unfold F_pour; rw [if_pos (show isS (nI i) = true from nb0 h4), tN_n (p := i) (by omega), if_neg hso]; exact hv, hfr⟩)
        · refine v_ild4 dX6_pour_40 ?_
          refine v_ald2 dX6_pour_42 ?_
          refine v_geti dX6_pour_43 gX6_197 (shS hs) rfl ?_
          refine v_eq (hszk) ?_
          refine v_icmpN_ge (tgt := 109) dX6_pour_46 (by decide) (by omega) (by omega) (fun h46 => ?_) (fun h46 => absurd h46 (by omega))
          refine v_ild3 dX6_pour_109 ?_
          exact v_iret dX6_pour_110 rfl (⟨by unfold R_pour; rw [if_pos (show isS (nI i) = true from nb0 h4), tN_n (p := i) (by omega), if_neg hso], by unfold F_pour; rw [if_pos (show isS (nI i) = true from nb0 h4), tN_n (p := i) (by omega), if_neg hso]; exact hv, hfr⟩)
    · have hmis : so i = -1 := h22
      refine v_ldc dX6_pour_25 kX6_196 ?_
      exact v_iret dX6_pour_27 rfl (⟨by unfold R_pour; rw [if_pos (show isS (nI i) = true from nb0 h4), tN_n (p := i) (by omega), if_pos hmis], by unfold F_pour; rw [if_pos (show isS (nI i) = true from nb0 h4), tN_n (p := i) (by omega), if_pos hmis], FrC.rf 38 Mz⟩)
  · refine v_ldc dX6_pour_7 kX6_67 ?_
    exact v_iret dX6_pour_9 rfl (⟨by unfold R_pour; rw [if_neg (by rw [(show isS x = false from nb1 h4)]; decide)], by unfold F_pour; rw [if_neg (by rw [(show isS x = false from nb1 h4)]; decide)], FrC.rf 38 Mz⟩)
set_option maxRecDepth 100000 in
set_option maxHeartbeats 4000000 in
theorem aM_pour (E : ev) (Mz : mm) {x : Int32} {W : Nat} (hI : CI (mv Mz) W) {so : Nat → Int32} {sz : Nat → Nat} {ce : Nat → Nat → Int32} (hS : ShM Mz so sz ce) : Ct E 2 yX7_pour cX7_pour 6 (some .int) [.inr 92, .inl x] Mz (qI E (fun r M' => r = R_pour (mv Mz) (so, sz, ce) x ∧ mv M' = F_pour (mv Mz) (so, sz, ce) x ∧ FrM Mz M')) := by
  refine ct_of (by decide) (Nat.le_of_ble_eq_true rfl) ?_
  show V E 2 _ _ _ _ _ 0 [some (.inr 92), some (.inl x), none, none, none, none] [] Mz
  refine v_ild1 dX7_pour_0 ?_
  refine v_callSi (kM_isSheet E _) dX7_pour_1 cX7_199 rfl (by decide) (Nat.le_of_ble_eq_true rfl) rfl (fun r M1z hq => ?_)
  obtain ⟨hr, hm⟩ := hq
  rw [hr, hm]
  clear hr hm
  refine v_if_ne (tgt := 10) dX7_pour_4 (by decide) (fun h4 => ?_) (fun h4 => ?_)
  · obtain ⟨i, hil, hi, rfl⟩ := inB_n (by decide) (by decide) (b2_1.mp h4)
    have hi4 : i < 4 := by omega
    obtain ⟨hs0, hsz, ⟨hz24, hsor⟩, hce⟩ := hS i hi4
    have hpm := pm_le (sz i)
    have hpo := pm_or (sz i)
    refine v_ald0 dX7_pour_10 ?_
    refine v_getr dX7_pour_11 gX7_48 sh_92 rfl ?_
    refine v_ild1 dX7_pour_14 ?_
    refine v_ialdN dX7_pour_15 sh_105 (by omega) (by decide) ?_
    refine v_eq (hs0) ?_
    refine v_if_ge (tgt := 22) dX7_pour_16 (by decide) (fun h16 => ?_) (fun h16 => ?_)
    · have hso : ¬ so i = -1 := fun e => absurd ((so_neg hsor).mpr e) (Int32.not_lt.mpr h16)
      refine v_iconstN (n := 0) dX7_pour_22 ?_
      refine v_ist2 dX7_pour_23 (by decide) ?_
      refine v_iconstN (n := 0) dX7_pour_24 ?_
      refine v_ist3 dX7_pour_25 (by decide) ?_
      refine v_loopP (pc := 26) (fun k _ => [some (.inr 92), some (.inl (nI i)), some (.inl (nI (prN (mv Mz) (ce i) k))), some (.inl (nI k)), none, none]) (fun k Mk => mv Mk = prV (mv Mz) (ce i) k ∧ FrM Mz Mk) (pm (sz i)) (rfl) (⟨rfl, FrM.rf Mz⟩) (fun k Mk hk hM ih => ?_) (fun Mk hM => ?_)
      · obtain ⟨hv, hfr⟩ := hM
        obtain ⟨hI1, -⟩ := pr_ok (ce := ce i) hI k (by omega)
        have hpn := prN_le (mv Mz) (ce i) k
        have hszk : Mk 106 i = nI (sz i) := by rw [hfr.1 106 (by decide) (by decide) (by decide)]; exact hsz
        have hck : Mk 107 (24 * i + k) = ce i k := by rw [hfr.1 107 (by decide) (by decide) (by decide)]; exact hce k (by omega)
        have hk6 : k < 6 := by omega
        have hsw : Mk 93 (7 + k) = sw (mv Mk) k := (mv_at Mk (by omega)).symm
        refine v_ild3 dX7_pour_26 ?_
        refine v_ald0 dX7_pour_27 ?_
        refine v_getr dX7_pour_28 gX7_51 sh_92 rfl ?_
        refine v_ild1 dX7_pour_31 ?_
        refine v_ialdN dX7_pour_32 sh_106 (by omega) (by decide) ?_
        refine v_eq (hszk) ?_
        refine v_icmpN_ge (tgt := 123) dX7_pour_33 (by decide) (by omega) (by omega) (fun h33 => absurd h33 (by omega)) (fun h33 => ?_)
        refine v_ild3 dX7_pour_36 ?_
        refine v_bipushN (n := 6) dX7_pour_37 (by decide) ?_
        refine v_icmpN_ge (tgt := 123) dX7_pour_39 (by decide) (by omega) (by omega) (fun h39 => absurd h39 (by omega)) (fun h39 => ?_)
        refine v_ald0 dX7_pour_42 ?_
        refine v_getr dX7_pour_43 gX7_54 sh_92 rfl ?_
        refine v_bipushN (n := 24) dX7_pour_46 (by decide) ?_
        refine v_ild1 dX7_pour_48 ?_
        refine v_imulN dX7_pour_49 ?_
        refine v_ild3 dX7_pour_50 ?_
        refine v_iaddN dX7_pour_51 ?_
        refine v_ialdN dX7_pour_52 sh_107 (by omega) (by decide) ?_
        refine v_eq (hck) ?_
        refine v_ist4 dX7_pour_53 (by decide) ?_
        refine v_ild4 dX7_pour_55 ?_
        refine v_ldc dX7_pour_57 kX7_191 ?_
        refine v_icmp_ne (tgt := 74) dX7_pour_59 (by decide) (fun h59 => ?_) (fun h59 => ?_)
        · refine v_ild4 dX7_pour_74 ?_
          refine v_iconstN (n := 0) dX7_pour_76 ?_
          refine v_bipushN (n := 9) dX7_pour_77 (by decide) ?_
          refine v_callSi (kM_within E Mk) dX7_pour_79 cX7_108 rfl (by decide) (Nat.le_of_ble_eq_true rfl) rfl (fun r M1z hq => ?_)
          obtain ⟨hr, hm⟩ := hq
          rw [hr, hm]
          clear hr hm
          refine v_ist5 dX7_pour_82 (by decide) ?_
          refine v_ild2 dX7_pour_84 ?_
          refine v_ild5 dX7_pour_85 ?_
          refine v_ald0 dX7_pour_87 ?_
          refine v_getr dX7_pour_88 gX7_9 sh_92 rfl ?_
          refine v_bipushN (n := 7) dX7_pour_91 (by decide) ?_
          refine v_ild3 dX7_pour_93 ?_
          refine v_iaddN dX7_pour_94 ?_
          refine v_ialdN dX7_pour_95 sh_93 (by omega) (by decide) ?_
          refine v_eq (hsw) ?_
          refine v_icmp_ne (tgt := 103) dX7_pour_96 (by decide) (fun h96 => ?_) (fun h96 => ?_)
          · refine v_iconstN (n := 1) dX7_pour_103 ?_
            refine v_iaddN dX7_pour_104 ?_
            refine v_ist2 dX7_pour_105 (by decide) ?_
            refine v_ald0 dX7_pour_106 ?_
            refine v_getr dX7_pour_107 gX7_9 sh_92 rfl ?_
            refine v_bipushN (n := 7) dX7_pour_110 (by decide) ?_
            refine v_ild3 dX7_pour_112 ?_
            refine v_iaddN dX7_pour_113 ?_
            refine v_ild5 dX7_pour_114 ?_
            refine v_iastN dX7_pour_116 sh_93 (by omega) (by decide) ?_
            refine v_iincN3 (n := 1) dX7_pour_117 (by decide) ?_
            refine v_goto (tgt := 26) dX7_pour_120 (by decide) ?_
            refine v_fg4 (v_fg5 ?_)
            exact v_lo (by rw [prN_f h59 (by rw [← hv]; exact h96)]) (ih _ ⟨by rw [mv_u (by omega), hv, prV_y h59], hfr.tr (FrM.w _ (by omega))⟩)
          · refine v_iconstN (n := 0) dX7_pour_99 ?_
            refine v_goto (tgt := 104) dX7_pour_100 (by decide) ?_
            refine v_iaddN dX7_pour_104 ?_
            refine v_ist2 dX7_pour_105 (by decide) ?_
            refine v_ald0 dX7_pour_106 ?_
            refine v_getr dX7_pour_107 gX7_9 sh_92 rfl ?_
            refine v_bipushN (n := 7) dX7_pour_110 (by decide) ?_
            refine v_ild3 dX7_pour_112 ?_
            refine v_iaddN dX7_pour_113 ?_
            refine v_ild5 dX7_pour_114 ?_
            refine v_iastN dX7_pour_116 sh_93 (by omega) (by decide) ?_
            refine v_iincN3 (n := 1) dX7_pour_117 (by decide) ?_
            refine v_goto (tgt := 26) dX7_pour_120 (by decide) ?_
            refine v_fg4 (v_fg5 ?_)
            exact v_lo (by rw [prN_t h59 (by rw [← hv]; exact h96), Nat.add_zero]) (ih _ ⟨by rw [mv_u (by omega), hv, prV_y h59], hfr.tr (FrM.w _ (by omega))⟩)
        · refine v_ald0 dX7_pour_62 ?_
          refine v_getr dX7_pour_63 gX7_9 sh_92 rfl ?_
          refine v_bipushN (n := 7) dX7_pour_66 (by decide) ?_
          refine v_ild3 dX7_pour_68 ?_
          refine v_iaddN dX7_pour_69 ?_
          refine v_ialdN dX7_pour_70 sh_93 (by omega) (by decide) ?_
          refine v_eq (hsw) ?_
          refine v_goto (tgt := 82) dX7_pour_71 (by decide) ?_
          refine v_ist5 dX7_pour_82 (by decide) ?_
          refine v_ild2 dX7_pour_84 ?_
          refine v_ild5 dX7_pour_85 ?_
          refine v_ald0 dX7_pour_87 ?_
          refine v_getr dX7_pour_88 gX7_9 sh_92 rfl ?_
          refine v_bipushN (n := 7) dX7_pour_91 (by decide) ?_
          refine v_ild3 dX7_pour_93 ?_
          refine v_iaddN dX7_pour_94 ?_
          refine v_ialdN dX7_pour_95 sh_93 (by omega) (by decide) ?_
          refine v_eq (hsw) ?_
          refine v_icmp_ne (tgt := 103) dX7_pour_96 (by decide) (fun h96 => ?_) (fun h96 => ?_)
          · refine v_iconstN (n := 1) dX7_pour_103 ?_
            refine v_iaddN dX7_pour_104 ?_
            refine v_ist2 dX7_pour_105 (by decide) ?_
            refine v_ald0 dX7_pour_106 ?_
            refine v_getr dX7_pour_107 gX7_9 sh_92 rfl ?_
            refine v_bipushN (n := 7) dX7_pour_110 (by decide) ?_
            refine v_ild3 dX7_pour_112 ?_
            refine v_iaddN dX7_pour_113 ?_
            refine v_ild5 dX7_pour_114 ?_
            refine v_iastN dX7_pour_116 sh_93 (by omega) (by decide) ?_
            refine v_iincN3 (n := 1) dX7_pour_117 (by decide) ?_
            refine v_goto (tgt := 26) dX7_pour_120 (by decide) ?_
            exact absurd rfl h96
          · refine v_iconstN (n := 0) dX7_pour_99 ?_
            refine v_goto (tgt := 104) dX7_pour_100 (by decide) ?_
            refine v_iaddN dX7_pour_104 ?_
            refine v_ist2 dX7_pour_105 (by decide) ?_
            refine v_ald0 dX7_pour_106 ?_
            refine v_getr dX7_pour_107 gX7_9 sh_92 rfl ?_
            refine v_bipushN (n := 7) dX7_pour_110 (by decide) ?_
            refine v_ild3 dX7_pour_112 ?_
            refine v_iaddN dX7_pour_113 ?_
            refine v_ild5 dX7_pour_114 ?_
            refine v_iastN dX7_pour_116 sh_93 (by omega) (by decide) ?_
            refine v_iincN3 (n := 1) dX7_pour_117 (by decide) ?_
            refine v_goto (tgt := 26) dX7_pour_120 (by decide) ?_
            refine v_fg4 (v_fg5 ?_)
            exact v_lo (by rw [prN_n h59, Nat.add_zero]) (ih _ ⟨by rw [mv_u (by omega), hv, prV_n h59, upd_self], hfr.tr (FrM.w _ (by omega))⟩)
      · obtain ⟨hv, hfr⟩ := hM
        obtain ⟨hI1, -⟩ := pr_ok (ce := ce i) hI (pm (sz i)) hpm.1
        have hpn := prN_le (mv Mz) (ce i) (pm (sz i))
        have hszk : Mk 106 i = nI (sz i) := by rw [hfr.1 106 (by decide) (by decide) (by decide)]; exact hsz
        refine v_ild3 dX7_pour_26 ?_
        refine v_ald0 dX7_pour_27 ?_
        refine v_getr dX7_pour_28 gX7_51 sh_92 rfl ?_
        refine v_ild1 dX7_pour_31 ?_
        refine v_ialdN dX7_pour_32 sh_106 (by omega) (by decide) ?_
        refine v_eq (hszk) ?_
        refine v_icmpN_ge (tgt := 123) dX7_pour_33 (by decide) (by omega) (by omega) (fun h33 => ?_) (fun h33 => ?_)
        · refine v_ild2 dX7_pour_123 ?_
          exact v_iret dX7_pour_124 rfl (⟨by unfold R_pour; rw [if_pos (show isS (nI i) = true from b2_1.mp h4), tN_n (p := i) (by omega), if_neg hso], by unfold F_pour; rw [if_pos (show isS (nI i) = true from b2_1.mp h4), tN_n (p := i) (by omega), if_neg hso]; exact hv, hfr⟩)
        · refine v_ild3 dX7_pour_36 ?_
          refine v_bipushN (n := 6) dX7_pour_37 (by decide) ?_
          refine v_icmpN_ge (tgt := 123) dX7_pour_39 (by decide) (by omega) (by omega) (fun h39 => ?_) (fun h39 => absurd h39 (by omega))
          refine v_ild2 dX7_pour_123 ?_
          exact v_iret dX7_pour_124 rfl (⟨by unfold R_pour; rw [if_pos (show isS (nI i) = true from b2_1.mp h4), tN_n (p := i) (by omega), if_neg hso], by unfold F_pour; rw [if_pos (show isS (nI i) = true from b2_1.mp h4), tN_n (p := i) (by omega), if_neg hso]; exact hv, hfr⟩)
    · have hmis : so i = -1 := (so_neg hsor).mp (Int32.not_le.mp h16)
      refine v_ldc dX7_pour_19 kX7_202 ?_
      exact v_iret dX7_pour_21 rfl (⟨by unfold R_pour; rw [if_pos (show isS (nI i) = true from b2_1.mp h4), tN_n (p := i) (by omega), if_pos hmis], by unfold F_pour; rw [if_pos (show isS (nI i) = true from b2_1.mp h4), tN_n (p := i) (by omega), if_pos hmis], FrM.rf Mz⟩)
  · refine v_ldc dX7_pour_7 kX7_119 ?_
    exact v_iret dX7_pour_9 rfl (⟨by unfold R_pour; rw [if_neg (by rw [(show isS x = false from b2_0.mp h4)]; decide)], by unfold F_pour; rw [if_neg (by rw [(show isS x = false from b2_0.mp h4)]; decide)], FrM.rf Mz⟩)
theorem v_loopQ {E : ev} {d : Nat} {y : MethodName} {cc : ByteArray} {nL : Nat} {ret : Option FieldType} {Qc : qcT} {pc : Nat} {L : List (Option av)} {S : List av} {M : mm} (Lf : Nat → List (Option av)) (Pf : Nat → Prop) (n : Nat) (h0 : L = Lf 0) (hp : Pf 0) (hs : ∀ k, k < n → Pf k → (Pf (k + 1) → V E d y cc nL ret Qc pc (Lf (k + 1)) S M) → V E d y cc nL ret Qc pc (Lf k) S M) (hN : Pf n → V E d y cc nL ret Qc pc (Lf n) S M) : V E d y cc nL ret Qc pc L S M := by
  refine v_loopP (fun k _ => Lf k) (fun k M' => Pf k ∧ M' = M) n h0 ⟨hp, rfl⟩ (fun k M' hk h ih => ?_) (fun M' h => ?_)
  · obtain ⟨h1, h2⟩ := h
    rw [h2]
    exact hs k hk h1 (fun q => ih M ⟨q, rfl⟩)
  · rw [h.2]; exact hN h.1
set_option maxRecDepth 100000 in
set_option maxHeartbeats 4000000 in
theorem aX_reads (E : ev) (Mz : mm) {x : Int32} {W : Nat} (hI : CI (cv Mz 38) W) {so : Nat → Int32} {sz : Nat → Nat} {ce : Nat → Nat → Int32} (hS : ShC Mz so sz ce) : Ct E 2 yX6_reads cX6_reads 4 (some .int) [.inr 0, .inl x] Mz (qI E (fun r M' => r = R_reads (cv Mz 38) (so, sz, ce) x ∧ M' = Mz)) := by
  refine ct_of (by decide) (Nat.le_of_ble_eq_true rfl) ?_
  show V E 2 _ _ _ _ _ 0 [some (.inr 0), some (.inl x), none, none] [] Mz
  refine v_ild1 dX6_reads_0 ?_
  refine v_callSi (kX_noSheet E _) dX6_reads_1 cX6_190 rfl (by decide) (Nat.le_of_ble_eq_true rfl) rfl (fun r M1z hq => ?_)
  obtain ⟨hr, hm⟩ := hq
  rw [hr, hm]
  clear hr hm
  refine v_if_eq (tgt := 10) dX6_reads_4 (by decide) (fun h4 => ?_) (fun h4 => ?_)
  · obtain ⟨i, hil, hi, rfl⟩ := inB_n (by decide) (by decide) (nb0 h4)
    have hi4 : i < 4 := by omega
    have hs := sbi hi4
    obtain ⟨hs0, hsz, ⟨hz24, hsor⟩, hce⟩ := hS i hi4
    have hpm := pm_le (sz i)
    have hpo := pm_or (sz i)
    refine v_ald0 dX6_reads_10 ?_
    refine v_getr dX6_reads_11 gX6_40 sh_0 rfl ?_
    refine v_ild1 dX6_reads_14 ?_
    refine v_aaldN dX6_reads_15 sh_65 rfl (by omega) (by decide) ?_
    refine v_ast2 dX6_reads_16 (by decide) ?_
    refine v_ald2 dX6_reads_17 ?_
    refine v_geti dX6_reads_18 gX6_193 (shS hs) rfl ?_
    refine v_eq (hs0) ?_
    refine v_iconst (x := -1) dX6_reads_21 (by decide) ?_
    refine v_icmp_ne (tgt := 28) dX6_reads_22 (by decide) (fun h22 => ?_) (fun h22 => ?_)
    · have hso : ¬ so i = -1 := h22
      refine v_iconstN (n := 0) dX6_reads_28 ?_
      refine v_ist3 dX6_reads_29 (by decide) ?_
      refine v_loopQ (pc := 30) (fun k => [some (.inr 0), some (.inl (nI i)), some (.inr (66 + 2 * i)), some (.inl (nI k))]) (fun k => rsR (cv Mz 38) (ce i) (sz i) (sz i) = rsR (cv Mz 38) (ce i) (sz i) (sz i - k)) (sz i) (rfl) (rfl) (fun k hk hrs ih => ?_) (fun hrs => ?_)
      · have hck : Mz (66 + 2 * i + 1) k = ce i k := hce k (by omega)
        have hbn : (b2 (!decide (Mz (66 + 2 * i + 1) k = cNONE)) = 0 → ce i k = cNONE) ∧ (b2 (!decide (Mz (66 + 2 * i + 1) k = cNONE)) ≠ 0 → ¬ ce i k = cNONE) := by rw [hck]; exact ⟨fun h => of_decide_eq_true (nb0 h), fun h => of_decide_eq_false (nb1 h)⟩
        refine v_ild3 dX6_reads_30 ?_
        refine v_ald2 dX6_reads_31 ?_
        refine v_geti dX6_reads_32 gX6_197 (shS hs) rfl ?_
        refine v_eq (hsz) ?_
        refine v_icmpN_ge (tgt := 78) dX6_reads_35 (by decide) (by omega) (by omega) (fun h35 => absurd h35 (by omega)) (fun h35 => ?_)
        refine v_ald2 dX6_reads_38 ?_
        refine v_ild3 dX6_reads_39 ?_
        refine v_callVi (kS_hasNumber E Mz hs (by omega)) dX6_reads_40 cX6_200 rfl (shS hs) rfl (by decide) (Nat.le_of_ble_eq_true rfl) rfl (fun r M1z hq => ?_)
        obtain ⟨hr, hm⟩ := hq
        rw [hr, hm]
        clear hr hm
        refine v_if_eq (tgt := 72) dX6_reads_43 (by decide) (fun h43 => ?_) (fun h43 => ?_)
        · refine v_iincN3 (n := 1) dX6_reads_72 (by decide) ?_
          refine v_goto (tgt := 30) dX6_reads_75 (by decide) ?_
          exact ih (hrs.trans (rs_f hk (by unfold rsB; rw [decide_eq_true (hbn.1 h43)]; rfl)))
        · refine v_ild3 dX6_reads_46 ?_
          refine v_bipushN (n := 6) dX6_reads_47 (by decide) ?_
          refine v_icmpN_ge (tgt := 70) dX6_reads_49 (by decide) (by omega) (by omega) (fun h49 => ?_) (fun h49 => ?_)
          · refine v_ild3 dX6_reads_70 ?_
            exact v_iret dX6_reads_71 rfl (⟨by unfold R_reads; rw [if_pos (show isS (nI i) = true from nb0 h4), tN_n (p := i) (by omega), if_neg hso]; exact ((hrs.trans (rs_t hk (by unfold rsB; rw [decide_eq_false (hbn.2 h43), decide_eq_true (show 6 ≤ k by omega)]; rfl)))).symm, rfl⟩)
          · refine v_ald2 dX6_reads_52 ?_
            refine v_getr dX6_reads_53 gX6_203 (shS hs) rfl ?_
            refine v_ild3 dX6_reads_56 ?_
            refine v_ialdN dX6_reads_57 (shS1 hs) (by omega) (by decide) ?_
            refine v_ald0 dX6_reads_58 ?_
            refine v_getr dX6_reads_59 gX6_28 sh_0 rfl ?_
            refine v_getr dX6_reads_62 gX6_134 sh_38 rfl ?_
            refine v_ild3 dX6_reads_65 ?_
            refine v_ialdN dX6_reads_66 sh_45 (by omega) (by decide) ?_
            refine v_eq ((cv_gr Mz 38 (by omega)).symm) ?_
            refine v_icmp_eq (tgt := 72) dX6_reads_67 (by decide) (fun h67 => ?_) (fun h67 => ?_)
            · refine v_iincN3 (n := 1) dX6_reads_72 (by decide) ?_
              refine v_goto (tgt := 30) dX6_reads_75 (by decide) ?_
              exact ih (hrs.trans (rs_f hk (by unfold rsB; rw [decide_eq_false (hbn.2 h43), decide_eq_false (show ¬ 6 ≤ k by omega), decide_eq_true (show ce i k = gr (cv Mz 38) k from hck ▸ h67)]; rfl)))
            · refine v_ild3 dX6_reads_70 ?_
              exact v_iret dX6_reads_71 rfl (⟨by unfold R_reads; rw [if_pos (show isS (nI i) = true from nb0 h4), tN_n (p := i) (by omega), if_neg hso]; exact ((hrs.trans (rs_t hk (by unfold rsB; rw [decide_eq_false (hbn.2 h43), decide_eq_false (show ¬ ce i k = gr (cv Mz 38) k from hck ▸ h67)]; cases decide (6 ≤ k) <;> rfl)))).symm, rfl⟩)
      · refine v_ild3 dX6_reads_30 ?_
        refine v_ald2 dX6_reads_31 ?_
        refine v_geti dX6_reads_32 gX6_197 (shS hs) rfl ?_
        refine v_eq (hsz) ?_
        refine v_icmpN_ge (tgt := 78) dX6_reads_35 (by decide) (by omega) (by omega) (fun h35 => ?_) (fun h35 => absurd h35 (by omega))
        refine v_ldc dX6_reads_78 kX6_181 ?_
        exact v_iret dX6_reads_80 rfl (⟨by unfold R_reads; rw [if_pos (show isS (nI i) = true from nb0 h4), tN_n (p := i) (by omega), if_neg hso]; rw [Nat.sub_self] at hrs; exact hrs.symm, rfl⟩)
    · have hmis : so i = -1 := h22
      refine v_ldc dX6_reads_25 kX6_196 ?_
      exact v_iret dX6_reads_27 rfl (⟨by unfold R_reads; rw [if_pos (show isS (nI i) = true from nb0 h4), tN_n (p := i) (by omega), if_pos hmis], rfl⟩)
  · refine v_ldc dX6_reads_7 kX6_67 ?_
    exact v_iret dX6_reads_9 rfl (⟨by unfold R_reads; rw [if_neg (by rw [(show isS x = false from nb1 h4)]; decide)], rfl⟩)
theorem isFk {k : Nat} (hk : k < 2 ^ 31) (h : isF (nI k) = true) : k < 6 := by
  obtain ⟨j, -, hj, e⟩ := inB_n (by decide) (by decide) h
  rw [← tN_n hk, e, tN_n (by omega)]; omega
theorem isFn {k : Nat} (hk : k < 2 ^ 31) (h : isF (nI k) = false) : 6 ≤ k := by
  by_cases q : 6 ≤ k
  · exact q
  · exact absurd rfl (inB_f h (Nat.zero_le k) (by omega) (by decide))
set_option maxRecDepth 100000 in
set_option maxHeartbeats 4000000 in
theorem aM_reads (E : ev) (Mz : mm) {x : Int32} {W : Nat} (hI : CI (mv Mz) W) {so : Nat → Int32} {sz : Nat → Nat} {ce : Nat → Nat → Int32} (hS : ShM Mz so sz ce) : Ct E 2 yX7_reads cX7_reads 4 (some .int) [.inr 92, .inl x] Mz (qI E (fun r M' => r = R_reads (mv Mz) (so, sz, ce) x ∧ M' = Mz)) := by
  refine ct_of (by decide) (Nat.le_of_ble_eq_true rfl) ?_
  show V E 2 _ _ _ _ _ 0 [some (.inr 92), some (.inl x), none, none] [] Mz
  refine v_ild1 dX7_reads_0 ?_
  refine v_callSi (kM_isSheet E _) dX7_reads_1 cX7_199 rfl (by decide) (Nat.le_of_ble_eq_true rfl) rfl (fun r M1z hq => ?_)
  obtain ⟨hr, hm⟩ := hq
  rw [hr, hm]
  clear hr hm
  refine v_if_ne (tgt := 10) dX7_reads_4 (by decide) (fun h4 => ?_) (fun h4 => ?_)
  · obtain ⟨i, hil, hi, rfl⟩ := inB_n (by decide) (by decide) (b2_1.mp h4)
    have hi4 : i < 4 := by omega
    obtain ⟨hs0, hsz, ⟨hz24, hsor⟩, hce⟩ := hS i hi4
    have hpm := pm_le (sz i)
    have hpo := pm_or (sz i)
    refine v_ald0 dX7_reads_10 ?_
    refine v_getr dX7_reads_11 gX7_48 sh_92 rfl ?_
    refine v_ild1 dX7_reads_14 ?_
    refine v_ialdN dX7_reads_15 sh_105 (by omega) (by decide) ?_
    refine v_eq (hs0) ?_
    refine v_if_ge (tgt := 22) dX7_reads_16 (by decide) (fun h16 => ?_) (fun h16 => ?_)
    · have hso : ¬ so i = -1 := fun e => absurd ((so_neg hsor).mpr e) (Int32.not_lt.mpr h16)
      refine v_iconstN (n := 0) dX7_reads_22 ?_
      refine v_ist2 dX7_reads_23 (by decide) ?_
      refine v_loopQ (pc := 24) (fun k => [some (.inr 92), some (.inl (nI i)), some (.inl (nI k)), none]) (fun k => rsR (mv Mz) (ce i) (sz i) (sz i) = rsR (mv Mz) (ce i) (sz i) (sz i - k)) (sz i) (rfl) (rfl) (fun k hk hrs ih => ?_) (fun hrs => ?_)
      · have hck : Mz 107 (24 * i + k) = ce i k := hce k (by omega)
        refine v_ild2 dX7_reads_24 ?_
        refine v_ald0 dX7_reads_25 ?_
        refine v_getr dX7_reads_26 gX7_51 sh_92 rfl ?_
        refine v_ild1 dX7_reads_29 ?_
        refine v_ialdN dX7_reads_30 sh_106 (by omega) (by decide) ?_
        refine v_eq (hsz) ?_
        refine v_icmpN_ge (tgt := 80) dX7_reads_31 (by decide) (by omega) (by omega) (fun h31 => absurd h31 (by omega)) (fun h31 => ?_)
        refine v_ald0 dX7_reads_34 ?_
        refine v_getr dX7_reads_35 gX7_54 sh_92 rfl ?_
        refine v_bipushN (n := 24) dX7_reads_38 (by decide) ?_
        refine v_ild1 dX7_reads_40 ?_
        refine v_imulN dX7_reads_41 ?_
        refine v_ild2 dX7_reads_42 ?_
        refine v_iaddN dX7_reads_43 ?_
        refine v_ialdN dX7_reads_44 sh_107 (by omega) (by decide) ?_
        refine v_eq (hck) ?_
        refine v_ist3 dX7_reads_45 (by decide) ?_
        refine v_ild3 dX7_reads_46 ?_
        refine v_ldc dX7_reads_47 kX7_191 ?_
        refine v_icmp_eq (tgt := 74) dX7_reads_49 (by decide) (fun h49 => ?_) (fun h49 => ?_)
        · refine v_iincN2 (n := 1) dX7_reads_74 (by decide) ?_
          refine v_goto (tgt := 24) dX7_reads_77 (by decide) ?_
          refine v_fg3 ?_
          exact ih (hrs.trans (rs_f hk (by unfold rsB; rw [decide_eq_true (show ce i k = cNONE from h49)]; rfl)))
        · refine v_ild2 dX7_reads_52 ?_
          refine v_callSi (kM_isField E _) dX7_reads_53 cX7_145 rfl (by decide) (Nat.le_of_ble_eq_true rfl) rfl (fun r M1z hq => ?_)
          obtain ⟨hr, hm⟩ := hq
          rw [hr, hm]
          clear hr hm
          refine v_if_eq (tgt := 72) dX7_reads_56 (by decide) (fun h56 => ?_) (fun h56 => ?_)
          · refine v_ild2 dX7_reads_72 ?_
            exact v_iret dX7_reads_73 rfl (⟨by unfold R_reads; rw [if_pos (show isS (nI i) = true from b2_1.mp h4), tN_n (p := i) (by omega), if_neg hso]; exact ((hrs.trans (rs_t hk (by unfold rsB; rw [decide_eq_false (show ¬ ce i k = cNONE from h49), decide_eq_true (show 6 ≤ k from isFn (by omega) (b2_0.mp h56))]; rfl)))).symm, rfl⟩)
          · have hk6 := isFk (by omega) (b2_1.mp h56)
            refine v_ild3 dX7_reads_59 ?_
            refine v_ald0 dX7_reads_60 ?_
            refine v_getr dX7_reads_61 gX7_9 sh_92 rfl ?_
            refine v_bipushN (n := 13) dX7_reads_64 (by decide) ?_
            refine v_ild2 dX7_reads_66 ?_
            refine v_iaddN dX7_reads_67 ?_
            refine v_ialdN dX7_reads_68 sh_93 (by omega) (by decide) ?_
            refine v_eq (show _ = gr (mv Mz) k from (mv_at Mz (by omega)).symm) ?_
            refine v_icmp_eq (tgt := 74) dX7_reads_69 (by decide) (fun h69 => ?_) (fun h69 => ?_)
            · refine v_iincN2 (n := 1) dX7_reads_74 (by decide) ?_
              refine v_goto (tgt := 24) dX7_reads_77 (by decide) ?_
              refine v_fg3 ?_
              exact ih (hrs.trans (rs_f hk (by have hk6 := isFk (by omega) (b2_1.mp h56); unfold rsB; rw [decide_eq_false (show ¬ ce i k = cNONE from h49), decide_eq_false (show ¬ 6 ≤ k by omega), decide_eq_true (show ce i k = gr (mv Mz) k from h69)]; rfl)))
            · refine v_ild2 dX7_reads_72 ?_
              exact v_iret dX7_reads_73 rfl (⟨by unfold R_reads; rw [if_pos (show isS (nI i) = true from b2_1.mp h4), tN_n (p := i) (by omega), if_neg hso]; exact ((hrs.trans (rs_t hk (by unfold rsB; rw [decide_eq_false (show ¬ ce i k = cNONE from h49), decide_eq_false (show ¬ ce i k = gr (mv Mz) k from h69)]; cases decide (6 ≤ k) <;> rfl)))).symm, rfl⟩)
      · refine v_ild2 dX7_reads_24 ?_
        refine v_ald0 dX7_reads_25 ?_
        refine v_getr dX7_reads_26 gX7_51 sh_92 rfl ?_
        refine v_ild1 dX7_reads_29 ?_
        refine v_ialdN dX7_reads_30 sh_106 (by omega) (by decide) ?_
        refine v_eq (hsz) ?_
        refine v_icmpN_ge (tgt := 80) dX7_reads_31 (by decide) (by omega) (by omega) (fun h31 => ?_) (fun h31 => absurd h31 (by omega))
        refine v_ldc dX7_reads_80 kX7_191 ?_
        exact v_iret dX7_reads_82 rfl (⟨by unfold R_reads; rw [if_pos (show isS (nI i) = true from b2_1.mp h4), tN_n (p := i) (by omega), if_neg hso]; rw [Nat.sub_self] at hrs; exact hrs.symm, rfl⟩)
    · have hmis : so i = -1 := (so_neg hsor).mp (Int32.not_le.mp h16)
      refine v_ldc dX7_reads_19 kX7_202 ?_
      exact v_iret dX7_reads_21 rfl (⟨by unfold R_reads; rw [if_pos (show isS (nI i) = true from b2_1.mp h4), tN_n (p := i) (by omega), if_pos hmis], rfl⟩)
  · refine v_ldc dX7_reads_7 kX7_119 ?_
    exact v_iret dX7_reads_9 rfl (⟨by unfold R_reads; rw [if_neg (by rw [(show isS x = false from b2_0.mp h4)]; decide)], rfl⟩)
