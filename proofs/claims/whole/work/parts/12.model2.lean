theorem le1_2 {x : Int32} : x ≤ nI 1 ↔ x < nI 2 := by
  rw [Int32.le_iff_toInt_le, Int32.lt_iff_toInt_lt, show (nI 1).toInt = 1 from rfl, show (nI 2).toInt = 2 from rfl]
  omega
theorem one9_0 (x : Int32) (h : inR x 10) : one9 x = 0 ↔ x = 0 := by
  obtain ⟨k, hk, rfl⟩ := h
  have : ∀ k : Fin 10, one9 (nI k.val) = 0 ↔ nI k.val = 0 := by decide +kernel
  exact this ⟨k, hk⟩
set_option maxRecDepth 100000 in
set_option maxHeartbeats 4000000 in
theorem kM_saysOf (E : ev) (Mz : mm) {p f W : Nat} (hp : p < 8) (hf : f < 6) (hI : CI (mv Mz) W) : Ct E 4 yX7_saysOf cX7_saysOf 6 (some .int) [.inr 92, .inl (nI p), .inl (nI f)] Mz (qI E (fun r M' => r = says (mv Mz) p f ∧ M' = Mz)) := by
  refine ct_of (by decide) (Nat.le_of_ble_eq_true rfl) ?_
  show V E 4 _ _ _ _ _ 0 [some (.inr 92), some (.inl (nI p)), some (.inl (nI f)), none, none, none] [] Mz
  obtain ⟨ke, hk6, hke⟩ := hI.kd hp
  refine v_ald0 dX7_saysOf_0 ?_
  refine v_ild1 dX7_saysOf_1 ?_
  refine v_ild2 dX7_saysOf_2 ?_
  refine v_callVi (kM_thinks E Mz (by omega) (by omega)) dX7_saysOf_3 cX7_83 rfl sh_92 rfl (by decide) (Nat.le_of_ble_eq_true rfl) rfl (fun r M1z hq => ?_)
  obtain ⟨hr, hm⟩ := hq
  rw [hr, hm]
  clear hr hm
  refine v_ist3 dX7_saysOf_6 (by decide) ?_
  refine v_cut (pc' := 28) (L' := [some (.inr 92), some (.inl (nI p)), some (.inl (nI f)), some (.inl (th (mv Mz) p f)), none, none]) (S' := [.inl (one9 (th (mv Mz) p f))]) (M' := Mz) (fun J28 => ?_) ?_
  · refine v_ild3 dX7_saysOf_7 ?_
    refine v_if_ne (tgt := 15) dX7_saysOf_8 (by decide) (fun h8 => ?_) (fun h8 => ?_)
    · refine v_ild3 dX7_saysOf_15 ?_
      refine v_bipushN (n := 9) dX7_saysOf_16 (by decide) ?_
      refine v_icmp_ne (tgt := 25) dX7_saysOf_18 (by decide) (fun h18 => ?_) (fun h18 => ?_)
      · refine v_ild3 dX7_saysOf_25 ?_
        refine v_iconstN (n := 1) dX7_saysOf_26 ?_
        refine v_iadd dX7_saysOf_27 ?_
        exact v_eq (by unfold one9; first | rw [if_pos h8] | rw [if_neg h8, if_pos h18] | rw [if_neg h8, if_neg h18]) J28
      · refine v_iconstN (n := 1) dX7_saysOf_21 ?_
        refine v_goto (tgt := 28) dX7_saysOf_22 (by decide) ?_
        exact v_eq (by unfold one9; first | rw [if_pos h8] | rw [if_neg h8, if_pos h18] | rw [if_neg h8, if_neg h18]) J28
    · refine v_iconstN (n := 0) dX7_saysOf_11 ?_
      refine v_goto (tgt := 28) dX7_saysOf_12 (by decide) ?_
      exact v_eq (by unfold one9; first | rw [if_pos h8] | rw [if_neg h8, if_pos h18] | rw [if_neg h8, if_neg h18]) J28
  · refine v_ist4 dX7_saysOf_28 (by decide) ?_
    refine v_cut (pc' := 49) (L' := [some (.inr 92), some (.inl (nI p)), some (.inl (nI f)), some (.inl (th (mv Mz) p f)), some (.inl (one9 (th (mv Mz) p f))), none]) (S' := [.inl (if kd (mv Mz) p = nI 4 then fc (mv Mz) f else nI 0)]) (M' := Mz) (fun J49 => ?_) ?_
    · refine v_ald0 dX7_saysOf_30 ?_
      refine v_ild1 dX7_saysOf_31 ?_
      refine v_iconstN (n := 0) dX7_saysOf_32 ?_
      refine v_callVi (kM_of E Mz (by omega) (by omega)) dX7_saysOf_33 cX7_79 rfl sh_92 rfl (by decide) (Nat.le_of_ble_eq_true rfl) rfl (fun r M1z hq => ?_)
      obtain ⟨hr, hm⟩ := hq
      rw [hr, hm]
      clear hr hm
      refine v_iconstN (n := 4) dX7_saysOf_36 ?_
      refine v_icmp_ne (tgt := 48) dX7_saysOf_37 (by decide) (fun h37 => ?_) (fun h37 => ?_)
      · refine v_iconstN (n := 0) dX7_saysOf_48 ?_
        exact v_eq ((if_neg (show ¬ kd (mv Mz) p = nI 4 from h37)).symm) J49
      · refine v_ald0 dX7_saysOf_40 ?_
        refine v_ild2 dX7_saysOf_41 ?_
        refine v_callVi (kM_firstOf E Mz hf hI) dX7_saysOf_42 cX7_93 rfl sh_92 rfl (by decide) (Nat.le_of_ble_eq_true rfl) rfl (fun r M1z hq => ?_)
        obtain ⟨hr, hm⟩ := hq
        rw [hr, hm]
        clear hr hm
        refine v_goto (tgt := 49) dX7_saysOf_45 (by decide) ?_
        exact v_eq ((if_pos (show kd (mv Mz) p = nI 4 from h37)).symm) J49
    · refine v_ist5 dX7_saysOf_49 (by decide) ?_
      refine v_ald0 dX7_saysOf_51 ?_
      refine v_ild1 dX7_saysOf_52 ?_
      refine v_iconstN (n := 0) dX7_saysOf_53 ?_
      refine v_callVi (kM_of E Mz (by omega) (by omega)) dX7_saysOf_54 cX7_79 rfl sh_92 rfl (by decide) (Nat.le_of_ble_eq_true rfl) rfl (fun r M1z hq => ?_)
      obtain ⟨hr, hm⟩ := hq
      rw [hr, hm]
      clear hr hm
      refine v_eq (hke) ?_
      rcases (show ke = 0 ∨ ke = 1 ∨ ke = 2 ∨ ke = 3 ∨ ke = 4 ∨ ke = 5 by omega) with rfl | rfl | rfl | rfl | rfl | rfl
      · refine v_tsOut (tgt := 143) dX7_saysOf_57 (by decide) (by decide) ?_
        refine v_ild3 dX7_saysOf_143 ?_
        exact v_iret dX7_saysOf_144 rfl (⟨by unfold says; rw [show kd (mv Mz) p = nI 0 from hke, if_neg (by decide), if_neg (by decide), if_neg (by decide), if_neg (by decide), if_neg (by decide)], rfl⟩)
      · refine v_tsIn (off := 35) (tgt := 92) dX7_saysOf_57 (by decide) (by decide) (by decide) (by decide) ?_
        refine v_ild4 dX7_saysOf_92 ?_
        exact v_iret dX7_saysOf_94 rfl (⟨by unfold says; rw [show kd (mv Mz) p = nI 1 from hke, if_pos rfl], rfl⟩)
      · refine v_tsIn (off := 38) (tgt := 95) dX7_saysOf_57 (by decide) (by decide) (by decide) (by decide) ?_
        refine v_ald0 dX7_saysOf_95 ?_
        refine v_getr dX7_saysOf_96 gX7_9 sh_92 rfl ?_
        refine v_bipushN (n := 7) dX7_saysOf_99 (by decide) ?_
        refine v_ild2 dX7_saysOf_101 ?_
        refine v_iaddN dX7_saysOf_102 ?_
        refine v_ialdN dX7_saysOf_103 sh_93 (by omega) (by decide) ?_
        exact v_iret dX7_saysOf_104 rfl (⟨by unfold says; rw [show kd (mv Mz) p = nI 2 from hke, if_neg (by decide), if_neg (by decide), if_pos rfl]; exact (mv_at Mz (show 7 + f < 99 by omega)).symm, rfl⟩)
      · refine v_tsIn (off := 48) (tgt := 105) dX7_saysOf_57 (by decide) (by decide) (by decide) (by decide) ?_
        refine v_ild4 dX7_saysOf_105 ?_
        refine v_if_ne (tgt := 114) dX7_saysOf_107 (by decide) (fun h107 => ?_) (fun h107 => ?_)
        · refine v_bipushN (n := 10) dX7_saysOf_114 (by decide) ?_
          refine v_ild4 dX7_saysOf_116 ?_
          refine v_isub dX7_saysOf_118 ?_
          exact v_iret dX7_saysOf_119 rfl (⟨by unfold says; rw [show kd (mv Mz) p = nI 3 from hke, if_neg (by decide), if_pos rfl, if_neg (fun e => h107 ((one9_0 _ (hI.th hp hf)).mpr e))], rfl⟩)
        · refine v_iconstN (n := 0) dX7_saysOf_110 ?_
          refine v_goto (tgt := 119) dX7_saysOf_111 (by decide) ?_
          exact v_iret dX7_saysOf_119 rfl (⟨by unfold says; rw [show kd (mv Mz) p = nI 3 from hke, if_neg (by decide), if_pos rfl, if_pos ((one9_0 _ (hI.th hp hf)).mp h107)], rfl⟩)
      · refine v_tsIn (off := 63) (tgt := 120) dX7_saysOf_57 (by decide) (by decide) (by decide) (by decide) ?_
        refine v_ild5 dX7_saysOf_120 ?_
        refine v_if_ne (tgt := 137) dX7_saysOf_122 (by decide) (fun h122 => ?_) (fun h122 => ?_)
        · refine v_ild5 dX7_saysOf_137 ?_
          exact v_iret dX7_saysOf_139 rfl (⟨by rw [if_pos (show kd (mv Mz) p = nI 4 from hke)] at h122 ⊢; unfold says; rw [show kd (mv Mz) p = nI 4 from hke, if_neg (by decide), if_neg (by decide), if_neg (by decide), if_pos rfl, if_neg h122], rfl⟩)
        · refine v_ald0 dX7_saysOf_125 ?_
          refine v_getr dX7_saysOf_126 gX7_9 sh_92 rfl ?_
          refine v_bipushN (n := 7) dX7_saysOf_129 (by decide) ?_
          refine v_ild2 dX7_saysOf_131 ?_
          refine v_iaddN dX7_saysOf_132 ?_
          refine v_ialdN dX7_saysOf_133 sh_93 (by omega) (by decide) ?_
          refine v_goto (tgt := 139) dX7_saysOf_134 (by decide) ?_
          exact v_iret dX7_saysOf_139 rfl (⟨by rw [if_pos (show kd (mv Mz) p = nI 4 from hke)] at h122; unfold says; rw [show kd (mv Mz) p = nI 4 from hke, if_neg (by decide), if_neg (by decide), if_neg (by decide), if_pos rfl, if_pos h122]; exact (mv_at Mz (show 7 + f < 99 by omega)).symm, rfl⟩)
      · refine v_tsIn (off := 83) (tgt := 140) dX7_saysOf_57 (by decide) (by decide) (by decide) (by decide) ?_
        refine v_bipushN (n := 9) dX7_saysOf_140 (by decide) ?_
        exact v_iret dX7_saysOf_142 rfl (⟨by unfold says; rw [show kd (mv Mz) p = nI 5 from hke, if_neg (by decide), if_neg (by decide), if_neg (by decide), if_neg (by decide), if_pos rfl], rfl⟩)
set_option maxRecDepth 100000 in
set_option maxHeartbeats 4000000 in
theorem kM_doesHear (E : ev) (Mz : mm) {q p W : Nat} (hq8 : q < 8) (hp : p < 8) : Ct E 1 yX7_doesHear cX7_doesHear 4 (some .boolean) [.inr 92, .inl (nI q), .inl (nI p)] Mz (qI E (fun r M' => r = b2 (hearB (mv Mz) q p) ∧ M' = Mz)) := by
  refine ct_of (by decide) (Nat.le_of_ble_eq_true rfl) ?_
  show V E 1 _ _ _ _ _ 0 [some (.inr 92), some (.inl (nI q)), some (.inl (nI p)), none] [] Mz
  refine v_ald0 dX7_doesHear_0 ?_
  refine v_ild1 dX7_doesHear_1 ?_
  refine v_iconstN (n := 1) dX7_doesHear_2 ?_
  refine v_callVi (kM_of E Mz (by omega) (by omega)) dX7_doesHear_3 cX7_79 rfl sh_92 rfl (by decide) (Nat.le_of_ble_eq_true rfl) rfl (fun r M1z hq => ?_)
  obtain ⟨hr, hm⟩ := hq
  rw [hr, hm]
  clear hr hm
  refine v_ald0 dX7_doesHear_6 ?_
  refine v_ild2 dX7_doesHear_7 ?_
  refine v_iconstN (n := 1) dX7_doesHear_8 ?_
  refine v_callVi (kM_of E Mz (by omega) (by omega)) dX7_doesHear_9 cX7_79 rfl sh_92 rfl (by decide) (Nat.le_of_ble_eq_true rfl) rfl (fun r M1z hq => ?_)
  obtain ⟨hr, hm⟩ := hq
  rw [hr, hm]
  clear hr hm
  refine v_isub dX7_doesHear_12 ?_
  refine v_callSi (kM_off E Mz) dX7_doesHear_13 cX7_112 rfl (by decide) (Nat.le_of_ble_eq_true rfl) rfl (fun r M1z hq => ?_)
  obtain ⟨hr, hm⟩ := hq
  rw [hr, hm]
  clear hr hm
  refine v_eq (show _ = apt (mv Mz) q p from by unfold absS apt; rw [show 19 + 10 * q + 1 = 20 + 10 * q by omega, show 19 + 10 * p + 1 = 20 + 10 * p by omega]) ?_
  refine v_ist3 dX7_doesHear_16 (by decide) ?_
  refine v_ild1 dX7_doesHear_17 ?_
  refine v_ild2 dX7_doesHear_18 ?_
  refine v_icmpN_eq (tgt := 37) dX7_doesHear_19 (by decide) (by omega) (by omega) (fun h19 => ?_) (fun h19 => ?_)
  · refine v_iconstN (n := 0) dX7_doesHear_37 ?_
    exact v_zret dX7_doesHear_38 rfl (by decide +kernel) (⟨by simp [hearB, b2, h19]; try rfl, rfl⟩)
  · refine v_ild3 dX7_doesHear_22 ?_
    refine v_iconstN (n := 2) dX7_doesHear_23 ?_
    refine v_icmp_lt (tgt := 33) dX7_doesHear_24 (by decide) (fun h24 => ?_) (fun h24 => ?_)
    · refine v_iconstN (n := 1) dX7_doesHear_33 ?_
      refine v_goto (tgt := 38) dX7_doesHear_34 (by decide) ?_
      exact v_zret dX7_doesHear_38 rfl (by decide +kernel) (⟨by simp [hearB, b2, h19, le1_2.mpr h24]; try rfl, rfl⟩)
    · refine v_ild3 dX7_doesHear_27 ?_
      refine v_bipushN (n := 7) dX7_doesHear_28 (by decide) ?_
      refine v_icmp_ne (tgt := 37) dX7_doesHear_30 (by decide) (fun h30 => ?_) (fun h30 => ?_)
      · refine v_iconstN (n := 0) dX7_doesHear_37 ?_
        exact v_zret dX7_doesHear_38 rfl (by decide +kernel) (⟨by simp [hearB, b2, h19, mt le1_2.mp h24, h30]; try rfl, rfl⟩)
      · refine v_iconstN (n := 1) dX7_doesHear_33 ?_
        refine v_goto (tgt := 38) dX7_doesHear_34 (by decide) ?_
        exact v_zret dX7_doesHear_38 rfl (by decide +kernel) (⟨by simp [hearB, b2, h19, mt le1_2.mp h24, h30]; try rfl, rfl⟩)

set_option maxRecDepth 100000 in
set_option maxHeartbeats 4000000 in
theorem kM_fieldsOf (E : ev) (Mz : mm) {p : Nat} (hp : p < 8) : Ct E 2 yX7_fieldsOf cX7_fieldsOf 4 (some .int) [.inr 92, .inl (nI p)] Mz (qI E (fun r M' => r = nI (fldN (mv Mz) p) ∧ M' = Mz)) := by
  refine ct_of (by decide) (Nat.le_of_ble_eq_true rfl) ?_
  show V E 2 _ _ _ _ _ 0 [some (.inr 92), some (.inl (nI p)), none, none] [] Mz
  refine v_iconstN (n := 0) dX7_fieldsOf_0 ?_
  refine v_ist2 dX7_fieldsOf_1 (by decide) ?_
  refine v_iconstN (n := 0) dX7_fieldsOf_2 ?_
  refine v_ist3 dX7_fieldsOf_3 (by decide) ?_
  refine v_loop (pc := 4) (fun k => [some (.inr 92), some (.inl (nI p)), some (.inl (nI (setK (fldP (mv Mz) p) k))), some (.inl (nI k))]) (fun k => Mz) (6) (rfl) (rfl) (fun k hk ih => ?_) ?_
  · refine v_ild3 dX7_fieldsOf_4 ?_
    refine v_bipushN (n := 6) dX7_fieldsOf_5 (by decide) ?_
    refine v_icmpN_ge (tgt := 35) dX7_fieldsOf_7 (by decide) (by omega) (by omega) (fun h7 => absurd h7 (by omega)) (fun h7 => ?_)
    refine v_ild2 dX7_fieldsOf_10 ?_
    refine v_ald0 dX7_fieldsOf_11 ?_
    refine v_ild1 dX7_fieldsOf_12 ?_
    refine v_ild3 dX7_fieldsOf_13 ?_
    refine v_callVi (kM_thinks E Mz (by omega) (by omega)) dX7_fieldsOf_14 cX7_83 rfl sh_92 rfl (by decide) (Nat.le_of_ble_eq_true rfl) rfl (fun r M1z hq => ?_)
    obtain ⟨hr, hm⟩ := hq
    rw [hr, hm]
    clear hr hm
    refine v_if_ne (tgt := 24) dX7_fieldsOf_17 (by decide) (fun h17 => ?_) (fun h17 => ?_)
    · refine v_iconstN (n := 1) dX7_fieldsOf_24 ?_
      refine v_ild3 dX7_fieldsOf_25 ?_
      refine v_ishl dX7_fieldsOf_26 ?_
      refine v_ior dX7_fieldsOf_27 ?_
      refine v_ist2 dX7_fieldsOf_28 (by decide) ?_
      refine v_iincN3 (n := 1) dX7_fieldsOf_29 (by decide) ?_
      refine v_goto (tgt := 4) dX7_fieldsOf_32 (by decide) ?_
      exact v_lo (by rw [setK_t (P := fldP (mv Mz) p) (by omega) (by simp [h17])]) ih
    · refine v_iconstN (n := 0) dX7_fieldsOf_20 ?_
      refine v_goto (tgt := 27) dX7_fieldsOf_21 (by decide) ?_
      refine v_ior dX7_fieldsOf_27 ?_
      refine v_ist2 dX7_fieldsOf_28 (by decide) ?_
      refine v_iincN3 (n := 1) dX7_fieldsOf_29 (by decide) ?_
      refine v_goto (tgt := 4) dX7_fieldsOf_32 (by decide) ?_
      exact v_lo (by rw [or_n0, setK_f (P := fldP (mv Mz) p) (by simp [h17])]) ih
  · refine v_ild3 dX7_fieldsOf_4 ?_
    refine v_bipushN (n := 6) dX7_fieldsOf_5 (by decide) ?_
    refine v_icmpN_ge (tgt := 35) dX7_fieldsOf_7 (by decide) (by omega) (by omega) (fun h7 => ?_) (fun h7 => absurd h7 (by omega))
    refine v_ild2 dX7_fieldsOf_35 ?_
    exact v_iret dX7_fieldsOf_36 rfl (⟨rfl, rfl⟩)
set_option maxRecDepth 100000 in
set_option maxHeartbeats 4000000 in
theorem kM_hearers (E : ev) (Mz : mm) {p W : Nat} (hp : p < 8) (hI : CI (mv Mz) W) : Ct E 2 yX7_hearers cX7_hearers 4 (some .int) [.inr 92, .inl (nI p)] Mz (qI E (fun r M' => r = nI (hrsN (mv Mz) p) ∧ M' = Mz)) := by
  refine ct_of (by decide) (Nat.le_of_ble_eq_true rfl) ?_
  show V E 2 _ _ _ _ _ 0 [some (.inr 92), some (.inl (nI p)), none, none] [] Mz
  have hpe : Mz 93 1 = nI (pn (mv Mz)) := hI.pn.1
  have hp8 := hI.pn.2
  refine v_iconstN (n := 0) dX7_hearers_0 ?_
  refine v_ist2 dX7_hearers_1 (by decide) ?_
  refine v_iconstN (n := 0) dX7_hearers_2 ?_
  refine v_ist3 dX7_hearers_3 (by decide) ?_
  refine v_loop (pc := 4) (fun k => [some (.inr 92), some (.inl (nI p)), some (.inl (nI (setK (hrsP (mv Mz) p) k))), some (.inl (nI k))]) (fun k => Mz) (pn (mv Mz)) (rfl) (rfl) (fun k hk ih => ?_) ?_
  · refine v_ild3 dX7_hearers_4 ?_
    refine v_ald0 dX7_hearers_5 ?_
    refine v_getr dX7_hearers_6 gX7_9 sh_92 rfl ?_
    refine v_iconstN (n := 1) dX7_hearers_9 ?_
    refine v_ialdN dX7_hearers_10 sh_93 (by omega) (by decide) ?_
    refine v_eq (hpe) ?_
    refine v_icmpN_ge (tgt := 39) dX7_hearers_11 (by decide) (by omega) (by omega) (fun h11 => absurd h11 (by omega)) (fun h11 => ?_)
    refine v_ild2 dX7_hearers_14 ?_
    refine v_ald0 dX7_hearers_15 ?_
    refine v_ild3 dX7_hearers_16 ?_
    refine v_ild1 dX7_hearers_17 ?_
    refine v_callVi (kM_doesHear (W := W) E Mz (by omega) hp) dX7_hearers_18 cX7_124 rfl sh_92 rfl (by decide) (Nat.le_of_ble_eq_true rfl) rfl (fun r M1z hq => ?_)
    obtain ⟨hr, hm⟩ := hq
    rw [hr, hm]
    clear hr hm
    refine v_if_eq (tgt := 30) dX7_hearers_21 (by decide) (fun h21 => ?_) (fun h21 => ?_)
    · refine v_iconstN (n := 0) dX7_hearers_30 ?_
      refine v_ior dX7_hearers_31 ?_
      refine v_ist2 dX7_hearers_32 (by decide) ?_
      refine v_iincN3 (n := 1) dX7_hearers_33 (by decide) ?_
      refine v_goto (tgt := 4) dX7_hearers_36 (by decide) ?_
      exact v_lo (by rw [or_n0, setK_f (P := hrsP (mv Mz) p) (b2_0.mp h21)]) ih
    · refine v_iconstN (n := 1) dX7_hearers_24 ?_
      refine v_ild3 dX7_hearers_25 ?_
      refine v_ishl dX7_hearers_26 ?_
      refine v_goto (tgt := 31) dX7_hearers_27 (by decide) ?_
      refine v_ior dX7_hearers_31 ?_
      refine v_ist2 dX7_hearers_32 (by decide) ?_
      refine v_iincN3 (n := 1) dX7_hearers_33 (by decide) ?_
      refine v_goto (tgt := 4) dX7_hearers_36 (by decide) ?_
      exact v_lo (by rw [setK_t (P := hrsP (mv Mz) p) (by omega) (b2_1.mp h21)]) ih
  · refine v_ild3 dX7_hearers_4 ?_
    refine v_ald0 dX7_hearers_5 ?_
    refine v_getr dX7_hearers_6 gX7_9 sh_92 rfl ?_
    refine v_iconstN (n := 1) dX7_hearers_9 ?_
    refine v_ialdN dX7_hearers_10 sh_93 (by omega) (by decide) ?_
    refine v_eq (hpe) ?_
    refine v_icmpN_ge (tgt := 39) dX7_hearers_11 (by decide) (by omega) (by omega) (fun h11 => ?_) (fun h11 => absurd h11 (by omega))
    refine v_ild2 dX7_hearers_39 ?_
    exact v_iret dX7_hearers_40 rfl (⟨rfl, rfl⟩)
set_option maxRecDepth 100000 in
set_option maxHeartbeats 4000000 in
theorem kM_allSure (E : ev) (Mz : mm) {W : Nat} (hI : CI (mv Mz) W) : Ct E 1 yX7_allSure cX7_allSure 3 (some .int) [.inr 92] Mz (qI E (fun r M' => r = surK (mv Mz) (pn (mv Mz)) ∧ M' = Mz)) := by
  refine ct_of (by decide) (Nat.le_of_ble_eq_true rfl) ?_
  show V E 1 _ _ _ _ _ 0 [some (.inr 92), none, none] [] Mz
  have hpe : Mz 93 1 = nI (pn (mv Mz)) := hI.pn.1
  have hp8 := hI.pn.2
  refine v_iconstN (n := 0) dX7_allSure_0 ?_
  refine v_ist1 dX7_allSure_1 (by decide) ?_
  refine v_iconstN (n := 0) dX7_allSure_2 ?_
  refine v_ist2 dX7_allSure_3 (by decide) ?_
  refine v_loop (pc := 4) (fun k => [some (.inr 92), some (.inl (surK (mv Mz) k)), some (.inl (nI k))]) (fun k => Mz) (pn (mv Mz)) (rfl) (rfl) (fun k hk ih => ?_) ?_
  · refine v_ild2 dX7_allSure_4 ?_
    refine v_ald0 dX7_allSure_5 ?_
    refine v_getr dX7_allSure_6 gX7_9 sh_92 rfl ?_
    refine v_iconstN (n := 1) dX7_allSure_9 ?_
    refine v_ialdN dX7_allSure_10 sh_93 (by omega) (by decide) ?_
    refine v_eq (hpe) ?_
    refine v_icmpN_ge (tgt := 29) dX7_allSure_11 (by decide) (by omega) (by omega) (fun h11 => absurd h11 (by omega)) (fun h11 => ?_)
    refine v_ild1 dX7_allSure_14 ?_
    refine v_ald0 dX7_allSure_15 ?_
    refine v_ild2 dX7_allSure_16 ?_
    refine v_iconstN (n := 3) dX7_allSure_17 ?_
    refine v_callVi (kM_of E Mz (by omega) (by omega)) dX7_allSure_18 cX7_79 rfl sh_92 rfl (by decide) (Nat.le_of_ble_eq_true rfl) rfl (fun r M1z hq => ?_)
    obtain ⟨hr, hm⟩ := hq
    rw [hr, hm]
    clear hr hm
    refine v_iadd dX7_allSure_21 ?_
    refine v_ist1 dX7_allSure_22 (by decide) ?_
    refine v_iincN2 (n := 1) dX7_allSure_23 (by decide) ?_
    refine v_goto (tgt := 4) dX7_allSure_26 (by decide) ?_
    exact v_lo (by rw [show surK (mv Mz) (k + 1) = surK (mv Mz) k + mv Mz (19 + 10 * k + 3) from by show _ + mv Mz (22 + 10 * k) = _; congr 2; omega]) ih
  · refine v_ild2 dX7_allSure_4 ?_
    refine v_ald0 dX7_allSure_5 ?_
    refine v_getr dX7_allSure_6 gX7_9 sh_92 rfl ?_
    refine v_iconstN (n := 1) dX7_allSure_9 ?_
    refine v_ialdN dX7_allSure_10 sh_93 (by omega) (by decide) ?_
    refine v_eq (hpe) ?_
    refine v_icmpN_ge (tgt := 29) dX7_allSure_11 (by decide) (by omega) (by omega) (fun h11 => ?_) (fun h11 => absurd h11 (by omega))
    refine v_ild1 dX7_allSure_29 ?_
    exact v_iret dX7_allSure_30 rfl (⟨rfl, rfl⟩)
set_option maxRecDepth 100000 in
set_option maxHeartbeats 4000000 in
theorem kM_agreed (E : ev) (Mz : mm) {W : Nat} (hI : CI (mv Mz) W) : Ct E 4 yX7_agreed cX7_agreed 6 (some .int) [.inr 92] Mz (qI E (fun r M' => r = nI (agrN (mv Mz)) ∧ M' = Mz)) := by
  refine ct_of (by decide) (Nat.le_of_ble_eq_true rfl) ?_
  show V E 4 _ _ _ _ _ 0 [some (.inr 92), none, none, none, none, none] [] Mz
  have hpe : Mz 93 1 = nI (pn (mv Mz)) := hI.pn.1
  have hp8 := hI.pn.2
  refine v_iconstN (n := 0) dX7_agreed_0 ?_
  refine v_ist1 dX7_agreed_1 (by decide) ?_
  refine v_iconstN (n := 0) dX7_agreed_2 ?_
  refine v_ist2 dX7_agreed_3 (by decide) ?_
  refine v_loop (pc := 4) (fun k => [some (.inr 92), some (.inl (nI (setK (agP (mv Mz)) k))), some (.inl (nI k)), none, none, none]) (fun k => Mz) (6) (rfl) (rfl) (fun k hk ih => ?_) ?_
  · refine v_ild2 dX7_agreed_4 ?_
    refine v_bipushN (n := 6) dX7_agreed_5 (by decide) ?_
    refine v_icmpN_ge (tgt := 101) dX7_agreed_7 (by decide) (by omega) (by omega) (fun h7 => absurd h7 (by omega)) (fun h7 => ?_)
    refine v_ald0 dX7_agreed_10 ?_
    refine v_ild2 dX7_agreed_11 ?_
    refine v_callVi (kM_firstOf E Mz (by omega) hI) dX7_agreed_12 cX7_93 rfl sh_92 rfl (by decide) (Nat.le_of_ble_eq_true rfl) rfl (fun r M1z hq => ?_)
    obtain ⟨hr, hm⟩ := hq
    rw [hr, hm]
    clear hr hm
    refine v_ist3 dX7_agreed_15 (by decide) ?_
    refine v_ild3 dX7_agreed_16 ?_
    refine v_if_eq (tgt := 24) dX7_agreed_17 (by decide) (fun h17 => ?_) (fun h17 => ?_)
    · refine v_iconstN (n := 0) dX7_agreed_24 ?_
      refine v_ist4 dX7_agreed_25 (by decide) ?_
      refine v_iconstN (n := 0) dX7_agreed_27 ?_
      refine v_ist5 dX7_agreed_28 (by decide) ?_
      refine v_loop (pc := 30) (fun j => [some (.inr 92), some (.inl (nI (setK (agP (mv Mz)) k))), some (.inl (nI k)), some (.inl (fc (mv Mz) k)), some (.inl (b2 (agK (mv Mz) k j))), some (.inl (nI j))]) (fun j => Mz) (pn (mv Mz)) (by simp [agK, b2, h17]; try rfl) (rfl) (fun j hj ihj => ?_) ?_
      · refine v_ild5 dX7_agreed_30 ?_
        refine v_ald0 dX7_agreed_32 ?_
        refine v_getr dX7_agreed_33 gX7_9 sh_92 rfl ?_
        refine v_iconstN (n := 1) dX7_agreed_36 ?_
        refine v_ialdN dX7_agreed_37 sh_93 (by omega) (by decide) ?_
        refine v_eq (hpe) ?_
        refine v_icmpN_ge (tgt := 80) dX7_agreed_38 (by decide) (by omega) (by omega) (fun h38 => absurd h38 (by omega)) (fun h38 => ?_)
        refine v_ild4 dX7_agreed_41 ?_
        refine v_if_eq (tgt := 71) dX7_agreed_43 (by decide) (fun h43 => ?_) (fun h43 => ?_)
        · refine v_iconstN (n := 0) dX7_agreed_71 ?_
          refine v_ist4 dX7_agreed_72 (by decide) ?_
          refine v_iincN5 (n := 1) dX7_agreed_74 (by decide) ?_
          refine v_goto (tgt := 30) dX7_agreed_77 (by decide) ?_
          exact v_lo (by simp [agK, b2_0.mp h43]; try rfl) ihj
        · refine v_ald0 dX7_agreed_46 ?_
          refine v_ild5 dX7_agreed_47 ?_
          refine v_ild2 dX7_agreed_49 ?_
          refine v_callVi (kM_thinks E Mz (by omega) (by omega)) dX7_agreed_50 cX7_83 rfl sh_92 rfl (by decide) (Nat.le_of_ble_eq_true rfl) rfl (fun r M1z hq => ?_)
          obtain ⟨hr, hm⟩ := hq
          rw [hr, hm]
          clear hr hm
          refine v_if_eq (tgt := 67) dX7_agreed_53 (by decide) (fun h53 => ?_) (fun h53 => ?_)
          · refine v_iconstN (n := 1) dX7_agreed_67 ?_
            refine v_goto (tgt := 72) dX7_agreed_68 (by decide) ?_
            refine v_ist4 dX7_agreed_72 (by decide) ?_
            refine v_iincN5 (n := 1) dX7_agreed_74 (by decide) ?_
            refine v_goto (tgt := 30) dX7_agreed_77 (by decide) ?_
            exact v_lo (by simp [agK, b2_1.mp h43, h53]; try rfl) ihj
          · refine v_ald0 dX7_agreed_56 ?_
            refine v_ild5 dX7_agreed_57 ?_
            refine v_ild2 dX7_agreed_59 ?_
            refine v_callVi (kM_thinks E Mz (by omega) (by omega)) dX7_agreed_60 cX7_83 rfl sh_92 rfl (by decide) (Nat.le_of_ble_eq_true rfl) rfl (fun r M1z hq => ?_)
            obtain ⟨hr, hm⟩ := hq
            rw [hr, hm]
            clear hr hm
            refine v_ild3 dX7_agreed_63 ?_
            refine v_icmp_ne (tgt := 71) dX7_agreed_64 (by decide) (fun h64 => ?_) (fun h64 => ?_)
            · refine v_iconstN (n := 0) dX7_agreed_71 ?_
              refine v_ist4 dX7_agreed_72 (by decide) ?_
              refine v_iincN5 (n := 1) dX7_agreed_74 (by decide) ?_
              refine v_goto (tgt := 30) dX7_agreed_77 (by decide) ?_
              exact v_lo (by simp [agK, b2_1.mp h43, h53, h64]; try rfl) ihj
            · refine v_iconstN (n := 1) dX7_agreed_67 ?_
              refine v_goto (tgt := 72) dX7_agreed_68 (by decide) ?_
              refine v_ist4 dX7_agreed_72 (by decide) ?_
              refine v_iincN5 (n := 1) dX7_agreed_74 (by decide) ?_
              refine v_goto (tgt := 30) dX7_agreed_77 (by decide) ?_
              exact v_lo (by simp [agK, b2_1.mp h43, h53, h64]; try rfl) ihj
      · refine v_ild5 dX7_agreed_30 ?_
        refine v_ald0 dX7_agreed_32 ?_
        refine v_getr dX7_agreed_33 gX7_9 sh_92 rfl ?_
        refine v_iconstN (n := 1) dX7_agreed_36 ?_
        refine v_ialdN dX7_agreed_37 sh_93 (by omega) (by decide) ?_
        refine v_eq (hpe) ?_
        refine v_icmpN_ge (tgt := 80) dX7_agreed_38 (by decide) (by omega) (by omega) (fun h38 => ?_) (fun h38 => absurd h38 (by omega))
        refine v_ild1 dX7_agreed_80 ?_
        refine v_ild4 dX7_agreed_81 ?_
        refine v_if_eq (tgt := 92) dX7_agreed_83 (by decide) (fun h83 => ?_) (fun h83 => ?_)
        · refine v_iconstN (n := 0) dX7_agreed_92 ?_
          refine v_ior dX7_agreed_93 ?_
          refine v_ist1 dX7_agreed_94 (by decide) ?_
          refine v_iincN2 (n := 1) dX7_agreed_95 (by decide) ?_
          refine v_goto (tgt := 4) dX7_agreed_98 (by decide) ?_
          refine v_fg3 (v_fg4 (v_fg5 ?_))
          exact v_lo (by rw [or_n0, setK_f (P := agP (mv Mz)) (b2_0.mp h83)]) ih
        · refine v_iconstN (n := 1) dX7_agreed_86 ?_
          refine v_ild2 dX7_agreed_87 ?_
          refine v_ishl dX7_agreed_88 ?_
          refine v_goto (tgt := 93) dX7_agreed_89 (by decide) ?_
          refine v_ior dX7_agreed_93 ?_
          refine v_ist1 dX7_agreed_94 (by decide) ?_
          refine v_iincN2 (n := 1) dX7_agreed_95 (by decide) ?_
          refine v_goto (tgt := 4) dX7_agreed_98 (by decide) ?_
          refine v_fg3 (v_fg4 (v_fg5 ?_))
          exact v_lo (by rw [setK_t (P := agP (mv Mz)) (by omega) (b2_1.mp h83)]) ih
    · refine v_iconstN (n := 1) dX7_agreed_20 ?_
      refine v_goto (tgt := 25) dX7_agreed_21 (by decide) ?_
      refine v_ist4 dX7_agreed_25 (by decide) ?_
      refine v_iconstN (n := 0) dX7_agreed_27 ?_
      refine v_ist5 dX7_agreed_28 (by decide) ?_
      refine v_loop (pc := 30) (fun j => [some (.inr 92), some (.inl (nI (setK (agP (mv Mz)) k))), some (.inl (nI k)), some (.inl (fc (mv Mz) k)), some (.inl (b2 (agK (mv Mz) k j))), some (.inl (nI j))]) (fun j => Mz) (pn (mv Mz)) (by simp [agK, b2, h17]; try rfl) (rfl) (fun j hj ihj => ?_) ?_
      · refine v_ild5 dX7_agreed_30 ?_
        refine v_ald0 dX7_agreed_32 ?_
        refine v_getr dX7_agreed_33 gX7_9 sh_92 rfl ?_
        refine v_iconstN (n := 1) dX7_agreed_36 ?_
        refine v_ialdN dX7_agreed_37 sh_93 (by omega) (by decide) ?_
        refine v_eq (hpe) ?_
        refine v_icmpN_ge (tgt := 80) dX7_agreed_38 (by decide) (by omega) (by omega) (fun h38 => absurd h38 (by omega)) (fun h38 => ?_)
        refine v_ild4 dX7_agreed_41 ?_
        refine v_if_eq (tgt := 71) dX7_agreed_43 (by decide) (fun h43 => ?_) (fun h43 => ?_)
        · refine v_iconstN (n := 0) dX7_agreed_71 ?_
          refine v_ist4 dX7_agreed_72 (by decide) ?_
          refine v_iincN5 (n := 1) dX7_agreed_74 (by decide) ?_
          refine v_goto (tgt := 30) dX7_agreed_77 (by decide) ?_
          exact v_lo (by simp [agK, b2_0.mp h43]; try rfl) ihj
        · refine v_ald0 dX7_agreed_46 ?_
          refine v_ild5 dX7_agreed_47 ?_
          refine v_ild2 dX7_agreed_49 ?_
          refine v_callVi (kM_thinks E Mz (by omega) (by omega)) dX7_agreed_50 cX7_83 rfl sh_92 rfl (by decide) (Nat.le_of_ble_eq_true rfl) rfl (fun r M1z hq => ?_)
          obtain ⟨hr, hm⟩ := hq
          rw [hr, hm]
          clear hr hm
          refine v_if_eq (tgt := 67) dX7_agreed_53 (by decide) (fun h53 => ?_) (fun h53 => ?_)
          · refine v_iconstN (n := 1) dX7_agreed_67 ?_
            refine v_goto (tgt := 72) dX7_agreed_68 (by decide) ?_
            refine v_ist4 dX7_agreed_72 (by decide) ?_
            refine v_iincN5 (n := 1) dX7_agreed_74 (by decide) ?_
            refine v_goto (tgt := 30) dX7_agreed_77 (by decide) ?_
            exact v_lo (by simp [agK, b2_1.mp h43, h53]; try rfl) ihj
          · refine v_ald0 dX7_agreed_56 ?_
            refine v_ild5 dX7_agreed_57 ?_
            refine v_ild2 dX7_agreed_59 ?_
            refine v_callVi (kM_thinks E Mz (by omega) (by omega)) dX7_agreed_60 cX7_83 rfl sh_92 rfl (by decide) (Nat.le_of_ble_eq_true rfl) rfl (fun r M1z hq => ?_)
            obtain ⟨hr, hm⟩ := hq
            rw [hr, hm]
            clear hr hm
            refine v_ild3 dX7_agreed_63 ?_
            refine v_icmp_ne (tgt := 71) dX7_agreed_64 (by decide) (fun h64 => ?_) (fun h64 => ?_)
            · refine v_iconstN (n := 0) dX7_agreed_71 ?_
              refine v_ist4 dX7_agreed_72 (by decide) ?_
              refine v_iincN5 (n := 1) dX7_agreed_74 (by decide) ?_
              refine v_goto (tgt := 30) dX7_agreed_77 (by decide) ?_
              exact v_lo (by simp [agK, b2_1.mp h43, h53, h64]; try rfl) ihj
            · refine v_iconstN (n := 1) dX7_agreed_67 ?_
              refine v_goto (tgt := 72) dX7_agreed_68 (by decide) ?_
              refine v_ist4 dX7_agreed_72 (by decide) ?_
              refine v_iincN5 (n := 1) dX7_agreed_74 (by decide) ?_
              refine v_goto (tgt := 30) dX7_agreed_77 (by decide) ?_
              exact v_lo (by simp [agK, b2_1.mp h43, h53, h64]; try rfl) ihj
      · refine v_ild5 dX7_agreed_30 ?_
        refine v_ald0 dX7_agreed_32 ?_
        refine v_getr dX7_agreed_33 gX7_9 sh_92 rfl ?_
        refine v_iconstN (n := 1) dX7_agreed_36 ?_
        refine v_ialdN dX7_agreed_37 sh_93 (by omega) (by decide) ?_
        refine v_eq (hpe) ?_
        refine v_icmpN_ge (tgt := 80) dX7_agreed_38 (by decide) (by omega) (by omega) (fun h38 => ?_) (fun h38 => absurd h38 (by omega))
        refine v_ild1 dX7_agreed_80 ?_
        refine v_ild4 dX7_agreed_81 ?_
        refine v_if_eq (tgt := 92) dX7_agreed_83 (by decide) (fun h83 => ?_) (fun h83 => ?_)
        · refine v_iconstN (n := 0) dX7_agreed_92 ?_
          refine v_ior dX7_agreed_93 ?_
          refine v_ist1 dX7_agreed_94 (by decide) ?_
          refine v_iincN2 (n := 1) dX7_agreed_95 (by decide) ?_
          refine v_goto (tgt := 4) dX7_agreed_98 (by decide) ?_
          refine v_fg3 (v_fg4 (v_fg5 ?_))
          exact v_lo (by rw [or_n0, setK_f (P := agP (mv Mz)) (b2_0.mp h83)]) ih
        · refine v_iconstN (n := 1) dX7_agreed_86 ?_
          refine v_ild2 dX7_agreed_87 ?_
          refine v_ishl dX7_agreed_88 ?_
          refine v_goto (tgt := 93) dX7_agreed_89 (by decide) ?_
          refine v_ior dX7_agreed_93 ?_
          refine v_ist1 dX7_agreed_94 (by decide) ?_
          refine v_iincN2 (n := 1) dX7_agreed_95 (by decide) ?_
          refine v_goto (tgt := 4) dX7_agreed_98 (by decide) ?_
          refine v_fg3 (v_fg4 (v_fg5 ?_))
          exact v_lo (by rw [setK_t (P := agP (mv Mz)) (by omega) (b2_1.mp h83)]) ih
  · refine v_ild2 dX7_agreed_4 ?_
    refine v_bipushN (n := 6) dX7_agreed_5 (by decide) ?_
    refine v_icmpN_ge (tgt := 101) dX7_agreed_7 (by decide) (by omega) (by omega) (fun h7 => ?_) (fun h7 => absurd h7 (by omega))
    refine v_ild1 dX7_agreed_101 ?_
    exact v_iret dX7_agreed_102 rfl (⟨rfl, rfl⟩)
