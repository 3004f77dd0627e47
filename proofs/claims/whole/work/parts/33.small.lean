/-! counted, told, kept -/
def R_count (v : fl) (w t u : Int32) : Int32 := if u = 0 then v 1 else if u = 1 then v 2 else if u = 2 then v 3 else if u = 3 then v 4 else if u = 4 then v 5 else if u = 5 then v 6 else if u = 6 then w else if u = 7 then t else if u = 8 then v 0 else cBAD
def R_tell (n : Nat) : Int32 := if n = 60 then cFULL else nI (n + 1)
def R_trim (n : Nat) (x : Int32) : Int32 := if inB x (nI 0) (nI n) = true then x else cBAD
def R_why (tt : Nat → tx) (T : Nat) (k : Int32) : Int32 := if inB k (nI 0) (nI 2) = true then (if lastK (ksT tt) (tN k) T < 0 then cNONE else lastK (ksT tt) (tN k) T) else cBAD
def R_tt (tt : Nat → tx) (T : Nat) (x u : Int32) : Int32 := if inB x (nI 0) (nI T - nI 1) = true then (if u = 0 then nI (tt (tN x)).1 else if u = 1 then nI (tt (tN x)).2.2.1 else cBAD) else cBAD
theorem TB.t {t : Nat} (h : t < 14) : TB (5 + 2 * t) := by unfold TB; omega
set_option maxRecDepth 100000 in
set_option maxHeartbeats 4000000 in
theorem aX_count (E : ev) (Mz : mm) {u : Int32} : Ct E 1 yX6_count cX6_count 2 (some .int) [.inr 0, .inl u] Mz (qI E (fun r M' => r = R_count (cv Mz 38) (Mz 0 9) (Mz 33 1) u ∧ M' = Mz)) := by
  refine ct_of (by decide) (Nat.le_of_ble_eq_true rfl) ?_
  show V E 1 _ _ _ _ _ 0 [some (.inr 0), some (.inl u)] [] Mz
  refine v_ild1 dX6_count_0 ?_
  by_cases e1_0 : u = 0
  · subst e1_0
    refine v_tsIn (off := 51) (tgt := 52) dX6_count_1 (by decide) (by decide) (by decide) (by decide) ?_
    refine v_ald0 dX6_count_52 ?_
    refine v_getr dX6_count_53 gX6_28 sh_0 rfl ?_
    refine v_geti dX6_count_56 gX6_68 sh_38 rfl ?_
    exact v_iret dX6_count_59 rfl (⟨by unfold R_count; rw [if_pos (by decide)]; try rfl, rfl⟩)
  by_cases e1_1 : u = 1
  · subst e1_1
    refine v_tsIn (off := 59) (tgt := 60) dX6_count_1 (by decide) (by decide) (by decide) (by decide) ?_
    refine v_ald0 dX6_count_60 ?_
    refine v_getr dX6_count_61 gX6_28 sh_0 rfl ?_
    refine v_geti dX6_count_64 gX6_157 sh_38 rfl ?_
    exact v_iret dX6_count_67 rfl (⟨by unfold R_count; rw [if_neg (by decide), if_pos (by decide)]; try rfl, rfl⟩)
  by_cases e1_2 : u = 2
  · subst e1_2
    refine v_tsIn (off := 67) (tgt := 68) dX6_count_1 (by decide) (by decide) (by decide) (by decide) ?_
    refine v_ald0 dX6_count_68 ?_
    refine v_getr dX6_count_69 gX6_28 sh_0 rfl ?_
    refine v_geti dX6_count_72 gX6_154 sh_38 rfl ?_
    exact v_iret dX6_count_75 rfl (⟨by unfold R_count; rw [if_neg (by decide), if_neg (by decide), if_pos (by decide)]; try rfl, rfl⟩)
  by_cases e1_3 : u = 3
  · subst e1_3
    refine v_tsIn (off := 75) (tgt := 76) dX6_count_1 (by decide) (by decide) (by decide) (by decide) ?_
    refine v_ald0 dX6_count_76 ?_
    refine v_getr dX6_count_77 gX6_28 sh_0 rfl ?_
    refine v_geti dX6_count_80 gX6_164 sh_38 rfl ?_
    exact v_iret dX6_count_83 rfl (⟨by unfold R_count; rw [if_neg (by decide), if_neg (by decide), if_neg (by decide), if_pos (by decide)]; try rfl, rfl⟩)
  by_cases e1_4 : u = 4
  · subst e1_4
    refine v_tsIn (off := 83) (tgt := 84) dX6_count_1 (by decide) (by decide) (by decide) (by decide) ?_
    refine v_ald0 dX6_count_84 ?_
    refine v_getr dX6_count_85 gX6_28 sh_0 rfl ?_
    refine v_geti dX6_count_88 gX6_167 sh_38 rfl ?_
    exact v_iret dX6_count_91 rfl (⟨by unfold R_count; rw [if_neg (by decide), if_neg (by decide), if_neg (by decide), if_neg (by decide), if_pos (by decide)]; try rfl, rfl⟩)
  by_cases e1_5 : u = 5
  · subst e1_5
    refine v_tsIn (off := 91) (tgt := 92) dX6_count_1 (by decide) (by decide) (by decide) (by decide) ?_
    refine v_ald0 dX6_count_92 ?_
    refine v_getr dX6_count_93 gX6_28 sh_0 rfl ?_
    refine v_geti dX6_count_96 gX6_227 sh_38 rfl ?_
    exact v_iret dX6_count_99 rfl (⟨by unfold R_count; rw [if_neg (by decide), if_neg (by decide), if_neg (by decide), if_neg (by decide), if_neg (by decide), if_pos (by decide)]; try rfl, rfl⟩)
  by_cases e1_6 : u = 6
  · subst e1_6
    refine v_tsIn (off := 99) (tgt := 100) dX6_count_1 (by decide) (by decide) (by decide) (by decide) ?_
    refine v_ald0 dX6_count_100 ?_
    refine v_geti dX6_count_101 gX6_287 sh_0 rfl ?_
    exact v_iret dX6_count_104 rfl (⟨by unfold R_count; rw [if_neg (by decide), if_neg (by decide), if_neg (by decide), if_neg (by decide), if_neg (by decide), if_neg (by decide), if_pos (by decide)]; try rfl, rfl⟩)
  by_cases e1_7 : u = 7
  · subst e1_7
    refine v_tsIn (off := 104) (tgt := 105) dX6_count_1 (by decide) (by decide) (by decide) (by decide) ?_
    refine v_ald0 dX6_count_105 ?_
    refine v_getr dX6_count_106 gX6_19 sh_0 rfl ?_
    refine v_geti dX6_count_109 gX6_218 sh_33 rfl ?_
    exact v_iret dX6_count_112 rfl (⟨by unfold R_count; rw [if_neg (by decide), if_neg (by decide), if_neg (by decide), if_neg (by decide), if_neg (by decide), if_neg (by decide), if_neg (by decide), if_pos (by decide)]; try rfl, rfl⟩)
  by_cases e1_8 : u = 8
  · subst e1_8
    refine v_tsIn (off := 112) (tgt := 113) dX6_count_1 (by decide) (by decide) (by decide) (by decide) ?_
    refine v_ald0 dX6_count_113 ?_
    refine v_getr dX6_count_114 gX6_28 sh_0 rfl ?_
    refine v_geti dX6_count_117 gX6_151 sh_38 rfl ?_
    exact v_iret dX6_count_120 rfl (⟨by unfold R_count; rw [if_neg (by decide), if_neg (by decide), if_neg (by decide), if_neg (by decide), if_neg (by decide), if_neg (by decide), if_neg (by decide), if_neg (by decide), if_pos (by decide)]; try rfl, rfl⟩)
  refine v_tsOut (tgt := 121) dX6_count_1 (by have := ne_toK (0) rfl e1_0; have := ne_toK (1) rfl e1_1; have := ne_toK (2) rfl e1_2; have := ne_toK (3) rfl e1_3; have := ne_toK (4) rfl e1_4; have := ne_toK (5) rfl e1_5; have := ne_toK (6) rfl e1_6; have := ne_toK (7) rfl e1_7; have := ne_toK (8) rfl e1_8; omega) (by decide) ?_
  refine v_ldc dX6_count_121 kX6_67 ?_
  exact v_iret dX6_count_123 rfl (⟨by unfold R_count; rw [if_neg e1_0, if_neg e1_1, if_neg e1_2, if_neg e1_3, if_neg e1_4, if_neg e1_5, if_neg e1_6, if_neg e1_7, if_neg e1_8], rfl⟩)
set_option maxRecDepth 100000 in
set_option maxHeartbeats 4000000 in
theorem aM_count (E : ev) (Mz : mm) {u : Int32} : Ct E 1 yX7_count cX7_count 2 (some .int) [.inr 92, .inl u] Mz (qI E (fun r M' => r = R_count (mv Mz) (Mz 92 32) (Mz 92 6) u ∧ M' = Mz)) := by
  refine ct_of (by decide) (Nat.le_of_ble_eq_true rfl) ?_
  show V E 1 _ _ _ _ _ 0 [some (.inr 92), some (.inl u)] [] Mz
  refine v_ild1 dX7_count_0 ?_
  by_cases e1_0 : u = 0
  · subst e1_0
    refine v_tsIn (off := 51) (tgt := 52) dX7_count_1 (by decide) (by decide) (by decide) (by decide) ?_
    refine v_ald0 dX7_count_52 ?_
    refine v_getr dX7_count_53 gX7_9 sh_92 rfl ?_
    refine v_iconstN (n := 1) dX7_count_56 ?_
    refine v_ialdN dX7_count_57 sh_93 (by omega) (by decide) ?_
    exact v_iret dX7_count_58 rfl (⟨by unfold R_count; (conv => rhs; rw [if_pos (by decide)]); try rfl, rfl⟩)
  by_cases e1_1 : u = 1
  · subst e1_1
    refine v_tsIn (off := 58) (tgt := 59) dX7_count_1 (by decide) (by decide) (by decide) (by decide) ?_
    refine v_ald0 dX7_count_59 ?_
    refine v_getr dX7_count_60 gX7_9 sh_92 rfl ?_
    refine v_iconstN (n := 2) dX7_count_63 ?_
    refine v_ild1 dX7_count_64 ?_
    refine v_iadd dX7_count_65 ?_
    refine v_iconstN (n := 1) dX7_count_66 ?_
    refine v_isub dX7_count_67 ?_
    refine v_eq (show nI 2 + (1) - nI 1 = nI 2 from by decide) ?_
    refine v_ialdN dX7_count_68 sh_93 (by omega) (by decide) ?_
    exact v_iret dX7_count_69 rfl (⟨by unfold R_count; (conv => rhs; rw [if_neg (by decide), if_pos (by decide)]); try rfl, rfl⟩)
  by_cases e1_2 : u = 2
  · subst e1_2
    refine v_tsIn (off := 58) (tgt := 59) dX7_count_1 (by decide) (by decide) (by decide) (by decide) ?_
    refine v_ald0 dX7_count_59 ?_
    refine v_getr dX7_count_60 gX7_9 sh_92 rfl ?_
    refine v_iconstN (n := 2) dX7_count_63 ?_
    refine v_ild1 dX7_count_64 ?_
    refine v_iadd dX7_count_65 ?_
    refine v_iconstN (n := 1) dX7_count_66 ?_
    refine v_isub dX7_count_67 ?_
    refine v_eq (show nI 2 + (2) - nI 1 = nI 3 from by decide) ?_
    refine v_ialdN dX7_count_68 sh_93 (by omega) (by decide) ?_
    exact v_iret dX7_count_69 rfl (⟨by unfold R_count; (conv => rhs; rw [if_neg (by decide), if_neg (by decide), if_pos (by decide)]); try rfl, rfl⟩)
  by_cases e1_3 : u = 3
  · subst e1_3
    refine v_tsIn (off := 58) (tgt := 59) dX7_count_1 (by decide) (by decide) (by decide) (by decide) ?_
    refine v_ald0 dX7_count_59 ?_
    refine v_getr dX7_count_60 gX7_9 sh_92 rfl ?_
    refine v_iconstN (n := 2) dX7_count_63 ?_
    refine v_ild1 dX7_count_64 ?_
    refine v_iadd dX7_count_65 ?_
    refine v_iconstN (n := 1) dX7_count_66 ?_
    refine v_isub dX7_count_67 ?_
    refine v_eq (show nI 2 + (3) - nI 1 = nI 4 from by decide) ?_
    refine v_ialdN dX7_count_68 sh_93 (by omega) (by decide) ?_
    exact v_iret dX7_count_69 rfl (⟨by unfold R_count; (conv => rhs; rw [if_neg (by decide), if_neg (by decide), if_neg (by decide), if_pos (by decide)]); try rfl, rfl⟩)
  by_cases e1_4 : u = 4
  · subst e1_4
    refine v_tsIn (off := 58) (tgt := 59) dX7_count_1 (by decide) (by decide) (by decide) (by decide) ?_
    refine v_ald0 dX7_count_59 ?_
    refine v_getr dX7_count_60 gX7_9 sh_92 rfl ?_
    refine v_iconstN (n := 2) dX7_count_63 ?_
    refine v_ild1 dX7_count_64 ?_
    refine v_iadd dX7_count_65 ?_
    refine v_iconstN (n := 1) dX7_count_66 ?_
    refine v_isub dX7_count_67 ?_
    refine v_eq (show nI 2 + (4) - nI 1 = nI 5 from by decide) ?_
    refine v_ialdN dX7_count_68 sh_93 (by omega) (by decide) ?_
    exact v_iret dX7_count_69 rfl (⟨by unfold R_count; (conv => rhs; rw [if_neg (by decide), if_neg (by decide), if_neg (by decide), if_neg (by decide), if_pos (by decide)]); try rfl, rfl⟩)
  by_cases e1_5 : u = 5
  · subst e1_5
    refine v_tsIn (off := 69) (tgt := 70) dX7_count_1 (by decide) (by decide) (by decide) (by decide) ?_
    refine v_ald0 dX7_count_70 ?_
    refine v_getr dX7_count_71 gX7_9 sh_92 rfl ?_
    refine v_bipushN (n := 6) dX7_count_74 (by decide) ?_
    refine v_ialdN dX7_count_76 sh_93 (by omega) (by decide) ?_
    exact v_iret dX7_count_77 rfl (⟨by unfold R_count; (conv => rhs; rw [if_neg (by decide), if_neg (by decide), if_neg (by decide), if_neg (by decide), if_neg (by decide), if_pos (by decide)]); try rfl, rfl⟩)
  by_cases e1_6 : u = 6
  · subst e1_6
    refine v_tsIn (off := 77) (tgt := 78) dX7_count_1 (by decide) (by decide) (by decide) (by decide) ?_
    refine v_ald0 dX7_count_78 ?_
    refine v_geti dX7_count_79 gX7_279 sh_92 rfl ?_
    exact v_iret dX7_count_82 rfl (⟨by unfold R_count; (conv => rhs; rw [if_neg (by decide), if_neg (by decide), if_neg (by decide), if_neg (by decide), if_neg (by decide), if_neg (by decide), if_pos (by decide)]); try rfl, rfl⟩)
  by_cases e1_7 : u = 7
  · subst e1_7
    refine v_tsIn (off := 82) (tgt := 83) dX7_count_1 (by decide) (by decide) (by decide) (by decide) ?_
    refine v_ald0 dX7_count_83 ?_
    refine v_geti dX7_count_84 gX7_203 sh_92 rfl ?_
    exact v_iret dX7_count_87 rfl (⟨by unfold R_count; (conv => rhs; rw [if_neg (by decide), if_neg (by decide), if_neg (by decide), if_neg (by decide), if_neg (by decide), if_neg (by decide), if_neg (by decide), if_pos (by decide)]); try rfl, rfl⟩)
  by_cases e1_8 : u = 8
  · subst e1_8
    refine v_tsIn (off := 87) (tgt := 88) dX7_count_1 (by decide) (by decide) (by decide) (by decide) ?_
    refine v_ald0 dX7_count_88 ?_
    refine v_getr dX7_count_89 gX7_9 sh_92 rfl ?_
    refine v_iconstN (n := 0) dX7_count_92 ?_
    refine v_ialdN dX7_count_93 sh_93 (by omega) (by decide) ?_
    exact v_iret dX7_count_94 rfl (⟨by unfold R_count; (conv => rhs; rw [if_neg (by decide), if_neg (by decide), if_neg (by decide), if_neg (by decide), if_neg (by decide), if_neg (by decide), if_neg (by decide), if_neg (by decide), if_pos (by decide)]); try rfl, rfl⟩)
  refine v_tsOut (tgt := 95) dX7_count_1 (by have := ne_toK (0) rfl e1_0; have := ne_toK (1) rfl e1_1; have := ne_toK (2) rfl e1_2; have := ne_toK (3) rfl e1_3; have := ne_toK (4) rfl e1_4; have := ne_toK (5) rfl e1_5; have := ne_toK (6) rfl e1_6; have := ne_toK (7) rfl e1_7; have := ne_toK (8) rfl e1_8; omega) (by decide) ?_
  refine v_ldc dX7_count_95 kX7_119 ?_
  exact v_iret dX7_count_97 rfl (⟨by unfold R_count; rw [if_neg e1_0, if_neg e1_1, if_neg e1_2, if_neg e1_3, if_neg e1_4, if_neg e1_5, if_neg e1_6, if_neg e1_7, if_neg e1_8], rfl⟩)
set_option maxRecDepth 100000 in
set_option maxHeartbeats 4000000 in
theorem aX_tell (E : ev) (Mz : mm) {y : Int32} {n : Nat} (hn : Mz 0 9 = nI n) (h60 : n ≤ 60) : Ct E 1 yX6_tell cX6_tell 2 (some .int) [.inr 0, .inl y] Mz (qI E (fun r M' => r = R_tell n ∧ M' = (if n = 60 then Mz else wr (wr Mz 90 n y) 0 9 (nI (n + 1))))) := by
  refine ct_of (by decide) (Nat.le_of_ble_eq_true rfl) ?_
  show V E 1 _ _ _ _ _ 0 [some (.inr 0), some (.inl y)] [] Mz
  refine v_ald0 dX6_tell_0 ?_
  refine v_geti dX6_tell_1 gX6_287 sh_0 rfl ?_
  refine v_eq (hn) ?_
  refine v_bipushN (n := 60) dX6_tell_4 (by decide) ?_
  refine v_icmpN_lt (tgt := 12) dX6_tell_6 (by decide) (by omega) (by omega) (fun h6 => ?_) (fun h6 => ?_)
  · refine v_ald0 dX6_tell_12 ?_
    refine v_getr dX6_tell_13 gX6_52 sh_0 rfl ?_
    refine v_ald0 dX6_tell_16 ?_
    refine v_geti dX6_tell_17 gX6_287 sh_0 rfl ?_
    refine v_eq (hn) ?_
    refine v_ild1 dX6_tell_20 ?_
    refine v_iastN dX6_tell_21 sh_90 (by omega) (by decide) ?_
    refine v_ald0 dX6_tell_22 ?_
    refine v_dup dX6_tell_23 ?_
    refine v_geti dX6_tell_24 gX6_287 sh_0 rfl ?_
    refine v_eq (show wr Mz 90 n y 0 9 = nI n from by rw [wr_ne (by decide)]; exact hn) ?_
    refine v_iconstN (n := 1) dX6_tell_27 ?_
    refine v_iaddN dX6_tell_28 ?_
    refine v_puti dX6_tell_29 pX6_287 sh_0 rfl rfl rfl ?_
    refine v_ald0 dX6_tell_32 ?_
    refine v_geti dX6_tell_33 gX6_287 sh_0 rfl ?_
    refine v_eq (show _ = nI (n + 1) from by rw [wr_at, pk_us]) ?_
    exact v_iret dX6_tell_36 rfl (⟨by unfold R_tell; rw [if_neg (by omega)], by rw [if_neg (by omega)]⟩)
  · refine v_ldc dX6_tell_9 kX6_72 ?_
    exact v_iret dX6_tell_11 rfl (⟨by unfold R_tell; rw [if_pos (by omega)], by rw [if_pos (by omega)]⟩)
set_option maxRecDepth 100000 in
set_option maxHeartbeats 4000000 in
theorem aM_tell (E : ev) (Mz : mm) {y : Int32} {n : Nat} (hn : Mz 92 32 = nI n) (h60 : n ≤ 60) : Ct E 1 yX7_tell cX7_tell 2 (some .int) [.inr 92, .inl y] Mz (qI E (fun r M' => r = R_tell n ∧ M' = (if n = 60 then Mz else wr (wr Mz 113 n y) 92 32 (nI (n + 1))))) := by
  refine ct_of (by decide) (Nat.le_of_ble_eq_true rfl) ?_
  show V E 1 _ _ _ _ _ 0 [some (.inr 92), some (.inl y)] [] Mz
  refine v_ald0 dX7_tell_0 ?_
  refine v_geti dX7_tell_1 gX7_279 sh_92 rfl ?_
  refine v_eq (hn) ?_
  refine v_bipushN (n := 60) dX7_tell_4 (by decide) ?_
  refine v_icmpN_ne (tgt := 12) dX7_tell_6 (by decide) (by omega) (by omega) (fun h6 => ?_) (fun h6 => ?_)
  · refine v_ald0 dX7_tell_12 ?_
    refine v_getr dX7_tell_13 gX7_72 sh_92 rfl ?_
    refine v_ald0 dX7_tell_16 ?_
    refine v_geti dX7_tell_17 gX7_279 sh_92 rfl ?_
    refine v_eq (hn) ?_
    refine v_ild1 dX7_tell_20 ?_
    refine v_iastN dX7_tell_21 sh_113 (by omega) (by decide) ?_
    refine v_ald0 dX7_tell_22 ?_
    refine v_dup dX7_tell_23 ?_
    refine v_geti dX7_tell_24 gX7_279 sh_92 rfl ?_
    refine v_eq (show wr Mz 113 n y 92 32 = nI n from by rw [wr_ne (by decide)]; exact hn) ?_
    refine v_iconstN (n := 1) dX7_tell_27 ?_
    refine v_iaddN dX7_tell_28 ?_
    refine v_puti dX7_tell_29 pX7_279 sh_92 rfl rfl rfl ?_
    refine v_ald0 dX7_tell_32 ?_
    refine v_geti dX7_tell_33 gX7_279 sh_92 rfl ?_
    refine v_eq (show _ = nI (n + 1) from by rw [wr_at, pk_us]) ?_
    exact v_iret dX7_tell_36 rfl (⟨by unfold R_tell; rw [if_neg (by omega)], by rw [if_neg (by omega)]⟩)
  · refine v_ldc dX7_tell_9 kX7_120 ?_
    exact v_iret dX7_tell_11 rfl (⟨by unfold R_tell; rw [if_pos (by omega)], by rw [if_pos (by omega)]⟩)
set_option maxRecDepth 100000 in
set_option maxHeartbeats 4000000 in
theorem aX_trim (E : ev) (Mz : mm) {x : Int32} {n : Nat} (hn : Mz 33 1 = nI n) : Ct E 2 yX6_trim cX6_trim 2 (some .int) [.inr 0, .inl x] Mz (qI E (fun r M' => r = R_trim n x ∧ M' = (if inB x (nI 0) (nI n) = true then wr Mz 33 1 x else Mz))) := by
  refine ct_of (by decide) (Nat.le_of_ble_eq_true rfl) ?_
  show V E 2 _ _ _ _ _ 0 [some (.inr 0), some (.inl x)] [] Mz
  refine v_ild1 dX6_trim_0 ?_
  refine v_iconstN (n := 0) dX6_trim_1 ?_
  refine v_ald0 dX6_trim_2 ?_
  refine v_getr dX6_trim_3 gX6_19 sh_0 rfl ?_
  refine v_geti dX6_trim_6 gX6_218 sh_33 rfl ?_
  refine v_eq (hn) ?_
  refine v_callSi (kX_outside E _) dX6_trim_9 cX6_63 rfl (by decide) (Nat.le_of_ble_eq_true rfl) rfl (fun r M1z hq => ?_)
  obtain ⟨hr, hm⟩ := hq
  rw [hr, hm]
  clear hr hm
  refine v_if_eq (tgt := 18) dX6_trim_12 (by decide) (fun h12 => ?_) (fun h12 => ?_)
  · refine v_ald0 dX6_trim_18 ?_
    refine v_getr dX6_trim_19 gX6_19 sh_0 rfl ?_
    refine v_ild1 dX6_trim_22 ?_
    refine v_puti dX6_trim_23 pX6_218 sh_33 rfl rfl rfl ?_
    refine v_ild1 dX6_trim_26 ?_
    exact v_iret dX6_trim_27 rfl (⟨by unfold R_trim; rw [if_pos (nb0 h12)], by rw [if_pos (nb0 h12)]⟩)
  · refine v_ldc dX6_trim_15 kX6_67 ?_
    exact v_iret dX6_trim_17 rfl (⟨by unfold R_trim; rw [if_neg (by rw [nb1 h12]; decide)], by rw [if_neg (by rw [nb1 h12]; decide)]⟩)
set_option maxRecDepth 100000 in
set_option maxHeartbeats 4000000 in
theorem aM_trim (E : ev) (Mz : mm) {x : Int32} {n : Nat} (hn : Mz 92 6 = nI n) : Ct E 2 yX7_trim cX7_trim 2 (some .int) [.inr 92, .inl x] Mz (qI E (fun r M' => r = R_trim n x ∧ M' = (if inB x (nI 0) (nI n) = true then wr Mz 92 6 x else Mz))) := by
  refine ct_of (by decide) (Nat.le_of_ble_eq_true rfl) ?_
  show V E 2 _ _ _ _ _ 0 [some (.inr 92), some (.inl x)] [] Mz
  refine v_ild1 dX7_trim_0 ?_
  refine v_iconstN (n := 0) dX7_trim_1 ?_
  refine v_ald0 dX7_trim_2 ?_
  refine v_geti dX7_trim_3 gX7_203 sh_92 rfl ?_
  refine v_eq (hn) ?_
  refine v_callSi (kM_in E _) dX7_trim_6 cX7_75 rfl (by decide) (Nat.le_of_ble_eq_true rfl) rfl (fun r M1z hq => ?_)
  obtain ⟨hr, hm⟩ := hq
  rw [hr, hm]
  clear hr hm
  refine v_if_ne (tgt := 15) dX7_trim_9 (by decide) (fun h9 => ?_) (fun h9 => ?_)
  · refine v_ald0 dX7_trim_15 ?_
    refine v_ild1 dX7_trim_16 ?_
    refine v_puti dX7_trim_17 pX7_203 sh_92 rfl rfl rfl ?_
    refine v_ild1 dX7_trim_20 ?_
    exact v_iret dX7_trim_21 rfl (⟨by unfold R_trim; rw [if_pos (b2_1.mp h9)], by rw [if_pos (b2_1.mp h9)]⟩)
  · refine v_ldc dX7_trim_12 kX7_119 ?_
    exact v_iret dX7_trim_14 rfl (⟨by unfold R_trim; rw [if_neg (by rw [b2_0.mp h9]; decide)], by rw [if_neg (by rw [b2_0.mp h9]; decide)]⟩)
set_option maxRecDepth 100000 in
set_option maxHeartbeats 4000000 in
theorem aX_keep (E : ev) (Mz : mm)  : Ct E 3 yX6_keep cX6_keep 1 (some .int) [.inr 0] Mz (qI E (fun r M' => r = cv Mz 38 1 ∧ cv M' 47 = cv Mz 38 ∧ (∀ j, j < 3 → M' 55 j = Mz 46 j) ∧ M' 0 = upd (Mz 0) 5 (nI 1) ∧ ∀ a, ¬ (47 ≤ a ∧ a < 56) → a ≠ 0 → M' a = Mz a)) := by
  refine ct_of (by decide) (Nat.le_of_ble_eq_true rfl) ?_
  show V E 3 _ _ _ _ _ 0 [some (.inr 0)] [] Mz
  refine v_ald0 dX6_keep_0 ?_
  refine v_getr dX6_keep_1 gX6_32 sh_0 rfl ?_
  refine v_ald0 dX6_keep_4 ?_
  refine v_getr dX6_keep_5 gX6_28 sh_0 rfl ?_
  refine v_callVv (kC_over_47_38 E Mz) dX6_keep_8 cX6_177 rfl sh_47 rfl (by decide) (Nat.le_of_ble_eq_true rfl) rfl (fun M1z hq => ?_)
  refine v_ald0 dX6_keep_11 ?_
  refine v_iconstN (n := 1) dX6_keep_12 ?_
  refine v_puti dX6_keep_13 pX6_290 sh_0 rfl rfl rfl ?_
  refine v_ald0 dX6_keep_16 ?_
  refine v_getr dX6_keep_17 gX6_28 sh_0 rfl ?_
  refine v_geti dX6_keep_20 gX6_68 sh_38 rfl ?_
  exact v_iret dX6_keep_23 rfl (⟨by rw [wr_ne (by decide), hq.2.2 38 (by omega)]; rfl, by rw [cv_w (by omega)]; exact hq.1, fun j hj => by rw [wr_ne (by decide)]; exact hq.2.1 j hj, by rw [wr_at, hq.2.2 0 (by omega)], fun a h1 h2 => by rw [wr_ne h2]; exact hq.2.2 a h1⟩)
set_option maxRecDepth 100000 in
set_option maxHeartbeats 4000000 in
theorem aM_keep (E : ev) (Mz : mm)  : Ct E 3 yX7_keep cX7_keep 1 (some .int) [.inr 92] Mz (qI E (fun r M' => r = mv Mz 1 ∧ M' = wr (wa Mz 94 (cpN 1471 (Mz 93) (Mz 94))) 92 3 (nI 1))) := by
  refine ct_of (by decide) (Nat.le_of_ble_eq_true rfl) ?_
  show V E 3 _ _ _ _ _ 0 [some (.inr 92)] [] Mz
  refine v_ald0 dX7_keep_0 ?_
  refine v_getr dX7_keep_1 gX7_9 sh_92 rfl ?_
  refine v_ald0 dX7_keep_4 ?_
  refine v_getr dX7_keep_5 gX7_13 sh_92 rfl ?_
  refine v_callSv (kM_copyAll E Mz sh_93 sh_94 (by decide)) dX7_keep_8 cX7_181 rfl (by decide) (Nat.le_of_ble_eq_true rfl) rfl (fun M1z hq => ?_)
  rw [hq]
  refine v_ald0 dX7_keep_11 ?_
  refine v_iconstN (n := 1) dX7_keep_12 ?_
  refine v_puti dX7_keep_13 pX7_282 sh_92 rfl rfl rfl ?_
  refine v_ald0 dX7_keep_16 ?_
  refine v_getr dX7_keep_17 gX7_9 sh_92 rfl ?_
  refine v_iconstN (n := 1) dX7_keep_20 ?_
  refine v_ialdN dX7_keep_21 sh_93 (by omega) (by decide) ?_
  exact v_iret dX7_keep_22 rfl (⟨by rw [wr_ne (by decide), wa_ne (by decide)]; rfl, rfl⟩)
set_option maxRecDepth 100000 in
set_option maxHeartbeats 4000000 in
theorem aX_back (E : ev) (Mz : mm) {b : Bool} (hb : Mz 0 5 = b2 b) : Ct E 3 yX6_back cX6_back 1 (some .int) [.inr 0] Mz (qI E (fun r M' => (b = false ∧ r = cNO ∧ M' = Mz) ∨ (b = true ∧ r = cv Mz 47 1 ∧ cv M' 38 = cv Mz 47 ∧ (∀ j, j < 3 → M' 46 j = Mz 55 j) ∧ FrT 38 Mz M'))) := by
  refine ct_of (by decide) (Nat.le_of_ble_eq_true rfl) ?_
  show V E 3 _ _ _ _ _ 0 [some (.inr 0)] [] Mz
  refine v_ald0 dX6_back_0 ?_
  refine v_geti dX6_back_1 gX6_290 sh_0 rfl ?_
  refine v_eq (hb) ?_
  refine v_if_ne (tgt := 11) dX6_back_4 (by decide) (fun h4 => ?_) (fun h4 => ?_)
  · refine v_ald0 dX6_back_11 ?_
    refine v_getr dX6_back_12 gX6_28 sh_0 rfl ?_
    refine v_ald0 dX6_back_15 ?_
    refine v_getr dX6_back_16 gX6_32 sh_0 rfl ?_
    refine v_callVv (kC_over_38_47 E Mz) dX6_back_19 cX6_177 rfl sh_38 rfl (by decide) (Nat.le_of_ble_eq_true rfl) rfl (fun M1z hq => ?_)
    refine v_ald0 dX6_back_22 ?_
    refine v_getr dX6_back_23 gX6_28 sh_0 rfl ?_
    refine v_geti dX6_back_26 gX6_68 sh_38 rfl ?_
    refine v_eq (show _ = cv Mz 47 1 from congrFun hq.1 1) ?_
    exact v_iret dX6_back_29 rfl (Or.inr ⟨b2_1.mp h4, rfl, hq.1, hq.2.1, hq.2.2⟩)
  · refine v_ldcw dX6_back_7 kX6_286 ?_
    exact v_iret dX6_back_10 rfl (Or.inl ⟨b2_0.mp h4, rfl, rfl⟩)
set_option maxRecDepth 100000 in
set_option maxHeartbeats 4000000 in
theorem aM_back (E : ev) (Mz : mm) {b : Bool} (hb : Mz 92 3 = b2 b) : Ct E 3 yX7_back cX7_back 1 (some .int) [.inr 92] Mz (qI E (fun r M' => (b = false ∧ r = cNO ∧ M' = Mz) ∨ (b = true ∧ r = Mz 94 1 ∧ M' = wa Mz 93 (cpN 1471 (Mz 94) (Mz 93))))) := by
  refine ct_of (by decide) (Nat.le_of_ble_eq_true rfl) ?_
  show V E 3 _ _ _ _ _ 0 [some (.inr 92)] [] Mz
  refine v_ald0 dX7_back_0 ?_
  refine v_geti dX7_back_1 gX7_282 sh_92 rfl ?_
  refine v_eq (hb) ?_
  refine v_if_ne (tgt := 11) dX7_back_4 (by decide) (fun h4 => ?_) (fun h4 => ?_)
  · refine v_ald0 dX7_back_11 ?_
    refine v_getr dX7_back_12 gX7_13 sh_92 rfl ?_
    refine v_ald0 dX7_back_15 ?_
    refine v_getr dX7_back_16 gX7_9 sh_92 rfl ?_
    refine v_callSv (kM_copyAll E Mz sh_94 sh_93 (by decide)) dX7_back_19 cX7_181 rfl (by decide) (Nat.le_of_ble_eq_true rfl) rfl (fun M1z hq => ?_)
    rw [hq]
    refine v_ald0 dX7_back_22 ?_
    refine v_getr dX7_back_23 gX7_9 sh_92 rfl ?_
    refine v_iconstN (n := 1) dX7_back_26 ?_
    refine v_ialdN dX7_back_27 sh_93 (by omega) (by decide) ?_
    exact v_iret dX7_back_28 rfl (Or.inr ⟨b2_1.mp h4, by rw [wa_at]; rfl, rfl⟩)
  · refine v_ldcw dX7_back_7 kX7_278 ?_
    exact v_iret dX7_back_10 rfl (Or.inl ⟨b2_0.mp h4, rfl, rfl⟩)
set_option maxRecDepth 100000 in
set_option maxHeartbeats 4000000 in
theorem aX_why (E : ev) (Mz : mm) {x : Int32} {T : Nat} {tt : Nat → tx} (hT : TxC Mz 38 tt T) : Ct E 2 yX6_why cX6_why 2 (some .int) [.inr 0, .inl x] Mz (qI E (fun r M' => r = R_why tt T x ∧ M' = Mz)) := by
  refine ct_of (by decide) (Nat.le_of_ble_eq_true rfl) ?_
  show V E 2 _ _ _ _ _ 0 [some (.inr 0), some (.inl x)] [] Mz
  refine v_ild1 dX6_why_0 ?_
  refine v_iconstN (n := 0) dX6_why_1 ?_
  refine v_iconstN (n := 2) dX6_why_2 ?_
  refine v_callSi (kX_outside E _) dX6_why_3 cX6_63 rfl (by decide) (Nat.le_of_ble_eq_true rfl) rfl (fun r M1z hq => ?_)
  obtain ⟨hr, hm⟩ := hq
  rw [hr, hm]
  clear hr hm
  refine v_if_eq (tgt := 12) dX6_why_6 (by decide) (fun h6 => ?_) (fun h6 => ?_)
  · obtain ⟨k, hkl, hk, rfl⟩ := inB_n (by decide) (by decide) (nb0 h6)
    have hlk := hT.2.2.2 k (by omega)
    refine v_ald0 dX6_why_12 ?_
    refine v_getr dX6_why_13 gX6_28 sh_0 rfl ?_
    refine v_getr dX6_why_16 gX6_209 sh_38 rfl ?_
    refine v_ild1 dX6_why_19 ?_
    refine v_ialdN dX6_why_20 sh_46 (by omega) (by decide) ?_
    refine v_eq (show _ = lastK (ksT tt) k T from hlk) ?_
    refine v_if_ge (tgt := 29) dX6_why_21 (by decide) (fun h21 => ?_) (fun h21 => ?_)
    · refine v_ald0 dX6_why_29 ?_
      refine v_getr dX6_why_30 gX6_28 sh_0 rfl ?_
      refine v_getr dX6_why_33 gX6_209 sh_38 rfl ?_
      refine v_ild1 dX6_why_36 ?_
      refine v_ialdN dX6_why_37 sh_46 (by omega) (by decide) ?_
      
      exact v_iret dX6_why_38 rfl (⟨by unfold R_why; rw [if_pos (nb0 h6), tN_n (p := k) (by omega), if_neg (Int32.not_lt.mpr h21)]; exact hlk, rfl⟩)
    · refine v_ldc dX6_why_24 kX6_181 ?_
      refine v_goto (tgt := 38) dX6_why_26 (by decide) ?_
      
      exact v_iret dX6_why_38 rfl (⟨by unfold R_why; rw [if_pos (nb0 h6), tN_n (p := k) (by omega), if_pos (Int32.not_le.mp h21)], rfl⟩)
  · refine v_ldc dX6_why_9 kX6_67 ?_
    exact v_iret dX6_why_11 rfl (⟨by unfold R_why; rw [if_neg (by rw [nb1 h6]; decide)], rfl⟩)
set_option maxRecDepth 100000 in
set_option maxHeartbeats 4000000 in
theorem aM_why (E : ev) (Mz : mm) {x : Int32} {T : Nat} {tt : Nat → tx} (hT : TxM Mz tt T) : Ct E 2 yX7_why cX7_why 3 (some .int) [.inr 92, .inl x] Mz (qI E (fun r M' => r = R_why tt T x ∧ M' = Mz)) := by
  refine ct_of (by decide) (Nat.le_of_ble_eq_true rfl) ?_
  show V E 2 _ _ _ _ _ 0 [some (.inr 92), some (.inl x), none] [] Mz
  refine v_ild1 dX7_why_0 ?_
  refine v_iconstN (n := 0) dX7_why_1 ?_
  refine v_iconstN (n := 2) dX7_why_2 ?_
  refine v_callSi (kM_in E _) dX7_why_3 cX7_75 rfl (by decide) (Nat.le_of_ble_eq_true rfl) rfl (fun r M1z hq => ?_)
  obtain ⟨hr, hm⟩ := hq
  rw [hr, hm]
  clear hr hm
  refine v_if_ne (tgt := 12) dX7_why_6 (by decide) (fun h6 => ?_) (fun h6 => ?_)
  · obtain ⟨k, hkl, hk, rfl⟩ := inB_n (by decide) (by decide) (b2_1.mp h6)
    refine v_ald0 dX7_why_12 ?_
    refine v_ild1 dX7_why_13 ?_
    refine v_callVi (kM_counts E _ (T := T) (ks := ksT tt) hT.2.1 hT.1 (by omega) (fun t ht => ⟨(hT.2.2 t ht).1.1, (tt t).2.1, by have := (hT.2.2 t ht).1.2.1.2.1; omega, (hT.2.2 t ht).2.1⟩)) dX7_why_14 cX7_102 rfl sh_92 rfl (by decide) (Nat.le_of_ble_eq_true rfl) rfl (fun r M1z hq => ?_)
    obtain ⟨hr, hm⟩ := hq
    rw [hr, hm]
    clear hr hm
    refine v_ist2 dX7_why_17 (by decide) ?_
    refine v_ild2 dX7_why_18 ?_
    refine v_if_ge (tgt := 27) dX7_why_19 (by decide) (fun h19 => ?_) (fun h19 => ?_)
    · refine v_ild2 dX7_why_27 ?_
      exact v_iret dX7_why_28 rfl (⟨by unfold R_why; rw [if_pos (b2_1.mp h6), tN_n (p := k) (by omega), if_neg (Int32.not_lt.mpr h19)], rfl⟩)
    · refine v_ldc dX7_why_22 kX7_191 ?_
      refine v_goto (tgt := 28) dX7_why_24 (by decide) ?_
      exact v_iret dX7_why_28 rfl (⟨by unfold R_why; rw [if_pos (b2_1.mp h6), tN_n (p := k) (by omega), if_pos (Int32.not_le.mp h19)], rfl⟩)
  · refine v_ldc dX7_why_9 kX7_119 ?_
    exact v_iret dX7_why_11 rfl (⟨by unfold R_why; rw [if_neg (by rw [b2_0.mp h6]; decide)], rfl⟩)
set_option maxRecDepth 100000 in
set_option maxHeartbeats 4000000 in
theorem aX_tt (E : ev) (Mz : mm) {x u : Int32} {T : Nat} {tt : Nat → tx} (hT : TxC Mz 38 tt T) : Ct E 2 yX6_textTold cX6_textTold 3 (some .int) [.inr 0, .inl x, .inl u] Mz (qI E (fun r M' => r = R_tt tt T x u ∧ M' = Mz)) := by
  refine ct_of (by decide) (Nat.le_of_ble_eq_true rfl) ?_
  show V E 2 _ _ _ _ _ 0 [some (.inr 0), some (.inl x), some (.inl u)] [] Mz
  refine v_ild1 dX6_textTold_0 ?_
  refine v_iconstN (n := 0) dX6_textTold_1 ?_
  refine v_ald0 dX6_textTold_2 ?_
  refine v_getr dX6_textTold_3 gX6_28 sh_0 rfl ?_
  refine v_geti dX6_textTold_6 gX6_227 sh_38 rfl ?_
  refine v_eq (hT.2.1) ?_
  refine v_iconstN (n := 1) dX6_textTold_9 ?_
  refine v_isub dX6_textTold_10 ?_
  refine v_callSi (kX_outside E _) dX6_textTold_11 cX6_63 rfl (by decide) (Nat.le_of_ble_eq_true rfl) rfl (fun r M1z hq => ?_)
  obtain ⟨hr, hm⟩ := hq
  rw [hr, hm]
  clear hr hm
  refine v_if_eq (tgt := 20) dX6_textTold_14 (by decide) (fun h14 => ?_) (fun h14 => ?_)
  · have hT14 := hT.1
    obtain ⟨k, hk, rfl⟩ := inP (by omega) (nb0 h14)
    obtain ⟨hok, hk0, hk1, hk2, hkc⟩ := hT.2.2.1 k hk
    have ht := TB.t (show k < 14 by omega)
    refine v_ild2 dX6_textTold_20 ?_
    by_cases e21_0 : u = 0
    · subst e21_0
      refine v_lsw (off := 27) (tgt := 48) dX6_textTold_21 (by decide) (by decide) (by decide) ?_
      refine v_ald0 dX6_textTold_48 ?_
      refine v_getr dX6_textTold_49 gX6_10 sh_0 rfl ?_
      refine v_getr dX6_textTold_52 gX6_230 sh_1 rfl ?_
      refine v_ild1 dX6_textTold_55 ?_
      refine v_aaldN dX6_textTold_56 sh_2 rfl (by omega) (by decide) ?_
      refine v_geti dX6_textTold_57 gX6_242 (shT ht) rfl ?_
      exact v_iret dX6_textTold_60 rfl (⟨by unfold R_tt; rw [if_pos (nb0 h14), if_pos (by decide), tN_n (p := k) (by omega)]; exact hk0, rfl⟩)
    by_cases e21_1 : u = 1
    · subst e21_1
      refine v_lsw (off := 40) (tgt := 61) dX6_textTold_21 (by decide) (by decide) (by decide) ?_
      refine v_ald0 dX6_textTold_61 ?_
      refine v_getr dX6_textTold_62 gX6_10 sh_0 rfl ?_
      refine v_getr dX6_textTold_65 gX6_230 sh_1 rfl ?_
      refine v_ild1 dX6_textTold_68 ?_
      refine v_aaldN dX6_textTold_69 sh_2 rfl (by omega) (by decide) ?_
      refine v_geti dX6_textTold_70 gX6_245 (shT ht) rfl ?_
      exact v_iret dX6_textTold_73 rfl (⟨by unfold R_tt; rw [if_pos (nb0 h14), if_neg (by decide), if_pos (by decide), tN_n (p := k) (by omega)]; exact hk1, rfl⟩)
    refine v_lsw (off := 53) (tgt := 74) dX6_textTold_21 (by decide) ((lv_osw e21_0 rfl).trans ((lv_osw e21_1 rfl).trans (rfl))) (by decide) ?_
    refine v_ldc dX6_textTold_74 kX6_67 ?_
    exact v_iret dX6_textTold_76 rfl (⟨by unfold R_tt; rw [if_pos (nb0 h14), if_neg e21_0, if_neg e21_1], rfl⟩)
  · refine v_ldc dX6_textTold_17 kX6_67 ?_
    exact v_iret dX6_textTold_19 rfl (⟨by unfold R_tt; rw [if_neg (by rw [nb1 h14]; decide)], rfl⟩)
set_option maxRecDepth 100000 in
set_option maxHeartbeats 4000000 in
theorem aM_tt (E : ev) (Mz : mm) {x u : Int32} {T : Nat} {tt : Nat → tx} (hT : TxM Mz tt T) : Ct E 2 yX7_textTold cX7_textTold 3 (some .int) [.inr 92, .inl x, .inl u] Mz (qI E (fun r M' => r = R_tt tt T x u ∧ M' = Mz)) := by
  refine ct_of (by decide) (Nat.le_of_ble_eq_true rfl) ?_
  show V E 2 _ _ _ _ _ 0 [some (.inr 92), some (.inl x), some (.inl u)] [] Mz
  refine v_ild1 dX7_textTold_0 ?_
  refine v_iconstN (n := 0) dX7_textTold_1 ?_
  refine v_ald0 dX7_textTold_2 ?_
  refine v_getr dX7_textTold_3 gX7_9 sh_92 rfl ?_
  refine v_bipushN (n := 6) dX7_textTold_6 (by decide) ?_
  refine v_ialdN dX7_textTold_8 sh_93 (by omega) (by decide) ?_
  refine v_eq (hT.2.1) ?_
  refine v_iconstN (n := 1) dX7_textTold_9 ?_
  refine v_isub dX7_textTold_10 ?_
  refine v_callSi (kM_in E _) dX7_textTold_11 cX7_75 rfl (by decide) (Nat.le_of_ble_eq_true rfl) rfl (fun r M1z hq => ?_)
  obtain ⟨hr, hm⟩ := hq
  rw [hr, hm]
  clear hr hm
  refine v_if_eq (tgt := 26) dX7_textTold_14 (by decide) (fun h14 => ?_) (fun h14 => ?_)
  · refine v_ldc dX7_textTold_26 kX7_119 ?_
    exact v_iret dX7_textTold_28 rfl (⟨by unfold R_tt; rw [if_neg (by rw [b2_0.mp h14]; decide)], rfl⟩)
  · refine v_ild2 dX7_textTold_17 ?_
    refine v_iconstN (n := 0) dX7_textTold_18 ?_
    refine v_iconstN (n := 1) dX7_textTold_19 ?_
    refine v_callSi (kM_in E _) dX7_textTold_20 cX7_75 rfl (by decide) (Nat.le_of_ble_eq_true rfl) rfl (fun r M1z hq => ?_)
    obtain ⟨hr, hm⟩ := hq
    rw [hr, hm]
    clear hr hm
    refine v_if_ne (tgt := 29) dX7_textTold_23 (by decide) (fun h23 => ?_) (fun h23 => ?_)
    · have hT14 := hT.1
      obtain ⟨k, hk, rfl⟩ := inP (by omega) (b2_1.mp h14)
      obtain ⟨hok, hk0, hk1, hkc⟩ := hT.2.2 k hk
      have hkl := hok.2.1.2.1
      have hk3 := hok.1
      rw [show 100 + 2 * k = 99 + 2 * k + 1 by omega] at hk1
      refine v_ild2 dX7_textTold_29 ?_
      refine v_if_ne (tgt := 51) dX7_textTold_30 (by decide) (fun h30 => ?_) (fun h30 => ?_)
      · have hj1 : u = 1 := by obtain ⟨j, -, hj, rfl⟩ := inB_n (by decide) (by decide) (b2_1.mp h23); rcases (show j = 0 ∨ j = 1 by omega) with rfl | rfl; (exact absurd rfl h30); rfl
        refine v_ald0 dX7_textTold_51 ?_
        refine v_getr dX7_textTold_52 gX7_9 sh_92 rfl ?_
        refine v_bipushN (n := 99) dX7_textTold_55 (by decide) ?_
        refine v_iconstN (n := 2) dX7_textTold_57 ?_
        refine v_ild1 dX7_textTold_58 ?_
        refine v_imulN dX7_textTold_59 ?_
        refine v_iaddN dX7_textTold_60 ?_
        refine v_iconstN (n := 1) dX7_textTold_61 ?_
        refine v_iaddN dX7_textTold_62 ?_
        refine v_ialdN dX7_textTold_63 sh_93 (by omega) (by decide) ?_
        exact v_iret dX7_textTold_64 rfl (⟨by unfold R_tt; (conv => rhs; rw [if_pos (b2_1.mp h14), if_neg h30, if_pos hj1, tN_n (p := k) (by omega)]); exact hk1, rfl⟩)
      · refine v_ald0 dX7_textTold_33 ?_
        refine v_getr dX7_textTold_34 gX7_9 sh_92 rfl ?_
        refine v_bipushN (n := 99) dX7_textTold_37 (by decide) ?_
        refine v_iconstN (n := 2) dX7_textTold_39 ?_
        refine v_ild1 dX7_textTold_40 ?_
        refine v_imulN dX7_textTold_41 ?_
        refine v_iaddN dX7_textTold_42 ?_
        refine v_ialdN dX7_textTold_43 sh_93 (by omega) (by decide) ?_
        refine v_eq (hk0) ?_
        refine v_sipushN (n := 1000) dX7_textTold_44 (by decide +kernel) ?_
        refine v_idivN dX7_textTold_47 (by omega) (by omega) (by omega) ?_
        refine v_goto (tgt := 64) dX7_textTold_48 (by decide) ?_
        exact v_iret dX7_textTold_64 rfl (⟨by unfold R_tt; (conv => rhs; rw [if_pos (b2_1.mp h14), if_pos h30, tN_n (p := k) (by omega)]); congr 1; omega, rfl⟩)
    · refine v_ldc dX7_textTold_26 kX7_119 ?_
      exact v_iret dX7_textTold_28 rfl (⟨by unfold R_tt; rw [if_pos (b2_1.mp h14), if_neg (show ¬ u = 0 from inB_f (b2_0.mp h23) (Nat.le_refl 0) (by decide) (by decide)), if_neg (show ¬ u = 1 from inB_f (k := 1) (b2_0.mp h23) (by decide) (by decide) (by decide))], rfl⟩)
