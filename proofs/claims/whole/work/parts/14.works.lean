def tmOK (fx nm : Nat → Int32) (x y : Int32) : Prop := (∃ k : Nat, k < 10000 ∧ x = nI k ∧ y = nI k) ∨ (∃ j m : Nat, j < 6 ∧ m < 4 ∧ x = -1 - nI j ∧ y = nI (10000 + m) ∧ fx m = nm j) ∨ (x = -33 ∧ y = -10) ∨ (x = -42 ∧ y = -8) ∨ (x = -47 ∧ y = -9) ∨ (x = -43 ∧ y = -6) ∨ (x = -45 ∧ y = -7) ∨ (x = -60 ∧ y = -3) ∨ (x = -61 ∧ y = -4) ∨ (x = -62 ∧ y = -5) ∨ (x = -38 ∧ y = -2) ∨ (x = -124 ∧ y = -1)
set_option maxRecDepth 100000 in
set_option maxHeartbeats 4000000 in
theorem kM_worksOut (E : ev) (Mz : mm) {t key n : Nat} {nm xs : Nat → Int32} (ht : t < 14) (hkey : key < 3) (hn : Mz 93 (99 + 2 * t) = nI (1000 * key + n)) (hw : WF xs n) (hc : ∀ i, i < n → tmOK (Mz 104) nm (xs i) (Mz 93 (127 + 96 * t + i))) : Ct E 1 yX7_worksOut cX7_worksOut 6 (some .int) [.inr 92, .inl (nI t)] Mz (qI E (fun r M' => r = bot (gst nm xs n) ∧ ∃ g, M' = wa Mz 103 g)) := by
  refine ct_of (by decide) (Nat.le_of_ble_eq_true rfl) ?_
  show V E 1 _ _ _ _ _ 0 [some (.inr 92), some (.inl (nI t)), none, none, none, none] [] Mz
  have hn96 := hw.2.1
  refine v_iconstN (n := 0) dX7_worksOut_0 ?_
  refine v_ist2 dX7_worksOut_1 (by decide) ?_
  refine v_ald0 dX7_worksOut_2 ?_
  refine v_getr dX7_worksOut_3 gX7_9 sh_92 rfl ?_
  refine v_bipushN (n := 99) dX7_worksOut_6 (by decide) ?_
  refine v_iconstN (n := 2) dX7_worksOut_8 ?_
  refine v_ild1 dX7_worksOut_9 ?_
  refine v_imulN dX7_worksOut_10 ?_
  refine v_iaddN dX7_worksOut_11 ?_
  refine v_ialdN dX7_worksOut_12 sh_93 (by omega) (by decide) ?_
  refine v_eq (hn) ?_
  refine v_sipushN (n := 1000) dX7_worksOut_13 (by decide +kernel) ?_
  refine v_iremN dX7_worksOut_16 (by omega) (by omega) (by omega) ?_
  refine v_eq (show nI ((1000 * key + n) % 1000) = nI n from by congr 1; omega) ?_
  refine v_ist3 dX7_worksOut_17 (by decide) ?_
  refine v_iconstN (n := 0) dX7_worksOut_18 ?_
  refine v_ist4 dX7_worksOut_19 (by decide) ?_
  refine v_loopP (pc := 21) (fun k _ => [some (.inr 92), some (.inl (nI t)), some (.inl (nI (gst nm xs k).length)), some (.inl (nI n)), some (.inl (nI k)), none]) (fun k M' => ∃ g, M' = wa Mz 103 g ∧ rp g (gst nm xs k)) n rfl ⟨Mz 103, (wa_self Mz 103).symm, rp_nil _⟩ (fun k Mk hk hM ih => ?_) (fun Mk hM => ?_)
  · obtain ⟨g, rfl, hg⟩ := hM
    have hcd : wa Mz 103 g 93 = Mz 93 := wa_ne (by decide)
    have hfx : wa Mz 103 g 104 = Mz 104 := wa_ne (by decide)
    have hl := gst_len nm xs hw k (by omega)
    have hlk : htK xs k ≤ k := htK_le _ k
    have hn96 := hw.2.1
    have hop := hw.2.2.2 k hk
    rcases hc k hk with ⟨q, hq, hx, hy⟩ | ⟨j, m, hj6, hm4, hx, hy, hfm⟩ | ⟨hx, hy⟩ | ⟨hx, hy⟩ | ⟨hx, hy⟩ | ⟨hx, hy⟩ | ⟨hx, hy⟩ | ⟨hx, hy⟩ | ⟨hx, hy⟩ | ⟨hx, hy⟩ | ⟨hx, hy⟩ | ⟨hx, hy⟩
    · have hnext : gst nm xs (k + 1) = nI q :: (gst nm xs k) := by show g1 _ _ _ = _; rw [hx]; exact g1_num hq _
      refine v_ild4 dX7_worksOut_21 ?_
      refine v_ild3 dX7_worksOut_23 ?_
      refine v_icmpN_ge (tgt := 155) dX7_worksOut_24 (by decide) (by omega) (by omega) (fun h24 => absurd h24 (by omega)) (fun h24 => ?_)
      refine v_ald0 dX7_worksOut_27 ?_
      refine v_getr dX7_worksOut_28 gX7_9 sh_92 rfl ?_
      refine v_bipushN (n := 127) dX7_worksOut_31 (by decide) ?_
      refine v_bipushN (n := 96) dX7_worksOut_33 (by decide) ?_
      refine v_ild1 dX7_worksOut_35 ?_
      refine v_imulN dX7_worksOut_36 ?_
      refine v_iaddN dX7_worksOut_37 ?_
      refine v_ild4 dX7_worksOut_38 ?_
      refine v_iaddN dX7_worksOut_40 ?_
      refine v_ialdN dX7_worksOut_41 sh_93 (by omega) (by decide) ?_
      refine v_eq ((congrFun hcd _).trans hy) ?_
      refine v_ist5 dX7_worksOut_42 (by decide) ?_
      refine v_ild5 dX7_worksOut_44 ?_
      refine v_if_lt (tgt := 85) dX7_worksOut_46 (by decide) (fun h46 => absurd h46 (nI_pos (by omega))) (fun h46 => ?_)
      refine v_ald0 dX7_worksOut_49 ?_
      refine v_getr dX7_worksOut_50 gX7_42 sh_92 rfl ?_
      refine v_ild2 dX7_worksOut_53 ?_
      refine v_ild5 dX7_worksOut_54 ?_
      refine v_sipushN (n := 10000) dX7_worksOut_56 (by decide +kernel) ?_
      refine v_icmpN_ge (tgt := 67) dX7_worksOut_59 (by decide) (by omega) (by omega) (fun h59 => absurd h59 (by omega)) (fun h59 => ?_)
      refine v_ild5 dX7_worksOut_62 ?_
      refine v_goto (tgt := 78) dX7_worksOut_64 (by decide) ?_
      refine v_iastN dX7_worksOut_78 sh_103 (by omega) (by decide) ?_
      refine v_iincN2 (n := 1) dX7_worksOut_79 (by decide) ?_
      refine v_goto (tgt := 149) dX7_worksOut_82 (by decide) ?_
      refine v_iincN4 (n := 1) dX7_worksOut_149 (by decide) ?_
      refine v_goto (tgt := 21) dX7_worksOut_152 (by decide) ?_
      refine v_fg5 ?_
      exact v_lo (by rw [hnext]; simp [nI_add]) (ih _ ⟨upd g (gst nm xs k).length (nI q), by rw [wr_wa], by rw [hnext]; exact rp_push _ hg⟩)
    · have hnext : gst nm xs (k + 1) = nm j :: (gst nm xs k) := by
        show g1 _ _ _ = _
        rw [hx]
        rcases (show j = 0 ∨ j = 1 ∨ j = 2 ∨ j = 3 ∨ j = 4 ∨ j = 5 by omega) with rfl | rfl | rfl | rfl | rfl | rfl <;> rfl
      refine v_ild4 dX7_worksOut_21 ?_
      refine v_ild3 dX7_worksOut_23 ?_
      refine v_icmpN_ge (tgt := 155) dX7_worksOut_24 (by decide) (by omega) (by omega) (fun h24 => absurd h24 (by omega)) (fun h24 => ?_)
      refine v_ald0 dX7_worksOut_27 ?_
      refine v_getr dX7_worksOut_28 gX7_9 sh_92 rfl ?_
      refine v_bipushN (n := 127) dX7_worksOut_31 (by decide) ?_
      refine v_bipushN (n := 96) dX7_worksOut_33 (by decide) ?_
      refine v_ild1 dX7_worksOut_35 ?_
      refine v_imulN dX7_worksOut_36 ?_
      refine v_iaddN dX7_worksOut_37 ?_
      refine v_ild4 dX7_worksOut_38 ?_
      refine v_iaddN dX7_worksOut_40 ?_
      refine v_ialdN dX7_worksOut_41 sh_93 (by omega) (by decide) ?_
      refine v_eq ((congrFun hcd _).trans hy) ?_
      refine v_ist5 dX7_worksOut_42 (by decide) ?_
      refine v_ild5 dX7_worksOut_44 ?_
      refine v_if_lt (tgt := 85) dX7_worksOut_46 (by decide) (fun h46 => absurd h46 (nI_pos (by omega))) (fun h46 => ?_)
      refine v_ald0 dX7_worksOut_49 ?_
      refine v_getr dX7_worksOut_50 gX7_42 sh_92 rfl ?_
      refine v_ild2 dX7_worksOut_53 ?_
      refine v_ild5 dX7_worksOut_54 ?_
      refine v_sipushN (n := 10000) dX7_worksOut_56 (by decide +kernel) ?_
      refine v_icmpN_ge (tgt := 67) dX7_worksOut_59 (by decide) (by omega) (by omega) (fun h59 => ?_) (fun h59 => absurd h59 (by omega))
      refine v_ald0 dX7_worksOut_67 ?_
      refine v_getr dX7_worksOut_68 gX7_45 sh_92 rfl ?_
      refine v_ild5 dX7_worksOut_71 ?_
      refine v_sipushN (n := 10000) dX7_worksOut_73 (by decide +kernel) ?_
      refine v_isubN dX7_worksOut_76 (by omega) ?_
      refine v_ialdN dX7_worksOut_77 sh_104 (by omega) (by decide) ?_
      refine v_iastN dX7_worksOut_78 sh_103 (by omega) (by decide) ?_
      refine v_iincN2 (n := 1) dX7_worksOut_79 (by decide) ?_
      refine v_goto (tgt := 149) dX7_worksOut_82 (by decide) ?_
      refine v_iincN4 (n := 1) dX7_worksOut_149 (by decide) ?_
      refine v_goto (tgt := 21) dX7_worksOut_152 (by decide) ?_
      refine v_fg5 ?_
      exact v_lo (by rw [hnext]; simp [nI_add]) (ih _ ⟨upd g (gst nm xs k).length (nm j), by rw [wr_wa, hfx, show 10000 + m - 10000 = m by omega, hfm], by rw [hnext]; exact rp_push _ hg⟩)
    · have hh : 1 ≤ htK xs k := by
        rcases hop with ⟨q, hq, e⟩ | e | ⟨-, h⟩ | ⟨e, -⟩
        · rw [hx] at e; exact absurd e (fun e => absurd (by rw [← e]; decide) (nn_m (k := q) (m := -1) (by decide) (by omega)))
        · rw [hx] at e; exact absurd e (by decide)
        · exact h
        · rw [hx] at e; exact absurd e (by unfold isBin; decide)
      obtain ⟨a, u, hgk⟩ : ∃ a u, (gst nm xs k) = a :: u := by
        cases hz : (gst nm xs k) with
        | nil => rw [hz] at hl; simp at hl; omega
        | cons a t => exact ⟨a, t, rfl⟩
      rw [hgk] at hg hl
      have hnext : gst nm xs (k + 1) = (if a = 0 then nI 1 else nI 0) :: u := by show g1 _ _ _ = _; rw [hx, hgk]; rfl
      rw [hgk]
      simp only [List.length_cons] at hl ⊢
      refine v_ild4 dX7_worksOut_21 ?_
      refine v_ild3 dX7_worksOut_23 ?_
      refine v_icmpN_ge (tgt := 155) dX7_worksOut_24 (by decide) (by omega) (by omega) (fun h24 => absurd h24 (by omega)) (fun h24 => ?_)
      refine v_ald0 dX7_worksOut_27 ?_
      refine v_getr dX7_worksOut_28 gX7_9 sh_92 rfl ?_
      refine v_bipushN (n := 127) dX7_worksOut_31 (by decide) ?_
      refine v_bipushN (n := 96) dX7_worksOut_33 (by decide) ?_
      refine v_ild1 dX7_worksOut_35 ?_
      refine v_imulN dX7_worksOut_36 ?_
      refine v_iaddN dX7_worksOut_37 ?_
      refine v_ild4 dX7_worksOut_38 ?_
      refine v_iaddN dX7_worksOut_40 ?_
      refine v_ialdN dX7_worksOut_41 sh_93 (by omega) (by decide) ?_
      refine v_eq ((congrFun hcd _).trans hy) ?_
      refine v_ist5 dX7_worksOut_42 (by decide) ?_
      refine v_ild5 dX7_worksOut_44 ?_
      refine v_if_lt (tgt := 85) dX7_worksOut_46 (by decide) (fun h46 => ?_) (fun h46 => absurd h46 (by decide))
      refine v_ild5 dX7_worksOut_85 ?_
      refine v_bipush dX7_worksOut_87 rfl ?_
      refine v_icmp_ne (tgt := 119) dX7_worksOut_89 (by decide) (fun h89 => absurd h89 (by decide)) (fun h89 => ?_)
      refine v_ald0 dX7_worksOut_92 ?_
      refine v_getr dX7_worksOut_93 gX7_42 sh_92 rfl ?_
      refine v_ild2 dX7_worksOut_96 ?_
      refine v_iconstN (n := 1) dX7_worksOut_97 ?_
      refine v_isubN dX7_worksOut_98 (by omega) ?_
      refine v_ald0 dX7_worksOut_99 ?_
      refine v_getr dX7_worksOut_100 gX7_42 sh_92 rfl ?_
      refine v_ild2 dX7_worksOut_103 ?_
      refine v_iconstN (n := 1) dX7_worksOut_104 ?_
      refine v_isubN dX7_worksOut_105 (by omega) ?_
      refine v_ialdN dX7_worksOut_106 sh_103 (by omega) (by decide) ?_
      refine v_eq (rp_top hg) ?_
      refine v_if_ne (tgt := 114) dX7_worksOut_107 (by decide) (fun h107 => ?_) (fun h107 => ?_)
      · refine v_iconstN (n := 0) dX7_worksOut_114 ?_
        refine v_iastN dX7_worksOut_115 sh_103 (by omega) (by decide) ?_
        refine v_goto (tgt := 149) dX7_worksOut_116 (by decide) ?_
        refine v_iincN4 (n := 1) dX7_worksOut_149 (by decide) ?_
        refine v_goto (tgt := 21) dX7_worksOut_152 (by decide) ?_
        refine v_fg5 ?_
        exact v_lo (by rw [hnext]; simp) (ih _ ⟨upd g u.length (if a = 0 then nI 1 else nI 0), by rw [wr_wa]; simp [h107], by rw [hnext]; exact rp_push _ (rp_tail hg)⟩)
      · refine v_iconstN (n := 1) dX7_worksOut_110 ?_
        refine v_goto (tgt := 115) dX7_worksOut_111 (by decide) ?_
        refine v_iastN dX7_worksOut_115 sh_103 (by omega) (by decide) ?_
        refine v_goto (tgt := 149) dX7_worksOut_116 (by decide) ?_
        refine v_iincN4 (n := 1) dX7_worksOut_149 (by decide) ?_
        refine v_goto (tgt := 21) dX7_worksOut_152 (by decide) ?_
        refine v_fg5 ?_
        exact v_lo (by rw [hnext]; simp) (ih _ ⟨upd g u.length (if a = 0 then nI 1 else nI 0), by rw [wr_wa]; simp [h107], by rw [hnext]; exact rp_push _ (rp_tail hg)⟩)
    · have hh : 2 ≤ htK xs k := by
        rcases hop with ⟨q, hq, e⟩ | e | ⟨e, -⟩ | ⟨-, h⟩
        · rw [hx] at e; exact absurd e (fun e => absurd (by rw [← e]; decide) (nn_m (k := q) (m := -1) (by decide) (by omega)))
        · rw [hx] at e; exact absurd e (by decide)
        · rw [hx] at e; exact absurd e (by decide)
        · exact h
      obtain ⟨b, a, u, hgk⟩ : ∃ b a u, (gst nm xs k) = b :: a :: u := by
        cases hz : (gst nm xs k) with
        | nil => rw [hz] at hl; simp at hl; omega
        | cons b l =>
          cases l with
          | nil => rw [hz] at hl; simp at hl; omega
          | cons a t => exact ⟨b, a, t, rfl⟩
      rw [hgk] at hg hl
      have hnext : gst nm xs (k + 1) = jn (-(-42)) a b :: u := by show g1 _ _ _ = _; rw [hx, hgk]; rfl
      rw [hgk]
      simp only [List.length_cons] at hl ⊢
      refine v_ild4 dX7_worksOut_21 ?_
      refine v_ild3 dX7_worksOut_23 ?_
      refine v_icmpN_ge (tgt := 155) dX7_worksOut_24 (by decide) (by omega) (by omega) (fun h24 => absurd h24 (by omega)) (fun h24 => ?_)
      refine v_ald0 dX7_worksOut_27 ?_
      refine v_getr dX7_worksOut_28 gX7_9 sh_92 rfl ?_
      refine v_bipushN (n := 127) dX7_worksOut_31 (by decide) ?_
      refine v_bipushN (n := 96) dX7_worksOut_33 (by decide) ?_
      refine v_ild1 dX7_worksOut_35 ?_
      refine v_imulN dX7_worksOut_36 ?_
      refine v_iaddN dX7_worksOut_37 ?_
      refine v_ild4 dX7_worksOut_38 ?_
      refine v_iaddN dX7_worksOut_40 ?_
      refine v_ialdN dX7_worksOut_41 sh_93 (by omega) (by decide) ?_
      refine v_eq ((congrFun hcd _).trans hy) ?_
      refine v_ist5 dX7_worksOut_42 (by decide) ?_
      refine v_ild5 dX7_worksOut_44 ?_
      refine v_if_lt (tgt := 85) dX7_worksOut_46 (by decide) (fun h46 => ?_) (fun h46 => absurd h46 (by decide))
      refine v_ild5 dX7_worksOut_85 ?_
      refine v_bipush dX7_worksOut_87 rfl ?_
      refine v_icmp_ne (tgt := 119) dX7_worksOut_89 (by decide) (fun h89 => ?_) (fun h89 => absurd h89 (by decide))
      refine v_iinc2 dX7_worksOut_119 (by decide) ?_
      refine v_lo (L' := [some (.inr 92), some (.inl (nI t)), some (.inl (nI (u.length + 1))), some (.inl (nI n)), some (.inl (nI k)), some (.inl (-8))]) (by rw [show nI (u.length + 1 + 1) + Int32.ofInt (-1) = nI (u.length + 1) from pk_m1 _]) ?_
      refine v_ald0 dX7_worksOut_122 ?_
      refine v_getr dX7_worksOut_123 gX7_42 sh_92 rfl ?_
      refine v_ild2 dX7_worksOut_126 ?_
      refine v_iconstN (n := 1) dX7_worksOut_127 ?_
      refine v_isubN dX7_worksOut_128 (by omega) ?_
      refine v_ild5 dX7_worksOut_129 ?_
      refine v_ald0 dX7_worksOut_131 ?_
      refine v_getr dX7_worksOut_132 gX7_42 sh_92 rfl ?_
      refine v_ild2 dX7_worksOut_135 ?_
      refine v_iconstN (n := 1) dX7_worksOut_136 ?_
      refine v_isubN dX7_worksOut_137 (by omega) ?_
      refine v_ialdN dX7_worksOut_138 sh_103 (by omega) (by decide) ?_
      refine v_eq (rp_top (rp_tail hg)) ?_
      refine v_ald0 dX7_worksOut_139 ?_
      refine v_getr dX7_worksOut_140 gX7_42 sh_92 rfl ?_
      refine v_ild2 dX7_worksOut_143 ?_
      refine v_ialdN dX7_worksOut_144 sh_103 (by omega) (by decide) ?_
      refine v_eq (rp_top hg) ?_
      refine v_callSi (kM_two_42 E (wa Mz 103 g)) dX7_worksOut_145 cX7_268 rfl (by decide) (Nat.le_of_ble_eq_true rfl) rfl (fun r M1z hq => ?_)
      obtain ⟨hr, hm⟩ := hq
      rw [hr, hm]
      clear hr hm
      refine v_iastN dX7_worksOut_148 sh_103 (by omega) (by decide) ?_
      refine v_iincN4 (n := 1) dX7_worksOut_149 (by decide) ?_
      refine v_goto (tgt := 21) dX7_worksOut_152 (by decide) ?_
      refine v_fg5 ?_
      exact v_lo (by rw [hnext]; simp) (ih _ ⟨upd g u.length (jn (-(-42)) a b), by rw [wr_wa]; rfl, by rw [hnext]; exact rp_push _ (rp_tail (rp_tail hg))⟩)
    · have hh : 2 ≤ htK xs k := by
        rcases hop with ⟨q, hq, e⟩ | e | ⟨e, -⟩ | ⟨-, h⟩
        · rw [hx] at e; exact absurd e (fun e => absurd (by rw [← e]; decide) (nn_m (k := q) (m := -1) (by decide) (by omega)))
        · rw [hx] at e; exact absurd e (by decide)
        · rw [hx] at e; exact absurd e (by decide)
        · exact h
      obtain ⟨b, a, u, hgk⟩ : ∃ b a u, (gst nm xs k) = b :: a :: u := by
        cases hz : (gst nm xs k) with
        | nil => rw [hz] at hl; simp at hl; omega
        | cons b l =>
          cases l with
          | nil => rw [hz] at hl; simp at hl; omega
          | cons a t => exact ⟨b, a, t, rfl⟩
      rw [hgk] at hg hl
      have hnext : gst nm xs (k + 1) = jn (-(-47)) a b :: u := by show g1 _ _ _ = _; rw [hx, hgk]; rfl
      rw [hgk]
      simp only [List.length_cons] at hl ⊢
      refine v_ild4 dX7_worksOut_21 ?_
      refine v_ild3 dX7_worksOut_23 ?_
      refine v_icmpN_ge (tgt := 155) dX7_worksOut_24 (by decide) (by omega) (by omega) (fun h24 => absurd h24 (by omega)) (fun h24 => ?_)
      refine v_ald0 dX7_worksOut_27 ?_
      refine v_getr dX7_worksOut_28 gX7_9 sh_92 rfl ?_
      refine v_bipushN (n := 127) dX7_worksOut_31 (by decide) ?_
      refine v_bipushN (n := 96) dX7_worksOut_33 (by decide) ?_
      refine v_ild1 dX7_worksOut_35 ?_
      refine v_imulN dX7_worksOut_36 ?_
      refine v_iaddN dX7_worksOut_37 ?_
      refine v_ild4 dX7_worksOut_38 ?_
      refine v_iaddN dX7_worksOut_40 ?_
      refine v_ialdN dX7_worksOut_41 sh_93 (by omega) (by decide) ?_
      refine v_eq ((congrFun hcd _).trans hy) ?_
      refine v_ist5 dX7_worksOut_42 (by decide) ?_
      refine v_ild5 dX7_worksOut_44 ?_
      refine v_if_lt (tgt := 85) dX7_worksOut_46 (by decide) (fun h46 => ?_) (fun h46 => absurd h46 (by decide))
      refine v_ild5 dX7_worksOut_85 ?_
      refine v_bipush dX7_worksOut_87 rfl ?_
      refine v_icmp_ne (tgt := 119) dX7_worksOut_89 (by decide) (fun h89 => ?_) (fun h89 => absurd h89 (by decide))
      refine v_iinc2 dX7_worksOut_119 (by decide) ?_
      refine v_lo (L' := [some (.inr 92), some (.inl (nI t)), some (.inl (nI (u.length + 1))), some (.inl (nI n)), some (.inl (nI k)), some (.inl (-9))]) (by rw [show nI (u.length + 1 + 1) + Int32.ofInt (-1) = nI (u.length + 1) from pk_m1 _]) ?_
      refine v_ald0 dX7_worksOut_122 ?_
      refine v_getr dX7_worksOut_123 gX7_42 sh_92 rfl ?_
      refine v_ild2 dX7_worksOut_126 ?_
      refine v_iconstN (n := 1) dX7_worksOut_127 ?_
      refine v_isubN dX7_worksOut_128 (by omega) ?_
      refine v_ild5 dX7_worksOut_129 ?_
      refine v_ald0 dX7_worksOut_131 ?_
      refine v_getr dX7_worksOut_132 gX7_42 sh_92 rfl ?_
      refine v_ild2 dX7_worksOut_135 ?_
      refine v_iconstN (n := 1) dX7_worksOut_136 ?_
      refine v_isubN dX7_worksOut_137 (by omega) ?_
      refine v_ialdN dX7_worksOut_138 sh_103 (by omega) (by decide) ?_
      refine v_eq (rp_top (rp_tail hg)) ?_
      refine v_ald0 dX7_worksOut_139 ?_
      refine v_getr dX7_worksOut_140 gX7_42 sh_92 rfl ?_
      refine v_ild2 dX7_worksOut_143 ?_
      refine v_ialdN dX7_worksOut_144 sh_103 (by omega) (by decide) ?_
      refine v_eq (rp_top hg) ?_
      refine v_callSi (kM_two_47 E (wa Mz 103 g)) dX7_worksOut_145 cX7_268 rfl (by decide) (Nat.le_of_ble_eq_true rfl) rfl (fun r M1z hq => ?_)
      obtain ⟨hr, hm⟩ := hq
      rw [hr, hm]
      clear hr hm
      refine v_iastN dX7_worksOut_148 sh_103 (by omega) (by decide) ?_
      refine v_iincN4 (n := 1) dX7_worksOut_149 (by decide) ?_
      refine v_goto (tgt := 21) dX7_worksOut_152 (by decide) ?_
      refine v_fg5 ?_
      exact v_lo (by rw [hnext]; simp) (ih _ ⟨upd g u.length (jn (-(-47)) a b), by rw [wr_wa]; rfl, by rw [hnext]; exact rp_push _ (rp_tail (rp_tail hg))⟩)
    · have hh : 2 ≤ htK xs k := by
        rcases hop with ⟨q, hq, e⟩ | e | ⟨e, -⟩ | ⟨-, h⟩
        · rw [hx] at e; exact absurd e (fun e => absurd (by rw [← e]; decide) (nn_m (k := q) (m := -1) (by decide) (by omega)))
        · rw [hx] at e; exact absurd e (by decide)
        · rw [hx] at e; exact absurd e (by decide)
        · exact h
      obtain ⟨b, a, u, hgk⟩ : ∃ b a u, (gst nm xs k) = b :: a :: u := by
        cases hz : (gst nm xs k) with
        | nil => rw [hz] at hl; simp at hl; omega
        | cons b l =>
          cases l with
          | nil => rw [hz] at hl; simp at hl; omega
          | cons a t => exact ⟨b, a, t, rfl⟩
      rw [hgk] at hg hl
      have hnext : gst nm xs (k + 1) = jn (-(-43)) a b :: u := by show g1 _ _ _ = _; rw [hx, hgk]; rfl
      rw [hgk]
      simp only [List.length_cons] at hl ⊢
      refine v_ild4 dX7_worksOut_21 ?_
      refine v_ild3 dX7_worksOut_23 ?_
      refine v_icmpN_ge (tgt := 155) dX7_worksOut_24 (by decide) (by omega) (by omega) (fun h24 => absurd h24 (by omega)) (fun h24 => ?_)
      refine v_ald0 dX7_worksOut_27 ?_
      refine v_getr dX7_worksOut_28 gX7_9 sh_92 rfl ?_
      refine v_bipushN (n := 127) dX7_worksOut_31 (by decide) ?_
      refine v_bipushN (n := 96) dX7_worksOut_33 (by decide) ?_
      refine v_ild1 dX7_worksOut_35 ?_
      refine v_imulN dX7_worksOut_36 ?_
      refine v_iaddN dX7_worksOut_37 ?_
      refine v_ild4 dX7_worksOut_38 ?_
      refine v_iaddN dX7_worksOut_40 ?_
      refine v_ialdN dX7_worksOut_41 sh_93 (by omega) (by decide) ?_
      refine v_eq ((congrFun hcd _).trans hy) ?_
      refine v_ist5 dX7_worksOut_42 (by decide) ?_
      refine v_ild5 dX7_worksOut_44 ?_
      refine v_if_lt (tgt := 85) dX7_worksOut_46 (by decide) (fun h46 => ?_) (fun h46 => absurd h46 (by decide))
      refine v_ild5 dX7_worksOut_85 ?_
      refine v_bipush dX7_worksOut_87 rfl ?_
      refine v_icmp_ne (tgt := 119) dX7_worksOut_89 (by decide) (fun h89 => ?_) (fun h89 => absurd h89 (by decide))
      refine v_iinc2 dX7_worksOut_119 (by decide) ?_
      refine v_lo (L' := [some (.inr 92), some (.inl (nI t)), some (.inl (nI (u.length + 1))), some (.inl (nI n)), some (.inl (nI k)), some (.inl (-6))]) (by rw [show nI (u.length + 1 + 1) + Int32.ofInt (-1) = nI (u.length + 1) from pk_m1 _]) ?_
      refine v_ald0 dX7_worksOut_122 ?_
      refine v_getr dX7_worksOut_123 gX7_42 sh_92 rfl ?_
      refine v_ild2 dX7_worksOut_126 ?_
      refine v_iconstN (n := 1) dX7_worksOut_127 ?_
      refine v_isubN dX7_worksOut_128 (by omega) ?_
      refine v_ild5 dX7_worksOut_129 ?_
      refine v_ald0 dX7_worksOut_131 ?_
      refine v_getr dX7_worksOut_132 gX7_42 sh_92 rfl ?_
      refine v_ild2 dX7_worksOut_135 ?_
      refine v_iconstN (n := 1) dX7_worksOut_136 ?_
      refine v_isubN dX7_worksOut_137 (by omega) ?_
      refine v_ialdN dX7_worksOut_138 sh_103 (by omega) (by decide) ?_
      refine v_eq (rp_top (rp_tail hg)) ?_
      refine v_ald0 dX7_worksOut_139 ?_
      refine v_getr dX7_worksOut_140 gX7_42 sh_92 rfl ?_
      refine v_ild2 dX7_worksOut_143 ?_
      refine v_ialdN dX7_worksOut_144 sh_103 (by omega) (by decide) ?_
      refine v_eq (rp_top hg) ?_
      refine v_callSi (kM_two_43 E (wa Mz 103 g)) dX7_worksOut_145 cX7_268 rfl (by decide) (Nat.le_of_ble_eq_true rfl) rfl (fun r M1z hq => ?_)
      obtain ⟨hr, hm⟩ := hq
      rw [hr, hm]
      clear hr hm
      refine v_iastN dX7_worksOut_148 sh_103 (by omega) (by decide) ?_
      refine v_iincN4 (n := 1) dX7_worksOut_149 (by decide) ?_
      refine v_goto (tgt := 21) dX7_worksOut_152 (by decide) ?_
      refine v_fg5 ?_
      exact v_lo (by rw [hnext]; simp) (ih _ ⟨upd g u.length (jn (-(-43)) a b), by rw [wr_wa]; rfl, by rw [hnext]; exact rp_push _ (rp_tail (rp_tail hg))⟩)
    · have hh : 2 ≤ htK xs k := by
        rcases hop with ⟨q, hq, e⟩ | e | ⟨e, -⟩ | ⟨-, h⟩
        · rw [hx] at e; exact absurd e (fun e => absurd (by rw [← e]; decide) (nn_m (k := q) (m := -1) (by decide) (by omega)))
        · rw [hx] at e; exact absurd e (by decide)
        · rw [hx] at e; exact absurd e (by decide)
        · exact h
      obtain ⟨b, a, u, hgk⟩ : ∃ b a u, (gst nm xs k) = b :: a :: u := by
        cases hz : (gst nm xs k) with
        | nil => rw [hz] at hl; simp at hl; omega
        | cons b l =>
          cases l with
          | nil => rw [hz] at hl; simp at hl; omega
          | cons a t => exact ⟨b, a, t, rfl⟩
      rw [hgk] at hg hl
      have hnext : gst nm xs (k + 1) = jn (-(-45)) a b :: u := by show g1 _ _ _ = _; rw [hx, hgk]; rfl
      rw [hgk]
      simp only [List.length_cons] at hl ⊢
      refine v_ild4 dX7_worksOut_21 ?_
      refine v_ild3 dX7_worksOut_23 ?_
      refine v_icmpN_ge (tgt := 155) dX7_worksOut_24 (by decide) (by omega) (by omega) (fun h24 => absurd h24 (by omega)) (fun h24 => ?_)
      refine v_ald0 dX7_worksOut_27 ?_
      refine v_getr dX7_worksOut_28 gX7_9 sh_92 rfl ?_
      refine v_bipushN (n := 127) dX7_worksOut_31 (by decide) ?_
      refine v_bipushN (n := 96) dX7_worksOut_33 (by decide) ?_
      refine v_ild1 dX7_worksOut_35 ?_
      refine v_imulN dX7_worksOut_36 ?_
      refine v_iaddN dX7_worksOut_37 ?_
      refine v_ild4 dX7_worksOut_38 ?_
      refine v_iaddN dX7_worksOut_40 ?_
      refine v_ialdN dX7_worksOut_41 sh_93 (by omega) (by decide) ?_
      refine v_eq ((congrFun hcd _).trans hy) ?_
      refine v_ist5 dX7_worksOut_42 (by decide) ?_
      refine v_ild5 dX7_worksOut_44 ?_
      refine v_if_lt (tgt := 85) dX7_worksOut_46 (by decide) (fun h46 => ?_) (fun h46 => absurd h46 (by decide))
      refine v_ild5 dX7_worksOut_85 ?_
      refine v_bipush dX7_worksOut_87 rfl ?_
      refine v_icmp_ne (tgt := 119) dX7_worksOut_89 (by decide) (fun h89 => ?_) (fun h89 => absurd h89 (by decide))
      refine v_iinc2 dX7_worksOut_119 (by decide) ?_
      refine v_lo (L' := [some (.inr 92), some (.inl (nI t)), some (.inl (nI (u.length + 1))), some (.inl (nI n)), some (.inl (nI k)), some (.inl (-7))]) (by rw [show nI (u.length + 1 + 1) + Int32.ofInt (-1) = nI (u.length + 1) from pk_m1 _]) ?_
      refine v_ald0 dX7_worksOut_122 ?_
      refine v_getr dX7_worksOut_123 gX7_42 sh_92 rfl ?_
      refine v_ild2 dX7_worksOut_126 ?_
      refine v_iconstN (n := 1) dX7_worksOut_127 ?_
      refine v_isubN dX7_worksOut_128 (by omega) ?_
      refine v_ild5 dX7_worksOut_129 ?_
      refine v_ald0 dX7_worksOut_131 ?_
      refine v_getr dX7_worksOut_132 gX7_42 sh_92 rfl ?_
      refine v_ild2 dX7_worksOut_135 ?_
      refine v_iconstN (n := 1) dX7_worksOut_136 ?_
      refine v_isubN dX7_worksOut_137 (by omega) ?_
      refine v_ialdN dX7_worksOut_138 sh_103 (by omega) (by decide) ?_
      refine v_eq (rp_top (rp_tail hg)) ?_
      refine v_ald0 dX7_worksOut_139 ?_
      refine v_getr dX7_worksOut_140 gX7_42 sh_92 rfl ?_
      refine v_ild2 dX7_worksOut_143 ?_
      refine v_ialdN dX7_worksOut_144 sh_103 (by omega) (by decide) ?_
      refine v_eq (rp_top hg) ?_
      refine v_callSi (kM_two_45 E (wa Mz 103 g)) dX7_worksOut_145 cX7_268 rfl (by decide) (Nat.le_of_ble_eq_true rfl) rfl (fun r M1z hq => ?_)
      obtain ⟨hr, hm⟩ := hq
      rw [hr, hm]
      clear hr hm
      refine v_iastN dX7_worksOut_148 sh_103 (by omega) (by decide) ?_
      refine v_iincN4 (n := 1) dX7_worksOut_149 (by decide) ?_
      refine v_goto (tgt := 21) dX7_worksOut_152 (by decide) ?_
      refine v_fg5 ?_
      exact v_lo (by rw [hnext]; simp) (ih _ ⟨upd g u.length (jn (-(-45)) a b), by rw [wr_wa]; rfl, by rw [hnext]; exact rp_push _ (rp_tail (rp_tail hg))⟩)
    · have hh : 2 ≤ htK xs k := by
        rcases hop with ⟨q, hq, e⟩ | e | ⟨e, -⟩ | ⟨-, h⟩
        · rw [hx] at e; exact absurd e (fun e => absurd (by rw [← e]; decide) (nn_m (k := q) (m := -1) (by decide) (by omega)))
        · rw [hx] at e; exact absurd e (by decide)
        · rw [hx] at e; exact absurd e (by decide)
        · exact h
      obtain ⟨b, a, u, hgk⟩ : ∃ b a u, (gst nm xs k) = b :: a :: u := by
        cases hz : (gst nm xs k) with
        | nil => rw [hz] at hl; simp at hl; omega
        | cons b l =>
          cases l with
          | nil => rw [hz] at hl; simp at hl; omega
          | cons a t => exact ⟨b, a, t, rfl⟩
      rw [hgk] at hg hl
      have hnext : gst nm xs (k + 1) = jn (-(-60)) a b :: u := by show g1 _ _ _ = _; rw [hx, hgk]; rfl
      rw [hgk]
      simp only [List.length_cons] at hl ⊢
      refine v_ild4 dX7_worksOut_21 ?_
      refine v_ild3 dX7_worksOut_23 ?_
      refine v_icmpN_ge (tgt := 155) dX7_worksOut_24 (by decide) (by omega) (by omega) (fun h24 => absurd h24 (by omega)) (fun h24 => ?_)
      refine v_ald0 dX7_worksOut_27 ?_
      refine v_getr dX7_worksOut_28 gX7_9 sh_92 rfl ?_
      refine v_bipushN (n := 127) dX7_worksOut_31 (by decide) ?_
      refine v_bipushN (n := 96) dX7_worksOut_33 (by decide) ?_
      refine v_ild1 dX7_worksOut_35 ?_
      refine v_imulN dX7_worksOut_36 ?_
      refine v_iaddN dX7_worksOut_37 ?_
      refine v_ild4 dX7_worksOut_38 ?_
      refine v_iaddN dX7_worksOut_40 ?_
      refine v_ialdN dX7_worksOut_41 sh_93 (by omega) (by decide) ?_
      refine v_eq ((congrFun hcd _).trans hy) ?_
      refine v_ist5 dX7_worksOut_42 (by decide) ?_
      refine v_ild5 dX7_worksOut_44 ?_
      refine v_if_lt (tgt := 85) dX7_worksOut_46 (by decide) (fun h46 => ?_) (fun h46 => absurd h46 (by decide))
      refine v_ild5 dX7_worksOut_85 ?_
      refine v_bipush dX7_worksOut_87 rfl ?_
      refine v_icmp_ne (tgt := 119) dX7_worksOut_89 (by decide) (fun h89 => ?_) (fun h89 => absurd h89 (by decide))
      refine v_iinc2 dX7_worksOut_119 (by decide) ?_
      refine v_lo (L' := [some (.inr 92), some (.inl (nI t)), some (.inl (nI (u.length + 1))), some (.inl (nI n)), some (.inl (nI k)), some (.inl (-3))]) (by rw [show nI (u.length + 1 + 1) + Int32.ofInt (-1) = nI (u.length + 1) from pk_m1 _]) ?_
      refine v_ald0 dX7_worksOut_122 ?_
      refine v_getr dX7_worksOut_123 gX7_42 sh_92 rfl ?_
      refine v_ild2 dX7_worksOut_126 ?_
      refine v_iconstN (n := 1) dX7_worksOut_127 ?_
      refine v_isubN dX7_worksOut_128 (by omega) ?_
      refine v_ild5 dX7_worksOut_129 ?_
      refine v_ald0 dX7_worksOut_131 ?_
      refine v_getr dX7_worksOut_132 gX7_42 sh_92 rfl ?_
      refine v_ild2 dX7_worksOut_135 ?_
      refine v_iconstN (n := 1) dX7_worksOut_136 ?_
      refine v_isubN dX7_worksOut_137 (by omega) ?_
      refine v_ialdN dX7_worksOut_138 sh_103 (by omega) (by decide) ?_
      refine v_eq (rp_top (rp_tail hg)) ?_
      refine v_ald0 dX7_worksOut_139 ?_
      refine v_getr dX7_worksOut_140 gX7_42 sh_92 rfl ?_
      refine v_ild2 dX7_worksOut_143 ?_
      refine v_ialdN dX7_worksOut_144 sh_103 (by omega) (by decide) ?_
      refine v_eq (rp_top hg) ?_
      refine v_callSi (kM_two_60 E (wa Mz 103 g)) dX7_worksOut_145 cX7_268 rfl (by decide) (Nat.le_of_ble_eq_true rfl) rfl (fun r M1z hq => ?_)
      obtain ⟨hr, hm⟩ := hq
      rw [hr, hm]
      clear hr hm
      refine v_iastN dX7_worksOut_148 sh_103 (by omega) (by decide) ?_
      refine v_iincN4 (n := 1) dX7_worksOut_149 (by decide) ?_
      refine v_goto (tgt := 21) dX7_worksOut_152 (by decide) ?_
      refine v_fg5 ?_
      exact v_lo (by rw [hnext]; simp) (ih _ ⟨upd g u.length (jn (-(-60)) a b), by rw [wr_wa]; rfl, by rw [hnext]; exact rp_push _ (rp_tail (rp_tail hg))⟩)
    · have hh : 2 ≤ htK xs k := by
        rcases hop with ⟨q, hq, e⟩ | e | ⟨e, -⟩ | ⟨-, h⟩
        · rw [hx] at e; exact absurd e (fun e => absurd (by rw [← e]; decide) (nn_m (k := q) (m := -1) (by decide) (by omega)))
        · rw [hx] at e; exact absurd e (by decide)
        · rw [hx] at e; exact absurd e (by decide)
        · exact h
      obtain ⟨b, a, u, hgk⟩ : ∃ b a u, (gst nm xs k) = b :: a :: u := by
        cases hz : (gst nm xs k) with
        | nil => rw [hz] at hl; simp at hl; omega
        | cons b l =>
          cases l with
          | nil => rw [hz] at hl; simp at hl; omega
          | cons a t => exact ⟨b, a, t, rfl⟩
      rw [hgk] at hg hl
      have hnext : gst nm xs (k + 1) = jn (-(-61)) a b :: u := by show g1 _ _ _ = _; rw [hx, hgk]; rfl
      rw [hgk]
      simp only [List.length_cons] at hl ⊢
      refine v_ild4 dX7_worksOut_21 ?_
      refine v_ild3 dX7_worksOut_23 ?_
      refine v_icmpN_ge (tgt := 155) dX7_worksOut_24 (by decide) (by omega) (by omega) (fun h24 => absurd h24 (by omega)) (fun h24 => ?_)
      refine v_ald0 dX7_worksOut_27 ?_
      refine v_getr dX7_worksOut_28 gX7_9 sh_92 rfl ?_
      refine v_bipushN (n := 127) dX7_worksOut_31 (by decide) ?_
      refine v_bipushN (n := 96) dX7_worksOut_33 (by decide) ?_
      refine v_ild1 dX7_worksOut_35 ?_
      refine v_imulN dX7_worksOut_36 ?_
      refine v_iaddN dX7_worksOut_37 ?_
      refine v_ild4 dX7_worksOut_38 ?_
      refine v_iaddN dX7_worksOut_40 ?_
      refine v_ialdN dX7_worksOut_41 sh_93 (by omega) (by decide) ?_
      refine v_eq ((congrFun hcd _).trans hy) ?_
      refine v_ist5 dX7_worksOut_42 (by decide) ?_
      refine v_ild5 dX7_worksOut_44 ?_
      refine v_if_lt (tgt := 85) dX7_worksOut_46 (by decide) (fun h46 => ?_) (fun h46 => absurd h46 (by decide))
      refine v_ild5 dX7_worksOut_85 ?_
      refine v_bipush dX7_worksOut_87 rfl ?_
      refine v_icmp_ne (tgt := 119) dX7_worksOut_89 (by decide) (fun h89 => ?_) (fun h89 => absurd h89 (by decide))
      refine v_iinc2 dX7_worksOut_119 (by decide) ?_
      refine v_lo (L' := [some (.inr 92), some (.inl (nI t)), some (.inl (nI (u.length + 1))), some (.inl (nI n)), some (.inl (nI k)), some (.inl (-4))]) (by rw [show nI (u.length + 1 + 1) + Int32.ofInt (-1) = nI (u.length + 1) from pk_m1 _]) ?_
      refine v_ald0 dX7_worksOut_122 ?_
      refine v_getr dX7_worksOut_123 gX7_42 sh_92 rfl ?_
      refine v_ild2 dX7_worksOut_126 ?_
      refine v_iconstN (n := 1) dX7_worksOut_127 ?_
      refine v_isubN dX7_worksOut_128 (by omega) ?_
      refine v_ild5 dX7_worksOut_129 ?_
      refine v_ald0 dX7_worksOut_131 ?_
      refine v_getr dX7_worksOut_132 gX7_42 sh_92 rfl ?_
      refine v_ild2 dX7_worksOut_135 ?_
      refine v_iconstN (n := 1) dX7_worksOut_136 ?_
      refine v_isubN dX7_worksOut_137 (by omega) ?_
      refine v_ialdN dX7_worksOut_138 sh_103 (by omega) (by decide) ?_
      refine v_eq (rp_top (rp_tail hg)) ?_
      refine v_ald0 dX7_worksOut_139 ?_
      refine v_getr dX7_worksOut_140 gX7_42 sh_92 rfl ?_
      refine v_ild2 dX7_worksOut_143 ?_
      refine v_ialdN dX7_worksOut_144 sh_103 (by omega) (by decide) ?_
      refine v_eq (rp_top hg) ?_
      refine v_callSi (kM_two_61 E (wa Mz 103 g)) dX7_worksOut_145 cX7_268 rfl (by decide) (Nat.le_of_ble_eq_true rfl) rfl (fun r M1z hq => ?_)
      obtain ⟨hr, hm⟩ := hq
      rw [hr, hm]
      clear hr hm
      refine v_iastN dX7_worksOut_148 sh_103 (by omega) (by decide) ?_
      refine v_iincN4 (n := 1) dX7_worksOut_149 (by decide) ?_
      refine v_goto (tgt := 21) dX7_worksOut_152 (by decide) ?_
      refine v_fg5 ?_
      exact v_lo (by rw [hnext]; simp) (ih _ ⟨upd g u.length (jn (-(-61)) a b), by rw [wr_wa]; rfl, by rw [hnext]; exact rp_push _ (rp_tail (rp_tail hg))⟩)
    · have hh : 2 ≤ htK xs k := by
        rcases hop with ⟨q, hq, e⟩ | e | ⟨e, -⟩ | ⟨-, h⟩
        · rw [hx] at e; exact absurd e (fun e => absurd (by rw [← e]; decide) (nn_m (k := q) (m := -1) (by decide) (by omega)))
        · rw [hx] at e; exact absurd e (by decide)
        · rw [hx] at e; exact absurd e (by decide)
        · exact h
      obtain ⟨b, a, u, hgk⟩ : ∃ b a u, (gst nm xs k) = b :: a :: u := by
        cases hz : (gst nm xs k) with
        | nil => rw [hz] at hl; simp at hl; omega
        | cons b l =>
          cases l with
          | nil => rw [hz] at hl; simp at hl; omega
          | cons a t => exact ⟨b, a, t, rfl⟩
      rw [hgk] at hg hl
      have hnext : gst nm xs (k + 1) = jn (-(-62)) a b :: u := by show g1 _ _ _ = _; rw [hx, hgk]; rfl
      rw [hgk]
      simp only [List.length_cons] at hl ⊢
      refine v_ild4 dX7_worksOut_21 ?_
      refine v_ild3 dX7_worksOut_23 ?_
      refine v_icmpN_ge (tgt := 155) dX7_worksOut_24 (by decide) (by omega) (by omega) (fun h24 => absurd h24 (by omega)) (fun h24 => ?_)
      refine v_ald0 dX7_worksOut_27 ?_
      refine v_getr dX7_worksOut_28 gX7_9 sh_92 rfl ?_
      refine v_bipushN (n := 127) dX7_worksOut_31 (by decide) ?_
      refine v_bipushN (n := 96) dX7_worksOut_33 (by decide) ?_
      refine v_ild1 dX7_worksOut_35 ?_
      refine v_imulN dX7_worksOut_36 ?_
      refine v_iaddN dX7_worksOut_37 ?_
      refine v_ild4 dX7_worksOut_38 ?_
      refine v_iaddN dX7_worksOut_40 ?_
      refine v_ialdN dX7_worksOut_41 sh_93 (by omega) (by decide) ?_
      refine v_eq ((congrFun hcd _).trans hy) ?_
      refine v_ist5 dX7_worksOut_42 (by decide) ?_
      refine v_ild5 dX7_worksOut_44 ?_
      refine v_if_lt (tgt := 85) dX7_worksOut_46 (by decide) (fun h46 => ?_) (fun h46 => absurd h46 (by decide))
      refine v_ild5 dX7_worksOut_85 ?_
      refine v_bipush dX7_worksOut_87 rfl ?_
      refine v_icmp_ne (tgt := 119) dX7_worksOut_89 (by decide) (fun h89 => ?_) (fun h89 => absurd h89 (by decide))
      refine v_iinc2 dX7_worksOut_119 (by decide) ?_
      refine v_lo (L' := [some (.inr 92), some (.inl (nI t)), some (.inl (nI (u.length + 1))), some (.inl (nI n)), some (.inl (nI k)), some (.inl (-5))]) (by rw [show nI (u.length + 1 + 1) + Int32.ofInt (-1) = nI (u.length + 1) from pk_m1 _]) ?_
      refine v_ald0 dX7_worksOut_122 ?_
      refine v_getr dX7_worksOut_123 gX7_42 sh_92 rfl ?_
      refine v_ild2 dX7_worksOut_126 ?_
      refine v_iconstN (n := 1) dX7_worksOut_127 ?_
      refine v_isubN dX7_worksOut_128 (by omega) ?_
      refine v_ild5 dX7_worksOut_129 ?_
      refine v_ald0 dX7_worksOut_131 ?_
      refine v_getr dX7_worksOut_132 gX7_42 sh_92 rfl ?_
      refine v_ild2 dX7_worksOut_135 ?_
      refine v_iconstN (n := 1) dX7_worksOut_136 ?_
      refine v_isubN dX7_worksOut_137 (by omega) ?_
      refine v_ialdN dX7_worksOut_138 sh_103 (by omega) (by decide) ?_
      refine v_eq (rp_top (rp_tail hg)) ?_
      refine v_ald0 dX7_worksOut_139 ?_
      refine v_getr dX7_worksOut_140 gX7_42 sh_92 rfl ?_
      refine v_ild2 dX7_worksOut_143 ?_
      refine v_ialdN dX7_worksOut_144 sh_103 (by omega) (by decide) ?_
      refine v_eq (rp_top hg) ?_
      refine v_callSi (kM_two_62 E (wa Mz 103 g)) dX7_worksOut_145 cX7_268 rfl (by decide) (Nat.le_of_ble_eq_true rfl) rfl (fun r M1z hq => ?_)
      obtain ⟨hr, hm⟩ := hq
      rw [hr, hm]
      clear hr hm
      refine v_iastN dX7_worksOut_148 sh_103 (by omega) (by decide) ?_
      refine v_iincN4 (n := 1) dX7_worksOut_149 (by decide) ?_
      refine v_goto (tgt := 21) dX7_worksOut_152 (by decide) ?_
      refine v_fg5 ?_
      exact v_lo (by rw [hnext]; simp) (ih _ ⟨upd g u.length (jn (-(-62)) a b), by rw [wr_wa]; rfl, by rw [hnext]; exact rp_push _ (rp_tail (rp_tail hg))⟩)
    · have hh : 2 ≤ htK xs k := by
        rcases hop with ⟨q, hq, e⟩ | e | ⟨e, -⟩ | ⟨-, h⟩
        · rw [hx] at e; exact absurd e (fun e => absurd (by rw [← e]; decide) (nn_m (k := q) (m := -1) (by decide) (by omega)))
        · rw [hx] at e; exact absurd e (by decide)
        · rw [hx] at e; exact absurd e (by decide)
        · exact h
      obtain ⟨b, a, u, hgk⟩ : ∃ b a u, (gst nm xs k) = b :: a :: u := by
        cases hz : (gst nm xs k) with
        | nil => rw [hz] at hl; simp at hl; omega
        | cons b l =>
          cases l with
          | nil => rw [hz] at hl; simp at hl; omega
          | cons a t => exact ⟨b, a, t, rfl⟩
      rw [hgk] at hg hl
      have hnext : gst nm xs (k + 1) = jn (-(-38)) a b :: u := by show g1 _ _ _ = _; rw [hx, hgk]; rfl
      rw [hgk]
      simp only [List.length_cons] at hl ⊢
      refine v_ild4 dX7_worksOut_21 ?_
      refine v_ild3 dX7_worksOut_23 ?_
      refine v_icmpN_ge (tgt := 155) dX7_worksOut_24 (by decide) (by omega) (by omega) (fun h24 => absurd h24 (by omega)) (fun h24 => ?_)
      refine v_ald0 dX7_worksOut_27 ?_
      refine v_getr dX7_worksOut_28 gX7_9 sh_92 rfl ?_
      refine v_bipushN (n := 127) dX7_worksOut_31 (by decide) ?_
      refine v_bipushN (n := 96) dX7_worksOut_33 (by decide) ?_
      refine v_ild1 dX7_worksOut_35 ?_
      refine v_imulN dX7_worksOut_36 ?_
      refine v_iaddN dX7_worksOut_37 ?_
      refine v_ild4 dX7_worksOut_38 ?_
      refine v_iaddN dX7_worksOut_40 ?_
      refine v_ialdN dX7_worksOut_41 sh_93 (by omega) (by decide) ?_
      refine v_eq ((congrFun hcd _).trans hy) ?_
      refine v_ist5 dX7_worksOut_42 (by decide) ?_
      refine v_ild5 dX7_worksOut_44 ?_
      refine v_if_lt (tgt := 85) dX7_worksOut_46 (by decide) (fun h46 => ?_) (fun h46 => absurd h46 (by decide))
      refine v_ild5 dX7_worksOut_85 ?_
      refine v_bipush dX7_worksOut_87 rfl ?_
      refine v_icmp_ne (tgt := 119) dX7_worksOut_89 (by decide) (fun h89 => ?_) (fun h89 => absurd h89 (by decide))
      refine v_iinc2 dX7_worksOut_119 (by decide) ?_
      refine v_lo (L' := [some (.inr 92), some (.inl (nI t)), some (.inl (nI (u.length + 1))), some (.inl (nI n)), some (.inl (nI k)), some (.inl (-2))]) (by rw [show nI (u.length + 1 + 1) + Int32.ofInt (-1) = nI (u.length + 1) from pk_m1 _]) ?_
      refine v_ald0 dX7_worksOut_122 ?_
      refine v_getr dX7_worksOut_123 gX7_42 sh_92 rfl ?_
      refine v_ild2 dX7_worksOut_126 ?_
      refine v_iconstN (n := 1) dX7_worksOut_127 ?_
      refine v_isubN dX7_worksOut_128 (by omega) ?_
      refine v_ild5 dX7_worksOut_129 ?_
      refine v_ald0 dX7_worksOut_131 ?_
      refine v_getr dX7_worksOut_132 gX7_42 sh_92 rfl ?_
      refine v_ild2 dX7_worksOut_135 ?_
      refine v_iconstN (n := 1) dX7_worksOut_136 ?_
      refine v_isubN dX7_worksOut_137 (by omega) ?_
      refine v_ialdN dX7_worksOut_138 sh_103 (by omega) (by decide) ?_
      refine v_eq (rp_top (rp_tail hg)) ?_
      refine v_ald0 dX7_worksOut_139 ?_
      refine v_getr dX7_worksOut_140 gX7_42 sh_92 rfl ?_
      refine v_ild2 dX7_worksOut_143 ?_
      refine v_ialdN dX7_worksOut_144 sh_103 (by omega) (by decide) ?_
      refine v_eq (rp_top hg) ?_
      refine v_callSi (kM_two_38 E (wa Mz 103 g)) dX7_worksOut_145 cX7_268 rfl (by decide) (Nat.le_of_ble_eq_true rfl) rfl (fun r M1z hq => ?_)
      obtain ⟨hr, hm⟩ := hq
      rw [hr, hm]
      clear hr hm
      refine v_iastN dX7_worksOut_148 sh_103 (by omega) (by decide) ?_
      refine v_iincN4 (n := 1) dX7_worksOut_149 (by decide) ?_
      refine v_goto (tgt := 21) dX7_worksOut_152 (by decide) ?_
      refine v_fg5 ?_
      exact v_lo (by rw [hnext]; simp) (ih _ ⟨upd g u.length (jn (-(-38)) a b), by rw [wr_wa]; rfl, by rw [hnext]; exact rp_push _ (rp_tail (rp_tail hg))⟩)
    · have hh : 2 ≤ htK xs k := by
        rcases hop with ⟨q, hq, e⟩ | e | ⟨e, -⟩ | ⟨-, h⟩
        · rw [hx] at e; exact absurd e (fun e => absurd (by rw [← e]; decide) (nn_m (k := q) (m := -1) (by decide) (by omega)))
        · rw [hx] at e; exact absurd e (by decide)
        · rw [hx] at e; exact absurd e (by decide)
        · exact h
      obtain ⟨b, a, u, hgk⟩ : ∃ b a u, (gst nm xs k) = b :: a :: u := by
        cases hz : (gst nm xs k) with
        | nil => rw [hz] at hl; simp at hl; omega
        | cons b l =>
          cases l with
          | nil => rw [hz] at hl; simp at hl; omega
          | cons a t => exact ⟨b, a, t, rfl⟩
      rw [hgk] at hg hl
      have hnext : gst nm xs (k + 1) = jn (-(-124)) a b :: u := by show g1 _ _ _ = _; rw [hx, hgk]; rfl
      rw [hgk]
      simp only [List.length_cons] at hl ⊢
      refine v_ild4 dX7_worksOut_21 ?_
      refine v_ild3 dX7_worksOut_23 ?_
      refine v_icmpN_ge (tgt := 155) dX7_worksOut_24 (by decide) (by omega) (by omega) (fun h24 => absurd h24 (by omega)) (fun h24 => ?_)
      refine v_ald0 dX7_worksOut_27 ?_
      refine v_getr dX7_worksOut_28 gX7_9 sh_92 rfl ?_
      refine v_bipushN (n := 127) dX7_worksOut_31 (by decide) ?_
      refine v_bipushN (n := 96) dX7_worksOut_33 (by decide) ?_
      refine v_ild1 dX7_worksOut_35 ?_
      refine v_imulN dX7_worksOut_36 ?_
      refine v_iaddN dX7_worksOut_37 ?_
      refine v_ild4 dX7_worksOut_38 ?_
      refine v_iaddN dX7_worksOut_40 ?_
      refine v_ialdN dX7_worksOut_41 sh_93 (by omega) (by decide) ?_
      refine v_eq ((congrFun hcd _).trans hy) ?_
      refine v_ist5 dX7_worksOut_42 (by decide) ?_
      refine v_ild5 dX7_worksOut_44 ?_
      refine v_if_lt (tgt := 85) dX7_worksOut_46 (by decide) (fun h46 => ?_) (fun h46 => absurd h46 (by decide))
      refine v_ild5 dX7_worksOut_85 ?_
      refine v_bipush dX7_worksOut_87 rfl ?_
      refine v_icmp_ne (tgt := 119) dX7_worksOut_89 (by decide) (fun h89 => ?_) (fun h89 => absurd h89 (by decide))
      refine v_iinc2 dX7_worksOut_119 (by decide) ?_
      refine v_lo (L' := [some (.inr 92), some (.inl (nI t)), some (.inl (nI (u.length + 1))), some (.inl (nI n)), some (.inl (nI k)), some (.inl (-1))]) (by rw [show nI (u.length + 1 + 1) + Int32.ofInt (-1) = nI (u.length + 1) from pk_m1 _]) ?_
      refine v_ald0 dX7_worksOut_122 ?_
      refine v_getr dX7_worksOut_123 gX7_42 sh_92 rfl ?_
      refine v_ild2 dX7_worksOut_126 ?_
      refine v_iconstN (n := 1) dX7_worksOut_127 ?_
      refine v_isubN dX7_worksOut_128 (by omega) ?_
      refine v_ild5 dX7_worksOut_129 ?_
      refine v_ald0 dX7_worksOut_131 ?_
      refine v_getr dX7_worksOut_132 gX7_42 sh_92 rfl ?_
      refine v_ild2 dX7_worksOut_135 ?_
      refine v_iconstN (n := 1) dX7_worksOut_136 ?_
      refine v_isubN dX7_worksOut_137 (by omega) ?_
      refine v_ialdN dX7_worksOut_138 sh_103 (by omega) (by decide) ?_
      refine v_eq (rp_top (rp_tail hg)) ?_
      refine v_ald0 dX7_worksOut_139 ?_
      refine v_getr dX7_worksOut_140 gX7_42 sh_92 rfl ?_
      refine v_ild2 dX7_worksOut_143 ?_
      refine v_ialdN dX7_worksOut_144 sh_103 (by omega) (by decide) ?_
      refine v_eq (rp_top hg) ?_
      refine v_callSi (kM_two_124 E (wa Mz 103 g)) dX7_worksOut_145 cX7_268 rfl (by decide) (Nat.le_of_ble_eq_true rfl) rfl (fun r M1z hq => ?_)
      obtain ⟨hr, hm⟩ := hq
      rw [hr, hm]
      clear hr hm
      refine v_iastN dX7_worksOut_148 sh_103 (by omega) (by decide) ?_
      refine v_iincN4 (n := 1) dX7_worksOut_149 (by decide) ?_
      refine v_goto (tgt := 21) dX7_worksOut_152 (by decide) ?_
      refine v_fg5 ?_
      exact v_lo (by rw [hnext]; simp) (ih _ ⟨upd g u.length (jn (-(-124)) a b), by rw [wr_wa]; rfl, by rw [hnext]; exact rp_push _ (rp_tail (rp_tail hg))⟩)
  · obtain ⟨g, rfl, hg⟩ := hM
    have hl := gst_len nm xs hw n (Nat.le_refl _)
    have hn96 := hw.2.1
    have hh1 := hw.2.2.1
    have hne : gst nm xs n ≠ [] := by intro e; rw [e] at hl; simp at hl; omega
    refine v_ild4 dX7_worksOut_21 ?_
    refine v_ild3 dX7_worksOut_23 ?_
    refine v_icmpN_ge (tgt := 155) dX7_worksOut_24 (by decide) (by omega) (by omega) (fun h24 => ?_) (fun h24 => absurd h24 (by omega))
    refine v_ald0 dX7_worksOut_155 ?_
    refine v_getr dX7_worksOut_156 gX7_42 sh_92 rfl ?_
    refine v_iconstN (n := 0) dX7_worksOut_159 ?_
    refine v_ialdN dX7_worksOut_160 sh_103 (by omega) (by decide) ?_
    exact v_iret dX7_worksOut_161 rfl (⟨rp_bot hg hne, g, rfl⟩)
theorem add_m1 (x : Int32) : x + Int32.ofInt (-1) = x - nI 1 := by rw [Int32.sub_eq_add_neg]; rfl
def lastK (ks : Nat → Nat) (key : Nat) : Nat → Int32
  | 0 => -1
  | t + 1 => if ks t = key then nI t else lastK ks key t
set_option maxRecDepth 100000 in
set_option maxHeartbeats 4000000 in
theorem kM_counts_l (E : ev) (Mz : mm) {T key : Nat} {ks : Nat → Nat} (hT14 : T ≤ 14) (hkey : key < 3) (hks : ∀ t, t < T → ks t < 3 ∧ ∃ n : Nat, n < 1000 ∧ Mz 93 (99 + 2 * t) = nI (1000 * ks t + n)) : ∀ r : Nat, r ≤ T → lastK ks key T = lastK ks key r → V E 0 yX7_counts cX7_counts 3 (some .int) (qI E (fun x M' => x = lastK ks key T ∧ M' = Mz)) 10 [some (.inr 92), some (.inl (nI key)), some (.inl (nI r - nI 1))] [] Mz
  | 0, _, he => by
    refine v_ild2 dX7_counts_10 ?_
    refine v_if_lt (tgt := 41) dX7_counts_11 (by decide) (fun h11 => ?_) (fun h11 => absurd h11 (by decide))
    refine v_iconst dX7_counts_41 rfl ?_
    exact v_iret dX7_counts_42 rfl (⟨he.symm, rfl⟩)
  | r + 1, hr, he => by
    obtain ⟨h3, n, hn, hkn⟩ := hks r (by omega)
    refine v_lo (L' := [some (.inr 92), some (.inl (nI key)), some (.inl (nI r))]) (by rw [pk_sub (by omega)]; rfl) ?_
    refine v_ild2 dX7_counts_10 ?_
    refine v_if_lt (tgt := 41) dX7_counts_11 (by decide) (fun h11 => absurd h11 (nI_pos (by omega))) (fun h11 => ?_)
    refine v_ald0 dX7_counts_14 ?_
    refine v_getr dX7_counts_15 gX7_9 sh_92 rfl ?_
    refine v_bipushN (n := 99) dX7_counts_18 (by decide) ?_
    refine v_iconstN (n := 2) dX7_counts_20 ?_
    refine v_ild2 dX7_counts_21 ?_
    refine v_imulN dX7_counts_22 ?_
    refine v_iaddN dX7_counts_23 ?_
    refine v_ialdN dX7_counts_24 sh_93 (by omega) (by decide) ?_
    refine v_eq (hkn) ?_
    refine v_sipushN (n := 1000) dX7_counts_25 (by decide +kernel) ?_
    refine v_idivN dX7_counts_28 (by omega) (by omega) (by omega) ?_
    refine v_eq (show nI ((1000 * ks r + n) / 1000) = nI (ks r) from by congr 1; omega) ?_
    refine v_ild1 dX7_counts_29 ?_
    refine v_icmpN_ne (tgt := 35) dX7_counts_30 (by decide) (by omega) (by omega) (fun h30 => ?_) (fun h30 => ?_)
    · refine v_iinc2 dX7_counts_35 (by decide) ?_
      refine v_goto (tgt := 10) dX7_counts_38 (by decide) ?_
      exact v_lo (by rw [add_m1]) (kM_counts_l E Mz hT14 hkey hks r (by omega) (by rw [he]; exact if_neg h30))
    · refine v_ild2 dX7_counts_33 ?_
      exact v_iret dX7_counts_34 rfl (⟨by rw [he]; exact (if_pos h30).symm, rfl⟩)
set_option maxRecDepth 100000 in
set_option maxHeartbeats 4000000 in
theorem kM_counts (E : ev) (Mz : mm) {T key : Nat} {ks : Nat → Nat} (hT : Mz 93 6 = nI T) (hT14 : T ≤ 14) (hkey : key < 3) (hks : ∀ t, t < T → ks t < 3 ∧ ∃ n : Nat, n < 1000 ∧ Mz 93 (99 + 2 * t) = nI (1000 * ks t + n)) : Ct E 0 yX7_counts cX7_counts 3 (some .int) [.inr 92, .inl (nI key)] Mz (qI E (fun r M' => r = lastK ks key T ∧ M' = Mz)) := by
  refine ct_of (by decide) (Nat.le_of_ble_eq_true rfl) ?_
  show V E 0 _ _ _ _ _ 0 [some (.inr 92), some (.inl (nI key)), none] [] Mz
  refine v_ald0 dX7_counts_0 ?_
  refine v_getr dX7_counts_1 gX7_9 sh_92 rfl ?_
  refine v_bipushN (n := 6) dX7_counts_4 (by decide) ?_
  refine v_ialdN dX7_counts_6 sh_93 (by omega) (by decide) ?_
  refine v_eq (hT) ?_
  refine v_iconstN (n := 1) dX7_counts_7 ?_
  refine v_isub dX7_counts_8 ?_
  refine v_ist2 dX7_counts_9 (by decide) ?_
  exact kM_counts_l E Mz hT14 hkey hks T (Nat.le_refl _) rfl
