/-! text and feed, as the reference does them -/
set_option maxRecDepth 100000 in
set_option maxHeartbeats 4000000 in
theorem kM_takesE (E : ev) (Mz : mm) {tp : Nat → Nat} {n key k : Nat} {we : Int32} (hkey : key < 3) (hT : TpM Mz tp n) (hk : k ≤ n) (hk1 : 0 < k) (hk0 : Mz 92 12 = nI key) (hS : ScN Mz tp (nxt tp n k we)) : Ct E 3 yX7_takesE cX7_takesE 5 (some .boolean) [.inr 92] Mz (qI E (fun r M' => PostM Mz key (PL tp n key 96 k we (true, [], [], 0)) r M')) := by
  refine ct_of (by decide) (Nat.le_of_ble_eq_true rfl) ?_
  show V E 3 _ _ _ _ _ 0 [some (.inr 92), none, none, none, none] [] Mz
  have hn96 := hT.2.1
  refine v_iconstN (n := 0) dX7_takesE_0 ?_
  refine v_ist1 dX7_takesE_1 (by decide) ?_
  refine v_iconstN (n := 0) dX7_takesE_2 ?_
  refine v_ist2 dX7_takesE_3 (by decide) ?_
  refine v_iconstN (n := 1) dX7_takesE_4 ?_
  refine v_ist3 dX7_takesE_5 (by decide) ?_
  refine v_ald0 dX7_takesE_6 ?_
  refine v_iconstN (n := 0) dX7_takesE_7 ?_
  refine v_puti dX7_takesE_8 pX7_240 sh_92 rfl rfl rfl ?_
  refine v_ald0 dX7_takesE_11 ?_
  refine v_iconstN (n := 0) dX7_takesE_12 ?_
  refine v_puti dX7_takesE_13 pX7_246 sh_92 rfl rfl rfl ?_
  refine v_ald0 dX7_takesE_16 ?_
  refine v_iconstN (n := 0) dX7_takesE_17 ?_
  refine v_puti dX7_takesE_18 pX7_234 sh_92 rfl rfl rfl ?_
  refine v_ald0 dX7_takesE_21 ?_
  refine v_getr dX7_takesE_22 gX7_38 sh_92 rfl ?_
  refine v_iconstN (n := 0) dX7_takesE_25 ?_
  refine v_iconstN (n := 0) dX7_takesE_26 ?_
  refine v_zastN dX7_takesE_27 sh_102 (by omega) (by decide) ?_
  exact kM_loop E Mz hkey 96 k we (true, [], [], 0) (wr (wr (wr (wr Mz 92 16 (nI 0)) 92 17 (nI 0)) 92 19 (nI 0)) 102 0 (vp_nar .boolean (nI 0))) (by omega) hk (PI_0 _ _) (TpM_o (((((FrU.refl Mz).w92 (by decide)).w92 (by decide)).w92 (by decide)).tp hT)) (by rw [wr_ne (by decide), wr_at, pk_un (by decide), wr_at, pk_un (by decide), wr_at, pk_un (by decide)]; exact hk0) ⟨by rw [wr_ne (by decide), wr_at, pk_us]; rfl, rp_nil _, by rw [wr_ne (by decide), wr_at, pk_un (by decide), wr_at, pk_us], by rw [wr_ne (by decide), wr_at, pk_un (by decide), wr_at, pk_un (by decide), wr_at, pk_us]; rfl, fun i hi => absurd hi (Nat.not_lt_zero _)⟩ (fun j hj => by have hj0 : j = 0 := Nat.le_zero.mp hj; subst hj0; rw [wr_at, pk_us, show nI 0 = b2 false from rfl, znar]; rfl) (ScN_o (((((FrU.refl Mz).w92 (by decide)).w92 (by decide)).w92 (by decide)).sc hS)) ((((((FrU.refl Mz).w92 (by decide)).w92 (by decide)).w92 (by decide)).r).wo (by decide))
theorem ofK_ln {i : Nat} (hi : i < 3) : ofK (i + 1) - ofK i = lnS i ∧ ofK i + lnS i ≤ 11 ∧ 0 < lnS i ∧ lnS i ≤ 4 ∧ ofK i ≤ ofK (i + 1) ∧ ofK (i + 1) ≤ 11 := by
  rcases (show i = 0 ∨ i = 1 ∨ i = 2 by omega) with rfl | rfl | rfl <;> decide
theorem keyT_at {tp : Nat → Nat} {t : tok} (h1 : t.1 = 1) {i : Nat} (hi : i < 3) (hp : ∀ j, j < i → wmB tp t.2.1 t.2.2.1 j = false) (h : wmB tp t.2.1 t.2.2.1 i = true) : keyT tp t = i := by
  unfold keyT
  rw [if_pos h1]
  rcases (show i = 0 ∨ i = 1 ∨ i = 2 by omega) with rfl | rfl | rfl
  · rw [if_pos h]
  · rw [if_neg (by rw [hp 0 (by decide)]; decide), if_pos h]
  · rw [if_neg (by rw [hp 0 (by decide)]; decide), if_neg (by rw [hp 1 (by decide)]; decide), if_pos h]
theorem keyT_no {tp : Nat → Nat} {t : tok} (hp : ∀ j, j < 3 → wmB tp t.2.1 t.2.2.1 j = false) : keyT tp t = 3 := by
  unfold keyT
  by_cases h1 : t.1 = 1
  · rw [if_pos h1, if_neg (by rw [hp 0 (by decide)]; decide), if_neg (by rw [hp 1 (by decide)]; decide), if_neg (by rw [hp 2 (by decide)]; decide)]
  · rw [if_neg h1]
def QKey (tp : Nat → Nat) (n : Nat) (t : tok) (A : mm) (r : Int32) (M : mm) : Prop := if keyT tp t = 3 then r = nI 0 ∧ M = A else r = nI 1 ∧ NxM (wr A 92 12 (nI (keyT tp t))) M ∧ ScN M tp (nxt tp n t.2.2.1 t.2.2.2)
set_option maxRecDepth 100000 in
set_option maxHeartbeats 4000000 in
theorem kM_key0 (E : ev) (Mz : mm) {tp : Nat → Nat} {n : Nat} {t : tok} (hS : ScN Mz tp t) (h1 : t.1 ≠ 1) (h4 : t.1 ≤ 4) : Ct E 2 yX7_takesKey cX7_takesKey 5 (some .boolean) [.inr 92] Mz (qI E (fun r M' => QKey tp n t Mz r M')) := by
  refine ct_of (by decide) (Nat.le_of_ble_eq_true rfl) ?_
  show V E 2 _ _ _ _ _ 0 [some (.inr 92), none, none, none, none] [] Mz
  have htk4 : tkN t ≤ 4 := by unfold tkN; split <;> omega
  have hn1 : tkN t ≠ 1 := by unfold tkN; split <;> omega
  unfold QKey
  rw [show keyT tp t = 3 from by unfold keyT; rw [if_neg h1]]
  refine v_ald0 dX7_takesKey_0 ?_
  refine v_geti dX7_takesKey_1 gX7_216 sh_92 rfl ?_
  refine v_eq (hS.1) ?_
  refine v_iconstN (n := 1) dX7_takesKey_4 ?_
  refine v_icmpN_eq (tgt := 10) dX7_takesKey_5 (by decide) (by omega) (by omega) (fun h5 => absurd h5 (hn1)) (fun h5 => ?_)
  refine v_iconstN (n := 0) dX7_takesKey_8 ?_
  exact v_zret dX7_takesKey_9 rfl (by decide +kernel) (⟨rfl, rfl⟩)
set_option maxRecDepth 100000 in
set_option maxHeartbeats 4000000 in
theorem kM_tk_l (E : ev) (Mz : mm) {tp : Nat → Nat} {n : Nat} {t : tok} (hT : TpM Mz tp n) (hS : ScN Mz tp t) (hse : t.2.1 ≤ t.2.2.1) (hen : t.2.2.1 ≤ n) (hKy : KyM Mz) (h1 : t.1 = 1) : ∀ r : Nat, r ≤ 3 → (∀ j, j < 3 - r → wmB tp t.2.1 t.2.2.1 j = false) → V E 2 yX7_takesKey cX7_takesKey 5 (some .boolean) (qI E (fun x M' => QKey tp n t Mz x M')) 12 [some (.inr 92), some (.inl (nI (3 - r))), none, none, none] [] Mz
  | 0, _, hp => by
    have hn96 := hT.2.1
    refine v_ild1 dX7_takesKey_12 ?_
    refine v_iconstN (n := 3) dX7_takesKey_13 ?_
    refine v_icmpN_ge (tgt := 127) dX7_takesKey_14 (by decide) (by omega) (by omega) (fun h14 => ?_) (fun h14 => absurd h14 (by omega))
    refine v_iconstN (n := 0) dX7_takesKey_127 ?_
    exact v_zret dX7_takesKey_128 rfl (by decide +kernel) (by unfold QKey; rw [keyT_no hp]; exact ⟨rfl, rfl⟩)
  | r + 1, hr, hp => by
    have hn96 := hT.2.1
    obtain ⟨i, hi⟩ : ∃ i, i = 3 - (r + 1) := ⟨_, rfl⟩
    rw [← hi] at hp ⊢
    have hof := ofK_ln (show i < 3 by omega)
    refine v_ild1 dX7_takesKey_12 ?_
    refine v_iconstN (n := 3) dX7_takesKey_13 ?_
    refine v_icmpN_ge (tgt := 127) dX7_takesKey_14 (by decide) (by omega) (by omega) (fun h14 => absurd h14 (by omega)) (fun h14 => ?_)
    refine v_ald0 dX7_takesKey_17 ?_
    refine v_getr dX7_takesKey_18 gX7_29 sh_92 rfl ?_
    refine v_ild1 dX7_takesKey_21 ?_
    refine v_iconstN (n := 1) dX7_takesKey_22 ?_
    refine v_iaddN dX7_takesKey_23 ?_
    refine v_ialdN dX7_takesKey_24 sh_99 (by omega) (by decide) ?_
    refine v_eq (show Mz 99 (i + 1) = nI (ofK (i + 1)) from hKy.1 _ (by omega)) ?_
    refine v_ald0 dX7_takesKey_25 ?_
    refine v_getr dX7_takesKey_26 gX7_29 sh_92 rfl ?_
    refine v_ild1 dX7_takesKey_29 ?_
    refine v_ialdN dX7_takesKey_30 sh_99 (by omega) (by decide) ?_
    refine v_eq (show Mz 99 i = nI (ofK i) from hKy.1 _ (by omega)) ?_
    refine v_isubN dX7_takesKey_31 (by omega) ?_
    refine v_eq (show nI (ofK (i + 1) - ofK i) = nI (lnS i) from by rw [hof.1]) ?_
    refine v_ist2 dX7_takesKey_32 (by decide) ?_
    refine v_ild2 dX7_takesKey_33 ?_
    refine v_ald0 dX7_takesKey_34 ?_
    refine v_geti dX7_takesKey_35 gX7_207 sh_92 rfl ?_
    refine v_eq (hS.2.2.1) ?_
    refine v_ald0 dX7_takesKey_38 ?_
    refine v_geti dX7_takesKey_39 gX7_210 sh_92 rfl ?_
    refine v_eq (hS.2.1) ?_
    refine v_isubN dX7_takesKey_42 (hse) ?_
    refine v_icmpN_ne (tgt := 50) dX7_takesKey_43 (by decide) (by omega) (by omega) (fun h43 => ?_) (fun h43 => ?_)
    · refine v_iconstN (n := 0) dX7_takesKey_50 ?_
      refine v_ist3 dX7_takesKey_51 (by decide) ?_
      refine v_iconstN (n := 0) dX7_takesKey_52 ?_
      refine v_ist4 dX7_takesKey_53 (by decide) ?_
      have hwm : wmB tp t.2.1 t.2.2.1 i = false := by unfold wmB; rw [decide_eq_false (fun z => h43 z.symm), Bool.false_and]
      refine v_ild4 dX7_takesKey_55 ?_
      refine v_ild2 dX7_takesKey_57 ?_
      refine v_icmpN_ge (tgt := 106) dX7_takesKey_58 (by decide) (by omega) (by omega) (fun h58 => absurd h58 (by omega)) (fun h58 => ?_)
      refine v_ild3 dX7_takesKey_61 ?_
      refine v_if_eq (tgt := 106) dX7_takesKey_62 (by decide) (fun h62 => ?_) (fun h62 => absurd h62 (fun q => q rfl))
      refine v_ild3 dX7_takesKey_106 ?_
      refine v_if_eq (tgt := 121) dX7_takesKey_107 (by decide) (fun h107 => ?_) (fun h107 => absurd h107 (fun q => q rfl))
      refine v_iincN1 (n := 1) dX7_takesKey_121 (by decide) ?_
      refine v_goto (tgt := 12) dX7_takesKey_124 (by decide) ?_
      refine v_fg2 (v_fg3 (v_fg4 ?_))
      exact v_lo (by rw [show i + 1 = 3 - r by omega]) (kM_tk_l E Mz hT hS hse hen hKy h1 r (by omega) (fun j hj => by by_cases e : j = i; (rw [e]; exact hwm); exact hp j (by omega)))
    · refine v_iconstN (n := 1) dX7_takesKey_46 ?_
      refine v_goto (tgt := 51) dX7_takesKey_47 (by decide) ?_
      refine v_ist3 dX7_takesKey_51 (by decide) ?_
      refine v_iconstN (n := 0) dX7_takesKey_52 ?_
      refine v_ist4 dX7_takesKey_53 (by decide) ?_
      refine v_loopQ (pc := 55) (fun k => [some (.inr 92), some (.inl (nI i)), some (.inl (nI (lnS i))), some (.inl (nI 1)), some (.inl (nI k))]) (fun k => allK (wP tp t.2.1 i) k = true) (lnS i) (rfl) (rfl) (fun k hk hrs ih => ?_) (fun hrs => ?_)
      · refine v_ild4 dX7_takesKey_55 ?_
        refine v_ild2 dX7_takesKey_57 ?_
        refine v_icmpN_ge (tgt := 106) dX7_takesKey_58 (by decide) (by omega) (by omega) (fun h58 => absurd h58 (by omega)) (fun h58 => ?_)
        refine v_ild3 dX7_takesKey_61 ?_
        refine v_if_eq (tgt := 106) dX7_takesKey_62 (by decide) (fun h62 => absurd h62 (by decide)) (fun h62 => ?_)
        refine v_ald0 dX7_takesKey_65 ?_
        refine v_getr dX7_takesKey_66 gX7_22 sh_92 rfl ?_
        refine v_ald0 dX7_takesKey_69 ?_
        refine v_geti dX7_takesKey_70 gX7_210 sh_92 rfl ?_
        refine v_eq (hS.2.1) ?_
        refine v_ild4 dX7_takesKey_73 ?_
        refine v_iaddN dX7_takesKey_75 ?_
        refine v_ialdN dX7_takesKey_76 sh_97 (by omega) (by decide) ?_
        refine v_eq (show Mz 97 (t.2.1 + k) = nI (tp (t.2.1 + k)) from (hT.2.2 _ (by omega)).1) ?_
        refine v_ald0 dX7_takesKey_77 ?_
        refine v_getr dX7_takesKey_78 gX7_25 sh_92 rfl ?_
        refine v_ald0 dX7_takesKey_81 ?_
        refine v_getr dX7_takesKey_82 gX7_29 sh_92 rfl ?_
        refine v_ild1 dX7_takesKey_85 ?_
        refine v_ialdN dX7_takesKey_86 sh_99 (by omega) (by decide) ?_
        refine v_eq (show Mz 99 i = nI (ofK i) from hKy.1 _ (by omega)) ?_
        refine v_ild4 dX7_takesKey_87 ?_
        refine v_iaddN dX7_takesKey_89 ?_
        refine v_caldN dX7_takesKey_90 sh_98 (by omega) (by decide) ?_
        refine v_eq (show Mz 98 (ofK i + k) = btS i k from hKy.2 i (by omega) k hk) ?_
        refine v_icmp_ne (tgt := 98) dX7_takesKey_91 (by decide) (fun h91 => ?_) (fun h91 => ?_)
        · refine v_iconstN (n := 0) dX7_takesKey_98 ?_
          refine v_ist3 dX7_takesKey_99 (by decide) ?_
          refine v_iincN4 (n := 1) dX7_takesKey_100 (by decide) ?_
          refine v_goto (tgt := 55) dX7_takesKey_103 (by decide) ?_
          have hwm : wmB tp t.2.1 t.2.2.1 i = false := by unfold wmB; rw [allK_f (P := wP tp t.2.1 i) (k := k) (decide_eq_false h91) _ hk, Bool.and_false]
          refine v_ild4 dX7_takesKey_55 ?_
          refine v_ild2 dX7_takesKey_57 ?_
          refine v_icmpN_ge (tgt := 106) dX7_takesKey_58 (by decide) (by omega) (by omega) (fun h58 => ?_) (fun h58 => ?_)
          · refine v_ild3 dX7_takesKey_106 ?_
            refine v_if_eq (tgt := 121) dX7_takesKey_107 (by decide) (fun h107 => ?_) (fun h107 => absurd h107 (fun q => q rfl))
            refine v_iincN1 (n := 1) dX7_takesKey_121 (by decide) ?_
            refine v_goto (tgt := 12) dX7_takesKey_124 (by decide) ?_
            refine v_fg2 (v_fg3 (v_fg4 ?_))
            exact v_lo (by rw [show i + 1 = 3 - r by omega]) (kM_tk_l E Mz hT hS hse hen hKy h1 r (by omega) (fun j hj => by by_cases e : j = i; (rw [e]; exact hwm); exact hp j (by omega)))
          · refine v_ild3 dX7_takesKey_61 ?_
            refine v_if_eq (tgt := 106) dX7_takesKey_62 (by decide) (fun h62 => ?_) (fun h62 => absurd h62 (fun q => q rfl))
            refine v_ild3 dX7_takesKey_106 ?_
            refine v_if_eq (tgt := 121) dX7_takesKey_107 (by decide) (fun h107 => ?_) (fun h107 => absurd h107 (fun q => q rfl))
            refine v_iincN1 (n := 1) dX7_takesKey_121 (by decide) ?_
            refine v_goto (tgt := 12) dX7_takesKey_124 (by decide) ?_
            refine v_fg2 (v_fg3 (v_fg4 ?_))
            exact v_lo (by rw [show i + 1 = 3 - r by omega]) (kM_tk_l E Mz hT hS hse hen hKy h1 r (by omega) (fun j hj => by by_cases e : j = i; (rw [e]; exact hwm); exact hp j (by omega)))
        · refine v_iconstN (n := 1) dX7_takesKey_94 ?_
          refine v_goto (tgt := 99) dX7_takesKey_95 (by decide) ?_
          refine v_ist3 dX7_takesKey_99 (by decide) ?_
          refine v_iincN4 (n := 1) dX7_takesKey_100 (by decide) ?_
          refine v_goto (tgt := 55) dX7_takesKey_103 (by decide) ?_
          exact ih (by show (allK (wP tp t.2.1 i) k && wP tp t.2.1 i k) = true; rw [hrs, show wP tp t.2.1 i k = true from decide_eq_true h91]; rfl)
      · have hwm : wmB tp t.2.1 t.2.2.1 i = true := by unfold wmB; rw [decide_eq_true h43.symm, show allK (wP tp t.2.1 i) (lnS i) = true from hrs]; rfl
        have hT1 : TpM (wr Mz 92 12 (nI i)) tp n := ⟨by rw [wr_at, pk_un (by decide)]; exact hT.1, hT.2.1, fun j hj => by rw [wr_ne (by decide)]; exact hT.2.2 j hj⟩
        have hg7 : wr Mz 92 12 (nI i) 92 7 = nI t.2.2.1 := by rw [wr_at, pk_un (by decide)]; exact hS.2.2.1
        have hg11 : wr Mz 92 12 (nI i) 92 11 = t.2.2.2 := by rw [wr_at, pk_un (by decide)]; exact hS.2.2.2.1
        refine v_ild4 dX7_takesKey_55 ?_
        refine v_ild2 dX7_takesKey_57 ?_
        refine v_icmpN_ge (tgt := 106) dX7_takesKey_58 (by decide) (by omega) (by omega) (fun h58 => ?_) (fun h58 => absurd h58 (by omega))
        refine v_ild3 dX7_takesKey_106 ?_
        refine v_if_eq (tgt := 121) dX7_takesKey_107 (by decide) (fun h107 => absurd h107 (by decide)) (fun h107 => ?_)
        refine v_ald0 dX7_takesKey_110 ?_
        refine v_ild1 dX7_takesKey_111 ?_
        refine v_puti dX7_takesKey_112 pX7_228 sh_92 rfl rfl rfl ?_
        refine v_ald0 dX7_takesKey_115 ?_
        refine v_callVv (kM_go E (wr Mz 92 12 (nI i)) hT1 hen hg7 hg11) dX7_takesKey_116 cX7_231 rfl sh_92 rfl (by decide) (Nat.le_of_ble_eq_true rfl) rfl (fun M3z hq3 => ?_)
        refine v_iconstN (n := 1) dX7_takesKey_119 ?_
        exact v_zret dX7_takesKey_120 rfl (by decide +kernel) (by unfold QKey; rw [keyT_at h1 (by omega) hp hwm, if_neg (by omega)]; exact ⟨rfl, hq3⟩)
set_option maxRecDepth 100000 in
set_option maxHeartbeats 4000000 in
theorem kM_key1 (E : ev) (Mz : mm) {tp : Nat → Nat} {n : Nat} {t : tok} (hT : TpM Mz tp n) (hS : ScN Mz tp t) (hse : t.2.1 ≤ t.2.2.1) (hen : t.2.2.1 ≤ n) (hKy : KyM Mz) (h1 : t.1 = 1) : Ct E 2 yX7_takesKey cX7_takesKey 5 (some .boolean) [.inr 92] Mz (qI E (fun r M' => QKey tp n t Mz r M')) := by
  refine ct_of (by decide) (Nat.le_of_ble_eq_true rfl) ?_
  show V E 2 _ _ _ _ _ 0 [some (.inr 92), none, none, none, none] [] Mz
  refine v_ald0 dX7_takesKey_0 ?_
  refine v_geti dX7_takesKey_1 gX7_216 sh_92 rfl ?_
  refine v_eq (show Mz 92 9 = nI 1 from by rw [hS.1]; unfold tkN; rw [if_neg (by omega), h1]) ?_
  refine v_iconstN (n := 1) dX7_takesKey_4 ?_
  refine v_icmpN_eq (tgt := 10) dX7_takesKey_5 (by decide) (by omega) (by omega) (fun h5 => ?_) (fun h5 => absurd h5 (fun q => q rfl))
  refine v_iconstN (n := 0) dX7_takesKey_10 ?_
  refine v_ist1 dX7_takesKey_11 (by decide) ?_
  exact kM_tk_l E Mz hT hS hse hen hKy h1 3 (Nat.le_refl _) (fun j hj => absurd hj (by omega))
theorem kM_key (E : ev) (Mz : mm) {tp : Nat → Nat} {n : Nat} {t : tok} (hT : TpM Mz tp n) (hS : ScN Mz tp t) (hse : t.2.1 ≤ t.2.2.1) (hen : t.2.2.1 ≤ n) (hKy : KyM Mz) (h4 : t.1 ≤ 4) : Ct E 2 yX7_takesKey cX7_takesKey 5 (some .boolean) [.inr 92] Mz (qI E (fun r M' => QKey tp n t Mz r M')) := by
  by_cases h1 : t.1 = 1
  · exact kM_key1 E Mz hT hS hse hen hKy h1
  · exact kM_key0 E Mz hS h1 h4
def FrY (A M : mm) : Prop := (∀ a, a ≠ 92 → a ≠ 100 → a ≠ 101 → a ≠ 102 → M a = A a) ∧ ∀ j, ¬ (6 ≤ j ∧ j ≤ 12) → j ≠ 16 → j ≠ 17 → j ≠ 19 → M 92 j = A 92 j
theorem FrY.refl (A : mm) : FrY A A := ⟨fun _ _ _ _ _ => rfl, fun _ _ _ _ _ => rfl⟩
theorem FrY.trans {A B C : mm} (h : FrY A B) (g : FrY B C) : FrY A C := ⟨fun a h1 h2 h3 h4 => (g.1 a h1 h2 h3 h4).trans (h.1 a h1 h2 h3 h4), fun j a b c d => (g.2 j a b c d).trans (h.2 j a b c d)⟩
theorem FrR.y {A M : mm} (h : FrR A M) : FrY A M := ⟨h.1, fun j a b c d => h.2 j (by omega) b c d⟩
theorem NxM.y {A M : mm} (h : NxM A M) : FrY A M := ⟨fun a h1 _ _ _ => h.1 a h1, fun j a _ _ _ => h.2 j (by omega)⟩
theorem FrY.w {A M : mm} {j : Nat} {x : Int32} (h : FrY A M) (hj : 6 ≤ j ∧ j ≤ 12) : FrY A (wr M 92 j x) := ⟨fun a h1 h2 h3 h4 => by rw [wr_ne h1]; exact h.1 a h1 h2 h3 h4, fun i a b c d => by rw [wr_at, pk_un (by omega)]; exact h.2 i a b c d⟩
/-- what a text told makes of the reference's memory -/
def TxtM (A M : mm) (key T : Nat) (res : Option (List Int32 × Nat) × Nat) : Prop := M 92 6 = nI 0 ∧ match res with
  | (none, _) => FrY A M
  | (some (u, lv), _) => if T = 14 then FrY A M else (M 93 (99 + 2 * T) = nI (1000 * key + u.length) ∧ M 93 (100 + 2 * T) = nI lv ∧ (∀ i, i < u.length → tmK key (xsO u i) (M 93 (127 + 96 * T + i))) ∧ M 93 6 = nI (T + 1) ∧ (∀ i, i ≠ 6 → i ≠ 99 + 2 * T → i ≠ 100 + 2 * T → ¬ (127 + 96 * T ≤ i ∧ i < 127 + 96 * T + 96) → M 93 i = A 93 i) ∧ (∀ a, a ≠ 92 → a ≠ 93 → a ≠ 100 → a ≠ 101 → a ≠ 102 → M a = A a) ∧ ∀ j, ¬ (6 ≤ j ∧ j ≤ 12) → j ≠ 16 → j ≠ 17 → j ≠ 19 → M 92 j = A 92 j)
theorem txm_end {A M3 Mk : mm} {key T lv : Nat} {u : List Int32} (hT : T ≠ 14) (hT15 : T ≤ 14) (hu : u.length ≤ 96) (hF : FrY A M3) (ht : ∀ i, i < u.length → tmK key (xsO u i) (M3 100 i)) (hM : (∀ a, a ≠ 93 → Mk a = (wr (wr (wr M3 92 6 (nI 0)) 93 (99 + 2 * T) (nI (1000 * key + u.length))) 93 (99 + 2 * T + 1) (nI lv)) a) ∧ (∀ i, i < u.length → Mk 93 (127 + 96 * T + i) = M3 100 i) ∧ ∀ i, ¬ (127 + 96 * T ≤ i ∧ i < 127 + 96 * T + u.length) → Mk 93 i = (wr (wr (wr M3 92 6 (nI 0)) 93 (99 + 2 * T) (nI (1000 * key + u.length))) 93 (99 + 2 * T + 1) (nI lv)) 93 i) : (wr Mk 93 6 (nI (T + 1))) 93 (99 + 2 * T) = nI (1000 * key + u.length) ∧ (wr Mk 93 6 (nI (T + 1))) 93 (100 + 2 * T) = nI lv ∧ (∀ i, i < u.length → tmK key (xsO u i) ((wr Mk 93 6 (nI (T + 1))) 93 (127 + 96 * T + i))) ∧ (wr Mk 93 6 (nI (T + 1))) 93 6 = nI (T + 1) ∧ (∀ i, i ≠ 6 → i ≠ 99 + 2 * T → i ≠ 100 + 2 * T → ¬ (127 + 96 * T ≤ i ∧ i < 127 + 96 * T + 96) → (wr Mk 93 6 (nI (T + 1))) 93 i = A 93 i) ∧ (∀ a, a ≠ 92 → a ≠ 93 → a ≠ 100 → a ≠ 101 → a ≠ 102 → (wr Mk 93 6 (nI (T + 1))) a = A a) ∧ ∀ j, ¬ (6 ≤ j ∧ j ≤ 12) → j ≠ 16 → j ≠ 17 → j ≠ 19 → (wr Mk 93 6 (nI (T + 1))) 92 j = A 92 j := by
  have e93 : M3 93 = A 93 := hF.1 93 (by decide) (by decide) (by decide) (by decide)
  refine ⟨?_, ?_, fun i hi => ?_, ?_, fun i h1 h2 h3 h4 => ?_, fun a h1 h2 h3 h4 h5 => ?_, fun j h1 h2 h3 h4 => ?_⟩
  · rw [wr_at, pk_un (by omega), hM.2.2 _ (by omega), wr_at, pk_un (by omega), wr_at, pk_us]
  · rw [wr_at, pk_un (by omega), hM.2.2 _ (by omega), show 100 + 2 * T = 99 + 2 * T + 1 by omega, wr_at, pk_us]
  · rw [wr_at, pk_un (by omega), hM.2.1 i hi]; exact ht i hi
  · rw [wr_at, pk_us]
  · rw [wr_at, pk_un h1, hM.2.2 i (by omega), wr_at, pk_un (by omega), wr_at, pk_un h2, wr_ne (by decide), e93]
  · rw [wr_ne h2, hM.1 a h2, wr_ne h2, wr_ne h2, wr_ne h1]; exact hF.1 a h1 h3 h4 h5
  · rw [wr_ne (by decide), hM.1 92 (by decide), wr_ne (by decide), wr_ne (by decide), wr_at, pk_un (by omega)]; exact hF.2 j h1 h2 h3 h4
set_option maxRecDepth 100000 in
set_option maxHeartbeats 4000000 in
theorem aM_text (E : ev) (Mz : mm) {tp : Nat → Nat} {n T : Nat} (hT : TpM Mz tp n) (hTn : Mz 93 6 = nI T) (hT15 : T ≤ 14) (hKy : KyM Mz) : Ct E 4 yX7_text cX7_text 4 (some .int) [.inr 92] Mz (qI E (fun r M' => r = R_text tp n T ∧ TxtM Mz M' (keyT tp (nxt tp n 0 (-1))) T (PT tp n))) := by
  refine ct_of (by decide) (Nat.le_of_ble_eq_true rfl) ?_
  show V E 4 _ _ _ _ _ 0 [some (.inr 92), none, none, none] [] Mz
  have hn96 := hT.2.1
  obtain ⟨-, n1, n2, n3, n4⟩ := nxt_ok tp (n := n) (k := 0) (-1) (Nat.zero_le _)
  have h4 : (nxt tp n 0 (-1)).1 ≤ 4 := by rcases n4 with e | e <;> omega
  have hk3 := keyT_le tp (nxt tp n 0 (-1))
  by_cases h3 : keyT tp (nxt tp n 0 (-1)) = 3
  · have hpt : PT tp n = (none, (nxt tp n 0 (-1)).2.1) := if_pos h3
    rw [hpt]
    refine v_ald0 dX7_text_0 ?_
    refine v_iconstN (n := 0) dX7_text_1 ?_
    refine v_puti dX7_text_2 pX7_207 sh_92 rfl rfl rfl ?_
    refine v_ald0 dX7_text_5 ?_
    refine v_iconst (x := -1) dX7_text_6 (by decide) ?_
    refine v_puti dX7_text_7 pX7_213 sh_92 rfl rfl rfl ?_
    refine v_ald0 dX7_text_10 ?_
    refine v_callVv (kM_go E (wr (wr Mz 92 7 (nI 0)) 92 11 (-1)) (k := 0) (we := -1) (hT.w (((NxM.refl Mz).w (by decide)).w (by decide))) (Nat.zero_le n) (by rw [wr_at, pk_un (by decide), wr_at, pk_us]) (by rw [wr_at, pk_us])) dX7_text_11 cX7_231 rfl sh_92 rfl (by decide) (Nat.le_of_ble_eq_true rfl) rfl (fun M1z hq => ?_)
    obtain ⟨hN1, hS1⟩ := hq
    have hT1 : TpM M1z tp n := (hT.w (((NxM.refl Mz).w (by decide)).w (by decide))).w hN1
    have hF1 : FrY Mz M1z := (((FrY.refl Mz).w (by decide)).w (by decide)).trans hN1.y
    have hKy1 : KyM M1z := by unfold KyM; rw [hF1.1 99 (by decide) (by decide) (by decide) (by decide), hF1.1 98 (by decide) (by decide) (by decide) (by decide)]; exact hKy
    refine v_ald0 dX7_text_14 ?_
    refine v_callVi (kM_key E M1z hT1 hS1 n2 n3 hKy1 h4) dX7_text_15 cX7_262 rfl sh_92 rfl (by decide) (Nat.le_of_ble_eq_true rfl) rfl (fun r2 M2z hq2 => ?_)
    unfold QKey at hq2
    rw [if_pos h3] at hq2
    obtain ⟨hr2, hm2⟩ := hq2
    rw [hr2, hm2]
    clear hr2 hm2
    refine v_if_eq (tgt := 32) dX7_text_18 (by decide) (fun h18 => ?_) (fun h18 => absurd h18 (fun q => q rfl))
    refine v_iconstN (n := 0) dX7_text_32 ?_
    refine v_ist1 dX7_text_33 (by decide) ?_
    refine v_ald0 dX7_text_34 ?_
    refine v_iconstN (n := 0) dX7_text_35 ?_
    refine v_puti dX7_text_36 pX7_203 sh_92 rfl rfl rfl ?_
    refine v_ild1 dX7_text_39 ?_
    refine v_if_ne (tgt := 51) dX7_text_40 (by decide) (fun h40 => absurd h40 (fun q => q rfl)) (fun h40 => ?_)
    refine v_bipush (x := -100) dX7_text_43 (by decide) ?_
    refine v_ald0 dX7_text_45 ?_
    refine v_geti dX7_text_46 gX7_210 sh_92 rfl ?_
    refine v_eq (show wr M1z 92 6 (nI 0) 92 8 = nI (nxt tp n 0 (-1)).2.1 from by rw [wr_at, pk_un (by decide)]; exact hS1.2.1) ?_
    refine v_isub dX7_text_49 ?_
    exact v_iret dX7_text_50 rfl (⟨by unfold R_text; rw [hpt], by rw [wr_at, pk_us], hF1.w (by decide)⟩)
  have hPT : PT tp n = PL tp n (keyT tp (nxt tp n 0 (-1))) 96 (nxt tp n 0 (-1)).2.2.1 (nxt tp n 0 (-1)).2.2.2 (true, [], [], 0) := if_neg h3
  have hn0 : 0 < (nxt tp n 0 (-1)).2.2.1 := by
    rcases n4 with e | e
    · exact absurd (show keyT tp (nxt tp n 0 (-1)) = 3 from by unfold keyT; rw [if_neg (by omega)]) h3
    · omega
  rcases hpt : PT tp n with ⟨q, p⟩
  have hpl := hPT.symm.trans hpt
  cases q with
  | none =>
    refine v_ald0 dX7_text_0 ?_
    refine v_iconstN (n := 0) dX7_text_1 ?_
    refine v_puti dX7_text_2 pX7_207 sh_92 rfl rfl rfl ?_
    refine v_ald0 dX7_text_5 ?_
    refine v_iconst (x := -1) dX7_text_6 (by decide) ?_
    refine v_puti dX7_text_7 pX7_213 sh_92 rfl rfl rfl ?_
    refine v_ald0 dX7_text_10 ?_
    refine v_callVv (kM_go E (wr (wr Mz 92 7 (nI 0)) 92 11 (-1)) (k := 0) (we := -1) (hT.w (((NxM.refl Mz).w (by decide)).w (by decide))) (Nat.zero_le n) (by rw [wr_at, pk_un (by decide), wr_at, pk_us]) (by rw [wr_at, pk_us])) dX7_text_11 cX7_231 rfl sh_92 rfl (by decide) (Nat.le_of_ble_eq_true rfl) rfl (fun M1z hq => ?_)
    obtain ⟨hN1, hS1⟩ := hq
    have hT1 : TpM M1z tp n := (hT.w (((NxM.refl Mz).w (by decide)).w (by decide))).w hN1
    have hF1 : FrY Mz M1z := (((FrY.refl Mz).w (by decide)).w (by decide)).trans hN1.y
    have hKy1 : KyM M1z := by unfold KyM; rw [hF1.1 99 (by decide) (by decide) (by decide) (by decide), hF1.1 98 (by decide) (by decide) (by decide) (by decide)]; exact hKy
    refine v_ald0 dX7_text_14 ?_
    refine v_callVi (kM_key E M1z hT1 hS1 n2 n3 hKy1 h4) dX7_text_15 cX7_262 rfl sh_92 rfl (by decide) (Nat.le_of_ble_eq_true rfl) rfl (fun r2 M2z hq2 => ?_)
    unfold QKey at hq2
    rw [if_neg h3] at hq2
    obtain ⟨hr2, hN2, hS2⟩ := hq2
    rw [hr2]
    clear hr2
    have hT2 : TpM M2z tp n := TpM.w ⟨by rw [wr_at, pk_un (by decide)]; exact hT1.1, hT1.2.1, fun j hj => by rw [wr_ne (by decide)]; exact hT1.2.2 j hj⟩ hN2
    have hF2 : FrY Mz M2z := (hF1.w (by decide)).trans hN2.y
    have hk2 : M2z 92 12 = nI (keyT tp (nxt tp n 0 (-1))) := (hN2.2 12 (by decide)).trans (by rw [wr_at, pk_us])
    refine v_if_eq (tgt := 32) dX7_text_18 (by decide) (fun h18 => absurd h18 (by decide)) (fun h18 => ?_)
    refine v_ald0 dX7_text_21 ?_
    refine v_callVi (kM_takesE E M2z (by omega) hT2 n3 hn0 hk2 hS2) dX7_text_22 cX7_265 rfl sh_92 rfl (by decide) (Nat.le_of_ble_eq_true rfl) rfl (fun r3 M3z hq3 => ?_)
    rw [hpl] at hq3
    obtain ⟨hr3, hp3, hR3⟩ := hq3
    rw [hr3]
    clear hr3
    have hF3 : FrY Mz M3z := hF2.trans hR3.y
    refine v_if_eq (tgt := 32) dX7_text_25 (by decide) (fun h25 => ?_) (fun h25 => absurd h25 (fun q => q rfl))
    refine v_iconstN (n := 0) dX7_text_32 ?_
    refine v_ist1 dX7_text_33 (by decide) ?_
    refine v_ald0 dX7_text_34 ?_
    refine v_iconstN (n := 0) dX7_text_35 ?_
    refine v_puti dX7_text_36 pX7_203 sh_92 rfl rfl rfl ?_
    refine v_ild1 dX7_text_39 ?_
    refine v_if_ne (tgt := 51) dX7_text_40 (by decide) (fun h40 => absurd h40 (fun q => q rfl)) (fun h40 => ?_)
    refine v_bipush (x := -100) dX7_text_43 (by decide) ?_
    refine v_ald0 dX7_text_45 ?_
    refine v_geti dX7_text_46 gX7_210 sh_92 rfl ?_
    refine v_eq (show wr M3z 92 6 (nI 0) 92 8 = nI p from by rw [wr_at, pk_un (by decide)]; exact hp3) ?_
    refine v_isub dX7_text_49 ?_
    exact v_iret dX7_text_50 rfl (⟨by unfold R_text; rw [hpt], by rw [wr_at, pk_us], hF3.w (by decide)⟩)
  | some ul =>
    obtain ⟨u, lv⟩ := ul
    obtain ⟨hk3', hok⟩ := PT_ok hT.2.1 hpt
    have hu96 : u.length ≤ 96 := hok.2.1.2.1
    have hlv : lv < 1000 := hok.2.2.2
    obtain ⟨key, hke⟩ : ∃ key, keyT tp (nxt tp n 0 (-1)) = key := ⟨_, rfl⟩
    have hkey3 : key < 3 := by omega
    by_cases h14 : T = 14
    · rw [hke]
      refine v_ald0 dX7_text_0 ?_
      refine v_iconstN (n := 0) dX7_text_1 ?_
      refine v_puti dX7_text_2 pX7_207 sh_92 rfl rfl rfl ?_
      refine v_ald0 dX7_text_5 ?_
      refine v_iconst (x := -1) dX7_text_6 (by decide) ?_
      refine v_puti dX7_text_7 pX7_213 sh_92 rfl rfl rfl ?_
      refine v_ald0 dX7_text_10 ?_
      refine v_callVv (kM_go E (wr (wr Mz 92 7 (nI 0)) 92 11 (-1)) (k := 0) (we := -1) (hT.w (((NxM.refl Mz).w (by decide)).w (by decide))) (Nat.zero_le n) (by rw [wr_at, pk_un (by decide), wr_at, pk_us]) (by rw [wr_at, pk_us])) dX7_text_11 cX7_231 rfl sh_92 rfl (by decide) (Nat.le_of_ble_eq_true rfl) rfl (fun M1z hq => ?_)
      obtain ⟨hN1, hS1⟩ := hq
      have hT1 : TpM M1z tp n := (hT.w (((NxM.refl Mz).w (by decide)).w (by decide))).w hN1
      have hF1 : FrY Mz M1z := (((FrY.refl Mz).w (by decide)).w (by decide)).trans hN1.y
      have hKy1 : KyM M1z := by unfold KyM; rw [hF1.1 99 (by decide) (by decide) (by decide) (by decide), hF1.1 98 (by decide) (by decide) (by decide) (by decide)]; exact hKy
      refine v_ald0 dX7_text_14 ?_
      refine v_callVi (kM_key E M1z hT1 hS1 n2 n3 hKy1 h4) dX7_text_15 cX7_262 rfl sh_92 rfl (by decide) (Nat.le_of_ble_eq_true rfl) rfl (fun r2 M2z hq2 => ?_)
      unfold QKey at hq2
      rw [if_neg h3] at hq2
      obtain ⟨hr2, hN2, hS2⟩ := hq2
      rw [hr2]
      clear hr2
      have hT2 : TpM M2z tp n := TpM.w ⟨by rw [wr_at, pk_un (by decide)]; exact hT1.1, hT1.2.1, fun j hj => by rw [wr_ne (by decide)]; exact hT1.2.2 j hj⟩ hN2
      have hF2 : FrY Mz M2z := (hF1.w (by decide)).trans hN2.y
      have hk2 : M2z 92 12 = nI (keyT tp (nxt tp n 0 (-1))) := (hN2.2 12 (by decide)).trans (by rw [wr_at, pk_us])
      refine v_if_eq (tgt := 32) dX7_text_18 (by decide) (fun h18 => absurd h18 (by decide)) (fun h18 => ?_)
      refine v_ald0 dX7_text_21 ?_
      refine v_callVi (kM_takesE E M2z (by omega) hT2 n3 hn0 hk2 hS2) dX7_text_22 cX7_265 rfl sh_92 rfl (by decide) (Nat.le_of_ble_eq_true rfl) rfl (fun r3 M3z hq3 => ?_)
      rw [hpl, hke] at hq3
      obtain ⟨hr3, hc3, ha3, ht3, hR3⟩ := hq3
      rw [hr3]
      clear hr3
      have hF3 : FrY Mz M3z := hF2.trans hR3.y
      have hk3 : M3z 92 12 = nI key := by rw [hR3.2 12 (by decide) (by decide) (by decide) (by decide), hk2, hke]
      refine v_if_eq (tgt := 32) dX7_text_25 (by decide) (fun h25 => absurd h25 (by decide)) (fun h25 => ?_)
      refine v_iconstN (n := 1) dX7_text_28 ?_
      refine v_goto (tgt := 33) dX7_text_29 (by decide) ?_
      refine v_ist1 dX7_text_33 (by decide) ?_
      refine v_ald0 dX7_text_34 ?_
      refine v_iconstN (n := 0) dX7_text_35 ?_
      refine v_puti dX7_text_36 pX7_203 sh_92 rfl rfl rfl ?_
      refine v_ild1 dX7_text_39 ?_
      refine v_if_ne (tgt := 51) dX7_text_40 (by decide) (fun h40 => ?_) (fun h40 => absurd h40 (by decide))
      refine v_ald0 dX7_text_51 ?_
      refine v_getr dX7_text_52 gX7_9 sh_92 rfl ?_
      refine v_bipushN (n := 6) dX7_text_55 (by decide) ?_
      refine v_ialdN dX7_text_57 sh_93 (by omega) (by decide) ?_
      refine v_eq (show wr M3z 92 6 (nI 0) 93 6 = nI T from by rw [wr_ne (by decide), hF3.1 93 (by decide) (by decide) (by decide) (by decide)]; exact hTn) ?_
      refine v_bipushN (n := 14) dX7_text_58 (by decide) ?_
      refine v_icmpN_ne (tgt := 66) dX7_text_60 (by decide) (by omega) (by omega) (fun h60 => absurd h60 (fun q => q h14)) (fun h60 => ?_)
      refine v_ldc dX7_text_63 kX7_120 ?_
      exact v_iret dX7_text_65 rfl (⟨by unfold R_text; rw [hpt]; exact (if_pos h14).symm, by rw [wr_at, pk_us], by show (if T = 14 then _ else _); rw [if_pos h14]; exact hF3.w (by decide)⟩)
    · rw [hke]
      refine v_ald0 dX7_text_0 ?_
      refine v_iconstN (n := 0) dX7_text_1 ?_
      refine v_puti dX7_text_2 pX7_207 sh_92 rfl rfl rfl ?_
      refine v_ald0 dX7_text_5 ?_
      refine v_iconst (x := -1) dX7_text_6 (by decide) ?_
      refine v_puti dX7_text_7 pX7_213 sh_92 rfl rfl rfl ?_
      refine v_ald0 dX7_text_10 ?_
      refine v_callVv (kM_go E (wr (wr Mz 92 7 (nI 0)) 92 11 (-1)) (k := 0) (we := -1) (hT.w (((NxM.refl Mz).w (by decide)).w (by decide))) (Nat.zero_le n) (by rw [wr_at, pk_un (by decide), wr_at, pk_us]) (by rw [wr_at, pk_us])) dX7_text_11 cX7_231 rfl sh_92 rfl (by decide) (Nat.le_of_ble_eq_true rfl) rfl (fun M1z hq => ?_)
      obtain ⟨hN1, hS1⟩ := hq
      have hT1 : TpM M1z tp n := (hT.w (((NxM.refl Mz).w (by decide)).w (by decide))).w hN1
      have hF1 : FrY Mz M1z := (((FrY.refl Mz).w (by decide)).w (by decide)).trans hN1.y
      have hKy1 : KyM M1z := by unfold KyM; rw [hF1.1 99 (by decide) (by decide) (by decide) (by decide), hF1.1 98 (by decide) (by decide) (by decide) (by decide)]; exact hKy
      refine v_ald0 dX7_text_14 ?_
      refine v_callVi (kM_key E M1z hT1 hS1 n2 n3 hKy1 h4) dX7_text_15 cX7_262 rfl sh_92 rfl (by decide) (Nat.le_of_ble_eq_true rfl) rfl (fun r2 M2z hq2 => ?_)
      unfold QKey at hq2
      rw [if_neg h3] at hq2
      obtain ⟨hr2, hN2, hS2⟩ := hq2
      rw [hr2]
      clear hr2
      have hT2 : TpM M2z tp n := TpM.w ⟨by rw [wr_at, pk_un (by decide)]; exact hT1.1, hT1.2.1, fun j hj => by rw [wr_ne (by decide)]; exact hT1.2.2 j hj⟩ hN2
      have hF2 : FrY Mz M2z := (hF1.w (by decide)).trans hN2.y
      have hk2 : M2z 92 12 = nI (keyT tp (nxt tp n 0 (-1))) := (hN2.2 12 (by decide)).trans (by rw [wr_at, pk_us])
      refine v_if_eq (tgt := 32) dX7_text_18 (by decide) (fun h18 => absurd h18 (by decide)) (fun h18 => ?_)
      refine v_ald0 dX7_text_21 ?_
      refine v_callVi (kM_takesE E M2z (by omega) hT2 n3 hn0 hk2 hS2) dX7_text_22 cX7_265 rfl sh_92 rfl (by decide) (Nat.le_of_ble_eq_true rfl) rfl (fun r3 M3z hq3 => ?_)
      rw [hpl, hke] at hq3
      obtain ⟨hr3, hc3, ha3, ht3, hR3⟩ := hq3
      rw [hr3]
      clear hr3
      have hF3 : FrY Mz M3z := hF2.trans hR3.y
      have hk3 : M3z 92 12 = nI key := by rw [hR3.2 12 (by decide) (by decide) (by decide) (by decide), hk2, hke]
      refine v_if_eq (tgt := 32) dX7_text_25 (by decide) (fun h25 => absurd h25 (by decide)) (fun h25 => ?_)
      refine v_iconstN (n := 1) dX7_text_28 ?_
      refine v_goto (tgt := 33) dX7_text_29 (by decide) ?_
      refine v_ist1 dX7_text_33 (by decide) ?_
      refine v_ald0 dX7_text_34 ?_
      refine v_iconstN (n := 0) dX7_text_35 ?_
      refine v_puti dX7_text_36 pX7_203 sh_92 rfl rfl rfl ?_
      refine v_ild1 dX7_text_39 ?_
      refine v_if_ne (tgt := 51) dX7_text_40 (by decide) (fun h40 => ?_) (fun h40 => absurd h40 (by decide))
      refine v_ald0 dX7_text_51 ?_
      refine v_getr dX7_text_52 gX7_9 sh_92 rfl ?_
      refine v_bipushN (n := 6) dX7_text_55 (by decide) ?_
      refine v_ialdN dX7_text_57 sh_93 (by omega) (by decide) ?_
      refine v_eq (show wr M3z 92 6 (nI 0) 93 6 = nI T from by rw [wr_ne (by decide), hF3.1 93 (by decide) (by decide) (by decide) (by decide)]; exact hTn) ?_
      refine v_bipushN (n := 14) dX7_text_58 (by decide) ?_
      refine v_icmpN_ne (tgt := 66) dX7_text_60 (by decide) (by omega) (by omega) (fun h60 => ?_) (fun h60 => absurd h60 (h14))
      refine v_ald0 dX7_text_66 ?_
      refine v_getr dX7_text_67 gX7_9 sh_92 rfl ?_
      refine v_bipushN (n := 6) dX7_text_70 (by decide) ?_
      refine v_ialdN dX7_text_72 sh_93 (by omega) (by decide) ?_
      refine v_eq (show wr M3z 92 6 (nI 0) 93 6 = nI T from by rw [wr_ne (by decide), hF3.1 93 (by decide) (by decide) (by decide) (by decide)]; exact hTn) ?_
      refine v_ist2 dX7_text_73 (by decide) ?_
      refine v_ald0 dX7_text_74 ?_
      refine v_getr dX7_text_75 gX7_9 sh_92 rfl ?_
      refine v_bipushN (n := 99) dX7_text_78 (by decide) ?_
      refine v_iconstN (n := 2) dX7_text_80 ?_
      refine v_ild2 dX7_text_81 ?_
      refine v_imulN dX7_text_82 ?_
      refine v_iaddN dX7_text_83 ?_
      refine v_sipushN (n := 1000) dX7_text_84 (by decide +kernel) ?_
      refine v_ald0 dX7_text_87 ?_
      refine v_geti dX7_text_88 gX7_228 sh_92 rfl ?_
      refine v_eq (show (wr M3z 92 6 (nI 0)) 92 12 = nI key from by rw [wr_at, pk_un (by decide)]; exact hk3) ?_
      refine v_imulN dX7_text_91 ?_
      refine v_ald0 dX7_text_92 ?_
      refine v_geti dX7_text_93 gX7_240 sh_92 rfl ?_
      refine v_eq (show (wr M3z 92 6 (nI 0)) 92 16 = nI u.length from by rw [wr_at, pk_un (by decide)]; exact hc3) ?_
      refine v_iaddN dX7_text_96 ?_
      refine v_iastN dX7_text_97 sh_93 (by omega) (by decide) ?_
      refine v_ald0 dX7_text_98 ?_
      refine v_getr dX7_text_99 gX7_9 sh_92 rfl ?_
      refine v_bipushN (n := 99) dX7_text_102 (by decide) ?_
      refine v_iconstN (n := 2) dX7_text_104 ?_
      refine v_ild2 dX7_text_105 ?_
      refine v_imulN dX7_text_106 ?_
      refine v_iaddN dX7_text_107 ?_
      refine v_iconstN (n := 1) dX7_text_108 ?_
      refine v_iaddN dX7_text_109 ?_
      refine v_ald0 dX7_text_110 ?_
      refine v_geti dX7_text_111 gX7_246 sh_92 rfl ?_
      refine v_eq (show (wr (wr M3z 92 6 (nI 0)) 93 (99 + 2 * T) (nI (1000 * key + u.length))) 92 17 = nI lv from by rw [wr_ne (by decide), wr_at, pk_un (by decide)]; exact ha3) ?_
      refine v_iastN dX7_text_114 sh_93 (by omega) (by decide) ?_
      refine v_iconstN (n := 0) dX7_text_115 ?_
      refine v_ist3 dX7_text_116 (by decide) ?_
      refine v_loopP (pc := 117) (fun k _ => [some (.inr 92), some (.inl (nI 1)), some (.inl (nI T)), some (.inl (nI k))]) (fun k Mk => (∀ a, a ≠ 93 → Mk a = (wr (wr (wr M3z 92 6 (nI 0)) 93 (99 + 2 * T) (nI (1000 * key + u.length))) 93 (99 + 2 * T + 1) (nI lv)) a) ∧ (∀ i, i < k → Mk 93 (127 + 96 * T + i) = M3z 100 i) ∧ ∀ i, ¬ (127 + 96 * T ≤ i ∧ i < 127 + 96 * T + k) → Mk 93 i = (wr (wr (wr M3z 92 6 (nI 0)) 93 (99 + 2 * T) (nI (1000 * key + u.length))) 93 (99 + 2 * T + 1) (nI lv)) 93 i) (u.length) (rfl) (⟨fun _ _ => rfl, fun i hi => absurd hi (Nat.not_lt_zero _), fun _ _ => rfl⟩) (fun k Mk hk hM ih => ?_) (fun Mk hM => ?_)
      · refine v_ild3 dX7_text_117 ?_
        refine v_ald0 dX7_text_118 ?_
        refine v_geti dX7_text_119 gX7_240 sh_92 rfl ?_
        refine v_eq (show Mk 92 16 = nI u.length from by rw [hM.1 92 (by decide), wr_ne (by decide), wr_ne (by decide), wr_at, pk_un (by decide)]; exact hc3) ?_
        refine v_icmpN_ge (tgt := 151) dX7_text_122 (by decide) (by omega) (by omega) (fun h122 => absurd h122 (by omega)) (fun h122 => ?_)
        refine v_ald0 dX7_text_125 ?_
        refine v_getr dX7_text_126 gX7_9 sh_92 rfl ?_
        refine v_bipushN (n := 127) dX7_text_129 (by decide) ?_
        refine v_bipushN (n := 96) dX7_text_131 (by decide) ?_
        refine v_ild2 dX7_text_133 ?_
        refine v_imulN dX7_text_134 ?_
        refine v_iaddN dX7_text_135 ?_
        refine v_ild3 dX7_text_136 ?_
        refine v_iaddN dX7_text_137 ?_
        refine v_ald0 dX7_text_138 ?_
        refine v_getr dX7_text_139 gX7_32 sh_92 rfl ?_
        refine v_ild3 dX7_text_142 ?_
        refine v_ialdN dX7_text_143 sh_100 (by omega) (by decide) ?_
        refine v_eq (show Mk 100 k = M3z 100 k from by rw [hM.1 100 (by decide), wr_ne (by decide), wr_ne (by decide), wr_ne (by decide)]) ?_
        refine v_iastN dX7_text_144 sh_93 (by omega) (by decide) ?_
        refine v_iincN3 (n := 1) dX7_text_145 (by decide) ?_
        refine v_goto (tgt := 117) dX7_text_148 (by decide) ?_
        refine ih _ ⟨fun a ha => by rw [wr_ne ha]; exact hM.1 a ha, fun i hi => ?_, fun i hi => ?_⟩
        · rw [wr_at]
          by_cases e : i = k
          · rw [e, pk_us]
          · rw [pk_un (by omega)]; exact hM.2.1 i (by omega)
        · rw [wr_at, pk_un (by omega)]; exact hM.2.2 i (by omega)
      · refine v_ild3 dX7_text_117 ?_
        refine v_ald0 dX7_text_118 ?_
        refine v_geti dX7_text_119 gX7_240 sh_92 rfl ?_
        refine v_eq (show Mk 92 16 = nI u.length from by rw [hM.1 92 (by decide), wr_ne (by decide), wr_ne (by decide), wr_at, pk_un (by decide)]; exact hc3) ?_
        refine v_icmpN_ge (tgt := 151) dX7_text_122 (by decide) (by omega) (by omega) (fun h122 => ?_) (fun h122 => absurd h122 (by omega))
        refine v_ald0 dX7_text_151 ?_
        refine v_getr dX7_text_152 gX7_9 sh_92 rfl ?_
        refine v_bipushN (n := 6) dX7_text_155 (by decide) ?_
        refine v_dup2 dX7_text_157 ?_
        refine v_ialdN dX7_text_158 sh_93 (by omega) (by decide) ?_
        refine v_eq (show Mk 93 6 = nI T from by rw [hM.2.2 6 (by omega), wr_at, pk_un (by omega), wr_at, pk_un (by omega)]; rw [wr_ne (by decide), hF3.1 93 (by decide) (by decide) (by decide) (by decide)]; exact hTn) ?_
        refine v_iconstN (n := 1) dX7_text_159 ?_
        refine v_iaddN dX7_text_160 ?_
        refine v_iastN dX7_text_161 sh_93 (by omega) (by decide) ?_
        refine v_ild2 dX7_text_162 ?_
        exact v_iret dX7_text_163 rfl (⟨by unfold R_text; rw [hpt]; exact (if_neg h14).symm, by rw [wr_ne (by decide), hM.1 92 (by decide), wr_ne (by decide), wr_ne (by decide), wr_at, pk_us], by show (if T = 14 then _ else _); rw [if_neg h14]; exact txm_end h14 hT15 hu96 hF3 ht3 hM⟩)
