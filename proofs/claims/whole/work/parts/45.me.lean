/-! a text read whole by the reference -/
def tsd : List Nat → Nat → Bool
  | [], _ => false
  | s :: t, j => if s = 40 then (if ct 40 t + 1 = j then false else tsd t j) else if lev s = 3 ∧ ct 40 t = j then true else tsd t j
theorem tsd_33 {o : List Nat} {j : Nat} : tsd (33 :: o) j = tsd o j := by
  rw [tsd, if_neg (by decide), if_neg (fun q => absurd q.1 (by decide))]
theorem tsd_drN : ∀ (o : List Nat) (u : List Int32) (j : Nat), tsd (drN o u).1 j = tsd o j
  | [], u, j => rfl
  | s :: t, u, j => by
    unfold drN
    by_cases h : s = 33
    · rw [if_pos h, h, tsd_33]; exact tsd_drN t _ j
    · rw [if_neg h]
theorem tsd_drL (v : Nat) : ∀ (o : List Nat) (u : List Int32) (j : Nat), (j ≠ ct 40 o ∨ 3 ≤ v) → tsd (drL v o u).1 j = tsd o j
  | [], u, j, _ => rfl
  | s :: t, u, j, hj => by
    unfold drL
    by_cases h : v < lev s
    · rw [if_pos h]
      have h40 : s ≠ 40 := by intro e; rw [e, lev_40] at h; omega
      rw [ct_n h40] at hj
      rw [tsd_drL v t _ j hj, tsd, if_neg h40, if_neg (fun q => by omega)]
    · rw [if_neg h]
theorem tsd_lo : ∀ (o : List Nat) (b : Nat), seg o b → b ≤ 3 → tsd o (ct 40 o) = false
  | [], b, _, _ => rfl
  | s :: t, b, h, hb => by
    unfold seg at h
    by_cases h1 : s = 40
    · rw [h1, tsd, if_pos rfl, ct_y, if_pos rfl]
    · rw [if_neg h1] at h
      by_cases h2 : s = 33
      · rw [if_pos h2] at h; omega
      · rw [if_neg h2] at h
        rw [tsd, if_neg h1, if_neg (fun q => by omega), ct_n h1]
        exact tsd_lo t (lev s) h.2.2 (by omega)
theorem tsd_top : ∀ (o : List Nat) (u : List Int32) (b : Nat), seg o b → b ≤ 6 → (tpl (drL 3 o u).1 = 3 ↔ tsd o (ct 40 o) = true)
  | [], u, b, _, _ => by simp [drL, tpl, tsd]
  | s :: t, u, b, h, hb => by
    unfold seg at h
    unfold drL
    by_cases h1 : s = 40
    · subst h1
      rw [if_neg (by decide), tsd, if_pos rfl, ct_y, if_pos rfl]
      exact ⟨fun q => absurd (show lev 40 = 3 from q) (by decide), fun q => absurd q (by decide)⟩
    · rw [if_neg h1] at h
      by_cases h2 : s = 33
      · rw [if_pos h2] at h; omega
      · rw [if_neg h2] at h
        have h5 := lev_le s
        by_cases h3 : 3 < lev s
        · rw [if_pos h3, tsd, if_neg h1, if_neg (fun q => by omega), ct_n h1]
          exact tsd_top t _ (lev s) h.2.2 (by omega)
        · rw [if_neg h3]
          show lev s = 3 ↔ _
          by_cases h4 : lev s = 3
          · rw [tsd, if_neg h1, ct_n h1, if_pos ⟨h4, rfl⟩]; exact ⟨fun _ => rfl, fun _ => h4⟩
          · rw [tsd, if_neg h1, ct_n h1, if_neg (fun q => h4 q.1), tsd_lo t (lev s) h.2.2 (by omega)]
            exact ⟨fun q => absurd q h4, fun q => absurd q (by decide)⟩
theorem drL_23 : ∀ (o : List Nat) (u : List Int32), tpl (drL 3 o u).1 ≠ 3 → drL 2 o u = drL 3 o u
  | [], u, _ => rfl
  | s :: t, u, h => by
    unfold drL at h ⊢
    by_cases h3 : 3 < lev s
    · rw [if_pos h3] at h ⊢; rw [if_pos (by omega)]; exact drL_23 t _ h
    · rw [if_neg h3] at h ⊢
      have h4 : lev s ≠ 3 := h
      rw [if_neg (by omega)]
def TsM (M : mm) (o : List Nat) : Prop := ∀ j, j ≤ ct 40 o → M 102 j = b2 (tsd o j)
theorem znar (b : Bool) : vp_nar .boolean (b2 b) = b2 b := by cases b <;> decide +kernel
theorem TsM.eq {A M : mm} {o o' : List Nat} (h : TsM A o) (hm : M 102 = A 102) (hc : ct 40 o' = ct 40 o) (ht : ∀ j, tsd o' j = tsd o j) : TsM M o' := fun j hj => by rw [hm, ht, h j (by omega)]
theorem TsM_40 {A M : mm} {o : List Nat} (h : TsM A o) (hm : M 102 = upd (A 102) (ct 40 o + 1) (b2 false)) : TsM M (40 :: o) := fun j hj => by
  rw [ct_y] at hj
  rw [hm, tsd, if_pos rfl]
  by_cases e : j = ct 40 o + 1
  · rw [e, pk_us, if_pos rfl]
  · rw [pk_un e, if_neg (by omega)]; exact h j (by omega)
theorem TsM_cl {A M : mm} {o z : List Nat} {u : List Int32} (h : TsM A o) (hm : M 102 = A 102) (hz : (drL 0 o u).1 = 40 :: z) (g : List Int32) : TsM M (drN z g).1 := fun j hj => by
  have hc := drL_ct 0 40 rfl o u
  rw [hz, ct_y] at hc
  rw [(drN_ct z g).1] at hj
  have h1 := tsd_drL 0 o u j (Or.inl (by omega))
  rw [hz, tsd, if_pos rfl, if_neg (by omega)] at h1
  rw [hm, tsd_drN, h1]
  exact h j (by omega)
theorem TsM_sg {A M : mm} {o : List Nat} {u : List Int32} {s v : Nat} {x : Bool} (h : TsM A o) (hsg : seg o 6) (hv : lev s = v) (h0 : 0 < v) (hx : x = (decide (v = 3) || (decide (3 < v) && tsd o (ct 40 o)))) (hm : M 102 = upd (A 102) (ct 40 o) (b2 x)) : TsM M (s :: (drL (dlv v) o u).1) := fun j hj => by
  have h40 : s ≠ 40 := by intro e; rw [e, lev_40] at hv; omega
  have hc := drL_ct (dlv v) 40 rfl o u
  rw [ct_n h40, hc] at hj
  rw [hm, tsd, if_neg h40, hc, hv]
  by_cases e : j = ct 40 o
  · rw [e, pk_us, hx]
    by_cases e3 : v = 3
    · rw [if_pos ⟨e3, rfl⟩, decide_eq_true e3]; rfl
    · rw [if_neg (fun q => e3 q.1), decide_eq_false e3]
      have hd : dlv v = v - 1 := if_neg e3
      by_cases e4 : 3 < v
      · rw [decide_eq_true e4, tsd_drL (dlv v) o u _ (Or.inr (by omega))]; rfl
      · have hs := drL_seg (dlv v) o u 6 hsg (Nat.le_refl _)
        have := tsd_lo _ _ hs (by omega)
        rw [hc] at this
        rw [decide_eq_false e4, this]; rfl
  · rw [pk_un e, if_neg (fun q => e q.2.symm), tsd_drL (dlv v) o u j (Or.inl e)]
    exact h j (by omega)
def PostM (A : mm) (key : Nat) (res : Option (List Int32 × Nat) × Nat) (r : Int32) (M : mm) : Prop := match res with
  | (none, p) => r = nI 0 ∧ M 92 8 = nI p ∧ FrR A M
  | (some (u, lv), _) => r = nI 1 ∧ M 92 16 = nI u.length ∧ M 92 17 = nI lv ∧ (∀ i, i < u.length → tmK key (xsO u i) (M 100 i)) ∧ FrR A M
theorem ScN_o {M : mm} {tp : Nat → Nat} {t : tok} {j : Nat} {x : Int32} (h : ScN M tp t) : ScN (wr M 102 j x) tp t := by
  unfold ScN
  rw [wr_ne (show (92 : Nat) ≠ 102 by decide)]
  exact h
theorem TpM_o {M : mm} {tp : Nat → Nat} {n j : Nat} {x : Int32} (h : TpM M tp n) : TpM (wr M 102 j x) tp n := by
  unfold TpM
  rw [wr_ne (show (92 : Nat) ≠ 102 by decide), wr_ne (show (97 : Nat) ≠ 102 by decide)]
  exact h
set_option maxRecDepth 100000 in
set_option maxHeartbeats 8000000 in
theorem kM_loop (E : ev) (A : mm) {tp : Nat → Nat} {n key : Nat} (hkey : key < 3) : ∀ (f k : Nat) (we : Int32) (q : pst) (Mz : mm), n < k + f → k ≤ n → PI key k q → TpM Mz tp n → Mz 92 12 = nI key → PsM Mz key q.2.1 q.2.2.1 q.2.2.2 → TsM Mz q.2.1 → ScN Mz tp (nxt tp n k we) → FrR A Mz → V E 3 yX7_takesE cX7_takesE 5 (some .boolean) (qI E (fun r M' => PostM A key (PL tp n key f k we q) r M')) 28 [some (.inr 92), some (.inl (nI (ct 40 q.2.1))), some (.inl (nI (ct 33 q.2.1))), some (.inl (b2 q.1)), none] [] Mz
  | 0, k, we, q, Mz, hf, hk, hI, hT, hk0, hP, hTs, hS, hF => absurd hf (by omega)
  | f + 1, k, we, (wn, o, u, lv), Mz, hf, hk, hI, hT, hk0, hP, hTs, hS, hF => by
    obtain ⟨-, n1, n2, n3, nq⟩ := nxt_ok tp we hk
    have hn96 := hT.2.1
    have hv := seg_vld hI.1
    have hlo := hI.2.2.2.1
    have h33 := hI.2.1
    have h40 := hI.2.2.1
    have htk4 : tkN (nxt tp n k we) ≤ 4 := by unfold tkN; rcases nq with e | e <;> split <;> omega
    simp only at hv hlo hP hTs h33 h40
    show V E 3 _ _ _ _ _ 28 [some (.inr 92), some (.inl (nI (ct 40 o))), some (.inl (nI (ct 33 o))), some (.inl (b2 wn)), none] [] Mz
    by_cases h0 : (nxt tp n k we).1 = 0
    · have h4 : (nxt tp n k we).1 ≤ 4 := by omega
      cases wn with
      | true =>
        have hn1 : tkN (nxt tp n k we) ≠ 1 := by unfold tkN; rw [if_neg (by omega)]; omega
        have hn2 : tkN (nxt tp n k we) ≠ 2 := by unfold tkN; rw [if_neg (by omega)]; omega
        have hn3 : tkN (nxt tp n k we) ≠ 3 := by unfold tkN; rw [if_neg (by omega)]; omega
        rw [show PL tp n key (f + 1) k we (true, o, u, lv) = (none, (nxt tp n k we).2.1) from by rw [PL, if_pos h0, if_neg (fun q => absurd q.1 (by simp))]]
        refine v_ild3 dX7_takesE_28 ?_
        refine v_if_ne (tgt := 39) dX7_takesE_29 (by decide) (fun h29 => ?_) (fun h29 => absurd h29 (fun q => absurd q (by decide)))
        refine v_ild3 dX7_takesE_39 ?_
        refine v_if_eq (tgt := 180) dX7_takesE_40 (by decide) (fun h40 => absurd h40 (by decide)) (fun h40 => ?_)
        refine v_ald0 dX7_takesE_43 ?_
        refine v_geti dX7_takesE_44 gX7_216 sh_92 rfl ?_
        refine v_eq (hS.1) ?_
        refine v_iconstN (n := 3) dX7_takesE_47 ?_
        refine v_icmpN_ne (tgt := 97) dX7_takesE_48 (by decide) (by omega) (by omega) (fun h48 => ?_) (fun h48 => absurd h48 (hn3))
        refine v_ald0 dX7_takesE_97 ?_
        refine v_geti dX7_takesE_98 gX7_216 sh_92 rfl ?_
        refine v_eq (hS.1) ?_
        refine v_iconstN (n := 3) dX7_takesE_101 ?_
        refine v_icmpN_ne (tgt := 158) dX7_takesE_102 (by decide) (by omega) (by omega) (fun h102 => ?_) (fun h102 => absurd h102 (hn3))
        refine v_ald0 dX7_takesE_158 ?_
        refine v_callVi (kM_part0 E Mz hS h4 hn1 hn2) dX7_takesE_159 cX7_252 rfl sh_92 rfl (by decide) (Nat.le_of_ble_eq_true rfl) rfl (fun r M1z hq => ?_)
        obtain ⟨hr1, hm⟩ := hq
        rw [hr1, hm]
        clear hr1 hm
        refine v_if_eq (tgt := 170) dX7_takesE_162 (by decide) (fun h162 => ?_) (fun h162 => absurd h162 (fun q => q rfl))
        refine v_iconstN (n := 0) dX7_takesE_170 ?_
        exact v_zret dX7_takesE_171 rfl (by decide +kernel) (⟨rfl, hS.2.1, hF⟩)
      | false =>
        by_cases hc : ct 40 o = 0
        · rw [show PL tp n key (f + 1) k we (false, o, u, lv) = (some ((drL 0 o u).2, lv), (nxt tp n k we).2.1) from by rw [PL, if_pos h0, if_pos ⟨rfl, hc⟩]]
          refine v_ild3 dX7_takesE_28 ?_
          refine v_if_ne (tgt := 39) dX7_takesE_29 (by decide) (fun h29 => absurd h29 (fun q => q rfl)) (fun h29 => ?_)
          refine v_ald0 dX7_takesE_32 ?_
          refine v_geti dX7_takesE_33 gX7_216 sh_92 rfl ?_
          refine v_eq (show Mz 92 9 = nI 0 from by rw [hS.1]; unfold tkN; rw [if_neg (by omega), h0]) ?_
          refine v_if_eq (tgt := 345) dX7_takesE_36 (by decide) (fun h36 => ?_) (fun h36 => absurd h36 (fun q => q rfl))
          refine v_ald0 dX7_takesE_345 ?_
          refine v_iconstN (n := 0) dX7_takesE_346 ?_
          refine v_callVv (kM_settle E Mz (v := 0) (by decide) (by omega) hv hP) dX7_takesE_347 cX7_249 rfl sh_92 rfl (by decide) (Nat.le_of_ble_eq_true rfl) rfl (fun M1z hq => ?_)
          rw [stL_L 0 o u 6 hI.1 (Nat.le_refl _)] at hq
          refine v_ild1 dX7_takesE_350 ?_
          refine v_if_ne (tgt := 358) dX7_takesE_351 (by decide) (fun h351 => absurd h351 (fun q => q (by rw [hc]; rfl))) (fun h351 => ?_)
          refine v_iconstN (n := 1) dX7_takesE_354 ?_
          refine v_goto (tgt := 359) dX7_takesE_355 (by decide) ?_
          exact v_zret dX7_takesE_359 rfl (by decide +kernel) (⟨rfl, hq.1.2.2.2.1, hq.1.2.2.1, hq.1.2.2.2.2, hF.trans hq.2.r⟩)
        · rw [show PL tp n key (f + 1) k we (false, o, u, lv) = (none, (nxt tp n k we).2.1) from by rw [PL, if_pos h0, if_neg (fun q => hc q.2)]]
          refine v_ild3 dX7_takesE_28 ?_
          refine v_if_ne (tgt := 39) dX7_takesE_29 (by decide) (fun h29 => absurd h29 (fun q => q rfl)) (fun h29 => ?_)
          refine v_ald0 dX7_takesE_32 ?_
          refine v_geti dX7_takesE_33 gX7_216 sh_92 rfl ?_
          refine v_eq (show Mz 92 9 = nI 0 from by rw [hS.1]; unfold tkN; rw [if_neg (by omega), h0]) ?_
          refine v_if_eq (tgt := 345) dX7_takesE_36 (by decide) (fun h36 => ?_) (fun h36 => absurd h36 (fun q => q rfl))
          refine v_ald0 dX7_takesE_345 ?_
          refine v_iconstN (n := 0) dX7_takesE_346 ?_
          refine v_callVv (kM_settle E Mz (v := 0) (by decide) (by omega) hv hP) dX7_takesE_347 cX7_249 rfl sh_92 rfl (by decide) (Nat.le_of_ble_eq_true rfl) rfl (fun M1z hq => ?_)
          rw [stL_L 0 o u 6 hI.1 (Nat.le_refl _)] at hq
          refine v_ild1 dX7_takesE_350 ?_
          refine v_if_ne (tgt := 358) dX7_takesE_351 (by decide) (fun h351 => ?_) (fun h351 => absurd h351 (nI_ne0 (by omega) (by omega)))
          refine v_iconstN (n := 0) dX7_takesE_358 ?_
          exact v_zret dX7_takesE_359 rfl (by decide +kernel) (⟨rfl, (hq.2.2 8 (by decide) (by decide) (by decide)).trans hS.2.1, hF.trans hq.2.r⟩)
    · obtain ⟨-, h4, n5, n6⟩ : (nxt tp n k we).1 ≠ 0 ∧ (nxt tp n k we).1 ≤ 4 ∧ (nxt tp n k we).2.1 < n ∧ (nxt tp n k we).2.1 < (nxt tp n k we).2.2.1 := by
        rcases nq with ⟨e, -⟩ | e
        · exact absurd e h0
        · exact e
      have hb6 := (hT.2.2 _ n5).2
      have hb : (nxt tp n k we).1 = 3 → tp (nxt tp n k we).2.1 < 256 := fun _ => hb6
      cases wn with
      | true =>
        by_cases c2 : (nxt tp n k we).1 = 2
        · have hn3 : tkN (nxt tp n k we) ≠ 3 := by unfold tkN; split <;> omega
          by_cases hl : (nxt tp n k we).2.2.1 - (nxt tp n k we).2.1 ≤ 4
          · have hs : pS tp key (nxt tp n k we) (true, o, u, lv) = some (false, (drN o (nI (numK tp (nxt tp n k we).2.1 ((nxt tp n k we).2.2.1 - (nxt tp n k we).2.1)) :: u)).1, (drN o (nI (numK tp (nxt tp n k we).2.1 ((nxt tp n k we).2.2.1 - (nxt tp n k we).2.1)) :: u)).2, lv + 1) := by unfold pS; rw [if_pos rfl]; show pW tp key (nxt tp n k we) o u lv = _; unfold pW; rw [if_pos ⟨c2, hl⟩]
            rw [show PL tp n key (f + 1) k we (true, o, u, lv) = PL tp n key f (nxt tp n k we).2.2.1 (nxt tp n k we).2.2.2 (false, (drN o (nI (numK tp (nxt tp n k we).2.1 ((nxt tp n k we).2.2.1 - (nxt tp n k we).2.1)) :: u)).1, (drN o (nI (numK tp (nxt tp n k we).2.1 ((nxt tp n k we).2.2.1 - (nxt tp n k we).2.1)) :: u)).2, lv + 1) from by rw [PL, if_neg h0, hs]]
            have hI2 := PI_step hkey hk hI h0 hs
            refine v_ild3 dX7_takesE_28 ?_
            refine v_if_ne (tgt := 39) dX7_takesE_29 (by decide) (fun h29 => ?_) (fun h29 => absurd h29 (fun q => absurd q (by decide)))
            refine v_ild3 dX7_takesE_39 ?_
            refine v_if_eq (tgt := 180) dX7_takesE_40 (by decide) (fun h40 => absurd h40 (by decide)) (fun h40 => ?_)
            refine v_ald0 dX7_takesE_43 ?_
            refine v_geti dX7_takesE_44 gX7_216 sh_92 rfl ?_
            refine v_eq (hS.1) ?_
            refine v_iconstN (n := 3) dX7_takesE_47 ?_
            refine v_icmpN_ne (tgt := 97) dX7_takesE_48 (by decide) (by omega) (by omega) (fun h48 => ?_) (fun h48 => absurd h48 (hn3))
            refine v_ald0 dX7_takesE_97 ?_
            refine v_geti dX7_takesE_98 gX7_216 sh_92 rfl ?_
            refine v_eq (hS.1) ?_
            refine v_iconstN (n := 3) dX7_takesE_101 ?_
            refine v_icmpN_ne (tgt := 158) dX7_takesE_102 (by decide) (by omega) (by omega) (fun h102 => ?_) (fun h102 => absurd h102 (hn3))
            refine v_ald0 dX7_takesE_158 ?_
            refine v_callVi (kM_part2 E Mz hT hS n2 n3 hkey hk0 hP (by omega) hv n5 h4 (nxt_2 tp we c2) c2 hl) dX7_takesE_159 cX7_252 rfl sh_92 rfl (by decide) (Nat.le_of_ble_eq_true rfl) rfl (fun r M1z hq => ?_)
            obtain ⟨hr1, hP1, hS1, hF1, h102⟩ := hq
            rw [hr1]
            clear hr1
            refine v_if_eq (tgt := 170) dX7_takesE_162 (by decide) (fun h162 => absurd h162 (by decide)) (fun h162 => ?_)
            refine v_iconstN (n := 0) dX7_takesE_165 ?_
            refine v_ist3 dX7_takesE_166 (by decide) ?_
            refine v_goto (tgt := 172) dX7_takesE_167 (by decide) ?_
            refine v_ald0 dX7_takesE_172 ?_
            refine v_callVi (kM_notsOpen E M1z hP1 (by have := drN_len o (nI (numK tp (nxt tp n k we).2.1 ((nxt tp n k we).2.2.1 - (nxt tp n k we).2.1)) :: u); simp at this; omega) (seg_vld hI2.1)) dX7_takesE_173 cX7_256 rfl sh_92 rfl (by decide) (Nat.le_of_ble_eq_true rfl) rfl (fun r2 M2z hq2 => ?_)
            obtain ⟨hr2, hm2⟩ := hq2
            rw [hr2, hm2]
            clear hr2 hm2
            refine v_ist2 dX7_takesE_176 (by decide) ?_
            refine v_goto (tgt := 28) dX7_takesE_177 (by decide) ?_
            exact v_lo (by rw [← (drN_ct o (nI (numK tp (nxt tp n k we).2.1 ((nxt tp n k we).2.2.1 - (nxt tp n k we).2.1)) :: u)).1]; rfl) (kM_loop E A hkey f _ _ (false, (drN o (nI (numK tp (nxt tp n k we).2.1 ((nxt tp n k we).2.2.1 - (nxt tp n k we).2.1)) :: u)).1, (drN o (nI (numK tp (nxt tp n k we).2.1 ((nxt tp n k we).2.2.1 - (nxt tp n k we).2.1)) :: u)).2, lv + 1) M1z (by omega) n3 hI2 (hF1.tp hT) ((hF1.2 12 (by decide) (by decide) (by decide) (by decide)).trans hk0) hP1 (hTs.eq h102 (drN_ct o _).1 (tsd_drN o _)) hS1 (hF.trans hF1))
          · have hn1 : tkN (nxt tp n k we) ≠ 1 := by unfold tkN; rw [if_pos ⟨c2, by omega⟩]; decide
            have hn2 : tkN (nxt tp n k we) ≠ 2 := by unfold tkN; rw [if_pos ⟨c2, by omega⟩]; decide
            rw [show PL tp n key (f + 1) k we (true, o, u, lv) = (none, (nxt tp n k we).2.1) from by rw [PL, if_neg h0, show pS tp key (nxt tp n k we) (true, o, u, lv) = none from by unfold pS; rw [if_pos rfl]; show pW tp key (nxt tp n k we) o u lv = _; unfold pW; rw [if_neg (fun q => hl q.2), if_neg (fun q => by omega), if_neg (fun q => by omega), if_neg (fun q => by omega)]]]
            refine v_ild3 dX7_takesE_28 ?_
            refine v_if_ne (tgt := 39) dX7_takesE_29 (by decide) (fun h29 => ?_) (fun h29 => absurd h29 (fun q => absurd q (by decide)))
            refine v_ild3 dX7_takesE_39 ?_
            refine v_if_eq (tgt := 180) dX7_takesE_40 (by decide) (fun h40 => absurd h40 (by decide)) (fun h40 => ?_)
            refine v_ald0 dX7_takesE_43 ?_
            refine v_geti dX7_takesE_44 gX7_216 sh_92 rfl ?_
            refine v_eq (hS.1) ?_
            refine v_iconstN (n := 3) dX7_takesE_47 ?_
            refine v_icmpN_ne (tgt := 97) dX7_takesE_48 (by decide) (by omega) (by omega) (fun h48 => ?_) (fun h48 => absurd h48 (hn3))
            refine v_ald0 dX7_takesE_97 ?_
            refine v_geti dX7_takesE_98 gX7_216 sh_92 rfl ?_
            refine v_eq (hS.1) ?_
            refine v_iconstN (n := 3) dX7_takesE_101 ?_
            refine v_icmpN_ne (tgt := 158) dX7_takesE_102 (by decide) (by omega) (by omega) (fun h102 => ?_) (fun h102 => absurd h102 (hn3))
            refine v_ald0 dX7_takesE_158 ?_
            refine v_callVi (kM_part0 E Mz hS h4 hn1 hn2) dX7_takesE_159 cX7_252 rfl sh_92 rfl (by decide) (Nat.le_of_ble_eq_true rfl) rfl (fun r M1z hq => ?_)
            obtain ⟨hr1, hm⟩ := hq
            rw [hr1, hm]
            clear hr1 hm
            refine v_if_eq (tgt := 170) dX7_takesE_162 (by decide) (fun h162 => ?_) (fun h162 => absurd h162 (fun q => q rfl))
            refine v_iconstN (n := 0) dX7_takesE_170 ?_
            exact v_zret dX7_takesE_171 rfl (by decide +kernel) (⟨rfl, hS.2.1, hF⟩)
        by_cases c1 : (nxt tp n k we).1 = 1
        · have hn3 : tkN (nxt tp n k we) ≠ 3 := by unfold tkN; split <;> omega
          by_cases hl : (nxt tp n k we).2.2.1 - (nxt tp n k we).2.1 = 1
          · by_cases h9 : nmI key (tp (nxt tp n k we).2.1) = 9
            · rw [show PL tp n key (f + 1) k we (true, o, u, lv) = (none, (nxt tp n k we).2.1) from by rw [PL, if_neg h0, show pS tp key (nxt tp n k we) (true, o, u, lv) = none from by unfold pS; rw [if_pos rfl]; show pW tp key (nxt tp n k we) o u lv = _; unfold pW; rw [if_neg (fun q => c2 q.1), if_neg (fun q => q.2.2 h9), if_neg (fun q => by omega), if_neg (fun q => by omega)]]]
              refine v_ild3 dX7_takesE_28 ?_
              refine v_if_ne (tgt := 39) dX7_takesE_29 (by decide) (fun h29 => ?_) (fun h29 => absurd h29 (fun q => absurd q (by decide)))
              refine v_ild3 dX7_takesE_39 ?_
              refine v_if_eq (tgt := 180) dX7_takesE_40 (by decide) (fun h40 => absurd h40 (by decide)) (fun h40 => ?_)
              refine v_ald0 dX7_takesE_43 ?_
              refine v_geti dX7_takesE_44 gX7_216 sh_92 rfl ?_
              refine v_eq (hS.1) ?_
              refine v_iconstN (n := 3) dX7_takesE_47 ?_
              refine v_icmpN_ne (tgt := 97) dX7_takesE_48 (by decide) (by omega) (by omega) (fun h48 => ?_) (fun h48 => absurd h48 (hn3))
              refine v_ald0 dX7_takesE_97 ?_
              refine v_geti dX7_takesE_98 gX7_216 sh_92 rfl ?_
              refine v_eq (hS.1) ?_
              refine v_iconstN (n := 3) dX7_takesE_101 ?_
              refine v_icmpN_ne (tgt := 158) dX7_takesE_102 (by decide) (by omega) (by omega) (fun h102 => ?_) (fun h102 => absurd h102 (hn3))
              refine v_ald0 dX7_takesE_158 ?_
              refine v_callVi (kM_part1b E Mz hT hS n2 n3 hkey hk0 hP (by omega) hv n5 h4 c1 hl h9) dX7_takesE_159 cX7_252 rfl sh_92 rfl (by decide) (Nat.le_of_ble_eq_true rfl) rfl (fun r M1z hq => ?_)
              obtain ⟨hr1, hm⟩ := hq
              rw [hr1, hm]
              clear hr1 hm
              refine v_if_eq (tgt := 170) dX7_takesE_162 (by decide) (fun h162 => ?_) (fun h162 => absurd h162 (fun q => q rfl))
              refine v_iconstN (n := 0) dX7_takesE_170 ?_
              exact v_zret dX7_takesE_171 rfl (by decide +kernel) (⟨rfl, hS.2.1, hF⟩)
            · have hs : pS tp key (nxt tp n k we) (true, o, u, lv) = some (false, (drN o ((-1 - nI (nmI key (tp (nxt tp n k we).2.1))) :: u)).1, (drN o ((-1 - nI (nmI key (tp (nxt tp n k we).2.1))) :: u)).2, lv + 1) := by unfold pS; rw [if_pos rfl]; show pW tp key (nxt tp n k we) o u lv = _; unfold pW; rw [if_neg (fun q => c2 q.1), if_pos ⟨c1, hl, h9⟩]
              rw [show PL tp n key (f + 1) k we (true, o, u, lv) = PL tp n key f (nxt tp n k we).2.2.1 (nxt tp n k we).2.2.2 (false, (drN o ((-1 - nI (nmI key (tp (nxt tp n k we).2.1))) :: u)).1, (drN o ((-1 - nI (nmI key (tp (nxt tp n k we).2.1))) :: u)).2, lv + 1) from by rw [PL, if_neg h0, hs]]
              have hI2 := PI_step hkey hk hI h0 hs
              refine v_ild3 dX7_takesE_28 ?_
              refine v_if_ne (tgt := 39) dX7_takesE_29 (by decide) (fun h29 => ?_) (fun h29 => absurd h29 (fun q => absurd q (by decide)))
              refine v_ild3 dX7_takesE_39 ?_
              refine v_if_eq (tgt := 180) dX7_takesE_40 (by decide) (fun h40 => absurd h40 (by decide)) (fun h40 => ?_)
              refine v_ald0 dX7_takesE_43 ?_
              refine v_geti dX7_takesE_44 gX7_216 sh_92 rfl ?_
              refine v_eq (hS.1) ?_
              refine v_iconstN (n := 3) dX7_takesE_47 ?_
              refine v_icmpN_ne (tgt := 97) dX7_takesE_48 (by decide) (by omega) (by omega) (fun h48 => ?_) (fun h48 => absurd h48 (hn3))
              refine v_ald0 dX7_takesE_97 ?_
              refine v_geti dX7_takesE_98 gX7_216 sh_92 rfl ?_
              refine v_eq (hS.1) ?_
              refine v_iconstN (n := 3) dX7_takesE_101 ?_
              refine v_icmpN_ne (tgt := 158) dX7_takesE_102 (by decide) (by omega) (by omega) (fun h102 => ?_) (fun h102 => absurd h102 (hn3))
              refine v_ald0 dX7_takesE_158 ?_
              refine v_callVi (kM_part1 E Mz hT hS n2 n3 hkey hk0 hP (by omega) hv n5 h4 c1 hl h9) dX7_takesE_159 cX7_252 rfl sh_92 rfl (by decide) (Nat.le_of_ble_eq_true rfl) rfl (fun r M1z hq => ?_)
              obtain ⟨hr1, hP1, hS1, hF1, h102⟩ := hq
              rw [hr1]
              clear hr1
              refine v_if_eq (tgt := 170) dX7_takesE_162 (by decide) (fun h162 => absurd h162 (by decide)) (fun h162 => ?_)
              refine v_iconstN (n := 0) dX7_takesE_165 ?_
              refine v_ist3 dX7_takesE_166 (by decide) ?_
              refine v_goto (tgt := 172) dX7_takesE_167 (by decide) ?_
              refine v_ald0 dX7_takesE_172 ?_
              refine v_callVi (kM_notsOpen E M1z hP1 (by have := drN_len o ((-1 - nI (nmI key (tp (nxt tp n k we).2.1))) :: u); simp at this; omega) (seg_vld hI2.1)) dX7_takesE_173 cX7_256 rfl sh_92 rfl (by decide) (Nat.le_of_ble_eq_true rfl) rfl (fun r2 M2z hq2 => ?_)
              obtain ⟨hr2, hm2⟩ := hq2
              rw [hr2, hm2]
              clear hr2 hm2
              refine v_ist2 dX7_takesE_176 (by decide) ?_
              refine v_goto (tgt := 28) dX7_takesE_177 (by decide) ?_
              exact v_lo (by rw [← (drN_ct o ((-1 - nI (nmI key (tp (nxt tp n k we).2.1))) :: u)).1]; rfl) (kM_loop E A hkey f _ _ (false, (drN o ((-1 - nI (nmI key (tp (nxt tp n k we).2.1))) :: u)).1, (drN o ((-1 - nI (nmI key (tp (nxt tp n k we).2.1))) :: u)).2, lv + 1) M1z (by omega) n3 hI2 (hF1.tp hT) ((hF1.2 12 (by decide) (by decide) (by decide) (by decide)).trans hk0) hP1 (hTs.eq h102 (drN_ct o _).1 (tsd_drN o _)) hS1 (hF.trans hF1))
          · rw [show PL tp n key (f + 1) k we (true, o, u, lv) = (none, (nxt tp n k we).2.1) from by rw [PL, if_neg h0, show pS tp key (nxt tp n k we) (true, o, u, lv) = none from by unfold pS; rw [if_pos rfl]; show pW tp key (nxt tp n k we) o u lv = _; unfold pW; rw [if_neg (fun q => c2 q.1), if_neg (fun q => hl q.2.1), if_neg (fun q => by omega), if_neg (fun q => by omega)]]]
            refine v_ild3 dX7_takesE_28 ?_
            refine v_if_ne (tgt := 39) dX7_takesE_29 (by decide) (fun h29 => ?_) (fun h29 => absurd h29 (fun q => absurd q (by decide)))
            refine v_ild3 dX7_takesE_39 ?_
            refine v_if_eq (tgt := 180) dX7_takesE_40 (by decide) (fun h40 => absurd h40 (by decide)) (fun h40 => ?_)
            refine v_ald0 dX7_takesE_43 ?_
            refine v_geti dX7_takesE_44 gX7_216 sh_92 rfl ?_
            refine v_eq (hS.1) ?_
            refine v_iconstN (n := 3) dX7_takesE_47 ?_
            refine v_icmpN_ne (tgt := 97) dX7_takesE_48 (by decide) (by omega) (by omega) (fun h48 => ?_) (fun h48 => absurd h48 (hn3))
            refine v_ald0 dX7_takesE_97 ?_
            refine v_geti dX7_takesE_98 gX7_216 sh_92 rfl ?_
            refine v_eq (hS.1) ?_
            refine v_iconstN (n := 3) dX7_takesE_101 ?_
            refine v_icmpN_ne (tgt := 158) dX7_takesE_102 (by decide) (by omega) (by omega) (fun h102 => ?_) (fun h102 => absurd h102 (hn3))
            refine v_ald0 dX7_takesE_158 ?_
            refine v_callVi (kM_part1c E Mz hT hS n2 n3 hkey hk0 hP (by omega) hv n5 h4 c1 hl) dX7_takesE_159 cX7_252 rfl sh_92 rfl (by decide) (Nat.le_of_ble_eq_true rfl) rfl (fun r M1z hq => ?_)
            obtain ⟨hr1, hm⟩ := hq
            rw [hr1, hm]
            clear hr1 hm
            refine v_if_eq (tgt := 170) dX7_takesE_162 (by decide) (fun h162 => ?_) (fun h162 => absurd h162 (fun q => q rfl))
            refine v_iconstN (n := 0) dX7_takesE_170 ?_
            exact v_zret dX7_takesE_171 rfl (by decide +kernel) (⟨rfl, hS.2.1, hF⟩)
        by_cases h3 : (nxt tp n k we).1 = 3
        · have hn1 : tkN (nxt tp n k we) ≠ 1 := by unfold tkN; rw [if_neg (by omega)]; omega
          have hn2 : tkN (nxt tp n k we) ≠ 2 := by unfold tkN; rw [if_neg (by omega)]; omega
          by_cases b33 : tp (nxt tp n k we).2.1 = 33
          · have b40 : tp (nxt tp n k we).2.1 ≠ 40 := by omega
            by_cases hl : ct 33 o < 8
            · have hs : pS tp key (nxt tp n k we) (true, o, u, lv) = some (true, 33 :: o, u, lv) := by unfold pS; rw [if_pos rfl]; show pW tp key (nxt tp n k we) o u lv = _; unfold pW; rw [if_neg (fun q => c2 q.1), if_neg (fun q => c1 q.1), if_pos ⟨h3, b33, hl⟩]
              rw [show PL tp n key (f + 1) k we (true, o, u, lv) = PL tp n key f (nxt tp n k we).2.2.1 (nxt tp n k we).2.2.2 (true, 33 :: o, u, lv) from by rw [PL, if_neg h0, hs]]
              have hI2 := PI_step hkey hk hI h0 hs
              refine v_ild3 dX7_takesE_28 ?_
              refine v_if_ne (tgt := 39) dX7_takesE_29 (by decide) (fun h29 => ?_) (fun h29 => absurd h29 (fun q => absurd q (by decide)))
              refine v_ild3 dX7_takesE_39 ?_
              refine v_if_eq (tgt := 180) dX7_takesE_40 (by decide) (fun h40 => absurd h40 (by decide)) (fun h40 => ?_)
              refine v_ald0 dX7_takesE_43 ?_
              refine v_geti dX7_takesE_44 gX7_216 sh_92 rfl ?_
              refine v_eq (show Mz 92 9 = nI 3 from by rw [hS.1]; unfold tkN; rw [if_neg (by omega), h3]) ?_
              refine v_iconstN (n := 3) dX7_takesE_47 ?_
              refine v_icmpN_ne (tgt := 97) dX7_takesE_48 (by decide) (by omega) (by omega) (fun h48 => absurd h48 (fun q => q rfl)) (fun h48 => ?_)
              refine v_ald0 dX7_takesE_51 ?_
              refine v_geti dX7_takesE_52 gX7_222 sh_92 rfl ?_
              refine v_eq (hS.2.2.2.2.1 (Or.inr h3)) ?_
              refine v_bipushN (n := 33) dX7_takesE_55 (by decide) ?_
              refine v_icmpN_ne (tgt := 97) dX7_takesE_57 (by decide) (by omega) (by omega) (fun h57 => absurd h57 (fun q => q b33)) (fun h57 => ?_)
              refine v_ild2 dX7_takesE_60 ?_
              refine v_bipushN (n := 8) dX7_takesE_61 (by decide) ?_
              refine v_icmpN_ge (tgt := 97) dX7_takesE_63 (by decide) (by omega) (by omega) (fun h63 => absurd h63 (by omega)) (fun h63 => ?_)
              refine v_ald0 dX7_takesE_66 ?_
              refine v_getr dX7_takesE_67 gX7_35 sh_92 rfl ?_
              refine v_ald0 dX7_takesE_70 ?_
              refine v_geti dX7_takesE_71 gX7_234 sh_92 rfl ?_
              refine v_eq (hP.1) ?_
              refine v_bipush (x := -10) dX7_takesE_74 (by decide) ?_
              refine v_iastN dX7_takesE_76 sh_101 (by omega) (by decide) ?_
              refine v_ald0 dX7_takesE_77 ?_
              refine v_dup dX7_takesE_78 ?_
              refine v_geti dX7_takesE_79 gX7_234 sh_92 rfl ?_
              refine v_eq (show (wr Mz 101 o.length (-10)) 92 19 = nI o.length from by rw [wr_ne (by decide)]; exact hP.1) ?_
              refine v_iconstN (n := 1) dX7_takesE_82 ?_
              refine v_iaddN dX7_takesE_83 ?_
              refine v_puti dX7_takesE_84 pX7_234 sh_92 rfl rfl rfl ?_
              refine v_iincN2 (n := 1) dX7_takesE_87 (by decide) ?_
              refine v_ald0 dX7_takesE_90 ?_
              refine v_callVv (kM_go E (wr (wr Mz 101 o.length (-10)) 92 19 (nI (o.length + 1))) ((((FrU.refl Mz).wo (by decide)).w92 (by decide)).tp hT) n3 ((((FrU.refl Mz).wo (by decide)).w92 (by decide)).sc hS).2.2.1 ((((FrU.refl Mz).wo (by decide)).w92 (by decide)).sc hS).2.2.2.1) dX7_takesE_91 cX7_231 rfl sh_92 rfl (by decide) (Nat.le_of_ble_eq_true rfl) rfl (fun M3z hq3 => ?_)
              refine v_goto (tgt := 172) dX7_takesE_94 (by decide) ?_
              refine v_ald0 dX7_takesE_172 ?_
              refine v_callVi (kM_notsOpen E M3z (o := 33 :: o) (hq3.1.ps (PsM_push hP (by decide))) (by simp; omega) (seg_vld hI2.1)) dX7_takesE_173 cX7_256 rfl sh_92 rfl (by decide) (Nat.le_of_ble_eq_true rfl) rfl (fun r2 M2z hq2 => ?_)
              obtain ⟨hr2, hm2⟩ := hq2
              rw [hr2, hm2]
              clear hr2 hm2
              refine v_ist2 dX7_takesE_176 (by decide) ?_
              refine v_goto (tgt := 28) dX7_takesE_177 (by decide) ?_
              exact v_lo (by rw [← ct_n (t := o) (show (33 : Nat) ≠ 40 by decide)]) (kM_loop E A hkey f _ _ (true, 33 :: o, u, lv) M3z (by omega) n3 hI2 (TpM.w ((((FrU.refl Mz).wo (by decide)).w92 (by decide)).tp hT) hq3.1) ((hq3.1.2 12 (by decide)).trans (by rw [wr_at, pk_un (by decide), wr_ne (by decide)]; exact hk0)) (hq3.1.ps (PsM_push hP (by decide))) (hTs.eq (by rw [hq3.1.1 102 (by decide), wr_ne (by decide), wr_ne (by decide)]) (ct_n (by decide)) (fun j => tsd_33)) hq3.2 (hF.trans (((((FrU.refl Mz).wo (by decide)).w92 (by decide)).r).nx hq3.1)))
            · rw [show PL tp n key (f + 1) k we (true, o, u, lv) = (none, (nxt tp n k we).2.1) from by rw [PL, if_neg h0, show pS tp key (nxt tp n k we) (true, o, u, lv) = none from by unfold pS; rw [if_pos rfl]; show pW tp key (nxt tp n k we) o u lv = _; unfold pW; rw [if_neg (fun q => c2 q.1), if_neg (fun q => c1 q.1), if_neg (fun q => hl q.2.2), if_neg (fun q => b40 q.2.1)]]]
              refine v_ild3 dX7_takesE_28 ?_
              refine v_if_ne (tgt := 39) dX7_takesE_29 (by decide) (fun h29 => ?_) (fun h29 => absurd h29 (fun q => absurd q (by decide)))
              refine v_ild3 dX7_takesE_39 ?_
              refine v_if_eq (tgt := 180) dX7_takesE_40 (by decide) (fun h40 => absurd h40 (by decide)) (fun h40 => ?_)
              refine v_ald0 dX7_takesE_43 ?_
              refine v_geti dX7_takesE_44 gX7_216 sh_92 rfl ?_
              refine v_eq (show Mz 92 9 = nI 3 from by rw [hS.1]; unfold tkN; rw [if_neg (by omega), h3]) ?_
              refine v_iconstN (n := 3) dX7_takesE_47 ?_
              refine v_icmpN_ne (tgt := 97) dX7_takesE_48 (by decide) (by omega) (by omega) (fun h48 => absurd h48 (fun q => q rfl)) (fun h48 => ?_)
              refine v_ald0 dX7_takesE_51 ?_
              refine v_geti dX7_takesE_52 gX7_222 sh_92 rfl ?_
              refine v_eq (hS.2.2.2.2.1 (Or.inr h3)) ?_
              refine v_bipushN (n := 33) dX7_takesE_55 (by decide) ?_
              refine v_icmpN_ne (tgt := 97) dX7_takesE_57 (by decide) (by omega) (by omega) (fun h57 => absurd h57 (fun q => q b33)) (fun h57 => ?_)
              refine v_ild2 dX7_takesE_60 ?_
              refine v_bipushN (n := 8) dX7_takesE_61 (by decide) ?_
              refine v_icmpN_ge (tgt := 97) dX7_takesE_63 (by decide) (by omega) (by omega) (fun h63 => ?_) (fun h63 => absurd h63 (by omega))
              refine v_ald0 dX7_takesE_97 ?_
              refine v_geti dX7_takesE_98 gX7_216 sh_92 rfl ?_
              refine v_eq (show Mz 92 9 = nI 3 from by rw [hS.1]; unfold tkN; rw [if_neg (by omega), h3]) ?_
              refine v_iconstN (n := 3) dX7_takesE_101 ?_
              refine v_icmpN_ne (tgt := 158) dX7_takesE_102 (by decide) (by omega) (by omega) (fun h102 => absurd h102 (fun q => q rfl)) (fun h102 => ?_)
              refine v_ald0 dX7_takesE_105 ?_
              refine v_geti dX7_takesE_106 gX7_222 sh_92 rfl ?_
              refine v_eq (hS.2.2.2.2.1 (Or.inr h3)) ?_
              refine v_bipushN (n := 40) dX7_takesE_109 (by decide) ?_
              refine v_icmpN_ne (tgt := 158) dX7_takesE_111 (by decide) (by omega) (by omega) (fun h111 => ?_) (fun h111 => absurd h111 (b40))
              refine v_ald0 dX7_takesE_158 ?_
              refine v_callVi (kM_part0 E Mz hS h4 hn1 hn2) dX7_takesE_159 cX7_252 rfl sh_92 rfl (by decide) (Nat.le_of_ble_eq_true rfl) rfl (fun r M1z hq => ?_)
              obtain ⟨hr1, hm⟩ := hq
              rw [hr1, hm]
              clear hr1 hm
              refine v_if_eq (tgt := 170) dX7_takesE_162 (by decide) (fun h162 => ?_) (fun h162 => absurd h162 (fun q => q rfl))
              refine v_iconstN (n := 0) dX7_takesE_170 ?_
              exact v_zret dX7_takesE_171 rfl (by decide +kernel) (⟨rfl, hS.2.1, hF⟩)
          by_cases b40 : tp (nxt tp n k we).2.1 = 40
          · by_cases hl : ct 40 o < 8
            · have hs : pS tp key (nxt tp n k we) (true, o, u, lv) = some (true, 40 :: o, u, lv) := by unfold pS; rw [if_pos rfl]; show pW tp key (nxt tp n k we) o u lv = _; unfold pW; rw [if_neg (fun q => c2 q.1), if_neg (fun q => c1 q.1), if_neg (fun q => b33 q.2.1), if_pos ⟨h3, b40, hl⟩]
              rw [show PL tp n key (f + 1) k we (true, o, u, lv) = PL tp n key f (nxt tp n k we).2.2.1 (nxt tp n k we).2.2.2 (true, 40 :: o, u, lv) from by rw [PL, if_neg h0, hs]]
              have hI2 := PI_step hkey hk hI h0 hs
              refine v_ild3 dX7_takesE_28 ?_
              refine v_if_ne (tgt := 39) dX7_takesE_29 (by decide) (fun h29 => ?_) (fun h29 => absurd h29 (fun q => absurd q (by decide)))
              refine v_ild3 dX7_takesE_39 ?_
              refine v_if_eq (tgt := 180) dX7_takesE_40 (by decide) (fun h40 => absurd h40 (by decide)) (fun h40 => ?_)
              refine v_ald0 dX7_takesE_43 ?_
              refine v_geti dX7_takesE_44 gX7_216 sh_92 rfl ?_
              refine v_eq (show Mz 92 9 = nI 3 from by rw [hS.1]; unfold tkN; rw [if_neg (by omega), h3]) ?_
              refine v_iconstN (n := 3) dX7_takesE_47 ?_
              refine v_icmpN_ne (tgt := 97) dX7_takesE_48 (by decide) (by omega) (by omega) (fun h48 => absurd h48 (fun q => q rfl)) (fun h48 => ?_)
              refine v_ald0 dX7_takesE_51 ?_
              refine v_geti dX7_takesE_52 gX7_222 sh_92 rfl ?_
              refine v_eq (hS.2.2.2.2.1 (Or.inr h3)) ?_
              refine v_bipushN (n := 33) dX7_takesE_55 (by decide) ?_
              refine v_icmpN_ne (tgt := 97) dX7_takesE_57 (by decide) (by omega) (by omega) (fun h57 => ?_) (fun h57 => absurd h57 (b33))
              refine v_ald0 dX7_takesE_97 ?_
              refine v_geti dX7_takesE_98 gX7_216 sh_92 rfl ?_
              refine v_eq (show Mz 92 9 = nI 3 from by rw [hS.1]; unfold tkN; rw [if_neg (by omega), h3]) ?_
              refine v_iconstN (n := 3) dX7_takesE_101 ?_
              refine v_icmpN_ne (tgt := 158) dX7_takesE_102 (by decide) (by omega) (by omega) (fun h102 => absurd h102 (fun q => q rfl)) (fun h102 => ?_)
              refine v_ald0 dX7_takesE_105 ?_
              refine v_geti dX7_takesE_106 gX7_222 sh_92 rfl ?_
              refine v_eq (hS.2.2.2.2.1 (Or.inr h3)) ?_
              refine v_bipushN (n := 40) dX7_takesE_109 (by decide) ?_
              refine v_icmpN_ne (tgt := 158) dX7_takesE_111 (by decide) (by omega) (by omega) (fun h111 => absurd h111 (fun q => q b40)) (fun h111 => ?_)
              refine v_ild1 dX7_takesE_114 ?_
              refine v_bipushN (n := 8) dX7_takesE_115 (by decide) ?_
              refine v_icmpN_ge (tgt := 158) dX7_takesE_117 (by decide) (by omega) (by omega) (fun h117 => absurd h117 (by omega)) (fun h117 => ?_)
              refine v_ald0 dX7_takesE_120 ?_
              refine v_getr dX7_takesE_121 gX7_35 sh_92 rfl ?_
              refine v_ald0 dX7_takesE_124 ?_
              refine v_geti dX7_takesE_125 gX7_234 sh_92 rfl ?_
              refine v_eq (hP.1) ?_
              refine v_bipush (x := -11) dX7_takesE_128 (by decide) ?_
              refine v_iastN dX7_takesE_130 sh_101 (by omega) (by decide) ?_
              refine v_ald0 dX7_takesE_131 ?_
              refine v_dup dX7_takesE_132 ?_
              refine v_geti dX7_takesE_133 gX7_234 sh_92 rfl ?_
              refine v_eq (show (wr Mz 101 o.length (-11)) 92 19 = nI o.length from by rw [wr_ne (by decide)]; exact hP.1) ?_
              refine v_iconstN (n := 1) dX7_takesE_136 ?_
              refine v_iaddN dX7_takesE_137 ?_
              refine v_puti dX7_takesE_138 pX7_234 sh_92 rfl rfl rfl ?_
              refine v_iincN1 (n := 1) dX7_takesE_141 (by decide) ?_
              refine v_ald0 dX7_takesE_144 ?_
              refine v_getr dX7_takesE_145 gX7_38 sh_92 rfl ?_
              refine v_ild1 dX7_takesE_148 ?_
              refine v_iconstN (n := 0) dX7_takesE_149 ?_
              refine v_zastN dX7_takesE_150 sh_102 (by omega) (by decide) ?_
              refine v_ald0 dX7_takesE_151 ?_
              refine v_callVv (kM_go E (wr (wr (wr Mz 101 o.length (-11)) 92 19 (nI (o.length + 1))) 102 (ct 40 o + 1) (vp_nar .boolean (nI 0))) (TpM_o ((((FrU.refl Mz).wo (by decide)).w92 (by decide)).tp hT)) n3 (ScN_o ((((FrU.refl Mz).wo (by decide)).w92 (by decide)).sc hS)).2.2.1 (ScN_o ((((FrU.refl Mz).wo (by decide)).w92 (by decide)).sc hS)).2.2.2.1) dX7_takesE_152 cX7_231 rfl sh_92 rfl (by decide) (Nat.le_of_ble_eq_true rfl) rfl (fun M3z hq3 => ?_)
              refine v_goto (tgt := 172) dX7_takesE_155 (by decide) ?_
              refine v_ald0 dX7_takesE_172 ?_
              refine v_callVi (kM_notsOpen E M3z (o := 40 :: o) (hq3.1.ps (PsM_o (PsM_push hP (by decide)) rfl)) (by simp; omega) (seg_vld hI2.1)) dX7_takesE_173 cX7_256 rfl sh_92 rfl (by decide) (Nat.le_of_ble_eq_true rfl) rfl (fun r2 M2z hq2 => ?_)
              obtain ⟨hr2, hm2⟩ := hq2
              rw [hr2, hm2]
              clear hr2 hm2
              refine v_ist2 dX7_takesE_176 (by decide) ?_
              refine v_goto (tgt := 28) dX7_takesE_177 (by decide) ?_
              exact v_lo (by rw [← ct_y (x := 40) (t := o)]) (kM_loop E A hkey f _ _ (true, 40 :: o, u, lv) M3z (by omega) n3 hI2 (TpM.w (TpM_o ((((FrU.refl Mz).wo (by decide)).w92 (by decide)).tp hT)) hq3.1) ((hq3.1.2 12 (by decide)).trans (by rw [wr_ne (by decide), wr_at, pk_un (by decide), wr_ne (by decide)]; exact hk0)) (hq3.1.ps (PsM_o (PsM_push hP (by decide)) rfl)) (TsM_40 hTs (by rw [hq3.1.1 102 (by decide), wr_at, wr_ne (by decide), wr_ne (by decide)]; rw [show nI 0 = b2 false from rfl, znar])) hq3.2 (hF.trans ((((((FrU.refl Mz).wo (by decide)).w92 (by decide)).r).wo (by decide)).nx hq3.1)))
            · rw [show PL tp n key (f + 1) k we (true, o, u, lv) = (none, (nxt tp n k we).2.1) from by rw [PL, if_neg h0, show pS tp key (nxt tp n k we) (true, o, u, lv) = none from by unfold pS; rw [if_pos rfl]; show pW tp key (nxt tp n k we) o u lv = _; unfold pW; rw [if_neg (fun q => c2 q.1), if_neg (fun q => c1 q.1), if_neg (fun q => b33 q.2.1), if_neg (fun q => hl q.2.2)]]]
              refine v_ild3 dX7_takesE_28 ?_
              refine v_if_ne (tgt := 39) dX7_takesE_29 (by decide) (fun h29 => ?_) (fun h29 => absurd h29 (fun q => absurd q (by decide)))
              refine v_ild3 dX7_takesE_39 ?_
              refine v_if_eq (tgt := 180) dX7_takesE_40 (by decide) (fun h40 => absurd h40 (by decide)) (fun h40 => ?_)
              refine v_ald0 dX7_takesE_43 ?_
              refine v_geti dX7_takesE_44 gX7_216 sh_92 rfl ?_
              refine v_eq (show Mz 92 9 = nI 3 from by rw [hS.1]; unfold tkN; rw [if_neg (by omega), h3]) ?_
              refine v_iconstN (n := 3) dX7_takesE_47 ?_
              refine v_icmpN_ne (tgt := 97) dX7_takesE_48 (by decide) (by omega) (by omega) (fun h48 => absurd h48 (fun q => q rfl)) (fun h48 => ?_)
              refine v_ald0 dX7_takesE_51 ?_
              refine v_geti dX7_takesE_52 gX7_222 sh_92 rfl ?_
              refine v_eq (hS.2.2.2.2.1 (Or.inr h3)) ?_
              refine v_bipushN (n := 33) dX7_takesE_55 (by decide) ?_
              refine v_icmpN_ne (tgt := 97) dX7_takesE_57 (by decide) (by omega) (by omega) (fun h57 => ?_) (fun h57 => absurd h57 (b33))
              refine v_ald0 dX7_takesE_97 ?_
              refine v_geti dX7_takesE_98 gX7_216 sh_92 rfl ?_
              refine v_eq (show Mz 92 9 = nI 3 from by rw [hS.1]; unfold tkN; rw [if_neg (by omega), h3]) ?_
              refine v_iconstN (n := 3) dX7_takesE_101 ?_
              refine v_icmpN_ne (tgt := 158) dX7_takesE_102 (by decide) (by omega) (by omega) (fun h102 => absurd h102 (fun q => q rfl)) (fun h102 => ?_)
              refine v_ald0 dX7_takesE_105 ?_
              refine v_geti dX7_takesE_106 gX7_222 sh_92 rfl ?_
              refine v_eq (hS.2.2.2.2.1 (Or.inr h3)) ?_
              refine v_bipushN (n := 40) dX7_takesE_109 (by decide) ?_
              refine v_icmpN_ne (tgt := 158) dX7_takesE_111 (by decide) (by omega) (by omega) (fun h111 => absurd h111 (fun q => q b40)) (fun h111 => ?_)
              refine v_ild1 dX7_takesE_114 ?_
              refine v_bipushN (n := 8) dX7_takesE_115 (by decide) ?_
              refine v_icmpN_ge (tgt := 158) dX7_takesE_117 (by decide) (by omega) (by omega) (fun h117 => ?_) (fun h117 => absurd h117 (by omega))
              refine v_ald0 dX7_takesE_158 ?_
              refine v_callVi (kM_part0 E Mz hS h4 hn1 hn2) dX7_takesE_159 cX7_252 rfl sh_92 rfl (by decide) (Nat.le_of_ble_eq_true rfl) rfl (fun r M1z hq => ?_)
              obtain ⟨hr1, hm⟩ := hq
              rw [hr1, hm]
              clear hr1 hm
              refine v_if_eq (tgt := 170) dX7_takesE_162 (by decide) (fun h162 => ?_) (fun h162 => absurd h162 (fun q => q rfl))
              refine v_iconstN (n := 0) dX7_takesE_170 ?_
              exact v_zret dX7_takesE_171 rfl (by decide +kernel) (⟨rfl, hS.2.1, hF⟩)
          rw [show PL tp n key (f + 1) k we (true, o, u, lv) = (none, (nxt tp n k we).2.1) from by rw [PL, if_neg h0, show pS tp key (nxt tp n k we) (true, o, u, lv) = none from by unfold pS; rw [if_pos rfl]; show pW tp key (nxt tp n k we) o u lv = _; unfold pW; rw [if_neg (fun q => c2 q.1), if_neg (fun q => c1 q.1), if_neg (fun q => b33 q.2.1), if_neg (fun q => b40 q.2.1)]]]
          refine v_ild3 dX7_takesE_28 ?_
          refine v_if_ne (tgt := 39) dX7_takesE_29 (by decide) (fun h29 => ?_) (fun h29 => absurd h29 (fun q => absurd q (by decide)))
          refine v_ild3 dX7_takesE_39 ?_
          refine v_if_eq (tgt := 180) dX7_takesE_40 (by decide) (fun h40 => absurd h40 (by decide)) (fun h40 => ?_)
          refine v_ald0 dX7_takesE_43 ?_
          refine v_geti dX7_takesE_44 gX7_216 sh_92 rfl ?_
          refine v_eq (show Mz 92 9 = nI 3 from by rw [hS.1]; unfold tkN; rw [if_neg (by omega), h3]) ?_
          refine v_iconstN (n := 3) dX7_takesE_47 ?_
          refine v_icmpN_ne (tgt := 97) dX7_takesE_48 (by decide) (by omega) (by omega) (fun h48 => absurd h48 (fun q => q rfl)) (fun h48 => ?_)
          refine v_ald0 dX7_takesE_51 ?_
          refine v_geti dX7_takesE_52 gX7_222 sh_92 rfl ?_
          refine v_eq (hS.2.2.2.2.1 (Or.inr h3)) ?_
          refine v_bipushN (n := 33) dX7_takesE_55 (by decide) ?_
          refine v_icmpN_ne (tgt := 97) dX7_takesE_57 (by decide) (by omega) (by omega) (fun h57 => ?_) (fun h57 => absurd h57 (b33))
          refine v_ald0 dX7_takesE_97 ?_
          refine v_geti dX7_takesE_98 gX7_216 sh_92 rfl ?_
          refine v_eq (show Mz 92 9 = nI 3 from by rw [hS.1]; unfold tkN; rw [if_neg (by omega), h3]) ?_
          refine v_iconstN (n := 3) dX7_takesE_101 ?_
          refine v_icmpN_ne (tgt := 158) dX7_takesE_102 (by decide) (by omega) (by omega) (fun h102 => absurd h102 (fun q => q rfl)) (fun h102 => ?_)
          refine v_ald0 dX7_takesE_105 ?_
          refine v_geti dX7_takesE_106 gX7_222 sh_92 rfl ?_
          refine v_eq (hS.2.2.2.2.1 (Or.inr h3)) ?_
          refine v_bipushN (n := 40) dX7_takesE_109 (by decide) ?_
          refine v_icmpN_ne (tgt := 158) dX7_takesE_111 (by decide) (by omega) (by omega) (fun h111 => ?_) (fun h111 => absurd h111 (b40))
          refine v_ald0 dX7_takesE_158 ?_
          refine v_callVi (kM_part0 E Mz hS h4 hn1 hn2) dX7_takesE_159 cX7_252 rfl sh_92 rfl (by decide) (Nat.le_of_ble_eq_true rfl) rfl (fun r M1z hq => ?_)
          obtain ⟨hr1, hm⟩ := hq
          rw [hr1, hm]
          clear hr1 hm
          refine v_if_eq (tgt := 170) dX7_takesE_162 (by decide) (fun h162 => ?_) (fun h162 => absurd h162 (fun q => q rfl))
          refine v_iconstN (n := 0) dX7_takesE_170 ?_
          exact v_zret dX7_takesE_171 rfl (by decide +kernel) (⟨rfl, hS.2.1, hF⟩)
        have hn1 : tkN (nxt tp n k we) ≠ 1 := by unfold tkN; rw [if_neg (by omega)]; omega
        have hn2 : tkN (nxt tp n k we) ≠ 2 := by unfold tkN; rw [if_neg (by omega)]; omega
        have hn3 : tkN (nxt tp n k we) ≠ 3 := by unfold tkN; rw [if_neg (by omega)]; omega
        rw [show PL tp n key (f + 1) k we (true, o, u, lv) = (none, (nxt tp n k we).2.1) from by rw [PL, if_neg h0, show pS tp key (nxt tp n k we) (true, o, u, lv) = none from by unfold pS; rw [if_pos rfl]; show pW tp key (nxt tp n k we) o u lv = _; unfold pW; rw [if_neg (fun q => c2 q.1), if_neg (fun q => c1 q.1), if_neg (fun q => h3 q.1), if_neg (fun q => h3 q.1)]]]
        refine v_ild3 dX7_takesE_28 ?_
        refine v_if_ne (tgt := 39) dX7_takesE_29 (by decide) (fun h29 => ?_) (fun h29 => absurd h29 (fun q => absurd q (by decide)))
        refine v_ild3 dX7_takesE_39 ?_
        refine v_if_eq (tgt := 180) dX7_takesE_40 (by decide) (fun h40 => absurd h40 (by decide)) (fun h40 => ?_)
        refine v_ald0 dX7_takesE_43 ?_
        refine v_geti dX7_takesE_44 gX7_216 sh_92 rfl ?_
        refine v_eq (hS.1) ?_
        refine v_iconstN (n := 3) dX7_takesE_47 ?_
        refine v_icmpN_ne (tgt := 97) dX7_takesE_48 (by decide) (by omega) (by omega) (fun h48 => ?_) (fun h48 => absurd h48 (hn3))
        refine v_ald0 dX7_takesE_97 ?_
        refine v_geti dX7_takesE_98 gX7_216 sh_92 rfl ?_
        refine v_eq (hS.1) ?_
        refine v_iconstN (n := 3) dX7_takesE_101 ?_
        refine v_icmpN_ne (tgt := 158) dX7_takesE_102 (by decide) (by omega) (by omega) (fun h102 => ?_) (fun h102 => absurd h102 (hn3))
        refine v_ald0 dX7_takesE_158 ?_
        refine v_callVi (kM_part0 E Mz hS h4 hn1 hn2) dX7_takesE_159 cX7_252 rfl sh_92 rfl (by decide) (Nat.le_of_ble_eq_true rfl) rfl (fun r M1z hq => ?_)
        obtain ⟨hr1, hm⟩ := hq
        rw [hr1, hm]
        clear hr1 hm
        refine v_if_eq (tgt := 170) dX7_takesE_162 (by decide) (fun h162 => ?_) (fun h162 => absurd h162 (fun q => q rfl))
        refine v_iconstN (n := 0) dX7_takesE_170 ?_
        exact v_zret dX7_takesE_171 rfl (by decide +kernel) (⟨rfl, hS.2.1, hF⟩)
      | false =>
        by_cases h3 : (nxt tp n k we).1 = 3
        · by_cases b41 : tp (nxt tp n k we).2.1 = 41
          · by_cases hc : ct 40 o = 0
            · have hno : ¬ ((nxt tp n k we).1 = 3 ∧ 0 < lev (tp (nxt tp n k we).2.1)) := fun q => by have := q.2; rw [b41] at this; exact absurd this (by decide)
              rw [show PL tp n key (f + 1) k we (false, o, u, lv) = (none, (nxt tp n k we).2.1) from by rw [PL, if_neg h0, show pS tp key (nxt tp n k we) (false, o, u, lv) = none from by unfold pS; rw [if_neg (show ¬ (false = true) by decide)]; show pN tp (nxt tp n k we) o u lv = _; unfold pN; rw [if_neg (fun q => by omega), if_neg hno]]]
              refine v_ild3 dX7_takesE_28 ?_
              refine v_if_ne (tgt := 39) dX7_takesE_29 (by decide) (fun h29 => absurd h29 (fun q => q rfl)) (fun h29 => ?_)
              refine v_ald0 dX7_takesE_32 ?_
              refine v_geti dX7_takesE_33 gX7_216 sh_92 rfl ?_
              refine v_eq (show Mz 92 9 = nI 3 from by rw [hS.1]; unfold tkN; rw [if_neg (by omega), h3]) ?_
              refine v_if_eq (tgt := 345) dX7_takesE_36 (by decide) (fun h36 => absurd h36 (by decide)) (fun h36 => ?_)
              refine v_ild3 dX7_takesE_39 ?_
              refine v_if_eq (tgt := 180) dX7_takesE_40 (by decide) (fun h40 => ?_) (fun h40 => absurd h40 (fun q => q rfl))
              refine v_ald0 dX7_takesE_180 ?_
              refine v_geti dX7_takesE_181 gX7_216 sh_92 rfl ?_
              refine v_eq (show Mz 92 9 = nI 3 from by rw [hS.1]; unfold tkN; rw [if_neg (by omega), h3]) ?_
              refine v_iconstN (n := 3) dX7_takesE_184 ?_
              refine v_icmpN_ne (tgt := 237) dX7_takesE_185 (by decide) (by omega) (by omega) (fun h185 => absurd h185 (fun q => q rfl)) (fun h185 => ?_)
              refine v_ald0 dX7_takesE_188 ?_
              refine v_geti dX7_takesE_189 gX7_222 sh_92 rfl ?_
              refine v_eq (hS.2.2.2.2.1 (Or.inr h3)) ?_
              refine v_bipushN (n := 41) dX7_takesE_192 (by decide) ?_
              refine v_icmpN_ne (tgt := 237) dX7_takesE_194 (by decide) (by omega) (by omega) (fun h194 => absurd h194 (fun q => q b41)) (fun h194 => ?_)
              refine v_ild1 dX7_takesE_197 ?_
              refine v_if_le (tgt := 237) dX7_takesE_198 (by decide) (fun h198 => ?_) (fun h198 => absurd h198 (fun q => q (by rw [hc]; decide)))
              refine v_ald0 dX7_takesE_237 ?_
              refine v_callVi (kM_sign E Mz hS hb h4) dX7_takesE_238 cX7_259 rfl sh_92 rfl (by decide) (Nat.le_of_ble_eq_true rfl) rfl (fun r M1z hq => ?_)
              obtain ⟨hr1, hm⟩ := hq
              rw [hr1, hm, if_neg hno]
              clear hr1 hm
              refine v_ist4 dX7_takesE_241 (by decide) ?_
              refine v_ild4 dX7_takesE_243 ?_
              refine v_if_eq (tgt := 266) dX7_takesE_245 (by decide) (fun h245 => ?_) (fun h245 => absurd h245 (fun q => q rfl))
              refine v_iconstN (n := 0) dX7_takesE_266 ?_
              exact v_zret dX7_takesE_267 rfl (by decide +kernel) (⟨rfl, hS.2.1, hF⟩)
            · obtain ⟨z, hz⟩ := drL_top (u := u) hI.1 hc
              have hlen := drL_len 0 o u
              rw [hz] at hlen
              simp only [List.length_cons] at hlen
              have hcz := drL_ct 0 40 rfl o u
              rw [hz, ct_y] at hcz
              have hsz := drL_seg 0 o u 6 hI.1 (Nat.le_refl _)
              have hvz : ∀ s ∈ z, vld s := fun s h => seg_vld hsz s (by rw [hz]; exact List.mem_cons_of_mem _ h)
              have hs : pS tp key (nxt tp n k we) (false, o, u, lv) = some (false, (drN z (drL 0 o u).2).1, (drN z (drL 0 o u).2).2, lv) := by unfold pS; rw [if_neg (show ¬ (false = true) by decide)]; show pN tp (nxt tp n k we) o u lv = _; unfold pN; rw [if_pos ⟨h3, b41, by omega⟩, hz]; rfl
              rw [show PL tp n key (f + 1) k we (false, o, u, lv) = PL tp n key f (nxt tp n k we).2.2.1 (nxt tp n k we).2.2.2 (false, (drN z (drL 0 o u).2).1, (drN z (drL 0 o u).2).2, lv) from by rw [PL, if_neg h0, hs]]
              have hI2 := PI_step hkey hk hI h0 hs
              refine v_ild3 dX7_takesE_28 ?_
              refine v_if_ne (tgt := 39) dX7_takesE_29 (by decide) (fun h29 => absurd h29 (fun q => q rfl)) (fun h29 => ?_)
              refine v_ald0 dX7_takesE_32 ?_
              refine v_geti dX7_takesE_33 gX7_216 sh_92 rfl ?_
              refine v_eq (show Mz 92 9 = nI 3 from by rw [hS.1]; unfold tkN; rw [if_neg (by omega), h3]) ?_
              refine v_if_eq (tgt := 345) dX7_takesE_36 (by decide) (fun h36 => absurd h36 (by decide)) (fun h36 => ?_)
              refine v_ild3 dX7_takesE_39 ?_
              refine v_if_eq (tgt := 180) dX7_takesE_40 (by decide) (fun h40 => ?_) (fun h40 => absurd h40 (fun q => q rfl))
              refine v_ald0 dX7_takesE_180 ?_
              refine v_geti dX7_takesE_181 gX7_216 sh_92 rfl ?_
              refine v_eq (show Mz 92 9 = nI 3 from by rw [hS.1]; unfold tkN; rw [if_neg (by omega), h3]) ?_
              refine v_iconstN (n := 3) dX7_takesE_184 ?_
              refine v_icmpN_ne (tgt := 237) dX7_takesE_185 (by decide) (by omega) (by omega) (fun h185 => absurd h185 (fun q => q rfl)) (fun h185 => ?_)
              refine v_ald0 dX7_takesE_188 ?_
              refine v_geti dX7_takesE_189 gX7_222 sh_92 rfl ?_
              refine v_eq (hS.2.2.2.2.1 (Or.inr h3)) ?_
              refine v_bipushN (n := 41) dX7_takesE_192 (by decide) ?_
              refine v_icmpN_ne (tgt := 237) dX7_takesE_194 (by decide) (by omega) (by omega) (fun h194 => absurd h194 (fun q => q b41)) (fun h194 => ?_)
              refine v_ild1 dX7_takesE_197 ?_
              refine v_if_le (tgt := 237) dX7_takesE_198 (by decide) (fun h198 => absurd h198 (nI_nle (by omega) (by omega))) (fun h198 => ?_)
              refine v_ald0 dX7_takesE_201 ?_
              refine v_iconstN (n := 0) dX7_takesE_202 ?_
              refine v_callVv (kM_settle E Mz (v := 0) (by decide) (by omega) hv hP) dX7_takesE_203 cX7_249 rfl sh_92 rfl (by decide) (Nat.le_of_ble_eq_true rfl) rfl (fun M1z hq => ?_)
              rw [stL_L 0 o u 6 hI.1 (Nat.le_refl _), hz] at hq
              refine v_ald0 dX7_takesE_206 ?_
              refine v_dup dX7_takesE_207 ?_
              refine v_geti dX7_takesE_208 gX7_234 sh_92 rfl ?_
              refine v_eq (show M1z 92 19 = nI (z.length + 1) from hq.1.1) ?_
              refine v_iconstN (n := 1) dX7_takesE_211 ?_
              refine v_isubN dX7_takesE_212 (by omega) ?_
              refine v_eq (show nI (z.length + 1 - 1) = nI z.length from rfl) ?_
              refine v_puti dX7_takesE_213 pX7_234 sh_92 rfl rfl rfl ?_
              refine v_iinc1 dX7_takesE_216 (by decide) ?_
              refine v_ald0 dX7_takesE_219 ?_
              refine v_bipushN (n := 6) dX7_takesE_220 (by decide) ?_
              refine v_callVv (kM_settle E (wr M1z 92 19 (nI z.length)) (v := 6) (o := z) (u := (drL 0 o u).2) (lv := lv) (key := key) (by decide) (by omega) hvz (PsM_pop hq.1)) dX7_takesE_222 cX7_249 rfl sh_92 rfl (by decide) (Nat.le_of_ble_eq_true rfl) rfl (fun M2z hq2 => ?_)
              rw [stL_N] at hq2
              have hF2 : FrU Mz M2z := (hq.2.w92 (by decide)).trans hq2.2
              have hS2 := hF2.sc hS
              refine v_ald0 dX7_takesE_225 ?_
              refine v_callVi (kM_notsOpen E M2z hq2.1 (by have := drN_len z (drL 0 o u).2; omega) (seg_vld hI2.1)) dX7_takesE_226 cX7_256 rfl sh_92 rfl (by decide) (Nat.le_of_ble_eq_true rfl) rfl (fun r4 M4z hq4 => ?_)
              obtain ⟨hr4, hm4⟩ := hq4
              rw [hr4, hm4]
              clear hr4 hm4
              refine v_ist2 dX7_takesE_229 (by decide) ?_
              refine v_ald0 dX7_takesE_230 ?_
              refine v_callVv (kM_go E M2z (hF2.tp hT) n3 hS2.2.2.1 hS2.2.2.2.1) dX7_takesE_231 cX7_231 rfl sh_92 rfl (by decide) (Nat.le_of_ble_eq_true rfl) rfl (fun M3z hq3 => ?_)
              refine v_goto (tgt := 28) dX7_takesE_234 (by decide) ?_
              exact v_lo (by rw [add_m1, pk_sub (by omega), (drN_ct z (drL 0 o u).2).1, show ct 40 o - 1 = ct 40 z by omega]) (kM_loop E A hkey f _ _ (false, (drN z (drL 0 o u).2).1, (drN z (drL 0 o u).2).2, lv) M3z (by omega) n3 hI2 ((hF2.tp hT).w hq3.1) ((hq3.1.2 12 (by decide)).trans ((hF2.2 12 (by decide) (by decide) (by decide)).trans hk0)) (hq3.1.ps hq2.1) (TsM_cl hTs (by rw [hq3.1.1 102 (by decide)]; exact hF2.1 102 (by decide) (by decide) (by decide)) hz _) hq3.2 (hF.trans (hF2.r.nx hq3.1)))
          by_cases hl0 : 0 < lev (tp (nxt tp n k we).2.1)
          · have n40 : tp (nxt tp n k we).2.1 ≠ 40 := by intro e; rw [e] at hl0; exact absurd hl0 (by decide)
            have n33 : tp (nxt tp n k we).2.1 ≠ 33 := by intro e; rw [e] at hl0; exact absurd hl0 (by decide)
            have hl5 := lev_le (tp (nxt tp n k we).2.1)
            have hlen := drL_len (dlv (lev (tp (nxt tp n k we).2.1))) o u
            have htop := tsd_top o u 6 hI.1 (Nat.le_refl _)
            by_cases hl3 : lev (tp (nxt tp n k we).2.1) = 3
            · cases hts : tsd o (ct 40 o) with
              | true =>
                rw [show PL tp n key (f + 1) k we (false, o, u, lv) = (none, (nxt tp n k we).2.1) from by rw [PL, if_neg h0, show pS tp key (nxt tp n k we) (false, o, u, lv) = none from by unfold pS; rw [if_neg (show ¬ (false = true) by decide)]; show pN tp (nxt tp n k we) o u lv = _; unfold pN; rw [if_neg (fun q => b41 q.2.1), if_pos ⟨h3, hl0⟩, hl3, show dlv 3 = 3 from rfl, if_pos ⟨rfl, htop.mpr hts⟩]]]
                refine v_ild3 dX7_takesE_28 ?_
                refine v_if_ne (tgt := 39) dX7_takesE_29 (by decide) (fun h29 => absurd h29 (fun q => q rfl)) (fun h29 => ?_)
                refine v_ald0 dX7_takesE_32 ?_
                refine v_geti dX7_takesE_33 gX7_216 sh_92 rfl ?_
                refine v_eq (show Mz 92 9 = nI 3 from by rw [hS.1]; unfold tkN; rw [if_neg (by omega), h3]) ?_
                refine v_if_eq (tgt := 345) dX7_takesE_36 (by decide) (fun h36 => absurd h36 (by decide)) (fun h36 => ?_)
                refine v_ild3 dX7_takesE_39 ?_
                refine v_if_eq (tgt := 180) dX7_takesE_40 (by decide) (fun h40 => ?_) (fun h40 => absurd h40 (fun q => q rfl))
                refine v_ald0 dX7_takesE_180 ?_
                refine v_geti dX7_takesE_181 gX7_216 sh_92 rfl ?_
                refine v_eq (show Mz 92 9 = nI 3 from by rw [hS.1]; unfold tkN; rw [if_neg (by omega), h3]) ?_
                refine v_iconstN (n := 3) dX7_takesE_184 ?_
                refine v_icmpN_ne (tgt := 237) dX7_takesE_185 (by decide) (by omega) (by omega) (fun h185 => absurd h185 (fun q => q rfl)) (fun h185 => ?_)
                refine v_ald0 dX7_takesE_188 ?_
                refine v_geti dX7_takesE_189 gX7_222 sh_92 rfl ?_
                refine v_eq (hS.2.2.2.2.1 (Or.inr h3)) ?_
                refine v_bipushN (n := 41) dX7_takesE_192 (by decide) ?_
                refine v_icmpN_ne (tgt := 237) dX7_takesE_194 (by decide) (by omega) (by omega) (fun h194 => ?_) (fun h194 => absurd h194 (b41))
                refine v_ald0 dX7_takesE_237 ?_
                refine v_callVi (kM_sign E Mz hS hb h4) dX7_takesE_238 cX7_259 rfl sh_92 rfl (by decide) (Nat.le_of_ble_eq_true rfl) rfl (fun r M1z hq => ?_)
                obtain ⟨hr1, hm⟩ := hq
                rw [hr1, hm, if_pos ⟨h3, hl0⟩]
                clear hr1 hm
                refine v_ist4 dX7_takesE_241 (by decide) ?_
                refine v_ild4 dX7_takesE_243 ?_
                refine v_if_eq (tgt := 266) dX7_takesE_245 (by decide) (fun h245 => absurd h245 ((sg_rk hl0).2.2.2)) (fun h245 => ?_)
                refine v_ild4 dX7_takesE_248 ?_
                refine v_callSi (kM_rank E Mz) dX7_takesE_250 cX7_237 rfl (by decide) (Nat.le_of_ble_eq_true rfl) rfl (fun r M1z hq => ?_)
                obtain ⟨hr1, hm⟩ := hq
                rw [hr1, hm, (sg_rk hl0).1]
                clear hr1 hm
                refine v_iconstN (n := 3) dX7_takesE_253 ?_
                refine v_icmpN_ne (tgt := 268) dX7_takesE_254 (by decide) (by omega) (by omega) (fun h254 => absurd h254 (fun q => q hl3)) (fun h254 => ?_)
                refine v_ald0 dX7_takesE_257 ?_
                refine v_getr dX7_takesE_258 gX7_38 sh_92 rfl ?_
                refine v_ild1 dX7_takesE_261 ?_
                refine v_zaldN dX7_takesE_262 sh_102 (by omega) (by decide) ?_
                refine v_eq (show Mz 102 (ct 40 o) = b2 true from by rw [hTs _ (Nat.le_refl _), hts]) ?_
                refine v_if_eq (tgt := 268) dX7_takesE_263 (by decide) (fun h263 => absurd h263 (by decide)) (fun h263 => ?_)
                refine v_iconstN (n := 0) dX7_takesE_266 ?_
                exact v_zret dX7_takesE_267 rfl (by decide +kernel) (⟨rfl, hS.2.1, hF⟩)
              | false =>
                have htn : tpl (drL 3 o u).1 ≠ 3 := fun q => by rw [htop.mp q] at hts; cases hts
                have hst : stL (lev (tp (nxt tp n k we).2.1)) o u = drL (dlv (lev (tp (nxt tp n k we).2.1))) o u := by rw [stL_L _ o u 6 hI.1 (Nat.le_refl _)]; rw [hl3]; exact drL_23 o u htn
                have hs : pS tp key (nxt tp n k we) (false, o, u, lv) = some (true, tp (nxt tp n k we).2.1 :: (drL (dlv (lev (tp (nxt tp n k we).2.1))) o u).1, (drL (dlv (lev (tp (nxt tp n k we).2.1))) o u).2, lv) := by unfold pS; rw [if_neg (show ¬ (false = true) by decide)]; show pN tp (nxt tp n k we) o u lv = _; unfold pN; rw [if_neg (fun q => b41 q.2.1), if_pos ⟨h3, hl0⟩, if_neg (fun q => htn (by have := q.2; rw [hl3] at this; exact this))]
                rw [show PL tp n key (f + 1) k we (false, o, u, lv) = PL tp n key f (nxt tp n k we).2.2.1 (nxt tp n k we).2.2.2 (true, tp (nxt tp n k we).2.1 :: (drL (dlv (lev (tp (nxt tp n k we).2.1))) o u).1, (drL (dlv (lev (tp (nxt tp n k we).2.1))) o u).2, lv) from by rw [PL, if_neg h0, hs]]
                have hI2 := PI_step hkey hk hI h0 hs
                refine v_ild3 dX7_takesE_28 ?_
                refine v_if_ne (tgt := 39) dX7_takesE_29 (by decide) (fun h29 => absurd h29 (fun q => q rfl)) (fun h29 => ?_)
                refine v_ald0 dX7_takesE_32 ?_
                refine v_geti dX7_takesE_33 gX7_216 sh_92 rfl ?_
                refine v_eq (show Mz 92 9 = nI 3 from by rw [hS.1]; unfold tkN; rw [if_neg (by omega), h3]) ?_
                refine v_if_eq (tgt := 345) dX7_takesE_36 (by decide) (fun h36 => absurd h36 (by decide)) (fun h36 => ?_)
                refine v_ild3 dX7_takesE_39 ?_
                refine v_if_eq (tgt := 180) dX7_takesE_40 (by decide) (fun h40 => ?_) (fun h40 => absurd h40 (fun q => q rfl))
                refine v_ald0 dX7_takesE_180 ?_
                refine v_geti dX7_takesE_181 gX7_216 sh_92 rfl ?_
                refine v_eq (show Mz 92 9 = nI 3 from by rw [hS.1]; unfold tkN; rw [if_neg (by omega), h3]) ?_
                refine v_iconstN (n := 3) dX7_takesE_184 ?_
                refine v_icmpN_ne (tgt := 237) dX7_takesE_185 (by decide) (by omega) (by omega) (fun h185 => absurd h185 (fun q => q rfl)) (fun h185 => ?_)
                refine v_ald0 dX7_takesE_188 ?_
                refine v_geti dX7_takesE_189 gX7_222 sh_92 rfl ?_
                refine v_eq (hS.2.2.2.2.1 (Or.inr h3)) ?_
                refine v_bipushN (n := 41) dX7_takesE_192 (by decide) ?_
                refine v_icmpN_ne (tgt := 237) dX7_takesE_194 (by decide) (by omega) (by omega) (fun h194 => ?_) (fun h194 => absurd h194 (b41))
                refine v_ald0 dX7_takesE_237 ?_
                refine v_callVi (kM_sign E Mz hS hb h4) dX7_takesE_238 cX7_259 rfl sh_92 rfl (by decide) (Nat.le_of_ble_eq_true rfl) rfl (fun r M1z hq => ?_)
                obtain ⟨hr1, hm⟩ := hq
                rw [hr1, hm, if_pos ⟨h3, hl0⟩]
                clear hr1 hm
                refine v_ist4 dX7_takesE_241 (by decide) ?_
                refine v_ild4 dX7_takesE_243 ?_
                refine v_if_eq (tgt := 266) dX7_takesE_245 (by decide) (fun h245 => absurd h245 ((sg_rk hl0).2.2.2)) (fun h245 => ?_)
                refine v_ild4 dX7_takesE_248 ?_
                refine v_callSi (kM_rank E Mz) dX7_takesE_250 cX7_237 rfl (by decide) (Nat.le_of_ble_eq_true rfl) rfl (fun r M1z hq => ?_)
                obtain ⟨hr1, hm⟩ := hq
                rw [hr1, hm, (sg_rk hl0).1]
                clear hr1 hm
                refine v_iconstN (n := 3) dX7_takesE_253 ?_
                refine v_icmpN_ne (tgt := 268) dX7_takesE_254 (by decide) (by omega) (by omega) (fun h254 => absurd h254 (fun q => q hl3)) (fun h254 => ?_)
                refine v_ald0 dX7_takesE_257 ?_
                refine v_getr dX7_takesE_258 gX7_38 sh_92 rfl ?_
                refine v_ild1 dX7_takesE_261 ?_
                refine v_zaldN dX7_takesE_262 sh_102 (by omega) (by decide) ?_
                refine v_eq (show Mz 102 (ct 40 o) = b2 false from by rw [hTs _ (Nat.le_refl _), hts]) ?_
                refine v_if_eq (tgt := 268) dX7_takesE_263 (by decide) (fun h263 => ?_) (fun h263 => absurd h263 (fun q => q rfl))
                refine v_ald0 dX7_takesE_268 ?_
                refine v_getr dX7_takesE_269 gX7_38 sh_92 rfl ?_
                refine v_ild1 dX7_takesE_272 ?_
                refine v_ild4 dX7_takesE_273 ?_
                refine v_callSi (kM_rank E Mz) dX7_takesE_275 cX7_237 rfl (by decide) (Nat.le_of_ble_eq_true rfl) rfl (fun r M1z hq => ?_)
                obtain ⟨hr1, hm⟩ := hq
                rw [hr1, hm, (sg_rk hl0).1]
                clear hr1 hm
                refine v_iconstN (n := 3) dX7_takesE_278 ?_
                refine v_icmpN_eq (tgt := 300) dX7_takesE_279 (by decide) (by omega) (by omega) (fun h279 => ?_) (fun h279 => absurd h279 (fun q => q hl3))
                refine v_iconstN (n := 1) dX7_takesE_300 ?_
                refine v_goto (tgt := 305) dX7_takesE_301 (by decide) ?_
                refine v_zastN dX7_takesE_305 sh_102 (by omega) (by decide) ?_
                refine v_ald0 dX7_takesE_306 ?_
                refine v_ild4 dX7_takesE_307 ?_
                refine v_callSi (kM_rank E (wr Mz 102 (ct 40 o) (vp_nar .boolean (nI 1)))) dX7_takesE_309 cX7_237 rfl (by decide) (Nat.le_of_ble_eq_true rfl) rfl (fun r M1z hq => ?_)
                obtain ⟨hr1, hm⟩ := hq
                rw [hr1, hm, (sg_rk hl0).1]
                clear hr1 hm
                refine v_callVv (kM_settle E (wr Mz 102 (ct 40 o) (vp_nar .boolean (nI 1))) (v := lev (tp (nxt tp n k we).2.1)) (o := o) (u := u) (lv := lv) (key := key) (by omega) (by omega) hv (PsM_o hP rfl)) dX7_takesE_312 cX7_249 rfl sh_92 rfl (by decide) (Nat.le_of_ble_eq_true rfl) rfl (fun M2z hq2 => ?_)
                rw [hst] at hq2
                have hS2 := hq2.2.sc (ScN_o (x := vp_nar .boolean (nI 1)) (j := ct 40 o) hS)
                refine v_ald0 dX7_takesE_315 ?_
                refine v_getr dX7_takesE_316 gX7_35 sh_92 rfl ?_
                refine v_ald0 dX7_takesE_319 ?_
                refine v_geti dX7_takesE_320 gX7_234 sh_92 rfl ?_
                refine v_eq (hq2.1.1) ?_
                refine v_ild4 dX7_takesE_323 ?_
                refine v_iastN dX7_takesE_325 sh_101 (by omega) (by decide) ?_
                refine v_ald0 dX7_takesE_326 ?_
                refine v_dup dX7_takesE_327 ?_
                refine v_geti dX7_takesE_328 gX7_234 sh_92 rfl ?_
                refine v_eq (show wr M2z 101 (drL (dlv (lev (tp (nxt tp n k we).2.1))) o u).1.length (sgM (tp (nxt tp n k we).2.1)) 92 19 = nI (drL (dlv (lev (tp (nxt tp n k we).2.1))) o u).1.length from by rw [wr_ne (by decide)]; exact hq2.1.1) ?_
                refine v_iconstN (n := 1) dX7_takesE_331 ?_
                refine v_iaddN dX7_takesE_332 ?_
                refine v_puti dX7_takesE_333 pX7_234 sh_92 rfl rfl rfl ?_
                refine v_iconstN (n := 1) dX7_takesE_336 ?_
                refine v_ist3 dX7_takesE_337 (by decide) ?_
                refine v_ald0 dX7_takesE_338 ?_
                refine v_callVv (kM_go E (wr (wr M2z 101 (drL (dlv (lev (tp (nxt tp n k we).2.1))) o u).1.length (sgM (tp (nxt tp n k we).2.1))) 92 19 (nI ((drL (dlv (lev (tp (nxt tp n k we).2.1))) o u).1.length + 1))) ((((FrU.refl M2z).wo (by decide)).w92 (by decide)).tp (hq2.2.tp (TpM_o hT))) n3 ((((FrU.refl M2z).wo (by decide)).w92 (by decide)).sc hS2).2.2.1 ((((FrU.refl M2z).wo (by decide)).w92 (by decide)).sc hS2).2.2.2.1) dX7_takesE_339 cX7_231 rfl sh_92 rfl (by decide) (Nat.le_of_ble_eq_true rfl) rfl (fun M3z hq3 => ?_)
                refine v_goto (tgt := 28) dX7_takesE_342 (by decide) ?_
                refine v_fg4 ?_
                exact v_lo (by rw [show ct 40 (tp (nxt tp n k we).2.1 :: (drL (dlv (lev (tp (nxt tp n k we).2.1))) o u).1) = ct 40 o from by rw [ct_n n40]; exact drL_ct _ 40 rfl o u, show ct 33 (tp (nxt tp n k we).2.1 :: (drL (dlv (lev (tp (nxt tp n k we).2.1))) o u).1) = ct 33 o from by rw [ct_n n33]; exact drL_ct _ 33 rfl o u]; rfl) (kM_loop E A hkey f _ _ (true, tp (nxt tp n k we).2.1 :: (drL (dlv (lev (tp (nxt tp n k we).2.1))) o u).1, (drL (dlv (lev (tp (nxt tp n k we).2.1))) o u).2, lv) M3z (by omega) n3 hI2 (((((FrU.refl M2z).wo (by decide)).w92 (by decide)).tp (hq2.2.tp (TpM_o hT))).w hq3.1) ((hq3.1.2 12 (by decide)).trans (by rw [wr_at, pk_un (by decide), wr_ne (by decide), hq2.2.2 12 (by decide) (by decide) (by decide), wr_ne (by decide)]; exact hk0)) (hq3.1.ps (PsM_push hq2.1 rfl)) (TsM_sg (x := true) hTs hI.1 rfl hl0 (by rw [decide_eq_true hl3]; rfl) (by rw [hq3.1.1 102 (by decide), wr_ne (by decide), wr_ne (by decide), hq2.2.1 102 (by decide) (by decide) (by decide), wr_at, show nI 1 = b2 true from rfl, znar])) hq3.2 (hF.trans (((((FrR.refl Mz).wo (by decide)).trans hq2.2.r).trans ((((FrU.refl M2z).wo (by decide)).w92 (by decide)).r)).nx hq3.1)))
            have hst : stL (lev (tp (nxt tp n k we).2.1)) o u = drL (dlv (lev (tp (nxt tp n k we).2.1))) o u := by rw [stL_L _ o u 6 hI.1 (Nat.le_refl _)]; unfold dlv; rw [if_neg hl3]
            have hs : pS tp key (nxt tp n k we) (false, o, u, lv) = some (true, tp (nxt tp n k we).2.1 :: (drL (dlv (lev (tp (nxt tp n k we).2.1))) o u).1, (drL (dlv (lev (tp (nxt tp n k we).2.1))) o u).2, lv) := by unfold pS; rw [if_neg (show ¬ (false = true) by decide)]; show pN tp (nxt tp n k we) o u lv = _; unfold pN; rw [if_neg (fun q => b41 q.2.1), if_pos ⟨h3, hl0⟩, if_neg (fun q => hl3 q.1)]
            rw [show PL tp n key (f + 1) k we (false, o, u, lv) = PL tp n key f (nxt tp n k we).2.2.1 (nxt tp n k we).2.2.2 (true, tp (nxt tp n k we).2.1 :: (drL (dlv (lev (tp (nxt tp n k we).2.1))) o u).1, (drL (dlv (lev (tp (nxt tp n k we).2.1))) o u).2, lv) from by rw [PL, if_neg h0, hs]]
            have hI2 := PI_step hkey hk hI h0 hs
            by_cases hl4 : 3 < lev (tp (nxt tp n k we).2.1)
            · cases hts : tsd o (ct 40 o) with
              | true =>
                refine v_ild3 dX7_takesE_28 ?_
                refine v_if_ne (tgt := 39) dX7_takesE_29 (by decide) (fun h29 => absurd h29 (fun q => q rfl)) (fun h29 => ?_)
                refine v_ald0 dX7_takesE_32 ?_
                refine v_geti dX7_takesE_33 gX7_216 sh_92 rfl ?_
                refine v_eq (show Mz 92 9 = nI 3 from by rw [hS.1]; unfold tkN; rw [if_neg (by omega), h3]) ?_
                refine v_if_eq (tgt := 345) dX7_takesE_36 (by decide) (fun h36 => absurd h36 (by decide)) (fun h36 => ?_)
                refine v_ild3 dX7_takesE_39 ?_
                refine v_if_eq (tgt := 180) dX7_takesE_40 (by decide) (fun h40 => ?_) (fun h40 => absurd h40 (fun q => q rfl))
                refine v_ald0 dX7_takesE_180 ?_
                refine v_geti dX7_takesE_181 gX7_216 sh_92 rfl ?_
                refine v_eq (show Mz 92 9 = nI 3 from by rw [hS.1]; unfold tkN; rw [if_neg (by omega), h3]) ?_
                refine v_iconstN (n := 3) dX7_takesE_184 ?_
                refine v_icmpN_ne (tgt := 237) dX7_takesE_185 (by decide) (by omega) (by omega) (fun h185 => absurd h185 (fun q => q rfl)) (fun h185 => ?_)
                refine v_ald0 dX7_takesE_188 ?_
                refine v_geti dX7_takesE_189 gX7_222 sh_92 rfl ?_
                refine v_eq (hS.2.2.2.2.1 (Or.inr h3)) ?_
                refine v_bipushN (n := 41) dX7_takesE_192 (by decide) ?_
                refine v_icmpN_ne (tgt := 237) dX7_takesE_194 (by decide) (by omega) (by omega) (fun h194 => ?_) (fun h194 => absurd h194 (b41))
                refine v_ald0 dX7_takesE_237 ?_
                refine v_callVi (kM_sign E Mz hS hb h4) dX7_takesE_238 cX7_259 rfl sh_92 rfl (by decide) (Nat.le_of_ble_eq_true rfl) rfl (fun r M1z hq => ?_)
                obtain ⟨hr1, hm⟩ := hq
                rw [hr1, hm, if_pos ⟨h3, hl0⟩]
                clear hr1 hm
                refine v_ist4 dX7_takesE_241 (by decide) ?_
                refine v_ild4 dX7_takesE_243 ?_
                refine v_if_eq (tgt := 266) dX7_takesE_245 (by decide) (fun h245 => absurd h245 ((sg_rk hl0).2.2.2)) (fun h245 => ?_)
                refine v_ild4 dX7_takesE_248 ?_
                refine v_callSi (kM_rank E Mz) dX7_takesE_250 cX7_237 rfl (by decide) (Nat.le_of_ble_eq_true rfl) rfl (fun r M1z hq => ?_)
                obtain ⟨hr1, hm⟩ := hq
                rw [hr1, hm, (sg_rk hl0).1]
                clear hr1 hm
                refine v_iconstN (n := 3) dX7_takesE_253 ?_
                refine v_icmpN_ne (tgt := 268) dX7_takesE_254 (by decide) (by omega) (by omega) (fun h254 => ?_) (fun h254 => absurd h254 (hl3))
                refine v_ald0 dX7_takesE_268 ?_
                refine v_getr dX7_takesE_269 gX7_38 sh_92 rfl ?_
                refine v_ild1 dX7_takesE_272 ?_
                refine v_ild4 dX7_takesE_273 ?_
                refine v_callSi (kM_rank E Mz) dX7_takesE_275 cX7_237 rfl (by decide) (Nat.le_of_ble_eq_true rfl) rfl (fun r M1z hq => ?_)
                obtain ⟨hr1, hm⟩ := hq
                rw [hr1, hm, (sg_rk hl0).1]
                clear hr1 hm
                refine v_iconstN (n := 3) dX7_takesE_278 ?_
                refine v_icmpN_eq (tgt := 300) dX7_takesE_279 (by decide) (by omega) (by omega) (fun h279 => absurd h279 (hl3)) (fun h279 => ?_)
                refine v_ild4 dX7_takesE_282 ?_
                refine v_callSi (kM_rank E Mz) dX7_takesE_284 cX7_237 rfl (by decide) (Nat.le_of_ble_eq_true rfl) rfl (fun r M1z hq => ?_)
                obtain ⟨hr1, hm⟩ := hq
                rw [hr1, hm, (sg_rk hl0).1]
                clear hr1 hm
                refine v_iconstN (n := 3) dX7_takesE_287 ?_
                refine v_icmpN_le (tgt := 304) dX7_takesE_288 (by decide) (by omega) (by omega) (fun h288 => absurd h288 (by omega)) (fun h288 => ?_)
                refine v_ald0 dX7_takesE_291 ?_
                refine v_getr dX7_takesE_292 gX7_38 sh_92 rfl ?_
                refine v_ild1 dX7_takesE_295 ?_
                refine v_zaldN dX7_takesE_296 sh_102 (by omega) (by decide) ?_
                refine v_eq (show Mz 102 (ct 40 o) = b2 true from by rw [hTs _ (Nat.le_refl _), hts]) ?_
                refine v_if_eq (tgt := 304) dX7_takesE_297 (by decide) (fun h297 => absurd h297 (by decide)) (fun h297 => ?_)
                refine v_iconstN (n := 1) dX7_takesE_300 ?_
                refine v_goto (tgt := 305) dX7_takesE_301 (by decide) ?_
                refine v_zastN dX7_takesE_305 sh_102 (by omega) (by decide) ?_
                refine v_ald0 dX7_takesE_306 ?_
                refine v_ild4 dX7_takesE_307 ?_
                refine v_callSi (kM_rank E (wr Mz 102 (ct 40 o) (vp_nar .boolean (nI 1)))) dX7_takesE_309 cX7_237 rfl (by decide) (Nat.le_of_ble_eq_true rfl) rfl (fun r M1z hq => ?_)
                obtain ⟨hr1, hm⟩ := hq
                rw [hr1, hm, (sg_rk hl0).1]
                clear hr1 hm
                refine v_callVv (kM_settle E (wr Mz 102 (ct 40 o) (vp_nar .boolean (nI 1))) (v := lev (tp (nxt tp n k we).2.1)) (o := o) (u := u) (lv := lv) (key := key) (by omega) (by omega) hv (PsM_o hP rfl)) dX7_takesE_312 cX7_249 rfl sh_92 rfl (by decide) (Nat.le_of_ble_eq_true rfl) rfl (fun M2z hq2 => ?_)
                rw [hst] at hq2
                have hS2 := hq2.2.sc (ScN_o (x := vp_nar .boolean (nI 1)) (j := ct 40 o) hS)
                refine v_ald0 dX7_takesE_315 ?_
                refine v_getr dX7_takesE_316 gX7_35 sh_92 rfl ?_
                refine v_ald0 dX7_takesE_319 ?_
                refine v_geti dX7_takesE_320 gX7_234 sh_92 rfl ?_
                refine v_eq (hq2.1.1) ?_
                refine v_ild4 dX7_takesE_323 ?_
                refine v_iastN dX7_takesE_325 sh_101 (by omega) (by decide) ?_
                refine v_ald0 dX7_takesE_326 ?_
                refine v_dup dX7_takesE_327 ?_
                refine v_geti dX7_takesE_328 gX7_234 sh_92 rfl ?_
                refine v_eq (show wr M2z 101 (drL (dlv (lev (tp (nxt tp n k we).2.1))) o u).1.length (sgM (tp (nxt tp n k we).2.1)) 92 19 = nI (drL (dlv (lev (tp (nxt tp n k we).2.1))) o u).1.length from by rw [wr_ne (by decide)]; exact hq2.1.1) ?_
                refine v_iconstN (n := 1) dX7_takesE_331 ?_
                refine v_iaddN dX7_takesE_332 ?_
                refine v_puti dX7_takesE_333 pX7_234 sh_92 rfl rfl rfl ?_
                refine v_iconstN (n := 1) dX7_takesE_336 ?_
                refine v_ist3 dX7_takesE_337 (by decide) ?_
                refine v_ald0 dX7_takesE_338 ?_
                refine v_callVv (kM_go E (wr (wr M2z 101 (drL (dlv (lev (tp (nxt tp n k we).2.1))) o u).1.length (sgM (tp (nxt tp n k we).2.1))) 92 19 (nI ((drL (dlv (lev (tp (nxt tp n k we).2.1))) o u).1.length + 1))) ((((FrU.refl M2z).wo (by decide)).w92 (by decide)).tp (hq2.2.tp (TpM_o hT))) n3 ((((FrU.refl M2z).wo (by decide)).w92 (by decide)).sc hS2).2.2.1 ((((FrU.refl M2z).wo (by decide)).w92 (by decide)).sc hS2).2.2.2.1) dX7_takesE_339 cX7_231 rfl sh_92 rfl (by decide) (Nat.le_of_ble_eq_true rfl) rfl (fun M3z hq3 => ?_)
                refine v_goto (tgt := 28) dX7_takesE_342 (by decide) ?_
                refine v_fg4 ?_
                exact v_lo (by rw [show ct 40 (tp (nxt tp n k we).2.1 :: (drL (dlv (lev (tp (nxt tp n k we).2.1))) o u).1) = ct 40 o from by rw [ct_n n40]; exact drL_ct _ 40 rfl o u, show ct 33 (tp (nxt tp n k we).2.1 :: (drL (dlv (lev (tp (nxt tp n k we).2.1))) o u).1) = ct 33 o from by rw [ct_n n33]; exact drL_ct _ 33 rfl o u]; rfl) (kM_loop E A hkey f _ _ (true, tp (nxt tp n k we).2.1 :: (drL (dlv (lev (tp (nxt tp n k we).2.1))) o u).1, (drL (dlv (lev (tp (nxt tp n k we).2.1))) o u).2, lv) M3z (by omega) n3 hI2 (((((FrU.refl M2z).wo (by decide)).w92 (by decide)).tp (hq2.2.tp (TpM_o hT))).w hq3.1) ((hq3.1.2 12 (by decide)).trans (by rw [wr_at, pk_un (by decide), wr_ne (by decide), hq2.2.2 12 (by decide) (by decide) (by decide), wr_ne (by decide)]; exact hk0)) (hq3.1.ps (PsM_push hq2.1 rfl)) (TsM_sg (x := true) hTs hI.1 rfl hl0 (by rw [decide_eq_false hl3, decide_eq_true hl4, hts]; rfl) (by rw [hq3.1.1 102 (by decide), wr_ne (by decide), wr_ne (by decide), hq2.2.1 102 (by decide) (by decide) (by decide), wr_at, show nI 1 = b2 true from rfl, znar])) hq3.2 (hF.trans (((((FrR.refl Mz).wo (by decide)).trans hq2.2.r).trans ((((FrU.refl M2z).wo (by decide)).w92 (by decide)).r)).nx hq3.1)))
              | false =>
                refine v_ild3 dX7_takesE_28 ?_
                refine v_if_ne (tgt := 39) dX7_takesE_29 (by decide) (fun h29 => absurd h29 (fun q => q rfl)) (fun h29 => ?_)
                refine v_ald0 dX7_takesE_32 ?_
                refine v_geti dX7_takesE_33 gX7_216 sh_92 rfl ?_
                refine v_eq (show Mz 92 9 = nI 3 from by rw [hS.1]; unfold tkN; rw [if_neg (by omega), h3]) ?_
                refine v_if_eq (tgt := 345) dX7_takesE_36 (by decide) (fun h36 => absurd h36 (by decide)) (fun h36 => ?_)
                refine v_ild3 dX7_takesE_39 ?_
                refine v_if_eq (tgt := 180) dX7_takesE_40 (by decide) (fun h40 => ?_) (fun h40 => absurd h40 (fun q => q rfl))
                refine v_ald0 dX7_takesE_180 ?_
                refine v_geti dX7_takesE_181 gX7_216 sh_92 rfl ?_
                refine v_eq (show Mz 92 9 = nI 3 from by rw [hS.1]; unfold tkN; rw [if_neg (by omega), h3]) ?_
                refine v_iconstN (n := 3) dX7_takesE_184 ?_
                refine v_icmpN_ne (tgt := 237) dX7_takesE_185 (by decide) (by omega) (by omega) (fun h185 => absurd h185 (fun q => q rfl)) (fun h185 => ?_)
                refine v_ald0 dX7_takesE_188 ?_
                refine v_geti dX7_takesE_189 gX7_222 sh_92 rfl ?_
                refine v_eq (hS.2.2.2.2.1 (Or.inr h3)) ?_
                refine v_bipushN (n := 41) dX7_takesE_192 (by decide) ?_
                refine v_icmpN_ne (tgt := 237) dX7_takesE_194 (by decide) (by omega) (by omega) (fun h194 => ?_) (fun h194 => absurd h194 (b41))
                refine v_ald0 dX7_takesE_237 ?_
                refine v_callVi (kM_sign E Mz hS hb h4) dX7_takesE_238 cX7_259 rfl sh_92 rfl (by decide) (Nat.le_of_ble_eq_true rfl) rfl (fun r M1z hq => ?_)
                obtain ⟨hr1, hm⟩ := hq
                rw [hr1, hm, if_pos ⟨h3, hl0⟩]
                clear hr1 hm
                refine v_ist4 dX7_takesE_241 (by decide) ?_
                refine v_ild4 dX7_takesE_243 ?_
                refine v_if_eq (tgt := 266) dX7_takesE_245 (by decide) (fun h245 => absurd h245 ((sg_rk hl0).2.2.2)) (fun h245 => ?_)
                refine v_ild4 dX7_takesE_248 ?_
                refine v_callSi (kM_rank E Mz) dX7_takesE_250 cX7_237 rfl (by decide) (Nat.le_of_ble_eq_true rfl) rfl (fun r M1z hq => ?_)
                obtain ⟨hr1, hm⟩ := hq
                rw [hr1, hm, (sg_rk hl0).1]
                clear hr1 hm
                refine v_iconstN (n := 3) dX7_takesE_253 ?_
                refine v_icmpN_ne (tgt := 268) dX7_takesE_254 (by decide) (by omega) (by omega) (fun h254 => ?_) (fun h254 => absurd h254 (hl3))
                refine v_ald0 dX7_takesE_268 ?_
                refine v_getr dX7_takesE_269 gX7_38 sh_92 rfl ?_
                refine v_ild1 dX7_takesE_272 ?_
                refine v_ild4 dX7_takesE_273 ?_
                refine v_callSi (kM_rank E Mz) dX7_takesE_275 cX7_237 rfl (by decide) (Nat.le_of_ble_eq_true rfl) rfl (fun r M1z hq => ?_)
                obtain ⟨hr1, hm⟩ := hq
                rw [hr1, hm, (sg_rk hl0).1]
                clear hr1 hm
                refine v_iconstN (n := 3) dX7_takesE_278 ?_
                refine v_icmpN_eq (tgt := 300) dX7_takesE_279 (by decide) (by omega) (by omega) (fun h279 => absurd h279 (hl3)) (fun h279 => ?_)
                refine v_ild4 dX7_takesE_282 ?_
                refine v_callSi (kM_rank E Mz) dX7_takesE_284 cX7_237 rfl (by decide) (Nat.le_of_ble_eq_true rfl) rfl (fun r M1z hq => ?_)
                obtain ⟨hr1, hm⟩ := hq
                rw [hr1, hm, (sg_rk hl0).1]
                clear hr1 hm
                refine v_iconstN (n := 3) dX7_takesE_287 ?_
                refine v_icmpN_le (tgt := 304) dX7_takesE_288 (by decide) (by omega) (by omega) (fun h288 => absurd h288 (by omega)) (fun h288 => ?_)
                refine v_ald0 dX7_takesE_291 ?_
                refine v_getr dX7_takesE_292 gX7_38 sh_92 rfl ?_
                refine v_ild1 dX7_takesE_295 ?_
                refine v_zaldN dX7_takesE_296 sh_102 (by omega) (by decide) ?_
                refine v_eq (show Mz 102 (ct 40 o) = b2 false from by rw [hTs _ (Nat.le_refl _), hts]) ?_
                refine v_if_eq (tgt := 304) dX7_takesE_297 (by decide) (fun h297 => ?_) (fun h297 => absurd h297 (fun q => q rfl))
                refine v_iconstN (n := 0) dX7_takesE_304 ?_
                refine v_zastN dX7_takesE_305 sh_102 (by omega) (by decide) ?_
                refine v_ald0 dX7_takesE_306 ?_
                refine v_ild4 dX7_takesE_307 ?_
                refine v_callSi (kM_rank E (wr Mz 102 (ct 40 o) (vp_nar .boolean (nI 0)))) dX7_takesE_309 cX7_237 rfl (by decide) (Nat.le_of_ble_eq_true rfl) rfl (fun r M1z hq => ?_)
                obtain ⟨hr1, hm⟩ := hq
                rw [hr1, hm, (sg_rk hl0).1]
                clear hr1 hm
                refine v_callVv (kM_settle E (wr Mz 102 (ct 40 o) (vp_nar .boolean (nI 0))) (v := lev (tp (nxt tp n k we).2.1)) (o := o) (u := u) (lv := lv) (key := key) (by omega) (by omega) hv (PsM_o hP rfl)) dX7_takesE_312 cX7_249 rfl sh_92 rfl (by decide) (Nat.le_of_ble_eq_true rfl) rfl (fun M2z hq2 => ?_)
                rw [hst] at hq2
                have hS2 := hq2.2.sc (ScN_o (x := vp_nar .boolean (nI 0)) (j := ct 40 o) hS)
                refine v_ald0 dX7_takesE_315 ?_
                refine v_getr dX7_takesE_316 gX7_35 sh_92 rfl ?_
                refine v_ald0 dX7_takesE_319 ?_
                refine v_geti dX7_takesE_320 gX7_234 sh_92 rfl ?_
                refine v_eq (hq2.1.1) ?_
                refine v_ild4 dX7_takesE_323 ?_
                refine v_iastN dX7_takesE_325 sh_101 (by omega) (by decide) ?_
                refine v_ald0 dX7_takesE_326 ?_
                refine v_dup dX7_takesE_327 ?_
                refine v_geti dX7_takesE_328 gX7_234 sh_92 rfl ?_
                refine v_eq (show wr M2z 101 (drL (dlv (lev (tp (nxt tp n k we).2.1))) o u).1.length (sgM (tp (nxt tp n k we).2.1)) 92 19 = nI (drL (dlv (lev (tp (nxt tp n k we).2.1))) o u).1.length from by rw [wr_ne (by decide)]; exact hq2.1.1) ?_
                refine v_iconstN (n := 1) dX7_takesE_331 ?_
                refine v_iaddN dX7_takesE_332 ?_
                refine v_puti dX7_takesE_333 pX7_234 sh_92 rfl rfl rfl ?_
                refine v_iconstN (n := 1) dX7_takesE_336 ?_
                refine v_ist3 dX7_takesE_337 (by decide) ?_
                refine v_ald0 dX7_takesE_338 ?_
                refine v_callVv (kM_go E (wr (wr M2z 101 (drL (dlv (lev (tp (nxt tp n k we).2.1))) o u).1.length (sgM (tp (nxt tp n k we).2.1))) 92 19 (nI ((drL (dlv (lev (tp (nxt tp n k we).2.1))) o u).1.length + 1))) ((((FrU.refl M2z).wo (by decide)).w92 (by decide)).tp (hq2.2.tp (TpM_o hT))) n3 ((((FrU.refl M2z).wo (by decide)).w92 (by decide)).sc hS2).2.2.1 ((((FrU.refl M2z).wo (by decide)).w92 (by decide)).sc hS2).2.2.2.1) dX7_takesE_339 cX7_231 rfl sh_92 rfl (by decide) (Nat.le_of_ble_eq_true rfl) rfl (fun M3z hq3 => ?_)
                refine v_goto (tgt := 28) dX7_takesE_342 (by decide) ?_
                refine v_fg4 ?_
                exact v_lo (by rw [show ct 40 (tp (nxt tp n k we).2.1 :: (drL (dlv (lev (tp (nxt tp n k we).2.1))) o u).1) = ct 40 o from by rw [ct_n n40]; exact drL_ct _ 40 rfl o u, show ct 33 (tp (nxt tp n k we).2.1 :: (drL (dlv (lev (tp (nxt tp n k we).2.1))) o u).1) = ct 33 o from by rw [ct_n n33]; exact drL_ct _ 33 rfl o u]; rfl) (kM_loop E A hkey f _ _ (true, tp (nxt tp n k we).2.1 :: (drL (dlv (lev (tp (nxt tp n k we).2.1))) o u).1, (drL (dlv (lev (tp (nxt tp n k we).2.1))) o u).2, lv) M3z (by omega) n3 hI2 (((((FrU.refl M2z).wo (by decide)).w92 (by decide)).tp (hq2.2.tp (TpM_o hT))).w hq3.1) ((hq3.1.2 12 (by decide)).trans (by rw [wr_at, pk_un (by decide), wr_ne (by decide), hq2.2.2 12 (by decide) (by decide) (by decide), wr_ne (by decide)]; exact hk0)) (hq3.1.ps (PsM_push hq2.1 rfl)) (TsM_sg (x := false) hTs hI.1 rfl hl0 (by rw [decide_eq_false hl3, decide_eq_true hl4, hts]; rfl) (by rw [hq3.1.1 102 (by decide), wr_ne (by decide), wr_ne (by decide), hq2.2.1 102 (by decide) (by decide) (by decide), wr_at, show nI 0 = b2 false from rfl, znar])) hq3.2 (hF.trans (((((FrR.refl Mz).wo (by decide)).trans hq2.2.r).trans ((((FrU.refl M2z).wo (by decide)).w92 (by decide)).r)).nx hq3.1)))
            · refine v_ild3 dX7_takesE_28 ?_
              refine v_if_ne (tgt := 39) dX7_takesE_29 (by decide) (fun h29 => absurd h29 (fun q => q rfl)) (fun h29 => ?_)
              refine v_ald0 dX7_takesE_32 ?_
              refine v_geti dX7_takesE_33 gX7_216 sh_92 rfl ?_
              refine v_eq (show Mz 92 9 = nI 3 from by rw [hS.1]; unfold tkN; rw [if_neg (by omega), h3]) ?_
              refine v_if_eq (tgt := 345) dX7_takesE_36 (by decide) (fun h36 => absurd h36 (by decide)) (fun h36 => ?_)
              refine v_ild3 dX7_takesE_39 ?_
              refine v_if_eq (tgt := 180) dX7_takesE_40 (by decide) (fun h40 => ?_) (fun h40 => absurd h40 (fun q => q rfl))
              refine v_ald0 dX7_takesE_180 ?_
              refine v_geti dX7_takesE_181 gX7_216 sh_92 rfl ?_
              refine v_eq (show Mz 92 9 = nI 3 from by rw [hS.1]; unfold tkN; rw [if_neg (by omega), h3]) ?_
              refine v_iconstN (n := 3) dX7_takesE_184 ?_
              refine v_icmpN_ne (tgt := 237) dX7_takesE_185 (by decide) (by omega) (by omega) (fun h185 => absurd h185 (fun q => q rfl)) (fun h185 => ?_)
              refine v_ald0 dX7_takesE_188 ?_
              refine v_geti dX7_takesE_189 gX7_222 sh_92 rfl ?_
              refine v_eq (hS.2.2.2.2.1 (Or.inr h3)) ?_
              refine v_bipushN (n := 41) dX7_takesE_192 (by decide) ?_
              refine v_icmpN_ne (tgt := 237) dX7_takesE_194 (by decide) (by omega) (by omega) (fun h194 => ?_) (fun h194 => absurd h194 (b41))
              refine v_ald0 dX7_takesE_237 ?_
              refine v_callVi (kM_sign E Mz hS hb h4) dX7_takesE_238 cX7_259 rfl sh_92 rfl (by decide) (Nat.le_of_ble_eq_true rfl) rfl (fun r M1z hq => ?_)
              obtain ⟨hr1, hm⟩ := hq
              rw [hr1, hm, if_pos ⟨h3, hl0⟩]
              clear hr1 hm
              refine v_ist4 dX7_takesE_241 (by decide) ?_
              refine v_ild4 dX7_takesE_243 ?_
              refine v_if_eq (tgt := 266) dX7_takesE_245 (by decide) (fun h245 => absurd h245 ((sg_rk hl0).2.2.2)) (fun h245 => ?_)
              refine v_ild4 dX7_takesE_248 ?_
              refine v_callSi (kM_rank E Mz) dX7_takesE_250 cX7_237 rfl (by decide) (Nat.le_of_ble_eq_true rfl) rfl (fun r M1z hq => ?_)
              obtain ⟨hr1, hm⟩ := hq
              rw [hr1, hm, (sg_rk hl0).1]
              clear hr1 hm
              refine v_iconstN (n := 3) dX7_takesE_253 ?_
              refine v_icmpN_ne (tgt := 268) dX7_takesE_254 (by decide) (by omega) (by omega) (fun h254 => ?_) (fun h254 => absurd h254 (hl3))
              refine v_ald0 dX7_takesE_268 ?_
              refine v_getr dX7_takesE_269 gX7_38 sh_92 rfl ?_
              refine v_ild1 dX7_takesE_272 ?_
              refine v_ild4 dX7_takesE_273 ?_
              refine v_callSi (kM_rank E Mz) dX7_takesE_275 cX7_237 rfl (by decide) (Nat.le_of_ble_eq_true rfl) rfl (fun r M1z hq => ?_)
              obtain ⟨hr1, hm⟩ := hq
              rw [hr1, hm, (sg_rk hl0).1]
              clear hr1 hm
              refine v_iconstN (n := 3) dX7_takesE_278 ?_
              refine v_icmpN_eq (tgt := 300) dX7_takesE_279 (by decide) (by omega) (by omega) (fun h279 => absurd h279 (hl3)) (fun h279 => ?_)
              refine v_ild4 dX7_takesE_282 ?_
              refine v_callSi (kM_rank E Mz) dX7_takesE_284 cX7_237 rfl (by decide) (Nat.le_of_ble_eq_true rfl) rfl (fun r M1z hq => ?_)
              obtain ⟨hr1, hm⟩ := hq
              rw [hr1, hm, (sg_rk hl0).1]
              clear hr1 hm
              refine v_iconstN (n := 3) dX7_takesE_287 ?_
              refine v_icmpN_le (tgt := 304) dX7_takesE_288 (by decide) (by omega) (by omega) (fun h288 => ?_) (fun h288 => absurd h288 (by omega))
              refine v_iconstN (n := 0) dX7_takesE_304 ?_
              refine v_zastN dX7_takesE_305 sh_102 (by omega) (by decide) ?_
              refine v_ald0 dX7_takesE_306 ?_
              refine v_ild4 dX7_takesE_307 ?_
              refine v_callSi (kM_rank E (wr Mz 102 (ct 40 o) (vp_nar .boolean (nI 0)))) dX7_takesE_309 cX7_237 rfl (by decide) (Nat.le_of_ble_eq_true rfl) rfl (fun r M1z hq => ?_)
              obtain ⟨hr1, hm⟩ := hq
              rw [hr1, hm, (sg_rk hl0).1]
              clear hr1 hm
              refine v_callVv (kM_settle E (wr Mz 102 (ct 40 o) (vp_nar .boolean (nI 0))) (v := lev (tp (nxt tp n k we).2.1)) (o := o) (u := u) (lv := lv) (key := key) (by omega) (by omega) hv (PsM_o hP rfl)) dX7_takesE_312 cX7_249 rfl sh_92 rfl (by decide) (Nat.le_of_ble_eq_true rfl) rfl (fun M2z hq2 => ?_)
              rw [hst] at hq2
              have hS2 := hq2.2.sc (ScN_o (x := vp_nar .boolean (nI 0)) (j := ct 40 o) hS)
              refine v_ald0 dX7_takesE_315 ?_
              refine v_getr dX7_takesE_316 gX7_35 sh_92 rfl ?_
              refine v_ald0 dX7_takesE_319 ?_
              refine v_geti dX7_takesE_320 gX7_234 sh_92 rfl ?_
              refine v_eq (hq2.1.1) ?_
              refine v_ild4 dX7_takesE_323 ?_
              refine v_iastN dX7_takesE_325 sh_101 (by omega) (by decide) ?_
              refine v_ald0 dX7_takesE_326 ?_
              refine v_dup dX7_takesE_327 ?_
              refine v_geti dX7_takesE_328 gX7_234 sh_92 rfl ?_
              refine v_eq (show wr M2z 101 (drL (dlv (lev (tp (nxt tp n k we).2.1))) o u).1.length (sgM (tp (nxt tp n k we).2.1)) 92 19 = nI (drL (dlv (lev (tp (nxt tp n k we).2.1))) o u).1.length from by rw [wr_ne (by decide)]; exact hq2.1.1) ?_
              refine v_iconstN (n := 1) dX7_takesE_331 ?_
              refine v_iaddN dX7_takesE_332 ?_
              refine v_puti dX7_takesE_333 pX7_234 sh_92 rfl rfl rfl ?_
              refine v_iconstN (n := 1) dX7_takesE_336 ?_
              refine v_ist3 dX7_takesE_337 (by decide) ?_
              refine v_ald0 dX7_takesE_338 ?_
              refine v_callVv (kM_go E (wr (wr M2z 101 (drL (dlv (lev (tp (nxt tp n k we).2.1))) o u).1.length (sgM (tp (nxt tp n k we).2.1))) 92 19 (nI ((drL (dlv (lev (tp (nxt tp n k we).2.1))) o u).1.length + 1))) ((((FrU.refl M2z).wo (by decide)).w92 (by decide)).tp (hq2.2.tp (TpM_o hT))) n3 ((((FrU.refl M2z).wo (by decide)).w92 (by decide)).sc hS2).2.2.1 ((((FrU.refl M2z).wo (by decide)).w92 (by decide)).sc hS2).2.2.2.1) dX7_takesE_339 cX7_231 rfl sh_92 rfl (by decide) (Nat.le_of_ble_eq_true rfl) rfl (fun M3z hq3 => ?_)
              refine v_goto (tgt := 28) dX7_takesE_342 (by decide) ?_
              refine v_fg4 ?_
              exact v_lo (by rw [show ct 40 (tp (nxt tp n k we).2.1 :: (drL (dlv (lev (tp (nxt tp n k we).2.1))) o u).1) = ct 40 o from by rw [ct_n n40]; exact drL_ct _ 40 rfl o u, show ct 33 (tp (nxt tp n k we).2.1 :: (drL (dlv (lev (tp (nxt tp n k we).2.1))) o u).1) = ct 33 o from by rw [ct_n n33]; exact drL_ct _ 33 rfl o u]; rfl) (kM_loop E A hkey f _ _ (true, tp (nxt tp n k we).2.1 :: (drL (dlv (lev (tp (nxt tp n k we).2.1))) o u).1, (drL (dlv (lev (tp (nxt tp n k we).2.1))) o u).2, lv) M3z (by omega) n3 hI2 (((((FrU.refl M2z).wo (by decide)).w92 (by decide)).tp (hq2.2.tp (TpM_o hT))).w hq3.1) ((hq3.1.2 12 (by decide)).trans (by rw [wr_at, pk_un (by decide), wr_ne (by decide), hq2.2.2 12 (by decide) (by decide) (by decide), wr_ne (by decide)]; exact hk0)) (hq3.1.ps (PsM_push hq2.1 rfl)) (TsM_sg (x := false) hTs hI.1 rfl hl0 (by rw [decide_eq_false hl3, decide_eq_false (show ¬ 3 < lev (tp (nxt tp n k we).2.1) by omega)]; rfl) (by rw [hq3.1.1 102 (by decide), wr_ne (by decide), wr_ne (by decide), hq2.2.1 102 (by decide) (by decide) (by decide), wr_at, show nI 0 = b2 false from rfl, znar])) hq3.2 (hF.trans (((((FrR.refl Mz).wo (by decide)).trans hq2.2.r).trans ((((FrU.refl M2z).wo (by decide)).w92 (by decide)).r)).nx hq3.1)))
          have hno : ¬ ((nxt tp n k we).1 = 3 ∧ 0 < lev (tp (nxt tp n k we).2.1)) := fun q => hl0 q.2
          rw [show PL tp n key (f + 1) k we (false, o, u, lv) = (none, (nxt tp n k we).2.1) from by rw [PL, if_neg h0, show pS tp key (nxt tp n k we) (false, o, u, lv) = none from by unfold pS; rw [if_neg (show ¬ (false = true) by decide)]; show pN tp (nxt tp n k we) o u lv = _; unfold pN; rw [if_neg (fun q => b41 q.2.1), if_neg hno]]]
          refine v_ild3 dX7_takesE_28 ?_
          refine v_if_ne (tgt := 39) dX7_takesE_29 (by decide) (fun h29 => absurd h29 (fun q => q rfl)) (fun h29 => ?_)
          refine v_ald0 dX7_takesE_32 ?_
          refine v_geti dX7_takesE_33 gX7_216 sh_92 rfl ?_
          refine v_eq (show Mz 92 9 = nI 3 from by rw [hS.1]; unfold tkN; rw [if_neg (by omega), h3]) ?_
          refine v_if_eq (tgt := 345) dX7_takesE_36 (by decide) (fun h36 => absurd h36 (by decide)) (fun h36 => ?_)
          refine v_ild3 dX7_takesE_39 ?_
          refine v_if_eq (tgt := 180) dX7_takesE_40 (by decide) (fun h40 => ?_) (fun h40 => absurd h40 (fun q => q rfl))
          refine v_ald0 dX7_takesE_180 ?_
          refine v_geti dX7_takesE_181 gX7_216 sh_92 rfl ?_
          refine v_eq (show Mz 92 9 = nI 3 from by rw [hS.1]; unfold tkN; rw [if_neg (by omega), h3]) ?_
          refine v_iconstN (n := 3) dX7_takesE_184 ?_
          refine v_icmpN_ne (tgt := 237) dX7_takesE_185 (by decide) (by omega) (by omega) (fun h185 => absurd h185 (fun q => q rfl)) (fun h185 => ?_)
          refine v_ald0 dX7_takesE_188 ?_
          refine v_geti dX7_takesE_189 gX7_222 sh_92 rfl ?_
          refine v_eq (hS.2.2.2.2.1 (Or.inr h3)) ?_
          refine v_bipushN (n := 41) dX7_takesE_192 (by decide) ?_
          refine v_icmpN_ne (tgt := 237) dX7_takesE_194 (by decide) (by omega) (by omega) (fun h194 => ?_) (fun h194 => absurd h194 (b41))
          refine v_ald0 dX7_takesE_237 ?_
          refine v_callVi (kM_sign E Mz hS hb h4) dX7_takesE_238 cX7_259 rfl sh_92 rfl (by decide) (Nat.le_of_ble_eq_true rfl) rfl (fun r M1z hq => ?_)
          obtain ⟨hr1, hm⟩ := hq
          rw [hr1, hm, if_neg hno]
          clear hr1 hm
          refine v_ist4 dX7_takesE_241 (by decide) ?_
          refine v_ild4 dX7_takesE_243 ?_
          refine v_if_eq (tgt := 266) dX7_takesE_245 (by decide) (fun h245 => ?_) (fun h245 => absurd h245 (fun q => q rfl))
          refine v_iconstN (n := 0) dX7_takesE_266 ?_
          exact v_zret dX7_takesE_267 rfl (by decide +kernel) (⟨rfl, hS.2.1, hF⟩)
        have hn3 : tkN (nxt tp n k we) ≠ 3 := by unfold tkN; split <;> omega
        have hn0 : 0 < tkN (nxt tp n k we) := by unfold tkN; split <;> omega
        have hno : ¬ ((nxt tp n k we).1 = 3 ∧ 0 < lev (tp (nxt tp n k we).2.1)) := fun q => h3 q.1
        rw [show PL tp n key (f + 1) k we (false, o, u, lv) = (none, (nxt tp n k we).2.1) from by rw [PL, if_neg h0, show pS tp key (nxt tp n k we) (false, o, u, lv) = none from by unfold pS; rw [if_neg (show ¬ (false = true) by decide)]; show pN tp (nxt tp n k we) o u lv = _; unfold pN; rw [if_neg (fun q => h3 q.1), if_neg hno]]]
        refine v_ild3 dX7_takesE_28 ?_
        refine v_if_ne (tgt := 39) dX7_takesE_29 (by decide) (fun h29 => absurd h29 (fun q => q rfl)) (fun h29 => ?_)
        refine v_ald0 dX7_takesE_32 ?_
        refine v_geti dX7_takesE_33 gX7_216 sh_92 rfl ?_
        refine v_eq (hS.1) ?_
        refine v_if_eq (tgt := 345) dX7_takesE_36 (by decide) (fun h36 => absurd h36 (nI_ne0 (by omega) (by omega))) (fun h36 => ?_)
        refine v_ild3 dX7_takesE_39 ?_
        refine v_if_eq (tgt := 180) dX7_takesE_40 (by decide) (fun h40 => ?_) (fun h40 => absurd h40 (fun q => q rfl))
        refine v_ald0 dX7_takesE_180 ?_
        refine v_geti dX7_takesE_181 gX7_216 sh_92 rfl ?_
        refine v_eq (hS.1) ?_
        refine v_iconstN (n := 3) dX7_takesE_184 ?_
        refine v_icmpN_ne (tgt := 237) dX7_takesE_185 (by decide) (by omega) (by omega) (fun h185 => ?_) (fun h185 => absurd h185 (hn3))
        refine v_ald0 dX7_takesE_237 ?_
        refine v_callVi (kM_sign E Mz hS hb h4) dX7_takesE_238 cX7_259 rfl sh_92 rfl (by decide) (Nat.le_of_ble_eq_true rfl) rfl (fun r M1z hq => ?_)
        obtain ⟨hr1, hm⟩ := hq
        rw [hr1, hm, if_neg hno]
        clear hr1 hm
        refine v_ist4 dX7_takesE_241 (by decide) ?_
        refine v_ild4 dX7_takesE_243 ?_
        refine v_if_eq (tgt := 266) dX7_takesE_245 (by decide) (fun h245 => ?_) (fun h245 => absurd h245 (fun q => q rfl))
        refine v_iconstN (n := 0) dX7_takesE_266 ?_
        exact v_zret dX7_takesE_267 rfl (by decide +kernel) (⟨rfl, hS.2.1, hF⟩)
