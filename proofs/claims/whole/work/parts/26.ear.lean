/-! whom to tell it -/
def tell1 (v : fl) (p f : Nat) (c : Int32) : fl := upd (upd v (23 + 10 * p + f) c) (22 + 10 * p) (nI 99)
def tlK (v : fl) (s f : Nat) (c : Int32) : Nat → fl
  | 0 => v
  | p + 1 => if s.testBit p = true then tell1 (tlK v s f c p) p f c else tlK v s f c p
theorem bitD : ∀ s : Fin 256, ∀ p : Fin 8, ((nI s.val >>> (nI p.val &&& 31)) &&& nI 1 = nI 1) ↔ s.val.testBit p.val = true := by decide +kernel
theorem bit_t {s p : Nat} (hs : s < 256) (hp : p < 8) : ((nI s >>> (nI p &&& 31)) &&& nI 1 = nI 1) ↔ s.testBit p = true := bitD ⟨s, hs⟩ ⟨p, hp⟩
theorem shl1D : ∀ p : Fin 9, nI 1 <<< (nI p.val &&& 31) = nI (2 ^ p.val) := by decide +kernel
theorem shl1 {p : Nat} (hp : p < 9) : nI 1 <<< (nI p &&& 31) = nI (2 ^ p) := shl1D ⟨p, hp⟩
theorem CI_tell {v : fl} {W p f : Nat} {c : Int32} (h : CI v W) (hf : f < 6) (hc : inR c 10) : CI (tell1 v p f c) W := CI_upd (CI_upd h (by omega) (by omega) (by omega) (by rw [rg_th hf]; exact hc)) (by omega) (by omega) (by omega) (by rw [rg_su]; exact ⟨99, by decide, rfl⟩)
theorem tl_ok {v : fl} {W s f : Nat} {c : Int32} (h : CI v W) (hf : f < 6) (hc : inR c 10) : ∀ p, p ≤ 8 → CI (tlK v s f c p) W ∧ (∀ i, i < 19 → tlK v s f c p i = v i)
  | 0, _ => ⟨h, fun _ _ => rfl⟩
  | p + 1, hp => by
    obtain ⟨h1, h2⟩ := tl_ok (s := s) h hf hc p (by omega)
    unfold tlK
    split
    · exact ⟨CI_tell h1 hf hc, fun i hi => by unfold tell1; rw [pk_un (by omega), pk_un (by omega)]; exact h2 i hi⟩
    · exact ⟨h1, h2⟩
theorem tl_t {v : fl} {s f p : Nat} {c : Int32} (h : s.testBit p = true) : tlK v s f c (p + 1) = tell1 (tlK v s f c p) p f c := if_pos h
theorem tl_f {v : fl} {s f p : Nat} {c : Int32} (h : ¬ s.testBit p = true) : tlK v s f c (p + 1) = tlK v s f c p := if_neg h
theorem tl_lo {v : fl} {f k : Nat} {c : Int32} : ∀ p, p ≤ k → tlK v (2 ^ k) f c p = v
  | 0, _ => rfl
  | p + 1, h => by rw [tl_f (by rw [Nat.testBit_two_pow_of_ne (by omega)]; decide)]; exact tl_lo p (by omega)
theorem tl_one {v : fl} {f k : Nat} {c : Int32} : ∀ m, tlK v (2 ^ k) f c (k + 1 + m) = tell1 v k f c
  | 0 => by rw [Nat.add_zero, tl_t (Nat.testBit_two_pow_self), tl_lo k (Nat.le_refl _)]
  | m + 1 => by rw [← Nat.add_assoc, tl_f (by rw [Nat.testBit_two_pow_of_ne (by omega)]; decide)]; exact tl_one m
theorem tl_at {v : fl} {f k n : Nat} {c : Int32} (h : k < n) : tlK v (2 ^ k) f c n = tell1 v k f c := by
  have := tl_one (v := v) (f := f) (k := k) (c := c) (n - (k + 1))
  rwa [show k + 1 + (n - (k + 1)) = n by omega] at this
def eaW (pf : p4) (v : fl) (f : Nat) (c : Int32) (n k : Nat) : Int32 := vot (wksS pf (tell1 v k f c) n) f c
def eaK (pf : p4) (v : fl) (f : Nat) (c : Int32) (n : Nat) : Nat → Int32 × Int32
  | 0 => (cNONE, -1)
  | k + 1 => if (eaK pf v f c n k).2 < eaW pf v f c n k then (nI k, eaW pf v f c n k) else eaK pf v f c n k
def gEa (f c n u : Int32) : Bool := isF f && inB c (nI 1) (nI 9) && inB n (nI 0) (nI 60) && inB u (nI 0) (nI 1)
def R_ear (pf : p4) (v : fl) (f c n u : Int32) : Int32 := if gEa f c n u = true then (if pn v = 0 then cNONE else if u = 0 then (eaK pf v (tN f) c (tN n) (pn v)).1 else (eaK pf v (tN f) c (tN n) (pn v)).2) else cBAD
theorem ea_1 {pf : p4} (hpf : PFok pf) {v : fl} {f n : Nat} {c : Int32} (h : CI v 10000) (hf : f < 6) (hc : inR c 10) (hn : n ≤ 60) : eaK pf v f c n 1 = (nI 0, eaW pf v f c n 0) := by
  obtain ⟨m, hm, e⟩ := vot_in (wks_ok hpf (CI_tell (p := 0) h hf hc) n (by omega)).1 f c
  exact if_pos (show (-1 : Int32) < eaW pf v f c n 0 by unfold eaW; rw [e]; exact i_neg1 (by omega))
theorem ea_n {pf : p4} (hpf : PFok pf) {v : fl} {f n : Nat} {c : Int32} (h : CI v 10000) (hf : f < 6) (hc : inR c 10) (hn : n ≤ 60) : ∀ k, k < 8 → ∃ j, j ≤ k ∧ (eaK pf v f c n (k + 1)).1 = nI j
  | 0, _ => ⟨0, Nat.le_refl _, by rw [ea_1 hpf h hf hc hn]⟩
  | k + 1, hk => by
    obtain ⟨j, hj, e⟩ := ea_n hpf h hf hc hn k (by omega)
    by_cases hq : (eaK pf v f c n (k + 1)).2 < eaW pf v f c n (k + 1)
    · exact ⟨k + 1, Nat.le_refl _, by rw [show eaK pf v f c n (k + 1 + 1) = (nI (k + 1), eaW pf v f c n (k + 1)) from if_pos hq]⟩
    · exact ⟨j, by omega, by rw [show eaK pf v f c n (k + 1 + 1) = eaK pf v f c n (k + 1) from if_neg hq]; exact e⟩
set_option maxRecDepth 100000 in
set_option maxHeartbeats 4000000 in
theorem kX_tryTelling (E : ev) (Mz : mm) {s f : Nat} {crop : Int32} {T : Nat} {tt : Nat → tx} (hs : s < 256) (hf : f < 6) (hcr : inR crop 10) (hI : CI (cv Mz 38) 10000) (hT : TxC Mz 38 tt T) : Ct E 3 yX6_tryTelling cX6_tryTelling 5 none [.inr 0, .inl (nI s), .inl (nI f), .inl crop] Mz (qV E (fun M' => cv M' 56 = tlK (cv Mz 38) s f crop (pn (cv Mz 38)) ∧ FrX Mz M' ∧ TxC M' 56 tt T)) := by
  refine ct_of (by decide) (Nat.le_of_ble_eq_true rfl) ?_
  show V E 3 _ _ _ _ _ 0 [some (.inr 0), some (.inl (nI s)), some (.inl (nI f)), some (.inl crop), none] [] Mz
  have hp8 := hI.pn.2
  refine v_ald0 dX6_tryTelling_0 ?_
  refine v_getr dX6_tryTelling_1 gX6_35 sh_0 rfl ?_
  refine v_ald0 dX6_tryTelling_4 ?_
  refine v_getr dX6_tryTelling_5 gX6_28 sh_0 rfl ?_
  refine v_callVv (kC_over_56_38 E Mz) dX6_tryTelling_8 cX6_177 rfl sh_56 rfl (by decide) (Nat.le_of_ble_eq_true rfl) rfl (fun M1z hq1 => ?_)
  obtain ⟨hv1, hl1, hf1⟩ := hq1
  have hI1 : CI (cv M1z 56) 10000 := by rw [hv1]; exact hI
  have hT1 : TxC M1z 56 tt T := hT.over CB.trial hv1 hl1 hf1
  refine v_iconstN (n := 0) dX6_tryTelling_11 ?_
  refine v_ist4 dX6_tryTelling_12 (by decide) ?_
  refine v_loopP (pc := 14) (fun k _ => [some (.inr 0), some (.inl (nI s)), some (.inl (nI f)), some (.inl crop), some (.inl (nI k))]) (fun k Mj => cv Mj 56 = tlK (cv Mz 38) s f crop k ∧ FrX Mz Mj ∧ TxC Mj 56 tt T) (pn (cv Mz 38)) (rfl) (⟨hv1, FrX.t hf1, hT1⟩) (fun k Mj hk hM ih => ?_) (fun Mj hM => ?_)
  · obtain ⟨hv, hfx, hTk⟩ := hM
    obtain ⟨hIk, hlo⟩ := tl_ok (s := s) hI hf hcr k (by omega)
    have hpk : Mj 38 1 = nI (pn (cv Mz 38)) := by rw [hfx 38 (by omega) (by omega) (by omega) (by omega)]; exact hI.pn.1
    have hk8 : k < 8 := by omega
    refine v_ild4 dX6_tryTelling_14 ?_
    refine v_ald0 dX6_tryTelling_16 ?_
    refine v_getr dX6_tryTelling_17 gX6_28 sh_0 rfl ?_
    refine v_geti dX6_tryTelling_20 gX6_68 sh_38 rfl ?_
    refine v_eq (hpk) ?_
    refine v_icmpN_ge (tgt := 65) dX6_tryTelling_23 (by decide) (by omega) (by omega) (fun h23 => absurd h23 (by omega)) (fun h23 => ?_)
    refine v_ild1 dX6_tryTelling_26 ?_
    refine v_ild4 dX6_tryTelling_27 ?_
    refine v_ishr dX6_tryTelling_29 ?_
    refine v_iconstN (n := 1) dX6_tryTelling_30 ?_
    refine v_iand dX6_tryTelling_31 ?_
    refine v_iconstN (n := 1) dX6_tryTelling_32 ?_
    refine v_icmp_ne (tgt := 59) dX6_tryTelling_33 (by decide) (fun h33 => ?_) (fun h33 => ?_)
    · refine v_iincN4 (n := 1) dX6_tryTelling_59 (by decide) ?_
      refine v_goto (tgt := 14) dX6_tryTelling_62 (by decide) ?_
      exact ih _ ⟨by rw [hv, tl_f (fun q => h33 ((bit_t hs hk8).mpr q))], hfx, hTk⟩
    · refine v_ald0 dX6_tryTelling_36 ?_
      refine v_getr dX6_tryTelling_37 gX6_35 sh_0 rfl ?_
      refine v_ild4 dX6_tryTelling_40 ?_
      refine v_ild2 dX6_tryTelling_42 ?_
      refine v_ild3 dX6_tryTelling_43 ?_
      refine v_callVv (kC_think E Mj CB.trial hk8 hf) dX6_tryTelling_44 cX6_118 rfl sh_56 rfl (by decide) (Nat.le_of_ble_eq_true rfl) rfl (fun M2z hq2 => ?_)
      rw [hq2]
      clear hq2
      refine v_ald0 dX6_tryTelling_47 ?_
      refine v_getr dX6_tryTelling_48 gX6_35 sh_0 rfl ?_
      refine v_getr dX6_tryTelling_51 gX6_89 sh_56 rfl ?_
      refine v_ild4 dX6_tryTelling_54 ?_
      refine v_bipushN (n := 99) dX6_tryTelling_56 (by decide) ?_
      refine v_iastN dX6_tryTelling_58 sh_60 (by omega) (by decide) ?_
      refine v_iincN4 (n := 1) dX6_tryTelling_59 (by decide) ?_
      refine v_goto (tgt := 14) dX6_tryTelling_62 (by decide) ?_
      have hcv2 : cv (wr (wr Mj (56 + 5) (k * 6 + f) crop) 60 k (nI 99)) 56 = tlK (cv Mz 38) s f crop (k + 1) := by rw [cv_usu (c := 56) hk8, cv_uth (c := 56) hk8 hf, hv, tl_t ((bit_t hs hk8).mp h33)]; rfl
      exact ih _ ⟨hcv2, hfx.tr ((FrX.c (FrC.w _ (by decide))).tr (FrX.c (FrC.w _ (by decide)))), hTk.fr CB.trial ((FrC.w _ (by decide)).tr (FrC.w _ (by decide))) (by rw [hcv2, hv, (tl_ok (s := s) hI hf hcr (k + 1) (by omega)).2 6 (by decide), hlo 6 (by decide)])⟩
  · obtain ⟨hv, hfx, hTk⟩ := hM
    have hpk : Mj 38 1 = nI (pn (cv Mz 38)) := by rw [hfx 38 (by omega) (by omega) (by omega) (by omega)]; exact hI.pn.1
    refine v_ild4 dX6_tryTelling_14 ?_
    refine v_ald0 dX6_tryTelling_16 ?_
    refine v_getr dX6_tryTelling_17 gX6_28 sh_0 rfl ?_
    refine v_geti dX6_tryTelling_20 gX6_68 sh_38 rfl ?_
    refine v_eq (hpk) ?_
    refine v_icmpN_ge (tgt := 65) dX6_tryTelling_23 (by decide) (by omega) (by omega) (fun h23 => ?_) (fun h23 => absurd h23 (by omega))
    exact v_vret dX6_tryTelling_65 rfl (⟨hv, hfx, hTk⟩)
set_option maxRecDepth 100000 in
set_option maxHeartbeats 4000000 in
theorem kM_isTold (E : ev) (Mz : mm) {p f : Nat} {crop : Int32} (hp : p < 8) (hf : f < 6) : Ct E 1 yX7_isTold cX7_isTold 4 none [.inr 92, .inl (nI p), .inl (nI f), .inl crop] Mz (qV E (fun M' => mv M' = tell1 (mv Mz) p f crop ∧ FrM Mz M')) := by
  refine ct_of (by decide) (Nat.le_of_ble_eq_true rfl) ?_
  show V E 1 _ _ _ _ _ 0 [some (.inr 92), some (.inl (nI p)), some (.inl (nI f)), some (.inl crop)] [] Mz
  refine v_ald0 dX7_isTold_0 ?_
  refine v_ild1 dX7_isTold_1 ?_
  refine v_iconstN (n := 4) dX7_isTold_2 ?_
  refine v_ild2 dX7_isTold_3 ?_
  refine v_iaddN dX7_isTold_4 ?_
  refine v_ild3 dX7_isTold_5 ?_
  refine v_callVv (kM_put E _ hp (by omega)) dX7_isTold_6 cX7_115 rfl sh_92 rfl (by decide) (Nat.le_of_ble_eq_true rfl) rfl (fun M1z hq => ?_)
  rw [hq]
  clear hq
  refine v_ald0 dX7_isTold_9 ?_
  refine v_ild1 dX7_isTold_10 ?_
  refine v_iconstN (n := 3) dX7_isTold_11 ?_
  refine v_bipushN (n := 99) dX7_isTold_12 (by decide) ?_
  refine v_callVv (kM_put E _ hp (by omega)) dX7_isTold_14 cX7_115 rfl sh_92 rfl (by decide) (Nat.le_of_ble_eq_true rfl) rfl (fun M1z hq => ?_)
  rw [hq]
  clear hq
  exact v_vret dX7_isTold_17 rfl (⟨by rw [mv_u (by omega), mv_u (by omega), show 19 + 10 * p + 3 = 22 + 10 * p by omega, show 19 + 10 * p + (4 + f) = 23 + 10 * p + f by omega]; rfl, (FrM.w _ (by omega)).tr (FrM.w _ (by omega))⟩)
def gG (pf : p4) (v : fl) (f : Nat) (c : Int32) (n s : Nat) : Bool := decide (fc (wksS pf (tlK v s f c (pn v)) n) f = c)
set_option maxRecDepth 100000 in
set_option maxHeartbeats 4000000 in
theorem kM_doesGrow (E : ev) (Mz : mm) {A : mm} {s f n : Nat} {crop : Int32} {T : Nat} {tt : Nat → tx} (hs : s < 256) (hf : f < 6) (hcr : inR crop 10) (hn : n ≤ 60) (hI : CI (mv A) 10000) (hT : TxM A tt T) (hD : DR A Mz) (he : Mz 93 = A 93) : Ct E 8 yX7_doesGrow cX7_doesGrow 6 (some .boolean) [.inr 92, .inl (nI s), .inl (nI f), .inl crop, .inl (nI n)] Mz (qI E (fun r M' => r = b2 (gG (pfT tt T) (mv A) f crop n s) ∧ DR A M' ∧ M' 93 = A 93)) := by
  refine ct_of (by decide) (Nat.le_of_ble_eq_true rfl) ?_
  show V E 8 _ _ _ _ _ 0 [some (.inr 92), some (.inl (nI s)), some (.inl (nI f)), some (.inl crop), some (.inl (nI n)), none] [] Mz
  have hp8 := hI.pn.2
  refine v_iconstN (n := 0) dX7_doesGrow_0 ?_
  refine v_ist5 dX7_doesGrow_1 (by decide) ?_
  refine v_loopP (pc := 3) (fun k _ => [some (.inr 92), some (.inl (nI s)), some (.inl (nI f)), some (.inl crop), some (.inl (nI n)), some (.inl (nI k))]) (fun k Mj => mv Mj = tlK (mv A) s f crop k ∧ DR A Mj) (pn (mv A)) (rfl) (⟨mv_93 he, hD⟩) (fun k Mj hk hM ih => ?_) (fun Mj hM => ?_)
  · obtain ⟨hv, hd⟩ := hM
    obtain ⟨hIk, hlo⟩ := tl_ok (s := s) hI hf hcr k (by omega)
    have hpk : Mj 93 1 = nI (pn (mv A)) := ((congrFun hv 1).trans (hlo 1 (by decide))).trans hI.pn.1
    have hk8 : k < 8 := by omega
    refine v_ild5 dX7_doesGrow_3 ?_
    refine v_ald0 dX7_doesGrow_5 ?_
    refine v_getr dX7_doesGrow_6 gX7_9 sh_92 rfl ?_
    refine v_iconstN (n := 1) dX7_doesGrow_9 ?_
    refine v_ialdN dX7_doesGrow_10 sh_93 (by omega) (by decide) ?_
    refine v_eq (hpk) ?_
    refine v_icmpN_ge (tgt := 38) dX7_doesGrow_11 (by decide) (by omega) (by omega) (fun h11 => absurd h11 (by omega)) (fun h11 => ?_)
    refine v_ild1 dX7_doesGrow_14 ?_
    refine v_ild5 dX7_doesGrow_15 ?_
    refine v_ishr dX7_doesGrow_17 ?_
    refine v_iconstN (n := 1) dX7_doesGrow_18 ?_
    refine v_iand dX7_doesGrow_19 ?_
    refine v_iconstN (n := 1) dX7_doesGrow_20 ?_
    refine v_icmp_ne (tgt := 32) dX7_doesGrow_21 (by decide) (fun h21 => ?_) (fun h21 => ?_)
    · refine v_iincN5 (n := 1) dX7_doesGrow_32 (by decide) ?_
      refine v_goto (tgt := 3) dX7_doesGrow_35 (by decide) ?_
      exact ih _ ⟨by rw [hv, tl_f (fun q => h21 ((bit_t hs hk8).mpr q))], hd⟩
    · refine v_ald0 dX7_doesGrow_24 ?_
      refine v_ild5 dX7_doesGrow_25 ?_
      refine v_ild2 dX7_doesGrow_27 ?_
      refine v_ild3 dX7_doesGrow_28 ?_
      refine v_callVv (kM_isTold E Mj hk8 hf) dX7_doesGrow_29 cX7_192 rfl sh_92 rfl (by decide) (Nat.le_of_ble_eq_true rfl) rfl (fun M2z hq2 => ?_)
      refine v_iincN5 (n := 1) dX7_doesGrow_32 (by decide) ?_
      refine v_goto (tgt := 3) dX7_doesGrow_35 (by decide) ?_
      exact ih _ ⟨by rw [hq2.1, hv, tl_t ((bit_t hs hk8).mp h21)], hd.fr hq2.2⟩
  · obtain ⟨hv, hd⟩ := hM
    obtain ⟨hIk, hlo⟩ := tl_ok (s := s) hI hf hcr (pn (mv A)) hI.pn.2
    have hpk : Mj 93 1 = nI (pn (mv A)) := ((congrFun hv 1).trans (hlo 1 (by decide))).trans hI.pn.1
    rw [← hv] at hIk
    have hTk : TxM Mj tt T := hT.dr hd (by rw [hv]; exact hlo 6 (by decide))
    refine v_ild5 dX7_doesGrow_3 ?_
    refine v_ald0 dX7_doesGrow_5 ?_
    refine v_getr dX7_doesGrow_6 gX7_9 sh_92 rfl ?_
    refine v_iconstN (n := 1) dX7_doesGrow_9 ?_
    refine v_ialdN dX7_doesGrow_10 sh_93 (by omega) (by decide) ?_
    refine v_eq (hpk) ?_
    refine v_icmpN_ge (tgt := 38) dX7_doesGrow_11 (by decide) (by omega) (by omega) (fun h11 => ?_) (fun h11 => absurd h11 (by omega))
    refine v_ald0 dX7_doesGrow_38 ?_
    refine v_ild4 dX7_doesGrow_39 ?_
    refine v_callVv (kM_goesOn E Mj hIk (by omega) hTk) dX7_doesGrow_41 cX7_172 rfl sh_92 rfl (by decide) (Nat.le_of_ble_eq_true rfl) rfl (fun M2z hq2 => ?_)
    have hI2 : CI (mv M2z) (10000 + n) := by rw [hq2.1]; exact (wks_ok (pfT_ok tt T) hIk n (by omega)).1
    have hd2 := hd.fr hq2.2
    refine v_ald0 dX7_doesGrow_44 ?_
    refine v_ild2 dX7_doesGrow_45 ?_
    refine v_callVi (kM_firstOf E M2z hf hI2) dX7_doesGrow_46 cX7_93 rfl sh_92 rfl (by decide) (Nat.le_of_ble_eq_true rfl) rfl (fun r3 M3z hq3 => ?_)
    obtain ⟨hr3, hm3⟩ := hq3
    rw [hr3, hm3]
    clear hr3 hm3
    refine v_ild3 dX7_doesGrow_49 ?_
    refine v_icmp_ne (tgt := 57) dX7_doesGrow_50 (by decide) (fun h50 => ?_) (fun h50 => ?_)
    · refine v_iconstN (n := 0) dX7_doesGrow_57 ?_
      refine v_ist5 dX7_doesGrow_58 (by decide) ?_
      refine v_ald0 dX7_doesGrow_60 ?_
      refine v_callVv (kM_putsBack E M2z) dX7_doesGrow_61 cX7_188 rfl sh_92 rfl (by decide) (Nat.le_of_ble_eq_true rfl) rfl (fun M4z hq4 => ?_)
      rw [hq4]
      clear hq4
      refine v_ild5 dX7_doesGrow_64 ?_
      exact v_zret dX7_doesGrow_66 rfl (by decide +kernel) (⟨by unfold gG; rw [decide_eq_false (by rw [← hv, ← hq2.1]; exact h50)]; rfl, hd2.back.1, hd2.back.2⟩)
    · refine v_iconstN (n := 1) dX7_doesGrow_53 ?_
      refine v_goto (tgt := 58) dX7_doesGrow_54 (by decide) ?_
      refine v_ist5 dX7_doesGrow_58 (by decide) ?_
      refine v_ald0 dX7_doesGrow_60 ?_
      refine v_callVv (kM_putsBack E M2z) dX7_doesGrow_61 cX7_188 rfl sh_92 rfl (by decide) (Nat.le_of_ble_eq_true rfl) rfl (fun M4z hq4 => ?_)
      rw [hq4]
      clear hq4
      refine v_ild5 dX7_doesGrow_64 ?_
      exact v_zret dX7_doesGrow_66 rfl (by decide +kernel) (⟨by unfold gG; rw [decide_eq_true (by rw [← hv, ← hq2.1]; exact h50)]; rfl, hd2.back.1, hd2.back.2⟩)
set_option maxRecDepth 100000 in
set_option maxHeartbeats 4000000 in
theorem aX_ear (E : ev) (Mz : mm) {f c m u : Int32} {T : Nat} {tt : Nat → tx} (hI : CI (cv Mz 38) 10000) (hT : TxC Mz 38 tt T) : Ct E 7 yX6_ear cX6_ear 9 (some .int) [.inr 0, .inl f, .inl c, .inl m, .inl u] Mz (qI E (fun r M' => r = R_ear (pfT tt T) (cv Mz 38) f c m u ∧ FrX Mz M')) := by
  refine ct_of (by decide) (Nat.le_of_ble_eq_true rfl) ?_
  show V E 7 _ _ _ _ _ 0 [some (.inr 0), some (.inl f), some (.inl c), some (.inl m), some (.inl u), none, none, none, none] [] Mz
  have hp8 := hI.pn.2
  refine v_ild1 dX6_ear_0 ?_
  refine v_callSi (kX_noField E _) dX6_ear_1 cX6_111 rfl (by decide) (Nat.le_of_ble_eq_true rfl) rfl (fun r M1z hq => ?_)
  obtain ⟨hr, hm⟩ := hq
  rw [hr, hm]
  clear hr hm
  refine v_if_ne (tgt := 37) dX6_ear_4 (by decide) (fun h4 => ?_) (fun h4 => ?_)
  · refine v_ldc dX6_ear_37 kX6_67 ?_
    exact v_iret dX6_ear_39 rfl (⟨by unfold R_ear; rw [if_neg (by simp [gEa, nb1 h4])], FrX.rf Mz⟩)
  · refine v_ild2 dX6_ear_7 ?_
    refine v_iconstN (n := 1) dX6_ear_8 ?_
    refine v_bipushN (n := 9) dX6_ear_9 (by decide) ?_
    refine v_callSi (kX_outside E _) dX6_ear_11 cX6_63 rfl (by decide) (Nat.le_of_ble_eq_true rfl) rfl (fun r M1z hq => ?_)
    obtain ⟨hr, hm⟩ := hq
    rw [hr, hm]
    clear hr hm
    refine v_if_ne (tgt := 37) dX6_ear_14 (by decide) (fun h14 => ?_) (fun h14 => ?_)
    · refine v_ldc dX6_ear_37 kX6_67 ?_
      exact v_iret dX6_ear_39 rfl (⟨by unfold R_ear; rw [if_neg (by simp [gEa, nb0 h4, nb1 h14])], FrX.rf Mz⟩)
    · refine v_ild3 dX6_ear_17 ?_
      refine v_iconstN (n := 0) dX6_ear_18 ?_
      refine v_bipushN (n := 60) dX6_ear_19 (by decide) ?_
      refine v_callSi (kX_outside E _) dX6_ear_21 cX6_63 rfl (by decide) (Nat.le_of_ble_eq_true rfl) rfl (fun r M1z hq => ?_)
      obtain ⟨hr, hm⟩ := hq
      rw [hr, hm]
      clear hr hm
      refine v_if_ne (tgt := 37) dX6_ear_24 (by decide) (fun h24 => ?_) (fun h24 => ?_)
      · refine v_ldc dX6_ear_37 kX6_67 ?_
        exact v_iret dX6_ear_39 rfl (⟨by unfold R_ear; rw [if_neg (by simp [gEa, nb0 h4, nb0 h14, nb1 h24])], FrX.rf Mz⟩)
      · refine v_ild4 dX6_ear_27 ?_
        refine v_iconstN (n := 0) dX6_ear_29 ?_
        refine v_iconstN (n := 1) dX6_ear_30 ?_
        refine v_callSi (kX_outside E _) dX6_ear_31 cX6_63 rfl (by decide) (Nat.le_of_ble_eq_true rfl) rfl (fun r M1z hq => ?_)
        obtain ⟨hr, hm⟩ := hq
        rw [hr, hm]
        clear hr hm
        refine v_if_eq (tgt := 40) dX6_ear_34 (by decide) (fun h34 => ?_) (fun h34 => ?_)
        · obtain ⟨g, hgl, hg, rfl⟩ := inB_n (by decide) (by decide) (nb0 h4)
          obtain ⟨k, hkl, hk, rfl⟩ := inB_n (by decide) (by decide) (nb0 h14)
          obtain ⟨n, hnl, hn, rfl⟩ := inB_n (by decide) (by decide) (nb0 h24)
          obtain ⟨j, hjl, hj, rfl⟩ := inB_n (by decide) (by decide) (nb0 h34)
          have hg6 : g < 6 := by omega
          have hcr : inR (nI k) 10 := inR_nI (by omega)
          refine v_ald0 dX6_ear_40 ?_
          refine v_getr dX6_ear_41 gX6_28 sh_0 rfl ?_
          refine v_geti dX6_ear_44 gX6_68 sh_38 rfl ?_
          refine v_eq (hI.pn.1) ?_
          refine v_if_ne (tgt := 53) dX6_ear_47 (by decide) (fun h47 => ?_) (fun h47 => ?_)
          · have hpn0 : ¬ pn (cv Mz 38) = 0 := fun e => h47 (by rw [e]; rfl)
            refine v_iconstN (n := 0) dX6_ear_53 ?_
            refine v_ist5 dX6_ear_54 (by decide) ?_
            refine v_iconst dX6_ear_56 rfl ?_
            refine v_ist6 dX6_ear_57 (by decide) ?_
            refine v_iconstN (n := 0) dX6_ear_59 ?_
            refine v_ist7 dX6_ear_60 (by decide) ?_
            refine v_loopP (pc := 62) (fun i _ => [some (.inr 0), some (.inl (nI g)), some (.inl (nI k)), some (.inl (nI n)), some (.inl (nI j)), some (.inl (if i = 0 then nI 0 else (eaK (pfT tt T) (cv Mz 38) g (nI k) n i).1)), some (.inl (eaK (pfT tt T) (cv Mz 38) g (nI k) n i).2), some (.inl (nI i)), none]) (fun i Mj => FrX Mz Mj) (pn (cv Mz 38)) (rfl) (FrX.rf Mz) (fun i Mj hi hfr ih => ?_) (fun Mj hfr => ?_)
            · have hpk : Mj 38 1 = nI (pn (cv Mz 38)) := by rw [hfr 38 (by omega) (by omega) (by omega) (by omega)]; exact hI.pn.1
              have hv0 : cv Mj 38 = cv Mz 38 := cv_fr (by decide) hfr
              have hi8 : i < 8 := by omega
              have hp2 : 2 ^ i < 256 := by have : 2 ^ i ≤ 2 ^ 7 := Nat.pow_le_pow_right (by decide) (by omega); omega
              refine v_ild7 dX6_ear_62 ?_
              refine v_ald0 dX6_ear_64 ?_
              refine v_getr dX6_ear_65 gX6_28 sh_0 rfl ?_
              refine v_geti dX6_ear_68 gX6_68 sh_38 rfl ?_
              refine v_eq (hpk) ?_
              refine v_icmpN_ge (tgt := 124) dX6_ear_71 (by decide) (by omega) (by omega) (fun h71 => absurd h71 (by omega)) (fun h71 => ?_)
              refine v_ald0 dX6_ear_74 ?_
              refine v_iconstN (n := 1) dX6_ear_75 ?_
              refine v_ild7 dX6_ear_76 ?_
              refine v_ishl dX6_ear_78 ?_
              refine v_eq (shl1 (by omega)) ?_
              refine v_ild1 dX6_ear_79 ?_
              refine v_ild2 dX6_ear_80 ?_
              refine v_callVv (kX_tryTelling E Mj (s := 2 ^ i) hp2 hg6 hcr (by rw [hv0]; exact hI) (hT.frX hfr)) dX6_ear_81 cX6_182 rfl sh_0 rfl (by decide) (Nat.le_of_ble_eq_true rfl) rfl (fun M1z hq1 => ?_)
              obtain ⟨hv1, hf1, hT1⟩ := hq1
              rw [hv0, tl_at hi] at hv1
              have hI1 : CI (cv M1z 56) 10000 := by rw [hv1]; exact CI_tell hI hg6 hcr
              refine v_ald0 dX6_ear_84 ?_
              refine v_getr dX6_ear_85 gX6_35 sh_0 rfl ?_
              refine v_ild3 dX6_ear_88 ?_
              refine v_callVv (kC_pass E M1z CB.trial hI1 (by omega) hT1) dX6_ear_89 cX6_160 rfl sh_56 rfl (by decide) (Nat.le_of_ble_eq_true rfl) rfl (fun M2z hq2 => ?_)
              obtain ⟨hv2, hf2⟩ := hq2
              have hI2 : CI (cv M2z 56) (10000 + n) := by rw [hv2]; exact (wks_ok (pfT_ok tt T) hI1 n (by omega)).1
              rw [hv1] at hv2
              refine v_ald0 dX6_ear_92 ?_
              refine v_getr dX6_ear_93 gX6_35 sh_0 rfl ?_
              refine v_ild1 dX6_ear_96 ?_
              refine v_ild2 dX6_ear_97 ?_
              refine v_callVi (kC_votesFor E M2z CB.trial hg6 hI2) dX6_ear_98 cX6_137 rfl sh_56 rfl (by decide) (Nat.le_of_ble_eq_true rfl) rfl (fun r3 M3z hq3 => ?_)
              obtain ⟨hr3, hm3⟩ := hq3
              rw [hr3, hm3, if_neg (nI_ne0 (by omega) (by omega)), show vot (cv M2z 56) g (nI k) = eaW (pfT tt T) (cv Mz 38) g (nI k) n i from by rw [hv2]; rfl]
              clear hr3 hm3
              refine v_ist8 dX6_ear_101 (by decide) ?_
              refine v_ild8 dX6_ear_103 ?_
              refine v_ild6 dX6_ear_105 ?_
              refine v_icmp_le (tgt := 118) dX6_ear_107 (by decide) (fun h107 => ?_) (fun h107 => ?_)
              · refine v_iincN7 (n := 1) dX6_ear_118 (by decide) ?_
                refine v_goto (tgt := 62) dX6_ear_121 (by decide) ?_
                refine v_fg8 ?_
                have hi0 : i ≠ 0 := by intro e; subst e; obtain ⟨m, hm, em⟩ := vot_in (wks_ok (pfT_ok tt T) (CI_tell (p := 0) hI hg6 hcr) n (by omega)).1 g (nI k); exact absurd h107 (Int32.not_le.mpr (by show (-1 : Int32) < eaW (pfT tt T) (cv Mz 38) g (nI k) n 0; unfold eaW; rw [em]; exact i_neg1 (by omega)))
                exact v_lo (by rw [if_neg hi0, if_neg (by omega), show eaK (pfT tt T) (cv Mz 38) g (nI k) n (i + 1) = eaK (pfT tt T) (cv Mz 38) g (nI k) n i from if_neg (Int32.not_lt.mpr h107)]) (ih _ (hfr.tr (hf1.tr (FrX.c hf2))))
              · refine v_ild7 dX6_ear_110 ?_
                refine v_ist5 dX6_ear_112 (by decide) ?_
                refine v_ild8 dX6_ear_114 ?_
                refine v_ist6 dX6_ear_116 (by decide) ?_
                refine v_iincN7 (n := 1) dX6_ear_118 (by decide) ?_
                refine v_goto (tgt := 62) dX6_ear_121 (by decide) ?_
                refine v_fg8 ?_
                exact v_lo (by rw [if_neg (by omega), show eaK (pfT tt T) (cv Mz 38) g (nI k) n (i + 1) = (nI i, eaW (pfT tt T) (cv Mz 38) g (nI k) n i) from if_pos (Int32.not_le.mp h107)]) (ih _ (hfr.tr (hf1.tr (FrX.c hf2))))
            · have hpk : Mj 38 1 = nI (pn (cv Mz 38)) := by rw [hfr 38 (by omega) (by omega) (by omega) (by omega)]; exact hI.pn.1
              refine v_ild7 dX6_ear_62 ?_
              refine v_ald0 dX6_ear_64 ?_
              refine v_getr dX6_ear_65 gX6_28 sh_0 rfl ?_
              refine v_geti dX6_ear_68 gX6_68 sh_38 rfl ?_
              refine v_eq (hpk) ?_
              refine v_icmpN_ge (tgt := 124) dX6_ear_71 (by decide) (by omega) (by omega) (fun h71 => ?_) (fun h71 => absurd h71 (by omega))
              refine v_ild4 dX6_ear_124 ?_
              refine v_if_ne (tgt := 134) dX6_ear_126 (by decide) (fun h126 => ?_) (fun h126 => ?_)
              · refine v_ild6 dX6_ear_134 ?_
                exact v_iret dX6_ear_136 rfl (⟨by unfold R_ear; rw [if_pos (show gEa (nI g) (nI k) (nI n) (nI j) = true by simp [gEa, nb0 h4, nb0 h14, nb0 h24, nb0 h34]), if_neg hpn0, tN_n (by omega), tN_n (by omega), if_neg h126], hfr⟩)
              · refine v_ild5 dX6_ear_129 ?_
                refine v_goto (tgt := 136) dX6_ear_131 (by decide) ?_
                exact v_iret dX6_ear_136 rfl (⟨by unfold R_ear; rw [if_neg hpn0, if_pos (show gEa (nI g) (nI k) (nI n) (nI j) = true by simp [gEa, nb0 h4, nb0 h14, nb0 h24, nb0 h34]), if_neg hpn0, tN_n (by omega), tN_n (by omega), if_pos h126], hfr⟩)
          · refine v_ldc dX6_ear_50 kX6_181 ?_
            exact v_iret dX6_ear_52 rfl (⟨by unfold R_ear; rw [if_pos (by simp [gEa, nb0 h4, nb0 h14, nb0 h24, nb0 h34]), if_pos ((nI_eq (b := 0) (by omega) (by decide)).mp h47)], FrX.rf Mz⟩)
        · refine v_ldc dX6_ear_37 kX6_67 ?_
          exact v_iret dX6_ear_39 rfl (⟨by unfold R_ear; rw [if_neg (by simp [gEa, nb0 h4, nb0 h14, nb0 h24, nb1 h34])], FrX.rf Mz⟩)
theorem none_ne {q : Nat} (h : q < 256) : ¬ nI q = cNONE := fun e => by
  have := congrArg Int32.toInt e
  rw [nI_toInt (by omega)] at this
  have h2 : cNONE.toInt = -1000000005 := by decide
  omega
set_option maxRecDepth 100000 in
set_option maxHeartbeats 4000000 in
theorem aM_ear (E : ev) (Mz : mm) {f c m u : Int32} {T : Nat} {tt : Nat → tx} (hI : CI (mv Mz) 10000) (hT : TxM Mz tt T) : Ct E 8 yX7_ear cX7_ear 9 (some .int) [.inr 92, .inl f, .inl c, .inl m, .inl u] Mz (qI E (fun r M' => r = R_ear (pfT tt T) (mv Mz) f c m u ∧ FrD Mz M')) := by
  refine ct_of (by decide) (Nat.le_of_ble_eq_true rfl) ?_
  show V E 8 _ _ _ _ _ 0 [some (.inr 92), some (.inl f), some (.inl c), some (.inl m), some (.inl u), none, none, none, none] [] Mz
  have hp8 := hI.pn.2
  refine v_ild1 dX7_ear_0 ?_
  refine v_callSi (kM_isField E _) dX7_ear_1 cX7_145 rfl (by decide) (Nat.le_of_ble_eq_true rfl) rfl (fun r M1z hq => ?_)
  obtain ⟨hr, hm⟩ := hq
  rw [hr, hm]
  clear hr hm
  refine v_if_eq (tgt := 37) dX7_ear_4 (by decide) (fun h4 => ?_) (fun h4 => ?_)
  · refine v_ldc dX7_ear_37 kX7_119 ?_
    exact v_iret dX7_ear_39 rfl (⟨by unfold R_ear; rw [if_neg (by simp [gEa, show isF f = false from b2_0.mp h4])], FrD.rf Mz⟩)
  · refine v_ild2 dX7_ear_7 ?_
    refine v_iconstN (n := 1) dX7_ear_8 ?_
    refine v_bipushN (n := 9) dX7_ear_9 (by decide) ?_
    refine v_callSi (kM_in E _) dX7_ear_11 cX7_75 rfl (by decide) (Nat.le_of_ble_eq_true rfl) rfl (fun r M1z hq => ?_)
    obtain ⟨hr, hm⟩ := hq
    rw [hr, hm]
    clear hr hm
    refine v_if_eq (tgt := 37) dX7_ear_14 (by decide) (fun h14 => ?_) (fun h14 => ?_)
    · refine v_ldc dX7_ear_37 kX7_119 ?_
      exact v_iret dX7_ear_39 rfl (⟨by unfold R_ear; rw [if_neg (by simp [gEa, show isF f = true from b2_1.mp h4, b2_0.mp h14])], FrD.rf Mz⟩)
    · refine v_ild3 dX7_ear_17 ?_
      refine v_iconstN (n := 0) dX7_ear_18 ?_
      refine v_bipushN (n := 60) dX7_ear_19 (by decide) ?_
      refine v_callSi (kM_in E _) dX7_ear_21 cX7_75 rfl (by decide) (Nat.le_of_ble_eq_true rfl) rfl (fun r M1z hq => ?_)
      obtain ⟨hr, hm⟩ := hq
      rw [hr, hm]
      clear hr hm
      refine v_if_eq (tgt := 37) dX7_ear_24 (by decide) (fun h24 => ?_) (fun h24 => ?_)
      · refine v_ldc dX7_ear_37 kX7_119 ?_
        exact v_iret dX7_ear_39 rfl (⟨by unfold R_ear; rw [if_neg (by simp [gEa, show isF f = true from b2_1.mp h4, b2_1.mp h14, b2_0.mp h24])], FrD.rf Mz⟩)
      · refine v_ild4 dX7_ear_27 ?_
        refine v_iconstN (n := 0) dX7_ear_29 ?_
        refine v_iconstN (n := 1) dX7_ear_30 ?_
        refine v_callSi (kM_in E _) dX7_ear_31 cX7_75 rfl (by decide) (Nat.le_of_ble_eq_true rfl) rfl (fun r M1z hq => ?_)
        obtain ⟨hr, hm⟩ := hq
        rw [hr, hm]
        clear hr hm
        refine v_if_ne (tgt := 40) dX7_ear_34 (by decide) (fun h34 => ?_) (fun h34 => ?_)
        · obtain ⟨g, hgl, hg, rfl⟩ := inB_n (by decide) (by decide) (b2_1.mp h4)
          obtain ⟨k, hkl, hk, rfl⟩ := inB_n (by decide) (by decide) (b2_1.mp h14)
          obtain ⟨n, hnl, hn, rfl⟩ := inB_n (by decide) (by decide) (b2_1.mp h24)
          obtain ⟨j, hjl, hj, rfl⟩ := inB_n (by decide) (by decide) (b2_1.mp h34)
          have hg6 : g < 6 := by omega
          have hcr : inR (nI k) 10 := inR_nI (by omega)
          refine v_ald0 dX7_ear_40 ?_
          refine v_callVv (kM_dreams E Mz) dX7_ear_41 cX7_185 rfl sh_92 rfl (by decide) (Nat.le_of_ble_eq_true rfl) rfl (fun M1z hq => ?_)
          rw [hq]
          clear hq
          refine v_ldc dX7_ear_44 kX7_191 ?_
          refine v_ist5 dX7_ear_46 (by decide) ?_
          refine v_iconst dX7_ear_48 rfl ?_
          refine v_ist6 dX7_ear_49 (by decide) ?_
          refine v_iconstN (n := 0) dX7_ear_51 ?_
          refine v_ist7 dX7_ear_52 (by decide) ?_
          refine v_loopP (pc := 54) (fun i _ => [some (.inr 92), some (.inl (nI g)), some (.inl (nI k)), some (.inl (nI n)), some (.inl (nI j)), some (.inl (eaK (pfT tt T) (mv Mz) g (nI k) n i).1), some (.inl (eaK (pfT tt T) (mv Mz) g (nI k) n i).2), some (.inl (nI i)), none]) (fun i Mj => DR Mz Mj ∧ Mj 93 = Mz 93) (pn (mv Mz)) (rfl) (⟨DR.start Mz, wa_ne (by decide)⟩) (fun i Mj hi hM ih => ?_) (fun Mj hM => ?_)
          · obtain ⟨hd, he⟩ := hM
            have hpk : Mj 93 1 = nI (pn (mv Mz)) := by rw [he]; exact hI.pn.1
            have hi8 : i < 8 := by omega
            have hv0 := mv_93 he
            refine v_ild7 dX7_ear_54 ?_
            refine v_ald0 dX7_ear_56 ?_
            refine v_getr dX7_ear_57 gX7_9 sh_92 rfl ?_
            refine v_iconstN (n := 1) dX7_ear_60 ?_
            refine v_ialdN dX7_ear_61 sh_93 (by omega) (by decide) ?_
            refine v_eq (hpk) ?_
            refine v_icmpN_ge (tgt := 128) dX7_ear_62 (by decide) (by omega) (by omega) (fun h62 => absurd h62 (by omega)) (fun h62 => ?_)
            refine v_ald0 dX7_ear_65 ?_
            refine v_ild7 dX7_ear_66 ?_
            refine v_ild1 dX7_ear_68 ?_
            refine v_ild2 dX7_ear_69 ?_
            refine v_callVv (kM_isTold E Mj hi8 hg6) dX7_ear_70 cX7_192 rfl sh_92 rfl (by decide) (Nat.le_of_ble_eq_true rfl) rfl (fun M1z hq1 => ?_)
            obtain ⟨hv1, hf1⟩ := hq1
            rw [hv0] at hv1
            have hd1 := hd.fr hf1
            have hI1 : CI (mv M1z) 10000 := by rw [hv1]; exact CI_tell hI hg6 hcr
            have hT1 : TxM M1z tt T := hT.dr hd1 (by rw [hv1]; unfold tell1; rw [pk_un (by omega), pk_un (by omega)])
            refine v_ald0 dX7_ear_73 ?_
            refine v_ild3 dX7_ear_74 ?_
            refine v_callVv (kM_goesOn E M1z hI1 (by omega) hT1) dX7_ear_75 cX7_172 rfl sh_92 rfl (by decide) (Nat.le_of_ble_eq_true rfl) rfl (fun M2z hq2 => ?_)
            obtain ⟨hv2, hf2⟩ := hq2
            have hI2 : CI (mv M2z) (10000 + n) := by rw [hv2]; exact (wks_ok (pfT_ok tt T) hI1 n (by omega)).1
            rw [hv1] at hv2
            have hd2 := hd1.fr hf2
            refine v_ald0 dX7_ear_78 ?_
            refine v_ild1 dX7_ear_79 ?_
            refine v_ild2 dX7_ear_80 ?_
            refine v_callVi (kM_votesFor E M2z hg6 hI2) dX7_ear_81 cX7_90 rfl sh_92 rfl (by decide) (Nat.le_of_ble_eq_true rfl) rfl (fun r3 M3z hq3 => ?_)
            obtain ⟨hr3, hm3⟩ := hq3
            rw [hr3, hm3, show vot (mv M2z) g (nI k) = eaW (pfT tt T) (mv Mz) g (nI k) n i from by rw [hv2]; rfl]
            clear hr3 hm3
            refine v_ist8 dX7_ear_84 (by decide) ?_
            refine v_ild8 dX7_ear_86 ?_
            refine v_ild6 dX7_ear_88 ?_
            refine v_icmp_le (tgt := 98) dX7_ear_90 (by decide) (fun h90 => ?_) (fun h90 => ?_)
            · refine v_ild5 dX7_ear_98 ?_
              refine v_ist5 dX7_ear_100 (by decide) ?_
              refine v_ild8 dX7_ear_102 ?_
              refine v_ild6 dX7_ear_104 ?_
              refine v_icmp_le (tgt := 114) dX7_ear_106 (by decide) (fun h106 => ?_) (fun h106 => ?_)
              · refine v_ild6 dX7_ear_114 ?_
                refine v_ist6 dX7_ear_116 (by decide) ?_
                refine v_ald0 dX7_ear_118 ?_
                refine v_callVv (kM_putsBack E M2z) dX7_ear_119 cX7_188 rfl sh_92 rfl (by decide) (Nat.le_of_ble_eq_true rfl) rfl (fun M4z hq4 => ?_)
                rw [hq4]
                clear hq4
                refine v_iincN7 (n := 1) dX7_ear_122 (by decide) ?_
                refine v_goto (tgt := 54) dX7_ear_125 (by decide) ?_
                refine v_fg8 ?_
                exact v_lo (by rw [show eaK (pfT tt T) (mv Mz) g (nI k) n (i + 1) = eaK (pfT tt T) (mv Mz) g (nI k) n i from if_neg (Int32.not_lt.mpr h90)]) (ih _ ⟨hd2.back.1, hd2.back.2⟩)
              · refine v_ild8 dX7_ear_109 ?_
                refine v_goto (tgt := 116) dX7_ear_111 (by decide) ?_
                refine v_ist6 dX7_ear_116 (by decide) ?_
                refine v_ald0 dX7_ear_118 ?_
                refine v_callVv (kM_putsBack E M2z) dX7_ear_119 cX7_188 rfl sh_92 rfl (by decide) (Nat.le_of_ble_eq_true rfl) rfl (fun M4z hq4 => ?_)
                rw [hq4]
                clear hq4
                refine v_iincN7 (n := 1) dX7_ear_122 (by decide) ?_
                refine v_goto (tgt := 54) dX7_ear_125 (by decide) ?_
                exact absurd h90 h106
            · refine v_ild7 dX7_ear_93 ?_
              refine v_goto (tgt := 100) dX7_ear_95 (by decide) ?_
              refine v_ist5 dX7_ear_100 (by decide) ?_
              refine v_ild8 dX7_ear_102 ?_
              refine v_ild6 dX7_ear_104 ?_
              refine v_icmp_le (tgt := 114) dX7_ear_106 (by decide) (fun h106 => ?_) (fun h106 => ?_)
              · refine v_ild6 dX7_ear_114 ?_
                refine v_ist6 dX7_ear_116 (by decide) ?_
                refine v_ald0 dX7_ear_118 ?_
                refine v_callVv (kM_putsBack E M2z) dX7_ear_119 cX7_188 rfl sh_92 rfl (by decide) (Nat.le_of_ble_eq_true rfl) rfl (fun M4z hq4 => ?_)
                rw [hq4]
                clear hq4
                refine v_iincN7 (n := 1) dX7_ear_122 (by decide) ?_
                refine v_goto (tgt := 54) dX7_ear_125 (by decide) ?_
                exact absurd h106 h90
              · refine v_ild8 dX7_ear_109 ?_
                refine v_goto (tgt := 116) dX7_ear_111 (by decide) ?_
                refine v_ist6 dX7_ear_116 (by decide) ?_
                refine v_ald0 dX7_ear_118 ?_
                refine v_callVv (kM_putsBack E M2z) dX7_ear_119 cX7_188 rfl sh_92 rfl (by decide) (Nat.le_of_ble_eq_true rfl) rfl (fun M4z hq4 => ?_)
                rw [hq4]
                clear hq4
                refine v_iincN7 (n := 1) dX7_ear_122 (by decide) ?_
                refine v_goto (tgt := 54) dX7_ear_125 (by decide) ?_
                refine v_fg8 ?_
                exact v_lo (by rw [show eaK (pfT tt T) (mv Mz) g (nI k) n (i + 1) = (nI i, eaW (pfT tt T) (mv Mz) g (nI k) n i) from if_pos (Int32.not_le.mp h90)]) (ih _ ⟨hd2.back.1, hd2.back.2⟩)
          · obtain ⟨hd, he⟩ := hM
            have hpk : Mj 93 1 = nI (pn (mv Mz)) := by rw [he]; exact hI.pn.1
            refine v_ild7 dX7_ear_54 ?_
            refine v_ald0 dX7_ear_56 ?_
            refine v_getr dX7_ear_57 gX7_9 sh_92 rfl ?_
            refine v_iconstN (n := 1) dX7_ear_60 ?_
            refine v_ialdN dX7_ear_61 sh_93 (by omega) (by decide) ?_
            refine v_eq (hpk) ?_
            refine v_icmpN_ge (tgt := 128) dX7_ear_62 (by decide) (by omega) (by omega) (fun h62 => ?_) (fun h62 => absurd h62 (by omega))
            refine v_ild5 dX7_ear_128 ?_
            refine v_ldc dX7_ear_130 kX7_191 ?_
            refine v_icmp_ne (tgt := 140) dX7_ear_132 (by decide) (fun h132 => ?_) (fun h132 => ?_)
            · refine v_ild4 dX7_ear_140 ?_
              refine v_if_ne (tgt := 150) dX7_ear_142 (by decide) (fun h142 => ?_) (fun h142 => ?_)
              · refine v_ild6 dX7_ear_150 ?_
                exact v_iret dX7_ear_152 rfl (⟨by unfold R_ear; rw [if_pos (by simp [gEa, show isF (nI g) = true from b2_1.mp h4, b2_1.mp h14, b2_1.mp h24, b2_1.mp h34]), if_neg (fun h0 => h132 (by rw [h0]; rfl)), tN_n (by omega), tN_n (by omega), if_neg h142], hd.fin he⟩)
              · refine v_ild5 dX7_ear_145 ?_
                refine v_goto (tgt := 152) dX7_ear_147 (by decide) ?_
                exact v_iret dX7_ear_152 rfl (⟨by unfold R_ear; rw [if_pos (by simp [gEa, show isF (nI g) = true from b2_1.mp h4, b2_1.mp h14, b2_1.mp h24, b2_1.mp h34]), if_neg (fun h0 => h132 (by rw [h0]; rfl)), tN_n (by omega), tN_n (by omega), if_pos h142], hd.fin he⟩)
            · refine v_ldc dX7_ear_135 kX7_191 ?_
              refine v_goto (tgt := 152) dX7_ear_137 (by decide) ?_
              exact v_iret dX7_ear_152 rfl (⟨by unfold R_ear; rw [if_pos (by simp [gEa, show isF (nI g) = true from b2_1.mp h4, b2_1.mp h14, b2_1.mp h24, b2_1.mp h34]), if_pos (by by_cases h0 : pn (mv Mz) = 0; exact h0; exact absurd h132 (by obtain ⟨q, hq, eq⟩ := ea_n (pfT_ok tt T) hI hg6 hcr (n := n) (by omega) (pn (mv Mz) - 1) (by omega); rw [show pn (mv Mz) - 1 + 1 = pn (mv Mz) by omega] at eq; rw [eq]; exact none_ne (by omega)))], hd.fin he⟩)
        · refine v_ldc dX7_ear_37 kX7_119 ?_
          exact v_iret dX7_ear_39 rfl (⟨by unfold R_ear; rw [if_neg (by simp [gEa, show isF f = true from b2_1.mp h4, b2_1.mp h14, b2_1.mp h24, b2_0.mp h34])], FrD.rf Mz⟩)
