/-! slots -/
abbrev slT : Type := Nat × Nat × Int32 × Nat × (Nat → Int32)
def SlC (M : mm) (W : Nat → slT) : Prop := ∀ i, i < 5 → M (75 + 3 * i) 0 = nI (W i).1 ∧ (W i).1 < 4 ∧ ((W i).1 = 1 → M (75 + 3 * i) 1 = nI (W i).2.1 ∧ (W i).2.1 < 6) ∧ ((W i).1 = 2 → M (75 + 3 * i + 1) 1 = nI (W i).2.2.2.1 ∧ (W i).2.2.2.1 ≤ 24 ∧ ∀ k, k < 24 → M (75 + 3 * i + 1 + 1) k = (W i).2.2.2.2 k) ∧ ((W i).1 = 3 → M (75 + 3 * i) 2 = (W i).2.2.1)
def SlM (M : mm) (W : Nat → slT) : Prop := ∀ i, i < 5 → M 108 i = nI (W i).1 ∧ (W i).1 < 4 ∧ ((W i).1 = 1 → M 109 i = nI (W i).2.1 ∧ (W i).2.1 < 6 ∧ M 110 i = tabW (W i).2.1) ∧ ((W i).1 = 2 → M 109 i = nI (W i).2.2.2.1 ∧ (W i).2.2.2.1 ≤ 24 ∧ ∀ k, k < 24 → M 111 (24 * i + k) = (W i).2.2.2.2 k) ∧ ((W i).1 = 3 → M 109 i = (W i).2.2.1)
def FrL (M M' : mm) : Prop := ∀ a, ¬ (75 ≤ a ∧ a < 90) → M' a = M a
def FrK (M M' : mm) : Prop := ∀ a, a ≠ 108 → a ≠ 109 → a ≠ 110 → a ≠ 111 → M' a = M a
theorem FrL.rf (M : mm) : FrL M M := fun _ _ => rfl
theorem FrK.rf (M : mm) : FrK M M := fun _ _ _ _ _ => rfl
def setW (W : Nat → slT) (i : Nat) (z : slT) : Nat → slT := fun j => if j = i then z else W j
theorem SlC.set {M M' : mm} {W : Nat → slT} {i : Nat} {z : slT} (h : SlC M W) (ho : ∀ a, a ≠ 75 + 3 * i → a ≠ 75 + 3 * i + 1 → a ≠ 75 + 3 * i + 1 + 1 → M' a = M a) (h0 : M' (75 + 3 * i) 0 = nI z.1) (h4 : z.1 < 4) (h1 : z.1 = 1 → M' (75 + 3 * i) 1 = nI z.2.1 ∧ z.2.1 < 6) (h2 : z.1 = 2 → M' (75 + 3 * i + 1) 1 = nI z.2.2.2.1 ∧ z.2.2.2.1 ≤ 24 ∧ ∀ k, k < 24 → M' (75 + 3 * i + 1 + 1) k = z.2.2.2.2 k) (h3 : z.1 = 3 → M' (75 + 3 * i) 2 = z.2.2.1) : SlC M' (setW W i z) := by
  intro j hj
  by_cases e : j = i
  · subst e
    rw [show setW W j z j = z from if_pos rfl]
    exact ⟨h0, h4, h1, h2, h3⟩
  · rw [show setW W i z j = W j from if_neg e, ho (75 + 3 * j) (by omega) (by omega) (by omega), ho (75 + 3 * j + 1) (by omega) (by omega) (by omega), ho (75 + 3 * j + 1 + 1) (by omega) (by omega) (by omega)]
    exact h j hj
theorem SlM.set {M M' : mm} {W : Nat → slT} {i : Nat} {z : slT} (h : SlM M W) (g0 : ∀ j, j ≠ i → M' 108 j = M 108 j) (g1 : ∀ j, j ≠ i → M' 109 j = M 109 j) (g2 : ∀ j, j ≠ i → M' 110 j = M 110 j) (g3 : ∀ q, ¬ (24 * i ≤ q ∧ q < 24 * i + 24) → M' 111 q = M 111 q) (h0 : M' 108 i = nI z.1) (h4 : z.1 < 4) (h1 : z.1 = 1 → M' 109 i = nI z.2.1 ∧ z.2.1 < 6 ∧ M' 110 i = tabW z.2.1) (h2 : z.1 = 2 → M' 109 i = nI z.2.2.2.1 ∧ z.2.2.2.1 ≤ 24 ∧ ∀ k, k < 24 → M' 111 (24 * i + k) = z.2.2.2.2 k) (h3 : z.1 = 3 → M' 109 i = z.2.2.1) : SlM M' (setW W i z) := by
  intro j hj
  by_cases e : j = i
  · subst e
    rw [show setW W j z j = z from if_pos rfl]
    exact ⟨h0, h4, h1, h2, h3⟩
  · rw [show setW W i z j = W j from if_neg e, g0 j e, g1 j e, g2 j e]
    obtain ⟨a, b, c, d, f⟩ := h j hj
    exact ⟨a, b, c, fun q => ⟨(d q).1, (d q).2.1, fun k hk => by rw [g3 _ (by omega)]; exact (d q).2.2 k hk⟩, f⟩
def gLa (v : fl) (x t y : Int32) : Bool := isW x && inB t (nI 0) (nI 3) && (!(decide (t = nI 1) && !isP v y)) && (!(decide (t = nI 2) && !isS y))
def R_lay (v : fl) (S : s3) (W : Nat → slT) (x t y : Int32) : Int32 := if gLa v x t y = true then (if t = nI 2 ∧ S.1 (tN y) = -1 then cNOTH else nI (W (tN x)).1) else cBAD
def F_lay (v : fl) (S : s3) (W : Nat → slT) (x t y : Int32) : Nat → slT := if gLa v x t y = true then (if t = nI 2 ∧ S.1 (tN y) = -1 then W else setW W (tN x) (tN t, tN (kd v (tN y)), y, S.2.1 (tN y), S.2.2 (tN y))) else W
def R_ask (W : Nat → slT) (x y : Int32) : Int32 := if (isW x && isF y) = true then (if nI (W (tN x)).1 = 0 then cNOTH else if (W (tN x)).1 = 1 ∧ unB (nI (W (tN x)).2.1) y = true then tabW (W (tN x)).2.1 else cKIND) else cBAD
def R_item (W : Nat → slT) (x p : Int32) : Int32 := if isW x = true then (if nI (W (tN x)).1 = 0 then cNOTH else if (W (tN x)).1 = 2 then (if inB p (nI 0) (nI (W (tN x)).2.2.2.1 - nI 1) = true then (if (W (tN x)).2.2.2.2 (tN p) = cNONE then cKIND else (W (tN x)).2.2.2.2 (tN p)) else cINDX) else cKIND) else cBAD
def R_rest (W : Nat → slT) (x n : Int32) : Int32 := if isW x = true then (if nI (W (tN x)).1 = 0 then cNOTH else if (W (tN x)).1 = 3 then (if n = 0 then cNO else (W (tN x)).2.2.1 - (W (tN x)).2.2.1 / n * n) else cKIND) else cBAD
theorem rem_m1 (x : Int32) : x - x / (-1) * (-1) = 0 := by
  have e : x / (-1) = -x := by
    apply Int32.toInt_inj.mp
    have h1 : (-1 : Int32).toInt = -1 := rfl
    rw [Int32.toInt_div, h1, Int.tdiv_neg, Int.tdiv_one, Int32.toInt_neg]
  rw [e, Int32.neg_mul_neg, Int32.mul_one, Int32.sub_self]
set_option maxRecDepth 100000 in
set_option maxHeartbeats 4000000 in
theorem kS_takeOver (E : ev) (Mz : mm) {s s' : Nat} (hs : SB s) (hs' : SB s') (hlt : s' + 1 < s) : Ct E 2 yX3_takeOver cX3_takeOver 2 none [.inr s, .inr s'] Mz (qV E (fun M' => M' s 1 = Mz s' 1 ∧ (∀ k, k < 24 → M' (s + 1) k = Mz (s' + 1) k) ∧ ∀ a, a ≠ s → a ≠ s + 1 → M' a = Mz a)) := by
  refine ct_of (by decide) (Nat.le_of_ble_eq_true rfl) ?_
  show V E 2 _ _ _ _ _ 0 [some (.inr s), some (.inr s')] [] Mz
  refine v_ald0 dX3_takeOver_0 ?_
  refine v_ald1 dX3_takeOver_1 ?_
  refine v_geti dX3_takeOver_2 gX3_9 (shS hs') rfl ?_
  refine v_puti dX3_takeOver_5 pX3_9 (shS hs) rfl rfl rfl ?_
  refine v_ald0 dX3_takeOver_8 ?_
  refine v_ald1 dX3_takeOver_9 ?_
  refine v_geti dX3_takeOver_10 gX3_19 (shS hs') rfl ?_
  refine v_puti dX3_takeOver_13 pX3_19 (shS hs) rfl rfl rfl ?_
  refine v_ald1 dX3_takeOver_16 ?_
  refine v_getr dX3_takeOver_17 gX3_15 (shS hs') rfl ?_
  refine v_iconstN (n := 0) dX3_takeOver_20 ?_
  refine v_ald0 dX3_takeOver_21 ?_
  refine v_getr dX3_takeOver_22 gX3_15 (shS hs) rfl ?_
  refine v_iconstN (n := 0) dX3_takeOver_25 ?_
  refine v_bipushN (n := 24) dX3_takeOver_26 (by decide) ?_
  refine v_acopy dX3_takeOver_28 aX3_22 (by decide) (Nat.le_of_ble_eq_true rfl) (shS1 hs') (shS1 hs) (by decide) (by decide) (by decide) (by decide) ?_
  exact v_vret dX3_takeOver_31 rfl (⟨by rw [wa_ne (by omega), wr_at, pk_us, wr_ne (by omega)], fun k hk => by rw [wa_at, pk_cpy_in (by omega) (by omega), wr_ne (by omega), wr_ne (by omega), show 0 + (k - 0) = k by omega], fun a h1 h2 => by rw [wa_ne h2, wr_ne h1, wr_ne h1]⟩)
set_option maxRecDepth 100000 in
set_option maxHeartbeats 4000000 in
theorem aX_lay (E : ev) (Mz : mm) {x t y : Int32} {U : Nat} (hI : CI (cv Mz 38) U) {so : Nat → Int32} {sz : Nat → Nat} {ce : Nat → Nat → Int32} (hS : ShC Mz so sz ce) {W : Nat → slT} (hW : SlC Mz W) : Ct E 3 yX6_lay cX6_lay 6 (some .int) [.inr 0, .inl x, .inl t, .inl y] Mz (qI E (fun r M' => r = R_lay (cv Mz 38) (so, sz, ce) W x t y ∧ SlC M' (F_lay (cv Mz 38) (so, sz, ce) W x t y) ∧ FrL Mz M')) := by
  refine ct_of (by decide) (Nat.le_of_ble_eq_true rfl) ?_
  show V E 3 _ _ _ _ _ 0 [some (.inr 0), some (.inl x), some (.inl t), some (.inl y), none, none] [] Mz
  refine v_ild1 dX6_lay_0 ?_
  refine v_callSi (kX_noSlot E _) dX6_lay_1 cX6_268 rfl (by decide) (Nat.le_of_ble_eq_true rfl) rfl (fun r M1z hq => ?_)
  obtain ⟨hr, hm⟩ := hq
  rw [hr, hm]
  clear hr hm
  refine v_if_ne (tgt := 16) dX6_lay_4 (by decide) (fun h4 => ?_) (fun h4 => ?_)
  · refine v_ldc dX6_lay_16 kX6_67 ?_
    exact v_iret dX6_lay_18 rfl (⟨by unfold R_lay; rw [if_neg (by simp [gLa, nb1 h4])], by unfold F_lay; rw [if_neg (by simp [gLa, nb1 h4])]; exact hW, FrL.rf Mz⟩)
  · refine v_ild2 dX6_lay_7 ?_
    refine v_iconstN (n := 0) dX6_lay_8 ?_
    refine v_iconstN (n := 3) dX6_lay_9 ?_
    refine v_callSi (kX_outside E _) dX6_lay_10 cX6_63 rfl (by decide) (Nat.le_of_ble_eq_true rfl) rfl (fun r M1z hq => ?_)
    obtain ⟨hr, hm⟩ := hq
    rw [hr, hm]
    clear hr hm
    refine v_if_eq (tgt := 19) dX6_lay_13 (by decide) (fun h13 => ?_) (fun h13 => ?_)
    · obtain ⟨i, hil, hi, rfl⟩ := inB_n (by decide) (by decide) (nb0 h4)
      have hi5 : i < 5 := by omega
      have hw := wbi hi5
      obtain ⟨ht0, ht4, hk1, hk2, hk3⟩ := hW i hi5
      obtain ⟨t, htl, ht, rfl⟩ := inB_n (by decide) (by decide) (nb0 h13)
      rcases (show t = 0 ∨ t = 1 ∨ t = 2 ∨ t = 3 by omega) with rfl | rfl | rfl | rfl
      · refine v_ild2 dX6_lay_19 ?_
        refine v_iconstN (n := 1) dX6_lay_20 ?_
        refine v_icmpN_ne (tgt := 32) dX6_lay_21 (by decide) (by omega) (by omega) (fun h21 => ?_) (fun h21 => absurd h21 (by decide))
        refine v_ild2 dX6_lay_32 ?_
        refine v_iconstN (n := 2) dX6_lay_33 ?_
        refine v_icmpN_ne (tgt := 47) dX6_lay_34 (by decide) (by omega) (by omega) (fun h34 => ?_) (fun h34 => absurd h34 (by decide))
        refine v_ild2 dX6_lay_47 ?_
        refine v_iconstN (n := 2) dX6_lay_48 ?_
        refine v_icmpN_ne (tgt := 68) dX6_lay_49 (by decide) (by omega) (by omega) (fun h49 => ?_) (fun h49 => absurd h49 (by decide))
        refine v_ald0 dX6_lay_68 ?_
        refine v_getr dX6_lay_69 gX6_47 sh_0 rfl ?_
        refine v_ild1 dX6_lay_72 ?_
        refine v_aaldN dX6_lay_73 sh_74 rfl (by omega) (by decide) ?_
        refine v_ast4 dX6_lay_74 (by decide) ?_
        refine v_ald4 dX6_lay_76 ?_
        refine v_geti dX6_lay_78 gX6_271 (shW hw) rfl ?_
        refine v_eq (ht0) ?_
        refine v_ist5 dX6_lay_81 (by decide) ?_
        refine v_ald4 dX6_lay_83 ?_
        refine v_ild2 dX6_lay_85 ?_
        refine v_puti dX6_lay_86 pX6_271 (shW hw) rfl rfl rfl ?_
        refine v_ild2 dX6_lay_89 ?_
        refine v_iconstN (n := 1) dX6_lay_90 ?_
        refine v_icmpN_ne (tgt := 111) dX6_lay_91 (by decide) (by omega) (by omega) (fun h91 => ?_) (fun h91 => absurd h91 (by decide))
        refine v_ild2 dX6_lay_111 ?_
        refine v_iconstN (n := 2) dX6_lay_112 ?_
        refine v_icmpN_ne (tgt := 133) dX6_lay_113 (by decide) (by omega) (by omega) (fun h113 => ?_) (fun h113 => absurd h113 (by decide))
        refine v_ald4 dX6_lay_133 ?_
        refine v_ild3 dX6_lay_135 ?_
        refine v_puti dX6_lay_136 pX6_283 (shW hw) rfl rfl rfl ?_
        refine v_ild5 dX6_lay_139 ?_
        exact v_iret dX6_lay_141 rfl (⟨by unfold R_lay; rw [if_pos (by unfold gLa; rw [nb0 h4, nb0 h13, show decide (nI 0 = nI 1) = false from by decide, show decide (nI 0 = nI 2) = false from by decide]; rfl), if_neg (fun q => absurd q.1 (by decide)), tN_n (p := i) (by omega)], by unfold F_lay; rw [if_pos (by unfold gLa; rw [nb0 h4, nb0 h13, show decide (nI 0 = nI 1) = false from by decide, show decide (nI 0 = nI 2) = false from by decide]; rfl), if_neg (fun q => absurd q.1 (by decide)), tN_n (p := i) (by omega)]; exact hW.set (fun a h1 _ _ => by rw [wr_ne h1, wr_ne h1]) (by rw [wr_at, pk_un (by decide), wr_at, pk_us]; rfl) (by show tN (nI 0) < 4; decide) (fun q => absurd q (by show ¬ tN (nI 0) = 1; decide)) (fun q => absurd q (by show ¬ tN (nI 0) = 2; decide)) (fun q => absurd q (by show ¬ tN (nI 0) = 3; decide)), fun a h => by rw [wr_ne (by omega), wr_ne (by omega)]⟩)
      · refine v_ild2 dX6_lay_19 ?_
        refine v_iconstN (n := 1) dX6_lay_20 ?_
        refine v_icmpN_ne (tgt := 32) dX6_lay_21 (by decide) (by omega) (by omega) (fun h21 => absurd h21 (by decide)) (fun h21 => ?_)
        refine v_ald0 dX6_lay_24 ?_
        refine v_ild3 dX6_lay_25 ?_
        refine v_callVi (kX_noPerson E _) dX6_lay_26 cX6_77 rfl sh_0 rfl (by decide) (Nat.le_of_ble_eq_true rfl) rfl (fun r M1z hq => ?_)
        obtain ⟨hr, hm⟩ := hq
        rw [hr, hm]
        clear hr hm
        refine v_if_ne (tgt := 44) dX6_lay_29 (by decide) (fun h29 => ?_) (fun h29 => ?_)
        · refine v_ldc dX6_lay_44 kX6_67 ?_
          exact v_iret dX6_lay_46 rfl (⟨by unfold R_lay; rw [if_neg (by unfold gLa; rw [nb0 h4, nb0 h13, show decide (nI 1 = nI 1) = true from by decide, show decide (nI 1 = nI 2) = false from by decide, nb1 h29]; simp)], by unfold F_lay; rw [if_neg (by unfold gLa; rw [nb0 h4, nb0 h13, show decide (nI 1 = nI 1) = true from by decide, show decide (nI 1 = nI 2) = false from by decide, nb1 h29]; simp)]; exact hW, FrL.rf Mz⟩)
        · refine v_ild2 dX6_lay_32 ?_
          refine v_iconstN (n := 2) dX6_lay_33 ?_
          refine v_icmpN_ne (tgt := 47) dX6_lay_34 (by decide) (by omega) (by omega) (fun h34 => ?_) (fun h34 => absurd h34 (by decide))
          refine v_ild2 dX6_lay_47 ?_
          refine v_iconstN (n := 2) dX6_lay_48 ?_
          refine v_icmpN_ne (tgt := 68) dX6_lay_49 (by decide) (by omega) (by omega) (fun h49 => ?_) (fun h49 => absurd h49 (by decide))
          refine v_ald0 dX6_lay_68 ?_
          refine v_getr dX6_lay_69 gX6_47 sh_0 rfl ?_
          refine v_ild1 dX6_lay_72 ?_
          refine v_aaldN dX6_lay_73 sh_74 rfl (by omega) (by decide) ?_
          refine v_ast4 dX6_lay_74 (by decide) ?_
          refine v_ald4 dX6_lay_76 ?_
          refine v_geti dX6_lay_78 gX6_271 (shW hw) rfl ?_
          refine v_eq (ht0) ?_
          refine v_ist5 dX6_lay_81 (by decide) ?_
          refine v_ald4 dX6_lay_83 ?_
          refine v_ild2 dX6_lay_85 ?_
          refine v_puti dX6_lay_86 pX6_271 (shW hw) rfl rfl rfl ?_
          refine v_ild2 dX6_lay_89 ?_
          refine v_iconstN (n := 1) dX6_lay_90 ?_
          refine v_icmpN_ne (tgt := 111) dX6_lay_91 (by decide) (by omega) (by omega) (fun h91 => absurd h91 (by decide)) (fun h91 => ?_)
          obtain ⟨p, hpn, hp, rfl⟩ := isP_n hI (nb0 h29)
          refine v_ald4 dX6_lay_94 ?_
          refine v_ald0 dX6_lay_96 ?_
          refine v_getr dX6_lay_97 gX6_28 sh_0 rfl ?_
          refine v_getr dX6_lay_100 gX6_80 sh_38 rfl ?_
          refine v_ild3 dX6_lay_103 ?_
          refine v_ialdN dX6_lay_104 sh_39 (by omega) (by decide) ?_
          refine v_puti dX6_lay_105 pX6_274 (shW hw) rfl rfl rfl ?_
          refine v_goto (tgt := 139) dX6_lay_108 (by decide) ?_
          refine v_ild5 dX6_lay_139 ?_
          exact v_iret dX6_lay_141 rfl (⟨by unfold R_lay; rw [if_pos (by unfold gLa; rw [nb0 h4, nb0 h13, show decide (nI 1 = nI 1) = true from by decide, show decide (nI 1 = nI 2) = false from by decide, nb0 h29]; rfl), if_neg (fun q => absurd q.1 (by decide)), tN_n (p := i) (by omega)], by unfold F_lay; rw [if_pos (by unfold gLa; rw [nb0 h4, nb0 h13, show decide (nI 1 = nI 1) = true from by decide, show decide (nI 1 = nI 2) = false from by decide, nb0 h29]; rfl), if_neg (fun q => absurd q.1 (by decide)), tN_n (p := i) (by omega)]; exact hW.set (fun a h1 _ _ => by rw [wr_ne h1, wr_ne h1]) (by rw [wr_at, pk_un (by decide), wr_at, pk_us]; rfl) (by show tN (nI 1) < 4; decide) (fun _ => by rw [wr_at, pk_us, wr_ne (by omega)]; rw [tN_n (p := p) (by omega), show kd (cv Mz 38) p = Mz 39 p from cv_kd Mz 38 hp]; obtain ⟨ke, hke, e⟩ := hI.kd hp; rw [cv_kd Mz 38 hp] at e; rw [e, tN_n (p := ke) (by omega)]; exact ⟨rfl, hke⟩) (fun q => absurd q (by show ¬ tN (nI 1) = 2; decide)) (fun q => absurd q (by show ¬ tN (nI 1) = 3; decide)), fun a h => by rw [wr_ne (by omega), wr_ne (by omega)]⟩)
      · refine v_ild2 dX6_lay_19 ?_
        refine v_iconstN (n := 1) dX6_lay_20 ?_
        refine v_icmpN_ne (tgt := 32) dX6_lay_21 (by decide) (by omega) (by omega) (fun h21 => ?_) (fun h21 => absurd h21 (by decide))
        refine v_ild2 dX6_lay_32 ?_
        refine v_iconstN (n := 2) dX6_lay_33 ?_
        refine v_icmpN_ne (tgt := 47) dX6_lay_34 (by decide) (by omega) (by omega) (fun h34 => absurd h34 (by decide)) (fun h34 => ?_)
        refine v_ild3 dX6_lay_37 ?_
        refine v_callSi (kX_noSheet E _) dX6_lay_38 cX6_190 rfl (by decide) (Nat.le_of_ble_eq_true rfl) rfl (fun r M1z hq => ?_)
        obtain ⟨hr, hm⟩ := hq
        rw [hr, hm]
        clear hr hm
        refine v_if_eq (tgt := 47) dX6_lay_41 (by decide) (fun h41 => ?_) (fun h41 => ?_)
        · refine v_ild2 dX6_lay_47 ?_
          refine v_iconstN (n := 2) dX6_lay_48 ?_
          refine v_icmpN_ne (tgt := 68) dX6_lay_49 (by decide) (by omega) (by omega) (fun h49 => absurd h49 (by decide)) (fun h49 => ?_)
          obtain ⟨j, hjl, hj, rfl⟩ := inB_n (by decide) (by decide) (nb0 h41)
          have hj4 : j < 4 := by omega
          have hs := sbi hj4
          obtain ⟨hs0, hsz, ⟨hz24, hsor⟩, hce⟩ := hS j hj4
          refine v_ald0 dX6_lay_52 ?_
          refine v_getr dX6_lay_53 gX6_40 sh_0 rfl ?_
          refine v_ild3 dX6_lay_56 ?_
          refine v_aaldN dX6_lay_57 sh_65 rfl (by omega) (by decide) ?_
          refine v_geti dX6_lay_58 gX6_193 (shS hs) rfl ?_
          refine v_eq (hs0) ?_
          refine v_iconst (x := -1) dX6_lay_61 (by decide) ?_
          refine v_icmp_ne (tgt := 68) dX6_lay_62 (by decide) (fun h62 => ?_) (fun h62 => ?_)
          · refine v_ald0 dX6_lay_68 ?_
            refine v_getr dX6_lay_69 gX6_47 sh_0 rfl ?_
            refine v_ild1 dX6_lay_72 ?_
            refine v_aaldN dX6_lay_73 sh_74 rfl (by omega) (by decide) ?_
            refine v_ast4 dX6_lay_74 (by decide) ?_
            refine v_ald4 dX6_lay_76 ?_
            refine v_geti dX6_lay_78 gX6_271 (shW hw) rfl ?_
            refine v_eq (ht0) ?_
            refine v_ist5 dX6_lay_81 (by decide) ?_
            refine v_ald4 dX6_lay_83 ?_
            refine v_ild2 dX6_lay_85 ?_
            refine v_puti dX6_lay_86 pX6_271 (shW hw) rfl rfl rfl ?_
            refine v_ild2 dX6_lay_89 ?_
            refine v_iconstN (n := 1) dX6_lay_90 ?_
            refine v_icmpN_ne (tgt := 111) dX6_lay_91 (by decide) (by omega) (by omega) (fun h91 => ?_) (fun h91 => absurd h91 (by decide))
            refine v_ild2 dX6_lay_111 ?_
            refine v_iconstN (n := 2) dX6_lay_112 ?_
            refine v_icmpN_ne (tgt := 133) dX6_lay_113 (by decide) (by omega) (by omega) (fun h113 => absurd h113 (by decide)) (fun h113 => ?_)
            refine v_ald4 dX6_lay_116 ?_
            refine v_getr dX6_lay_118 gX6_276 (shW hw) rfl ?_
            refine v_ald0 dX6_lay_121 ?_
            refine v_getr dX6_lay_122 gX6_40 sh_0 rfl ?_
            refine v_ild3 dX6_lay_125 ?_
            refine v_aaldN dX6_lay_126 sh_65 rfl (by omega) (by decide) ?_
            refine v_callVv (kS_takeOver E _ (WB.row hw) hs (by omega)) dX6_lay_127 cX6_280 rfl (shS (WB.row hw)) rfl (by decide) (Nat.le_of_ble_eq_true rfl) rfl (fun M1z hq => ?_)
            refine v_goto (tgt := 139) dX6_lay_130 (by decide) ?_
            refine v_ild5 dX6_lay_139 ?_
            exact v_iret dX6_lay_141 rfl (⟨by unfold R_lay; rw [if_pos (by unfold gLa; rw [nb0 h4, nb0 h13, show decide (nI 2 = nI 1) = false from by decide, show decide (nI 2 = nI 2) = true from by decide, nb0 h41]; rfl), if_neg (fun q => h62 (by have := q.2; rw [tN_n (by omega)] at this; exact this)), tN_n (p := i) (by omega)], by unfold F_lay; rw [if_pos (by unfold gLa; rw [nb0 h4, nb0 h13, show decide (nI 2 = nI 1) = false from by decide, show decide (nI 2 = nI 2) = true from by decide, nb0 h41]; rfl), if_neg (fun q => h62 (by have := q.2; rw [tN_n (by omega)] at this; exact this)), tN_n (p := i) (by omega)]; exact hW.set (fun a h1 h2 h3 => by rw [hq.2.2 a h2 h3, wr_ne h1]) (by rw [hq.2.2 _ (by omega) (by omega), wr_at, pk_us]; rfl) (by show tN (nI 2) < 4; decide) (fun q => absurd q (by show ¬ tN (nI 2) = 1; decide)) (fun _ => ⟨by rw [hq.1, wr_ne (by omega), tN_n (p := j) (by omega)]; exact hsz, by rw [tN_n (p := j) (by omega)]; exact hz24, fun k hk => by rw [hq.2.1 k hk, wr_ne (by omega), tN_n (p := j) (by omega)]; exact hce k hk⟩) (fun q => absurd q (by show ¬ tN (nI 2) = 3; decide)), fun a h => by rw [hq.2.2 a (by omega) (by omega), wr_ne (by omega)]⟩)
          · refine v_ldc dX6_lay_65 kX6_196 ?_
            exact v_iret dX6_lay_67 rfl (⟨by unfold R_lay; rw [if_pos (by unfold gLa; rw [nb0 h4, nb0 h13, show decide (nI 2 = nI 1) = false from by decide, show decide (nI 2 = nI 2) = true from by decide, nb0 h41]; rfl), if_pos (show nI 2 = nI 2 ∧ so (tN (nI j)) = -1 from ⟨rfl, by rw [tN_n (by omega)]; exact h62⟩)], by unfold F_lay; rw [if_pos (by unfold gLa; rw [nb0 h4, nb0 h13, show decide (nI 2 = nI 1) = false from by decide, show decide (nI 2 = nI 2) = true from by decide, nb0 h41]; rfl), if_pos (show nI 2 = nI 2 ∧ so (tN (nI j)) = -1 from ⟨rfl, by rw [tN_n (by omega)]; exact h62⟩)]; exact hW, FrL.rf Mz⟩)
        · refine v_ldc dX6_lay_44 kX6_67 ?_
          exact v_iret dX6_lay_46 rfl (⟨by unfold R_lay; rw [if_neg (by unfold gLa; rw [nb0 h4, nb0 h13, show decide (nI 2 = nI 1) = false from by decide, show decide (nI 2 = nI 2) = true from by decide, nb1 h41]; simp)], by unfold F_lay; rw [if_neg (by unfold gLa; rw [nb0 h4, nb0 h13, show decide (nI 2 = nI 1) = false from by decide, show decide (nI 2 = nI 2) = true from by decide, nb1 h41]; simp)]; exact hW, FrL.rf Mz⟩)
      · refine v_ild2 dX6_lay_19 ?_
        refine v_iconstN (n := 1) dX6_lay_20 ?_
        refine v_icmpN_ne (tgt := 32) dX6_lay_21 (by decide) (by omega) (by omega) (fun h21 => ?_) (fun h21 => absurd h21 (by decide))
        refine v_ild2 dX6_lay_32 ?_
        refine v_iconstN (n := 2) dX6_lay_33 ?_
        refine v_icmpN_ne (tgt := 47) dX6_lay_34 (by decide) (by omega) (by omega) (fun h34 => ?_) (fun h34 => absurd h34 (by decide))
        refine v_ild2 dX6_lay_47 ?_
        refine v_iconstN (n := 2) dX6_lay_48 ?_
        refine v_icmpN_ne (tgt := 68) dX6_lay_49 (by decide) (by omega) (by omega) (fun h49 => ?_) (fun h49 => absurd h49 (by decide))
        refine v_ald0 dX6_lay_68 ?_
        refine v_getr dX6_lay_69 gX6_47 sh_0 rfl ?_
        refine v_ild1 dX6_lay_72 ?_
        refine v_aaldN dX6_lay_73 sh_74 rfl (by omega) (by decide) ?_
        refine v_ast4 dX6_lay_74 (by decide) ?_
        refine v_ald4 dX6_lay_76 ?_
        refine v_geti dX6_lay_78 gX6_271 (shW hw) rfl ?_
        refine v_eq (ht0) ?_
        refine v_ist5 dX6_lay_81 (by decide) ?_
        refine v_ald4 dX6_lay_83 ?_
        refine v_ild2 dX6_lay_85 ?_
        refine v_puti dX6_lay_86 pX6_271 (shW hw) rfl rfl rfl ?_
        refine v_ild2 dX6_lay_89 ?_
        refine v_iconstN (n := 1) dX6_lay_90 ?_
        refine v_icmpN_ne (tgt := 111) dX6_lay_91 (by decide) (by omega) (by omega) (fun h91 => ?_) (fun h91 => absurd h91 (by decide))
        refine v_ild2 dX6_lay_111 ?_
        refine v_iconstN (n := 2) dX6_lay_112 ?_
        refine v_icmpN_ne (tgt := 133) dX6_lay_113 (by decide) (by omega) (by omega) (fun h113 => ?_) (fun h113 => absurd h113 (by decide))
        refine v_ald4 dX6_lay_133 ?_
        refine v_ild3 dX6_lay_135 ?_
        refine v_puti dX6_lay_136 pX6_283 (shW hw) rfl rfl rfl ?_
        refine v_ild5 dX6_lay_139 ?_
        exact v_iret dX6_lay_141 rfl (⟨by unfold R_lay; rw [if_pos (by unfold gLa; rw [nb0 h4, nb0 h13, show decide (nI 3 = nI 1) = false from by decide, show decide (nI 3 = nI 2) = false from by decide]; rfl), if_neg (fun q => absurd q.1 (by decide)), tN_n (p := i) (by omega)], by unfold F_lay; rw [if_pos (by unfold gLa; rw [nb0 h4, nb0 h13, show decide (nI 3 = nI 1) = false from by decide, show decide (nI 3 = nI 2) = false from by decide]; rfl), if_neg (fun q => absurd q.1 (by decide)), tN_n (p := i) (by omega)]; exact hW.set (fun a h1 _ _ => by rw [wr_ne h1, wr_ne h1]) (by rw [wr_at, pk_un (by decide), wr_at, pk_us]; rfl) (by show tN (nI 3) < 4; decide) (fun q => absurd q (by show ¬ tN (nI 3) = 1; decide)) (fun q => absurd q (by show ¬ tN (nI 3) = 2; decide)) (fun _ => by rw [wr_at, pk_us]), fun a h => by rw [wr_ne (by omega), wr_ne (by omega)]⟩)
    · refine v_ldc dX6_lay_16 kX6_67 ?_
      exact v_iret dX6_lay_18 rfl (⟨by unfold R_lay; rw [if_neg (by simp [gLa, nb0 h4, nb1 h13])], by unfold F_lay; rw [if_neg (by simp [gLa, nb0 h4, nb1 h13])]; exact hW, FrL.rf Mz⟩)
set_option maxRecDepth 100000 in
set_option maxHeartbeats 4000000 in
theorem aX_ask (E : ev) (Mz : mm) {x y : Int32} {W : Nat → slT} (hW : SlC Mz W) : Ct E 2 yX6_ask cX6_ask 4 (some .int) [.inr 0, .inl x, .inl y] Mz (qI E (fun r M' => r = R_ask W x y ∧ M' = Mz)) := by
  refine ct_of (by decide) (Nat.le_of_ble_eq_true rfl) ?_
  show V E 2 _ _ _ _ _ 0 [some (.inr 0), some (.inl x), some (.inl y), none] [] Mz
  refine v_ild1 dX6_ask_0 ?_
  refine v_callSi (kX_noSlot E _) dX6_ask_1 cX6_268 rfl (by decide) (Nat.le_of_ble_eq_true rfl) rfl (fun r M1z hq => ?_)
  obtain ⟨hr, hm⟩ := hq
  rw [hr, hm]
  clear hr hm
  refine v_if_ne (tgt := 14) dX6_ask_4 (by decide) (fun h4 => ?_) (fun h4 => ?_)
  · refine v_ldc dX6_ask_14 kX6_67 ?_
    exact v_iret dX6_ask_16 rfl (⟨by unfold R_ask; rw [if_neg (by simp [nb1 h4])], rfl⟩)
  · refine v_ild2 dX6_ask_7 ?_
    refine v_callSi (kX_noKind E _) dX6_ask_8 cX6_59 rfl (by decide) (Nat.le_of_ble_eq_true rfl) rfl (fun r M1z hq => ?_)
    obtain ⟨hr, hm⟩ := hq
    rw [hr, hm]
    clear hr hm
    refine v_if_eq (tgt := 17) dX6_ask_11 (by decide) (fun h11 => ?_) (fun h11 => ?_)
    · obtain ⟨i, hil, hi, rfl⟩ := inB_n (by decide) (by decide) (nb0 h4)
      have hi5 : i < 5 := by omega
      have hw := wbi hi5
      obtain ⟨ht0, ht4, hk1, hk2, hk3⟩ := hW i hi5
      obtain ⟨g, hgl, hg, rfl⟩ := inB_n (by decide) (by decide) (nb0 h11)
      refine v_ald0 dX6_ask_17 ?_
      refine v_getr dX6_ask_18 gX6_47 sh_0 rfl ?_
      refine v_ild1 dX6_ask_21 ?_
      refine v_aaldN dX6_ask_22 sh_74 rfl (by omega) (by decide) ?_
      refine v_ast3 dX6_ask_23 (by decide) ?_
      refine v_ald3 dX6_ask_24 ?_
      refine v_geti dX6_ask_25 gX6_271 (shW hw) rfl ?_
      refine v_eq (ht0) ?_
      refine v_if_ne (tgt := 34) dX6_ask_28 (by decide) (fun h28 => ?_) (fun h28 => ?_)
      · refine v_ald3 dX6_ask_34 ?_
        refine v_geti dX6_ask_35 gX6_271 (shW hw) rfl ?_
        refine v_eq (ht0) ?_
        refine v_iconstN (n := 1) dX6_ask_38 ?_
        refine v_icmpN_ne (tgt := 53) dX6_ask_39 (by decide) (by omega) (by omega) (fun h39 => ?_) (fun h39 => ?_)
        · refine v_ldc dX6_ask_53 kX6_106 ?_
          exact v_iret dX6_ask_55 rfl (⟨by unfold R_ask; rw [if_pos (by simp [nb0 h4, nb0 h11]), tN_n (p := i) (by omega), if_neg h28, if_neg (fun q => h39 q.1)], rfl⟩)
        · obtain ⟨hkn, hk6⟩ := hk1 h39
          refine v_ald3 dX6_ask_42 ?_
          refine v_geti dX6_ask_43 gX6_274 (shW hw) rfl ?_
          refine v_eq (hkn) ?_
          refine v_ild2 dX6_ask_46 ?_
          refine v_callSi (kX_isOf E Mz hk6 (by omega)) dX6_ask_47 cX6_102 rfl (by decide) (Nat.le_of_ble_eq_true rfl) rfl (fun r M1z hq => ?_)
          obtain ⟨hr, hm⟩ := hq
          rw [hr, hm]
          clear hr hm
          refine v_if_ne (tgt := 56) dX6_ask_50 (by decide) (fun h50 => ?_) (fun h50 => ?_)
          · refine v_getW dX6_ask_56 sX6_92 ?_
            refine v_ald3 dX6_ask_59 ?_
            refine v_geti dX6_ask_60 gX6_274 (shW hw) rfl ?_
            refine v_eq (hkn) ?_
            refine v_aldW dX6_ask_63 (vp_in_nI (by omega) (by decide)) ?_
            exact v_iret dX6_ask_64 rfl (⟨by unfold R_ask; rw [if_pos (by simp [nb0 h4, nb0 h11]), tN_n (p := i) (by omega), if_neg h28, if_pos ⟨h39, b2_1.mp h50⟩, nI_clamp (by omega)], rfl⟩)
          · refine v_ldc dX6_ask_53 kX6_106 ?_
            exact v_iret dX6_ask_55 rfl (⟨by unfold R_ask; rw [if_pos (by simp [nb0 h4, nb0 h11]), tN_n (p := i) (by omega), if_neg h28, if_neg (fun q => absurd q.2 (by rw [b2_0.mp h50]; decide))], rfl⟩)
      · refine v_ldc dX6_ask_31 kX6_196 ?_
        exact v_iret dX6_ask_33 rfl (⟨by unfold R_ask; rw [if_pos (by simp [nb0 h4, nb0 h11]), tN_n (p := i) (by omega), if_pos h28], rfl⟩)
    · refine v_ldc dX6_ask_14 kX6_67 ?_
      exact v_iret dX6_ask_16 rfl (⟨by unfold R_ask; rw [if_neg (by simp [nb0 h4, nb1 h11])], rfl⟩)
set_option maxRecDepth 100000 in
set_option maxHeartbeats 4000000 in
theorem aX_item (E : ev) (Mz : mm) {x p : Int32} {W : Nat → slT} (hW : SlC Mz W) : Ct E 2 yX6_item cX6_item 4 (some .int) [.inr 0, .inl x, .inl p] Mz (qI E (fun r M' => r = R_item W x p ∧ M' = Mz)) := by
  refine ct_of (by decide) (Nat.le_of_ble_eq_true rfl) ?_
  show V E 2 _ _ _ _ _ 0 [some (.inr 0), some (.inl x), some (.inl p), none] [] Mz
  refine v_ild1 dX6_item_0 ?_
  refine v_callSi (kX_noSlot E _) dX6_item_1 cX6_268 rfl (by decide) (Nat.le_of_ble_eq_true rfl) rfl (fun r M1z hq => ?_)
  obtain ⟨hr, hm⟩ := hq
  rw [hr, hm]
  clear hr hm
  refine v_if_eq (tgt := 10) dX6_item_4 (by decide) (fun h4 => ?_) (fun h4 => ?_)
  · obtain ⟨i, hil, hi, rfl⟩ := inB_n (by decide) (by decide) (nb0 h4)
    have hi5 : i < 5 := by omega
    have hw := wbi hi5
    obtain ⟨ht0, ht4, hk1, hk2, hk3⟩ := hW i hi5
    refine v_ald0 dX6_item_10 ?_
    refine v_getr dX6_item_11 gX6_47 sh_0 rfl ?_
    refine v_ild1 dX6_item_14 ?_
    refine v_aaldN dX6_item_15 sh_74 rfl (by omega) (by decide) ?_
    refine v_ast3 dX6_item_16 (by decide) ?_
    refine v_ald3 dX6_item_17 ?_
    refine v_geti dX6_item_18 gX6_271 (shW hw) rfl ?_
    refine v_eq (ht0) ?_
    refine v_if_ne (tgt := 27) dX6_item_21 (by decide) (fun h21 => ?_) (fun h21 => ?_)
    · refine v_ald3 dX6_item_27 ?_
      refine v_geti dX6_item_28 gX6_271 (shW hw) rfl ?_
      refine v_eq (ht0) ?_
      refine v_iconstN (n := 2) dX6_item_31 ?_
      refine v_icmpN_eq (tgt := 38) dX6_item_32 (by decide) (by omega) (by omega) (fun h32 => ?_) (fun h32 => ?_)
      · obtain ⟨hsz, hz24, hce⟩ := hk2 h32
        refine v_ild2 dX6_item_38 ?_
        refine v_iconstN (n := 0) dX6_item_39 ?_
        refine v_ald3 dX6_item_40 ?_
        refine v_getr dX6_item_41 gX6_276 (shW hw) rfl ?_
        refine v_geti dX6_item_44 gX6_197 (shS (WB.row hw)) rfl ?_
        refine v_eq (hsz) ?_
        refine v_iconstN (n := 1) dX6_item_47 ?_
        refine v_isub dX6_item_48 ?_
        refine v_callSi (kX_outside E _) dX6_item_49 cX6_63 rfl (by decide) (Nat.le_of_ble_eq_true rfl) rfl (fun r M1z hq => ?_)
        obtain ⟨hr, hm⟩ := hq
        rw [hr, hm]
        clear hr hm
        refine v_if_eq (tgt := 58) dX6_item_52 (by decide) (fun h52 => ?_) (fun h52 => ?_)
        · obtain ⟨k, hk, rfl⟩ := inP hz24 (nb0 h52)
          have hck := hce k (by omega)
          refine v_ald3 dX6_item_58 ?_
          refine v_getr dX6_item_59 gX6_276 (shW hw) rfl ?_
          refine v_ild2 dX6_item_62 ?_
          refine v_callVi (kS_hasNumber E Mz (WB.row hw) (by omega)) dX6_item_63 cX6_200 rfl (shS (WB.row hw)) rfl (by decide) (Nat.le_of_ble_eq_true rfl) rfl (fun r M1z hq => ?_)
          obtain ⟨hr, hm⟩ := hq
          rw [hr, hm]
          clear hr hm
          refine v_if_eq (tgt := 81) dX6_item_66 (by decide) (fun h66 => ?_) (fun h66 => ?_)
          · refine v_ldc dX6_item_81 kX6_106 ?_
            exact v_iret dX6_item_83 rfl (⟨by unfold R_item; rw [if_pos (show isW (nI i) = true from nb0 h4), tN_n (p := i) (by omega), if_neg h21, if_pos h32, if_pos (nb0 h52), tN_n (p := k) (by omega), if_pos (by rw [← hck]; exact of_decide_eq_true (nb0 h66))], rfl⟩)
          · refine v_ald3 dX6_item_69 ?_
            refine v_getr dX6_item_70 gX6_276 (shW hw) rfl ?_
            refine v_getr dX6_item_73 gX6_203 (shS (WB.row hw)) rfl ?_
            refine v_ild2 dX6_item_76 ?_
            refine v_ialdN dX6_item_77 (shS1 (WB.row hw)) (by omega) (by decide) ?_
            refine v_goto (tgt := 83) dX6_item_78 (by decide) ?_
            exact v_iret dX6_item_83 rfl (⟨by unfold R_item; rw [if_pos (show isW (nI i) = true from nb0 h4), tN_n (p := i) (by omega), if_neg h21, if_pos h32, if_pos (nb0 h52), tN_n (p := k) (by omega), if_neg (by rw [← hck]; exact of_decide_eq_false (nb1 h66)), hck], rfl⟩)
        · refine v_ldc dX6_item_55 kX6_253 ?_
          exact v_iret dX6_item_57 rfl (⟨by unfold R_item; rw [if_pos (show isW (nI i) = true from nb0 h4), tN_n (p := i) (by omega), if_neg h21, if_pos h32, if_neg (by rw [nb1 h52]; decide)], rfl⟩)
      · refine v_ldc dX6_item_35 kX6_106 ?_
        exact v_iret dX6_item_37 rfl (⟨by unfold R_item; rw [if_pos (show isW (nI i) = true from nb0 h4), tN_n (p := i) (by omega), if_neg h21, if_neg h32], rfl⟩)
    · refine v_ldc dX6_item_24 kX6_196 ?_
      exact v_iret dX6_item_26 rfl (⟨by unfold R_item; rw [if_pos (show isW (nI i) = true from nb0 h4), tN_n (p := i) (by omega), if_pos h21], rfl⟩)
  · refine v_ldc dX6_item_7 kX6_67 ?_
    exact v_iret dX6_item_9 rfl (⟨by unfold R_item; rw [if_neg (by rw [show isW x = false from nb1 h4]; decide)], rfl⟩)
set_option maxRecDepth 100000 in
set_option maxHeartbeats 4000000 in
theorem aX_rest (E : ev) (Mz : mm) {x n : Int32} {W : Nat → slT} (hW : SlC Mz W) : Ct E 2 yX6_rest cX6_rest 4 (some .int) [.inr 0, .inl x, .inl n] Mz (qI E (fun r M' => r = R_rest W x n ∧ M' = Mz)) := by
  refine ct_of (by decide) (Nat.le_of_ble_eq_true rfl) ?_
  show V E 2 _ _ _ _ _ 0 [some (.inr 0), some (.inl x), some (.inl n), none] [] Mz
  refine v_ild1 dX6_rest_0 ?_
  refine v_callSi (kX_noSlot E _) dX6_rest_1 cX6_268 rfl (by decide) (Nat.le_of_ble_eq_true rfl) rfl (fun r M1z hq => ?_)
  obtain ⟨hr, hm⟩ := hq
  rw [hr, hm]
  clear hr hm
  refine v_if_eq (tgt := 10) dX6_rest_4 (by decide) (fun h4 => ?_) (fun h4 => ?_)
  · obtain ⟨i, hil, hi, rfl⟩ := inB_n (by decide) (by decide) (nb0 h4)
    have hi5 : i < 5 := by omega
    have hw := wbi hi5
    obtain ⟨ht0, ht4, hk1, hk2, hk3⟩ := hW i hi5
    refine v_ald0 dX6_rest_10 ?_
    refine v_getr dX6_rest_11 gX6_47 sh_0 rfl ?_
    refine v_ild1 dX6_rest_14 ?_
    refine v_aaldN dX6_rest_15 sh_74 rfl (by omega) (by decide) ?_
    refine v_ast3 dX6_rest_16 (by decide) ?_
    refine v_ald3 dX6_rest_17 ?_
    refine v_geti dX6_rest_18 gX6_271 (shW hw) rfl ?_
    refine v_eq (ht0) ?_
    refine v_if_ne (tgt := 27) dX6_rest_21 (by decide) (fun h21 => ?_) (fun h21 => ?_)
    · refine v_ald3 dX6_rest_27 ?_
      refine v_geti dX6_rest_28 gX6_271 (shW hw) rfl ?_
      refine v_eq (ht0) ?_
      refine v_iconstN (n := 3) dX6_rest_31 ?_
      refine v_icmpN_eq (tgt := 38) dX6_rest_32 (by decide) (by omega) (by omega) (fun h32 => ?_) (fun h32 => ?_)
      · refine v_ild2 dX6_rest_38 ?_
        refine v_if_ne (tgt := 48) dX6_rest_39 (by decide) (fun h39 => ?_) (fun h39 => ?_)
        · refine v_ald3 dX6_rest_48 ?_
          refine v_geti dX6_rest_49 gX6_283 (shW hw) rfl ?_
          refine v_eq (hk3 h32) ?_
          refine v_ild2 dX6_rest_52 ?_
          refine v_irem dX6_rest_53 (h39) ?_
          exact v_iret dX6_rest_54 rfl (⟨by unfold R_rest; rw [if_pos (show isW (nI i) = true from nb0 h4), tN_n (p := i) (by omega), if_neg h21, if_pos h32, if_neg h39], rfl⟩)
        · refine v_ldcw dX6_rest_42 kX6_286 ?_
          refine v_goto (tgt := 54) dX6_rest_45 (by decide) ?_
          exact v_iret dX6_rest_54 rfl (⟨by unfold R_rest; rw [if_pos (show isW (nI i) = true from nb0 h4), tN_n (p := i) (by omega), if_neg h21, if_pos h32, if_pos h39], rfl⟩)
      · refine v_ldc dX6_rest_35 kX6_106 ?_
        exact v_iret dX6_rest_37 rfl (⟨by unfold R_rest; rw [if_pos (show isW (nI i) = true from nb0 h4), tN_n (p := i) (by omega), if_neg h21, if_neg h32], rfl⟩)
    · refine v_ldc dX6_rest_24 kX6_196 ?_
      exact v_iret dX6_rest_26 rfl (⟨by unfold R_rest; rw [if_pos (show isW (nI i) = true from nb0 h4), tN_n (p := i) (by omega), if_pos h21], rfl⟩)
  · refine v_ldc dX6_rest_7 kX6_67 ?_
    exact v_iret dX6_rest_9 rfl (⟨by unfold R_rest; rw [if_neg (by rw [show isW x = false from nb1 h4]; decide)], rfl⟩)
set_option maxRecDepth 100000 in
set_option maxHeartbeats 4000000 in
theorem aM_ask (E : ev) (Mz : mm) {x y : Int32} {W : Nat → slT} (hW : SlM Mz W) : Ct E 2 yX7_ask cX7_ask 3 (some .int) [.inr 92, .inl x, .inl y] Mz (qI E (fun r M' => r = R_ask W x y ∧ M' = Mz)) := by
  refine ct_of (by decide) (Nat.le_of_ble_eq_true rfl) ?_
  show V E 2 _ _ _ _ _ 0 [some (.inr 92), some (.inl x), some (.inl y)] [] Mz
  refine v_ild1 dX7_ask_0 ?_
  refine v_callSi (kM_isSlot E _) dX7_ask_1 cX7_275 rfl (by decide) (Nat.le_of_ble_eq_true rfl) rfl (fun r M1z hq => ?_)
  obtain ⟨hr, hm⟩ := hq
  rw [hr, hm]
  clear hr hm
  refine v_if_eq (tgt := 16) dX7_ask_4 (by decide) (fun h4 => ?_) (fun h4 => ?_)
  · refine v_ldc dX7_ask_16 kX7_119 ?_
    exact v_iret dX7_ask_18 rfl (⟨by unfold R_ask; rw [if_neg (by simp [show isW x = false from b2_0.mp h4])], rfl⟩)
  · refine v_ild2 dX7_ask_7 ?_
    refine v_iconstN (n := 0) dX7_ask_8 ?_
    refine v_iconstN (n := 5) dX7_ask_9 ?_
    refine v_callSi (kM_in E _) dX7_ask_10 cX7_75 rfl (by decide) (Nat.le_of_ble_eq_true rfl) rfl (fun r M1z hq => ?_)
    obtain ⟨hr, hm⟩ := hq
    rw [hr, hm]
    clear hr hm
    refine v_if_ne (tgt := 19) dX7_ask_13 (by decide) (fun h13 => ?_) (fun h13 => ?_)
    · obtain ⟨i, hil, hi, rfl⟩ := inB_n (by decide) (by decide) (b2_1.mp h4)
      have hi5 : i < 5 := by omega
      obtain ⟨ht0, ht4, hk1, hk2, hk3⟩ := hW i hi5
      obtain ⟨g, hgl, hg, rfl⟩ := inB_n (by decide) (by decide) (b2_1.mp h13)
      refine v_ald0 dX7_ask_19 ?_
      refine v_getr dX7_ask_20 gX7_57 sh_92 rfl ?_
      refine v_ild1 dX7_ask_23 ?_
      refine v_ialdN dX7_ask_24 sh_108 (by omega) (by decide) ?_
      refine v_eq (ht0) ?_
      refine v_if_ne (tgt := 31) dX7_ask_25 (by decide) (fun h25 => ?_) (fun h25 => ?_)
      · refine v_ald0 dX7_ask_31 ?_
        refine v_getr dX7_ask_32 gX7_57 sh_92 rfl ?_
        refine v_ild1 dX7_ask_35 ?_
        refine v_ialdN dX7_ask_36 sh_108 (by omega) (by decide) ?_
        refine v_eq (ht0) ?_
        refine v_iconstN (n := 1) dX7_ask_37 ?_
        refine v_icmpN_ne (tgt := 63) dX7_ask_38 (by decide) (by omega) (by omega) (fun h38 => ?_) (fun h38 => ?_)
        · refine v_ldc dX7_ask_63 kX7_141 ?_
          exact v_iret dX7_ask_65 rfl (⟨by unfold R_ask; rw [if_pos (by simp [b2_1.mp h4, show isF (nI g) = true from b2_1.mp h13]), tN_n (p := i) (by omega), if_neg h25, if_neg (fun q => h38 q.1)], rfl⟩)
        · obtain ⟨hkn, hk6, hkt⟩ := hk1 h38
          refine v_ald0 dX7_ask_41 ?_
          refine v_getr dX7_ask_42 gX7_60 sh_92 rfl ?_
          refine v_ild1 dX7_ask_45 ?_
          refine v_ialdN dX7_ask_46 sh_109 (by omega) (by decide) ?_
          refine v_eq (hkn) ?_
          refine v_ild2 dX7_ask_47 ?_
          refine v_callSi (kM_isUnder E Mz) dX7_ask_48 cX7_138 rfl (by decide) (Nat.le_of_ble_eq_true rfl) rfl (fun r M1z hq => ?_)
          obtain ⟨hr, hm⟩ := hq
          rw [hr, hm]
          clear hr hm
          refine v_if_eq (tgt := 63) dX7_ask_51 (by decide) (fun h51 => ?_) (fun h51 => ?_)
          · refine v_ldc dX7_ask_63 kX7_141 ?_
            exact v_iret dX7_ask_65 rfl (⟨by unfold R_ask; rw [if_pos (by simp [b2_1.mp h4, show isF (nI g) = true from b2_1.mp h13]), tN_n (p := i) (by omega), if_neg h25, if_neg (fun q => absurd q.2 (by rw [b2_0.mp h51]; decide))], rfl⟩)
          · refine v_ald0 dX7_ask_54 ?_
            refine v_getr dX7_ask_55 gX7_63 sh_92 rfl ?_
            refine v_ild1 dX7_ask_58 ?_
            refine v_ialdN dX7_ask_59 sh_110 (by omega) (by decide) ?_
            refine v_goto (tgt := 65) dX7_ask_60 (by decide) ?_
            exact v_iret dX7_ask_65 rfl (⟨by unfold R_ask; rw [if_pos (by simp [b2_1.mp h4, show isF (nI g) = true from b2_1.mp h13]), tN_n (p := i) (by omega), if_neg h25, if_pos ⟨h38, b2_1.mp h51⟩, hkt], rfl⟩)
      · refine v_ldc dX7_ask_28 kX7_202 ?_
        exact v_iret dX7_ask_30 rfl (⟨by unfold R_ask; rw [if_pos (by simp [b2_1.mp h4, show isF (nI g) = true from b2_1.mp h13]), tN_n (p := i) (by omega), if_pos h25], rfl⟩)
    · refine v_ldc dX7_ask_16 kX7_119 ?_
      exact v_iret dX7_ask_18 rfl (⟨by unfold R_ask; rw [if_neg (by simp [show isW x = true from b2_1.mp h4, show isF y = false from b2_0.mp h13])], rfl⟩)
set_option maxRecDepth 100000 in
set_option maxHeartbeats 4000000 in
theorem aM_item (E : ev) (Mz : mm) {x p : Int32} {W : Nat → slT} (hW : SlM Mz W) : Ct E 2 yX7_item cX7_item 4 (some .int) [.inr 92, .inl x, .inl p] Mz (qI E (fun r M' => r = R_item W x p ∧ M' = Mz)) := by
  refine ct_of (by decide) (Nat.le_of_ble_eq_true rfl) ?_
  show V E 2 _ _ _ _ _ 0 [some (.inr 92), some (.inl x), some (.inl p), none] [] Mz
  refine v_ild1 dX7_item_0 ?_
  refine v_callSi (kM_isSlot E _) dX7_item_1 cX7_275 rfl (by decide) (Nat.le_of_ble_eq_true rfl) rfl (fun r M1z hq => ?_)
  obtain ⟨hr, hm⟩ := hq
  rw [hr, hm]
  clear hr hm
  refine v_if_ne (tgt := 10) dX7_item_4 (by decide) (fun h4 => ?_) (fun h4 => ?_)
  · obtain ⟨i, hil, hi, rfl⟩ := inB_n (by decide) (by decide) (b2_1.mp h4)
    have hi5 : i < 5 := by omega
    obtain ⟨ht0, ht4, hk1, hk2, hk3⟩ := hW i hi5
    refine v_ald0 dX7_item_10 ?_
    refine v_getr dX7_item_11 gX7_57 sh_92 rfl ?_
    refine v_ild1 dX7_item_14 ?_
    refine v_ialdN dX7_item_15 sh_108 (by omega) (by decide) ?_
    refine v_eq (ht0) ?_
    refine v_if_ne (tgt := 22) dX7_item_16 (by decide) (fun h16 => ?_) (fun h16 => ?_)
    · refine v_ald0 dX7_item_22 ?_
      refine v_getr dX7_item_23 gX7_57 sh_92 rfl ?_
      refine v_ild1 dX7_item_26 ?_
      refine v_ialdN dX7_item_27 sh_108 (by omega) (by decide) ?_
      refine v_eq (ht0) ?_
      refine v_iconstN (n := 2) dX7_item_28 ?_
      refine v_icmpN_eq (tgt := 35) dX7_item_29 (by decide) (by omega) (by omega) (fun h29 => ?_) (fun h29 => ?_)
      · obtain ⟨hsz, hz24, hce⟩ := hk2 h29
        refine v_ild2 dX7_item_35 ?_
        refine v_iconstN (n := 0) dX7_item_36 ?_
        refine v_ald0 dX7_item_37 ?_
        refine v_getr dX7_item_38 gX7_60 sh_92 rfl ?_
        refine v_ild1 dX7_item_41 ?_
        refine v_ialdN dX7_item_42 sh_109 (by omega) (by decide) ?_
        refine v_eq (hsz) ?_
        refine v_iconstN (n := 1) dX7_item_43 ?_
        refine v_isub dX7_item_44 ?_
        refine v_callSi (kM_in E _) dX7_item_45 cX7_75 rfl (by decide) (Nat.le_of_ble_eq_true rfl) rfl (fun r M1z hq => ?_)
        obtain ⟨hr, hm⟩ := hq
        rw [hr, hm]
        clear hr hm
        refine v_if_ne (tgt := 55) dX7_item_48 (by decide) (fun h48 => ?_) (fun h48 => ?_)
        · obtain ⟨k, hk, rfl⟩ := inP hz24 (b2_1.mp h48)
          have hck := hce k (by omega)
          refine v_ald0 dX7_item_55 ?_
          refine v_getr dX7_item_56 gX7_66 sh_92 rfl ?_
          refine v_bipushN (n := 24) dX7_item_59 (by decide) ?_
          refine v_ild1 dX7_item_61 ?_
          refine v_imulN dX7_item_62 ?_
          refine v_ild2 dX7_item_63 ?_
          refine v_iaddN dX7_item_64 ?_
          refine v_ialdN dX7_item_65 sh_111 (by omega) (by decide) ?_
          refine v_eq (hck) ?_
          refine v_ist3 dX7_item_66 (by decide) ?_
          refine v_ild3 dX7_item_67 ?_
          refine v_ldc dX7_item_68 kX7_191 ?_
          refine v_icmp_ne (tgt := 78) dX7_item_70 (by decide) (fun h70 => ?_) (fun h70 => ?_)
          · refine v_ild3 dX7_item_78 ?_
            exact v_iret dX7_item_79 rfl (⟨by unfold R_item; rw [if_pos (show isW (nI i) = true from b2_1.mp h4), tN_n (p := i) (by omega), if_neg h16, if_pos h29, if_pos (b2_1.mp h48), tN_n (p := k) (by omega), if_neg (show ¬ (W i).2.2.2.2 k = cNONE from h70)], rfl⟩)
          · refine v_ldc dX7_item_73 kX7_141 ?_
            refine v_goto (tgt := 79) dX7_item_75 (by decide) ?_
            exact v_iret dX7_item_79 rfl (⟨by unfold R_item; rw [if_pos (show isW (nI i) = true from b2_1.mp h4), tN_n (p := i) (by omega), if_neg h16, if_pos h29, if_pos (b2_1.mp h48), tN_n (p := k) (by omega), if_pos (show (W i).2.2.2.2 k = cNONE from h70)], rfl⟩)
        · refine v_ldcw dX7_item_51 kX7_272 ?_
          exact v_iret dX7_item_54 rfl (⟨by unfold R_item; rw [if_pos (show isW (nI i) = true from b2_1.mp h4), tN_n (p := i) (by omega), if_neg h16, if_pos h29, if_neg (by rw [b2_0.mp h48]; decide)], rfl⟩)
      · refine v_ldc dX7_item_32 kX7_141 ?_
        exact v_iret dX7_item_34 rfl (⟨by unfold R_item; rw [if_pos (show isW (nI i) = true from b2_1.mp h4), tN_n (p := i) (by omega), if_neg h16, if_neg h29], rfl⟩)
    · refine v_ldc dX7_item_19 kX7_202 ?_
      exact v_iret dX7_item_21 rfl (⟨by unfold R_item; rw [if_pos (show isW (nI i) = true from b2_1.mp h4), tN_n (p := i) (by omega), if_pos h16], rfl⟩)
  · refine v_ldc dX7_item_7 kX7_119 ?_
    exact v_iret dX7_item_9 rfl (⟨by unfold R_item; rw [if_neg (by rw [show isW x = false from b2_0.mp h4]; decide)], rfl⟩)
set_option maxRecDepth 100000 in
set_option maxHeartbeats 4000000 in
theorem aM_rest (E : ev) (Mz : mm) {x n : Int32} {W : Nat → slT} (hW : SlM Mz W) : Ct E 2 yX7_rest cX7_rest 3 (some .int) [.inr 92, .inl x, .inl n] Mz (qI E (fun r M' => r = R_rest W x n ∧ M' = Mz)) := by
  refine ct_of (by decide) (Nat.le_of_ble_eq_true rfl) ?_
  show V E 2 _ _ _ _ _ 0 [some (.inr 92), some (.inl x), some (.inl n)] [] Mz
  refine v_ild1 dX7_rest_0 ?_
  refine v_callSi (kM_isSlot E _) dX7_rest_1 cX7_275 rfl (by decide) (Nat.le_of_ble_eq_true rfl) rfl (fun r M1z hq => ?_)
  obtain ⟨hr, hm⟩ := hq
  rw [hr, hm]
  clear hr hm
  refine v_if_ne (tgt := 10) dX7_rest_4 (by decide) (fun h4 => ?_) (fun h4 => ?_)
  · obtain ⟨i, hil, hi, rfl⟩ := inB_n (by decide) (by decide) (b2_1.mp h4)
    have hi5 : i < 5 := by omega
    obtain ⟨ht0, ht4, hk1, hk2, hk3⟩ := hW i hi5
    refine v_ald0 dX7_rest_10 ?_
    refine v_getr dX7_rest_11 gX7_57 sh_92 rfl ?_
    refine v_ild1 dX7_rest_14 ?_
    refine v_ialdN dX7_rest_15 sh_108 (by omega) (by decide) ?_
    refine v_eq (ht0) ?_
    refine v_if_ne (tgt := 22) dX7_rest_16 (by decide) (fun h16 => ?_) (fun h16 => ?_)
    · refine v_ald0 dX7_rest_22 ?_
      refine v_getr dX7_rest_23 gX7_57 sh_92 rfl ?_
      refine v_ild1 dX7_rest_26 ?_
      refine v_ialdN dX7_rest_27 sh_108 (by omega) (by decide) ?_
      refine v_eq (ht0) ?_
      refine v_iconstN (n := 3) dX7_rest_28 ?_
      refine v_icmpN_eq (tgt := 35) dX7_rest_29 (by decide) (by omega) (by omega) (fun h29 => ?_) (fun h29 => ?_)
      · refine v_ild2 dX7_rest_35 ?_
        refine v_if_ne (tgt := 45) dX7_rest_36 (by decide) (fun h36 => ?_) (fun h36 => ?_)
        · refine v_ild2 dX7_rest_45 ?_
          refine v_iconst (x := -1) dX7_rest_46 (by decide) ?_
          refine v_icmp_ne (tgt := 54) dX7_rest_47 (by decide) (fun h47 => ?_) (fun h47 => ?_)
          · refine v_ald0 dX7_rest_54 ?_
            refine v_getr dX7_rest_55 gX7_60 sh_92 rfl ?_
            refine v_ild1 dX7_rest_58 ?_
            refine v_ialdN dX7_rest_59 sh_109 (by omega) (by decide) ?_
            refine v_eq (hk3 h29) ?_
            refine v_ild2 dX7_rest_60 ?_
            refine v_irem dX7_rest_61 (h36) ?_
            exact v_iret dX7_rest_62 rfl (⟨by unfold R_rest; rw [if_pos (show isW (nI i) = true from b2_1.mp h4), tN_n (p := i) (by omega), if_neg h16, if_pos h29, if_neg h36], rfl⟩)
          · refine v_iconstN (n := 0) dX7_rest_50 ?_
            refine v_goto (tgt := 62) dX7_rest_51 (by decide) ?_
            exact v_iret dX7_rest_62 rfl (⟨by unfold R_rest; rw [if_pos (show isW (nI i) = true from b2_1.mp h4), tN_n (p := i) (by omega), if_neg h16, if_pos h29, if_neg h36, h47, rem_m1]; rfl, rfl⟩)
        · refine v_ldcw dX7_rest_39 kX7_278 ?_
          refine v_goto (tgt := 62) dX7_rest_42 (by decide) ?_
          exact v_iret dX7_rest_62 rfl (⟨by unfold R_rest; rw [if_pos (show isW (nI i) = true from b2_1.mp h4), tN_n (p := i) (by omega), if_neg h16, if_pos h29, if_pos h36], rfl⟩)
      · refine v_ldc dX7_rest_32 kX7_141 ?_
        exact v_iret dX7_rest_34 rfl (⟨by unfold R_rest; rw [if_pos (show isW (nI i) = true from b2_1.mp h4), tN_n (p := i) (by omega), if_neg h16, if_neg h29], rfl⟩)
    · refine v_ldc dX7_rest_19 kX7_202 ?_
      exact v_iret dX7_rest_21 rfl (⟨by unfold R_rest; rw [if_pos (show isW (nI i) = true from b2_1.mp h4), tN_n (p := i) (by omega), if_pos h16], rfl⟩)
  · refine v_ldc dX7_rest_7 kX7_119 ?_
    exact v_iret dX7_rest_9 rfl (⟨by unfold R_rest; rw [if_neg (by rw [show isW x = false from b2_0.mp h4]; decide)], rfl⟩)
theorem mv_wr {M : mm} {a j : Nat} {x : Int32} (h : a ≠ 93) : mv (wr M a j x) = mv M := by unfold mv; rw [wr_ne (Ne.symm h)]
set_option maxRecDepth 100000 in
set_option maxHeartbeats 4000000 in
theorem aM_lay (E : ev) (Mz : mm) {x t y : Int32} {U : Nat} (hI : CI (mv Mz) U) {so : Nat → Int32} {sz : Nat → Nat} {ce : Nat → Nat → Int32} (hS : ShM Mz so sz ce) {W : Nat → slT} (hW : SlM Mz W) : Ct E 3 yX7_lay cX7_lay 6 (some .int) [.inr 92, .inl x, .inl t, .inl y] Mz (qI E (fun r M' => r = R_lay (mv Mz) (so, sz, ce) W x t y ∧ SlM M' (F_lay (mv Mz) (so, sz, ce) W x t y) ∧ FrK Mz M')) := by
  refine ct_of (by decide) (Nat.le_of_ble_eq_true rfl) ?_
  show V E 3 _ _ _ _ _ 0 [some (.inr 92), some (.inl x), some (.inl t), some (.inl y), none, none] [] Mz
  refine v_ild1 dX7_lay_0 ?_
  refine v_callSi (kM_isSlot E _) dX7_lay_1 cX7_275 rfl (by decide) (Nat.le_of_ble_eq_true rfl) rfl (fun r M1z hq => ?_)
  obtain ⟨hr, hm⟩ := hq
  rw [hr, hm]
  clear hr hm
  refine v_if_eq (tgt := 41) dX7_lay_4 (by decide) (fun h4 => ?_) (fun h4 => ?_)
  · refine v_ldc dX7_lay_41 kX7_119 ?_
    exact v_iret dX7_lay_43 rfl (⟨by unfold R_lay; rw [if_neg (by simp [gLa, show isW x = false from b2_0.mp h4])], by unfold F_lay; rw [if_neg (by simp [gLa, show isW x = false from b2_0.mp h4])]; exact hW, FrK.rf Mz⟩)
  · refine v_ild2 dX7_lay_7 ?_
    refine v_iconstN (n := 0) dX7_lay_8 ?_
    refine v_iconstN (n := 3) dX7_lay_9 ?_
    refine v_callSi (kM_in E _) dX7_lay_10 cX7_75 rfl (by decide) (Nat.le_of_ble_eq_true rfl) rfl (fun r M1z hq => ?_)
    obtain ⟨hr, hm⟩ := hq
    rw [hr, hm]
    clear hr hm
    refine v_if_eq (tgt := 41) dX7_lay_13 (by decide) (fun h13 => ?_) (fun h13 => ?_)
    · refine v_ldc dX7_lay_41 kX7_119 ?_
      exact v_iret dX7_lay_43 rfl (⟨by unfold R_lay; rw [if_neg (by simp [gLa, show isW x = true from b2_1.mp h4, b2_0.mp h13])], by unfold F_lay; rw [if_neg (by simp [gLa, show isW x = true from b2_1.mp h4, b2_0.mp h13])]; exact hW, FrK.rf Mz⟩)
    · obtain ⟨i, hil, hi, rfl⟩ := inB_n (by decide) (by decide) (b2_1.mp h4)
      have hi5 : i < 5 := by omega
      obtain ⟨ht0, ht4, hk1, hk2, hk3⟩ := hW i hi5
      obtain ⟨t, htl, ht, rfl⟩ := inB_n (by decide) (by decide) (b2_1.mp h13)
      rcases (show t = 0 ∨ t = 1 ∨ t = 2 ∨ t = 3 by omega) with rfl | rfl | rfl | rfl
      · refine v_ild2 dX7_lay_16 ?_
        refine v_iconstN (n := 1) dX7_lay_17 ?_
        refine v_icmpN_ne (tgt := 29) dX7_lay_18 (by decide) (by omega) (by omega) (fun h18 => ?_) (fun h18 => absurd h18 (by decide))
        refine v_ild2 dX7_lay_29 ?_
        refine v_iconstN (n := 2) dX7_lay_30 ?_
        refine v_icmpN_ne (tgt := 44) dX7_lay_31 (by decide) (by omega) (by omega) (fun h31 => ?_) (fun h31 => absurd h31 (by decide))
        refine v_ild2 dX7_lay_44 ?_
        refine v_iconstN (n := 2) dX7_lay_45 ?_
        refine v_icmpN_ne (tgt := 61) dX7_lay_46 (by decide) (by omega) (by omega) (fun h46 => ?_) (fun h46 => absurd h46 (by decide))
        refine v_ald0 dX7_lay_61 ?_
        refine v_getr dX7_lay_62 gX7_57 sh_92 rfl ?_
        refine v_ild1 dX7_lay_65 ?_
        refine v_ialdN dX7_lay_66 sh_108 (by omega) (by decide) ?_
        refine v_eq (ht0) ?_
        refine v_ist4 dX7_lay_67 (by decide) ?_
        refine v_ald0 dX7_lay_69 ?_
        refine v_getr dX7_lay_70 gX7_57 sh_92 rfl ?_
        refine v_ild1 dX7_lay_73 ?_
        refine v_ild2 dX7_lay_74 ?_
        refine v_iastN dX7_lay_75 sh_108 (by omega) (by decide) ?_
        refine v_ald0 dX7_lay_76 ?_
        refine v_getr dX7_lay_77 gX7_60 sh_92 rfl ?_
        refine v_ild1 dX7_lay_80 ?_
        refine v_ild2 dX7_lay_81 ?_
        refine v_iconstN (n := 1) dX7_lay_82 ?_
        refine v_icmpN_ne (tgt := 95) dX7_lay_83 (by decide) (by omega) (by omega) (fun h83 => ?_) (fun h83 => absurd h83 (by decide))
        refine v_ild2 dX7_lay_95 ?_
        refine v_iconstN (n := 2) dX7_lay_96 ?_
        refine v_icmpN_ne (tgt := 109) dX7_lay_97 (by decide) (by omega) (by omega) (fun h97 => ?_) (fun h97 => absurd h97 (by decide))
        refine v_ild3 dX7_lay_109 ?_
        refine v_iastN dX7_lay_110 sh_109 (by omega) (by decide) ?_
        refine v_ald0 dX7_lay_111 ?_
        refine v_getr dX7_lay_112 gX7_63 sh_92 rfl ?_
        refine v_ild1 dX7_lay_115 ?_
        refine v_ild2 dX7_lay_116 ?_
        refine v_iconstN (n := 1) dX7_lay_117 ?_
        refine v_icmpN_ne (tgt := 129) dX7_lay_118 (by decide) (by omega) (by omega) (fun h118 => ?_) (fun h118 => absurd h118 (by decide))
        refine v_iconstN (n := 0) dX7_lay_129 ?_
        refine v_iastN dX7_lay_130 sh_110 (by omega) (by decide) ?_
        refine v_iconstN (n := 0) dX7_lay_131 ?_
        refine v_ist5 dX7_lay_132 (by decide) ?_
        refine v_ild5 dX7_lay_134 ?_
        refine v_bipushN (n := 24) dX7_lay_136 (by decide) ?_
        refine v_icmpN_ge (tgt := 176) dX7_lay_138 (by decide) (by omega) (by omega) (fun h138 => absurd h138 (by decide)) (fun h138 => ?_)
        refine v_ild2 dX7_lay_141 ?_
        refine v_iconstN (n := 2) dX7_lay_142 ?_
        refine v_icmpN_ne (tgt := 176) dX7_lay_143 (by decide) (by omega) (by omega) (fun h143 => ?_) (fun h143 => absurd h143 (by decide))
        refine v_ild4 dX7_lay_176 ?_
        exact v_iret dX7_lay_178 rfl (⟨by unfold R_lay; rw [if_pos (by unfold gLa; rw [show isW (nI i) = true from b2_1.mp h4, b2_1.mp h13, show decide (nI 0 = nI 1) = false from by decide, show decide (nI 0 = nI 2) = false from by decide]; rfl), if_neg (fun q => absurd q.1 (by decide)), tN_n (p := i) (by omega)], by unfold F_lay; rw [if_pos (by unfold gLa; rw [show isW (nI i) = true from b2_1.mp h4, b2_1.mp h13, show decide (nI 0 = nI 1) = false from by decide, show decide (nI 0 = nI 2) = false from by decide]; rfl), if_neg (fun q => absurd q.1 (by decide)), tN_n (p := i) (by omega)]; exact hW.set (fun q h => by skip; rw [wr_ne (by decide), wr_ne (by decide), wr_at, pk_un h]) (fun q h => by skip; rw [wr_ne (by decide), wr_at, pk_un h, wr_ne (by decide)]) (fun q h => by skip; rw [wr_at, pk_un h, wr_ne (by decide), wr_ne (by decide)]) (fun q h => by rw [wr_ne (by decide), wr_ne (by decide), wr_ne (by decide)]) (by skip; rw [wr_ne (by decide), wr_ne (by decide), wr_at, pk_us]; rfl) (by show tN (nI 0) < 4; decide) (fun q => absurd q (by show ¬ tN (nI 0) = 1; decide)) (fun q => absurd q (by show ¬ tN (nI 0) = 2; decide)) (fun q => absurd q (by show ¬ tN (nI 0) = 3; decide)), fun a h1 h2 h3 h4 => by rw [wr_ne h3, wr_ne h2, wr_ne h1]⟩)
      · refine v_ild2 dX7_lay_16 ?_
        refine v_iconstN (n := 1) dX7_lay_17 ?_
        refine v_icmpN_ne (tgt := 29) dX7_lay_18 (by decide) (by omega) (by omega) (fun h18 => absurd h18 (by decide)) (fun h18 => ?_)
        refine v_ald0 dX7_lay_21 ?_
        refine v_ild3 dX7_lay_22 ?_
        refine v_callVi (kM_isPerson E _) dX7_lay_23 cX7_128 rfl sh_92 rfl (by decide) (Nat.le_of_ble_eq_true rfl) rfl (fun r M1z hq => ?_)
        obtain ⟨hr, hm⟩ := hq
        rw [hr, hm, show inB y (nI 0) (mv Mz 1 - nI 1) = isP (mv Mz) y from rfl]
        clear hr hm
        refine v_if_eq (tgt := 41) dX7_lay_26 (by decide) (fun h26 => ?_) (fun h26 => ?_)
        · refine v_ldc dX7_lay_41 kX7_119 ?_
          exact v_iret dX7_lay_43 rfl (⟨by unfold R_lay; rw [if_neg (by unfold gLa; rw [show isW (nI i) = true from b2_1.mp h4, b2_1.mp h13, show decide (nI 1 = nI 1) = true from by decide, show decide (nI 1 = nI 2) = false from by decide, show isP (mv Mz) y = false from b2_0.mp h26]; simp)], by unfold F_lay; rw [if_neg (by unfold gLa; rw [show isW (nI i) = true from b2_1.mp h4, b2_1.mp h13, show decide (nI 1 = nI 1) = true from by decide, show decide (nI 1 = nI 2) = false from by decide, show isP (mv Mz) y = false from b2_0.mp h26]; simp)]; exact hW, FrK.rf Mz⟩)
        · refine v_ild2 dX7_lay_29 ?_
          refine v_iconstN (n := 2) dX7_lay_30 ?_
          refine v_icmpN_ne (tgt := 44) dX7_lay_31 (by decide) (by omega) (by omega) (fun h31 => ?_) (fun h31 => absurd h31 (by decide))
          refine v_ild2 dX7_lay_44 ?_
          refine v_iconstN (n := 2) dX7_lay_45 ?_
          refine v_icmpN_ne (tgt := 61) dX7_lay_46 (by decide) (by omega) (by omega) (fun h46 => ?_) (fun h46 => absurd h46 (by decide))
          refine v_ald0 dX7_lay_61 ?_
          refine v_getr dX7_lay_62 gX7_57 sh_92 rfl ?_
          refine v_ild1 dX7_lay_65 ?_
          refine v_ialdN dX7_lay_66 sh_108 (by omega) (by decide) ?_
          refine v_eq (ht0) ?_
          refine v_ist4 dX7_lay_67 (by decide) ?_
          refine v_ald0 dX7_lay_69 ?_
          refine v_getr dX7_lay_70 gX7_57 sh_92 rfl ?_
          refine v_ild1 dX7_lay_73 ?_
          refine v_ild2 dX7_lay_74 ?_
          refine v_iastN dX7_lay_75 sh_108 (by omega) (by decide) ?_
          refine v_ald0 dX7_lay_76 ?_
          refine v_getr dX7_lay_77 gX7_60 sh_92 rfl ?_
          refine v_ild1 dX7_lay_80 ?_
          refine v_ild2 dX7_lay_81 ?_
          refine v_iconstN (n := 1) dX7_lay_82 ?_
          refine v_icmpN_ne (tgt := 95) dX7_lay_83 (by decide) (by omega) (by omega) (fun h83 => absurd h83 (by decide)) (fun h83 => ?_)
          obtain ⟨p, hpn, hp, rfl⟩ := isP_n hI (b2_1.mp h26)
          refine v_ald0 dX7_lay_86 ?_
          refine v_ild3 dX7_lay_87 ?_
          refine v_iconstN (n := 0) dX7_lay_88 ?_
          refine v_callVi (kM_of E _ hp (by decide)) dX7_lay_89 cX7_79 rfl sh_92 rfl (by decide) (Nat.le_of_ble_eq_true rfl) rfl (fun r M1z hq => ?_)
          obtain ⟨hr, hm⟩ := hq
          rw [hr, hm, mv_wr (by decide), show mv Mz (19 + 10 * p + 0) = kd (mv Mz) p from rfl]
          clear hr hm
          refine v_goto (tgt := 110) dX7_lay_92 (by decide) ?_
          refine v_iastN dX7_lay_110 sh_109 (by omega) (by decide) ?_
          refine v_ald0 dX7_lay_111 ?_
          refine v_getr dX7_lay_112 gX7_63 sh_92 rfl ?_
          refine v_ild1 dX7_lay_115 ?_
          refine v_ild2 dX7_lay_116 ?_
          refine v_iconstN (n := 1) dX7_lay_117 ?_
          refine v_icmpN_ne (tgt := 129) dX7_lay_118 (by decide) (by omega) (by omega) (fun h118 => absurd h118 (by decide)) (fun h118 => ?_)
          refine v_ald0 dX7_lay_121 ?_
          refine v_ild3 dX7_lay_122 ?_
          refine v_callVi (kM_worthOf E (wr (wr Mz 108 i (nI 1)) 109 i (kd (mv Mz) p)) hp (by rw [mv_wr (by decide), mv_wr (by decide)]; exact hI)) dX7_lay_123 cX7_86 rfl sh_92 rfl (by decide) (Nat.le_of_ble_eq_true rfl) rfl (fun r M1z hq => ?_)
          obtain ⟨hr, hm⟩ := hq
          rw [hr, hm, mv_wr (by decide), mv_wr (by decide)]
          clear hr hm
          refine v_goto (tgt := 130) dX7_lay_126 (by decide) ?_
          refine v_iastN dX7_lay_130 sh_110 (by omega) (by decide) ?_
          refine v_iconstN (n := 0) dX7_lay_131 ?_
          refine v_ist5 dX7_lay_132 (by decide) ?_
          refine v_ild5 dX7_lay_134 ?_
          refine v_bipushN (n := 24) dX7_lay_136 (by decide) ?_
          refine v_icmpN_ge (tgt := 176) dX7_lay_138 (by decide) (by omega) (by omega) (fun h138 => absurd h138 (by decide)) (fun h138 => ?_)
          refine v_ild2 dX7_lay_141 ?_
          refine v_iconstN (n := 2) dX7_lay_142 ?_
          refine v_icmpN_ne (tgt := 176) dX7_lay_143 (by decide) (by omega) (by omega) (fun h143 => ?_) (fun h143 => absurd h143 (by decide))
          refine v_ild4 dX7_lay_176 ?_
          exact v_iret dX7_lay_178 rfl (⟨by unfold R_lay; rw [if_pos (by unfold gLa; rw [show isW (nI i) = true from b2_1.mp h4, b2_1.mp h13, show decide (nI 1 = nI 1) = true from by decide, show decide (nI 1 = nI 2) = false from by decide, b2_1.mp h26]; rfl), if_neg (fun q => absurd q.1 (by decide)), tN_n (p := i) (by omega)], by unfold F_lay; rw [if_pos (by unfold gLa; rw [show isW (nI i) = true from b2_1.mp h4, b2_1.mp h13, show decide (nI 1 = nI 1) = true from by decide, show decide (nI 1 = nI 2) = false from by decide, b2_1.mp h26]; rfl), if_neg (fun q => absurd q.1 (by decide)), tN_n (p := i) (by omega)]; exact hW.set (fun q h => by skip; rw [wr_ne (by decide), wr_ne (by decide), wr_at, pk_un h]) (fun q h => by skip; rw [wr_ne (by decide), wr_at, pk_un h, wr_ne (by decide)]) (fun q h => by skip; rw [wr_at, pk_un h, wr_ne (by decide), wr_ne (by decide)]) (fun q h => by rw [wr_ne (by decide), wr_ne (by decide), wr_ne (by decide)]) (by skip; rw [wr_ne (by decide), wr_ne (by decide), wr_at, pk_us]; rfl) (by show tN (nI 1) < 4; decide) (fun _ => by rw [tN_n (p := p) (by omega)]; obtain ⟨ke, hke, e⟩ := hI.kd hp; refine ⟨?_, ?_, ?_⟩; (skip; rw [wr_ne (by decide), wr_at, pk_us]; rw [show kd (mv Mz) p = nI ke from e, tN_n (p := ke) (by omega)]); (rw [show kd (mv Mz) p = nI ke from e, tN_n (p := ke) (by omega)]; exact hke); (skip; rw [wr_at, pk_us])) (fun q => absurd q (by show ¬ tN (nI 1) = 2; decide)) (fun q => absurd q (by show ¬ tN (nI 1) = 3; decide)), fun a h1 h2 h3 h4 => by rw [wr_ne h3, wr_ne h2, wr_ne h1]⟩)
      · refine v_ild2 dX7_lay_16 ?_
        refine v_iconstN (n := 1) dX7_lay_17 ?_
        refine v_icmpN_ne (tgt := 29) dX7_lay_18 (by decide) (by omega) (by omega) (fun h18 => ?_) (fun h18 => absurd h18 (by decide))
        refine v_ild2 dX7_lay_29 ?_
        refine v_iconstN (n := 2) dX7_lay_30 ?_
        refine v_icmpN_ne (tgt := 44) dX7_lay_31 (by decide) (by omega) (by omega) (fun h31 => absurd h31 (by decide)) (fun h31 => ?_)
        refine v_ild3 dX7_lay_34 ?_
        refine v_callSi (kM_isSheet E _) dX7_lay_35 cX7_199 rfl (by decide) (Nat.le_of_ble_eq_true rfl) rfl (fun r M1z hq => ?_)
        obtain ⟨hr, hm⟩ := hq
        rw [hr, hm]
        clear hr hm
        refine v_if_ne (tgt := 44) dX7_lay_38 (by decide) (fun h38 => ?_) (fun h38 => ?_)
        · refine v_ild2 dX7_lay_44 ?_
          refine v_iconstN (n := 2) dX7_lay_45 ?_
          refine v_icmpN_ne (tgt := 61) dX7_lay_46 (by decide) (by omega) (by omega) (fun h46 => absurd h46 (by decide)) (fun h46 => ?_)
          obtain ⟨j, hjl, hj, rfl⟩ := inB_n (by decide) (by decide) (b2_1.mp h38)
          have hj4 : j < 4 := by omega
          obtain ⟨hs0, hsz, ⟨hz24, hsor⟩, hce⟩ := hS j hj4
          refine v_ald0 dX7_lay_49 ?_
          refine v_getr dX7_lay_50 gX7_48 sh_92 rfl ?_
          refine v_ild3 dX7_lay_53 ?_
          refine v_ialdN dX7_lay_54 sh_105 (by omega) (by decide) ?_
          refine v_eq (hs0) ?_
          refine v_if_ge (tgt := 61) dX7_lay_55 (by decide) (fun h55 => ?_) (fun h55 => ?_)
          · refine v_ald0 dX7_lay_61 ?_
            refine v_getr dX7_lay_62 gX7_57 sh_92 rfl ?_
            refine v_ild1 dX7_lay_65 ?_
            refine v_ialdN dX7_lay_66 sh_108 (by omega) (by decide) ?_
            refine v_eq (ht0) ?_
            refine v_ist4 dX7_lay_67 (by decide) ?_
            refine v_ald0 dX7_lay_69 ?_
            refine v_getr dX7_lay_70 gX7_57 sh_92 rfl ?_
            refine v_ild1 dX7_lay_73 ?_
            refine v_ild2 dX7_lay_74 ?_
            refine v_iastN dX7_lay_75 sh_108 (by omega) (by decide) ?_
            refine v_ald0 dX7_lay_76 ?_
            refine v_getr dX7_lay_77 gX7_60 sh_92 rfl ?_
            refine v_ild1 dX7_lay_80 ?_
            refine v_ild2 dX7_lay_81 ?_
            refine v_iconstN (n := 1) dX7_lay_82 ?_
            refine v_icmpN_ne (tgt := 95) dX7_lay_83 (by decide) (by omega) (by omega) (fun h83 => ?_) (fun h83 => absurd h83 (by decide))
            refine v_ild2 dX7_lay_95 ?_
            refine v_iconstN (n := 2) dX7_lay_96 ?_
            refine v_icmpN_ne (tgt := 109) dX7_lay_97 (by decide) (by omega) (by omega) (fun h97 => absurd h97 (by decide)) (fun h97 => ?_)
            have hso : ¬ so j = -1 := fun e => absurd ((so_neg hsor).mpr e) (Int32.not_lt.mpr h55)
            refine v_ald0 dX7_lay_100 ?_
            refine v_getr dX7_lay_101 gX7_51 sh_92 rfl ?_
            refine v_ild3 dX7_lay_104 ?_
            refine v_ialdN dX7_lay_105 sh_106 (by omega) (by decide) ?_
            refine v_eq (hsz) ?_
            refine v_goto (tgt := 110) dX7_lay_106 (by decide) ?_
            refine v_iastN dX7_lay_110 sh_109 (by omega) (by decide) ?_
            refine v_ald0 dX7_lay_111 ?_
            refine v_getr dX7_lay_112 gX7_63 sh_92 rfl ?_
            refine v_ild1 dX7_lay_115 ?_
            refine v_ild2 dX7_lay_116 ?_
            refine v_iconstN (n := 1) dX7_lay_117 ?_
            refine v_icmpN_ne (tgt := 129) dX7_lay_118 (by decide) (by omega) (by omega) (fun h118 => ?_) (fun h118 => absurd h118 (by decide))
            refine v_iconstN (n := 0) dX7_lay_129 ?_
            refine v_iastN dX7_lay_130 sh_110 (by omega) (by decide) ?_
            refine v_iconstN (n := 0) dX7_lay_131 ?_
            refine v_ist5 dX7_lay_132 (by decide) ?_
            refine v_loopP (pc := 134) (fun k _ => [some (.inr 92), some (.inl (nI i)), some (.inl (nI 2)), some (.inl (nI j)), some (.inl (nI (W i).1)), some (.inl (nI k))]) (fun k Mk => (∀ q, Mk 111 q = if 24 * i ≤ q ∧ q < 24 * i + k then Mz 107 (24 * j + (q - 24 * i)) else Mz 111 q) ∧ ∀ q, q ≠ 111 → Mk q = (wr (wr (wr Mz 108 i (nI 2)) 109 i (nI (sz j))) 110 i (nI 0)) q) (24) (rfl) (⟨fun q => by rw [if_neg (by omega), wr_ne (by decide), wr_ne (by decide), wr_ne (by decide)], fun _ _ => rfl⟩) (fun k Mk hk hM ih => ?_) (fun Mk hM => ?_)
            · obtain ⟨hz, ho⟩ := hM
              refine v_ild5 dX7_lay_134 ?_
              refine v_bipushN (n := 24) dX7_lay_136 (by decide) ?_
              refine v_icmpN_ge (tgt := 176) dX7_lay_138 (by decide) (by omega) (by omega) (fun h138 => absurd h138 (by omega)) (fun h138 => ?_)
              refine v_ild2 dX7_lay_141 ?_
              refine v_iconstN (n := 2) dX7_lay_142 ?_
              refine v_icmpN_ne (tgt := 176) dX7_lay_143 (by decide) (by omega) (by omega) (fun h143 => absurd h143 (by decide)) (fun h143 => ?_)
              refine v_ald0 dX7_lay_146 ?_
              refine v_getr dX7_lay_147 gX7_66 sh_92 rfl ?_
              refine v_bipushN (n := 24) dX7_lay_150 (by decide) ?_
              refine v_ild1 dX7_lay_152 ?_
              refine v_imulN dX7_lay_153 ?_
              refine v_ild5 dX7_lay_154 ?_
              refine v_iaddN dX7_lay_156 ?_
              refine v_ald0 dX7_lay_157 ?_
              refine v_getr dX7_lay_158 gX7_54 sh_92 rfl ?_
              refine v_bipushN (n := 24) dX7_lay_161 (by decide) ?_
              refine v_ild3 dX7_lay_163 ?_
              refine v_imulN dX7_lay_164 ?_
              refine v_ild5 dX7_lay_165 ?_
              refine v_iaddN dX7_lay_167 ?_
              refine v_ialdN dX7_lay_168 sh_107 (by omega) (by decide) ?_
              refine v_iastN dX7_lay_169 sh_111 (by omega) (by decide) ?_
              refine v_iincN5 (n := 1) dX7_lay_170 (by decide) ?_
              refine v_goto (tgt := 134) dX7_lay_173 (by decide) ?_
              refine ih _ ⟨fun q => ?_, fun q h => by rw [wr_ne h]; exact ho q h⟩
              rw [wr_at]
              by_cases e : q = 24 * i + k
              · subst e; rw [pk_us, if_pos (by omega), ho 107 (by decide), wr_ne (by decide), wr_ne (by decide), wr_ne (by decide), show 24 * i + k - 24 * i = k by omega]
              · rw [pk_un e, hz q]
                by_cases e2 : 24 * i ≤ q ∧ q < 24 * i + k
                · rw [if_pos e2, if_pos (by omega)]
                · rw [if_neg e2, if_neg (by omega)]
            · obtain ⟨hz, ho⟩ := hM
              refine v_ild5 dX7_lay_134 ?_
              refine v_bipushN (n := 24) dX7_lay_136 (by decide) ?_
              refine v_icmpN_ge (tgt := 176) dX7_lay_138 (by decide) (by omega) (by omega) (fun h138 => ?_) (fun h138 => absurd h138 (by omega))
              refine v_ild4 dX7_lay_176 ?_
              exact v_iret dX7_lay_178 rfl (⟨by unfold R_lay; rw [if_pos (by unfold gLa; rw [show isW (nI i) = true from b2_1.mp h4, b2_1.mp h13, show decide (nI 2 = nI 1) = false from by decide, show decide (nI 2 = nI 2) = true from by decide, show isS (nI j) = true from b2_1.mp h38]; rfl), if_neg (fun q => hso (by have := q.2; rw [tN_n (by omega)] at this; exact this)), tN_n (p := i) (by omega)], by unfold F_lay; rw [if_pos (by unfold gLa; rw [show isW (nI i) = true from b2_1.mp h4, b2_1.mp h13, show decide (nI 2 = nI 1) = false from by decide, show decide (nI 2 = nI 2) = true from by decide, show isS (nI j) = true from b2_1.mp h38]; rfl), if_neg (fun q => hso (by have := q.2; rw [tN_n (by omega)] at this; exact this)), tN_n (p := i) (by omega)]; exact hW.set (fun q h => by rw [ho 108 (by decide)]; rw [wr_ne (by decide), wr_ne (by decide), wr_at, pk_un h]) (fun q h => by rw [ho 109 (by decide)]; rw [wr_ne (by decide), wr_at, pk_un h, wr_ne (by decide)]) (fun q h => by rw [ho 110 (by decide)]; rw [wr_at, pk_un h, wr_ne (by decide), wr_ne (by decide)]) (fun q h => by rw [hz q, if_neg h]) (by rw [ho 108 (by decide)]; rw [wr_ne (by decide), wr_ne (by decide), wr_at, pk_us]; rfl) (by show tN (nI 2) < 4; decide) (fun q => absurd q (by show ¬ tN (nI 2) = 1; decide)) (fun _ => ⟨by rw [tN_n (p := j) (by omega)]; rw [ho 109 (by decide)]; rw [wr_ne (by decide), wr_at, pk_us], by rw [tN_n (p := j) (by omega)]; exact hz24, fun k hk => by rw [hz _, if_pos (by omega), show 24 * i + k - 24 * i = k by omega, tN_n (p := j) (by omega)]; exact hce k hk⟩) (fun q => absurd q (by show ¬ tN (nI 2) = 3; decide)), fun a h1 h2 h3 h4 => by rw [ho a h4, wr_ne h3, wr_ne h2, wr_ne h1]⟩)
          · refine v_ldc dX7_lay_58 kX7_202 ?_
            exact v_iret dX7_lay_60 rfl (⟨by unfold R_lay; rw [if_pos (by unfold gLa; rw [show isW (nI i) = true from b2_1.mp h4, b2_1.mp h13, show decide (nI 2 = nI 1) = false from by decide, show decide (nI 2 = nI 2) = true from by decide, show isS (nI j) = true from b2_1.mp h38]; rfl), if_pos (show nI 2 = nI 2 ∧ so (tN (nI j)) = -1 from ⟨rfl, by rw [tN_n (by omega)]; exact (so_neg hsor).mp (Int32.not_le.mp h55)⟩)], by unfold F_lay; rw [if_pos (by unfold gLa; rw [show isW (nI i) = true from b2_1.mp h4, b2_1.mp h13, show decide (nI 2 = nI 1) = false from by decide, show decide (nI 2 = nI 2) = true from by decide, show isS (nI j) = true from b2_1.mp h38]; rfl), if_pos (show nI 2 = nI 2 ∧ so (tN (nI j)) = -1 from ⟨rfl, by rw [tN_n (by omega)]; exact (so_neg hsor).mp (Int32.not_le.mp h55)⟩)]; exact hW, FrK.rf Mz⟩)
        · refine v_ldc dX7_lay_41 kX7_119 ?_
          exact v_iret dX7_lay_43 rfl (⟨by unfold R_lay; rw [if_neg (by unfold gLa; rw [show isW (nI i) = true from b2_1.mp h4, b2_1.mp h13, show decide (nI 2 = nI 1) = false from by decide, show decide (nI 2 = nI 2) = true from by decide, show isS y = false from b2_0.mp h38]; simp)], by unfold F_lay; rw [if_neg (by unfold gLa; rw [show isW (nI i) = true from b2_1.mp h4, b2_1.mp h13, show decide (nI 2 = nI 1) = false from by decide, show decide (nI 2 = nI 2) = true from by decide, show isS y = false from b2_0.mp h38]; simp)]; exact hW, FrK.rf Mz⟩)
      · refine v_ild2 dX7_lay_16 ?_
        refine v_iconstN (n := 1) dX7_lay_17 ?_
        refine v_icmpN_ne (tgt := 29) dX7_lay_18 (by decide) (by omega) (by omega) (fun h18 => ?_) (fun h18 => absurd h18 (by decide))
        refine v_ild2 dX7_lay_29 ?_
        refine v_iconstN (n := 2) dX7_lay_30 ?_
        refine v_icmpN_ne (tgt := 44) dX7_lay_31 (by decide) (by omega) (by omega) (fun h31 => ?_) (fun h31 => absurd h31 (by decide))
        refine v_ild2 dX7_lay_44 ?_
        refine v_iconstN (n := 2) dX7_lay_45 ?_
        refine v_icmpN_ne (tgt := 61) dX7_lay_46 (by decide) (by omega) (by omega) (fun h46 => ?_) (fun h46 => absurd h46 (by decide))
        refine v_ald0 dX7_lay_61 ?_
        refine v_getr dX7_lay_62 gX7_57 sh_92 rfl ?_
        refine v_ild1 dX7_lay_65 ?_
        refine v_ialdN dX7_lay_66 sh_108 (by omega) (by decide) ?_
        refine v_eq (ht0) ?_
        refine v_ist4 dX7_lay_67 (by decide) ?_
        refine v_ald0 dX7_lay_69 ?_
        refine v_getr dX7_lay_70 gX7_57 sh_92 rfl ?_
        refine v_ild1 dX7_lay_73 ?_
        refine v_ild2 dX7_lay_74 ?_
        refine v_iastN dX7_lay_75 sh_108 (by omega) (by decide) ?_
        refine v_ald0 dX7_lay_76 ?_
        refine v_getr dX7_lay_77 gX7_60 sh_92 rfl ?_
        refine v_ild1 dX7_lay_80 ?_
        refine v_ild2 dX7_lay_81 ?_
        refine v_iconstN (n := 1) dX7_lay_82 ?_
        refine v_icmpN_ne (tgt := 95) dX7_lay_83 (by decide) (by omega) (by omega) (fun h83 => ?_) (fun h83 => absurd h83 (by decide))
        refine v_ild2 dX7_lay_95 ?_
        refine v_iconstN (n := 2) dX7_lay_96 ?_
        refine v_icmpN_ne (tgt := 109) dX7_lay_97 (by decide) (by omega) (by omega) (fun h97 => ?_) (fun h97 => absurd h97 (by decide))
        refine v_ild3 dX7_lay_109 ?_
        refine v_iastN dX7_lay_110 sh_109 (by omega) (by decide) ?_
        refine v_ald0 dX7_lay_111 ?_
        refine v_getr dX7_lay_112 gX7_63 sh_92 rfl ?_
        refine v_ild1 dX7_lay_115 ?_
        refine v_ild2 dX7_lay_116 ?_
        refine v_iconstN (n := 1) dX7_lay_117 ?_
        refine v_icmpN_ne (tgt := 129) dX7_lay_118 (by decide) (by omega) (by omega) (fun h118 => ?_) (fun h118 => absurd h118 (by decide))
        refine v_iconstN (n := 0) dX7_lay_129 ?_
        refine v_iastN dX7_lay_130 sh_110 (by omega) (by decide) ?_
        refine v_iconstN (n := 0) dX7_lay_131 ?_
        refine v_ist5 dX7_lay_132 (by decide) ?_
        refine v_ild5 dX7_lay_134 ?_
        refine v_bipushN (n := 24) dX7_lay_136 (by decide) ?_
        refine v_icmpN_ge (tgt := 176) dX7_lay_138 (by decide) (by omega) (by omega) (fun h138 => absurd h138 (by decide)) (fun h138 => ?_)
        refine v_ild2 dX7_lay_141 ?_
        refine v_iconstN (n := 2) dX7_lay_142 ?_
        refine v_icmpN_ne (tgt := 176) dX7_lay_143 (by decide) (by omega) (by omega) (fun h143 => ?_) (fun h143 => absurd h143 (by decide))
        refine v_ild4 dX7_lay_176 ?_
        exact v_iret dX7_lay_178 rfl (⟨by unfold R_lay; rw [if_pos (by unfold gLa; rw [show isW (nI i) = true from b2_1.mp h4, b2_1.mp h13, show decide (nI 3 = nI 1) = false from by decide, show decide (nI 3 = nI 2) = false from by decide]; rfl), if_neg (fun q => absurd q.1 (by decide)), tN_n (p := i) (by omega)], by unfold F_lay; rw [if_pos (by unfold gLa; rw [show isW (nI i) = true from b2_1.mp h4, b2_1.mp h13, show decide (nI 3 = nI 1) = false from by decide, show decide (nI 3 = nI 2) = false from by decide]; rfl), if_neg (fun q => absurd q.1 (by decide)), tN_n (p := i) (by omega)]; exact hW.set (fun q h => by skip; rw [wr_ne (by decide), wr_ne (by decide), wr_at, pk_un h]) (fun q h => by skip; rw [wr_ne (by decide), wr_at, pk_un h, wr_ne (by decide)]) (fun q h => by skip; rw [wr_at, pk_un h, wr_ne (by decide), wr_ne (by decide)]) (fun q h => by rw [wr_ne (by decide), wr_ne (by decide), wr_ne (by decide)]) (by skip; rw [wr_ne (by decide), wr_ne (by decide), wr_at, pk_us]; rfl) (by show tN (nI 3) < 4; decide) (fun q => absurd q (by show ¬ tN (nI 3) = 1; decide)) (fun q => absurd q (by show ¬ tN (nI 3) = 2; decide)) (fun _ => by skip; rw [wr_ne (by decide), wr_at, pk_us]), fun a h1 h2 h3 h4 => by rw [wr_ne h3, wr_ne h2, wr_ne h1]⟩)
