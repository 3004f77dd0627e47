/-! writes, seen in the views -/
theorem upd_upd_ne {f : Nat → Int32} {i j : Nat} {x y : Int32} (h : i ≠ j) : upd (upd f i x) j y = upd (upd f j y) i x := by
  funext k; unfold upd
  by_cases e1 : k = j
  · by_cases e2 : k = i
    · omega
    · rw [if_pos e1, if_neg e2, if_pos e1]
  · by_cases e2 : k = i
    · rw [if_neg e1, if_pos e2, if_pos e2]
    · rw [if_neg e1, if_neg e2, if_neg e2, if_neg e1]
theorem upd_self (f : Nat → Int32) (i : Nat) : upd f i (f i) = f := by
  funext k; unfold upd
  by_cases e : k = i
  · rw [if_pos e, e]
  · rw [if_neg e]
theorem upd_same (f : Nat → Int32) (i : Nat) (x y : Int32) : upd (upd f i x) i y = upd f i y := by
  funext k; unfold upd
  by_cases e : k = i
  · rw [if_pos e, if_pos e]
  · rw [if_neg e, if_neg e, if_neg e]
theorem mv_u {M : mm} {i : Nat} {x : Int32} (h : i < 99) : mv (wr M 93 i x) = upd (mv M) i x := by
  funext k; unfold mv
  rw [wr_at]
  unfold upd
  by_cases e : k = i
  · subst e; rw [if_pos h, if_pos rfl, if_pos rfl]
  · rw [if_neg e, if_neg e]
theorem cv_ukd {M : mm} {c p : Nat} {x : Int32} (hp : p < 8) : cv (wr M (c + 1) (p) x) c = upd (cv M c) (19 + 10 * p) x := by
  funext i
  by_cases e : i = 19 + 10 * p
  · subst e
    rw [pk_us, cv_kd _ c hp, wr_at, pk_us]
  · rw [pk_un e]
    unfold cv
    split
    · first | rw [wr_ne (by omega)] | rw [wr_at, pk_un (by omega)]
    · split
      · first | rw [wr_ne (by omega)] | rw [wr_at, pk_un (by omega)]
      · split
        · first | rw [wr_ne (by omega)] | rw [wr_at, pk_un (by omega)]
        · split
          · split
            · by_cases q : c + 1 + (i - 19) % 10 = c + 1
              · rw [q, wr_at, pk_un (by omega)]
              · rw [wr_ne q]
            · first | rw [wr_ne (by omega)] | rw [wr_at, pk_un (by omega)]
          · rfl
theorem cv_upl {M : mm} {c p : Nat} {x : Int32} (hp : p < 8) : cv (wr M (c + 2) (p) x) c = upd (cv M c) (20 + 10 * p) x := by
  funext i
  by_cases e : i = 20 + 10 * p
  · subst e
    rw [pk_us, cv_pl _ c hp, wr_at, pk_us]
  · rw [pk_un e]
    unfold cv
    split
    · first | rw [wr_ne (by omega)] | rw [wr_at, pk_un (by omega)]
    · split
      · first | rw [wr_ne (by omega)] | rw [wr_at, pk_un (by omega)]
      · split
        · first | rw [wr_ne (by omega)] | rw [wr_at, pk_un (by omega)]
        · split
          · split
            · by_cases q : c + 1 + (i - 19) % 10 = c + 2
              · rw [q, wr_at, pk_un (by omega)]
              · rw [wr_ne q]
            · first | rw [wr_ne (by omega)] | rw [wr_at, pk_un (by omega)]
          · rfl
theorem cv_utr {M : mm} {c p : Nat} {x : Int32} (hp : p < 8) : cv (wr M (c + 3) (p) x) c = upd (cv M c) (21 + 10 * p) x := by
  funext i
  by_cases e : i = 21 + 10 * p
  · subst e
    rw [pk_us, cv_tr _ c hp, wr_at, pk_us]
  · rw [pk_un e]
    unfold cv
    split
    · first | rw [wr_ne (by omega)] | rw [wr_at, pk_un (by omega)]
    · split
      · first | rw [wr_ne (by omega)] | rw [wr_at, pk_un (by omega)]
      · split
        · first | rw [wr_ne (by omega)] | rw [wr_at, pk_un (by omega)]
        · split
          · split
            · by_cases q : c + 1 + (i - 19) % 10 = c + 3
              · rw [q, wr_at, pk_un (by omega)]
              · rw [wr_ne q]
            · first | rw [wr_ne (by omega)] | rw [wr_at, pk_un (by omega)]
          · rfl
theorem cv_usu {M : mm} {c p : Nat} {x : Int32} (hp : p < 8) : cv (wr M (c + 4) (p) x) c = upd (cv M c) (22 + 10 * p) x := by
  funext i
  by_cases e : i = 22 + 10 * p
  · subst e
    rw [pk_us, cv_su _ c hp, wr_at, pk_us]
  · rw [pk_un e]
    unfold cv
    split
    · first | rw [wr_ne (by omega)] | rw [wr_at, pk_un (by omega)]
    · split
      · first | rw [wr_ne (by omega)] | rw [wr_at, pk_un (by omega)]
      · split
        · first | rw [wr_ne (by omega)] | rw [wr_at, pk_un (by omega)]
        · split
          · split
            · by_cases q : c + 1 + (i - 19) % 10 = c + 4
              · rw [q, wr_at, pk_un (by omega)]
              · rw [wr_ne q]
            · first | rw [wr_ne (by omega)] | rw [wr_at, pk_un (by omega)]
          · rfl
theorem cv_uth {M : mm} {c p f : Nat} {x : Int32} (hp : p < 8) (hf : f < 6) : cv (wr M (c + 5) (p * 6 + f) x) c = upd (cv M c) (23 + 10 * p + f) x := by
  funext i
  by_cases e : i = 23 + 10 * p + f
  · subst e
    rw [pk_us, cv_th _ c hp hf, wr_at, pk_us]
  · rw [pk_un e]
    unfold cv
    split
    · first | rw [wr_ne (by omega)] | rw [wr_at, pk_un (by omega)]
    · split
      · first | rw [wr_ne (by omega)] | rw [wr_at, pk_un (by omega)]
      · split
        · first | rw [wr_ne (by omega)] | rw [wr_at, pk_un (by omega)]
        · split
          · split
            · by_cases q : c + 1 + (i - 19) % 10 = c + 5
              · rw [q, wr_at, pk_un (by omega)]
              · rw [wr_ne q]
            · first | rw [wr_ne (by omega)] | rw [wr_at, pk_un (by omega)]
          · rfl
theorem cv_usw {M : mm} {c f : Nat} {x : Int32} (hf : f < 6) : cv (wr M (c + 6) (f) x) c = upd (cv M c) (7 + f) x := by
  funext i
  by_cases e : i = 7 + f
  · subst e
    rw [pk_us, cv_sw _ c hf, wr_at, pk_us]
  · rw [pk_un e]
    unfold cv
    split
    · first | rw [wr_ne (by omega)] | rw [wr_at, pk_un (by omega)]
    · split
      · first | rw [wr_ne (by omega)] | rw [wr_at, pk_un (by omega)]
      · split
        · first | rw [wr_ne (by omega)] | rw [wr_at, pk_un (by omega)]
        · split
          · split
            · by_cases q : c + 1 + (i - 19) % 10 = c + 6
              · rw [q, wr_at, pk_un (by omega)]
              · rw [wr_ne q]
            · first | rw [wr_ne (by omega)] | rw [wr_at, pk_un (by omega)]
          · rfl
theorem cv_ugr {M : mm} {c f : Nat} {x : Int32} (hf : f < 6) : cv (wr M (c + 7) (f) x) c = upd (cv M c) (13 + f) x := by
  funext i
  by_cases e : i = 13 + f
  · subst e
    rw [pk_us, cv_gr _ c hf, wr_at, pk_us]
  · rw [pk_un e]
    unfold cv
    split
    · first | rw [wr_ne (by omega)] | rw [wr_at, pk_un (by omega)]
    · split
      · first | rw [wr_ne (by omega)] | rw [wr_at, pk_un (by omega)]
      · split
        · first | rw [wr_ne (by omega)] | rw [wr_at, pk_un (by omega)]
        · split
          · split
            · by_cases q : c + 1 + (i - 19) % 10 = c + 7
              · rw [q, wr_at, pk_un (by omega)]
              · rw [wr_ne q]
            · first | rw [wr_ne (by omega)] | rw [wr_at, pk_un (by omega)]
          · rfl
theorem cv_z (M : mm) (c : Nat) : cv M c 0 = M c 13 := rfl
theorem cv_uz {M : mm} {c : Nat} {x : Int32} : cv (wr M c 13 x) c = upd (cv M c) 0 x := by
  funext i
  by_cases e : i = 0
  · subst e
    rw [pk_us, cv_z, wr_at, pk_us]
  · rw [pk_un e]
    unfold cv
    split
    · rw [wr_at]
      rcases (show i = 1 ∨ i = 2 ∨ i = 3 ∨ i = 4 ∨ i = 5 ∨ i = 6 by omega) with rfl | rfl | rfl | rfl | rfl | rfl <;> rfl
    · split
      · rw [wr_ne (by omega)]
      · split
        · rw [wr_ne (by omega)]
        · split
          · split
            · rw [wr_ne (by omega)]
            · rw [wr_ne (by omega)]
          · rfl
theorem cv_pe (M : mm) (c : Nat) : cv M c 1 = M c 1 := rfl
theorem cv_upe {M : mm} {c : Nat} {x : Int32} : cv (wr M c 1 x) c = upd (cv M c) 1 x := by
  funext i
  by_cases e : i = 1
  · subst e
    rw [pk_us, cv_pe, wr_at, pk_us]
  · rw [pk_un e]
    unfold cv
    split
    · rw [wr_at]
      rcases (show i = 0 ∨ i = 2 ∨ i = 3 ∨ i = 4 ∨ i = 5 ∨ i = 6 by omega) with rfl | rfl | rfl | rfl | rfl | rfl <;> rfl
    · split
      · rw [wr_ne (by omega)]
      · split
        · rw [wr_ne (by omega)]
        · split
          · split
            · rw [wr_ne (by omega)]
            · rw [wr_ne (by omega)]
          · rfl
theorem cv_wk (M : mm) (c : Nat) : cv M c 2 = M c 12 := rfl
theorem cv_uwk {M : mm} {c : Nat} {x : Int32} : cv (wr M c 12 x) c = upd (cv M c) 2 x := by
  funext i
  by_cases e : i = 2
  · subst e
    rw [pk_us, cv_wk, wr_at, pk_us]
  · rw [pk_un e]
    unfold cv
    split
    · rw [wr_at]
      rcases (show i = 0 ∨ i = 1 ∨ i = 3 ∨ i = 4 ∨ i = 5 ∨ i = 6 by omega) with rfl | rfl | rfl | rfl | rfl | rfl <;> rfl
    · split
      · rw [wr_ne (by omega)]
      · split
        · rw [wr_ne (by omega)]
        · split
          · split
            · rw [wr_ne (by omega)]
            · rw [wr_ne (by omega)]
          · rfl
theorem cv_wt (M : mm) (c : Nat) : cv M c 3 = M c 9 := rfl
theorem cv_uwt {M : mm} {c : Nat} {x : Int32} : cv (wr M c 9 x) c = upd (cv M c) 3 x := by
  funext i
  by_cases e : i = 3
  · subst e
    rw [pk_us, cv_wt, wr_at, pk_us]
  · rw [pk_un e]
    unfold cv
    split
    · rw [wr_at]
      rcases (show i = 0 ∨ i = 1 ∨ i = 2 ∨ i = 4 ∨ i = 5 ∨ i = 6 by omega) with rfl | rfl | rfl | rfl | rfl | rfl <;> rfl
    · split
      · rw [wr_ne (by omega)]
      · split
        · rw [wr_ne (by omega)]
        · split
          · split
            · rw [wr_ne (by omega)]
            · rw [wr_ne (by omega)]
          · rfl
theorem cv_wg (M : mm) (c : Nat) : cv M c 4 = M c 10 := rfl
theorem cv_uwg {M : mm} {c : Nat} {x : Int32} : cv (wr M c 10 x) c = upd (cv M c) 4 x := by
  funext i
  by_cases e : i = 4
  · subst e
    rw [pk_us, cv_wg, wr_at, pk_us]
  · rw [pk_un e]
    unfold cv
    split
    · rw [wr_at]
      rcases (show i = 0 ∨ i = 1 ∨ i = 2 ∨ i = 3 ∨ i = 5 ∨ i = 6 by omega) with rfl | rfl | rfl | rfl | rfl | rfl <;> rfl
    · split
      · rw [wr_ne (by omega)]
      · split
        · rw [wr_ne (by omega)]
        · split
          · split
            · rw [wr_ne (by omega)]
            · rw [wr_ne (by omega)]
          · rfl
theorem cv_ch (M : mm) (c : Nat) : cv M c 5 = M c 11 := rfl
theorem cv_uch {M : mm} {c : Nat} {x : Int32} : cv (wr M c 11 x) c = upd (cv M c) 5 x := by
  funext i
  by_cases e : i = 5
  · subst e
    rw [pk_us, cv_ch, wr_at, pk_us]
  · rw [pk_un e]
    unfold cv
    split
    · rw [wr_at]
      rcases (show i = 0 ∨ i = 1 ∨ i = 2 ∨ i = 3 ∨ i = 4 ∨ i = 6 by omega) with rfl | rfl | rfl | rfl | rfl | rfl <;> rfl
    · split
      · rw [wr_ne (by omega)]
      · split
        · rw [wr_ne (by omega)]
        · split
          · split
            · rw [wr_ne (by omega)]
            · rw [wr_ne (by omega)]
          · rfl
theorem cv_tx (M : mm) (c : Nat) : cv M c 6 = M c 14 := rfl
theorem cv_utx {M : mm} {c : Nat} {x : Int32} : cv (wr M c 14 x) c = upd (cv M c) 6 x := by
  funext i
  by_cases e : i = 6
  · subst e
    rw [pk_us, cv_tx, wr_at, pk_us]
  · rw [pk_un e]
    unfold cv
    split
    · rw [wr_at]
      rcases (show i = 0 ∨ i = 1 ∨ i = 2 ∨ i = 3 ∨ i = 4 ∨ i = 5 by omega) with rfl | rfl | rfl | rfl | rfl | rfl <;> rfl
    · split
      · rw [wr_ne (by omega)]
      · split
        · rw [wr_ne (by omega)]
        · split
          · split
            · rw [wr_ne (by omega)]
            · rw [wr_ne (by omega)]
          · rfl
theorem cv_ulat {M : mm} {c j : Nat} {x : Int32} : cv (wr M (c + 8) j x) c = cv M c := by
  funext i
  unfold cv
  split
  · rw [wr_ne (by omega)]
  · split
    · rw [wr_ne (by omega)]
    · split
      · rw [wr_ne (by omega)]
      · split
        · split
          · rw [wr_ne (by omega)]
          · rw [wr_ne (by omega)]
        · rfl
/-- the bound of a place -/
def rg (i : Nat) : Nat := if i = 1 then 9 else if i < 19 then 10 else if (i - 19) % 10 = 0 then 6 else if (i - 19) % 10 = 1 then 8 else if (i - 19) % 10 = 2 then 10 else if (i - 19) % 10 = 3 then 100 else 10
theorem inR_upd {v : fl} {i j n : Nat} {x : Int32} (h : inR (v j) n) (hx : j = i → inR x n) : inR (upd v i x j) n := by
  by_cases e : j = i
  · subst e; rw [pk_us]; exact hx rfl
  · rw [pk_un e]; exact h
theorem CI_upd {v : fl} {W i : Nat} {x : Int32} (h : CI v W) (h2 : i ≠ 2) (h3 : i ≠ 3) (h4 : i ≠ 4) (hx : inR x (rg i)) : CI (upd v i x) W := by
  refine ⟨inR_upd h.1 (fun e => by subst e; exact hx), fun p hp => ⟨inR_upd (h.kd hp) (fun e => ?_), inR_upd (h.pl hp) (fun e => ?_), inR_upd (h.tr hp) (fun e => ?_), inR_upd (h.su hp) (fun e => ?_), fun f hf => inR_upd (h.th hp hf) (fun e => ?_)⟩, fun f hf => ⟨inR_upd (h.sw hf) (fun e => ?_), inR_upd (h.gr hf) (fun e => ?_)⟩, ?_, ?_, ?_⟩
  · subst e; have : rg (19 + 10 * p) = 6 := by unfold rg; rw [if_neg (by omega), if_neg (by omega), if_pos (by omega)]
    rw [this] at hx; exact hx
  · subst e; have : rg (20 + 10 * p) = 8 := by unfold rg; rw [if_neg (by omega), if_neg (by omega), if_neg (by omega), if_pos (by omega)]
    rw [this] at hx; exact hx
  · subst e; have : rg (21 + 10 * p) = 10 := by unfold rg; rw [if_neg (by omega), if_neg (by omega), if_neg (by omega), if_neg (by omega), if_pos (by omega)]
    rw [this] at hx; exact hx
  · subst e; have : rg (22 + 10 * p) = 100 := by unfold rg; rw [if_neg (by omega), if_neg (by omega), if_neg (by omega), if_neg (by omega), if_neg (by omega), if_pos (by omega)]
    rw [this] at hx; exact hx
  · subst e; have : rg (23 + 10 * p + f) = 10 := by unfold rg; rw [if_neg (by omega), if_neg (by omega), if_neg (by omega), if_neg (by omega), if_neg (by omega), if_neg (by omega)]
    rw [this] at hx; exact hx
  · subst e; have : rg (7 + f) = 10 := by unfold rg; rw [if_neg (by omega), if_pos (by omega)]
    rw [this] at hx; exact hx
  · subst e; have : rg (13 + f) = 10 := by unfold rg; rw [if_neg (by omega), if_pos (by omega)]
    rw [this] at hx; exact hx
  · rw [pk_un (Ne.symm h2)]; exact h.2.2.2.1
  · rw [pk_un (Ne.symm h2), pk_un (Ne.symm h3)]; exact h.2.2.2.2.1
  · rw [pk_un (Ne.symm h2), pk_un (Ne.symm h4)]; exact h.2.2.2.2.2
/-- the places of which nothing is said: z, CHANGED, TEXTS -/
theorem CI_upd0 {v : fl} {W i : Nat} {x : Int32} (h : CI v W) (hi : i = 0 ∨ i = 5 ∨ i = 6) : CI (upd v i x) W := by
  have u : ∀ j, j ≠ i → upd v i x j = v j := fun j hj => pk_un hj
  refine ⟨by rw [u 1 (by omega)]; exact h.1, fun p hp => ⟨by rw [show kd (upd v i x) p = _ from u _ (by omega)]; exact h.kd hp, by rw [show pl (upd v i x) p = _ from u _ (by omega)]; exact h.pl hp, by rw [show tr (upd v i x) p = _ from u _ (by omega)]; exact h.tr hp, by rw [show su (upd v i x) p = _ from u _ (by omega)]; exact h.su hp, fun f hf => by rw [show th (upd v i x) p f = _ from u _ (by omega)]; exact h.th hp hf⟩, fun f hf => ⟨by rw [show sw (upd v i x) f = _ from u _ (by omega)]; exact h.sw hf, by rw [show gr (upd v i x) f = _ from u _ (by omega)]; exact h.gr hf⟩, by rw [u 2 (by omega)]; exact h.2.2.2.1, by rw [u 2 (by omega), u 3 (by omega)]; exact h.2.2.2.2.1, by rw [u 2 (by omega), u 4 (by omega)]; exact h.2.2.2.2.2⟩
/-! draws -/
def drw (z : Int32) : Int32 := z * 1103515245 + nI 12345
def dN (z : Int32) : Nat := (drw z).toBitVec.toNat / 256
theorem dN_lt (z : Int32) : dN z < 2 ^ 24 := by
  have := (drw z).toBitVec.isLt
  unfold dN
  omega
theorem nI_of32 (x : Int32) : x = nI x.toBitVec.toNat := by
  apply Int32.toBitVec_inj.mp
  show x.toBitVec = (Int32.ofNat x.toBitVec.toNat).toBitVec
  rw [Int32.toBitVec_ofNat']
  simp
theorem dr_eq (z : Int32) : ((drw z).toUInt32 >>> ((nI 8).toUInt32 &&& Int32.toUInt32 31)).toInt32 = nI (dN z) := by
  have h := nI_of32 (drw z)
  generalize hx : drw z = x at h
  unfold dN
  rw [hx]
  conv => lhs; rw [h]
  exact pk_ushrN x.toBitVec.isLt (nI 8) 8 (by decide)
/-! a week -/
def hr1 (pf : p4) (f : Nat) (c : Int32) (v : fl) (q : Nat) : fl :=
  if su v q < heed pf v q f c then upd (upd (upd v (23 + 10 * q + f) c) (22 + 10 * q) (if nI 99 < heed pf v q f c then nI 99 else heed pf v q f c)) 5 (v 5 + nI 1)
  else upd v (22 + 10 * q) (if su v q - nI 1 < nI 0 then nI 0 else su v q - nI 1)
def tkK (pf : p4) (v : fl) (p f : Nat) (c : Int32) : Nat → fl
  | 0 => v
  | q + 1 => if hearB (tkK pf v p f c q) q p = true then hr1 pf f c (tkK pf v p f c q) q else tkK pf v p f c q
def talk (pf : p4) (v : fl) (p : Nat) : fl :=
  if says v p (((v 2).toNatClampNeg + p) % 6) = 0 then v else tkK pf v p (((v 2).toNatClampNeg + p) % 6) (says v p (((v 2).toNatClampNeg + p) % 6)) (pn v)
def atK (pf : p4) (v : fl) : Nat → fl
  | 0 => v
  | p + 1 => talk pf (atK pf v p) p
def rdK (v : fl) (wh f : Nat) : Nat → fl
  | 0 => v
  | p + 1 => if pl (rdK v wh f p) p = nI wh then upd (rdK v wh f p) (23 + 10 * p + f) (sw (rdK v wh f p) f) else rdK v wh f p
def road (v : fl) : fl :=
  if sw v (dN (drw (v 0)) % 6) = 0 then upd v 0 (drw (drw (v 0))) else rdK (upd v 0 (drw (drw (v 0)))) (dN (v 0) % 8) (dN (drw (v 0)) % 6) (pn v)
def grw1 (v : fl) (f : Nat) : fl := upd v (13 + f) (fc v f)
def grw2 (v : fl) (f : Nat) : fl := upd (grw1 v f) 3 (v 3 + (if fc v f = 0 then 0 else vot v f (fc v f)))
def grwS (v : fl) (f : Nat) : fl := if fc v f = sw v f then grw2 v f else upd (grw2 v f) 4 (v 4 + nI 1)
def wkS (pf : p4) (v : fl) : fl := let u := road (atK pf v (pn v)); let g := grwS u ((u 2).toNatClampNeg % 6); upd g 2 (g 2 + nI 1)
def wksS (pf : p4) (v : fl) : Nat → fl
  | 0 => v
  | k + 1 => wkS pf (wksS pf v k)

