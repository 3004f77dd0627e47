/-! the cells of one kind, by their first -/
def CB (c : Nat) : Prop := c = 38 ∨ c = 47 ∨ c = 56
def TB (t : Nat) : Prop := t = 35 ∨ (5 ≤ t ∧ t < 33 ∧ t % 2 = 1)
def SB (s : Nat) : Prop := s = 66 ∨ s = 68 ∨ s = 70 ∨ s = 72 ∨ s = 76 ∨ s = 79 ∨ s = 82 ∨ s = 85 ∨ s = 88
def WB (s : Nat) : Prop := s = 75 ∨ s = 78 ∨ s = 81 ∨ s = 84 ∨ s = 87
theorem TB.cases {t : Nat} (h : TB t) : t = 35 ∨ t = 5 ∨ t = 7 ∨ t = 9 ∨ t = 11 ∨ t = 13 ∨ t = 15 ∨ t = 17 ∨ t = 19 ∨ t = 21 ∨ t = 23 ∨ t = 25 ∨ t = 27 ∨ t = 29 ∨ t = 31 := by unfold TB at h; omega
theorem CB.now : CB 38 := Or.inl rfl
theorem CB.image : CB 47 := Or.inr (Or.inl rfl)
theorem CB.trial : CB 56 := Or.inr (Or.inr rfl)
theorem shC {c : Nat} (h : CB c) : sh c = .inr (0, [some 1, none, some (c + 1), some (c + 2), some (c + 3), some (c + 4), some (c + 5), some (c + 6), some (c + 7), none, none, none, none, none, none, some (c + 8)]) := by rcases h with rfl | rfl | rfl <;> rfl
theorem shC1 {c : Nat} (h : CB c) : sh (c + 1) = .inl (0, 8, none) := by rcases h with rfl | rfl | rfl <;> rfl
theorem shC2 {c : Nat} (h : CB c) : sh (c + 2) = .inl (0, 8, none) := by rcases h with rfl | rfl | rfl <;> rfl
theorem shC3 {c : Nat} (h : CB c) : sh (c + 3) = .inl (0, 8, none) := by rcases h with rfl | rfl | rfl <;> rfl
theorem shC4 {c : Nat} (h : CB c) : sh (c + 4) = .inl (0, 8, none) := by rcases h with rfl | rfl | rfl <;> rfl
theorem shC5 {c : Nat} (h : CB c) : sh (c + 5) = .inl (0, 48, none) := by rcases h with rfl | rfl | rfl <;> rfl
theorem shC6 {c : Nat} (h : CB c) : sh (c + 6) = .inl (0, 6, none) := by rcases h with rfl | rfl | rfl <;> rfl
theorem shC7 {c : Nat} (h : CB c) : sh (c + 7) = .inl (0, 6, none) := by rcases h with rfl | rfl | rfl <;> rfl
theorem shC8 {c : Nat} (h : CB c) : sh (c + 8) = .inl (0, 3, none) := by rcases h with rfl | rfl | rfl <;> rfl
theorem shT {t : Nat} (h : TB t) : sh t = .inr (5, [none, none, none, some (t + 1)]) := by rcases h.cases with rfl | rfl | rfl | rfl | rfl | rfl | rfl | rfl | rfl | rfl | rfl | rfl | rfl | rfl | rfl <;> rfl
theorem shT1 {t : Nat} (h : TB t) : sh (t + 1) = .inl (0, 96, none) := by rcases h.cases with rfl | rfl | rfl | rfl | rfl | rfl | rfl | rfl | rfl | rfl | rfl | rfl | rfl | rfl | rfl <;> rfl
theorem shS {s : Nat} (h : SB s) : sh s = .inr (3, [none, none, some (s + 1)]) := by rcases h with rfl | rfl | rfl | rfl | rfl | rfl | rfl | rfl | rfl <;> rfl
theorem shS1 {s : Nat} (h : SB s) : sh (s + 1) = .inl (0, 24, none) := by rcases h with rfl | rfl | rfl | rfl | rfl | rfl | rfl | rfl | rfl <;> rfl
theorem shW {s : Nat} (h : WB s) : sh s = .inr (4, [none, none, none, some (s + 1)]) := by rcases h with rfl | rfl | rfl | rfl | rfl <;> rfl
theorem WB.row {s : Nat} (h : WB s) : SB (s + 1) := by unfold WB at h; unfold SB; omega
/-! a county as one row of numbers, laid as the reference lays it -/
def cv (M : mm) (c : Nat) : Nat → Int32 := fun i =>
  if i < 7 then M c (if i = 0 then 13 else if i = 1 then 1 else if i = 2 then 12 else if i = 3 then 9 else if i = 4 then 10 else if i = 5 then 11 else 14)
  else if i < 13 then M (c + 6) (i - 7)
  else if i < 19 then M (c + 7) (i - 13)
  else if i < 99 then (if (i - 19) % 10 < 4 then M (c + 1 + (i - 19) % 10) ((i - 19) / 10) else M (c + 5) ((i - 19) / 10 * 6 + ((i - 19) % 10 - 4)))
  else 0
abbrev fl : Type := Nat → Int32
abbrev kd (v : fl) (p : Nat) : Int32 := v (19 + 10 * p)
abbrev pl (v : fl) (p : Nat) : Int32 := v (20 + 10 * p)
abbrev tr (v : fl) (p : Nat) : Int32 := v (21 + 10 * p)
abbrev su (v : fl) (p : Nat) : Int32 := v (22 + 10 * p)
abbrev th (v : fl) (p f : Nat) : Int32 := v (23 + 10 * p + f)
abbrev sw (v : fl) (f : Nat) : Int32 := v (7 + f)
abbrev gr (v : fl) (f : Nat) : Int32 := v (13 + f)
def pn (v : fl) : Nat := (v 1).toNatClampNeg
theorem cv_kd (M : mm) (c : Nat) {p : Nat} (hp : p < 8) : cv M c (19 + 10 * p) = M (c + 1) p := by
  unfold cv
  rw [if_neg (by omega), if_neg (by omega), if_neg (by omega), if_pos (by omega), if_pos (by omega), show (19 + 10 * p - 19) % 10 = 0 by omega, show (19 + 10 * p - 19) / 10 = p by omega]
theorem cv_pl (M : mm) (c : Nat) {p : Nat} (hp : p < 8) : cv M c (20 + 10 * p) = M (c + 2) p := by
  unfold cv
  rw [if_neg (by omega), if_neg (by omega), if_neg (by omega), if_pos (by omega), if_pos (by omega), show (20 + 10 * p - 19) % 10 = 1 by omega, show (20 + 10 * p - 19) / 10 = p by omega]
theorem cv_tr (M : mm) (c : Nat) {p : Nat} (hp : p < 8) : cv M c (21 + 10 * p) = M (c + 3) p := by
  unfold cv
  rw [if_neg (by omega), if_neg (by omega), if_neg (by omega), if_pos (by omega), if_pos (by omega), show (21 + 10 * p - 19) % 10 = 2 by omega, show (21 + 10 * p - 19) / 10 = p by omega]
theorem cv_su (M : mm) (c : Nat) {p : Nat} (hp : p < 8) : cv M c (22 + 10 * p) = M (c + 4) p := by
  unfold cv
  rw [if_neg (by omega), if_neg (by omega), if_neg (by omega), if_pos (by omega), if_pos (by omega), show (22 + 10 * p - 19) % 10 = 3 by omega, show (22 + 10 * p - 19) / 10 = p by omega]
theorem cv_th (M : mm) (c : Nat) {p f : Nat} (hp : p < 8) (hf : f < 6) : cv M c (23 + 10 * p + f) = M (c + 5) (p * 6 + f) := by
  unfold cv
  rw [if_neg (by omega), if_neg (by omega), if_neg (by omega), if_pos (by omega), if_neg (by omega), show (23 + 10 * p + f - 19) / 10 = p by omega, show (23 + 10 * p + f - 19) % 10 - 4 = f by omega]
theorem cv_sw (M : mm) (c : Nat) {f : Nat} (hf : f < 6) : cv M c (7 + f) = M (c + 6) f := by
  unfold cv
  rw [if_neg (by omega), if_pos (by omega), show 7 + f - 7 = f by omega]
theorem cv_gr (M : mm) (c : Nat) {f : Nat} (hf : f < 6) : cv M c (13 + f) = M (c + 7) f := by
  unfold cv
  rw [if_neg (by omega), if_neg (by omega), if_pos (by omega), show 13 + f - 13 = f by omega]
/-- a number of 0 .. n-1 -/
def inR (x : Int32) (n : Nat) : Prop := ∃ k : Nat, k < n ∧ x = nI k
theorem inR.in {x : Int32} {n : Nat} (h : inR x n) (hn : n < 2 ^ 31) : vp_in x n := by obtain ⟨k, hk, rfl⟩ := h; exact vp_in_nI hk hn
theorem inR.eq {x : Int32} {n : Nat} (h : inR x n) (hn : n < 2 ^ 31) : x = nI x.toNatClampNeg ∧ x.toNatClampNeg < n := by obtain ⟨k, hk, rfl⟩ := h; rw [nI_clamp (by omega)]; exact ⟨rfl, hk⟩
theorem inR.mono {x : Int32} {n m : Nat} (h : inR x n) (hm : n ≤ m) : inR x m := by obtain ⟨k, hk, rfl⟩ := h; exact ⟨k, by omega, rfl⟩
theorem inR_nI {k n : Nat} (h : k < n) : inR (nI k) n := ⟨k, h, rfl⟩
/-- what always holds of a county; W: a bound of its weeks -/
def CI (v : fl) (W : Nat) : Prop :=
  inR (v 1) 9 ∧ (∀ p, p < 8 → inR (kd v p) 6 ∧ inR (pl v p) 8 ∧ inR (tr v p) 10 ∧ inR (su v p) 100 ∧ ∀ f, f < 6 → inR (th v p f) 10) ∧ (∀ f, f < 6 → inR (sw v f) 10 ∧ inR (gr v f) 10) ∧
  inR (v 2) W ∧ inR (v 3) (40 * (v 2).toNatClampNeg + 1) ∧ inR (v 4) ((v 2).toNatClampNeg + 1)
theorem CI.pn {v : fl} {W : Nat} (h : CI v W) : v 1 = nI (pn v) ∧ pn v ≤ 8 := by
  obtain ⟨e, l⟩ := h.1.eq (by decide)
  exact ⟨e, by show (v 1).toNatClampNeg ≤ 8; omega⟩
theorem CI.kd {v : fl} {W p : Nat} (h : CI v W) (hp : p < 8) : inR (v (19 + 10 * p)) 6 := (h.2.1 p hp).1
theorem CI.pl {v : fl} {W p : Nat} (h : CI v W) (hp : p < 8) : inR (v (20 + 10 * p)) 8 := (h.2.1 p hp).2.1
theorem CI.tr {v : fl} {W p : Nat} (h : CI v W) (hp : p < 8) : inR (v (21 + 10 * p)) 10 := (h.2.1 p hp).2.2.1
theorem CI.su {v : fl} {W p : Nat} (h : CI v W) (hp : p < 8) : inR (v (22 + 10 * p)) 100 := (h.2.1 p hp).2.2.2.1
theorem CI.th {v : fl} {W p f : Nat} (h : CI v W) (hp : p < 8) (hf : f < 6) : inR (v (23 + 10 * p + f)) 10 := (h.2.1 p hp).2.2.2.2 f hf
theorem CI.sw {v : fl} {W f : Nat} (h : CI v W) (hf : f < 6) : inR (v (7 + f)) 10 := (h.2.2.1 f hf).1
theorem CI.gr {v : fl} {W f : Nat} (h : CI v W) (hf : f < 6) : inR (v (13 + f)) 10 := (h.2.2.1 f hf).2
/-! what is said of it -/
def votK (v : fl) (f : Nat) (c : Int32) : Nat → Int32
  | 0 => 0
  | p + 1 => votK v f c p + (if th v p f = c then tabW (kd v p).toNatClampNeg else 0)
def vot (v : fl) (f : Nat) (c : Int32) : Int32 := votK v f c (pn v)
def fcK (v : fl) (f : Nat) : Nat → Int32 × Int32
  | 0 => (0, 0)
  | k + 1 => if (fcK v f k).2 < vot v f (nI (k + 1)) then (nI (k + 1), vot v f (nI (k + 1))) else fcK v f k
def fc (v : fl) (f : Nat) : Int32 := (fcK v f 9).1
def thkK (v : fl) (f : Nat) (c : Int32) : Nat → Int32
  | 0 => 0
  | p + 1 => thkK v f c p ||| (if th v p f = c then (1 : Int32) <<< (nI p &&& 31) else 0)
def thk (v : fl) (f : Nat) (c : Int32) : Int32 := thkK v f c (pn v)

