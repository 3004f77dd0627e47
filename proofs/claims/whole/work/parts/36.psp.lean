/-! texts: the tape as bytes, its words and signs, what is read of it -/
def sb (b : Nat) : Int32 := (nI b).toInt8.toInt32
theorem sbD : ∀ b : Fin 256, ∀ c : Fin 128, (sb b.val = nI c.val ↔ b.val = c.val) := by decide +kernel
theorem sb_eq {b c : Nat} (hb : b < 256) (hc : c < 128) : sb b = nI c ↔ b = c := sbD ⟨b, hb⟩ ⟨c, hc⟩
theorem sb_lo {b : Nat} (h : b < 128) : sb b = nI b := i2b_c h
def isLe (b : Nat) : Bool := decide (97 ≤ b ∧ b ≤ 122)
def isDi (b : Nat) : Bool := decide (48 ≤ b ∧ b ≤ 57)
theorem sbLeD : ∀ b : Fin 256, (decide (nI 97 ≤ sb b.val) && decide (sb b.val ≤ nI 122)) = isLe b.val := by decide +kernel
theorem sbDiD : ∀ b : Fin 256, (decide (nI 48 ≤ sb b.val) && decide (sb b.val ≤ nI 57)) = isDi b.val := by decide +kernel
theorem isLe_lt {b : Nat} (h : isLe b = true) : 97 ≤ b ∧ b ≤ 122 := of_decide_eq_true h
theorem isDi_lt {b : Nat} (h : isDi b = true) : 48 ≤ b ∧ b ≤ 57 := of_decide_eq_true h
def run (P : Nat → Bool) : Nat → Nat → Nat
  | 0, k => k
  | m + 1, k => if P k = true then run P m (k + 1) else k
theorem run_ge (P : Nat → Bool) : ∀ m k, k ≤ run P m k ∧ run P m k ≤ k + m
  | 0, k => ⟨Nat.le_refl _, Nat.le_refl _⟩
  | m + 1, k => by
    unfold run
    have := run_ge P m (k + 1)
    split <;> omega
theorem run_in (P : Nat → Bool) : ∀ m k j, k ≤ j → j < run P m k → P j = true
  | 0, k, j, h1, h2 => by unfold run at h2; omega
  | m + 1, k, j, h1, h2 => by
    unfold run at h2
    by_cases hp : P k = true
    · rw [if_pos hp] at h2
      by_cases e : j = k
      · rw [e]; exact hp
      · exact run_in P m (k + 1) j (by omega) h2
    · rw [if_neg hp] at h2; omega
theorem run_t {P : Nat → Bool} {n k : Nat} (hk : k < n) (h : P k = true) : run P (n - k) k = run P (n - (k + 1)) (k + 1) := by
  rw [show n - k = (n - (k + 1)) + 1 by omega]
  conv => lhs; unfold run
  rw [if_pos h]
theorem run_f {P : Nat → Bool} {n k : Nat} (h : P k = false) : run P (n - k) k = k := by
  cases hm : n - k with
  | zero => rfl
  | succ m => unfold run; rw [if_neg (by rw [h]; decide)]
theorem run_n {P : Nat → Bool} {n : Nat} : run P (n - n) n = n := by rw [Nat.sub_self]; rfl
def skp (tp : Nat → Nat) (n k : Nat) : Nat := run (fun j => decide (tp j = 32)) (n - k) k
def lrn (tp : Nat → Nat) (n k : Nat) : Nat := run (fun j => isLe (tp j)) (n - k) k
def drn (tp : Nat → Nat) (n k : Nat) : Nat := run (fun j => isDi (tp j)) (n - k) k
theorem skp_ge (tp : Nat → Nat) {n k : Nat} (h : k ≤ n) : k ≤ skp tp n k ∧ skp tp n k ≤ n := by have := run_ge (fun j => decide (tp j = 32)) (n - k) k; unfold skp; omega
theorem lrn_ge (tp : Nat → Nat) {n k : Nat} (h : k ≤ n) : k ≤ lrn tp n k ∧ lrn tp n k ≤ n := by have := run_ge (fun j => isLe (tp j)) (n - k) k; unfold lrn; omega
theorem drn_ge (tp : Nat → Nat) {n k : Nat} (h : k ≤ n) : k ≤ drn tp n k ∧ drn tp n k ≤ n := by have := run_ge (fun j => isDi (tp j)) (n - k) k; unfold drn; omega
theorem lrn_gt {tp : Nat → Nat} {n k : Nat} (h : k < n) (hl : isLe (tp k) = true) : k < lrn tp n k := by
  unfold lrn; rw [run_t h hl]; have := run_ge (fun j => isLe (tp j)) (n - (k + 1)) (k + 1); omega
theorem drn_gt {tp : Nat → Nat} {n k : Nat} (h : k < n) (hl : isDi (tp k) = true) : k < drn tp n k := by
  unfold drn; rw [run_t h hl]; have := run_ge (fun j => isDi (tp j)) (n - (k + 1)) (k + 1); omega
abbrev tok : Type := Nat × Nat × Nat × Int32
/-- the next word or sign: its sort (0 the end, 1 letters, 2 figures, 3 a sign, 4 not parted), from, behind it, the end of the last word -/
def nxt (tp : Nat → Nat) (n k : Nat) (we : Int32) : tok :=
  if skp tp n k = n then (0, skp tp n k, skp tp n k, we)
  else if isLe (tp (skp tp n k)) = true then (if nI (skp tp n k) = we then 4 else 1, skp tp n k, lrn tp n (skp tp n k), nI (lrn tp n (skp tp n k)))
  else if isDi (tp (skp tp n k)) = true then (if nI (skp tp n k) = we then 4 else 2, skp tp n k, drn tp n (skp tp n k), nI (drn tp n (skp tp n k)))
  else (3, skp tp n k, skp tp n k + 1, we)
theorem nxt_ok (tp : Nat → Nat) {n k : Nat} (we : Int32) (h : k ≤ n) : (nxt tp n k we).2.1 = skp tp n k ∧ k ≤ (nxt tp n k we).2.1 ∧ (nxt tp n k we).2.1 ≤ (nxt tp n k we).2.2.1 ∧ (nxt tp n k we).2.2.1 ≤ n ∧ ((nxt tp n k we).1 = 0 ∧ (nxt tp n k we).2.1 = n ∨ (nxt tp n k we).1 ≠ 0 ∧ (nxt tp n k we).1 ≤ 4 ∧ (nxt tp n k we).2.1 < n ∧ (nxt tp n k we).2.1 < (nxt tp n k we).2.2.1) := by
  have hs := skp_ge tp h
  unfold nxt
  by_cases h1 : skp tp n k = n
  · rw [if_pos h1]; exact ⟨rfl, hs.1, Nat.le_refl _, hs.2, Or.inl ⟨rfl, h1⟩⟩
  · rw [if_neg h1]
    have hlt : skp tp n k < n := by omega
    by_cases h2 : isLe (tp (skp tp n k)) = true
    · rw [if_pos h2]
      have := lrn_ge tp (Nat.le_of_lt hlt)
      have := lrn_gt hlt h2
      refine ⟨rfl, hs.1, by show skp tp n k ≤ lrn tp n (skp tp n k); omega, by show lrn tp n (skp tp n k) ≤ n; omega, Or.inr ⟨?_, ?_, hlt, this⟩⟩
      · show (if nI (skp tp n k) = we then 4 else 1) ≠ 0; split <;> decide
      · show (if nI (skp tp n k) = we then 4 else 1) ≤ 4; split <;> decide
    · rw [if_neg h2]
      by_cases h3 : isDi (tp (skp tp n k)) = true
      · rw [if_pos h3]
        have := drn_ge tp (Nat.le_of_lt hlt)
        have := drn_gt hlt h3
        refine ⟨rfl, hs.1, by show skp tp n k ≤ drn tp n (skp tp n k); omega, by show drn tp n (skp tp n k) ≤ n; omega, Or.inr ⟨?_, ?_, hlt, this⟩⟩
        · show (if nI (skp tp n k) = we then 4 else 2) ≠ 0; split <;> decide
        · show (if nI (skp tp n k) = we then 4 else 2) ≤ 4; split <;> decide
      · rw [if_neg h3]
        exact ⟨rfl, hs.1, Nat.le_succ _, hlt, Or.inr ⟨(show (3 : Nat) ≠ 0 by decide), (show (3 : Nat) ≤ 4 by decide), hlt, Nat.lt_succ_self _⟩⟩
/-- figures are figures, letters letters -/
theorem nxt_2 (tp : Nat → Nat) {n k : Nat} (we : Int32) (h : (nxt tp n k we).1 = 2) : ∀ j, (nxt tp n k we).2.1 ≤ j → j < (nxt tp n k we).2.2.1 → isDi (tp j) = true := by
  unfold nxt at h ⊢
  by_cases h1 : skp tp n k = n
  · rw [if_pos h1] at h; exact absurd (show (0 : Nat) = 2 from h) (by decide)
  · rw [if_neg h1] at h ⊢
    by_cases h2 : isLe (tp (skp tp n k)) = true
    · rw [if_pos h2] at h
      exfalso
      have h' : (if nI (skp tp n k) = we then 4 else 1) = 2 := h
      split at h' <;> exact absurd h' (by decide)
    · rw [if_neg h2] at h ⊢
      by_cases h3 : isDi (tp (skp tp n k)) = true
      · rw [if_pos h3]
        exact fun j h4 h5 => run_in (fun j => isDi (tp j)) _ _ j h4 h5
      · rw [if_neg h3] at h; exact absurd (show (3 : Nat) = 2 from h) (by decide)
theorem nxt_1 (tp : Nat → Nat) {n k : Nat} (we : Int32) (h : (nxt tp n k we).1 = 1) : isLe (tp (nxt tp n k we).2.1) = true := by
  unfold nxt at h ⊢
  by_cases h1 : skp tp n k = n
  · rw [if_pos h1] at h; exact absurd (show (0 : Nat) = 1 from h) (by decide)
  · rw [if_neg h1] at h ⊢
    by_cases h2 : isLe (tp (skp tp n k)) = true
    · rw [if_pos h2]; exact h2
    · rw [if_neg h2] at h
      by_cases h3 : isDi (tp (skp tp n k)) = true
      · rw [if_pos h3] at h
        exfalso
        have h' : (if nI (skp tp n k) = we then 4 else 2) = 1 := h
        split at h' <;> exact absurd h' (by decide)
      · rw [if_neg h3] at h; exact absurd (show (3 : Nat) = 1 from h) (by decide)
def lev (s : Nat) : Nat := if s = 124 then 1 else if s = 38 then 2 else if s = 60 then 3 else if s = 61 then 3 else if s = 62 then 3 else if s = 43 then 4 else if s = 45 then 4 else if s = 42 then 5 else if s = 47 then 5 else 0
theorem lev_le (s : Nat) : lev s ≤ 5 := by
  unfold lev
  (repeat' split) <;> decide
theorem lev_33 : lev 33 = 0 := rfl
theorem lev_40 : lev 40 = 0 := rfl
/-- the nine signs -/
theorem lev_cs {s : Nat} (h : 0 < lev s) : s = 124 ∨ s = 38 ∨ s = 60 ∨ s = 61 ∨ s = 62 ∨ s = 43 ∨ s = 45 ∨ s = 42 ∨ s = 47 := by
  unfold lev at h
  (repeat' split at h) <;> omega
def ct (x : Nat) : List Nat → Nat
  | [] => 0
  | s :: t => (if s = x then 1 else 0) + ct x t
theorem ct_y {x : Nat} {t : List Nat} : ct x (x :: t) = ct x t + 1 := by
  show (if x = x then 1 else 0) + ct x t = _
  rw [if_pos rfl]; omega
theorem ct_n {x s : Nat} {t : List Nat} (h : s ≠ x) : ct x (s :: t) = ct x t := by
  show (if s = x then 1 else 0) + ct x t = _
  rw [if_neg h]; omega
def neS (s : Nat) : Int32 := -(nI s)
def drL (v : Nat) : List Nat → List Int32 → List Nat × List Int32
  | [], u => ([], u)
  | s :: t, u => if v < lev s then drL v t (neS s :: u) else (s :: t, u)
def drN : List Nat → List Int32 → List Nat × List Int32
  | [], u => ([], u)
  | s :: t, u => if s = 33 then drN t (neS 33 :: u) else (s :: t, u)
def tpl : List Nat → Nat
  | [] => 0
  | s :: _ => lev s
def dlv (l : Nat) : Nat := if l = 3 then 3 else l - 1
def numK (tp : Nat → Nat) (s : Nat) : Nat → Nat
  | 0 => 0
  | i + 1 => numK tp s i * 10 + (tp (s + i) - 48)
def nmI (key b : Nat) : Nat := if key = 0 then (if b = 116 then 0 else if b = 110 then 1 else if b = 115 then 2 else if b = 118 then 3 else 9) else if key = 1 then (if b = 119 then 4 else if b = 103 then 5 else 9) else (if b = 116 then 0 else if b = 115 then 2 else 9)
theorem nmI_ok {key b : Nat} (hk : key < 3) (h : nmI key b ≠ 9) : nmI key b < 6 ∧ okN key (nmI key b) := by
  unfold nmI at h ⊢
  unfold okN
  repeat' split at h
  all_goals first | (exact absurd rfl h) | skip
  all_goals simp_all
  all_goals omega
abbrev pst : Type := Bool × List Nat × List Int32 × Nat
def pW (tp : Nat → Nat) (key : Nat) (t : tok) (o : List Nat) (u : List Int32) (lv : Nat) : Option pst :=
  if t.1 = 2 ∧ t.2.2.1 - t.2.1 ≤ 4 then some (false, (drN o (nI (numK tp t.2.1 (t.2.2.1 - t.2.1)) :: u)).1, (drN o (nI (numK tp t.2.1 (t.2.2.1 - t.2.1)) :: u)).2, lv + 1)
  else if t.1 = 1 ∧ t.2.2.1 - t.2.1 = 1 ∧ nmI key (tp t.2.1) ≠ 9 then some (false, (drN o ((-1 - nI (nmI key (tp t.2.1))) :: u)).1, (drN o ((-1 - nI (nmI key (tp t.2.1))) :: u)).2, lv + 1)
  else if t.1 = 3 ∧ tp t.2.1 = 33 ∧ ct 33 o < 8 then some (true, 33 :: o, u, lv)
  else if t.1 = 3 ∧ tp t.2.1 = 40 ∧ ct 40 o < 8 then some (true, 40 :: o, u, lv)
  else none
def pN (tp : Nat → Nat) (t : tok) (o : List Nat) (u : List Int32) (lv : Nat) : Option pst :=
  if t.1 = 3 ∧ tp t.2.1 = 41 ∧ 0 < ct 40 o then some (false, (drN (drL 0 o u).1.tail (drL 0 o u).2).1, (drN (drL 0 o u).1.tail (drL 0 o u).2).2, lv)
  else if t.1 = 3 ∧ 0 < lev (tp t.2.1) then (if lev (tp t.2.1) = 3 ∧ tpl (drL (dlv (lev (tp t.2.1))) o u).1 = 3 then none else some (true, tp t.2.1 :: (drL (dlv (lev (tp t.2.1))) o u).1, (drL (dlv (lev (tp t.2.1))) o u).2, lv))
  else none
def pS (tp : Nat → Nat) (key : Nat) (t : tok) (q : pst) : Option pst := if q.1 = true then pW tp key t q.2.1 q.2.2.1 q.2.2.2 else pN tp t q.2.1 q.2.2.1 q.2.2.2
def PL (tp : Nat → Nat) (n key : Nat) : Nat → Nat → Int32 → pst → Option (List Int32 × Nat) × Nat
  | 0, _, _, _ => (none, n)
  | f + 1, k, we, q => if (nxt tp n k we).1 = 0 then (if q.1 = false ∧ ct 40 q.2.1 = 0 then (some ((drL 0 q.2.1 q.2.2.1).2, q.2.2.2), (nxt tp n k we).2.1) else (none, (nxt tp n k we).2.1))
    else match pS tp key (nxt tp n k we) q with
      | none => (none, (nxt tp n k we).2.1)
      | some q' => PL tp n key f (nxt tp n k we).2.2.1 (nxt tp n k we).2.2.2 q'
def allK (P : Nat → Bool) : Nat → Bool
  | 0 => true
  | k + 1 => allK P k && P k
def wmB (tp : Nat → Nat) (s e i : Nat) : Bool := decide (e - s = lnS i) && allK (fun j => decide (nI (tp (s + j)) = btS i j)) (lnS i)
def keyT (tp : Nat → Nat) (t : tok) : Nat := if t.1 = 1 then (if wmB tp t.2.1 t.2.2.1 0 = true then 0 else if wmB tp t.2.1 t.2.2.1 1 = true then 1 else if wmB tp t.2.1 t.2.2.1 2 = true then 2 else 3) else 3
/-- the text on a tape of n bytes: its key, its expression, its leaves; or none, and the fault's place -/
def PT (tp : Nat → Nat) (n : Nat) : Option (List Int32 × Nat) × Nat :=
  if keyT tp (nxt tp n 0 (-1)) = 3 then (none, (nxt tp n 0 (-1)).2.1) else PL tp n (keyT tp (nxt tp n 0 (-1))) 96 (nxt tp n 0 (-1)).2.2.1 (nxt tp n 0 (-1)).2.2.2 (true, [], [], 0)
theorem keyT_le (tp : Nat → Nat) (t : tok) : keyT tp t ≤ 3 := by
  unfold keyT
  (repeat' split) <;> decide
/-! what always holds of a text half read -/
def seg : List Nat → Nat → Prop
  | [], _ => True
  | s :: t, b => if s = 40 then seg t 7 else if s = 33 then b = 7 ∧ seg t 7 else 0 < lev s ∧ lev s < b ∧ seg t (lev s)
def nb : List Nat → Nat
  | [] => 0
  | s :: t => (if 0 < lev s then 1 else 0) + nb t
def hR : List Int32 → Nat
  | [] => 0
  | x :: t => if (-6 : Int32) ≤ x then hR t + 1 else if x = -33 then hR t else hR t - 1
def okL (key : Nat) : List Int32 → Prop
  | [] => True
  | x :: t => (opOK x (hR t) ∧ ∀ j, j < 6 → x = -1 - nI j → okN key j) ∧ okL key t
def PI (key k : Nat) (q : pst) : Prop := seg q.2.1 (if q.1 = true then 7 else 6) ∧ ct 33 q.2.1 ≤ 8 ∧ ct 40 q.2.1 ≤ 8 ∧ q.2.2.1.length + q.2.1.length ≤ k ∧ hR q.2.2.1 = nb q.2.1 + (if q.1 = true then 0 else 1) ∧ okL key q.2.2.1 ∧ q.2.2.2 ≤ q.2.2.1.length
theorem seg_b {s b : Nat} {t : List Nat} (h : seg (s :: t) b) (h0 : 0 < lev s) : lev s < b ∧ seg t (lev s) := by
  unfold seg at h
  by_cases h1 : s = 40
  · rw [h1, lev_40] at h0; omega
  · rw [if_neg h1] at h
    by_cases h2 : s = 33
    · rw [h2, lev_33] at h0; omega
    · rw [if_neg h2] at h; exact h.2
theorem seg_vld : ∀ {o : List Nat} {b : Nat}, seg o b → ∀ s ∈ o, s = 33 ∨ s = 40 ∨ 0 < lev s
  | [], _, _, s, hs => absurd hs List.not_mem_nil
  | a :: t, b, h, s, hs => by
    unfold seg at h
    by_cases h1 : a = 40
    · rw [if_pos h1] at h
      rcases List.mem_cons.mp hs with e | e
      · exact Or.inr (Or.inl (e.trans h1))
      · exact seg_vld h s e
    · rw [if_neg h1] at h
      by_cases h2 : a = 33
      · rw [if_pos h2] at h
        rcases List.mem_cons.mp hs with e | e
        · exact Or.inl (e.trans h2)
        · exact seg_vld h.2 s e
      · rw [if_neg h2] at h
        rcases List.mem_cons.mp hs with e | e
        · exact Or.inr (Or.inr (by rw [e]; exact h.1))
        · exact seg_vld h.2.2 s e
theorem neS_D : ∀ s : Fin 128, 0 < lev s.val → isBin (neS s.val) ∧ ¬ (-6 : Int32) ≤ neS s.val ∧ ¬ neS s.val = -33 ∧ ∀ j : Fin 6, neS s.val ≠ -1 - nI j.val := by unfold isBin; decide +kernel
theorem lev_lt {s : Nat} (h : 0 < lev s) : s < 128 := by rcases lev_cs h with h | h | h | h | h | h | h | h | h <;> omega
theorem neS_ok {s : Nat} (h : 0 < lev s) : isBin (neS s) ∧ ¬ (-6 : Int32) ≤ neS s ∧ ¬ neS s = -33 ∧ ∀ j : Fin 6, neS s ≠ -1 - nI j.val := neS_D ⟨s, lev_lt h⟩ h
theorem drL_len (v : Nat) : ∀ (o : List Nat) (u : List Int32), (drL v o u).1.length + (drL v o u).2.length = o.length + u.length
  | [], u => rfl
  | s :: t, u => by
    unfold drL
    by_cases h : v < lev s
    · rw [if_pos h, drL_len v t]; simp; omega
    · rw [if_neg h]
theorem drN_len : ∀ (o : List Nat) (u : List Int32), (drN o u).1.length + (drN o u).2.length = o.length + u.length
  | [], u => rfl
  | s :: t, u => by
    unfold drN
    by_cases h : s = 33
    · rw [if_pos h, drN_len t]; simp; omega
    · rw [if_neg h]
theorem drL_len2 (v : Nat) : ∀ (o : List Nat) (u : List Int32), u.length ≤ (drL v o u).2.length
  | [], u => Nat.le_refl _
  | s :: t, u => by
    unfold drL
    by_cases h : v < lev s
    · rw [if_pos h]; have := drL_len2 v t (neS s :: u); simp at this; omega
    · rw [if_neg h]; exact Nat.le_refl _
theorem drN_len2 : ∀ (o : List Nat) (u : List Int32), u.length ≤ (drN o u).2.length
  | [], u => Nat.le_refl _
  | s :: t, u => by
    unfold drN
    by_cases h : s = 33
    · rw [if_pos h]; have := drN_len2 t (neS 33 :: u); simp at this; omega
    · rw [if_neg h]; exact Nat.le_refl _
theorem drL_ct (v x : Nat) (hx : lev x = 0) : ∀ (o : List Nat) (u : List Int32), ct x (drL v o u).1 = ct x o
  | [], u => rfl
  | s :: t, u => by
    unfold drL
    by_cases h : v < lev s
    · rw [if_pos h, drL_ct v x hx t, ct_n (by intro e; rw [e, hx] at h; omega)]
    · rw [if_neg h]
theorem drN_ct : ∀ (o : List Nat) (u : List Int32), ct 40 (drN o u).1 = ct 40 o ∧ ct 33 (drN o u).1 ≤ ct 33 o ∧ nb (drN o u).1 = nb o
  | [], u => ⟨rfl, Nat.le_refl _, rfl⟩
  | s :: t, u => by
    unfold drN
    by_cases h : s = 33
    · rw [if_pos h]
      obtain ⟨a, b, c⟩ := drN_ct t (neS 33 :: u)
      subst h
      refine ⟨by rw [a, ct_n (by decide)], by rw [ct_y]; omega, ?_⟩
      rw [c]; show nb t = (if 0 < lev 33 then 1 else 0) + nb t; rw [if_neg (by decide)]; omega
    · rw [if_neg h]; exact ⟨rfl, Nat.le_refl _, rfl⟩
theorem drL_seg (v : Nat) : ∀ (o : List Nat) (u : List Int32) (b : Nat), seg o b → b ≤ 6 → seg (drL v o u).1 (v + 1)
  | [], _, _, _, _ => trivial
  | s :: t, u, b, h, hb => by
    unfold drL
    by_cases hv : v < lev s
    · rw [if_pos hv]
      have h1 := seg_b h (by omega)
      exact drL_seg v t _ (lev s) h1.2 (by have := lev_le s; omega)
    · rw [if_neg hv]
      show seg (s :: t) (v + 1)
      unfold seg at h ⊢
      by_cases h1 : s = 40
      · rw [if_pos h1] at h ⊢; exact h
      · rw [if_neg h1] at h ⊢
        by_cases h2 : s = 33
        · rw [if_pos h2] at h; omega
        · rw [if_neg h2] at h ⊢; exact ⟨h.1, by omega, h.2.2⟩
theorem seg_dn {o : List Nat} (h : seg o 4) (ht : tpl o ≠ 3) : seg o 3 := by
  cases o with
  | nil => trivial
  | cons s t =>
    unfold seg at h ⊢
    by_cases h1 : s = 40
    · rw [if_pos h1] at h ⊢; exact h
    · rw [if_neg h1] at h ⊢
      by_cases h2 : s = 33
      · rw [if_pos h2] at h; omega
      · rw [if_neg h2] at h ⊢
        have : lev s ≠ 3 := ht
        exact ⟨h.1, by omega, h.2.2⟩
theorem drN_seg : ∀ (o : List Nat) (u : List Int32), seg o 7 → seg (drN o u).1 6
  | [], _, _ => trivial
  | s :: t, u, h => by
    unfold drN
    by_cases h2 : s = 33
    · rw [if_pos h2]
      subst h2
      unfold seg at h
      rw [if_neg (by decide), if_pos rfl] at h
      exact drN_seg t _ h.2
    · rw [if_neg h2]
      show seg (s :: t) 6
      unfold seg at h ⊢
      by_cases h1 : s = 40
      · rw [if_pos h1] at h ⊢; exact h
      · rw [if_neg h1, if_neg h2] at h ⊢
        exact ⟨h.1, by have := lev_le s; omega, h.2.2⟩
theorem seg_1 {o : List Nat} (h : seg o 1) : o = [] ∨ ∃ t, o = 40 :: t ∧ seg t 7 := by
  cases o with
  | nil => exact Or.inl rfl
  | cons s t =>
    unfold seg at h
    by_cases h1 : s = 40
    · rw [if_pos h1] at h; exact Or.inr ⟨t, by rw [h1], h⟩
    · rw [if_neg h1] at h
      by_cases h2 : s = 33
      · rw [if_pos h2] at h; omega
      · rw [if_neg h2] at h; omega
/-- signs that find what they join -/
theorem drL_h {key : Nat} (v : Nat) : ∀ (o : List Nat) (u : List Int32), hR u = nb o + 1 → okL key u → hR (drL v o u).2 = nb (drL v o u).1 + 1 ∧ okL key (drL v o u).2
  | [], u, h, hk => ⟨h, hk⟩
  | s :: t, u, h, hk => by
    unfold drL
    by_cases hv : v < lev s
    · rw [if_pos hv]
      have h0 : 0 < lev s := by omega
      obtain ⟨n1, n2, n3, n4⟩ := neS_ok h0
      have hn : nb (s :: t) = nb t + 1 := by show (if 0 < lev s then 1 else 0) + nb t = _; rw [if_pos h0]; omega
      refine drL_h v t (neS s :: u) ?_ ⟨⟨Or.inr (Or.inr (Or.inr ⟨n1, by omega⟩)), fun j hj e => absurd e (n4 ⟨j, hj⟩)⟩, hk⟩
      show (if (-6 : Int32) ≤ neS s then hR u + 1 else if neS s = -33 then hR u else hR u - 1) = _
      rw [if_neg n2, if_neg n3]; omega
    · rw [if_neg hv]; exact ⟨h, hk⟩
theorem drN_h {key : Nat} : ∀ (o : List Nat) (u : List Int32) (m : Nat), hR u = m + 1 → okL key u → hR (drN o u).2 = m + 1 ∧ okL key (drN o u).2
  | [], u, m, h, hk => ⟨h, hk⟩
  | s :: t, u, m, h, hk => by
    unfold drN
    by_cases hv : s = 33
    · rw [if_pos hv]
      refine drN_h t (neS 33 :: u) m ?_ ⟨⟨Or.inr (Or.inr (Or.inl ⟨by decide, by omega⟩)), fun j hj e => absurd e ((show ∀ j : Fin 6, neS 33 ≠ -1 - nI j.val by decide +kernel) ⟨j, hj⟩)⟩, hk⟩
      show (if (-6 : Int32) ≤ neS 33 then hR u + 1 else if neS 33 = -33 then hR u else hR u - 1) = _
      rw [if_neg (by decide), if_pos (by decide)]; exact h
    · rw [if_neg hv]; exact ⟨h, hk⟩
theorem numK_lt {tp : Nat → Nat} {s : Nat} : ∀ i, (∀ j, s ≤ j → j < s + i → isDi (tp j) = true) → numK tp s i < 10 ^ i
  | 0, _ => Nat.zero_lt_one
  | i + 1, h => by
    have ih := numK_lt (tp := tp) (s := s) i (fun j h1 h2 => h j h1 (by omega))
    have hd := isDi_lt (h (s + i) (by omega) (by omega))
    unfold numK
    rw [Nat.pow_succ]
    omega
theorem num_lt {tp : Nat → Nat} {s i : Nat} (hi : i ≤ 4) (h : ∀ j, s ≤ j → j < s + i → isDi (tp j) = true) : numK tp s i < 10000 := by
  have h1 := numK_lt i h
  have h2 : 10 ^ i ≤ 10 ^ 4 := Nat.pow_le_pow_right (by decide) hi
  omega
theorem nm_6D : ∀ j : Fin 6, ((-6 : Int32) ≤ -1 - nI j.val) ∧ (-1 - nI j.val = -1 ∨ -1 - nI j.val = -2 ∨ -1 - nI j.val = -3 ∨ -1 - nI j.val = -4 ∨ -1 - nI j.val = -5 ∨ -1 - nI j.val = (-6 : Int32)) ∧ ∀ i : Fin 6, -1 - nI j.val = -1 - nI i.val → j = i := by decide +kernel
theorem PI_leaf {key k lv : Nat} {o : List Nat} {u : List Int32} {x : Int32} (h : PI key k (true, o, u, lv)) (h6 : (-6 : Int32) ≤ x) (hx : opOK x (hR u)) (hn : ∀ j, j < 6 → x = -1 - nI j → okN key j) : PI key (k + 1) (false, (drN o (x :: u)).1, (drN o (x :: u)).2, lv + 1) := by
  obtain ⟨h1, h2, h3, h4, h5, h7, h8⟩ := h
  have hc := drN_ct o (x :: u)
  have hl := drN_len o (x :: u)
  have hl2 := drN_len2 o (x :: u)
  simp only [if_true, Nat.add_zero, List.length_cons] at h1 h2 h3 h4 h5 h8 hl hl2
  have hh := drN_h (key := key) o (x :: u) (nb o) (by show (if (-6 : Int32) ≤ x then hR u + 1 else _) = _; rw [if_pos h6]; omega) ⟨⟨hx, hn⟩, h7⟩
  refine ⟨drN_seg o _ h1, by show ct 33 (drN o (x :: u)).1 ≤ 8; omega, by show ct 40 (drN o (x :: u)).1 ≤ 8; omega, ?_, ?_, hh.2, ?_⟩
  · show (drN o (x :: u)).2.length + (drN o (x :: u)).1.length ≤ k + 1; omega
  · show hR (drN o (x :: u)).2 = nb (drN o (x :: u)).1 + 1; rw [hh.1, hc.2.2]
  · show lv + 1 ≤ (drN o (x :: u)).2.length; omega
theorem PI_mono {key k k' : Nat} {q : pst} (h : PI key k q) (hk : k ≤ k') : PI key k' q := ⟨h.1, h.2.1, h.2.2.1, Nat.le_trans h.2.2.2.1 hk, h.2.2.2.2⟩
theorem PI_step {tp : Nat → Nat} {key n k : Nat} {we : Int32} {q q' : pst} (hkey : key < 3) (hk : k ≤ n) (h : PI key k q) (h0 : (nxt tp n k we).1 ≠ 0) (hs : pS tp key (nxt tp n k we) q = some q') : PI key (nxt tp n k we).2.2.1 q' := by
  obtain ⟨-, n1, n2, n3, n4⟩ := nxt_ok tp we hk
  have hd := nxt_2 tp we (n := n) (k := k)
  generalize nxt tp n k we = t at *
  rcases n4 with ⟨e, -⟩ | ⟨-, -, n5, n6⟩
  · exact absurd e h0
  have hk1 : k + 1 ≤ t.2.2.1 := by omega
  obtain ⟨w, o, u, lv⟩ := q
  unfold pS at hs
  cases w with
  | true =>
    rw [if_pos rfl] at hs
    simp only at hs
    unfold pW at hs
    by_cases c1 : t.1 = 2 ∧ t.2.2.1 - t.2.1 ≤ 4
    · rw [if_pos c1] at hs
      cases hs
      have hnum := num_lt (tp := tp) (s := t.2.1) c1.2 (fun j a b => hd c1.1 j a (by omega))
      refine PI_mono (PI_leaf h (nn_le (by decide) (by omega)) (Or.inl ⟨_, hnum, rfl⟩) (fun j hj e => ?_)) hk1
      exfalso
      revert e
      have hneg : (-1 - nI j) < 0 := by rcases (show j = 0 ∨ j = 1 ∨ j = 2 ∨ j = 3 ∨ j = 4 ∨ j = 5 by omega) with rfl | rfl | rfl | rfl | rfl | rfl <;> decide
      intro e
      rw [← e] at hneg
      exact nI_pos (by omega) hneg
    · rw [if_neg c1] at hs
      by_cases c2 : t.1 = 1 ∧ t.2.2.1 - t.2.1 = 1 ∧ nmI key (tp t.2.1) ≠ 9
      · rw [if_pos c2] at hs
        cases hs
        obtain ⟨a, b⟩ := nmI_ok hkey c2.2.2
        have hD := nm_6D ⟨nmI key (tp t.2.1), a⟩
        refine PI_mono (PI_leaf h hD.1 (Or.inr (Or.inl hD.2.1)) (fun j hj e => ?_)) hk1
        have := hD.2.2 ⟨j, hj⟩ e
        have h2 : nmI key (tp t.2.1) = j := congrArg Fin.val this
        rw [← h2]; exact b
      · rw [if_neg c2] at hs
        obtain ⟨h1, h2, h3, h4, h5, h7, h8⟩ := h
        simp only [if_true, Nat.add_zero] at h1 h4 h5
        by_cases c3 : t.1 = 3 ∧ tp t.2.1 = 33 ∧ ct 33 o < 8
        · rw [if_pos c3] at hs
          cases hs
          refine ⟨?_, by show ct 33 (33 :: o) ≤ 8; rw [ct_y]; omega, by show ct 40 (33 :: o) ≤ 8; rw [ct_n (by decide)]; exact h3, by show u.length + (33 :: o).length ≤ _; simp; omega, ?_, h7, h8⟩
          · show seg (33 :: o) 7
            unfold seg; rw [if_neg (by decide), if_pos rfl]; exact ⟨rfl, h1⟩
          · show hR u = nb (33 :: o) + 0
            show hR u = ((if 0 < lev 33 then 1 else 0) + nb o) + 0
            rw [if_neg (by decide)]; omega
        · rw [if_neg c3] at hs
          by_cases c4 : t.1 = 3 ∧ tp t.2.1 = 40 ∧ ct 40 o < 8
          · rw [if_pos c4] at hs
            cases hs
            refine ⟨?_, by show ct 33 (40 :: o) ≤ 8; rw [ct_n (by decide)]; exact h2, by show ct 40 (40 :: o) ≤ 8; rw [ct_y]; omega, by show u.length + (40 :: o).length ≤ _; simp; omega, ?_, h7, h8⟩
            · show seg (40 :: o) 7
              unfold seg; rw [if_pos rfl]; exact h1
            · show hR u = ((if 0 < lev 40 then 1 else 0) + nb o) + 0
              rw [if_neg (by decide)]; omega
          · rw [if_neg c4] at hs; cases hs
  | false =>
    rw [if_neg (show ¬ (false = true) by decide)] at hs
    simp only at hs
    unfold pN at hs
    obtain ⟨h1, h2, h3, h4, h5, h7, h8⟩ := h
    simp only [Bool.false_eq_true, if_false] at h1 h2 h3 h4 h5 h7 h8
    by_cases c1 : t.1 = 3 ∧ tp t.2.1 = 41 ∧ 0 < ct 40 o
    · rw [if_pos c1] at hs
      cases hs
      have hg := drL_h (key := key) 0 o u h5 h7
      have hl := drL_len 0 o u
      have hl2 := drL_len2 0 o u
      have c40 := drL_ct 0 40 rfl o u
      have c33 := drL_ct 0 33 rfl o u
      rcases seg_1 (drL_seg 0 o u 6 h1 (Nat.le_refl _)) with e | ⟨z, e, hz⟩
      · rw [e] at c40; have : ct 40 o = 0 := c40.symm; omega
      · generalize drL 0 o u = g at *
        obtain ⟨g1, g2⟩ := g
        simp only at e hg hl hl2 c40 c33 ⊢
        subst e
        rw [ct_y] at c40
        rw [ct_n (by decide)] at c33
        have hnb : nb (40 :: z) = nb z := by show (if 0 < lev 40 then 1 else 0) + nb z = _; rw [if_neg (by decide)]; omega
        have hc := drN_ct z g2
        have hm := drN_len z g2
        have hm2 := drN_len2 z g2
        have hh := drN_h (key := key) z g2 (nb z) (by rw [hg.1, hnb]) hg.2
        simp only [List.length_cons] at hl
        refine ⟨drN_seg z g2 hz, by show ct 33 (drN z g2).1 ≤ 8; omega, by show ct 40 (drN z g2).1 ≤ 8; omega, by show (drN z g2).2.length + (drN z g2).1.length ≤ _; omega, ?_, hh.2, by show lv ≤ (drN z g2).2.length; omega⟩
        show hR (drN z g2).2 = nb (drN z g2).1 + 1
        rw [hh.1, hc.2.2]
    · rw [if_neg c1] at hs
      by_cases c2 : t.1 = 3 ∧ 0 < lev (tp t.2.1)
      · rw [if_pos c2] at hs
        by_cases c3 : lev (tp t.2.1) = 3 ∧ tpl (drL (dlv (lev (tp t.2.1))) o u).1 = 3
        · rw [if_pos c3] at hs; cases hs
        · rw [if_neg c3] at hs
          cases hs
          generalize hv : lev (tp t.2.1) = v at *
          have hg := drL_h (key := key) (dlv v) o u h5 h7
          have hl := drL_len (dlv v) o u
          have hl2 := drL_len2 (dlv v) o u
          have c40 := drL_ct (dlv v) 40 rfl o u
          have c33 := drL_ct (dlv v) 33 rfl o u
          have hsg := drL_seg (dlv v) o u 6 h1 (Nat.le_refl _)
          generalize drL (dlv v) o u = g at *
          obtain ⟨g1, g2⟩ := g
          simp only at hg hl hl2 c40 c33 hsg c3 ⊢
          have n40 : tp t.2.1 ≠ 40 := by intro e; rw [e, lev_40] at hv; omega
          have n33 : tp t.2.1 ≠ 33 := by intro e; rw [e, lev_33] at hv; omega
          have v5 := lev_le (tp t.2.1)
          have hsv : seg g1 v := by
            unfold dlv at hsg
            by_cases e3 : v = 3
            · rw [if_pos e3] at hsg
              rw [e3]
              exact seg_dn hsg (fun q => c3 ⟨e3, q⟩)
            · rw [if_neg e3, show v - 1 + 1 = v by omega] at hsg; exact hsg
          refine ⟨?_, by show ct 33 (tp t.2.1 :: g1) ≤ 8; rw [ct_n n33]; omega, by show ct 40 (tp t.2.1 :: g1) ≤ 8; rw [ct_n n40]; omega, by show g2.length + (tp t.2.1 :: g1).length ≤ _; simp; omega, ?_, hg.2, by show lv ≤ g2.length; omega⟩
          · show seg (tp t.2.1 :: g1) 7
            unfold seg
            rw [if_neg n40, if_neg n33, hv]
            exact ⟨c2.2, by omega, hsv⟩
          · show hR g2 = ((if 0 < lev (tp t.2.1) then 1 else 0) + nb g1) + 0
            rw [if_pos (by rw [hv]; exact c2.2), hg.1]; omega
      · rw [if_neg c2] at hs; cases hs
/-- the row of a text read whole -/
def xsO (u : List Int32) : Nat → Int32 := fun i => u.getD (u.length - 1 - i) 0
theorem htK_xs : ∀ (u : List Int32) (i : Nat), i ≤ u.length → htK (xsO u) i = hR (u.drop (u.length - i))
  | u, 0, _ => by rw [Nat.sub_zero, List.drop_length]; rfl
  | u, i + 1, h => by
    have ih := htK_xs u i (by omega)
    have hlt : u.length - (i + 1) < u.length := by omega
    rw [List.drop_eq_getElem_cons hlt, show u.length - (i + 1) + 1 = u.length - i by omega]
    have hx : xsO u i = u[u.length - (i + 1)] := by
      unfold xsO
      rw [show u.length - 1 - i = u.length - (i + 1) by omega, List.getD_eq_getElem?_getD, List.getElem?_eq_getElem hlt]; rfl
    show (if (-6 : Int32) ≤ xsO u i then htK (xsO u) i + 1 else if xsO u i = -33 then htK (xsO u) i else htK (xsO u) i - 1) = (if (-6 : Int32) ≤ u[u.length - (i + 1)] then hR (u.drop (u.length - i)) + 1 else if u[u.length - (i + 1)] = -33 then hR (u.drop (u.length - i)) else hR (u.drop (u.length - i)) - 1)
    rw [hx, ih]
theorem okL_at {key : Nat} : ∀ {u : List Int32} (j : Nat) (hj : j < u.length), okL key u → opOK u[j] (hR (u.drop (j + 1))) ∧ ∀ i, i < 6 → u[j] = -1 - nI i → okN key i
  | x :: t, 0, _, h => h.1
  | x :: t, j + 1, hj, h => by
    simp only [List.getElem_cons_succ, List.drop_succ_cons]
    exact okL_at j (by simpa using hj) h.2
theorem okL_tx {key lv : Nat} {u : List Int32} (hkey : key < 3) (h : okL key u) (hh : hR u = 1) (h96 : u.length ≤ 96) (hl : lv ≤ u.length) : txOK (key, u.length, lv, xsO u) := by
  have hne : 1 ≤ u.length := by cases u with | nil => exact absurd hh (by decide) | cons x t => simp
  have hat : ∀ i, i < u.length → opOK (xsO u i) (htK (xsO u) i) ∧ ∀ j, j < 6 → xsO u i = -1 - nI j → okN key j := by
    intro i hi
    have hlt : u.length - 1 - i < u.length := by omega
    have hx : xsO u i = u[u.length - 1 - i] := by
      unfold xsO
      rw [List.getD_eq_getElem?_getD, List.getElem?_eq_getElem hlt]; rfl
    have := okL_at (u.length - 1 - i) hlt h
    rw [hx, htK_xs u i (by omega), show u.length - i = u.length - 1 - i + 1 by omega]
    exact this
  refine ⟨hkey, ⟨hne, h96, ?_, fun i hi => (hat i hi).1⟩, fun i hi => (hat i hi).2, by show lv < 1000; omega⟩
  rw [htK_xs u u.length (Nat.le_refl _), Nat.sub_self]
  show 1 ≤ hR (u.drop 0)
  rw [List.drop_zero, hh]; exact Nat.le_refl _
theorem PL_ok {tp : Nat → Nat} {n key : Nat} (hkey : key < 3) (hn : n ≤ 96) {u : List Int32} {lv p : Nat} : ∀ (f k : Nat) (we : Int32) (q : pst), k ≤ n → PI key k q → PL tp n key f k we q = (some (u, lv), p) → txOK (key, u.length, lv, xsO u)
  | 0, k, we, q, hk, h, he => by unfold PL at he; cases he
  | f + 1, k, we, q, hk, h, he => by
    unfold PL at he
    obtain ⟨-, n1, n2, n3, -⟩ := nxt_ok tp we hk
    by_cases h0 : (nxt tp n k we).1 = 0
    · rw [if_pos h0] at he
      by_cases h1 : q.1 = false ∧ ct 40 q.2.1 = 0
      · rw [if_pos h1] at he
        obtain ⟨w, o, v, l⟩ := q
        obtain ⟨e1, e2⟩ := h1
        simp only at e1 e2 he
        subst e1
        cases he
        obtain ⟨h1, h2, h3, h4, h5, h7, h8⟩ := h
        simp only [Bool.false_eq_true, if_false] at h1 h2 h3 h4 h5 h7 h8
        have hg := drL_h (key := key) 0 o v h5 h7
        have hl := drL_len 0 o v
        have hl2 := drL_len2 0 o v
        have c40 := drL_ct 0 40 rfl o v
        rcases seg_1 (drL_seg 0 o v 6 h1 (Nat.le_refl _)) with e | ⟨z, e, hz⟩
        · rw [e] at hg
          exact okL_tx hkey hg.2 hg.1 (by omega) (by omega)
        · rw [e, ct_y] at c40; omega
      · rw [if_neg h1] at he; cases he
    · rw [if_neg h0] at he
      cases hs : pS tp key (nxt tp n k we) q with
      | none => rw [hs] at he; cases he
      | some q' =>
        rw [hs] at he
        exact PL_ok hkey hn f _ _ q' n3 (PI_step hkey hk h h0 hs) he
theorem PI_0 (key k : Nat) : PI key k (true, [], [], 0) := ⟨trivial, Nat.zero_le _, Nat.zero_le _, Nat.zero_le _, rfl, trivial, Nat.le_refl _⟩
theorem PT_ok {tp : Nat → Nat} {n : Nat} (hn : n ≤ 96) {u : List Int32} {lv p : Nat} (h : PT tp n = (some (u, lv), p)) : keyT tp (nxt tp n 0 (-1)) < 3 ∧ txOK (keyT tp (nxt tp n 0 (-1)), u.length, lv, xsO u) := by
  unfold PT at h
  have := keyT_le tp (nxt tp n 0 (-1))
  by_cases e : keyT tp (nxt tp n 0 (-1)) = 3
  · rw [if_pos e] at h; cases h
  · rw [if_neg e] at h
    obtain ⟨-, n1, n2, n3, -⟩ := nxt_ok tp (n := n) (k := 0) (-1) (Nat.zero_le _)
    exact ⟨by omega, PL_ok (by omega) hn 96 _ _ _ n3 (PI_0 _ _) h⟩
