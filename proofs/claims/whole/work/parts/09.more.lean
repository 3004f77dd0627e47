theorem v_lo {E : ev} {d : Nat} {y : MethodName} {cc : ByteArray} {nL : Nat} {ret : Option FieldType} {Qc : qcT} {pc : Nat} {L L' : List (Option av)} {S : List av} {M : mm} (h : L = L') (k : V E d y cc nL ret Qc pc L' S M) : V E d y cc nL ret Qc pc L S M := h ▸ k
theorem v_lm {E : ev} {d : Nat} {y : MethodName} {cc : ByteArray} {nL : Nat} {ret : Option FieldType} {Qc : qcT} {pc : Nat} {L L' : List (Option av)} {S : List av} {M M' : mm} (h : L = L') (hm : M = M') (k : V E d y cc nL ret Qc pc L' S M') : V E d y cc nL ret Qc pc L S M := by subst h; subst hm; exact k
theorem v_loop {E : ev} {d : Nat} {y : MethodName} {cc : ByteArray} {nL : Nat} {ret : Option FieldType} {Qc : qcT} {pc : Nat} {L : List (Option av)} {S : List av} {M : mm} (Lf : Nat → List (Option av)) (Mf : Nat → mm) (n : Nat) (h0 : L = Lf 0) (hm : M = Mf 0) (hs : ∀ k, k < n → V E d y cc nL ret Qc pc (Lf (k + 1)) S (Mf (k + 1)) → V E d y cc nL ret Qc pc (Lf k) S (Mf k)) (hN : V E d y cc nL ret Qc pc (Lf n) S (Mf n)) : V E d y cc nL ret Qc pc L S M := by
  subst h0; subst hm
  exact bk_0 (fun k => V E d y cc nL ret Qc pc (Lf k) S (Mf k)) n hs hN
theorem v_cut {E : ev} {d : Nat} {y : MethodName} {cc : ByteArray} {nL : Nat} {ret : Option FieldType} {Qc : qcT} {pc : Nat} {L L' : List (Option av)} {S S' : List av} {M M' : mm} {pc' : Nat} (k1 : V E d y cc nL ret Qc pc' L' S' M' → V E d y cc nL ret Qc pc L S M) (k2 : V E d y cc nL ret Qc pc' L' S' M') : V E d y cc nL ret Qc pc L S M := k1 k2
/-- a loop with a memory that is known by a property alone -/
theorem v_loopP {E : ev} {d : Nat} {y : MethodName} {cc : ByteArray} {nL : Nat} {ret : Option FieldType} {Qc : qcT} {pc : Nat} {L : List (Option av)} {S : List av} {M : mm} (Lf : Nat → mm → List (Option av)) (Pf : Nat → mm → Prop) (n : Nat) (h0 : L = Lf 0 M) (hm : Pf 0 M) (hs : ∀ k M, k < n → Pf k M → (∀ M', Pf (k + 1) M' → V E d y cc nL ret Qc pc (Lf (k + 1) M') S M') → V E d y cc nL ret Qc pc (Lf k M) S M) (hN : ∀ M, Pf n M → V E d y cc nL ret Qc pc (Lf n M) S M) : V E d y cc nL ret Qc pc L S M := by
  subst h0
  exact bk_0 (fun k => ∀ M, Pf k M → V E d y cc nL ret Qc pc (Lf k M) S M) n (fun k hk ih M hM => hs k M hk hM ih) hN M hm
theorem v_fg0 {E : ev} {d : Nat} {y : MethodName} {cc : ByteArray} {nL : Nat} {ret : Option FieldType} {Qc : qcT} {pc : Nat} {o : Option av} {l : List (Option av)} {S : List av} {M : mm} (k : V E d y cc nL ret Qc pc (none :: l) S M) : V E d y cc nL ret Qc pc (o :: l) S M := v_sub (L' := none :: l) (fun j v h => by
  have hj : j ≠ 0 := by intro e; subst e; simp at h
  have e2 : (o :: l) = (none :: l).set 0 o := rfl
  rw [e2, List.getElem?_set_ne (Ne.symm hj)]; exact h) k
theorem v_fg1 {E : ev} {d : Nat} {y : MethodName} {cc : ByteArray} {nL : Nat} {ret : Option FieldType} {Qc : qcT} {pc : Nat} {l0 : Option av} {o : Option av} {l : List (Option av)} {S : List av} {M : mm} (k : V E d y cc nL ret Qc pc (l0 :: none :: l) S M) : V E d y cc nL ret Qc pc (l0 :: o :: l) S M := v_sub (L' := l0 :: none :: l) (fun j v h => by
  have hj : j ≠ 1 := by intro e; subst e; simp at h
  have e2 : (l0 :: o :: l) = (l0 :: none :: l).set 1 o := rfl
  rw [e2, List.getElem?_set_ne (Ne.symm hj)]; exact h) k
theorem v_fg2 {E : ev} {d : Nat} {y : MethodName} {cc : ByteArray} {nL : Nat} {ret : Option FieldType} {Qc : qcT} {pc : Nat} {l0 l1 : Option av} {o : Option av} {l : List (Option av)} {S : List av} {M : mm} (k : V E d y cc nL ret Qc pc (l0 :: l1 :: none :: l) S M) : V E d y cc nL ret Qc pc (l0 :: l1 :: o :: l) S M := v_sub (L' := l0 :: l1 :: none :: l) (fun j v h => by
  have hj : j ≠ 2 := by intro e; subst e; simp at h
  have e2 : (l0 :: l1 :: o :: l) = (l0 :: l1 :: none :: l).set 2 o := rfl
  rw [e2, List.getElem?_set_ne (Ne.symm hj)]; exact h) k
theorem v_fg3 {E : ev} {d : Nat} {y : MethodName} {cc : ByteArray} {nL : Nat} {ret : Option FieldType} {Qc : qcT} {pc : Nat} {l0 l1 l2 : Option av} {o : Option av} {l : List (Option av)} {S : List av} {M : mm} (k : V E d y cc nL ret Qc pc (l0 :: l1 :: l2 :: none :: l) S M) : V E d y cc nL ret Qc pc (l0 :: l1 :: l2 :: o :: l) S M := v_sub (L' := l0 :: l1 :: l2 :: none :: l) (fun j v h => by
  have hj : j ≠ 3 := by intro e; subst e; simp at h
  have e2 : (l0 :: l1 :: l2 :: o :: l) = (l0 :: l1 :: l2 :: none :: l).set 3 o := rfl
  rw [e2, List.getElem?_set_ne (Ne.symm hj)]; exact h) k
theorem v_fg4 {E : ev} {d : Nat} {y : MethodName} {cc : ByteArray} {nL : Nat} {ret : Option FieldType} {Qc : qcT} {pc : Nat} {l0 l1 l2 l3 : Option av} {o : Option av} {l : List (Option av)} {S : List av} {M : mm} (k : V E d y cc nL ret Qc pc (l0 :: l1 :: l2 :: l3 :: none :: l) S M) : V E d y cc nL ret Qc pc (l0 :: l1 :: l2 :: l3 :: o :: l) S M := v_sub (L' := l0 :: l1 :: l2 :: l3 :: none :: l) (fun j v h => by
  have hj : j ≠ 4 := by intro e; subst e; simp at h
  have e2 : (l0 :: l1 :: l2 :: l3 :: o :: l) = (l0 :: l1 :: l2 :: l3 :: none :: l).set 4 o := rfl
  rw [e2, List.getElem?_set_ne (Ne.symm hj)]; exact h) k
theorem v_fg5 {E : ev} {d : Nat} {y : MethodName} {cc : ByteArray} {nL : Nat} {ret : Option FieldType} {Qc : qcT} {pc : Nat} {l0 l1 l2 l3 l4 : Option av} {o : Option av} {l : List (Option av)} {S : List av} {M : mm} (k : V E d y cc nL ret Qc pc (l0 :: l1 :: l2 :: l3 :: l4 :: none :: l) S M) : V E d y cc nL ret Qc pc (l0 :: l1 :: l2 :: l3 :: l4 :: o :: l) S M := v_sub (L' := l0 :: l1 :: l2 :: l3 :: l4 :: none :: l) (fun j v h => by
  have hj : j ≠ 5 := by intro e; subst e; simp at h
  have e2 : (l0 :: l1 :: l2 :: l3 :: l4 :: o :: l) = (l0 :: l1 :: l2 :: l3 :: l4 :: none :: l).set 5 o := rfl
  rw [e2, List.getElem?_set_ne (Ne.symm hj)]; exact h) k
theorem v_fg6 {E : ev} {d : Nat} {y : MethodName} {cc : ByteArray} {nL : Nat} {ret : Option FieldType} {Qc : qcT} {pc : Nat} {l0 l1 l2 l3 l4 l5 : Option av} {o : Option av} {l : List (Option av)} {S : List av} {M : mm} (k : V E d y cc nL ret Qc pc (l0 :: l1 :: l2 :: l3 :: l4 :: l5 :: none :: l) S M) : V E d y cc nL ret Qc pc (l0 :: l1 :: l2 :: l3 :: l4 :: l5 :: o :: l) S M := v_sub (L' := l0 :: l1 :: l2 :: l3 :: l4 :: l5 :: none :: l) (fun j v h => by
  have hj : j ≠ 6 := by intro e; subst e; simp at h
  have e2 : (l0 :: l1 :: l2 :: l3 :: l4 :: l5 :: o :: l) = (l0 :: l1 :: l2 :: l3 :: l4 :: l5 :: none :: l).set 6 o := rfl
  rw [e2, List.getElem?_set_ne (Ne.symm hj)]; exact h) k
theorem v_fg7 {E : ev} {d : Nat} {y : MethodName} {cc : ByteArray} {nL : Nat} {ret : Option FieldType} {Qc : qcT} {pc : Nat} {l0 l1 l2 l3 l4 l5 l6 : Option av} {o : Option av} {l : List (Option av)} {S : List av} {M : mm} (k : V E d y cc nL ret Qc pc (l0 :: l1 :: l2 :: l3 :: l4 :: l5 :: l6 :: none :: l) S M) : V E d y cc nL ret Qc pc (l0 :: l1 :: l2 :: l3 :: l4 :: l5 :: l6 :: o :: l) S M := v_sub (L' := l0 :: l1 :: l2 :: l3 :: l4 :: l5 :: l6 :: none :: l) (fun j v h => by
  have hj : j ≠ 7 := by intro e; subst e; simp at h
  have e2 : (l0 :: l1 :: l2 :: l3 :: l4 :: l5 :: l6 :: o :: l) = (l0 :: l1 :: l2 :: l3 :: l4 :: l5 :: l6 :: none :: l).set 7 o := rfl
  rw [e2, List.getElem?_set_ne (Ne.symm hj)]; exact h) k
theorem v_fg8 {E : ev} {d : Nat} {y : MethodName} {cc : ByteArray} {nL : Nat} {ret : Option FieldType} {Qc : qcT} {pc : Nat} {l0 l1 l2 l3 l4 l5 l6 l7 : Option av} {o : Option av} {l : List (Option av)} {S : List av} {M : mm} (k : V E d y cc nL ret Qc pc (l0 :: l1 :: l2 :: l3 :: l4 :: l5 :: l6 :: l7 :: none :: l) S M) : V E d y cc nL ret Qc pc (l0 :: l1 :: l2 :: l3 :: l4 :: l5 :: l6 :: l7 :: o :: l) S M := v_sub (L' := l0 :: l1 :: l2 :: l3 :: l4 :: l5 :: l6 :: l7 :: none :: l) (fun j v h => by
  have hj : j ≠ 8 := by intro e; subst e; simp at h
  have e2 : (l0 :: l1 :: l2 :: l3 :: l4 :: l5 :: l6 :: l7 :: o :: l) = (l0 :: l1 :: l2 :: l3 :: l4 :: l5 :: l6 :: l7 :: none :: l).set 8 o := rfl
  rw [e2, List.getElem?_set_ne (Ne.symm hj)]; exact h) k
theorem v_fg9 {E : ev} {d : Nat} {y : MethodName} {cc : ByteArray} {nL : Nat} {ret : Option FieldType} {Qc : qcT} {pc : Nat} {l0 l1 l2 l3 l4 l5 l6 l7 l8 : Option av} {o : Option av} {l : List (Option av)} {S : List av} {M : mm} (k : V E d y cc nL ret Qc pc (l0 :: l1 :: l2 :: l3 :: l4 :: l5 :: l6 :: l7 :: l8 :: none :: l) S M) : V E d y cc nL ret Qc pc (l0 :: l1 :: l2 :: l3 :: l4 :: l5 :: l6 :: l7 :: l8 :: o :: l) S M := v_sub (L' := l0 :: l1 :: l2 :: l3 :: l4 :: l5 :: l6 :: l7 :: l8 :: none :: l) (fun j v h => by
  have hj : j ≠ 9 := by intro e; subst e; simp at h
  have e2 : (l0 :: l1 :: l2 :: l3 :: l4 :: l5 :: l6 :: l7 :: l8 :: o :: l) = (l0 :: l1 :: l2 :: l3 :: l4 :: l5 :: l6 :: l7 :: l8 :: none :: l).set 9 o := rfl
  rw [e2, List.getElem?_set_ne (Ne.symm hj)]; exact h) k
theorem v_fg10 {E : ev} {d : Nat} {y : MethodName} {cc : ByteArray} {nL : Nat} {ret : Option FieldType} {Qc : qcT} {pc : Nat} {l0 l1 l2 l3 l4 l5 l6 l7 l8 l9 : Option av} {o : Option av} {l : List (Option av)} {S : List av} {M : mm} (k : V E d y cc nL ret Qc pc (l0 :: l1 :: l2 :: l3 :: l4 :: l5 :: l6 :: l7 :: l8 :: l9 :: none :: l) S M) : V E d y cc nL ret Qc pc (l0 :: l1 :: l2 :: l3 :: l4 :: l5 :: l6 :: l7 :: l8 :: l9 :: o :: l) S M := v_sub (L' := l0 :: l1 :: l2 :: l3 :: l4 :: l5 :: l6 :: l7 :: l8 :: l9 :: none :: l) (fun j v h => by
  have hj : j ≠ 10 := by intro e; subst e; simp at h
  have e2 : (l0 :: l1 :: l2 :: l3 :: l4 :: l5 :: l6 :: l7 :: l8 :: l9 :: o :: l) = (l0 :: l1 :: l2 :: l3 :: l4 :: l5 :: l6 :: l7 :: l8 :: l9 :: none :: l).set 10 o := rfl
  rw [e2, List.getElem?_set_ne (Ne.symm hj)]; exact h) k
theorem v_fg11 {E : ev} {d : Nat} {y : MethodName} {cc : ByteArray} {nL : Nat} {ret : Option FieldType} {Qc : qcT} {pc : Nat} {l0 l1 l2 l3 l4 l5 l6 l7 l8 l9 l10 : Option av} {o : Option av} {l : List (Option av)} {S : List av} {M : mm} (k : V E d y cc nL ret Qc pc (l0 :: l1 :: l2 :: l3 :: l4 :: l5 :: l6 :: l7 :: l8 :: l9 :: l10 :: none :: l) S M) : V E d y cc nL ret Qc pc (l0 :: l1 :: l2 :: l3 :: l4 :: l5 :: l6 :: l7 :: l8 :: l9 :: l10 :: o :: l) S M := v_sub (L' := l0 :: l1 :: l2 :: l3 :: l4 :: l5 :: l6 :: l7 :: l8 :: l9 :: l10 :: none :: l) (fun j v h => by
  have hj : j ≠ 11 := by intro e; subst e; simp at h
  have e2 : (l0 :: l1 :: l2 :: l3 :: l4 :: l5 :: l6 :: l7 :: l8 :: l9 :: l10 :: o :: l) = (l0 :: l1 :: l2 :: l3 :: l4 :: l5 :: l6 :: l7 :: l8 :: l9 :: l10 :: none :: l).set 11 o := rfl
  rw [e2, List.getElem?_set_ne (Ne.symm hj)]; exact h) k
theorem v_fg12 {E : ev} {d : Nat} {y : MethodName} {cc : ByteArray} {nL : Nat} {ret : Option FieldType} {Qc : qcT} {pc : Nat} {l0 l1 l2 l3 l4 l5 l6 l7 l8 l9 l10 l11 : Option av} {o : Option av} {l : List (Option av)} {S : List av} {M : mm} (k : V E d y cc nL ret Qc pc (l0 :: l1 :: l2 :: l3 :: l4 :: l5 :: l6 :: l7 :: l8 :: l9 :: l10 :: l11 :: none :: l) S M) : V E d y cc nL ret Qc pc (l0 :: l1 :: l2 :: l3 :: l4 :: l5 :: l6 :: l7 :: l8 :: l9 :: l10 :: l11 :: o :: l) S M := v_sub (L' := l0 :: l1 :: l2 :: l3 :: l4 :: l5 :: l6 :: l7 :: l8 :: l9 :: l10 :: l11 :: none :: l) (fun j v h => by
  have hj : j ≠ 12 := by intro e; subst e; simp at h
  have e2 : (l0 :: l1 :: l2 :: l3 :: l4 :: l5 :: l6 :: l7 :: l8 :: l9 :: l10 :: l11 :: o :: l) = (l0 :: l1 :: l2 :: l3 :: l4 :: l5 :: l6 :: l7 :: l8 :: l9 :: l10 :: l11 :: none :: l).set 12 o := rfl
  rw [e2, List.getElem?_set_ne (Ne.symm hj)]; exact h) k
theorem v_fg13 {E : ev} {d : Nat} {y : MethodName} {cc : ByteArray} {nL : Nat} {ret : Option FieldType} {Qc : qcT} {pc : Nat} {l0 l1 l2 l3 l4 l5 l6 l7 l8 l9 l10 l11 l12 : Option av} {o : Option av} {l : List (Option av)} {S : List av} {M : mm} (k : V E d y cc nL ret Qc pc (l0 :: l1 :: l2 :: l3 :: l4 :: l5 :: l6 :: l7 :: l8 :: l9 :: l10 :: l11 :: l12 :: none :: l) S M) : V E d y cc nL ret Qc pc (l0 :: l1 :: l2 :: l3 :: l4 :: l5 :: l6 :: l7 :: l8 :: l9 :: l10 :: l11 :: l12 :: o :: l) S M := v_sub (L' := l0 :: l1 :: l2 :: l3 :: l4 :: l5 :: l6 :: l7 :: l8 :: l9 :: l10 :: l11 :: l12 :: none :: l) (fun j v h => by
  have hj : j ≠ 13 := by intro e; subst e; simp at h
  have e2 : (l0 :: l1 :: l2 :: l3 :: l4 :: l5 :: l6 :: l7 :: l8 :: l9 :: l10 :: l11 :: l12 :: o :: l) = (l0 :: l1 :: l2 :: l3 :: l4 :: l5 :: l6 :: l7 :: l8 :: l9 :: l10 :: l11 :: l12 :: none :: l).set 13 o := rfl
  rw [e2, List.getElem?_set_ne (Ne.symm hj)]; exact h) k
theorem ne_toI {x k : Int32} (h : ¬ x = k) : x.toInt ≠ k.toInt := fun e => h (Int32.toInt_inj.mp e)
/-! sets as numbers -/
def setK (P : Nat → Bool) : Nat → Nat
  | 0 => 0
  | p + 1 => setK P p + (if P p = true then 2 ^ p else 0)
theorem setK_lt (P : Nat → Bool) : ∀ k, setK P k < 2 ^ k
  | 0 => by simp [setK]
  | k + 1 => by
    have := setK_lt P k
    unfold setK
    rw [Nat.pow_succ]
    split <;> omega
theorem or_bitD : ∀ p : Fin 8, ∀ a : Fin 256, a.val < 2 ^ p.val → nI a.val ||| (nI 1 <<< (nI p.val &&& 31)) = nI (a.val + 2 ^ p.val) := by decide +kernel
theorem or_bit {p a : Nat} (hp : p < 8) (ha : a < 2 ^ p) : nI a ||| (nI 1 <<< (nI p &&& 31)) = nI (a + 2 ^ p) := by
  have h8 : 2 ^ p ≤ 2 ^ 7 := Nat.pow_le_pow_right (by decide) (by omega)
  exact or_bitD ⟨p, hp⟩ ⟨a, by omega⟩ ha
theorem or_n0 (x : Int32) : x ||| nI 0 = x := by rw [nI_0]; exact Int32.or_zero
theorem setK_t {P : Nat → Bool} {p : Nat} (hp : p < 8) (h : P p = true) : nI (setK P p) ||| (nI 1 <<< (nI p &&& 31)) = nI (setK P (p + 1)) := by
  rw [or_bit hp (setK_lt P p)]
  unfold setK
  rw [if_pos h]
  cases p <;> rfl
theorem setK_f {P : Nat → Bool} {p : Nat} (h : P p = false) : setK P (p + 1) = setK P p := by
  show setK P p + (if P p = true then 2 ^ p else 0) = _
  rw [if_neg (by rw [h]; decide)]; rfl
def popc (n : Nat) : Nat := n % 2 + n / 2 % 2 + n / 4 % 2 + n / 8 % 2 + n / 16 % 2 + n / 32 % 2 + n / 64 % 2 + n / 128 % 2
abbrev thkP (v : fl) (f : Nat) (c : Int32) : Nat → Bool := fun p => decide (th v p f = c)
def thkN (v : fl) (f : Nat) (c : Int32) : Nat := setK (thkP v f c) (pn v)
abbrev fldP (v : fl) (p : Nat) : Nat → Bool := fun f => decide (th v p f ≠ 0)
def fldN (v : fl) (p : Nat) : Nat := setK (fldP v p) 6
def apt (v : fl) (q p : Nat) : Int32 := if 0 ≤ pl v q - pl v p then pl v q - pl v p else 0 - (pl v q - pl v p)
def hearB (v : fl) (q p : Nat) : Bool := decide (q ≠ p) && (decide (apt v q p ≤ nI 1) || decide (apt v q p = nI 7))
abbrev hrsP (v : fl) (p : Nat) : Nat → Bool := fun q => hearB v q p
def hrsN (v : fl) (p : Nat) : Nat := setK (hrsP v p) (pn v)
def agK (v : fl) (f : Nat) : Nat → Bool
  | 0 => decide (fc v f ≠ 0)
  | p + 1 => agK v f p && (decide (th v p f = 0) || decide (th v p f = fc v f))
abbrev agP (v : fl) : Nat → Bool := fun f => agK v f (pn v)
def agrN (v : fl) : Nat := setK (agP v) 6
def surK (v : fl) : Nat → Int32
  | 0 => 0
  | p + 1 => surK v p + su v p
def one9 (x : Int32) : Int32 := if x = 0 then nI 0 else if x = nI 9 then nI 1 else x + nI 1
def says (v : fl) (p f : Nat) : Int32 :=
  if kd v p = nI 1 then one9 (th v p f) else if kd v p = nI 3 then (if th v p f = 0 then nI 0 else nI 10 - one9 (th v p f)) else if kd v p = nI 2 then sw v f
  else if kd v p = nI 4 then (if fc v f = 0 then sw v f else fc v f) else if kd v p = nI 5 then nI 9 else th v p f
abbrev p4 : Type := Int32 → Int32 → Int32 → Int32 → Int32
def heed (pf : p4) (v : fl) (p f : Nat) (c : Int32) : Int32 :=
  let a := pf (tr v p) (nI (popc (thkN v f c))) (su v p) c
  if kd v p = nI 1 then a + nI 3 else if kd v p = nI 3 then (a + nI 3) / nI 2 else if kd v p = nI 2 then nI 0
  else if kd v p = nI 4 then nI 2 * nI (popc (thkN v f c)) else if kd v p = nI 5 then nI 99 else a

