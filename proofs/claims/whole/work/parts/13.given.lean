/-! the values of texts: codes as the class has them -/
def jn (s a b : Int32) : Int32 :=
  if s = 42 then a * b else if s = 47 then (if b = 0 then nI 0 else a / b) else if s = 43 then a + b else if s = 45 then a - b
  else if s = 60 then (if a < b then nI 1 else nI 0) else if s = 61 then (if a = b then nI 1 else nI 0) else if s = 62 then (if b < a then nI 1 else nI 0)
  else if s = 38 then (if a = 0 then nI 0 else if b = 0 then nI 0 else nI 1) else (if a = 0 then (if b = 0 then nI 0 else nI 1) else nI 1)
def g1 (nm : Nat → Int32) (x : Int32) (s : List Int32) : List Int32 :=
  if (-6 : Int32) ≤ x then (if 0 ≤ x then x else nm (-1 - x).toNatClampNeg) :: s
  else if x = -33 then (match s with | a :: t => (if a = 0 then nI 1 else nI 0) :: t | [] => [])
  else (match s with | b :: a :: t => jn (-x) a b :: t | s => s)
def gst (nm xs : Nat → Int32) : Nat → List Int32
  | 0 => []
  | i + 1 => g1 nm (xs i) (gst nm xs i)
def bot (l : List Int32) : Int32 := l.getLastD 0
def isBin (x : Int32) : Prop := x = -42 ∨ x = -47 ∨ x = -43 ∨ x = -45 ∨ x = -60 ∨ x = -61 ∨ x = -62 ∨ x = -38 ∨ x = -124
def htK (xs : Nat → Int32) : Nat → Nat
  | 0 => 0
  | i + 1 => if (-6 : Int32) ≤ xs i then htK xs i + 1 else if xs i = -33 then htK xs i else htK xs i - 1
/-- a step of a text: a number, a name, a sign that finds what it joins -/
def opOK (x : Int32) (h : Nat) : Prop := (∃ k : Nat, k < 10000 ∧ x = nI k) ∨ (x = -1 ∨ x = -2 ∨ x = -3 ∨ x = -4 ∨ x = -5 ∨ x = -6) ∨ (x = -33 ∧ 1 ≤ h) ∨ (isBin x ∧ 2 ≤ h)
def WF (xs : Nat → Int32) (n : Nat) : Prop := 1 ≤ n ∧ n ≤ 96 ∧ 1 ≤ htK xs n ∧ ∀ i, i < n → opOK (xs i) (htK xs i)
theorem nn_m {k : Nat} {m : Int32} (hm : m.toInt < 0) (h : k < 2 ^ 31) : ¬ nI k < m := by
  rw [Int32.lt_iff_toInt_lt, nI_toInt h]; omega
theorem nn_le {k : Nat} {m : Int32} (hm : m.toInt < 0) (h : k < 2 ^ 31) : m ≤ nI k := Int32.not_lt.mp (nn_m hm h)
theorem gst_len (nm xs : Nat → Int32) {n : Nat} (hw : WF xs n) : ∀ i, i ≤ n → (gst nm xs i).length = htK xs i
  | 0, _ => rfl
  | i + 1, hi => by
    have ih := gst_len nm xs hw i (by omega)
    have ho := hw.2.2.2 i (by omega)
    show (g1 nm (xs i) (gst nm xs i)).length = if (-6 : Int32) ≤ xs i then htK xs i + 1 else if xs i = -33 then htK xs i else htK xs i - 1
    unfold g1
    by_cases h6 : (-6 : Int32) ≤ xs i
    · rw [if_pos h6, if_pos h6]; simp [ih]
    · rw [if_neg h6, if_neg h6]
      by_cases h33 : xs i = -33
      · rw [if_pos h33, if_pos h33]
        cases hg : gst nm xs i with
        | nil => rw [hg] at ih; exact ih
        | cons a t => rw [hg] at ih; simpa using ih
      · rw [if_neg h33, if_neg h33]
        have h2 : 2 ≤ htK xs i := by
          rcases ho with ⟨k, hk, e⟩ | hn | ⟨e, -⟩ | ⟨-, h2⟩
          · exact absurd (by rw [e]; exact nn_le (by decide) (by omega)) h6
          · exact absurd (by rcases hn with e | e | e | e | e | e <;> rw [e] <;> decide) h6
          · exact absurd e h33
          · exact h2
        cases hg : gst nm xs i with
        | nil => rw [hg] at ih; simp at ih; omega
        | cons b l =>
          cases l with
          | nil => rw [hg] at ih; simp at ih; omega
          | cons a t => rw [hg] at ih; simp at ih ⊢; omega
/-- the row f holds the stack l (its top first) -/
def rp (f : Nat → Int32) (l : List Int32) : Prop := ∀ j, j < l.length → f j = l.getD (l.length - 1 - j) 0
theorem rp_nil (f : Nat → Int32) : rp f [] := fun j h => by simp at h
theorem rp_push {f : Nat → Int32} {l : List Int32} (x : Int32) (h : rp f l) : rp (upd f l.length x) (x :: l) := by
  intro j hj
  by_cases e : j = l.length
  · subst e; simp [upd]
  · have hj2 : j < l.length := by simp at hj; omega
    rw [pk_un e, h j hj2]
    have : (x :: l).length - 1 - j = (l.length - 1 - j) + 1 := by simp; omega
    rw [this]; rfl
theorem rp_top {f : Nat → Int32} {a : Int32} {t : List Int32} (h : rp f (a :: t)) : f t.length = a := by
  rw [h t.length (by simp)]
  simp
theorem rp_tail {f : Nat → Int32} {a : Int32} {t : List Int32} (h : rp f (a :: t)) : rp f t := by
  intro j hj
  rw [h j (by simp; omega)]
  have : (a :: t).length - 1 - j = (t.length - 1 - j) + 1 := by simp; omega
  rw [this]; rfl
theorem rp_bot {f : Nat → Int32} : ∀ {l : List Int32}, rp f l → l ≠ [] → f 0 = bot l := by
  intro l h hl
  have hp : 0 < l.length := List.length_pos_iff.mpr hl
  rw [h 0 hp]
  unfold bot
  rw [List.getLastD_eq_getLast?, List.getLast?_eq_getElem?, List.getD_eq_getElem?_getD]
  simp
theorem wa_wa (M : mm) (a : Nat) (f g : Nat → Int32) : wa (wa M a f) a g = wa M a g := by
  funext b; unfold wa; split <;> rfl
theorem g1_num {nm : Nat → Int32} {k : Nat} (hk : k < 10000) (s : List Int32) : g1 nm (nI k) s = nI k :: s := by
  unfold g1; rw [if_pos (nn_le (by decide) (by omega)), if_pos (nI_pos' (by omega))]
set_option maxRecDepth 100000 in
set_option maxHeartbeats 4000000 in
theorem kL_joined_42 (E : ev) (Mz : mm) {a b : Int32} : Ct E 0 yX1_joined cX1_joined 3 (some .int) [.inl 42, .inl a, .inl b] Mz (qI E (fun r M' => r = jn 42 a b ∧ M' = Mz)) := by
  refine ct_of (by decide) (Nat.le_of_ble_eq_true rfl) ?_
  show V E 0 _ _ _ _ _ 0 [some (.inl 42), some (.inl a), some (.inl b)] [] Mz
  refine v_ild0 dX1_joined_0 ?_
  refine v_tsIn (off := 115) (tgt := 116) dX1_joined_1 (by decide) (by decide) (by decide) (by decide) ?_
  refine v_ild1 dX1_joined_116 ?_
  refine v_ild2 dX1_joined_117 ?_
  refine v_imul dX1_joined_118 ?_
  exact v_iret dX1_joined_119 rfl (⟨by unfold jn; rw [if_pos rfl], rfl⟩)
set_option maxRecDepth 100000 in
set_option maxHeartbeats 4000000 in
theorem kL_joined_47 (E : ev) (Mz : mm) {a b : Int32} : Ct E 0 yX1_joined cX1_joined 3 (some .int) [.inl 47, .inl a, .inl b] Mz (qI E (fun r M' => r = jn 47 a b ∧ M' = Mz)) := by
  refine ct_of (by decide) (Nat.le_of_ble_eq_true rfl) ?_
  show V E 0 _ _ _ _ _ 0 [some (.inl 47), some (.inl a), some (.inl b)] [] Mz
  refine v_ild0 dX1_joined_0 ?_
  refine v_tsIn (off := 119) (tgt := 120) dX1_joined_1 (by decide) (by decide) (by decide) (by decide) ?_
  refine v_ild2 dX1_joined_120 ?_
  refine v_if_ne (tgt := 128) dX1_joined_121 (by decide) (fun h121 => ?_) (fun h121 => ?_)
  · refine v_ild1 dX1_joined_128 ?_
    refine v_ild2 dX1_joined_129 ?_
    refine v_idiv dX1_joined_130 (h121) ?_
    exact v_iret dX1_joined_131 rfl (⟨by unfold jn; rw [if_neg (by decide), if_pos rfl, if_neg h121], rfl⟩)
  · refine v_iconstN (n := 0) dX1_joined_124 ?_
    refine v_goto (tgt := 131) dX1_joined_125 (by decide) ?_
    exact v_iret dX1_joined_131 rfl (⟨by unfold jn; rw [if_neg (by decide), if_pos rfl, if_pos h121], rfl⟩)
set_option maxRecDepth 100000 in
set_option maxHeartbeats 4000000 in
theorem kL_joined_43 (E : ev) (Mz : mm) {a b : Int32} : Ct E 0 yX1_joined cX1_joined 3 (some .int) [.inl 43, .inl a, .inl b] Mz (qI E (fun r M' => r = jn 43 a b ∧ M' = Mz)) := by
  refine ct_of (by decide) (Nat.le_of_ble_eq_true rfl) ?_
  show V E 0 _ _ _ _ _ 0 [some (.inl 43), some (.inl a), some (.inl b)] [] Mz
  refine v_ild0 dX1_joined_0 ?_
  refine v_tsIn (off := 131) (tgt := 132) dX1_joined_1 (by decide) (by decide) (by decide) (by decide) ?_
  refine v_ild1 dX1_joined_132 ?_
  refine v_ild2 dX1_joined_133 ?_
  refine v_iadd dX1_joined_134 ?_
  exact v_iret dX1_joined_135 rfl (⟨by unfold jn; rw [if_neg (by decide), if_neg (by decide), if_pos rfl], rfl⟩)
set_option maxRecDepth 100000 in
set_option maxHeartbeats 4000000 in
theorem kL_joined_45 (E : ev) (Mz : mm) {a b : Int32} : Ct E 0 yX1_joined cX1_joined 3 (some .int) [.inl 45, .inl a, .inl b] Mz (qI E (fun r M' => r = jn 45 a b ∧ M' = Mz)) := by
  refine ct_of (by decide) (Nat.le_of_ble_eq_true rfl) ?_
  show V E 0 _ _ _ _ _ 0 [some (.inl 45), some (.inl a), some (.inl b)] [] Mz
  refine v_ild0 dX1_joined_0 ?_
  refine v_tsIn (off := 135) (tgt := 136) dX1_joined_1 (by decide) (by decide) (by decide) (by decide) ?_
  refine v_ild1 dX1_joined_136 ?_
  refine v_ild2 dX1_joined_137 ?_
  refine v_isub dX1_joined_138 ?_
  exact v_iret dX1_joined_139 rfl (⟨by unfold jn; rw [if_neg (by decide), if_neg (by decide), if_neg (by decide), if_pos rfl], rfl⟩)
set_option maxRecDepth 100000 in
set_option maxHeartbeats 4000000 in
theorem kL_joined_60 (E : ev) (Mz : mm) {a b : Int32} : Ct E 0 yX1_joined cX1_joined 3 (some .int) [.inl 60, .inl a, .inl b] Mz (qI E (fun r M' => r = jn 60 a b ∧ M' = Mz)) := by
  refine ct_of (by decide) (Nat.le_of_ble_eq_true rfl) ?_
  show V E 0 _ _ _ _ _ 0 [some (.inl 60), some (.inl a), some (.inl b)] [] Mz
  refine v_ild0 dX1_joined_0 ?_
  refine v_tsIn (off := 139) (tgt := 140) dX1_joined_1 (by decide) (by decide) (by decide) (by decide) ?_
  refine v_ild1 dX1_joined_140 ?_
  refine v_ild2 dX1_joined_141 ?_
  refine v_icmp_ge (tgt := 149) dX1_joined_142 (by decide) (fun h142 => ?_) (fun h142 => ?_)
  · refine v_iconstN (n := 0) dX1_joined_149 ?_
    exact v_iret dX1_joined_150 rfl (⟨by unfold jn; rw [if_neg (by decide), if_neg (by decide), if_neg (by decide), if_neg (by decide), if_pos rfl, if_neg (Int32.not_lt.mpr h142)], rfl⟩)
  · refine v_iconstN (n := 1) dX1_joined_145 ?_
    refine v_goto (tgt := 150) dX1_joined_146 (by decide) ?_
    exact v_iret dX1_joined_150 rfl (⟨by unfold jn; rw [if_neg (by decide), if_neg (by decide), if_neg (by decide), if_neg (by decide), if_pos rfl, if_pos (Int32.not_le.mp h142)], rfl⟩)
set_option maxRecDepth 100000 in
set_option maxHeartbeats 4000000 in
theorem kL_joined_61 (E : ev) (Mz : mm) {a b : Int32} : Ct E 0 yX1_joined cX1_joined 3 (some .int) [.inl 61, .inl a, .inl b] Mz (qI E (fun r M' => r = jn 61 a b ∧ M' = Mz)) := by
  refine ct_of (by decide) (Nat.le_of_ble_eq_true rfl) ?_
  show V E 0 _ _ _ _ _ 0 [some (.inl 61), some (.inl a), some (.inl b)] [] Mz
  refine v_ild0 dX1_joined_0 ?_
  refine v_tsIn (off := 150) (tgt := 151) dX1_joined_1 (by decide) (by decide) (by decide) (by decide) ?_
  refine v_ild1 dX1_joined_151 ?_
  refine v_ild2 dX1_joined_152 ?_
  refine v_icmp_ne (tgt := 160) dX1_joined_153 (by decide) (fun h153 => ?_) (fun h153 => ?_)
  · refine v_iconstN (n := 0) dX1_joined_160 ?_
    exact v_iret dX1_joined_161 rfl (⟨by unfold jn; rw [if_neg (by decide), if_neg (by decide), if_neg (by decide), if_neg (by decide), if_neg (by decide), if_pos rfl, if_neg h153], rfl⟩)
  · refine v_iconstN (n := 1) dX1_joined_156 ?_
    refine v_goto (tgt := 161) dX1_joined_157 (by decide) ?_
    exact v_iret dX1_joined_161 rfl (⟨by unfold jn; rw [if_neg (by decide), if_neg (by decide), if_neg (by decide), if_neg (by decide), if_neg (by decide), if_pos rfl, if_pos h153], rfl⟩)
set_option maxRecDepth 100000 in
set_option maxHeartbeats 4000000 in
theorem kL_joined_62 (E : ev) (Mz : mm) {a b : Int32} : Ct E 0 yX1_joined cX1_joined 3 (some .int) [.inl 62, .inl a, .inl b] Mz (qI E (fun r M' => r = jn 62 a b ∧ M' = Mz)) := by
  refine ct_of (by decide) (Nat.le_of_ble_eq_true rfl) ?_
  show V E 0 _ _ _ _ _ 0 [some (.inl 62), some (.inl a), some (.inl b)] [] Mz
  refine v_ild0 dX1_joined_0 ?_
  refine v_tsIn (off := 161) (tgt := 162) dX1_joined_1 (by decide) (by decide) (by decide) (by decide) ?_
  refine v_ild1 dX1_joined_162 ?_
  refine v_ild2 dX1_joined_163 ?_
  refine v_icmp_le (tgt := 171) dX1_joined_164 (by decide) (fun h164 => ?_) (fun h164 => ?_)
  · refine v_iconstN (n := 0) dX1_joined_171 ?_
    exact v_iret dX1_joined_172 rfl (⟨by unfold jn; rw [if_neg (by decide), if_neg (by decide), if_neg (by decide), if_neg (by decide), if_neg (by decide), if_neg (by decide), if_pos rfl, if_neg (Int32.not_lt.mpr h164)], rfl⟩)
  · refine v_iconstN (n := 1) dX1_joined_167 ?_
    refine v_goto (tgt := 172) dX1_joined_168 (by decide) ?_
    exact v_iret dX1_joined_172 rfl (⟨by unfold jn; rw [if_neg (by decide), if_neg (by decide), if_neg (by decide), if_neg (by decide), if_neg (by decide), if_neg (by decide), if_pos rfl, if_pos (Int32.not_le.mp h164)], rfl⟩)
set_option maxRecDepth 100000 in
set_option maxHeartbeats 4000000 in
theorem kL_joined_38 (E : ev) (Mz : mm) {a b : Int32} : Ct E 0 yX1_joined cX1_joined 3 (some .int) [.inl 38, .inl a, .inl b] Mz (qI E (fun r M' => r = jn 38 a b ∧ M' = Mz)) := by
  refine ct_of (by decide) (Nat.le_of_ble_eq_true rfl) ?_
  show V E 0 _ _ _ _ _ 0 [some (.inl 38), some (.inl a), some (.inl b)] [] Mz
  refine v_ild0 dX1_joined_0 ?_
  refine v_tsIn (off := 172) (tgt := 173) dX1_joined_1 (by decide) (by decide) (by decide) (by decide) ?_
  refine v_ild1 dX1_joined_173 ?_
  refine v_if_eq (tgt := 185) dX1_joined_174 (by decide) (fun h174 => ?_) (fun h174 => ?_)
  · refine v_iconstN (n := 0) dX1_joined_185 ?_
    exact v_iret dX1_joined_186 rfl (⟨by unfold jn; rw [if_neg (by decide), if_neg (by decide), if_neg (by decide), if_neg (by decide), if_neg (by decide), if_neg (by decide), if_neg (by decide), if_pos rfl, if_pos h174], rfl⟩)
  · refine v_ild2 dX1_joined_177 ?_
    refine v_if_eq (tgt := 185) dX1_joined_178 (by decide) (fun h178 => ?_) (fun h178 => ?_)
    · refine v_iconstN (n := 0) dX1_joined_185 ?_
      exact v_iret dX1_joined_186 rfl (⟨by unfold jn; rw [if_neg (by decide), if_neg (by decide), if_neg (by decide), if_neg (by decide), if_neg (by decide), if_neg (by decide), if_neg (by decide), if_pos rfl, if_neg h174, if_pos h178], rfl⟩)
    · refine v_iconstN (n := 1) dX1_joined_181 ?_
      refine v_goto (tgt := 186) dX1_joined_182 (by decide) ?_
      exact v_iret dX1_joined_186 rfl (⟨by unfold jn; rw [if_neg (by decide), if_neg (by decide), if_neg (by decide), if_neg (by decide), if_neg (by decide), if_neg (by decide), if_neg (by decide), if_pos rfl, if_neg h174, if_neg h178], rfl⟩)
set_option maxRecDepth 100000 in
set_option maxHeartbeats 4000000 in
theorem kL_joined_124 (E : ev) (Mz : mm) {a b : Int32} : Ct E 0 yX1_joined cX1_joined 3 (some .int) [.inl 124, .inl a, .inl b] Mz (qI E (fun r M' => r = jn 124 a b ∧ M' = Mz)) := by
  refine ct_of (by decide) (Nat.le_of_ble_eq_true rfl) ?_
  show V E 0 _ _ _ _ _ 0 [some (.inl 124), some (.inl a), some (.inl b)] [] Mz
  refine v_ild0 dX1_joined_0 ?_
  refine v_tsOut (tgt := 187) dX1_joined_1 (by decide) (by decide) ?_
  refine v_ild1 dX1_joined_187 ?_
  refine v_if_ne (tgt := 195) dX1_joined_188 (by decide) (fun h188 => ?_) (fun h188 => ?_)
  · refine v_iconstN (n := 1) dX1_joined_195 ?_
    refine v_goto (tgt := 200) dX1_joined_196 (by decide) ?_
    exact v_iret dX1_joined_200 rfl (⟨by unfold jn; rw [if_neg (by decide), if_neg (by decide), if_neg (by decide), if_neg (by decide), if_neg (by decide), if_neg (by decide), if_neg (by decide), if_neg (by decide), if_neg h188], rfl⟩)
  · refine v_ild2 dX1_joined_191 ?_
    refine v_if_eq (tgt := 199) dX1_joined_192 (by decide) (fun h192 => ?_) (fun h192 => ?_)
    · refine v_iconstN (n := 0) dX1_joined_199 ?_
      exact v_iret dX1_joined_200 rfl (⟨by unfold jn; rw [if_neg (by decide), if_neg (by decide), if_neg (by decide), if_neg (by decide), if_neg (by decide), if_neg (by decide), if_neg (by decide), if_neg (by decide), if_pos h188, if_pos h192], rfl⟩)
    · refine v_iconstN (n := 1) dX1_joined_195 ?_
      refine v_goto (tgt := 200) dX1_joined_196 (by decide) ?_
      exact v_iret dX1_joined_200 rfl (⟨by unfold jn; rw [if_neg (by decide), if_neg (by decide), if_neg (by decide), if_neg (by decide), if_neg (by decide), if_neg (by decide), if_neg (by decide), if_neg (by decide), if_pos h188, if_neg h192], rfl⟩)
theorem kL_joined (E : ev) (Mz : mm) {a b x : Int32} (h : isBin x) : Ct E 0 yX1_joined cX1_joined 3 (some .int) [.inl (-x), .inl a, .inl b] Mz (qI E (fun r M' => r = jn (-x) a b ∧ M' = Mz)) := by
  rcases h with rfl | rfl | rfl | rfl | rfl | rfl | rfl | rfl | rfl
  · exact kL_joined_42 E Mz
  · exact kL_joined_47 E Mz
  · exact kL_joined_43 E Mz
  · exact kL_joined_45 E Mz
  · exact kL_joined_60 E Mz
  · exact kL_joined_61 E Mz
  · exact kL_joined_62 E Mz
  · exact kL_joined_38 E Mz
  · exact kL_joined_124 E Mz
set_option maxRecDepth 100000 in
set_option maxHeartbeats 4000000 in
theorem kM_two_42 (E : ev) (Mz : mm) {a b : Int32} : Ct E 0 yX7_two cX7_two 3 (some .int) [.inl (-8), .inl a, .inl b] Mz (qI E (fun r M' => r = jn 42 a b ∧ M' = Mz)) := by
  refine ct_of (by decide) (Nat.le_of_ble_eq_true rfl) ?_
  show V E 0 _ _ _ _ _ 0 [some (.inl (-8)), some (.inl a), some (.inl b)] [] Mz
  refine v_ild0 dX7_two_0 ?_
  refine v_tsIn (off := 116) (tgt := 117) dX7_two_1 (by decide) (by decide) (by decide) (by decide) ?_
  refine v_ild1 dX7_two_117 ?_
  refine v_ild2 dX7_two_118 ?_
  refine v_imul dX7_two_119 ?_
  exact v_iret dX7_two_120 rfl (⟨by unfold jn; rw [if_pos rfl], rfl⟩)
set_option maxRecDepth 100000 in
set_option maxHeartbeats 4000000 in
theorem kM_two_47 (E : ev) (Mz : mm) {a b : Int32} : Ct E 0 yX7_two cX7_two 3 (some .int) [.inl (-9), .inl a, .inl b] Mz (qI E (fun r M' => r = jn 47 a b ∧ M' = Mz)) := by
  refine ct_of (by decide) (Nat.le_of_ble_eq_true rfl) ?_
  show V E 0 _ _ _ _ _ 0 [some (.inl (-9)), some (.inl a), some (.inl b)] [] Mz
  refine v_ild0 dX7_two_0 ?_
  refine v_tsOut (tgt := 121) dX7_two_1 (by decide) (by decide) ?_
  refine v_ild2 dX7_two_121 ?_
  refine v_if_ne (tgt := 129) dX7_two_122 (by decide) (fun h122 => ?_) (fun h122 => ?_)
  · refine v_ild1 dX7_two_129 ?_
    refine v_ild2 dX7_two_130 ?_
    refine v_idiv dX7_two_131 (h122) ?_
    exact v_iret dX7_two_132 rfl (⟨by unfold jn; rw [if_neg (by decide), if_pos rfl, if_neg h122], rfl⟩)
  · refine v_iconstN (n := 0) dX7_two_125 ?_
    refine v_goto (tgt := 132) dX7_two_126 (by decide) ?_
    exact v_iret dX7_two_132 rfl (⟨by unfold jn; rw [if_neg (by decide), if_pos rfl, if_pos h122], rfl⟩)
set_option maxRecDepth 100000 in
set_option maxHeartbeats 4000000 in
theorem kM_two_43 (E : ev) (Mz : mm) {a b : Int32} : Ct E 0 yX7_two cX7_two 3 (some .int) [.inl (-6), .inl a, .inl b] Mz (qI E (fun r M' => r = jn 43 a b ∧ M' = Mz)) := by
  refine ct_of (by decide) (Nat.le_of_ble_eq_true rfl) ?_
  show V E 0 _ _ _ _ _ 0 [some (.inl (-6)), some (.inl a), some (.inl b)] [] Mz
  refine v_ild0 dX7_two_0 ?_
  refine v_tsIn (off := 108) (tgt := 109) dX7_two_1 (by decide) (by decide) (by decide) (by decide) ?_
  refine v_ild1 dX7_two_109 ?_
  refine v_ild2 dX7_two_110 ?_
  refine v_iadd dX7_two_111 ?_
  exact v_iret dX7_two_112 rfl (⟨by unfold jn; rw [if_neg (by decide), if_neg (by decide), if_pos rfl], rfl⟩)
set_option maxRecDepth 100000 in
set_option maxHeartbeats 4000000 in
theorem kM_two_45 (E : ev) (Mz : mm) {a b : Int32} : Ct E 0 yX7_two cX7_two 3 (some .int) [.inl (-7), .inl a, .inl b] Mz (qI E (fun r M' => r = jn 45 a b ∧ M' = Mz)) := by
  refine ct_of (by decide) (Nat.le_of_ble_eq_true rfl) ?_
  show V E 0 _ _ _ _ _ 0 [some (.inl (-7)), some (.inl a), some (.inl b)] [] Mz
  refine v_ild0 dX7_two_0 ?_
  refine v_tsIn (off := 112) (tgt := 113) dX7_two_1 (by decide) (by decide) (by decide) (by decide) ?_
  refine v_ild1 dX7_two_113 ?_
  refine v_ild2 dX7_two_114 ?_
  refine v_isub dX7_two_115 ?_
  exact v_iret dX7_two_116 rfl (⟨by unfold jn; rw [if_neg (by decide), if_neg (by decide), if_neg (by decide), if_pos rfl], rfl⟩)
set_option maxRecDepth 100000 in
set_option maxHeartbeats 4000000 in
theorem kM_two_60 (E : ev) (Mz : mm) {a b : Int32} : Ct E 0 yX7_two cX7_two 3 (some .int) [.inl (-3), .inl a, .inl b] Mz (qI E (fun r M' => r = jn 60 a b ∧ M' = Mz)) := by
  refine ct_of (by decide) (Nat.le_of_ble_eq_true rfl) ?_
  show V E 0 _ _ _ _ _ 0 [some (.inl (-3)), some (.inl a), some (.inl b)] [] Mz
  refine v_ild0 dX7_two_0 ?_
  refine v_tsIn (off := 75) (tgt := 76) dX7_two_1 (by decide) (by decide) (by decide) (by decide) ?_
  refine v_ild1 dX7_two_76 ?_
  refine v_ild2 dX7_two_77 ?_
  refine v_icmp_ge (tgt := 85) dX7_two_78 (by decide) (fun h78 => ?_) (fun h78 => ?_)
  · refine v_iconstN (n := 0) dX7_two_85 ?_
    exact v_iret dX7_two_86 rfl (⟨by unfold jn; rw [if_neg (by decide), if_neg (by decide), if_neg (by decide), if_neg (by decide), if_pos rfl, if_neg (Int32.not_lt.mpr h78)], rfl⟩)
  · refine v_iconstN (n := 1) dX7_two_81 ?_
    refine v_goto (tgt := 86) dX7_two_82 (by decide) ?_
    exact v_iret dX7_two_86 rfl (⟨by unfold jn; rw [if_neg (by decide), if_neg (by decide), if_neg (by decide), if_neg (by decide), if_pos rfl, if_pos (Int32.not_le.mp h78)], rfl⟩)
set_option maxRecDepth 100000 in
set_option maxHeartbeats 4000000 in
theorem kM_two_61 (E : ev) (Mz : mm) {a b : Int32} : Ct E 0 yX7_two cX7_two 3 (some .int) [.inl (-4), .inl a, .inl b] Mz (qI E (fun r M' => r = jn 61 a b ∧ M' = Mz)) := by
  refine ct_of (by decide) (Nat.le_of_ble_eq_true rfl) ?_
  show V E 0 _ _ _ _ _ 0 [some (.inl (-4)), some (.inl a), some (.inl b)] [] Mz
  refine v_ild0 dX7_two_0 ?_
  refine v_tsIn (off := 86) (tgt := 87) dX7_two_1 (by decide) (by decide) (by decide) (by decide) ?_
  refine v_ild1 dX7_two_87 ?_
  refine v_ild2 dX7_two_88 ?_
  refine v_icmp_ne (tgt := 96) dX7_two_89 (by decide) (fun h89 => ?_) (fun h89 => ?_)
  · refine v_iconstN (n := 0) dX7_two_96 ?_
    exact v_iret dX7_two_97 rfl (⟨by unfold jn; rw [if_neg (by decide), if_neg (by decide), if_neg (by decide), if_neg (by decide), if_neg (by decide), if_pos rfl, if_neg h89], rfl⟩)
  · refine v_iconstN (n := 1) dX7_two_92 ?_
    refine v_goto (tgt := 97) dX7_two_93 (by decide) ?_
    exact v_iret dX7_two_97 rfl (⟨by unfold jn; rw [if_neg (by decide), if_neg (by decide), if_neg (by decide), if_neg (by decide), if_neg (by decide), if_pos rfl, if_pos h89], rfl⟩)
set_option maxRecDepth 100000 in
set_option maxHeartbeats 4000000 in
theorem kM_two_62 (E : ev) (Mz : mm) {a b : Int32} : Ct E 0 yX7_two cX7_two 3 (some .int) [.inl (-5), .inl a, .inl b] Mz (qI E (fun r M' => r = jn 62 a b ∧ M' = Mz)) := by
  refine ct_of (by decide) (Nat.le_of_ble_eq_true rfl) ?_
  show V E 0 _ _ _ _ _ 0 [some (.inl (-5)), some (.inl a), some (.inl b)] [] Mz
  refine v_ild0 dX7_two_0 ?_
  refine v_tsIn (off := 97) (tgt := 98) dX7_two_1 (by decide) (by decide) (by decide) (by decide) ?_
  refine v_ild1 dX7_two_98 ?_
  refine v_ild2 dX7_two_99 ?_
  refine v_icmp_le (tgt := 107) dX7_two_100 (by decide) (fun h100 => ?_) (fun h100 => ?_)
  · refine v_iconstN (n := 0) dX7_two_107 ?_
    exact v_iret dX7_two_108 rfl (⟨by unfold jn; rw [if_neg (by decide), if_neg (by decide), if_neg (by decide), if_neg (by decide), if_neg (by decide), if_neg (by decide), if_pos rfl, if_neg (Int32.not_lt.mpr h100)], rfl⟩)
  · refine v_iconstN (n := 1) dX7_two_103 ?_
    refine v_goto (tgt := 108) dX7_two_104 (by decide) ?_
    exact v_iret dX7_two_108 rfl (⟨by unfold jn; rw [if_neg (by decide), if_neg (by decide), if_neg (by decide), if_neg (by decide), if_neg (by decide), if_neg (by decide), if_pos rfl, if_pos (Int32.not_le.mp h100)], rfl⟩)
set_option maxRecDepth 100000 in
set_option maxHeartbeats 4000000 in
theorem kM_two_38 (E : ev) (Mz : mm) {a b : Int32} : Ct E 0 yX7_two cX7_two 3 (some .int) [.inl (-2), .inl a, .inl b] Mz (qI E (fun r M' => r = jn 38 a b ∧ M' = Mz)) := by
  refine ct_of (by decide) (Nat.le_of_ble_eq_true rfl) ?_
  show V E 0 _ _ _ _ _ 0 [some (.inl (-2)), some (.inl a), some (.inl b)] [] Mz
  refine v_ild0 dX7_two_0 ?_
  refine v_tsIn (off := 61) (tgt := 62) dX7_two_1 (by decide) (by decide) (by decide) (by decide) ?_
  refine v_ild1 dX7_two_62 ?_
  refine v_if_eq (tgt := 74) dX7_two_63 (by decide) (fun h63 => ?_) (fun h63 => ?_)
  · refine v_iconstN (n := 0) dX7_two_74 ?_
    exact v_iret dX7_two_75 rfl (⟨by unfold jn; rw [if_neg (by decide), if_neg (by decide), if_neg (by decide), if_neg (by decide), if_neg (by decide), if_neg (by decide), if_neg (by decide), if_pos rfl, if_pos h63], rfl⟩)
  · refine v_ild2 dX7_two_66 ?_
    refine v_if_eq (tgt := 74) dX7_two_67 (by decide) (fun h67 => ?_) (fun h67 => ?_)
    · refine v_iconstN (n := 0) dX7_two_74 ?_
      exact v_iret dX7_two_75 rfl (⟨by unfold jn; rw [if_neg (by decide), if_neg (by decide), if_neg (by decide), if_neg (by decide), if_neg (by decide), if_neg (by decide), if_neg (by decide), if_pos rfl, if_neg h63, if_pos h67], rfl⟩)
    · refine v_iconstN (n := 1) dX7_two_70 ?_
      refine v_goto (tgt := 75) dX7_two_71 (by decide) ?_
      exact v_iret dX7_two_75 rfl (⟨by unfold jn; rw [if_neg (by decide), if_neg (by decide), if_neg (by decide), if_neg (by decide), if_neg (by decide), if_neg (by decide), if_neg (by decide), if_pos rfl, if_neg h63, if_neg h67], rfl⟩)
set_option maxRecDepth 100000 in
set_option maxHeartbeats 4000000 in
theorem kM_two_124 (E : ev) (Mz : mm) {a b : Int32} : Ct E 0 yX7_two cX7_two 3 (some .int) [.inl (-1), .inl a, .inl b] Mz (qI E (fun r M' => r = jn 124 a b ∧ M' = Mz)) := by
  refine ct_of (by decide) (Nat.le_of_ble_eq_true rfl) ?_
  show V E 0 _ _ _ _ _ 0 [some (.inl (-1)), some (.inl a), some (.inl b)] [] Mz
  refine v_ild0 dX7_two_0 ?_
  refine v_tsIn (off := 47) (tgt := 48) dX7_two_1 (by decide) (by decide) (by decide) (by decide) ?_
  refine v_ild1 dX7_two_48 ?_
  refine v_if_ne (tgt := 56) dX7_two_49 (by decide) (fun h49 => ?_) (fun h49 => ?_)
  · refine v_iconstN (n := 1) dX7_two_56 ?_
    refine v_goto (tgt := 61) dX7_two_57 (by decide) ?_
    exact v_iret dX7_two_61 rfl (⟨by unfold jn; rw [if_neg (by decide), if_neg (by decide), if_neg (by decide), if_neg (by decide), if_neg (by decide), if_neg (by decide), if_neg (by decide), if_neg (by decide), if_neg h49], rfl⟩)
  · refine v_ild2 dX7_two_52 ?_
    refine v_if_eq (tgt := 60) dX7_two_53 (by decide) (fun h53 => ?_) (fun h53 => ?_)
    · refine v_iconstN (n := 0) dX7_two_60 ?_
      exact v_iret dX7_two_61 rfl (⟨by unfold jn; rw [if_neg (by decide), if_neg (by decide), if_neg (by decide), if_neg (by decide), if_neg (by decide), if_neg (by decide), if_neg (by decide), if_neg (by decide), if_pos h49, if_pos h53], rfl⟩)
    · refine v_iconstN (n := 1) dX7_two_56 ?_
      refine v_goto (tgt := 61) dX7_two_57 (by decide) ?_
      exact v_iret dX7_two_61 rfl (⟨by unfold jn; rw [if_neg (by decide), if_neg (by decide), if_neg (by decide), if_neg (by decide), if_neg (by decide), if_neg (by decide), if_neg (by decide), if_neg (by decide), if_pos h49, if_neg h53], rfl⟩)
theorem TB.of {t : Nat} (h : t < 14) : TB (5 + 2 * t) := by unfold TB; omega
theorem htK_le (xs : Nat → Int32) : ∀ i, htK xs i ≤ i
  | 0 => Nat.le_refl _
  | i + 1 => by
    have := htK_le xs i
    unfold htK
    split
    · omega
    · split <;> omega
set_option maxRecDepth 100000 in
set_option maxHeartbeats 4000000 in
theorem kL_given (E : ev) (Mz : mm) {num n : Nat} (hnum : num < 14) (hn : Mz (5 + 2 * num) 2 = nI n) (hw : WF (Mz (5 + 2 * num + 1)) n) : Ct E 1 yX1_given cX1_given 6 (some .int) [.inr 1, .inl (nI num)] Mz (qI E (fun r M' => r = bot (gst (Mz 3) (Mz (5 + 2 * num + 1)) n) ∧ ∃ g, M' = wa Mz 4 g)) := by
  refine ct_of (by decide) (Nat.le_of_ble_eq_true rfl) ?_
  show V E 1 _ _ _ _ _ 0 [some (.inr 1), some (.inl (nI num)), none, none, none, none] [] Mz
  have ht := TB.of hnum
  refine v_ald0 dX1_given_0 ?_
  refine v_getr dX1_given_1 gX1_11 sh_1 rfl ?_
  refine v_ild1 dX1_given_4 ?_
  refine v_aaldN dX1_given_5 sh_2 rfl (by omega) (by decide) ?_
  refine v_ast2 dX1_given_6 (by decide) ?_
  refine v_iconstN (n := 0) dX1_given_7 ?_
  refine v_ist3 dX1_given_8 (by decide) ?_
  refine v_iconstN (n := 0) dX1_given_9 ?_
  refine v_ist4 dX1_given_10 (by decide) ?_
  refine v_loopP (pc := 12) (fun k _ => [some (.inr 1), some (.inl (nI num)), some (.inr (5 + 2 * num)), some (.inl (nI (gst (Mz 3) (Mz (5 + 2 * num + 1)) k).length)), some (.inl (nI k)), none]) (fun k M' => ∃ g, M' = wa Mz 4 g ∧ rp g (gst (Mz 3) (Mz (5 + 2 * num + 1)) k)) n rfl ⟨Mz 4, (wa_self Mz 4).symm, rp_nil _⟩ (fun k Mk hk hM ih => ?_) (fun Mk hM => ?_)
  · obtain ⟨g, rfl, hg⟩ := hM
    have hxc : wa Mz 4 g (5 + 2 * num + 1) = Mz (5 + 2 * num + 1) := wa_ne (by omega)
    have hnm : wa Mz 4 g 3 = Mz 3 := wa_ne (by decide)
    have hlen : (wa Mz 4 g) (5 + 2 * num) 2 = nI n := by rw [wa_ne (by omega)]; exact hn
    have hl := gst_len (Mz 3) (Mz (5 + 2 * num + 1)) hw k (by omega)
    have hlk : htK (Mz (5 + 2 * num + 1)) k ≤ k := htK_le _ k
    have hn96 := hw.2.1
    rcases hw.2.2.2 k hk with ⟨q, hq, hx⟩ | hx | ⟨hx, hh⟩ | ⟨hx, hh⟩
    · have hnext : gst (Mz 3) (Mz (5 + 2 * num + 1)) (k + 1) = nI q :: (gst (Mz 3) (Mz (5 + 2 * num + 1)) k) := by show g1 _ _ _ = _; rw [hx]; exact g1_num hq _
      refine v_ild4 dX1_given_12 ?_
      refine v_ald2 dX1_given_14 ?_
      refine v_geti dX1_given_15 gX1_25 (shT ht) rfl ?_
      refine v_eq (hlen) ?_
      refine v_icmpN_ge (tgt := 154) dX1_given_18 (by decide) (by omega) (by omega) (fun h18 => absurd h18 (by omega)) (fun h18 => ?_)
      refine v_ald2 dX1_given_21 ?_
      refine v_getr dX1_given_22 gX1_29 (shT ht) rfl ?_
      refine v_ild4 dX1_given_25 ?_
      refine v_ialdN dX1_given_27 (shT1 ht) (by omega) (by decide) ?_
      refine v_eq ((congrFun hxc k).trans hx) ?_
      refine v_ist5 dX1_given_28 (by decide) ?_
      refine v_ild5 dX1_given_30 ?_
      refine v_bipush dX1_given_32 rfl ?_
      refine v_icmp_lt (tgt := 74) dX1_given_34 (by decide) (fun h34 => absurd h34 (nn_m (by decide) (by omega))) (fun h34 => ?_)
      refine v_ild3 dX1_given_37 ?_
      refine v_bipushN (n := 96) dX1_given_38 (by decide) ?_
      refine v_icmpN_ge (tgt := 148) dX1_given_40 (by decide) (by omega) (by omega) (fun h40 => absurd h40 (by omega)) (fun h40 => ?_)
      refine v_ald0 dX1_given_43 ?_
      refine v_getr dX1_given_44 gX1_21 sh_1 rfl ?_
      refine v_ild3 dX1_given_47 ?_
      refine v_ild5 dX1_given_48 ?_
      refine v_if_lt (tgt := 58) dX1_given_50 (by decide) (fun h50 => absurd h50 (nI_pos (by omega))) (fun h50 => ?_)
      refine v_ild5 dX1_given_53 ?_
      refine v_goto (tgt := 67) dX1_given_55 (by decide) ?_
      refine v_iastN dX1_given_67 sh_4 (by omega) (by decide) ?_
      refine v_iincN3 (n := 1) dX1_given_68 (by decide) ?_
      refine v_goto (tgt := 148) dX1_given_71 (by decide) ?_
      refine v_iincN4 (n := 1) dX1_given_148 (by decide) ?_
      refine v_goto (tgt := 12) dX1_given_151 (by decide) ?_
      refine v_fg5 ?_
      exact v_lo (by rw [hnext]; simp [nI_add]) (ih _ ⟨upd g (gst (Mz 3) (Mz (5 + 2 * num + 1)) k).length (nI q), by rw [wr_wa], by rw [hnext]; exact rp_push _ hg⟩)
    · rcases hx with hx | hx | hx | hx | hx | hx
      · have hnext : gst (Mz 3) (Mz (5 + 2 * num + 1)) (k + 1) = Mz 3 0 :: (gst (Mz 3) (Mz (5 + 2 * num + 1)) k) := by show g1 _ _ _ = _; rw [hx]; rfl
        refine v_ild4 dX1_given_12 ?_
        refine v_ald2 dX1_given_14 ?_
        refine v_geti dX1_given_15 gX1_25 (shT ht) rfl ?_
        refine v_eq (hlen) ?_
        refine v_icmpN_ge (tgt := 154) dX1_given_18 (by decide) (by omega) (by omega) (fun h18 => absurd h18 (by omega)) (fun h18 => ?_)
        refine v_ald2 dX1_given_21 ?_
        refine v_getr dX1_given_22 gX1_29 (shT ht) rfl ?_
        refine v_ild4 dX1_given_25 ?_
        refine v_ialdN dX1_given_27 (shT1 ht) (by omega) (by decide) ?_
        refine v_eq ((congrFun hxc k).trans hx) ?_
        refine v_ist5 dX1_given_28 (by decide) ?_
        refine v_ild5 dX1_given_30 ?_
        refine v_bipush dX1_given_32 rfl ?_
        refine v_icmp_lt (tgt := 74) dX1_given_34 (by decide) (fun h34 => absurd h34 (by decide)) (fun h34 => ?_)
        refine v_ild3 dX1_given_37 ?_
        refine v_bipushN (n := 96) dX1_given_38 (by decide) ?_
        refine v_icmpN_ge (tgt := 148) dX1_given_40 (by decide) (by omega) (by omega) (fun h40 => absurd h40 (by omega)) (fun h40 => ?_)
        refine v_ald0 dX1_given_43 ?_
        refine v_getr dX1_given_44 gX1_21 sh_1 rfl ?_
        refine v_ild3 dX1_given_47 ?_
        refine v_ild5 dX1_given_48 ?_
        refine v_if_lt (tgt := 58) dX1_given_50 (by decide) (fun h50 => ?_) (fun h50 => absurd h50 (by decide))
        refine v_ald0 dX1_given_58 ?_
        refine v_getr dX1_given_59 gX1_17 sh_1 rfl ?_
        refine v_iconst dX1_given_62 rfl ?_
        refine v_ild5 dX1_given_63 ?_
        refine v_isub dX1_given_65 ?_
        refine v_eq (show (-1 : Int32) - (-1) = nI 0 from rfl) ?_
        refine v_ialdN dX1_given_66 sh_3 (by omega) (by decide) ?_
        refine v_iastN dX1_given_67 sh_4 (by omega) (by decide) ?_
        refine v_iincN3 (n := 1) dX1_given_68 (by decide) ?_
        refine v_goto (tgt := 148) dX1_given_71 (by decide) ?_
        refine v_iincN4 (n := 1) dX1_given_148 (by decide) ?_
        refine v_goto (tgt := 12) dX1_given_151 (by decide) ?_
        refine v_fg5 ?_
        exact v_lo (by rw [hnext]; simp [nI_add]) (ih _ ⟨upd g (gst (Mz 3) (Mz (5 + 2 * num + 1)) k).length (Mz 3 0), by rw [wr_wa, hnm], by rw [hnext]; exact rp_push _ hg⟩)
      · have hnext : gst (Mz 3) (Mz (5 + 2 * num + 1)) (k + 1) = Mz 3 1 :: (gst (Mz 3) (Mz (5 + 2 * num + 1)) k) := by show g1 _ _ _ = _; rw [hx]; rfl
        refine v_ild4 dX1_given_12 ?_
        refine v_ald2 dX1_given_14 ?_
        refine v_geti dX1_given_15 gX1_25 (shT ht) rfl ?_
        refine v_eq (hlen) ?_
        refine v_icmpN_ge (tgt := 154) dX1_given_18 (by decide) (by omega) (by omega) (fun h18 => absurd h18 (by omega)) (fun h18 => ?_)
        refine v_ald2 dX1_given_21 ?_
        refine v_getr dX1_given_22 gX1_29 (shT ht) rfl ?_
        refine v_ild4 dX1_given_25 ?_
        refine v_ialdN dX1_given_27 (shT1 ht) (by omega) (by decide) ?_
        refine v_eq ((congrFun hxc k).trans hx) ?_
        refine v_ist5 dX1_given_28 (by decide) ?_
        refine v_ild5 dX1_given_30 ?_
        refine v_bipush dX1_given_32 rfl ?_
        refine v_icmp_lt (tgt := 74) dX1_given_34 (by decide) (fun h34 => absurd h34 (by decide)) (fun h34 => ?_)
        refine v_ild3 dX1_given_37 ?_
        refine v_bipushN (n := 96) dX1_given_38 (by decide) ?_
        refine v_icmpN_ge (tgt := 148) dX1_given_40 (by decide) (by omega) (by omega) (fun h40 => absurd h40 (by omega)) (fun h40 => ?_)
        refine v_ald0 dX1_given_43 ?_
        refine v_getr dX1_given_44 gX1_21 sh_1 rfl ?_
        refine v_ild3 dX1_given_47 ?_
        refine v_ild5 dX1_given_48 ?_
        refine v_if_lt (tgt := 58) dX1_given_50 (by decide) (fun h50 => ?_) (fun h50 => absurd h50 (by decide))
        refine v_ald0 dX1_given_58 ?_
        refine v_getr dX1_given_59 gX1_17 sh_1 rfl ?_
        refine v_iconst dX1_given_62 rfl ?_
        refine v_ild5 dX1_given_63 ?_
        refine v_isub dX1_given_65 ?_
        refine v_eq (show (-1 : Int32) - (-2) = nI 1 from rfl) ?_
        refine v_ialdN dX1_given_66 sh_3 (by omega) (by decide) ?_
        refine v_iastN dX1_given_67 sh_4 (by omega) (by decide) ?_
        refine v_iincN3 (n := 1) dX1_given_68 (by decide) ?_
        refine v_goto (tgt := 148) dX1_given_71 (by decide) ?_
        refine v_iincN4 (n := 1) dX1_given_148 (by decide) ?_
        refine v_goto (tgt := 12) dX1_given_151 (by decide) ?_
        refine v_fg5 ?_
        exact v_lo (by rw [hnext]; simp [nI_add]) (ih _ ⟨upd g (gst (Mz 3) (Mz (5 + 2 * num + 1)) k).length (Mz 3 1), by rw [wr_wa, hnm], by rw [hnext]; exact rp_push _ hg⟩)
      · have hnext : gst (Mz 3) (Mz (5 + 2 * num + 1)) (k + 1) = Mz 3 2 :: (gst (Mz 3) (Mz (5 + 2 * num + 1)) k) := by show g1 _ _ _ = _; rw [hx]; rfl
        refine v_ild4 dX1_given_12 ?_
        refine v_ald2 dX1_given_14 ?_
        refine v_geti dX1_given_15 gX1_25 (shT ht) rfl ?_
        refine v_eq (hlen) ?_
        refine v_icmpN_ge (tgt := 154) dX1_given_18 (by decide) (by omega) (by omega) (fun h18 => absurd h18 (by omega)) (fun h18 => ?_)
        refine v_ald2 dX1_given_21 ?_
        refine v_getr dX1_given_22 gX1_29 (shT ht) rfl ?_
        refine v_ild4 dX1_given_25 ?_
        refine v_ialdN dX1_given_27 (shT1 ht) (by omega) (by decide) ?_
        refine v_eq ((congrFun hxc k).trans hx) ?_
        refine v_ist5 dX1_given_28 (by decide) ?_
        refine v_ild5 dX1_given_30 ?_
        refine v_bipush dX1_given_32 rfl ?_
        refine v_icmp_lt (tgt := 74) dX1_given_34 (by decide) (fun h34 => absurd h34 (by decide)) (fun h34 => ?_)
        refine v_ild3 dX1_given_37 ?_
        refine v_bipushN (n := 96) dX1_given_38 (by decide) ?_
        refine v_icmpN_ge (tgt := 148) dX1_given_40 (by decide) (by omega) (by omega) (fun h40 => absurd h40 (by omega)) (fun h40 => ?_)
        refine v_ald0 dX1_given_43 ?_
        refine v_getr dX1_given_44 gX1_21 sh_1 rfl ?_
        refine v_ild3 dX1_given_47 ?_
        refine v_ild5 dX1_given_48 ?_
        refine v_if_lt (tgt := 58) dX1_given_50 (by decide) (fun h50 => ?_) (fun h50 => absurd h50 (by decide))
        refine v_ald0 dX1_given_58 ?_
        refine v_getr dX1_given_59 gX1_17 sh_1 rfl ?_
        refine v_iconst dX1_given_62 rfl ?_
        refine v_ild5 dX1_given_63 ?_
        refine v_isub dX1_given_65 ?_
        refine v_eq (show (-1 : Int32) - (-3) = nI 2 from rfl) ?_
        refine v_ialdN dX1_given_66 sh_3 (by omega) (by decide) ?_
        refine v_iastN dX1_given_67 sh_4 (by omega) (by decide) ?_
        refine v_iincN3 (n := 1) dX1_given_68 (by decide) ?_
        refine v_goto (tgt := 148) dX1_given_71 (by decide) ?_
        refine v_iincN4 (n := 1) dX1_given_148 (by decide) ?_
        refine v_goto (tgt := 12) dX1_given_151 (by decide) ?_
        refine v_fg5 ?_
        exact v_lo (by rw [hnext]; simp [nI_add]) (ih _ ⟨upd g (gst (Mz 3) (Mz (5 + 2 * num + 1)) k).length (Mz 3 2), by rw [wr_wa, hnm], by rw [hnext]; exact rp_push _ hg⟩)
      · have hnext : gst (Mz 3) (Mz (5 + 2 * num + 1)) (k + 1) = Mz 3 3 :: (gst (Mz 3) (Mz (5 + 2 * num + 1)) k) := by show g1 _ _ _ = _; rw [hx]; rfl
        refine v_ild4 dX1_given_12 ?_
        refine v_ald2 dX1_given_14 ?_
        refine v_geti dX1_given_15 gX1_25 (shT ht) rfl ?_
        refine v_eq (hlen) ?_
        refine v_icmpN_ge (tgt := 154) dX1_given_18 (by decide) (by omega) (by omega) (fun h18 => absurd h18 (by omega)) (fun h18 => ?_)
        refine v_ald2 dX1_given_21 ?_
        refine v_getr dX1_given_22 gX1_29 (shT ht) rfl ?_
        refine v_ild4 dX1_given_25 ?_
        refine v_ialdN dX1_given_27 (shT1 ht) (by omega) (by decide) ?_
        refine v_eq ((congrFun hxc k).trans hx) ?_
        refine v_ist5 dX1_given_28 (by decide) ?_
        refine v_ild5 dX1_given_30 ?_
        refine v_bipush dX1_given_32 rfl ?_
        refine v_icmp_lt (tgt := 74) dX1_given_34 (by decide) (fun h34 => absurd h34 (by decide)) (fun h34 => ?_)
        refine v_ild3 dX1_given_37 ?_
        refine v_bipushN (n := 96) dX1_given_38 (by decide) ?_
        refine v_icmpN_ge (tgt := 148) dX1_given_40 (by decide) (by omega) (by omega) (fun h40 => absurd h40 (by omega)) (fun h40 => ?_)
        refine v_ald0 dX1_given_43 ?_
        refine v_getr dX1_given_44 gX1_21 sh_1 rfl ?_
        refine v_ild3 dX1_given_47 ?_
        refine v_ild5 dX1_given_48 ?_
        refine v_if_lt (tgt := 58) dX1_given_50 (by decide) (fun h50 => ?_) (fun h50 => absurd h50 (by decide))
        refine v_ald0 dX1_given_58 ?_
        refine v_getr dX1_given_59 gX1_17 sh_1 rfl ?_
        refine v_iconst dX1_given_62 rfl ?_
        refine v_ild5 dX1_given_63 ?_
        refine v_isub dX1_given_65 ?_
        refine v_eq (show (-1 : Int32) - (-4) = nI 3 from rfl) ?_
        refine v_ialdN dX1_given_66 sh_3 (by omega) (by decide) ?_
        refine v_iastN dX1_given_67 sh_4 (by omega) (by decide) ?_
        refine v_iincN3 (n := 1) dX1_given_68 (by decide) ?_
        refine v_goto (tgt := 148) dX1_given_71 (by decide) ?_
        refine v_iincN4 (n := 1) dX1_given_148 (by decide) ?_
        refine v_goto (tgt := 12) dX1_given_151 (by decide) ?_
        refine v_fg5 ?_
        exact v_lo (by rw [hnext]; simp [nI_add]) (ih _ ⟨upd g (gst (Mz 3) (Mz (5 + 2 * num + 1)) k).length (Mz 3 3), by rw [wr_wa, hnm], by rw [hnext]; exact rp_push _ hg⟩)
      · have hnext : gst (Mz 3) (Mz (5 + 2 * num + 1)) (k + 1) = Mz 3 4 :: (gst (Mz 3) (Mz (5 + 2 * num + 1)) k) := by show g1 _ _ _ = _; rw [hx]; rfl
        refine v_ild4 dX1_given_12 ?_
        refine v_ald2 dX1_given_14 ?_
        refine v_geti dX1_given_15 gX1_25 (shT ht) rfl ?_
        refine v_eq (hlen) ?_
        refine v_icmpN_ge (tgt := 154) dX1_given_18 (by decide) (by omega) (by omega) (fun h18 => absurd h18 (by omega)) (fun h18 => ?_)
        refine v_ald2 dX1_given_21 ?_
        refine v_getr dX1_given_22 gX1_29 (shT ht) rfl ?_
        refine v_ild4 dX1_given_25 ?_
        refine v_ialdN dX1_given_27 (shT1 ht) (by omega) (by decide) ?_
        refine v_eq ((congrFun hxc k).trans hx) ?_
        refine v_ist5 dX1_given_28 (by decide) ?_
        refine v_ild5 dX1_given_30 ?_
        refine v_bipush dX1_given_32 rfl ?_
        refine v_icmp_lt (tgt := 74) dX1_given_34 (by decide) (fun h34 => absurd h34 (by decide)) (fun h34 => ?_)
        refine v_ild3 dX1_given_37 ?_
        refine v_bipushN (n := 96) dX1_given_38 (by decide) ?_
        refine v_icmpN_ge (tgt := 148) dX1_given_40 (by decide) (by omega) (by omega) (fun h40 => absurd h40 (by omega)) (fun h40 => ?_)
        refine v_ald0 dX1_given_43 ?_
        refine v_getr dX1_given_44 gX1_21 sh_1 rfl ?_
        refine v_ild3 dX1_given_47 ?_
        refine v_ild5 dX1_given_48 ?_
        refine v_if_lt (tgt := 58) dX1_given_50 (by decide) (fun h50 => ?_) (fun h50 => absurd h50 (by decide))
        refine v_ald0 dX1_given_58 ?_
        refine v_getr dX1_given_59 gX1_17 sh_1 rfl ?_
        refine v_iconst dX1_given_62 rfl ?_
        refine v_ild5 dX1_given_63 ?_
        refine v_isub dX1_given_65 ?_
        refine v_eq (show (-1 : Int32) - (-5) = nI 4 from rfl) ?_
        refine v_ialdN dX1_given_66 sh_3 (by omega) (by decide) ?_
        refine v_iastN dX1_given_67 sh_4 (by omega) (by decide) ?_
        refine v_iincN3 (n := 1) dX1_given_68 (by decide) ?_
        refine v_goto (tgt := 148) dX1_given_71 (by decide) ?_
        refine v_iincN4 (n := 1) dX1_given_148 (by decide) ?_
        refine v_goto (tgt := 12) dX1_given_151 (by decide) ?_
        refine v_fg5 ?_
        exact v_lo (by rw [hnext]; simp [nI_add]) (ih _ ⟨upd g (gst (Mz 3) (Mz (5 + 2 * num + 1)) k).length (Mz 3 4), by rw [wr_wa, hnm], by rw [hnext]; exact rp_push _ hg⟩)
      · have hnext : gst (Mz 3) (Mz (5 + 2 * num + 1)) (k + 1) = Mz 3 5 :: (gst (Mz 3) (Mz (5 + 2 * num + 1)) k) := by show g1 _ _ _ = _; rw [hx]; rfl
        refine v_ild4 dX1_given_12 ?_
        refine v_ald2 dX1_given_14 ?_
        refine v_geti dX1_given_15 gX1_25 (shT ht) rfl ?_
        refine v_eq (hlen) ?_
        refine v_icmpN_ge (tgt := 154) dX1_given_18 (by decide) (by omega) (by omega) (fun h18 => absurd h18 (by omega)) (fun h18 => ?_)
        refine v_ald2 dX1_given_21 ?_
        refine v_getr dX1_given_22 gX1_29 (shT ht) rfl ?_
        refine v_ild4 dX1_given_25 ?_
        refine v_ialdN dX1_given_27 (shT1 ht) (by omega) (by decide) ?_
        refine v_eq ((congrFun hxc k).trans hx) ?_
        refine v_ist5 dX1_given_28 (by decide) ?_
        refine v_ild5 dX1_given_30 ?_
        refine v_bipush dX1_given_32 rfl ?_
        refine v_icmp_lt (tgt := 74) dX1_given_34 (by decide) (fun h34 => absurd h34 (by decide)) (fun h34 => ?_)
        refine v_ild3 dX1_given_37 ?_
        refine v_bipushN (n := 96) dX1_given_38 (by decide) ?_
        refine v_icmpN_ge (tgt := 148) dX1_given_40 (by decide) (by omega) (by omega) (fun h40 => absurd h40 (by omega)) (fun h40 => ?_)
        refine v_ald0 dX1_given_43 ?_
        refine v_getr dX1_given_44 gX1_21 sh_1 rfl ?_
        refine v_ild3 dX1_given_47 ?_
        refine v_ild5 dX1_given_48 ?_
        refine v_if_lt (tgt := 58) dX1_given_50 (by decide) (fun h50 => ?_) (fun h50 => absurd h50 (by decide))
        refine v_ald0 dX1_given_58 ?_
        refine v_getr dX1_given_59 gX1_17 sh_1 rfl ?_
        refine v_iconst dX1_given_62 rfl ?_
        refine v_ild5 dX1_given_63 ?_
        refine v_isub dX1_given_65 ?_
        refine v_eq (show (-1 : Int32) - (-6) = nI 5 from rfl) ?_
        refine v_ialdN dX1_given_66 sh_3 (by omega) (by decide) ?_
        refine v_iastN dX1_given_67 sh_4 (by omega) (by decide) ?_
        refine v_iincN3 (n := 1) dX1_given_68 (by decide) ?_
        refine v_goto (tgt := 148) dX1_given_71 (by decide) ?_
        refine v_iincN4 (n := 1) dX1_given_148 (by decide) ?_
        refine v_goto (tgt := 12) dX1_given_151 (by decide) ?_
        refine v_fg5 ?_
        exact v_lo (by rw [hnext]; simp [nI_add]) (ih _ ⟨upd g (gst (Mz 3) (Mz (5 + 2 * num + 1)) k).length (Mz 3 5), by rw [wr_wa, hnm], by rw [hnext]; exact rp_push _ hg⟩)
    · obtain ⟨a, t, hgk⟩ : ∃ a t, (gst (Mz 3) (Mz (5 + 2 * num + 1)) k) = a :: t := by
        cases hz : (gst (Mz 3) (Mz (5 + 2 * num + 1)) k) with
        | nil => rw [hz] at hl; simp at hl; omega
        | cons a t => exact ⟨a, t, rfl⟩
      rw [hgk] at hg hl
      have hnext : gst (Mz 3) (Mz (5 + 2 * num + 1)) (k + 1) = (if a = 0 then nI 1 else nI 0) :: t := by show g1 _ _ _ = _; rw [hx, hgk]; rfl
      rw [hgk]
      simp only [List.length_cons] at hl ⊢
      refine v_ild4 dX1_given_12 ?_
      refine v_ald2 dX1_given_14 ?_
      refine v_geti dX1_given_15 gX1_25 (shT ht) rfl ?_
      refine v_eq (hlen) ?_
      refine v_icmpN_ge (tgt := 154) dX1_given_18 (by decide) (by omega) (by omega) (fun h18 => absurd h18 (by omega)) (fun h18 => ?_)
      refine v_ald2 dX1_given_21 ?_
      refine v_getr dX1_given_22 gX1_29 (shT ht) rfl ?_
      refine v_ild4 dX1_given_25 ?_
      refine v_ialdN dX1_given_27 (shT1 ht) (by omega) (by decide) ?_
      refine v_eq ((congrFun hxc k).trans hx) ?_
      refine v_ist5 dX1_given_28 (by decide) ?_
      refine v_ild5 dX1_given_30 ?_
      refine v_bipush dX1_given_32 rfl ?_
      refine v_icmp_lt (tgt := 74) dX1_given_34 (by decide) (fun h34 => ?_) (fun h34 => absurd h34 (by decide))
      refine v_ild5 dX1_given_74 ?_
      refine v_bipush dX1_given_76 rfl ?_
      refine v_icmp_ne (tgt := 112) dX1_given_78 (by decide) (fun h78 => absurd h78 (by decide)) (fun h78 => ?_)
      refine v_ild3 dX1_given_81 ?_
      refine v_if_le (tgt := 148) dX1_given_82 (by decide) (fun h82 => absurd h82 (nI_nle (by omega) (by omega))) (fun h82 => ?_)
      refine v_ald0 dX1_given_85 ?_
      refine v_getr dX1_given_86 gX1_21 sh_1 rfl ?_
      refine v_ild3 dX1_given_89 ?_
      refine v_iconstN (n := 1) dX1_given_90 ?_
      refine v_isubN dX1_given_91 (by omega) ?_
      refine v_ald0 dX1_given_92 ?_
      refine v_getr dX1_given_93 gX1_21 sh_1 rfl ?_
      refine v_ild3 dX1_given_96 ?_
      refine v_iconstN (n := 1) dX1_given_97 ?_
      refine v_isubN dX1_given_98 (by omega) ?_
      refine v_ialdN dX1_given_99 sh_4 (by omega) (by decide) ?_
      refine v_eq (rp_top hg) ?_
      refine v_if_ne (tgt := 107) dX1_given_100 (by decide) (fun h100 => ?_) (fun h100 => ?_)
      · refine v_iconstN (n := 0) dX1_given_107 ?_
        refine v_iastN dX1_given_108 sh_4 (by omega) (by decide) ?_
        refine v_goto (tgt := 148) dX1_given_109 (by decide) ?_
        refine v_iincN4 (n := 1) dX1_given_148 (by decide) ?_
        refine v_goto (tgt := 12) dX1_given_151 (by decide) ?_
        refine v_fg5 ?_
        exact v_lo (by rw [hnext]; simp) (ih _ ⟨upd g t.length (if a = 0 then nI 1 else nI 0), by rw [wr_wa]; simp [h100], by rw [hnext]; exact rp_push _ (rp_tail hg)⟩)
      · refine v_iconstN (n := 1) dX1_given_103 ?_
        refine v_goto (tgt := 108) dX1_given_104 (by decide) ?_
        refine v_iastN dX1_given_108 sh_4 (by omega) (by decide) ?_
        refine v_goto (tgt := 148) dX1_given_109 (by decide) ?_
        refine v_iincN4 (n := 1) dX1_given_148 (by decide) ?_
        refine v_goto (tgt := 12) dX1_given_151 (by decide) ?_
        refine v_fg5 ?_
        exact v_lo (by rw [hnext]; simp) (ih _ ⟨upd g t.length (if a = 0 then nI 1 else nI 0), by rw [wr_wa]; simp [h100], by rw [hnext]; exact rp_push _ (rp_tail hg)⟩)
    · rcases hx with hx | hx | hx | hx | hx | hx | hx | hx | hx
      · obtain ⟨b, a, t, hgk⟩ : ∃ b a t, (gst (Mz 3) (Mz (5 + 2 * num + 1)) k) = b :: a :: t := by
          cases hz : (gst (Mz 3) (Mz (5 + 2 * num + 1)) k) with
          | nil => rw [hz] at hl; simp at hl; omega
          | cons b l =>
            cases l with
            | nil => rw [hz] at hl; simp at hl; omega
            | cons a t => exact ⟨b, a, t, rfl⟩
        rw [hgk] at hg hl
        have hnext : gst (Mz 3) (Mz (5 + 2 * num + 1)) (k + 1) = jn (-(-42)) a b :: t := by show g1 _ _ _ = _; rw [hx, hgk]; rfl
        rw [hgk]
        simp only [List.length_cons] at hl ⊢
        refine v_ild4 dX1_given_12 ?_
        refine v_ald2 dX1_given_14 ?_
        refine v_geti dX1_given_15 gX1_25 (shT ht) rfl ?_
        refine v_eq (hlen) ?_
        refine v_icmpN_ge (tgt := 154) dX1_given_18 (by decide) (by omega) (by omega) (fun h18 => absurd h18 (by omega)) (fun h18 => ?_)
        refine v_ald2 dX1_given_21 ?_
        refine v_getr dX1_given_22 gX1_29 (shT ht) rfl ?_
        refine v_ild4 dX1_given_25 ?_
        refine v_ialdN dX1_given_27 (shT1 ht) (by omega) (by decide) ?_
        refine v_eq ((congrFun hxc k).trans hx) ?_
        refine v_ist5 dX1_given_28 (by decide) ?_
        refine v_ild5 dX1_given_30 ?_
        refine v_bipush dX1_given_32 rfl ?_
        refine v_icmp_lt (tgt := 74) dX1_given_34 (by decide) (fun h34 => ?_) (fun h34 => absurd h34 (by decide))
        refine v_ild5 dX1_given_74 ?_
        refine v_bipush dX1_given_76 rfl ?_
        refine v_icmp_ne (tgt := 112) dX1_given_78 (by decide) (fun h78 => ?_) (fun h78 => absurd h78 (by decide))
        refine v_ild3 dX1_given_112 ?_
        refine v_iconstN (n := 1) dX1_given_113 ?_
        refine v_icmpN_le (tgt := 148) dX1_given_114 (by decide) (by omega) (by omega) (fun h114 => absurd h114 (by omega)) (fun h114 => ?_)
        refine v_iinc3 dX1_given_117 (by decide) ?_
        refine v_lo (L' := [some (.inr 1), some (.inl (nI num)), some (.inr (5 + 2 * num)), some (.inl (nI (t.length + 1))), some (.inl (nI k)), some (.inl (-42))]) (by rw [show nI (t.length + 1 + 1) + Int32.ofInt (-1) = nI (t.length + 1) from pk_m1 _]) ?_
        refine v_ald0 dX1_given_120 ?_
        refine v_getr dX1_given_121 gX1_21 sh_1 rfl ?_
        refine v_ild3 dX1_given_124 ?_
        refine v_iconstN (n := 1) dX1_given_125 ?_
        refine v_isubN dX1_given_126 (by omega) ?_
        refine v_ild5 dX1_given_127 ?_
        refine v_ineg dX1_given_129 ?_
        refine v_ald0 dX1_given_130 ?_
        refine v_getr dX1_given_131 gX1_21 sh_1 rfl ?_
        refine v_ild3 dX1_given_134 ?_
        refine v_iconstN (n := 1) dX1_given_135 ?_
        refine v_isubN dX1_given_136 (by omega) ?_
        refine v_ialdN dX1_given_137 sh_4 (by omega) (by decide) ?_
        refine v_eq (rp_top (rp_tail hg)) ?_
        refine v_ald0 dX1_given_138 ?_
        refine v_getr dX1_given_139 gX1_21 sh_1 rfl ?_
        refine v_ild3 dX1_given_142 ?_
        refine v_ialdN dX1_given_143 sh_4 (by omega) (by decide) ?_
        refine v_eq (rp_top hg) ?_
        refine v_callSi (kL_joined E (wa Mz 4 g) (x := -42) (by unfold isBin; simp)) dX1_given_144 cX1_32 rfl (by decide) (Nat.le_of_ble_eq_true rfl) rfl (fun r M1z hq => ?_)
        obtain ⟨hr, hm⟩ := hq
        rw [hr, hm]
        clear hr hm
        refine v_iastN dX1_given_147 sh_4 (by omega) (by decide) ?_
        refine v_iincN4 (n := 1) dX1_given_148 (by decide) ?_
        refine v_goto (tgt := 12) dX1_given_151 (by decide) ?_
        refine v_fg5 ?_
        exact v_lo (by rw [hnext]; simp) (ih _ ⟨upd g t.length (jn (-(-42)) a b), by rw [wr_wa]; rfl, by rw [hnext]; exact rp_push _ (rp_tail (rp_tail hg))⟩)
      · obtain ⟨b, a, t, hgk⟩ : ∃ b a t, (gst (Mz 3) (Mz (5 + 2 * num + 1)) k) = b :: a :: t := by
          cases hz : (gst (Mz 3) (Mz (5 + 2 * num + 1)) k) with
          | nil => rw [hz] at hl; simp at hl; omega
          | cons b l =>
            cases l with
            | nil => rw [hz] at hl; simp at hl; omega
            | cons a t => exact ⟨b, a, t, rfl⟩
        rw [hgk] at hg hl
        have hnext : gst (Mz 3) (Mz (5 + 2 * num + 1)) (k + 1) = jn (-(-47)) a b :: t := by show g1 _ _ _ = _; rw [hx, hgk]; rfl
        rw [hgk]
        simp only [List.length_cons] at hl ⊢
        refine v_ild4 dX1_given_12 ?_
        refine v_ald2 dX1_given_14 ?_
        refine v_geti dX1_given_15 gX1_25 (shT ht) rfl ?_
        refine v_eq (hlen) ?_
        refine v_icmpN_ge (tgt := 154) dX1_given_18 (by decide) (by omega) (by omega) (fun h18 => absurd h18 (by omega)) (fun h18 => ?_)
        refine v_ald2 dX1_given_21 ?_
        refine v_getr dX1_given_22 gX1_29 (shT ht) rfl ?_
        refine v_ild4 dX1_given_25 ?_
        refine v_ialdN dX1_given_27 (shT1 ht) (by omega) (by decide) ?_
        refine v_eq ((congrFun hxc k).trans hx) ?_
        refine v_ist5 dX1_given_28 (by decide) ?_
        refine v_ild5 dX1_given_30 ?_
        refine v_bipush dX1_given_32 rfl ?_
        refine v_icmp_lt (tgt := 74) dX1_given_34 (by decide) (fun h34 => ?_) (fun h34 => absurd h34 (by decide))
        refine v_ild5 dX1_given_74 ?_
        refine v_bipush dX1_given_76 rfl ?_
        refine v_icmp_ne (tgt := 112) dX1_given_78 (by decide) (fun h78 => ?_) (fun h78 => absurd h78 (by decide))
        refine v_ild3 dX1_given_112 ?_
        refine v_iconstN (n := 1) dX1_given_113 ?_
        refine v_icmpN_le (tgt := 148) dX1_given_114 (by decide) (by omega) (by omega) (fun h114 => absurd h114 (by omega)) (fun h114 => ?_)
        refine v_iinc3 dX1_given_117 (by decide) ?_
        refine v_lo (L' := [some (.inr 1), some (.inl (nI num)), some (.inr (5 + 2 * num)), some (.inl (nI (t.length + 1))), some (.inl (nI k)), some (.inl (-47))]) (by rw [show nI (t.length + 1 + 1) + Int32.ofInt (-1) = nI (t.length + 1) from pk_m1 _]) ?_
        refine v_ald0 dX1_given_120 ?_
        refine v_getr dX1_given_121 gX1_21 sh_1 rfl ?_
        refine v_ild3 dX1_given_124 ?_
        refine v_iconstN (n := 1) dX1_given_125 ?_
        refine v_isubN dX1_given_126 (by omega) ?_
        refine v_ild5 dX1_given_127 ?_
        refine v_ineg dX1_given_129 ?_
        refine v_ald0 dX1_given_130 ?_
        refine v_getr dX1_given_131 gX1_21 sh_1 rfl ?_
        refine v_ild3 dX1_given_134 ?_
        refine v_iconstN (n := 1) dX1_given_135 ?_
        refine v_isubN dX1_given_136 (by omega) ?_
        refine v_ialdN dX1_given_137 sh_4 (by omega) (by decide) ?_
        refine v_eq (rp_top (rp_tail hg)) ?_
        refine v_ald0 dX1_given_138 ?_
        refine v_getr dX1_given_139 gX1_21 sh_1 rfl ?_
        refine v_ild3 dX1_given_142 ?_
        refine v_ialdN dX1_given_143 sh_4 (by omega) (by decide) ?_
        refine v_eq (rp_top hg) ?_
        refine v_callSi (kL_joined E (wa Mz 4 g) (x := -47) (by unfold isBin; simp)) dX1_given_144 cX1_32 rfl (by decide) (Nat.le_of_ble_eq_true rfl) rfl (fun r M1z hq => ?_)
        obtain ⟨hr, hm⟩ := hq
        rw [hr, hm]
        clear hr hm
        refine v_iastN dX1_given_147 sh_4 (by omega) (by decide) ?_
        refine v_iincN4 (n := 1) dX1_given_148 (by decide) ?_
        refine v_goto (tgt := 12) dX1_given_151 (by decide) ?_
        refine v_fg5 ?_
        exact v_lo (by rw [hnext]; simp) (ih _ ⟨upd g t.length (jn (-(-47)) a b), by rw [wr_wa]; rfl, by rw [hnext]; exact rp_push _ (rp_tail (rp_tail hg))⟩)
      · obtain ⟨b, a, t, hgk⟩ : ∃ b a t, (gst (Mz 3) (Mz (5 + 2 * num + 1)) k) = b :: a :: t := by
          cases hz : (gst (Mz 3) (Mz (5 + 2 * num + 1)) k) with
          | nil => rw [hz] at hl; simp at hl; omega
          | cons b l =>
            cases l with
            | nil => rw [hz] at hl; simp at hl; omega
            | cons a t => exact ⟨b, a, t, rfl⟩
        rw [hgk] at hg hl
        have hnext : gst (Mz 3) (Mz (5 + 2 * num + 1)) (k + 1) = jn (-(-43)) a b :: t := by show g1 _ _ _ = _; rw [hx, hgk]; rfl
        rw [hgk]
        simp only [List.length_cons] at hl ⊢
        refine v_ild4 dX1_given_12 ?_
        refine v_ald2 dX1_given_14 ?_
        refine v_geti dX1_given_15 gX1_25 (shT ht) rfl ?_
        refine v_eq (hlen) ?_
        refine v_icmpN_ge (tgt := 154) dX1_given_18 (by decide) (by omega) (by omega) (fun h18 => absurd h18 (by omega)) (fun h18 => ?_)
        refine v_ald2 dX1_given_21 ?_
        refine v_getr dX1_given_22 gX1_29 (shT ht) rfl ?_
        refine v_ild4 dX1_given_25 ?_
        refine v_ialdN dX1_given_27 (shT1 ht) (by omega) (by decide) ?_
        refine v_eq ((congrFun hxc k).trans hx) ?_
        refine v_ist5 dX1_given_28 (by decide) ?_
        refine v_ild5 dX1_given_30 ?_
        refine v_bipush dX1_given_32 rfl ?_
        refine v_icmp_lt (tgt := 74) dX1_given_34 (by decide) (fun h34 => ?_) (fun h34 => absurd h34 (by decide))
        refine v_ild5 dX1_given_74 ?_
        refine v_bipush dX1_given_76 rfl ?_
        refine v_icmp_ne (tgt := 112) dX1_given_78 (by decide) (fun h78 => ?_) (fun h78 => absurd h78 (by decide))
        refine v_ild3 dX1_given_112 ?_
        refine v_iconstN (n := 1) dX1_given_113 ?_
        refine v_icmpN_le (tgt := 148) dX1_given_114 (by decide) (by omega) (by omega) (fun h114 => absurd h114 (by omega)) (fun h114 => ?_)
        refine v_iinc3 dX1_given_117 (by decide) ?_
        refine v_lo (L' := [some (.inr 1), some (.inl (nI num)), some (.inr (5 + 2 * num)), some (.inl (nI (t.length + 1))), some (.inl (nI k)), some (.inl (-43))]) (by rw [show nI (t.length + 1 + 1) + Int32.ofInt (-1) = nI (t.length + 1) from pk_m1 _]) ?_
        refine v_ald0 dX1_given_120 ?_
        refine v_getr dX1_given_121 gX1_21 sh_1 rfl ?_
        refine v_ild3 dX1_given_124 ?_
        refine v_iconstN (n := 1) dX1_given_125 ?_
        refine v_isubN dX1_given_126 (by omega) ?_
        refine v_ild5 dX1_given_127 ?_
        refine v_ineg dX1_given_129 ?_
        refine v_ald0 dX1_given_130 ?_
        refine v_getr dX1_given_131 gX1_21 sh_1 rfl ?_
        refine v_ild3 dX1_given_134 ?_
        refine v_iconstN (n := 1) dX1_given_135 ?_
        refine v_isubN dX1_given_136 (by omega) ?_
        refine v_ialdN dX1_given_137 sh_4 (by omega) (by decide) ?_
        refine v_eq (rp_top (rp_tail hg)) ?_
        refine v_ald0 dX1_given_138 ?_
        refine v_getr dX1_given_139 gX1_21 sh_1 rfl ?_
        refine v_ild3 dX1_given_142 ?_
        refine v_ialdN dX1_given_143 sh_4 (by omega) (by decide) ?_
        refine v_eq (rp_top hg) ?_
        refine v_callSi (kL_joined E (wa Mz 4 g) (x := -43) (by unfold isBin; simp)) dX1_given_144 cX1_32 rfl (by decide) (Nat.le_of_ble_eq_true rfl) rfl (fun r M1z hq => ?_)
        obtain ⟨hr, hm⟩ := hq
        rw [hr, hm]
        clear hr hm
        refine v_iastN dX1_given_147 sh_4 (by omega) (by decide) ?_
        refine v_iincN4 (n := 1) dX1_given_148 (by decide) ?_
        refine v_goto (tgt := 12) dX1_given_151 (by decide) ?_
        refine v_fg5 ?_
        exact v_lo (by rw [hnext]; simp) (ih _ ⟨upd g t.length (jn (-(-43)) a b), by rw [wr_wa]; rfl, by rw [hnext]; exact rp_push _ (rp_tail (rp_tail hg))⟩)
      · obtain ⟨b, a, t, hgk⟩ : ∃ b a t, (gst (Mz 3) (Mz (5 + 2 * num + 1)) k) = b :: a :: t := by
          cases hz : (gst (Mz 3) (Mz (5 + 2 * num + 1)) k) with
          | nil => rw [hz] at hl; simp at hl; omega
          | cons b l =>
            cases l with
            | nil => rw [hz] at hl; simp at hl; omega
            | cons a t => exact ⟨b, a, t, rfl⟩
        rw [hgk] at hg hl
        have hnext : gst (Mz 3) (Mz (5 + 2 * num + 1)) (k + 1) = jn (-(-45)) a b :: t := by show g1 _ _ _ = _; rw [hx, hgk]; rfl
        rw [hgk]
        simp only [List.length_cons] at hl ⊢
        refine v_ild4 dX1_given_12 ?_
        refine v_ald2 dX1_given_14 ?_
        refine v_geti dX1_given_15 gX1_25 (shT ht) rfl ?_
        refine v_eq (hlen) ?_
        refine v_icmpN_ge (tgt := 154) dX1_given_18 (by decide) (by omega) (by omega) (fun h18 => absurd h18 (by omega)) (fun h18 => ?_)
        refine v_ald2 dX1_given_21 ?_
        refine v_getr dX1_given_22 gX1_29 (shT ht) rfl ?_
        refine v_ild4 dX1_given_25 ?_
        refine v_ialdN dX1_given_27 (shT1 ht) (by omega) (by decide) ?_
        refine v_eq ((congrFun hxc k).trans hx) ?_
        refine v_ist5 dX1_given_28 (by decide) ?_
        refine v_ild5 dX1_given_30 ?_
        refine v_bipush dX1_given_32 rfl ?_
        refine v_icmp_lt (tgt := 74) dX1_given_34 (by decide) (fun h34 => ?_) (fun h34 => absurd h34 (by decide))
        refine v_ild5 dX1_given_74 ?_
        refine v_bipush dX1_given_76 rfl ?_
        refine v_icmp_ne (tgt := 112) dX1_given_78 (by decide) (fun h78 => ?_) (fun h78 => absurd h78 (by decide))
        refine v_ild3 dX1_given_112 ?_
        refine v_iconstN (n := 1) dX1_given_113 ?_
        refine v_icmpN_le (tgt := 148) dX1_given_114 (by decide) (by omega) (by omega) (fun h114 => absurd h114 (by omega)) (fun h114 => ?_)
        refine v_iinc3 dX1_given_117 (by decide) ?_
        refine v_lo (L' := [some (.inr 1), some (.inl (nI num)), some (.inr (5 + 2 * num)), some (.inl (nI (t.length + 1))), some (.inl (nI k)), some (.inl (-45))]) (by rw [show nI (t.length + 1 + 1) + Int32.ofInt (-1) = nI (t.length + 1) from pk_m1 _]) ?_
        refine v_ald0 dX1_given_120 ?_
        refine v_getr dX1_given_121 gX1_21 sh_1 rfl ?_
        refine v_ild3 dX1_given_124 ?_
        refine v_iconstN (n := 1) dX1_given_125 ?_
        refine v_isubN dX1_given_126 (by omega) ?_
        refine v_ild5 dX1_given_127 ?_
        refine v_ineg dX1_given_129 ?_
        refine v_ald0 dX1_given_130 ?_
        refine v_getr dX1_given_131 gX1_21 sh_1 rfl ?_
        refine v_ild3 dX1_given_134 ?_
        refine v_iconstN (n := 1) dX1_given_135 ?_
        refine v_isubN dX1_given_136 (by omega) ?_
        refine v_ialdN dX1_given_137 sh_4 (by omega) (by decide) ?_
        refine v_eq (rp_top (rp_tail hg)) ?_
        refine v_ald0 dX1_given_138 ?_
        refine v_getr dX1_given_139 gX1_21 sh_1 rfl ?_
        refine v_ild3 dX1_given_142 ?_
        refine v_ialdN dX1_given_143 sh_4 (by omega) (by decide) ?_
        refine v_eq (rp_top hg) ?_
        refine v_callSi (kL_joined E (wa Mz 4 g) (x := -45) (by unfold isBin; simp)) dX1_given_144 cX1_32 rfl (by decide) (Nat.le_of_ble_eq_true rfl) rfl (fun r M1z hq => ?_)
        obtain ⟨hr, hm⟩ := hq
        rw [hr, hm]
        clear hr hm
        refine v_iastN dX1_given_147 sh_4 (by omega) (by decide) ?_
        refine v_iincN4 (n := 1) dX1_given_148 (by decide) ?_
        refine v_goto (tgt := 12) dX1_given_151 (by decide) ?_
        refine v_fg5 ?_
        exact v_lo (by rw [hnext]; simp) (ih _ ⟨upd g t.length (jn (-(-45)) a b), by rw [wr_wa]; rfl, by rw [hnext]; exact rp_push _ (rp_tail (rp_tail hg))⟩)
      · obtain ⟨b, a, t, hgk⟩ : ∃ b a t, (gst (Mz 3) (Mz (5 + 2 * num + 1)) k) = b :: a :: t := by
          cases hz : (gst (Mz 3) (Mz (5 + 2 * num + 1)) k) with
          | nil => rw [hz] at hl; simp at hl; omega
          | cons b l =>
            cases l with
            | nil => rw [hz] at hl; simp at hl; omega
            | cons a t => exact ⟨b, a, t, rfl⟩
        rw [hgk] at hg hl
        have hnext : gst (Mz 3) (Mz (5 + 2 * num + 1)) (k + 1) = jn (-(-60)) a b :: t := by show g1 _ _ _ = _; rw [hx, hgk]; rfl
        rw [hgk]
        simp only [List.length_cons] at hl ⊢
        refine v_ild4 dX1_given_12 ?_
        refine v_ald2 dX1_given_14 ?_
        refine v_geti dX1_given_15 gX1_25 (shT ht) rfl ?_
        refine v_eq (hlen) ?_
        refine v_icmpN_ge (tgt := 154) dX1_given_18 (by decide) (by omega) (by omega) (fun h18 => absurd h18 (by omega)) (fun h18 => ?_)
        refine v_ald2 dX1_given_21 ?_
        refine v_getr dX1_given_22 gX1_29 (shT ht) rfl ?_
        refine v_ild4 dX1_given_25 ?_
        refine v_ialdN dX1_given_27 (shT1 ht) (by omega) (by decide) ?_
        refine v_eq ((congrFun hxc k).trans hx) ?_
        refine v_ist5 dX1_given_28 (by decide) ?_
        refine v_ild5 dX1_given_30 ?_
        refine v_bipush dX1_given_32 rfl ?_
        refine v_icmp_lt (tgt := 74) dX1_given_34 (by decide) (fun h34 => ?_) (fun h34 => absurd h34 (by decide))
        refine v_ild5 dX1_given_74 ?_
        refine v_bipush dX1_given_76 rfl ?_
        refine v_icmp_ne (tgt := 112) dX1_given_78 (by decide) (fun h78 => ?_) (fun h78 => absurd h78 (by decide))
        refine v_ild3 dX1_given_112 ?_
        refine v_iconstN (n := 1) dX1_given_113 ?_
        refine v_icmpN_le (tgt := 148) dX1_given_114 (by decide) (by omega) (by omega) (fun h114 => absurd h114 (by omega)) (fun h114 => ?_)
        refine v_iinc3 dX1_given_117 (by decide) ?_
        refine v_lo (L' := [some (.inr 1), some (.inl (nI num)), some (.inr (5 + 2 * num)), some (.inl (nI (t.length + 1))), some (.inl (nI k)), some (.inl (-60))]) (by rw [show nI (t.length + 1 + 1) + Int32.ofInt (-1) = nI (t.length + 1) from pk_m1 _]) ?_
        refine v_ald0 dX1_given_120 ?_
        refine v_getr dX1_given_121 gX1_21 sh_1 rfl ?_
        refine v_ild3 dX1_given_124 ?_
        refine v_iconstN (n := 1) dX1_given_125 ?_
        refine v_isubN dX1_given_126 (by omega) ?_
        refine v_ild5 dX1_given_127 ?_
        refine v_ineg dX1_given_129 ?_
        refine v_ald0 dX1_given_130 ?_
        refine v_getr dX1_given_131 gX1_21 sh_1 rfl ?_
        refine v_ild3 dX1_given_134 ?_
        refine v_iconstN (n := 1) dX1_given_135 ?_
        refine v_isubN dX1_given_136 (by omega) ?_
        refine v_ialdN dX1_given_137 sh_4 (by omega) (by decide) ?_
        refine v_eq (rp_top (rp_tail hg)) ?_
        refine v_ald0 dX1_given_138 ?_
        refine v_getr dX1_given_139 gX1_21 sh_1 rfl ?_
        refine v_ild3 dX1_given_142 ?_
        refine v_ialdN dX1_given_143 sh_4 (by omega) (by decide) ?_
        refine v_eq (rp_top hg) ?_
        refine v_callSi (kL_joined E (wa Mz 4 g) (x := -60) (by unfold isBin; simp)) dX1_given_144 cX1_32 rfl (by decide) (Nat.le_of_ble_eq_true rfl) rfl (fun r M1z hq => ?_)
        obtain ⟨hr, hm⟩ := hq
        rw [hr, hm]
        clear hr hm
        refine v_iastN dX1_given_147 sh_4 (by omega) (by decide) ?_
        refine v_iincN4 (n := 1) dX1_given_148 (by decide) ?_
        refine v_goto (tgt := 12) dX1_given_151 (by decide) ?_
        refine v_fg5 ?_
        exact v_lo (by rw [hnext]; simp) (ih _ ⟨upd g t.length (jn (-(-60)) a b), by rw [wr_wa]; rfl, by rw [hnext]; exact rp_push _ (rp_tail (rp_tail hg))⟩)
      · obtain ⟨b, a, t, hgk⟩ : ∃ b a t, (gst (Mz 3) (Mz (5 + 2 * num + 1)) k) = b :: a :: t := by
          cases hz : (gst (Mz 3) (Mz (5 + 2 * num + 1)) k) with
          | nil => rw [hz] at hl; simp at hl; omega
          | cons b l =>
            cases l with
            | nil => rw [hz] at hl; simp at hl; omega
            | cons a t => exact ⟨b, a, t, rfl⟩
        rw [hgk] at hg hl
        have hnext : gst (Mz 3) (Mz (5 + 2 * num + 1)) (k + 1) = jn (-(-61)) a b :: t := by show g1 _ _ _ = _; rw [hx, hgk]; rfl
        rw [hgk]
        simp only [List.length_cons] at hl ⊢
        refine v_ild4 dX1_given_12 ?_
        refine v_ald2 dX1_given_14 ?_
        refine v_geti dX1_given_15 gX1_25 (shT ht) rfl ?_
        refine v_eq (hlen) ?_
        refine v_icmpN_ge (tgt := 154) dX1_given_18 (by decide) (by omega) (by omega) (fun h18 => absurd h18 (by omega)) (fun h18 => ?_)
        refine v_ald2 dX1_given_21 ?_
        refine v_getr dX1_given_22 gX1_29 (shT ht) rfl ?_
        refine v_ild4 dX1_given_25 ?_
        refine v_ialdN dX1_given_27 (shT1 ht) (by omega) (by decide) ?_
        refine v_eq ((congrFun hxc k).trans hx) ?_
        refine v_ist5 dX1_given_28 (by decide) ?_
        refine v_ild5 dX1_given_30 ?_
        refine v_bipush dX1_given_32 rfl ?_
        refine v_icmp_lt (tgt := 74) dX1_given_34 (by decide) (fun h34 => ?_) (fun h34 => absurd h34 (by decide))
        refine v_ild5 dX1_given_74 ?_
        refine v_bipush dX1_given_76 rfl ?_
        refine v_icmp_ne (tgt := 112) dX1_given_78 (by decide) (fun h78 => ?_) (fun h78 => absurd h78 (by decide))
        refine v_ild3 dX1_given_112 ?_
        refine v_iconstN (n := 1) dX1_given_113 ?_
        refine v_icmpN_le (tgt := 148) dX1_given_114 (by decide) (by omega) (by omega) (fun h114 => absurd h114 (by omega)) (fun h114 => ?_)
        refine v_iinc3 dX1_given_117 (by decide) ?_
        refine v_lo (L' := [some (.inr 1), some (.inl (nI num)), some (.inr (5 + 2 * num)), some (.inl (nI (t.length + 1))), some (.inl (nI k)), some (.inl (-61))]) (by rw [show nI (t.length + 1 + 1) + Int32.ofInt (-1) = nI (t.length + 1) from pk_m1 _]) ?_
        refine v_ald0 dX1_given_120 ?_
        refine v_getr dX1_given_121 gX1_21 sh_1 rfl ?_
        refine v_ild3 dX1_given_124 ?_
        refine v_iconstN (n := 1) dX1_given_125 ?_
        refine v_isubN dX1_given_126 (by omega) ?_
        refine v_ild5 dX1_given_127 ?_
        refine v_ineg dX1_given_129 ?_
        refine v_ald0 dX1_given_130 ?_
        refine v_getr dX1_given_131 gX1_21 sh_1 rfl ?_
        refine v_ild3 dX1_given_134 ?_
        refine v_iconstN (n := 1) dX1_given_135 ?_
        refine v_isubN dX1_given_136 (by omega) ?_
        refine v_ialdN dX1_given_137 sh_4 (by omega) (by decide) ?_
        refine v_eq (rp_top (rp_tail hg)) ?_
        refine v_ald0 dX1_given_138 ?_
        refine v_getr dX1_given_139 gX1_21 sh_1 rfl ?_
        refine v_ild3 dX1_given_142 ?_
        refine v_ialdN dX1_given_143 sh_4 (by omega) (by decide) ?_
        refine v_eq (rp_top hg) ?_
        refine v_callSi (kL_joined E (wa Mz 4 g) (x := -61) (by unfold isBin; simp)) dX1_given_144 cX1_32 rfl (by decide) (Nat.le_of_ble_eq_true rfl) rfl (fun r M1z hq => ?_)
        obtain ⟨hr, hm⟩ := hq
        rw [hr, hm]
        clear hr hm
        refine v_iastN dX1_given_147 sh_4 (by omega) (by decide) ?_
        refine v_iincN4 (n := 1) dX1_given_148 (by decide) ?_
        refine v_goto (tgt := 12) dX1_given_151 (by decide) ?_
        refine v_fg5 ?_
        exact v_lo (by rw [hnext]; simp) (ih _ ⟨upd g t.length (jn (-(-61)) a b), by rw [wr_wa]; rfl, by rw [hnext]; exact rp_push _ (rp_tail (rp_tail hg))⟩)
      · obtain ⟨b, a, t, hgk⟩ : ∃ b a t, (gst (Mz 3) (Mz (5 + 2 * num + 1)) k) = b :: a :: t := by
          cases hz : (gst (Mz 3) (Mz (5 + 2 * num + 1)) k) with
          | nil => rw [hz] at hl; simp at hl; omega
          | cons b l =>
            cases l with
            | nil => rw [hz] at hl; simp at hl; omega
            | cons a t => exact ⟨b, a, t, rfl⟩
        rw [hgk] at hg hl
        have hnext : gst (Mz 3) (Mz (5 + 2 * num + 1)) (k + 1) = jn (-(-62)) a b :: t := by show g1 _ _ _ = _; rw [hx, hgk]; rfl
        rw [hgk]
        simp only [List.length_cons] at hl ⊢
        refine v_ild4 dX1_given_12 ?_
        refine v_ald2 dX1_given_14 ?_
        refine v_geti dX1_given_15 gX1_25 (shT ht) rfl ?_
        refine v_eq (hlen) ?_
        refine v_icmpN_ge (tgt := 154) dX1_given_18 (by decide) (by omega) (by omega) (fun h18 => absurd h18 (by omega)) (fun h18 => ?_)
        refine v_ald2 dX1_given_21 ?_
        refine v_getr dX1_given_22 gX1_29 (shT ht) rfl ?_
        refine v_ild4 dX1_given_25 ?_
        refine v_ialdN dX1_given_27 (shT1 ht) (by omega) (by decide) ?_
        refine v_eq ((congrFun hxc k).trans hx) ?_
        refine v_ist5 dX1_given_28 (by decide) ?_
        refine v_ild5 dX1_given_30 ?_
        refine v_bipush dX1_given_32 rfl ?_
        refine v_icmp_lt (tgt := 74) dX1_given_34 (by decide) (fun h34 => ?_) (fun h34 => absurd h34 (by decide))
        refine v_ild5 dX1_given_74 ?_
        refine v_bipush dX1_given_76 rfl ?_
        refine v_icmp_ne (tgt := 112) dX1_given_78 (by decide) (fun h78 => ?_) (fun h78 => absurd h78 (by decide))
        refine v_ild3 dX1_given_112 ?_
        refine v_iconstN (n := 1) dX1_given_113 ?_
        refine v_icmpN_le (tgt := 148) dX1_given_114 (by decide) (by omega) (by omega) (fun h114 => absurd h114 (by omega)) (fun h114 => ?_)
        refine v_iinc3 dX1_given_117 (by decide) ?_
        refine v_lo (L' := [some (.inr 1), some (.inl (nI num)), some (.inr (5 + 2 * num)), some (.inl (nI (t.length + 1))), some (.inl (nI k)), some (.inl (-62))]) (by rw [show nI (t.length + 1 + 1) + Int32.ofInt (-1) = nI (t.length + 1) from pk_m1 _]) ?_
        refine v_ald0 dX1_given_120 ?_
        refine v_getr dX1_given_121 gX1_21 sh_1 rfl ?_
        refine v_ild3 dX1_given_124 ?_
        refine v_iconstN (n := 1) dX1_given_125 ?_
        refine v_isubN dX1_given_126 (by omega) ?_
        refine v_ild5 dX1_given_127 ?_
        refine v_ineg dX1_given_129 ?_
        refine v_ald0 dX1_given_130 ?_
        refine v_getr dX1_given_131 gX1_21 sh_1 rfl ?_
        refine v_ild3 dX1_given_134 ?_
        refine v_iconstN (n := 1) dX1_given_135 ?_
        refine v_isubN dX1_given_136 (by omega) ?_
        refine v_ialdN dX1_given_137 sh_4 (by omega) (by decide) ?_
        refine v_eq (rp_top (rp_tail hg)) ?_
        refine v_ald0 dX1_given_138 ?_
        refine v_getr dX1_given_139 gX1_21 sh_1 rfl ?_
        refine v_ild3 dX1_given_142 ?_
        refine v_ialdN dX1_given_143 sh_4 (by omega) (by decide) ?_
        refine v_eq (rp_top hg) ?_
        refine v_callSi (kL_joined E (wa Mz 4 g) (x := -62) (by unfold isBin; simp)) dX1_given_144 cX1_32 rfl (by decide) (Nat.le_of_ble_eq_true rfl) rfl (fun r M1z hq => ?_)
        obtain ⟨hr, hm⟩ := hq
        rw [hr, hm]
        clear hr hm
        refine v_iastN dX1_given_147 sh_4 (by omega) (by decide) ?_
        refine v_iincN4 (n := 1) dX1_given_148 (by decide) ?_
        refine v_goto (tgt := 12) dX1_given_151 (by decide) ?_
        refine v_fg5 ?_
        exact v_lo (by rw [hnext]; simp) (ih _ ⟨upd g t.length (jn (-(-62)) a b), by rw [wr_wa]; rfl, by rw [hnext]; exact rp_push _ (rp_tail (rp_tail hg))⟩)
      · obtain ⟨b, a, t, hgk⟩ : ∃ b a t, (gst (Mz 3) (Mz (5 + 2 * num + 1)) k) = b :: a :: t := by
          cases hz : (gst (Mz 3) (Mz (5 + 2 * num + 1)) k) with
          | nil => rw [hz] at hl; simp at hl; omega
          | cons b l =>
            cases l with
            | nil => rw [hz] at hl; simp at hl; omega
            | cons a t => exact ⟨b, a, t, rfl⟩
        rw [hgk] at hg hl
        have hnext : gst (Mz 3) (Mz (5 + 2 * num + 1)) (k + 1) = jn (-(-38)) a b :: t := by show g1 _ _ _ = _; rw [hx, hgk]; rfl
        rw [hgk]
        simp only [List.length_cons] at hl ⊢
        refine v_ild4 dX1_given_12 ?_
        refine v_ald2 dX1_given_14 ?_
        refine v_geti dX1_given_15 gX1_25 (shT ht) rfl ?_
        refine v_eq (hlen) ?_
        refine v_icmpN_ge (tgt := 154) dX1_given_18 (by decide) (by omega) (by omega) (fun h18 => absurd h18 (by omega)) (fun h18 => ?_)
        refine v_ald2 dX1_given_21 ?_
        refine v_getr dX1_given_22 gX1_29 (shT ht) rfl ?_
        refine v_ild4 dX1_given_25 ?_
        refine v_ialdN dX1_given_27 (shT1 ht) (by omega) (by decide) ?_
        refine v_eq ((congrFun hxc k).trans hx) ?_
        refine v_ist5 dX1_given_28 (by decide) ?_
        refine v_ild5 dX1_given_30 ?_
        refine v_bipush dX1_given_32 rfl ?_
        refine v_icmp_lt (tgt := 74) dX1_given_34 (by decide) (fun h34 => ?_) (fun h34 => absurd h34 (by decide))
        refine v_ild5 dX1_given_74 ?_
        refine v_bipush dX1_given_76 rfl ?_
        refine v_icmp_ne (tgt := 112) dX1_given_78 (by decide) (fun h78 => ?_) (fun h78 => absurd h78 (by decide))
        refine v_ild3 dX1_given_112 ?_
        refine v_iconstN (n := 1) dX1_given_113 ?_
        refine v_icmpN_le (tgt := 148) dX1_given_114 (by decide) (by omega) (by omega) (fun h114 => absurd h114 (by omega)) (fun h114 => ?_)
        refine v_iinc3 dX1_given_117 (by decide) ?_
        refine v_lo (L' := [some (.inr 1), some (.inl (nI num)), some (.inr (5 + 2 * num)), some (.inl (nI (t.length + 1))), some (.inl (nI k)), some (.inl (-38))]) (by rw [show nI (t.length + 1 + 1) + Int32.ofInt (-1) = nI (t.length + 1) from pk_m1 _]) ?_
        refine v_ald0 dX1_given_120 ?_
        refine v_getr dX1_given_121 gX1_21 sh_1 rfl ?_
        refine v_ild3 dX1_given_124 ?_
        refine v_iconstN (n := 1) dX1_given_125 ?_
        refine v_isubN dX1_given_126 (by omega) ?_
        refine v_ild5 dX1_given_127 ?_
        refine v_ineg dX1_given_129 ?_
        refine v_ald0 dX1_given_130 ?_
        refine v_getr dX1_given_131 gX1_21 sh_1 rfl ?_
        refine v_ild3 dX1_given_134 ?_
        refine v_iconstN (n := 1) dX1_given_135 ?_
        refine v_isubN dX1_given_136 (by omega) ?_
        refine v_ialdN dX1_given_137 sh_4 (by omega) (by decide) ?_
        refine v_eq (rp_top (rp_tail hg)) ?_
        refine v_ald0 dX1_given_138 ?_
        refine v_getr dX1_given_139 gX1_21 sh_1 rfl ?_
        refine v_ild3 dX1_given_142 ?_
        refine v_ialdN dX1_given_143 sh_4 (by omega) (by decide) ?_
        refine v_eq (rp_top hg) ?_
        refine v_callSi (kL_joined E (wa Mz 4 g) (x := -38) (by unfold isBin; simp)) dX1_given_144 cX1_32 rfl (by decide) (Nat.le_of_ble_eq_true rfl) rfl (fun r M1z hq => ?_)
        obtain ⟨hr, hm⟩ := hq
        rw [hr, hm]
        clear hr hm
        refine v_iastN dX1_given_147 sh_4 (by omega) (by decide) ?_
        refine v_iincN4 (n := 1) dX1_given_148 (by decide) ?_
        refine v_goto (tgt := 12) dX1_given_151 (by decide) ?_
        refine v_fg5 ?_
        exact v_lo (by rw [hnext]; simp) (ih _ ⟨upd g t.length (jn (-(-38)) a b), by rw [wr_wa]; rfl, by rw [hnext]; exact rp_push _ (rp_tail (rp_tail hg))⟩)
      · obtain ⟨b, a, t, hgk⟩ : ∃ b a t, (gst (Mz 3) (Mz (5 + 2 * num + 1)) k) = b :: a :: t := by
          cases hz : (gst (Mz 3) (Mz (5 + 2 * num + 1)) k) with
          | nil => rw [hz] at hl; simp at hl; omega
          | cons b l =>
            cases l with
            | nil => rw [hz] at hl; simp at hl; omega
            | cons a t => exact ⟨b, a, t, rfl⟩
        rw [hgk] at hg hl
        have hnext : gst (Mz 3) (Mz (5 + 2 * num + 1)) (k + 1) = jn (-(-124)) a b :: t := by show g1 _ _ _ = _; rw [hx, hgk]; rfl
        rw [hgk]
        simp only [List.length_cons] at hl ⊢
        refine v_ild4 dX1_given_12 ?_
        refine v_ald2 dX1_given_14 ?_
        refine v_geti dX1_given_15 gX1_25 (shT ht) rfl ?_
        refine v_eq (hlen) ?_
        refine v_icmpN_ge (tgt := 154) dX1_given_18 (by decide) (by omega) (by omega) (fun h18 => absurd h18 (by omega)) (fun h18 => ?_)
        refine v_ald2 dX1_given_21 ?_
        refine v_getr dX1_given_22 gX1_29 (shT ht) rfl ?_
        refine v_ild4 dX1_given_25 ?_
        refine v_ialdN dX1_given_27 (shT1 ht) (by omega) (by decide) ?_
        refine v_eq ((congrFun hxc k).trans hx) ?_
        refine v_ist5 dX1_given_28 (by decide) ?_
        refine v_ild5 dX1_given_30 ?_
        refine v_bipush dX1_given_32 rfl ?_
        refine v_icmp_lt (tgt := 74) dX1_given_34 (by decide) (fun h34 => ?_) (fun h34 => absurd h34 (by decide))
        refine v_ild5 dX1_given_74 ?_
        refine v_bipush dX1_given_76 rfl ?_
        refine v_icmp_ne (tgt := 112) dX1_given_78 (by decide) (fun h78 => ?_) (fun h78 => absurd h78 (by decide))
        refine v_ild3 dX1_given_112 ?_
        refine v_iconstN (n := 1) dX1_given_113 ?_
        refine v_icmpN_le (tgt := 148) dX1_given_114 (by decide) (by omega) (by omega) (fun h114 => absurd h114 (by omega)) (fun h114 => ?_)
        refine v_iinc3 dX1_given_117 (by decide) ?_
        refine v_lo (L' := [some (.inr 1), some (.inl (nI num)), some (.inr (5 + 2 * num)), some (.inl (nI (t.length + 1))), some (.inl (nI k)), some (.inl (-124))]) (by rw [show nI (t.length + 1 + 1) + Int32.ofInt (-1) = nI (t.length + 1) from pk_m1 _]) ?_
        refine v_ald0 dX1_given_120 ?_
        refine v_getr dX1_given_121 gX1_21 sh_1 rfl ?_
        refine v_ild3 dX1_given_124 ?_
        refine v_iconstN (n := 1) dX1_given_125 ?_
        refine v_isubN dX1_given_126 (by omega) ?_
        refine v_ild5 dX1_given_127 ?_
        refine v_ineg dX1_given_129 ?_
        refine v_ald0 dX1_given_130 ?_
        refine v_getr dX1_given_131 gX1_21 sh_1 rfl ?_
        refine v_ild3 dX1_given_134 ?_
        refine v_iconstN (n := 1) dX1_given_135 ?_
        refine v_isubN dX1_given_136 (by omega) ?_
        refine v_ialdN dX1_given_137 sh_4 (by omega) (by decide) ?_
        refine v_eq (rp_top (rp_tail hg)) ?_
        refine v_ald0 dX1_given_138 ?_
        refine v_getr dX1_given_139 gX1_21 sh_1 rfl ?_
        refine v_ild3 dX1_given_142 ?_
        refine v_ialdN dX1_given_143 sh_4 (by omega) (by decide) ?_
        refine v_eq (rp_top hg) ?_
        refine v_callSi (kL_joined E (wa Mz 4 g) (x := -124) (by unfold isBin; simp)) dX1_given_144 cX1_32 rfl (by decide) (Nat.le_of_ble_eq_true rfl) rfl (fun r M1z hq => ?_)
        obtain ⟨hr, hm⟩ := hq
        rw [hr, hm]
        clear hr hm
        refine v_iastN dX1_given_147 sh_4 (by omega) (by decide) ?_
        refine v_iincN4 (n := 1) dX1_given_148 (by decide) ?_
        refine v_goto (tgt := 12) dX1_given_151 (by decide) ?_
        refine v_fg5 ?_
        exact v_lo (by rw [hnext]; simp) (ih _ ⟨upd g t.length (jn (-(-124)) a b), by rw [wr_wa]; rfl, by rw [hnext]; exact rp_push _ (rp_tail (rp_tail hg))⟩)
  · obtain ⟨g, rfl, hg⟩ := hM
    have hl := gst_len (Mz 3) (Mz (5 + 2 * num + 1)) hw n (Nat.le_refl _)
    have hlen : (wa Mz 4 g) (5 + 2 * num) 2 = nI n := by rw [wa_ne (by omega)]; exact hn
    have hn96 := hw.2.1
    have hh1 := hw.2.2.1
    have hne : gst (Mz 3) (Mz (5 + 2 * num + 1)) n ≠ [] := by intro e; rw [e] at hl; simp at hl; omega
    have hnn := htK_le (Mz (5 + 2 * num + 1)) n
    refine v_ild4 dX1_given_12 ?_
    refine v_ald2 dX1_given_14 ?_
    refine v_geti dX1_given_15 gX1_25 (shT ht) rfl ?_
    refine v_eq (hlen) ?_
    refine v_icmpN_ge (tgt := 154) dX1_given_18 (by decide) (by omega) (by omega) (fun h18 => ?_) (fun h18 => absurd h18 (by omega))
    refine v_ild3 dX1_given_154 ?_
    refine v_if_le (tgt := 167) dX1_given_155 (by decide) (fun h155 => absurd h155 (nI_nle (by omega) (by omega))) (fun h155 => ?_)
    refine v_ald0 dX1_given_158 ?_
    refine v_getr dX1_given_159 gX1_21 sh_1 rfl ?_
    refine v_iconstN (n := 0) dX1_given_162 ?_
    refine v_ialdN dX1_given_163 sh_4 (by omega) (by decide) ?_
    refine v_goto (tgt := 168) dX1_given_164 (by decide) ?_
    exact v_iret dX1_given_168 rfl (⟨rp_bot hg hne, g, rfl⟩)
