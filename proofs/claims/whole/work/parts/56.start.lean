/-! the law's start: what the Statement gives -/
theorem lt_tb {w : Cond} (i : Nat) (h : tables_1[i]? = some w) : w ∈ lw_tbl := List.mem_append_right _ (List.mem_of_getElem? h)
abbrev flt0 : List Cond := flatC (Jvm.Cond.and given_1 narrow_1)
def nmS (i : Nat) : Nat := ([87, 93, 95, 131, 133, 135] : List Nat).getD i 0
abbrev tmS (i : Nat) : Term := .string "HearsaySeeds$Reader" (nmS i)
abbrev tvS (i : Nat) : Term := .field (tmS i) "java/lang/String" "value" "[B"
theorem fm_W : ∀ j : Fin 6, Cond.eq (.elem (.static "HearsaySeeds" "WEIGHS" "[I") (.int (Int32.ofNat j.val))) (.int (tabW j.val)) ∈ flt0 := by decide +kernel
theorem fm_A : ∀ j : Fin 6, Cond.eq (.elem (.static "HearsaySeeds" "ABOVE" "[I") (.int (Int32.ofNat j.val))) (.int (tabA j.val)) ∈ flt0 := by decide +kernel
theorem fm_W1 : Cond.arrayOf (.static "HearsaySeeds" "WEIGHS" "[I") .int ∈ flt0 ∧ Cond.eq (.length (.static "HearsaySeeds" "WEIGHS" "[I")) (.int (Int32.ofNat 6)) ∈ flt0 := by decide +kernel
theorem fm_A1 : Cond.arrayOf (.static "HearsaySeeds" "ABOVE" "[I") .int ∈ flt0 ∧ Cond.eq (.length (.static "HearsaySeeds" "ABOVE" "[I")) (.int (Int32.ofNat 6)) ∈ flt0 := by decide +kernel
theorem fm_C : Cond.eq (.static "java/lang/String" "COMPACT_STRINGS" "Z") (.int 1) ∈ flt0 ∧ Cond.isRef (.static "jdk/internal/util/Preconditions" "SIOOBE_FORMATTER" "Ljava/util/function/BiFunction;") ∈ flt0 := by decide +kernel
theorem fm_S : ∀ i : Fin 6, Cond.exactly (tmS i.val) "java/lang/String" ∈ flt0 ∧ Cond.eq (.field (tmS i.val) "java/lang/String" "coder" "B") (.int 0) ∈ flt0 ∧ Cond.arrayOf (tvS i.val) .byte ∈ flt0 ∧ Cond.eq (.length (tvS i.val)) (.int (Int32.ofNat (lenS.getD i.val 0))) ∈ flt0 := by decide +kernel
theorem fm_E : ∀ i : Fin 6, ∀ j : Fin 6, j.val < lenS.getD i.val 0 → Cond.eq (.elem (tvS i.val) (.int (Int32.ofNat j.val))) (.int ((bytS.getD i.val []).getD j.val 0)) ∈ flt0 := by decide +kernel
theorem fm_N : ∀ i : Fin 6, ∀ j : Fin 6, i ≠ j → (Cond.not (Cond.eq (tmS i.val) (tmS j.val)) ∈ flt0 ∨ Cond.not (Cond.eq (tmS j.val) (tmS i.val)) ∈ flt0) := by decide +kernel
theorem ln_6 : ∀ i : Fin 6, lenS.getD i.val 0 ≤ 6 := by decide

set_option maxRecDepth 100000 in
theorem st_K {s : State} {args : Array Value} (hgw : ∀ w ∈ gw, w.before args s = true) : ∃ D : va_G, ∀ (k : Nat) (q : vw_C), vwCl[k]? = some q → u_Kn s q.1 q.2.1 q.2.2 (D.1 k) (D.2 k) := by
  obtain ⟨c0, j0, h0⟩ := u_known (C := RX0) (T := TX0) (N := 16) (n := 16) hgw iX0 (hgw (.instantiable RX0 16) (gw_tb 116 rfl rfl))
  obtain ⟨c1, j1, h1⟩ := u_known (C := RX1) (T := TX1) (N := 3) (n := 3) hgw iX1 (hgw (.instantiable RX1 3) (gw_tb 26 rfl rfl))
  obtain ⟨c2, j2, h2⟩ := u_known (C := RX2) (T := TX2) (N := 11) (n := 11) hgw iX2 (hgw (.instantiable RX2 11) (gw_tb 71 rfl rfl))
  obtain ⟨c3, j3, h3⟩ := u_known (C := RX3) (T := TX3) (N := 3) (n := 3) hgw iX3 (hgw (.instantiable RX3 3) (gw_tb 186 rfl rfl))
  obtain ⟨c4, j4, h4⟩ := u_known (C := RX4) (T := TX4) (N := 4) (n := 4) hgw iX4 (hgw (.instantiable RX4 4) (gw_tb 206 rfl rfl))
  obtain ⟨c5, j5, h5⟩ := u_known (C := RX5) (T := TX5) (N := 4) (n := 4) hgw iX5 (hgw (.instantiable RX5 4) (gw_tb 33 rfl rfl))
  obtain ⟨c6, j6, h6⟩ := u_known (C := RX6) (T := TX6) (N := 11) (n := 11) hgw iX6 (hgw (.instantiable RX6 11) (gw_tb 18 rfl rfl))
  obtain ⟨c7, j7, h7⟩ := u_known (C := RX7) (T := TX7) (N := 33) (n := 33) hgw iX7 (hgw (.instantiable RX7 33) (gw_tb 839 rfl rfl))
  refine ⟨(fun k => if k = 0 then c0 else if k = 1 then c1 else if k = 2 then c2 else if k = 3 then c3 else if k = 4 then c4 else if k = 5 then c5 else if k = 6 then c6 else c7, fun k => if k = 0 then j0 else if k = 1 then j1 else if k = 2 then j2 else if k = 3 then j3 else if k = 4 then j4 else if k = 5 then j5 else if k = 6 then j6 else j7), fun k q hq => ?_⟩
  match k, hq with
  | 0, hq => cases hq; exact h0
  | 1, hq => cases hq; exact h1
  | 2, hq => cases hq; exact h2
  | 3, hq => cases hq; exact h3
  | 4, hq => cases hq; exact h4
  | 5, hq => cases hq; exact h5
  | 6, hq => cases hq; exact h6
  | 7, hq => cases hq; exact h7
  | k + 8, hq => simp [vwCl] at hq
set_option maxRecDepth 100000 in
theorem st_T {s : State} {args : Array Value} (hgw : ∀ w ∈ gw, w.before args s = true) (hts : ∀ w ∈ lw_tbl, w.before args s = true) : ∃ cA : Nat → ClassId, ∀ (t : Nat) (ty : FieldType), aty[t]? = some ty → ArrOfT s (cA t) ty ∧ va_RA s (cA t) ty := by
  obtain ⟨c0, k0, m0, a0, b0, e0⟩ := Cond.arrayClass_spec (args := args) (first := s) (o := none) (s := s) (idx := []) (hgw _ gA_int)
  obtain ⟨c1, k1, m1, a1, b1, e1⟩ := Cond.arrayClass_spec (args := args) (first := s) (o := none) (s := s) (idx := []) (hgw _ gA_byte)
  obtain ⟨c2, k2, m2, a2, b2, e2⟩ := Cond.arrayClass_spec (args := args) (first := s) (o := none) (s := s) (idx := []) (hgw _ gA_boolean)
  obtain ⟨c3, k3, m3, a3, b3, e3⟩ := Cond.arrayClass_spec (args := args) (first := s) (o := none) (s := s) (idx := []) (hgw _ gA_char)
  obtain ⟨m4, c4, k4, f4, -, b4, e4, a4⟩ := Cond.arrayOver_spec (args := args) (first := s) (o := none) (s := s) (idx := []) (hts (.arrayOver (.object "HearsaySeeds$Text")) (lt_tb 32 rfl))
  obtain ⟨m5, c5, k5, f5, -, b5, e5, a5⟩ := Cond.arrayOver_spec (args := args) (first := s) (o := none) (s := s) (idx := []) (hts (.arrayOver (.object "HearsaySeeds$Sheet")) (lt_tb 185 rfl))
  obtain ⟨m6, c6, k6, f6, -, b6, e6, a6⟩ := Cond.arrayOver_spec (args := args) (first := s) (o := none) (s := s) (idx := []) (hts (.arrayOver (.object "HearsaySeeds$Slot")) (lt_tb 205 rfl))
  refine ⟨fun k => if k = 0 then c0 else if k = 1 then c1 else if k = 2 then c2 else if k = 3 then c3 else if k = 4 then c4 else if k = 5 then c5 else c6, fun t ty ht => ?_⟩
  match t, ht with
  | 0, ht => cases ht; exact ⟨fun n z => ⟨fun k h => (by cases h), k0, b0, m0, e0⟩, a0⟩
  | 1, ht => cases ht; exact ⟨fun n z => ⟨fun k h => (by cases h), k1, b1, m1, e1⟩, a1⟩
  | 2, ht => cases ht; exact ⟨fun n z => ⟨fun k h => (by cases h), k2, b2, m2, e2⟩, a2⟩
  | 3, ht => cases ht; exact ⟨fun n z => ⟨fun k h => (by cases h), k3, b3, m3, e3⟩, a3⟩
  | 4, ht => cases ht; exact ⟨fun n z => ⟨fun k h => (by cases h), k4, b4, m4, e4⟩, ⟨k4, m4, b4, e4, f4, a4⟩⟩
  | 5, ht => cases ht; exact ⟨fun n z => ⟨fun k h => (by cases h), k5, b5, m5, e5⟩, ⟨k5, m5, b5, e5, f5, a5⟩⟩
  | 6, ht => cases ht; exact ⟨fun n z => ⟨fun k h => (by cases h), k6, b6, m6, e6⟩, ⟨k6, m6, b6, e6, f6, a6⟩⟩
  | t + 7, ht => simp [aty] at ht
abbrev Ah (s : State) : Nat → Prop := fun q => s.heap.size ≤ q
set_option maxRecDepth 100000 in
theorem st_S {s : State} {args : Array Value} (hts : ∀ w ∈ lw_tbl, w.before args s = true) (hgv : (Jvm.Cond.and given_1 narrow_1).before args s = true) : ∃ (tW tA : Nat) (adK adV : Nat → Nat),
    (va_Z "HearsaySeeds" "WEIGHS" "[I" (.ref tW) (Ah s) s s.heap ∧ va_T .int tW 6 (fun j => .int (tabW j)) (Ah s) s s.heap) ∧ (va_Z "HearsaySeeds" "ABOVE" "[I" (.ref tA) (Ah s) s s.heap ∧ va_T .int tA 6 (fun j => .int (tabA j)) (Ah s) s s.heap) ∧ vk_S 6 lenS bytS adK adV (Ah s) s s.heap ∧ (va_Z "java/lang/String" "COMPACT_STRINGS" "Z" (.int 1) (Ah s) s s.heap ∧ va_Zq "jdk/internal/util/Preconditions" "SIOOBE_FORMATTER" "Ljava/util/function/BiFunction;" (Ah s) s s.heap) ∧ (vk_R RX2 87 "want" (adK 0) s ∧ vk_R RX2 93 "fee" (adK 1) s ∧ vk_R RX2 95 "fine" (adK 2) s ∧ vk_R RX2 131 "tnsv" (adK 3) s ∧ vk_R RX2 133 "    wg" (adK 4) s ∧ vk_R RX2 135 "t s" (adK 5) s) := by
  have hs := flat_of_before _ hgv
  have hA : ∀ a : Nat, a < s.heap.size → ¬ Ah s a := fun a h => Nat.not_le.mpr h
  obtain ⟨tW, hW1, hW2⟩ := va_Tof (tm := .static "HearsaySeeds" "WEIGHS" "[I") (ty := .int) (N := 6) (f := fun j => .int (tabW j)) (A := Ah s) (by decide) (hs _ fm_W1.1) (va_eqt (hs _ fm_W1.2)) (fun j hj => va_eqt (hs _ (fm_W ⟨j, hj⟩))) hA
  obtain ⟨tA, hB1, hB2⟩ := va_Tof (tm := .static "HearsaySeeds" "ABOVE" "[I") (ty := .int) (N := 6) (f := fun j => .int (tabA j)) (A := Ah s) (by decide) (hs _ fm_A1.1) (va_eqt (hs _ fm_A1.2)) (fun j hj => va_eqt (hs _ (fm_A ⟨j, hj⟩))) hA
  obtain ⟨adK, adV, hS, hev⟩ := vk_Sof (N := 6) (tm := tmS) (len := lenS) (byt := bytS) (A := Ah s) (fun i hi => by have h6 : lenS.getD i 0 ≤ 6 := ln_6 ⟨i, hi⟩; omega) (fun i hi => hs _ (fm_S ⟨i, hi⟩).1) (fun i hi => hs _ (fm_S ⟨i, hi⟩).2.1) (fun i hi => hs _ (fm_S ⟨i, hi⟩).2.2.1) (fun i hi => hs _ (fm_S ⟨i, hi⟩).2.2.2) (fun i hi j hj => hs _ (fm_E ⟨i, hi⟩ ⟨j, Nat.lt_of_lt_of_le hj (ln_6 ⟨i, hi⟩)⟩ hj)) (fun i j hi hj hij => by
    rcases fm_N ⟨i, hi⟩ ⟨j, hj⟩ (fun q => hij (congrArg Fin.val q)) with h | h
    · exact Or.inl (hs _ h)
    · exact Or.inr (hs _ h)) hA
  exact ⟨tW, tA, adK, adV, ⟨va_Zof (hts _ (lt_tb 291 rfl)) (hts _ (lt_tb 1 rfl)) hW1 hA, hW2⟩, ⟨va_Zof (hts _ (lt_tb 319 rfl)) (hts _ (lt_tb 1 rfl)) hB1 hA, hB2⟩, hS, ⟨va_Zof (hts _ (lt_tb 588 rfl)) (hts _ (lt_tb 12 rfl)) (va_eqt (hs _ fm_C.1)) hA, va_Zqof (hts _ (lt_tb 604 rfl)) (hts _ (lt_tb 14 rfl)) (hs _ fm_C.2) hA⟩, vk_R.of (hts _ (lt_tb 574 rfl)) (hev 0 (by decide)), vk_R.of (hts _ (lt_tb 627 rfl)) (hev 1 (by decide)), vk_R.of (hts _ (lt_tb 628 rfl)) (hev 2 (by decide)), vk_R.of (hts _ (lt_tb 676 rfl)) (hev 3 (by decide)), vk_R.of (hts _ (lt_tb 677 rfl)) (hev 4 (by decide)), vk_R.of (hts _ (lt_tb 678 rfl)) (hev 5 (by decide))⟩
set_option maxRecDepth 100000 in
theorem st_NI {s : State} {args : Array Value} (hts : ∀ w ∈ lw_tbl, w.before args s = true) : NI s := ⟨va_AO.of (hts _ (lt_tb 32 rfl)), va_AO.of (hts _ (lt_tb 185 rfl)), va_AO.of (hts _ (lt_tb 205 rfl)), va_Nw.of rfl (hts _ (lt_tb 34 rfl)), va_Nw.of rfl (hts _ (lt_tb 72 rfl)), va_Nw.of rfl (hts _ (lt_tb 77 rfl)), va_Nw.of rfl (hts _ (lt_tb 187 rfl)), va_Nw.of rfl (hts _ (lt_tb 207 rfl)), va_Nw.of rfl (hts _ (lt_tb 212 rfl))⟩
set_option maxRecDepth 100000 in
theorem st_NW {s : State} {args : Array Value} (hts : ∀ w ∈ lw_tbl, w.before args s = true) : NW s := ⟨va_Nw.of rfl (hts _ (lt_tb 398 rfl)), va_Nw.of rfl (hts _ (lt_tb 368 rfl))⟩
/-! the cells as the constructors leave them are the walk's -/
def shOK (lo hi : Nat) : shp → Bool
  | .inl (_, n, some g) => (List.range n).all (fun j => decide (lo ≤ g j ∧ g j < hi))
  | .inl (_, _, none) => true
  | .inr (_, fs) => fs.all (fun x => match x with | none => true | some r => decide (lo ≤ r ∧ r < hi))
theorem shOK1 : ∀ a : Fin 92, shOK 0 92 (sh a.val) = true := by decide +kernel
theorem shOK2 : ∀ a : Fin 22, shOK 92 114 (sh (92 + a.val)) = true := by decide +kernel
theorem at_eq {E E' : ev} {lo hi a x : Nat} {M : mm} {D : va_G} {H : Heap} (hC : eC E = eC E') (hA : ∀ r, lo ≤ r → r < hi → eA E r = eA E' r) (hs : shOK lo hi (sh a) = true) (h : va_at D vwCl (x, ce E M a) H) : va_at D vwCl (x, ce E' M a) H := by
  unfold ce at h ⊢
  generalize sh a = q at hs h ⊢
  match q, hs, h with
  | .inl (t, n, none), _, h =>
    have h1 : H[x]? = some (vp_cell (eC E t) (n, .inl (M a))) := h
    show H[x]? = some (vp_cell (eC E' t) (n, .inl (M a)))
    rw [← hC]; exact h1
  | .inl (t, n, some g), hs, h =>
    have h1 : H[x]? = some (vp_cell (eC E t) (n, .inr (.inr (.inr (.inr (fun j => some (eA E (g j)))))))) := h
    show H[x]? = some (vp_cell (eC E' t) (n, .inr (.inr (.inr (.inr (fun j => some (eA E' (g j))))))))
    rw [h1, hC, vp_cell_q, vp_cell_q]
    unfold arrV
    congr 3
    funext j
    show va_rf (some (eA E (g j.val))) = va_rf (some (eA E' (g j.val)))
    have := List.all_eq_true.mp hs j.val (List.mem_range.mpr j.isLt)
    have h2 := of_decide_eq_true this
    rw [hA _ h2.1 h2.2]
  | .inr (ci, fs), hs, h =>
    have hf : fs.zipIdx.map (fv E M a) = fs.zipIdx.map (fv E' M a) := by
      refine List.map_congr_left (fun q hq => ?_)
      obtain ⟨y, k⟩ := q
      unfold fv
      cases y with
      | none => rfl
      | some r =>
        have hm : some r ∈ fs := by
          have := List.mem_zipIdx' hq
          exact this.2 ▸ List.getElem_mem _
        have := of_decide_eq_true (List.all_eq_true.mp hs _ hm)
        show Value.ref (eA E r) = Value.ref (eA E' r)
        rw [hA r this.1 this.2]
    have h1 : va_at D vwCl (x, .inr (ci, fs.zipIdx.map (fv E M a))) H := h
    show va_at D vwCl (x, .inr (ci, fs.zipIdx.map (fv E' M a))) H
    rw [← hf]; exact h1
def mkE (l : Launch) (sz : Nat) (u1 u2 : Nat → Nat) (tW tA : Nat) (adK adV : Nat → Nat) (b : Nat) (cA : Nat → ClassId) (D : va_G) : ev := (l, sz, fun k => if k < 114 then (if k < 92 then u1 k else u2 (k - 92)) else if k < 210 then (if k = 200 then tW else tA) else if k < 220 then adK (k - 210) else if k < 300 then adV (k - 220) else b, cA, D)
abbrev w92 (E : ev) (u : Nat → Nat) : va_W := (List.range 92).map (fun k => (u k, ce (Eu E u) M0 k))
abbrev w22 (E : ev) (u : Nat → Nat) : va_W := (List.range 22).map (fun k => (u k, ce (Eu E (fun j => u (j - 92))) M0 (92 + k)))
theorem two_1 {E : ev} {u1 u2 : Nat → Nat} {k : Nat} (h : k < 92) : (w92 E u1 ++ w22 E u2)[k]? = some (u1 k, ce (Eu E u1) M0 k) := by
  rw [List.getElem?_append_left (by simpa using h), List.getElem?_map, List.getElem?_range h]; rfl
theorem two_2 {E : ev} {u1 u2 : Nat → Nat} {k : Nat} (h : 92 ≤ k) (h2 : k < 114) : (w92 E u1 ++ w22 E u2)[k]? = some (u2 (k - 92), ce (Eu E (fun j => u2 (j - 92))) M0 (92 + (k - 92))) := by
  rw [List.getElem?_append_right (by simpa using h)]
  simp only [List.length_map, List.length_range]
  rw [List.getElem?_map, List.getElem?_range (by omega)]; rfl
section TWO
variable {l : Launch} {sz tW tA b : Nat} {u1 u2 v1 v2 adK adV : Nat → Nat} {cA : Nat → ClassId} {D : va_G}
theorem mk_1 {k : Nat} (h : k < 92) : eA (mkE l sz u1 u2 tW tA adK adV b cA D) k = u1 k := by
  show (if k < 114 then _ else _) = _
  rw [if_pos (by omega), if_pos h]
theorem mk_2 {k : Nat} (h : 92 ≤ k) (h2 : k < 114) : eA (mkE l sz u1 u2 tW tA adK adV b cA D) k = u2 (k - 92) := by
  show (if k < 114 then _ else _) = _
  rw [if_pos h2, if_neg (by omega)]
theorem mk_K {i : Nat} (h : i < 6) : eA (mkE l sz u1 u2 tW tA adK adV b cA D) (210 + i) = adK i := by
  show (if 210 + i < 114 then _ else _) = _
  rw [if_neg (by omega), if_neg (by omega), if_pos (by omega), show 210 + i - 210 = i by omega]
theorem mk_V {i : Nat} (h : i < 6) : eA (mkE l sz u1 u2 tW tA adK adV b cA D) (220 + i) = adV i := by
  show (if 220 + i < 114 then _ else _) = _
  rw [if_neg (by omega), if_neg (by omega), if_neg (by omega), if_pos (by omega), show 220 + i - 220 = i by omega]
theorem two_P {H : Heap} (h : va_P D vwCl (w92 (mkE l sz v1 v2 tW tA adK adV b cA D) u1 ++ w22 (mkE l sz v1 v2 tW tA adK adV b cA D) u2) H) : va_P D vwCl (wl (mkE l sz u1 u2 tW tA adK adV b cA D) M0) H := by
  intro k q hk
  have hl : k < NC := by have := (List.getElem?_eq_some_iff.mp hk).1; rw [wl_len] at this; exact this
  rw [wl_at _ _ hl] at hk
  cases hk
  have hl' : k < 114 := hl
  by_cases h9 : k < 92
  · rw [mk_1 h9]
    exact at_eq (E := Eu (mkE l sz v1 v2 tW tA adK adV b cA D) u1) (lo := 0) (hi := 92) rfl (fun r _ h2 => (mk_1 h2).symm) (shOK1 ⟨k, h9⟩) (h k _ (two_1 h9))
  · rw [mk_2 (by omega) hl']
    have h3 := h k _ (two_2 (by omega) hl')
    have e : 92 + (k - 92) = k := by omega
    have h4 := shOK2 ⟨k - 92, by omega⟩
    simp only at h4
    rw [e] at h3 h4
    exact at_eq (E := Eu (mkE l sz v1 v2 tW tA adK adV b cA D) (fun j => u2 (j - 92))) (lo := 92) (hi := 114) rfl (fun r h1 h2 => (mk_2 h1 h2).symm) h4 h3
theorem two_L (h : va_D (fun q => sz ≤ q) (w92 (mkE l sz v1 v2 tW tA adK adV b cA D) u1 ++ w22 (mkE l sz v1 v2 tW tA adK adV b cA D) u2)) : Lie (mkE l sz u1 u2 tW tA adK adV b cA D) := by
  have key : ∀ k, k < 114 → ∃ x, (w92 (mkE l sz v1 v2 tW tA adK adV b cA D) u1 ++ w22 (mkE l sz v1 v2 tW tA adK adV b cA D) u2)[k]? = some (eA (mkE l sz u1 u2 tW tA adK adV b cA D) k, x) := by
    intro k hk
    by_cases h9 : k < 92
    · rw [mk_1 h9]; exact ⟨_, two_1 h9⟩
    · rw [mk_2 (by omega) hk]; exact ⟨_, two_2 (by omega) hk⟩
  refine ⟨fun i j hi hj e => ?_, fun k hk => ?_⟩
  · obtain ⟨x, hx⟩ := key i hi
    obtain ⟨y, hy⟩ := key j hj
    exact h.1 i j _ _ hx hy e
  · obtain ⟨x, hx⟩ := key k hk
    exact h.2 k _ hx
end TWO
theorem rng_l {ws w' : va_W} {n : Nat} (hn : ws.length = n) : (List.range n).map (fun i => (ws ++ w')[i]?) = ws.map some := by
  apply List.ext_getElem?
  intro i
  rw [List.getElem?_map, List.getElem?_map]
  by_cases h : i < n
  · rw [List.getElem?_range h]
    show some ((ws ++ w')[i]?) = _
    rw [List.getElem?_append_left (by omega), List.getElem?_eq_getElem (by omega)]
    rfl
  · rw [List.getElem?_eq_none (by simp; omega), List.getElem?_eq_none (by omega)]; rfl
/-- the law calls a constructor -/
theorem lw_ini {E : ev} {p : Program} {e : Env} {s : State} {m : MethodId} {args : Array Value} {below : List Frame} {meth : Method} {c : Code} {H : Heap} {locs : List Loc} {kc ks pc d' mc' ms' nL' idx b : Nat} {ls : Array Slot} {St : List Value} {ws w0 wr : va_W} {y' : MethodName} {cc' : ByteArray} {S : Type} {post : S → Prop} {w1 : S → va_W} {Q : State → Prop}
    (hx : p.tables.exec = Jvm.exec) (hb : c.code = cL_law) (hml : c.maxLocals = 4) (hown : s.vm.findClass RL = some m.cls) (hgw : ∀ w ∈ gw, w.before args s = true) (hK : va_K (eD E) vwCl (tys E) s) (hNI : NI s) (hA : ∀ q : Nat, s.heap.size ≤ q → Az E q) (hP : va_P (eD E) vwCl ws H) (hD : va_D (Az E) ws) (hS : va_S (Az E) s.heap H locs) (hlz : ls.size = 4)
    (hC : GCt E d' mc' ms' y' cc' nL' [.ref b] w0 post w1) (isC isR : List Nat) (hd : decode cL_law pc = .ok (.invokespecial idx, 3)) (hlk : Cond.methodLink RL idx y' ∈ gw) (h0 : CI0 y' cc' nL' 0) (h1 : isC.map (fun i => ws[i]?) = w0.map some) (h1' : isC.filterMap (fun i => ws[i]?) = w0) (hnC : va_nd isC = true) (h2 : isR.map (fun i => ws[i]?) = wr.map some) (hnR : va_nd isR = true) (hdis : ∀ i ∈ isR, i ∉ isC) (hdd : d' < 12) (hmc : kc + mc' ≤ 600000) (hms : ks + ms' ≤ 7302250) (hs : (St.map fun v => v.category).sum ≤ 8)
    (k : ∀ (u : S) (H1 : Heap) (locs1 : List Loc), post u → va_P (eD E) vwCl (wr ++ w1 u) H1 → va_D (Az E) (wr ++ w1 u) → va_S (Az E) s.heap H1 locs1 → W p (eL E) e room_1 s m args below meth c H1 locs1 (kc + mc') (ks + ms') Q (F0 m (pc + 3) ls St)) : W p (eL E) e room_1 s m args below meth c H locs kc ks Q (F0 m pc ls (.ref b :: St)) := by
  obtain ⟨g1, g2, g3, g4, g5, g6⟩ := h0
  have hG : GoodIn gw (.code y' cc' nL' none :: gw) := by
    refine gw_good (fun _ h => h) _ (fun w h => ?_)
    rcases List.mem_cons.mp h with h | h
    · rw [h]; exact g1
    · exact h
  have hPc := hP.sub isC h1'
  have hDc := hD.sub isC hnC h1
  have hFc := va_free (wc := w0) hD hS hA isC h1
  have cw := cwI (R := room_1) (s := s) (args := args) (own := RL) (index := idx) (y := y') (bytes := cc') (maxL := nL') (mc := mc') (ms := ms') (rm := rgm d' mc' ms') 0 hgw hG rfl rfl rfl (hgw _ g2) (hgw _ hlk) (hgw _ g3) g4 g5 ⟨(by show d' + 1 ≤ 13; omega), by show 8 + (nL' + 11) + 32 * d' ≤ 494; omega⟩
  refine va_callv (A0 := Az E) (H0 := s.heap) (va_runI (As := []) (rest := St) ⟨hx, hb, hml, hown, hgw⟩ (hC H.size) cw ⟨gB_blind E _ _ _, fun U hU hW => ⟨rfl, by rw [hU], by rw [hU]; exact hPc, va_K.moved hW.alike hK, NI.warm hW hNI, hDc.weaken (fun _ _ _ _ => trivial)⟩⟩ rfl rfl hlz rfl (lv_room hs) hd ⟨hmc, hms⟩) hS (fun q _ h => hFc q h) hFc (fun u t H1 locs1 ht hvm hw hB hz1 hk1 hS1 => ?_)
  obtain ⟨hP1, hD1⟩ := hB
  rw [ht] at hP1
  obtain ⟨hP2, hD2⟩ := va_join (wr := wr) (w1 := w1 u) hP hD isC isR h1 h2 hnR hdis hk1 hFc hP1 hD1
  exact k u H1 locs1 hw hP2 hD2 hS1
theorem tys_inv {E : ev} {k : Nat} {q : ClassId × FieldType} (h : (tys E)[k]? = some q) : ∃ ty, aty[k]? = some ty ∧ q = (eC E k, ty) := by
  unfold tys at h
  rw [List.getElem?_map, List.getElem?_zipIdx] at h
  cases hk : aty[k]? with
  | none => rw [hk] at h; simp at h
  | some ty =>
    rw [hk] at h
    simp at h
    exact ⟨ty, rfl, h.symm⟩
set_option maxRecDepth 100000 in
set_option maxHeartbeats 8000000 in
theorem whole_start {p : Program} {e : Env} {s : State} {m : MethodId} {below : List Frame} {meth : Method} {c : Code} (l : Launch) {b L : Nat} {xs : Nat → Int32} (hL : L ≤ 3072) (C0 : lw_At p s m meth c b L xs) : W p l e room_1 s m #[Value.ref b] below meth c s.heap [] 0 0 (lw_Z below #[Value.ref b] s) (entryFrame m ([Value.ref b] : List Value).toArray 4) := by
  obtain ⟨hx, hb, hr, hml, hown, hts, hX, hbl, hlocks, hgv⟩ := id C0
  have hgw : ∀ w ∈ gw, w.before #[Value.ref b] s = true := fun w h => hts w (List.mem_filter.mp h).1
  obtain ⟨D, hKc⟩ := st_K hgw
  obtain ⟨cA, hT⟩ := st_T hgw hts
  obtain ⟨tW, tA, adK, adV, hZW, hZA, hVS, hZC, hRS⟩ := st_S hts hgv
  have hNI := st_NI hts
  obtain ⟨E0, hE0⟩ : ∃ E0, E0 = mkE l s.heap.size (fun _ => 0) (fun _ => 0) tW tA adK adV b cA D := ⟨_, rfl⟩
  have eL0 : eL E0 = l := by rw [hE0]; rfl
  have eD0 : eD E0 = D := by rw [hE0]; rfl
  have eC0 : eC E0 = cA := by rw [hE0]; rfl
  have hK : va_K (eD E0) vwCl (tys E0) s := ⟨by rw [eD0]; exact hKc, fun k q hk => by
    obtain ⟨ty, h1, h2⟩ := tys_inv hk
    rw [h2, eC0]
    exact hT k ty h1⟩
  have hA : ∀ q : Nat, s.heap.size ≤ q → Az E0 q := fun q h => by rw [hE0]; exact h
  have hS : va_S (Az E0) s.heap s.heap [] := va_S.rf
  have hP : va_P (eD E0) vwCl [] s.heap := fun k q h => by simp at h
  have hD : va_D (Az E0) [] := ⟨fun i j p q h => by simp at h, fun k q h => by simp at h⟩
  have hl := lv_entry ([.ref b]) (n := 4) (Nat.le_of_ble_eq_true rfl)
  rw [lg_entry_eq]
  generalize (lg_sl ([.ref b]) ++ List.replicate (4 - (lg_sl ([.ref b])).length) Slot.unset).toArray = ls at hl ⊢
  have hl : lv_has ls 4 [(0, .ref b)] := hl
  obtain ⟨C7, T7, y7, i1, i2, i3, i4, i5, i6, i7⟩ := nwL_7
  refine va_new (c0 := c) hx hb hgw i1 y7 i2 hown (hgw _ i3) (hgw _ i4) (hgw _ i5) hK hP hD hS hA i6 i7 (Nat.le_of_ble_eq_true rfl) (Nat.le_of_ble_eq_true rfl) dL_law_0 (fun q0 H hP hD hS => ?_)
  refine lv_dup hx hb dL_law_3 rfl ?_
  rw [← eL0]
  refine lw_ini hx hb hml hown hgw hK hNI hA hP hD hS hl.1 (kI6 E0 q0) [0] [] dL_law_4 mlL_9 ci6 rfl rfl rfl (wr := []) rfl rfl (by decide) (by decide) (Nat.le_of_ble_eq_true rfl) (Nat.le_of_ble_eq_true rfl) (Nat.le_of_ble_eq_true rfl) (fun u1 H locs hu1 hP hD hS => ?_)
  refine lv_astore_n (lv' := [(1, .ref q0), (0, .ref b)]) hx hb dL_law_7 rfl hl (by decide) rfl (fun ls hl => ?_)
  obtain ⟨C8, T8, y8, j1, j2, j3, j4, j5, j6, j7⟩ := nwL_10
  refine va_new (c0 := c) hx hb hgw j1 y8 j2 hown (hgw _ j3) (hgw _ j4) (hgw _ j5) hK hP hD hS hA j6 j7 (Nat.le_of_ble_eq_true rfl) (Nat.le_of_ble_eq_true rfl) dL_law_8 (fun q1 H hP hD hS => ?_)
  refine lv_dup hx hb dL_law_11 rfl ?_
  have hP : va_P (eD E0) vwCl (w92 E0 u1 ++ [(q1, .inr (7, [.null, .null, .null, .int 0, .null, .null, .int 0, .int 0, .int 0, .int 0, .int 0, .int 0, .int 0, .null, .null, .null, .int 0, .int 0, .null, .int 0, .null, .null, .null, .null, .null, .null, .null, .null, .null, .null, .null, .null, .int 0]))]) H := hP
  have hD : va_D (Az E0) (w92 E0 u1 ++ [(q1, .inr (7, [.null, .null, .null, .int 0, .null, .null, .int 0, .int 0, .int 0, .int 0, .int 0, .int 0, .int 0, .null, .null, .null, .int 0, .int 0, .null, .int 0, .null, .null, .null, .null, .null, .null, .null, .null, .null, .null, .null, .null, .int 0]))]) := hD
  have hat : (w92 E0 u1 ++ [(q1, .inr (7, [.null, .null, .null, .int 0, .null, .null, .int 0, .int 0, .int 0, .int 0, .int 0, .int 0, .int 0, .null, .null, .null, .int 0, .int 0, .null, .int 0, .null, .null, .null, .null, .null, .null, .null, .null, .null, .null, .null, .null, .int 0]))])[92]? = some (q1, .inr (7, [.null, .null, .null, .int 0, .null, .null, .int 0, .int 0, .int 0, .int 0, .int 0, .int 0, .int 0, .null, .null, .null, .int 0, .int 0, .null, .int 0, .null, .null, .null, .null, .null, .null, .null, .null, .null, .null, .null, .null, .int 0])) := by
    rw [List.getElem?_append_right (by simp)]; simp
  refine lw_ini hx hb hml hown hgw hK hNI hA hP hD hS hl.1 (kI7 E0 q1) [92] (List.range 92) dL_law_12 mlL_12 ci7 (by simp only [List.map_cons, List.map_nil]; rw [hat]) (by simp only [List.filterMap_cons, List.filterMap_nil]; rw [hat]) rfl (wr := w92 E0 u1) (rng_l (by simp)) (by decide) (by decide) (by decide) (Nat.le_of_ble_eq_true rfl) (Nat.le_of_ble_eq_true rfl) (Nat.le_of_ble_eq_true rfl) (fun u2 H locs hu2 hP hD hS => ?_)
  refine lv_astore_n (lv' := [(2, .ref q1), (1, .ref q0), (0, .ref b)]) hx hb dL_law_15 rfl hl (by decide) rfl (fun ls hl => ?_)
  refine lv_iconst (v := 0) hx hb dL_law_16 (by decide) ?_
  refine lv_istore_n (lv' := [(3, .int 0), (2, .ref q1), (1, .ref q0), (0, .ref b)]) hx hb dL_law_17 rfl hl (by decide) rfl (fun ls hl => ?_)
  refine W.widen (k := 600000) (n := 7302250) (Nat.le_of_ble_eq_true rfl) (Nat.le_of_ble_eq_true rfl) ?_
  subst hE0
  have hP := two_P (l := l) (sz := s.heap.size) (tW := tW) (tA := tA) (b := b) (adK := adK) (adV := adV) (cA := cA) (D := D) hP
  have hLie := two_L (l := l) (sz := s.heap.size) (tW := tW) (tA := tA) (b := b) (adK := adK) (adV := adV) (cA := cA) (D := D) hD
  have e300 : eA (mkE l s.heap.size u1 u2 tW tA adK adV b cA D) 300 = b := rfl
  have e0 : eA (mkE l s.heap.size u1 u2 tW tA adK adV b cA D) 0 = q0 := (mk_1 (by decide)).trans hu1
  have e92 : eA (mkE l s.heap.size u1 u2 tW tA adK adV b cA D) 92 = q1 := (mk_2 (by decide) (by decide)).trans hu2
  have hSX : SX (mkE l s.heap.size u1 u2 tW tA adK adV b cA D) s s.heap := by
    refine ⟨⟨hZW, hZA⟩, st_NW hts, ⟨⟨fun i hi => ?_, fun i j hi hj h => ?_⟩, hZC⟩, hRS⟩
    · simp only [mk_K hi, mk_V hi]; exact hVS.1 i hi
    · simp only [mk_K hi, mk_K hj] at h; exact hVS.2 i j hi hj h
  have hLX : LX (mkE l s.heap.size u1 u2 tW tA adK adV b cA D) p s m meth c L xs := ⟨by rw [e300]; exact C0, by rw [e300]; exact hgw, hK, hSX, hLie, rfl⟩
  have hlh : lh (mkE l s.heap.size u1 u2 tW tA adK adV b cA D) ls 4 (Li 0) := by
    refine ⟨hl.1, hl.2.1, fun q hq => hl.2.2 q ?_⟩
    have hz : lz (mkE l s.heap.size u1 u2 tW tA adK adV b cA D) 0 (Li 0) = [(0, .ref b), (1, .ref q0), (2, .ref q1), (3, .int 0)] := by
      show [(0, Value.ref (eA _ 300)), (1, Value.ref (eA _ 0)), (2, Value.ref (eA _ 92)), (3, Value.int (nI 0))] = _
      rw [e300, e0, e92, nI_0]
    rw [hz] at hq
    simp only [List.mem_cons, List.not_mem_nil, or_false] at hq ⊢
    rcases hq with h | h | h | h
    · exact Or.inr (Or.inr (Or.inr h))
    · exact Or.inr (Or.inr (Or.inl h))
    · exact Or.inr (Or.inl h)
    · exact Or.inl h
  exact law_loop (E := mkE l s.heap.size u1 u2 tW tA adK adV b cA D) hL (L + 1) 0 M0 (by omega) (Nat.zero_le L) inv0 p e s m below meth c H locs ls hLX hP hS hlh
-- the end of the skeleton
