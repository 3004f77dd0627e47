/-! a call of the class, then the same call of the reference: one answer, and all holds again -/
def Pr (E : ev) (M : mm) (dX : Nat) (yX : MethodName) (cX : ByteArray) (nX dM : Nat) (yM : MethodName) (cM : ByteArray) (nM : Nat) (as : List av) : Prop := ∃ (Q1 : Int32 → mm → Prop) (Q2 : mm → Int32 → mm → Prop), Ct E dX yX cX nX (some .int) (.inr 0 :: as) M (qI E Q1) ∧ ∀ x M', Q1 x M' → Ct E dM yM cM nM (some .int) (.inr 92 :: as) M' (qI E (Q2 M')) ∧ ∀ z M'', Q2 M' z M'' → x = z ∧ Inv M''
theorem pr_thought (E : ev) (M : mm) (h : Inv M) (x : Int32) (f : Int32) : Pr E M 2 yX6_thought cX6_thought 3 2 yX7_thought cX7_thought 3 [.inl x, .inl f] := by
  obtain ⟨⟨v, tt, T, S, sl, wn, tl, tp, tn, bi, vi, Ti⟩, hC, hM, hP⟩ := h
  obtain ⟨c1, c2, c3, c4, c5, c6, c7, c8⟩ := id hC
  obtain ⟨p1, p2, p3⟩ := id hP
  have q1 : CI (cv M 38) 10000 := by rw [c1]; exact p1
  refine ⟨_, fun M1 r M' => r = R_thought (mv M1) x f ∧ M' = M1, aX_thought E M q1, fun x1 M1 hq => ?_⟩
  obtain ⟨hr, hm⟩ := hq
  have hN : NM M M1 := by rw [hm]; exact NM.rf M
  have hC1 : IC M1 (v, tt, T, S, sl, wn, tl, tp, tn, bi, vi, Ti) := by rw [hm]; exact hC
  have hM1 := IM_eq hN.fm hM
  obtain ⟨n1, n2, n3, n4, n5, n6, n7, n8, n9⟩ := id hM1
  have r1 : CI (mv M1) 10000 := by rw [n1]; exact p1
  refine ⟨aM_thought E M1 r1, fun z1 M2 hz => ?_⟩
  obtain ⟨hr2, hm2⟩ := hz
  exact ⟨by rw [hr, hr2, c1, n1], ⟨(v, tt, T, S, sl, wn, tl, tp, tn, bi, vi, Ti), by rw [hm2]; exact hC1, by rw [hm2]; exact hM1, hP⟩⟩
theorem pr_says (E : ev) (M : mm) (h : Inv M) (x : Int32) (f : Int32) : Pr E M 5 yX6_says cX6_says 3 5 yX7_says cX7_says 3 [.inl x, .inl f] := by
  obtain ⟨⟨v, tt, T, S, sl, wn, tl, tp, tn, bi, vi, Ti⟩, hC, hM, hP⟩ := h
  obtain ⟨c1, c2, c3, c4, c5, c6, c7, c8⟩ := id hC
  obtain ⟨p1, p2, p3⟩ := id hP
  have q1 : CI (cv M 38) 10000 := by rw [c1]; exact p1
  refine ⟨_, fun M1 r M' => r = R_says (mv M1) x f ∧ M' = M1, aX_says E M q1, fun x1 M1 hq => ?_⟩
  obtain ⟨hr, hm⟩ := hq
  have hN : NM M M1 := by rw [hm]; exact NM.rf M
  have hC1 : IC M1 (v, tt, T, S, sl, wn, tl, tp, tn, bi, vi, Ti) := by rw [hm]; exact hC
  have hM1 := IM_eq hN.fm hM
  obtain ⟨n1, n2, n3, n4, n5, n6, n7, n8, n9⟩ := id hM1
  have r1 : CI (mv M1) 10000 := by rw [n1]; exact p1
  refine ⟨aM_says E M1 r1, fun z1 M2 hz => ?_⟩
  obtain ⟨hr2, hm2⟩ := hz
  exact ⟨by rw [hr, hr2, c1, n1], ⟨(v, tt, T, S, sl, wn, tl, tp, tn, bi, vi, Ti), by rw [hm2]; exact hC1, by rw [hm2]; exact hM1, hP⟩⟩
theorem pr_votes (E : ev) (M : mm) (h : Inv M) (f : Int32) (c : Int32) : Pr E M 2 yX6_votes cX6_votes 3 3 yX7_votes cX7_votes 3 [.inl f, .inl c] := by
  obtain ⟨⟨v, tt, T, S, sl, wn, tl, tp, tn, bi, vi, Ti⟩, hC, hM, hP⟩ := h
  obtain ⟨c1, c2, c3, c4, c5, c6, c7, c8⟩ := id hC
  obtain ⟨p1, p2, p3⟩ := id hP
  have q1 : CI (cv M 38) 10000 := by rw [c1]; exact p1
  refine ⟨_, fun M1 r M' => r = R_votes (mv M1) f c ∧ M' = M1, aX_votes E M q1, fun x1 M1 hq => ?_⟩
  obtain ⟨hr, hm⟩ := hq
  have hN : NM M M1 := by rw [hm]; exact NM.rf M
  have hC1 : IC M1 (v, tt, T, S, sl, wn, tl, tp, tn, bi, vi, Ti) := by rw [hm]; exact hC
  have hM1 := IM_eq hN.fm hM
  obtain ⟨n1, n2, n3, n4, n5, n6, n7, n8, n9⟩ := id hM1
  have r1 : CI (mv M1) 10000 := by rw [n1]; exact p1
  refine ⟨aM_votes E M1 r1, fun z1 M2 hz => ?_⟩
  obtain ⟨hr2, hm2⟩ := hz
  exact ⟨by rw [hr, hr2, c1, n1], ⟨(v, tt, T, S, sl, wn, tl, tp, tn, bi, vi, Ti), by rw [hm2]; exact hC1, by rw [hm2]; exact hM1, hP⟩⟩
theorem pr_as (E : ev) (M : mm) (h : Inv M) (x : Int32) (k : Int32) : Pr E M 2 yX6_as cX6_as 3 2 yX7_as cX7_as 3 [.inl x, .inl k] := by
  obtain ⟨⟨v, tt, T, S, sl, wn, tl, tp, tn, bi, vi, Ti⟩, hC, hM, hP⟩ := h
  obtain ⟨c1, c2, c3, c4, c5, c6, c7, c8⟩ := id hC
  obtain ⟨p1, p2, p3⟩ := id hP
  have q1 : CI (cv M 38) 10000 := by rw [c1]; exact p1
  refine ⟨_, fun M1 r M' => r = R_as (mv M1) x k ∧ M' = M1, aX_as E M q1, fun x1 M1 hq => ?_⟩
  obtain ⟨hr, hm⟩ := hq
  have hN : NM M M1 := by rw [hm]; exact NM.rf M
  have hC1 : IC M1 (v, tt, T, S, sl, wn, tl, tp, tn, bi, vi, Ti) := by rw [hm]; exact hC
  have hM1 := IM_eq hN.fm hM
  obtain ⟨n1, n2, n3, n4, n5, n6, n7, n8, n9⟩ := id hM1
  have r1 : CI (mv M1) 10000 := by rw [n1]; exact p1
  refine ⟨aM_as E M1 r1, fun z1 M2 hz => ?_⟩
  obtain ⟨hr2, hm2⟩ := hz
  exact ⟨by rw [hr, hr2, c1, n1], ⟨(v, tt, T, S, sl, wn, tl, tp, tn, bi, vi, Ti), by rw [hm2]; exact hC1, by rw [hm2]; exact hM1, hP⟩⟩
theorem pr_told (E : ev) (M : mm) (h : Inv M) (x : Int32) (u : Int32) : Pr E M 3 yX6_told cX6_told 3 3 yX7_told cX7_told 3 [.inl x, .inl u] := by
  obtain ⟨⟨v, tt, T, S, sl, wn, tl, tp, tn, bi, vi, Ti⟩, hC, hM, hP⟩ := h
  obtain ⟨c1, c2, c3, c4, c5, c6, c7, c8⟩ := id hC
  obtain ⟨p1, p2, p3⟩ := id hP
  have q1 : CI (cv M 38) 10000 := by rw [c1]; exact p1
  refine ⟨_, fun M1 r M' => r = R_told (mv M1) x u ∧ M' = M1, aX_told E M q1, fun x1 M1 hq => ?_⟩
  obtain ⟨hr, hm⟩ := hq
  have hN : NM M M1 := by rw [hm]; exact NM.rf M
  have hC1 : IC M1 (v, tt, T, S, sl, wn, tl, tp, tn, bi, vi, Ti) := by rw [hm]; exact hC
  have hM1 := IM_eq hN.fm hM
  obtain ⟨n1, n2, n3, n4, n5, n6, n7, n8, n9⟩ := id hM1
  have r1 : CI (mv M1) 10000 := by rw [n1]; exact p1
  refine ⟨aM_told E M1 r1, fun z1 M2 hz => ?_⟩
  obtain ⟨hr2, hm2⟩ := hz
  exact ⟨by rw [hr, hr2, c1, n1], ⟨(v, tt, T, S, sl, wn, tl, tp, tn, bi, vi, Ti), by rw [hm2]; exact hC1, by rw [hm2]; exact hM1, hP⟩⟩
theorem pr_field (E : ev) (M : mm) (h : Inv M) (f : Int32) (u : Int32) : Pr E M 3 yX6_field cX6_field 4 4 yX7_field cX7_field 4 [.inl f, .inl u] := by
  obtain ⟨⟨v, tt, T, S, sl, wn, tl, tp, tn, bi, vi, Ti⟩, hC, hM, hP⟩ := h
  obtain ⟨c1, c2, c3, c4, c5, c6, c7, c8⟩ := id hC
  obtain ⟨p1, p2, p3⟩ := id hP
  have q1 : CI (cv M 38) 10000 := by rw [c1]; exact p1
  refine ⟨_, fun M1 r M' => r = R_field (mv M1) f u ∧ M' = M1, aX_field E M q1, fun x1 M1 hq => ?_⟩
  obtain ⟨hr, hm⟩ := hq
  have hN : NM M M1 := by rw [hm]; exact NM.rf M
  have hC1 : IC M1 (v, tt, T, S, sl, wn, tl, tp, tn, bi, vi, Ti) := by rw [hm]; exact hC
  have hM1 := IM_eq hN.fm hM
  obtain ⟨n1, n2, n3, n4, n5, n6, n7, n8, n9⟩ := id hM1
  have r1 : CI (mv M1) 10000 := by rw [n1]; exact p1
  refine ⟨aM_field E M1 r1, fun z1 M2 hz => ?_⟩
  obtain ⟨hr2, hm2⟩ := hz
  exact ⟨by rw [hr, hr2, c1, n1], ⟨(v, tt, T, S, sl, wn, tl, tp, tn, bi, vi, Ti), by rw [hm2]; exact hC1, by rw [hm2]; exact hM1, hP⟩⟩
theorem pr_county (E : ev) (M : mm) (h : Inv M) (u : Int32) : Pr E M 4 yX6_county cX6_county 2 5 yX7_county cX7_county 2 [.inl u] := by
  obtain ⟨⟨v, tt, T, S, sl, wn, tl, tp, tn, bi, vi, Ti⟩, hC, hM, hP⟩ := h
  obtain ⟨c1, c2, c3, c4, c5, c6, c7, c8⟩ := id hC
  obtain ⟨p1, p2, p3⟩ := id hP
  have q1 : CI (cv M 38) 10000 := by rw [c1]; exact p1
  refine ⟨_, fun M1 r M' => r = R_county (mv M1) u ∧ M' = M1, aX_county E M q1, fun x1 M1 hq => ?_⟩
  obtain ⟨hr, hm⟩ := hq
  have hN : NM M M1 := by rw [hm]; exact NM.rf M
  have hC1 : IC M1 (v, tt, T, S, sl, wn, tl, tp, tn, bi, vi, Ti) := by rw [hm]; exact hC
  have hM1 := IM_eq hN.fm hM
  obtain ⟨n1, n2, n3, n4, n5, n6, n7, n8, n9⟩ := id hM1
  have r1 : CI (mv M1) 10000 := by rw [n1]; exact p1
  refine ⟨aM_county E M1 r1, fun z1 M2 hz => ?_⟩
  obtain ⟨hr2, hm2⟩ := hz
  exact ⟨by rw [hr, hr2, c1, n1], ⟨(v, tt, T, S, sl, wn, tl, tp, tn, bi, vi, Ti), by rw [hm2]; exact hC1, by rw [hm2]; exact hM1, hP⟩⟩
theorem pr_reads (E : ev) (M : mm) (h : Inv M) (x : Int32) : Pr E M 2 yX6_reads cX6_reads 4 2 yX7_reads cX7_reads 4 [.inl x] := by
  obtain ⟨⟨v, tt, T, S, sl, wn, tl, tp, tn, bi, vi, Ti⟩, hC, hM, hP⟩ := h
  obtain ⟨c1, c2, c3, c4, c5, c6, c7, c8⟩ := id hC
  obtain ⟨p1, p2, p3⟩ := id hP
  have q1 : CI (cv M 38) 10000 := by rw [c1]; exact p1
  refine ⟨_, fun M1 r M' => r = R_reads (mv M1) S x ∧ M' = M1, aX_reads E M q1 c3, fun x1 M1 hq => ?_⟩
  obtain ⟨hr, hm⟩ := hq
  have hN : NM M M1 := by rw [hm]; exact NM.rf M
  have hC1 : IC M1 (v, tt, T, S, sl, wn, tl, tp, tn, bi, vi, Ti) := by rw [hm]; exact hC
  have hM1 := IM_eq hN.fm hM
  obtain ⟨n1, n2, n3, n4, n5, n6, n7, n8, n9⟩ := id hM1
  have r1 : CI (mv M1) 10000 := by rw [n1]; exact p1
  refine ⟨aM_reads E M1 r1 n3, fun z1 M2 hz => ?_⟩
  obtain ⟨hr2, hm2⟩ := hz
  exact ⟨by rw [hr, hr2, c1, n1], ⟨(v, tt, T, S, sl, wn, tl, tp, tn, bi, vi, Ti), by rw [hm2]; exact hC1, by rw [hm2]; exact hM1, hP⟩⟩
theorem pr_ask (E : ev) (M : mm) (h : Inv M) (x : Int32) (y : Int32) : Pr E M 2 yX6_ask cX6_ask 4 2 yX7_ask cX7_ask 3 [.inl x, .inl y] := by
  obtain ⟨⟨v, tt, T, S, sl, wn, tl, tp, tn, bi, vi, Ti⟩, hC, hM, hP⟩ := h
  obtain ⟨c1, c2, c3, c4, c5, c6, c7, c8⟩ := id hC
  obtain ⟨p1, p2, p3⟩ := id hP
  refine ⟨_, fun M1 r M' => r = R_ask sl x y ∧ M' = M1, aX_ask E M c4, fun x1 M1 hq => ?_⟩
  obtain ⟨hr, hm⟩ := hq
  have hN : NM M M1 := by rw [hm]; exact NM.rf M
  have hC1 : IC M1 (v, tt, T, S, sl, wn, tl, tp, tn, bi, vi, Ti) := by rw [hm]; exact hC
  have hM1 := IM_eq hN.fm hM
  obtain ⟨n1, n2, n3, n4, n5, n6, n7, n8, n9⟩ := id hM1
  refine ⟨aM_ask E M1 n4, fun z1 M2 hz => ?_⟩
  obtain ⟨hr2, hm2⟩ := hz
  exact ⟨by rw [hr, hr2], ⟨(v, tt, T, S, sl, wn, tl, tp, tn, bi, vi, Ti), by rw [hm2]; exact hC1, by rw [hm2]; exact hM1, hP⟩⟩
theorem pr_item (E : ev) (M : mm) (h : Inv M) (x : Int32) (p : Int32) : Pr E M 2 yX6_item cX6_item 4 2 yX7_item cX7_item 4 [.inl x, .inl p] := by
  obtain ⟨⟨v, tt, T, S, sl, wn, tl, tp, tn, bi, vi, Ti⟩, hC, hM, hP⟩ := h
  obtain ⟨c1, c2, c3, c4, c5, c6, c7, c8⟩ := id hC
  obtain ⟨p1, p2, p3⟩ := id hP
  refine ⟨_, fun M1 r M' => r = R_item sl x p ∧ M' = M1, aX_item E M c4, fun x1 M1 hq => ?_⟩
  obtain ⟨hr, hm⟩ := hq
  have hN : NM M M1 := by rw [hm]; exact NM.rf M
  have hC1 : IC M1 (v, tt, T, S, sl, wn, tl, tp, tn, bi, vi, Ti) := by rw [hm]; exact hC
  have hM1 := IM_eq hN.fm hM
  obtain ⟨n1, n2, n3, n4, n5, n6, n7, n8, n9⟩ := id hM1
  refine ⟨aM_item E M1 n4, fun z1 M2 hz => ?_⟩
  obtain ⟨hr2, hm2⟩ := hz
  exact ⟨by rw [hr, hr2], ⟨(v, tt, T, S, sl, wn, tl, tp, tn, bi, vi, Ti), by rw [hm2]; exact hC1, by rw [hm2]; exact hM1, hP⟩⟩
theorem pr_rest (E : ev) (M : mm) (h : Inv M) (x : Int32) (n : Int32) : Pr E M 2 yX6_rest cX6_rest 4 2 yX7_rest cX7_rest 3 [.inl x, .inl n] := by
  obtain ⟨⟨v, tt, T, S, sl, wn, tl, tp, tn, bi, vi, Ti⟩, hC, hM, hP⟩ := h
  obtain ⟨c1, c2, c3, c4, c5, c6, c7, c8⟩ := id hC
  obtain ⟨p1, p2, p3⟩ := id hP
  refine ⟨_, fun M1 r M' => r = R_rest sl x n ∧ M' = M1, aX_rest E M c4, fun x1 M1 hq => ?_⟩
  obtain ⟨hr, hm⟩ := hq
  have hN : NM M M1 := by rw [hm]; exact NM.rf M
  have hC1 : IC M1 (v, tt, T, S, sl, wn, tl, tp, tn, bi, vi, Ti) := by rw [hm]; exact hC
  have hM1 := IM_eq hN.fm hM
  obtain ⟨n1, n2, n3, n4, n5, n6, n7, n8, n9⟩ := id hM1
  refine ⟨aM_rest E M1 n4, fun z1 M2 hz => ?_⟩
  obtain ⟨hr2, hm2⟩ := hz
  exact ⟨by rw [hr, hr2], ⟨(v, tt, T, S, sl, wn, tl, tp, tn, bi, vi, Ti), by rw [hm2]; exact hC1, by rw [hm2]; exact hM1, hP⟩⟩
theorem pr_count (E : ev) (M : mm) (h : Inv M) (u : Int32) : Pr E M 1 yX6_count cX6_count 2 1 yX7_count cX7_count 2 [.inl u] := by
  obtain ⟨⟨v, tt, T, S, sl, wn, tl, tp, tn, bi, vi, Ti⟩, hC, hM, hP⟩ := h
  obtain ⟨c1, c2, c3, c4, c5, c6, c7, c8⟩ := id hC
  obtain ⟨p1, p2, p3⟩ := id hP
  refine ⟨_, fun M1 r M' => r = R_count (mv M1) (M1 92 32) (M1 92 6) u ∧ M' = M1, aX_count E M , fun x1 M1 hq => ?_⟩
  obtain ⟨hr, hm⟩ := hq
  have hN : NM M M1 := by rw [hm]; exact NM.rf M
  have hC1 : IC M1 (v, tt, T, S, sl, wn, tl, tp, tn, bi, vi, Ti) := by rw [hm]; exact hC
  have hM1 := IM_eq hN.fm hM
  obtain ⟨n1, n2, n3, n4, n5, n6, n7, n8, n9⟩ := id hM1
  refine ⟨aM_count E M1 , fun z1 M2 hz => ?_⟩
  obtain ⟨hr2, hm2⟩ := hz
  exact ⟨by rw [hr, hr2, c1, n1, c5.1, n5.1, c6.1, n6.1], ⟨(v, tt, T, S, sl, wn, tl, tp, tn, bi, vi, Ti), by rw [hm2]; exact hC1, by rw [hm2]; exact hM1, hP⟩⟩
theorem pr_why (E : ev) (M : mm) (h : Inv M) (x : Int32) : Pr E M 2 yX6_why cX6_why 2 2 yX7_why cX7_why 3 [.inl x] := by
  obtain ⟨⟨v, tt, T, S, sl, wn, tl, tp, tn, bi, vi, Ti⟩, hC, hM, hP⟩ := h
  obtain ⟨c1, c2, c3, c4, c5, c6, c7, c8⟩ := id hC
  obtain ⟨p1, p2, p3⟩ := id hP
  refine ⟨_, fun M1 r M' => r = R_why tt T x ∧ M' = M1, aX_why E M c2, fun x1 M1 hq => ?_⟩
  obtain ⟨hr, hm⟩ := hq
  have hN : NM M M1 := by rw [hm]; exact NM.rf M
  have hC1 : IC M1 (v, tt, T, S, sl, wn, tl, tp, tn, bi, vi, Ti) := by rw [hm]; exact hC
  have hM1 := IM_eq hN.fm hM
  obtain ⟨n1, n2, n3, n4, n5, n6, n7, n8, n9⟩ := id hM1
  refine ⟨aM_why E M1 n2, fun z1 M2 hz => ?_⟩
  obtain ⟨hr2, hm2⟩ := hz
  exact ⟨by rw [hr, hr2], ⟨(v, tt, T, S, sl, wn, tl, tp, tn, bi, vi, Ti), by rw [hm2]; exact hC1, by rw [hm2]; exact hM1, hP⟩⟩
theorem pr_tt (E : ev) (M : mm) (h : Inv M) (x : Int32) (u : Int32) : Pr E M 2 yX6_textTold cX6_textTold 3 2 yX7_textTold cX7_textTold 3 [.inl x, .inl u] := by
  obtain ⟨⟨v, tt, T, S, sl, wn, tl, tp, tn, bi, vi, Ti⟩, hC, hM, hP⟩ := h
  obtain ⟨c1, c2, c3, c4, c5, c6, c7, c8⟩ := id hC
  obtain ⟨p1, p2, p3⟩ := id hP
  refine ⟨_, fun M1 r M' => r = R_tt tt T x u ∧ M' = M1, aX_tt E M c2, fun x1 M1 hq => ?_⟩
  obtain ⟨hr, hm⟩ := hq
  have hN : NM M M1 := by rw [hm]; exact NM.rf M
  have hC1 : IC M1 (v, tt, T, S, sl, wn, tl, tp, tn, bi, vi, Ti) := by rw [hm]; exact hC
  have hM1 := IM_eq hN.fm hM
  obtain ⟨n1, n2, n3, n4, n5, n6, n7, n8, n9⟩ := id hM1
  refine ⟨aM_tt E M1 n2, fun z1 M2 hz => ?_⟩
  obtain ⟨hr2, hm2⟩ := hz
  exact ⟨by rw [hr, hr2], ⟨(v, tt, T, S, sl, wn, tl, tp, tn, bi, vi, Ti), by rw [hm2]; exact hC1, by rw [hm2]; exact hM1, hP⟩⟩
theorem pr_heeds (E : ev) (M : mm) (h : Inv M) (x : Int32) (f : Int32) (c : Int32) : Pr E M 4 yX6_heeds cX6_heeds 4 4 yX7_heeds cX7_heeds 4 [.inl x, .inl f, .inl c] := by
  obtain ⟨⟨v, tt, T, S, sl, wn, tl, tp, tn, bi, vi, Ti⟩, hC, hM, hP⟩ := h
  obtain ⟨c1, c2, c3, c4, c5, c6, c7, c8⟩ := id hC
  obtain ⟨p1, p2, p3⟩ := id hP
  have q1 : CI (cv M 38) 10000 := by rw [c1]; exact p1
  refine ⟨_, fun M1 r M' => r = R_heeds (pfT tt T) (mv M1) x f c ∧ ScM M1 M', aX_heeds E M q1 c2, fun x1 M1 hq => ?_⟩
  obtain ⟨hr, hm0⟩ := hq
  have hm : FrX M M1 := hm0.x
  have hN : NM M M1 := hm.nm
  have hC1 := IC_eq hm.fc hC
  have hM1 := IM_eq hN.fm hM
  obtain ⟨n1, n2, n3, n4, n5, n6, n7, n8, n9⟩ := id hM1
  have r1 : CI (mv M1) 10000 := by rw [n1]; exact p1
  refine ⟨aM_heeds E M1 r1 n2, fun z1 M2 hz => ?_⟩
  obtain ⟨hr2, hm3⟩ := hz
  have hm2 : FrD M1 M2 := hm3.d
  exact ⟨by rw [hr, hr2, c1, n1], ⟨(v, tt, T, S, sl, wn, tl, tp, tn, bi, vi, Ti), IC_eq hm2.nx.fc hC1, IM_eq hm2.fm hM1, hP⟩⟩
theorem pr_fee (E : ev) (M : mm) (h : Inv M) : Pr E M 2 yX6_fee cX6_fee 2 2 yX7_fee cX7_fee 2 [] := by
  obtain ⟨⟨v, tt, T, S, sl, wn, tl, tp, tn, bi, vi, Ti⟩, hC, hM, hP⟩ := h
  obtain ⟨c1, c2, c3, c4, c5, c6, c7, c8⟩ := id hC
  obtain ⟨p1, p2, p3⟩ := id hP
  refine ⟨_, fun M1 r M' => r = R_fee tt T (mv M1) ∧ ScM M1 M', aX_fee E M c2, fun x1 M1 hq => ?_⟩
  obtain ⟨hr, hm0⟩ := hq
  have hm : FrX M M1 := hm0.x
  have hN : NM M M1 := hm.nm
  have hC1 := IC_eq hm.fc hC
  have hM1 := IM_eq hN.fm hM
  obtain ⟨n1, n2, n3, n4, n5, n6, n7, n8, n9⟩ := id hM1
  refine ⟨aM_fee E M1 n2, fun z1 M2 hz => ?_⟩
  obtain ⟨hr2, hm3⟩ := hz
  have hm2 : FrD M1 M2 := hm3.d
  exact ⟨by rw [hr, hr2, c1, n1], ⟨(v, tt, T, S, sl, wn, tl, tp, tn, bi, vi, Ti), IC_eq hm2.nx.fc hC1, IM_eq hm2.fm hM1, hP⟩⟩
theorem pr_fine (E : ev) (M : mm) (h : Inv M) (x : Int32) : Pr E M 2 yX6_fine cX6_fine 3 2 yX7_fine cX7_fine 3 [.inl x] := by
  obtain ⟨⟨v, tt, T, S, sl, wn, tl, tp, tn, bi, vi, Ti⟩, hC, hM, hP⟩ := h
  obtain ⟨c1, c2, c3, c4, c5, c6, c7, c8⟩ := id hC
  obtain ⟨p1, p2, p3⟩ := id hP
  have q1 : CI (cv M 38) 10000 := by rw [c1]; exact p1
  refine ⟨_, fun M1 r M' => r = R_fine tt T (mv M1) x ∧ ScM M1 M', aX_fine E M q1 c2, fun x1 M1 hq => ?_⟩
  obtain ⟨hr, hm0⟩ := hq
  have hm : FrX M M1 := hm0.x
  have hN : NM M M1 := hm.nm
  have hC1 := IC_eq hm.fc hC
  have hM1 := IM_eq hN.fm hM
  obtain ⟨n1, n2, n3, n4, n5, n6, n7, n8, n9⟩ := id hM1
  have r1 : CI (mv M1) 10000 := by rw [n1]; exact p1
  refine ⟨aM_fine E M1 r1 n2, fun z1 M2 hz => ?_⟩
  obtain ⟨hr2, hm3⟩ := hz
  have hm2 : FrD M1 M2 := hm3.d
  exact ⟨by rw [hr, hr2, c1, n1], ⟨(v, tt, T, S, sl, wn, tl, tp, tn, bi, vi, Ti), IC_eq hm2.nx.fc hC1, IM_eq hm2.fm hM1, hP⟩⟩
theorem pr_behind (E : ev) (M : mm) (h : Inv M) (n : Int32) (u : Int32) : Pr E M 7 yX6_behind cX6_behind 3 8 yX7_behind cX7_behind 4 [.inl n, .inl u] := by
  obtain ⟨⟨v, tt, T, S, sl, wn, tl, tp, tn, bi, vi, Ti⟩, hC, hM, hP⟩ := h
  obtain ⟨c1, c2, c3, c4, c5, c6, c7, c8⟩ := id hC
  obtain ⟨p1, p2, p3⟩ := id hP
  have q1 : CI (cv M 38) 10000 := by rw [c1]; exact p1
  refine ⟨_, fun M1 r M' => r = R_behind (pfT tt T) (mv M1) n u ∧ FrD M1 M', aX_behind E M q1 c2, fun x1 M1 hq => ?_⟩
  obtain ⟨hr, hm0⟩ := hq
  have hm : FrX M M1 := hm0
  have hN : NM M M1 := hm.nm
  have hC1 := IC_eq hm.fc hC
  have hM1 := IM_eq hN.fm hM
  obtain ⟨n1, n2, n3, n4, n5, n6, n7, n8, n9⟩ := id hM1
  have r1 : CI (mv M1) 10000 := by rw [n1]; exact p1
  refine ⟨aM_behind E M1 r1 n2, fun z1 M2 hz => ?_⟩
  obtain ⟨hr2, hm3⟩ := hz
  have hm2 : FrD M1 M2 := hm3
  exact ⟨by rw [hr, hr2, c1, n1], ⟨(v, tt, T, S, sl, wn, tl, tp, tn, bi, vi, Ti), IC_eq hm2.nx.fc hC1, IM_eq hm2.fm hM1, hP⟩⟩
theorem pr_first (E : ev) (M : mm) (h : Inv M) (f : Int32) (c : Int32) : Pr E M 7 yX6_first cX6_first 4 7 yX7_first cX7_first 4 [.inl f, .inl c] := by
  obtain ⟨⟨v, tt, T, S, sl, wn, tl, tp, tn, bi, vi, Ti⟩, hC, hM, hP⟩ := h
  obtain ⟨c1, c2, c3, c4, c5, c6, c7, c8⟩ := id hC
  obtain ⟨p1, p2, p3⟩ := id hP
  have q1 : CI (cv M 38) 10000 := by rw [c1]; exact p1
  refine ⟨_, fun M1 r M' => r = R_first (pfT tt T) (mv M1) f c ∧ FrD M1 M', aX_first E M q1 c2, fun x1 M1 hq => ?_⟩
  obtain ⟨hr, hm0⟩ := hq
  have hm : FrX M M1 := hm0
  have hN : NM M M1 := hm.nm
  have hC1 := IC_eq hm.fc hC
  have hM1 := IM_eq hN.fm hM
  obtain ⟨n1, n2, n3, n4, n5, n6, n7, n8, n9⟩ := id hM1
  have r1 : CI (mv M1) 10000 := by rw [n1]; exact p1
  refine ⟨aM_first E M1 r1 n2, fun z1 M2 hz => ?_⟩
  obtain ⟨hr2, hm3⟩ := hz
  have hm2 : FrD M1 M2 := hm3
  exact ⟨by rw [hr, hr2, c1, n1], ⟨(v, tt, T, S, sl, wn, tl, tp, tn, bi, vi, Ti), IC_eq hm2.nx.fc hC1, IM_eq hm2.fm hM1, hP⟩⟩
theorem pr_house (E : ev) (M : mm) (h : Inv M) (x : Int32) (m : Int32) (u : Int32) : Pr E M 7 yX6_house cX6_house 7 8 yX7_house cX7_house 8 [.inl x, .inl m, .inl u] := by
  obtain ⟨⟨v, tt, T, S, sl, wn, tl, tp, tn, bi, vi, Ti⟩, hC, hM, hP⟩ := h
  obtain ⟨c1, c2, c3, c4, c5, c6, c7, c8⟩ := id hC
  obtain ⟨p1, p2, p3⟩ := id hP
  have q1 : CI (cv M 38) 10000 := by rw [c1]; exact p1
  refine ⟨_, fun M1 r M' => r = R_house (pfT tt T) (mv M1) x m u ∧ FrD M1 M', aX_house E M q1 c2, fun x1 M1 hq => ?_⟩
  obtain ⟨hr, hm0⟩ := hq
  have hm : FrX M M1 := hm0
  have hN : NM M M1 := hm.nm
  have hC1 := IC_eq hm.fc hC
  have hM1 := IM_eq hN.fm hM
  obtain ⟨n1, n2, n3, n4, n5, n6, n7, n8, n9⟩ := id hM1
  have r1 : CI (mv M1) 10000 := by rw [n1]; exact p1
  refine ⟨aM_house E M1 r1 n2, fun z1 M2 hz => ?_⟩
  obtain ⟨hr2, hm3⟩ := hz
  have hm2 : FrD M1 M2 := hm3
  exact ⟨by rw [hr, hr2, c1, n1], ⟨(v, tt, T, S, sl, wn, tl, tp, tn, bi, vi, Ti), IC_eq hm2.nx.fc hC1, IM_eq hm2.fm hM1, hP⟩⟩
theorem pr_becomes (E : ev) (M : mm) (h : Inv M) (x : Int32) (m : Int32) (u : Int32) : Pr E M 7 yX6_becomes cX6_becomes 7 8 yX7_becomes cX7_becomes 8 [.inl x, .inl m, .inl u] := by
  obtain ⟨⟨v, tt, T, S, sl, wn, tl, tp, tn, bi, vi, Ti⟩, hC, hM, hP⟩ := h
  obtain ⟨c1, c2, c3, c4, c5, c6, c7, c8⟩ := id hC
  obtain ⟨p1, p2, p3⟩ := id hP
  have q1 : CI (cv M 38) 10000 := by rw [c1]; exact p1
  refine ⟨_, fun M1 r M' => r = R_becomes (pfT tt T) (mv M1) x m u ∧ FrD M1 M', aX_becomes E M q1 c2, fun x1 M1 hq => ?_⟩
  obtain ⟨hr, hm0⟩ := hq
  have hm : FrX M M1 := hm0
  have hN : NM M M1 := hm.nm
  have hC1 := IC_eq hm.fc hC
  have hM1 := IM_eq hN.fm hM
  obtain ⟨n1, n2, n3, n4, n5, n6, n7, n8, n9⟩ := id hM1
  have r1 : CI (mv M1) 10000 := by rw [n1]; exact p1
  refine ⟨aM_becomes E M1 r1 n2, fun z1 M2 hz => ?_⟩
  obtain ⟨hr2, hm3⟩ := hz
  have hm2 : FrD M1 M2 := hm3
  exact ⟨by rw [hr, hr2, c1, n1], ⟨(v, tt, T, S, sl, wn, tl, tp, tn, bi, vi, Ti), IC_eq hm2.nx.fc hC1, IM_eq hm2.fm hM1, hP⟩⟩
theorem pr_ear (E : ev) (M : mm) (h : Inv M) (f : Int32) (c : Int32) (m : Int32) (u : Int32) : Pr E M 7 yX6_ear cX6_ear 9 8 yX7_ear cX7_ear 9 [.inl f, .inl c, .inl m, .inl u] := by
  obtain ⟨⟨v, tt, T, S, sl, wn, tl, tp, tn, bi, vi, Ti⟩, hC, hM, hP⟩ := h
  obtain ⟨c1, c2, c3, c4, c5, c6, c7, c8⟩ := id hC
  obtain ⟨p1, p2, p3⟩ := id hP
  have q1 : CI (cv M 38) 10000 := by rw [c1]; exact p1
  refine ⟨_, fun M1 r M' => r = R_ear (pfT tt T) (mv M1) f c m u ∧ FrD M1 M', aX_ear E M q1 c2, fun x1 M1 hq => ?_⟩
  obtain ⟨hr, hm0⟩ := hq
  have hm : FrX M M1 := hm0
  have hN : NM M M1 := hm.nm
  have hC1 := IC_eq hm.fc hC
  have hM1 := IM_eq hN.fm hM
  obtain ⟨n1, n2, n3, n4, n5, n6, n7, n8, n9⟩ := id hM1
  have r1 : CI (mv M1) 10000 := by rw [n1]; exact p1
  refine ⟨aM_ear E M1 r1 n2, fun z1 M2 hz => ?_⟩
  obtain ⟨hr2, hm3⟩ := hz
  have hm2 : FrD M1 M2 := hm3
  exact ⟨by rw [hr, hr2, c1, n1], ⟨(v, tt, T, S, sl, wn, tl, tp, tn, bi, vi, Ti), IC_eq hm2.nx.fc hC1, IM_eq hm2.fm hM1, hP⟩⟩
theorem pr_fewest (E : ev) (M : mm) (h : Inv M) (f : Int32) (c : Int32) (m : Int32) : Pr E M 7 yX6_fewest cX6_fewest 7 9 yX7_fewest cX7_fewest 7 [.inl f, .inl c, .inl m] := by
  obtain ⟨⟨v, tt, T, S, sl, wn, tl, tp, tn, bi, vi, Ti⟩, hC, hM, hP⟩ := h
  obtain ⟨c1, c2, c3, c4, c5, c6, c7, c8⟩ := id hC
  obtain ⟨p1, p2, p3⟩ := id hP
  have q1 : CI (cv M 38) 10000 := by rw [c1]; exact p1
  refine ⟨_, fun M1 r M' => r = R_fewest (pfT tt T) (mv M1) f c m ∧ FrD M1 M', aX_fewest E M q1 c2, fun x1 M1 hq => ?_⟩
  obtain ⟨hr, hm0⟩ := hq
  have hm : FrX M M1 := hm0
  have hN : NM M M1 := hm.nm
  have hC1 := IC_eq hm.fc hC
  have hM1 := IM_eq hN.fm hM
  obtain ⟨n1, n2, n3, n4, n5, n6, n7, n8, n9⟩ := id hM1
  have r1 : CI (mv M1) 10000 := by rw [n1]; exact p1
  refine ⟨aM_fewest E M1 r1 n2, fun z1 M2 hz => ?_⟩
  obtain ⟨hr2, hm3⟩ := hz
  have hm2 : FrD M1 M2 := hm3
  exact ⟨by rw [hr, hr2, c1, n1], ⟨(v, tt, T, S, sl, wn, tl, tp, tn, bi, vi, Ti), IC_eq hm2.nx.fc hC1, IM_eq hm2.fm hM1, hP⟩⟩
theorem pr_like (E : ev) (M : mm) (h : Inv M) (x : Int32) (u : Int32) : Pr E M 7 yX6_like cX6_like 6 8 yX7_like cX7_like 6 [.inl x, .inl u] := by
  obtain ⟨⟨v, tt, T, S, sl, wn, tl, tp, tn, bi, vi, Ti⟩, hC, hM, hP⟩ := h
  obtain ⟨c1, c2, c3, c4, c5, c6, c7, c8⟩ := id hC
  obtain ⟨p1, p2, p3⟩ := id hP
  have q1 : CI (cv M 38) 10000 := by rw [c1]; exact p1
  refine ⟨_, fun M1 r M' => r = R_like (pfT tt T) (mv M1) S.1 S.2.1 S.2.2 x u ∧ FrD M1 M', aX_like E M q1 c2 c3, fun x1 M1 hq => ?_⟩
  obtain ⟨hr, hm0⟩ := hq
  have hm : FrX M M1 := hm0
  have hN : NM M M1 := hm.nm
  have hC1 := IC_eq hm.fc hC
  have hM1 := IM_eq hN.fm hM
  obtain ⟨n1, n2, n3, n4, n5, n6, n7, n8, n9⟩ := id hM1
  have r1 : CI (mv M1) 10000 := by rw [n1]; exact p1
  refine ⟨aM_like E M1 r1 n2 n3, fun z1 M2 hz => ?_⟩
  obtain ⟨hr2, hm3⟩ := hz
  have hm2 : FrD M1 M2 := hm3
  exact ⟨by rw [hr, hr2, c1, n1], ⟨(v, tt, T, S, sl, wn, tl, tp, tn, bi, vi, Ti), IC_eq hm2.nx.fc hC1, IM_eq hm2.fm hM1, hP⟩⟩
theorem pr_lets (E : ev) (M : mm) (h : Inv M) (x : Int32) (f : Int32) (c : Int32) : Pr E M 2 yX6_lets cX6_lets 5 2 yX7_lets cX7_lets 4 [.inl x, .inl f, .inl c] := by
  obtain ⟨⟨v, tt, T, S, sl, wn, tl, tp, tn, bi, vi, Ti⟩, hC, hM, hP⟩ := h
  obtain ⟨c1, c2, c3, c4, c5, c6, c7, c8⟩ := id hC
  obtain ⟨p1, p2, p3⟩ := id hP
  have q1 : CI (cv M 38) 10000 := by rw [c1]; exact p1
  refine ⟨_, fun M1 r M' => r = R_lets (mv M1) x f c ∧ mv M' = F_lets (mv M1) x f c ∧ FrM M1 M', aX_lets E M q1, fun x1 M1 hq => ?_⟩
  obtain ⟨hr, hv, hm⟩ := hq
  rw [c1] at hv
  have hN : NM M M1 := hm.nm
  have hcI := CI_lets (x := x) (f := f) (c := c) p1
  have hC1 := IC_v hC hm hv hcI.2
  have hM1 := IM_eq hN.fm hM
  obtain ⟨n1, n2, n3, n4, n5, n6, n7, n8, n9⟩ := id hM1
  have r1 : CI (mv M1) 10000 := by rw [n1]; exact p1
  refine ⟨aM_lets E M1 r1, fun z1 M2 hz => ?_⟩
  obtain ⟨hr2, hv2, hm2⟩ := hz
  rw [n1] at hv2
  exact ⟨by rw [hr, hr2, c1, n1], ⟨_, IC_eq hm2.nx.fc hC1, IM_v hM1 hm2 hv2 hcI.2, ⟨hcI.1, p2, p3⟩⟩⟩
theorem pr_sow (E : ev) (M : mm) (h : Inv M) (f : Int32) (c : Int32) : Pr E M 2 yX6_sow cX6_sow 4 2 yX7_sow cX7_sow 3 [.inl f, .inl c] := by
  obtain ⟨⟨v, tt, T, S, sl, wn, tl, tp, tn, bi, vi, Ti⟩, hC, hM, hP⟩ := h
  obtain ⟨c1, c2, c3, c4, c5, c6, c7, c8⟩ := id hC
  obtain ⟨p1, p2, p3⟩ := id hP
  have q1 : CI (cv M 38) 10000 := by rw [c1]; exact p1
  refine ⟨_, fun M1 r M' => r = R_sow (mv M1) f c ∧ mv M' = F_sow (mv M1) f c ∧ FrM M1 M', aX_sow E M q1, fun x1 M1 hq => ?_⟩
  obtain ⟨hr, hv, hm⟩ := hq
  rw [c1] at hv
  have hN : NM M M1 := hm.nm
  have hcI := CI_sow (f := f) (c := c) p1
  have hC1 := IC_v hC hm hv hcI.2
  have hM1 := IM_eq hN.fm hM
  obtain ⟨n1, n2, n3, n4, n5, n6, n7, n8, n9⟩ := id hM1
  have r1 : CI (mv M1) 10000 := by rw [n1]; exact p1
  refine ⟨aM_sow E M1 r1, fun z1 M2 hz => ?_⟩
  obtain ⟨hr2, hv2, hm2⟩ := hz
  rw [n1] at hv2
  exact ⟨by rw [hr, hr2, c1, n1], ⟨_, IC_eq hm2.nx.fc hC1, IM_v hM1 hm2 hv2 hcI.2, ⟨hcI.1, p2, p3⟩⟩⟩
theorem pr_turns (E : ev) (M : mm) (h : Inv M) (x : Int32) (k : Int32) : Pr E M 2 yX6_turns cX6_turns 4 2 yX7_turns cX7_turns 3 [.inl x, .inl k] := by
  obtain ⟨⟨v, tt, T, S, sl, wn, tl, tp, tn, bi, vi, Ti⟩, hC, hM, hP⟩ := h
  obtain ⟨c1, c2, c3, c4, c5, c6, c7, c8⟩ := id hC
  obtain ⟨p1, p2, p3⟩ := id hP
  have q1 : CI (cv M 38) 10000 := by rw [c1]; exact p1
  refine ⟨_, fun M1 r M' => r = R_turns (mv M1) x k ∧ mv M' = F_turns (mv M1) x k ∧ FrM M1 M', aX_turns E M q1, fun x1 M1 hq => ?_⟩
  obtain ⟨hr, hv, hm⟩ := hq
  rw [c1] at hv
  have hN : NM M M1 := hm.nm
  have hcI := CI_turns (x := x) (k := k) p1
  have hC1 := IC_v hC hm hv hcI.2
  have hM1 := IM_eq hN.fm hM
  obtain ⟨n1, n2, n3, n4, n5, n6, n7, n8, n9⟩ := id hM1
  have r1 : CI (mv M1) 10000 := by rw [n1]; exact p1
  refine ⟨aM_turns E M1 r1, fun z1 M2 hz => ?_⟩
  obtain ⟨hr2, hv2, hm2⟩ := hz
  rw [n1] at hv2
  exact ⟨by rw [hr, hr2, c1, n1], ⟨_, IC_eq hm2.nx.fc hC1, IM_v hM1 hm2 hv2 hcI.2, ⟨hcI.1, p2, p3⟩⟩⟩
theorem pr_set (E : ev) (M : mm) (h : Inv M) (x : Int32) (u : Int32) (y : Int32) : Pr E M 2 yX6_set cX6_set 4 2 yX7_set cX7_set 5 [.inl x, .inl u, .inl y] := by
  obtain ⟨⟨v, tt, T, S, sl, wn, tl, tp, tn, bi, vi, Ti⟩, hC, hM, hP⟩ := h
  obtain ⟨c1, c2, c3, c4, c5, c6, c7, c8⟩ := id hC
  obtain ⟨p1, p2, p3⟩ := id hP
  have q1 : CI (cv M 38) 10000 := by rw [c1]; exact p1
  refine ⟨_, fun M1 r M' => r = R_set (mv M1) x u y ∧ mv M' = F_set (mv M1) x u y ∧ FrM M1 M', aX_set E M q1, fun x1 M1 hq => ?_⟩
  obtain ⟨hr, hv, hm⟩ := hq
  rw [c1] at hv
  have hN : NM M M1 := hm.nm
  have hcI := CI_set (x := x) (u := u) (y := y) p1
  have hC1 := IC_v hC hm hv hcI.2
  have hM1 := IM_eq hN.fm hM
  obtain ⟨n1, n2, n3, n4, n5, n6, n7, n8, n9⟩ := id hM1
  have r1 : CI (mv M1) 10000 := by rw [n1]; exact p1
  refine ⟨aM_set E M1 r1, fun z1 M2 hz => ?_⟩
  obtain ⟨hr2, hv2, hm2⟩ := hz
  rw [n1] at hv2
  exact ⟨by rw [hr, hr2, c1, n1], ⟨_, IC_eq hm2.nx.fc hC1, IM_v hM1 hm2 hv2 hcI.2, ⟨hcI.1, p2, p3⟩⟩⟩
theorem pr_person (E : ev) (M : mm) (h : Inv M) (k : Int32) (p : Int32) (t : Int32) : Pr E M 2 yX6_person cX6_person 4 2 yX7_person cX7_person 4 [.inl k, .inl p, .inl t] := by
  obtain ⟨⟨v, tt, T, S, sl, wn, tl, tp, tn, bi, vi, Ti⟩, hC, hM, hP⟩ := h
  obtain ⟨c1, c2, c3, c4, c5, c6, c7, c8⟩ := id hC
  obtain ⟨p1, p2, p3⟩ := id hP
  have q1 : CI (cv M 38) 10000 := by rw [c1]; exact p1
  refine ⟨_, fun M1 r M' => r = R_person (mv M1) k p t ∧ mv M' = F_person (mv M1) k p t ∧ FrM M1 M', aX_person E M q1, fun x1 M1 hq => ?_⟩
  obtain ⟨hr, hv, hm⟩ := hq
  rw [c1] at hv
  have hN : NM M M1 := hm.nm
  have hcI := CI_person (k := k) (p := p) (t := t) p1
  have hC1 := IC_v hC hm hv hcI.2
  have hM1 := IM_eq hN.fm hM
  obtain ⟨n1, n2, n3, n4, n5, n6, n7, n8, n9⟩ := id hM1
  have r1 : CI (mv M1) 10000 := by rw [n1]; exact p1
  refine ⟨aM_person E M1 r1, fun z1 M2 hz => ?_⟩
  obtain ⟨hr2, hv2, hm2⟩ := hz
  rw [n1] at hv2
  exact ⟨by rw [hr, hr2, c1, n1], ⟨_, IC_eq hm2.nx.fc hC1, IM_v hM1 hm2 hv2 hcI.2, ⟨hcI.1, p2, p3⟩⟩⟩
theorem pr_deal (E : ev) (M : mm) (h : Inv M) (n : Int32) : Pr E M 3 yX6_deal cX6_deal 4 3 yX7_deal cX7_deal 6 [.inl n] := by
  obtain ⟨⟨v, tt, T, S, sl, wn, tl, tp, tn, bi, vi, Ti⟩, hC, hM, hP⟩ := h
  obtain ⟨c1, c2, c3, c4, c5, c6, c7, c8⟩ := id hC
  obtain ⟨p1, p2, p3⟩ := id hP
  have q1 : CI (cv M 38) 10000 := by rw [c1]; exact p1
  refine ⟨_, fun M1 r M' => r = R_deal (mv M1) n ∧ mv M' = F_deal (mv M1) n ∧ FrM M1 M', aX_deal E M q1, fun x1 M1 hq => ?_⟩
  obtain ⟨hr, hv, hm⟩ := hq
  rw [c1] at hv
  have hN : NM M M1 := hm.nm
  have hcI := CI_deal (n := n) p1
  have hC1 := IC_v hC hm hv hcI.2
  have hM1 := IM_eq hN.fm hM
  obtain ⟨n1, n2, n3, n4, n5, n6, n7, n8, n9⟩ := id hM1
  have r1 : CI (mv M1) 10000 := by rw [n1]; exact p1
  refine ⟨aM_deal E M1 r1, fun z1 M2 hz => ?_⟩
  obtain ⟨hr2, hv2, hm2⟩ := hz
  rw [n1] at hv2
  exact ⟨by rw [hr, hr2, c1, n1], ⟨_, IC_eq hm2.nx.fc hC1, IM_v hM1 hm2 hv2 hcI.2, ⟨hcI.1, p2, p3⟩⟩⟩
theorem pr_weeks (E : ev) (M : mm) (h : Inv M) (n : Int32) : Pr E M 7 yX6_weeks cX6_weeks 3 8 yX7_weeks cX7_weeks 3 [.inl n] := by
  obtain ⟨⟨v, tt, T, S, sl, wn, tl, tp, tn, bi, vi, Ti⟩, hC, hM, hP⟩ := h
  obtain ⟨c1, c2, c3, c4, c5, c6, c7, c8⟩ := id hC
  obtain ⟨p1, p2, p3⟩ := id hP
  have q1 : CI (cv M 38) 10000 := by rw [c1]; exact p1
  refine ⟨_, fun M1 r M' => r = R_weeks (pfT tt T) (mv M1) n ∧ mv M' = F_weeks (pfT tt T) (mv M1) n ∧ FrM M1 M', aX_weeks E M q1 c2, fun x1 M1 hq => ?_⟩
  obtain ⟨hr, hv, hm⟩ := hq
  rw [c1] at hv
  have hN : NM M M1 := hm.nm
  have hcI := CI_weeks (pfT_ok tt T) (n := n) p1
  have hC1 := IC_v hC hm hv hcI.2
  have hM1 := IM_eq hN.fm hM
  obtain ⟨n1, n2, n3, n4, n5, n6, n7, n8, n9⟩ := id hM1
  have r1 : CI (mv M1) 10000 := by rw [n1]; exact p1
  refine ⟨aM_weeks E M1 r1 n2, fun z1 M2 hz => ?_⟩
  obtain ⟨hr2, hv2, hm2⟩ := hz
  rw [n1] at hv2
  exact ⟨by rw [hr, hr2, c1, n1], ⟨_, IC_eq hm2.nx.fc hC1, IM_v hM1 hm2 hv2 hcI.2, ⟨hcI.1, p2, p3⟩⟩⟩
theorem pr_pour (E : ev) (M : mm) (h : Inv M) (x : Int32) : Pr E M 2 yX6_pour cX6_pour 6 2 yX7_pour cX7_pour 6 [.inl x] := by
  obtain ⟨⟨v, tt, T, S, sl, wn, tl, tp, tn, bi, vi, Ti⟩, hC, hM, hP⟩ := h
  obtain ⟨c1, c2, c3, c4, c5, c6, c7, c8⟩ := id hC
  obtain ⟨p1, p2, p3⟩ := id hP
  have q1 : CI (cv M 38) 10000 := by rw [c1]; exact p1
  refine ⟨_, fun M1 r M' => r = R_pour (mv M1) S x ∧ mv M' = F_pour (mv M1) S x ∧ FrM M1 M', aX_pour E M q1 c3, fun x1 M1 hq => ?_⟩
  obtain ⟨hr, hv, hm⟩ := hq
  rw [c1] at hv
  have hN : NM M M1 := hm.nm
  have hcI := CI_pour (S := S) (x := x) p1
  have hC1 := IC_v hC hm hv hcI.2
  have hM1 := IM_eq hN.fm hM
  obtain ⟨n1, n2, n3, n4, n5, n6, n7, n8, n9⟩ := id hM1
  have r1 : CI (mv M1) 10000 := by rw [n1]; exact p1
  refine ⟨aM_pour E M1 r1 n3, fun z1 M2 hz => ?_⟩
  obtain ⟨hr2, hv2, hm2⟩ := hz
  rw [n1] at hv2
  exact ⟨by rw [hr, hr2, c1, n1], ⟨_, IC_eq hm2.nx.fc hC1, IM_v hM1 hm2 hv2 hcI.2, ⟨hcI.1, p2, p3⟩⟩⟩
theorem pr_seed (E : ev) (M : mm) (h : Inv M) (x : Int32) : Pr E M 0 yX6_seed cX6_seed 3 1 yX7_seed cX7_seed 2 [.inl x] := by
  obtain ⟨⟨v, tt, T, S, sl, wn, tl, tp, tn, bi, vi, Ti⟩, hC, hM, hP⟩ := h
  obtain ⟨c1, c2, c3, c4, c5, c6, c7, c8⟩ := id hC
  obtain ⟨p1, p2, p3⟩ := id hP
  refine ⟨_, fun M1 r M' => r = mv M1 0 ∧ mv M' = upd (mv M1) 0 x ∧ FrM M1 M', aX_seed E M , fun x1 M1 hq => ?_⟩
  obtain ⟨hr, hv, hm⟩ := hq
  rw [c1] at hv
  have hN : NM M M1 := hm.nm
  have hcI := (⟨CI_upd0 p1 (Or.inl rfl), pk_un (by decide)⟩ : CI (upd v 0 x) 10000 ∧ upd v 0 x 6 = v 6)
  have hC1 := IC_v hC hm hv hcI.2
  have hM1 := IM_eq hN.fm hM
  obtain ⟨n1, n2, n3, n4, n5, n6, n7, n8, n9⟩ := id hM1
  refine ⟨aM_seed E M1 , fun z1 M2 hz => ?_⟩
  obtain ⟨hr2, hv2, hm2⟩ := hz
  rw [n1] at hv2
  exact ⟨by rw [hr, hr2, c1, n1], ⟨_, IC_eq hm2.nx.fc hC1, IM_v hM1 hm2 hv2 hcI.2, ⟨hcI.1, p2, p3⟩⟩⟩
theorem pr_sheet (E : ev) (M : mm) (h : Inv M) (x : Int32) (s : Int32) (y : Int32) : Pr E M 2 yX6_sheet cX6_sheet 4 2 yX7_sheet cX7_sheet 5 [.inl x, .inl s, .inl y] := by
  obtain ⟨⟨v, tt, T, S, sl, wn, tl, tp, tn, bi, vi, Ti⟩, hC, hM, hP⟩ := h
  obtain ⟨c1, c2, c3, c4, c5, c6, c7, c8⟩ := id hC
  obtain ⟨p1, p2, p3⟩ := id hP
  refine ⟨_, fun M1 r M' => r = R_sheet x s y ∧ ShM3 M' (F_sheet S x s y) ∧ FrZ M1 M', aX_sheet E M c3, fun x1 M1 hq => ?_⟩
  obtain ⟨hr, hv, hm⟩ := hq
  have hN : NM M M1 := hm.nm
  have hC1 := IC_s hC hm hv
  have hM1 := IM_eq hN.fm hM
  obtain ⟨n1, n2, n3, n4, n5, n6, n7, n8, n9⟩ := id hM1
  refine ⟨aM_sheet E M1 n3, fun z1 M2 hz => ?_⟩
  obtain ⟨hr2, hv2, hm2⟩ := hz
  exact ⟨by rw [hr, hr2], ⟨_, IC_eq hm2.nx.fc hC1, IM_s hM1 hm2 hv2, hP⟩⟩
theorem pr_mark (E : ev) (M : mm) (h : Inv M) (x : Int32) (p : Int32) (y : Int32) : Pr E M 2 yX6_mark cX6_mark 5 2 yX7_mark cX7_mark 4 [.inl x, .inl p, .inl y] := by
  obtain ⟨⟨v, tt, T, S, sl, wn, tl, tp, tn, bi, vi, Ti⟩, hC, hM, hP⟩ := h
  obtain ⟨c1, c2, c3, c4, c5, c6, c7, c8⟩ := id hC
  obtain ⟨p1, p2, p3⟩ := id hP
  refine ⟨_, fun M1 r M' => r = R_mark S x p y ∧ ShM3 M' (F_mark S x p y) ∧ FrZ M1 M', aX_mark E M c3, fun x1 M1 hq => ?_⟩
  obtain ⟨hr, hv, hm⟩ := hq
  have hN : NM M M1 := hm.nm
  have hC1 := IC_s hC hm hv
  have hM1 := IM_eq hN.fm hM
  obtain ⟨n1, n2, n3, n4, n5, n6, n7, n8, n9⟩ := id hM1
  refine ⟨aM_mark E M1 n3, fun z1 M2 hz => ?_⟩
  obtain ⟨hr2, hv2, hm2⟩ := hz
  exact ⟨by rw [hr, hr2], ⟨_, IC_eq hm2.nx.fc hC1, IM_s hM1 hm2 hv2, hP⟩⟩
theorem pr_copy (E : ev) (M : mm) (h : Inv M) (a : Int32) (p : Int32) (b : Int32) (q : Int32) (m : Int32) : Pr E M 2 yX6_copy cX6_copy 8 2 yX7_copy cX7_copy 7 [.inl a, .inl p, .inl b, .inl q, .inl m] := by
  obtain ⟨⟨v, tt, T, S, sl, wn, tl, tp, tn, bi, vi, Ti⟩, hC, hM, hP⟩ := h
  obtain ⟨c1, c2, c3, c4, c5, c6, c7, c8⟩ := id hC
  obtain ⟨p1, p2, p3⟩ := id hP
  refine ⟨_, fun M1 r M' => r = R_copy S a p b q m ∧ ShM3 M' (F_copy S a p b q m) ∧ FrZ M1 M', aX_copy E M c3, fun x1 M1 hq => ?_⟩
  obtain ⟨hr, hv, hm⟩ := hq
  have hN : NM M M1 := hm.nm
  have hC1 := IC_s hC hm hv
  have hM1 := IM_eq hN.fm hM
  obtain ⟨n1, n2, n3, n4, n5, n6, n7, n8, n9⟩ := id hM1
  refine ⟨aM_copy E M1 n3, fun z1 M2 hz => ?_⟩
  obtain ⟨hr2, hv2, hm2⟩ := hz
  exact ⟨by rw [hr, hr2], ⟨_, IC_eq hm2.nx.fc hC1, IM_s hM1 hm2 hv2, hP⟩⟩
theorem pr_lay (E : ev) (M : mm) (h : Inv M) (x : Int32) (t : Int32) (y : Int32) : Pr E M 3 yX6_lay cX6_lay 6 3 yX7_lay cX7_lay 6 [.inl x, .inl t, .inl y] := by
  obtain ⟨⟨v, tt, T, S, sl, wn, tl, tp, tn, bi, vi, Ti⟩, hC, hM, hP⟩ := h
  obtain ⟨c1, c2, c3, c4, c5, c6, c7, c8⟩ := id hC
  obtain ⟨p1, p2, p3⟩ := id hP
  have q1 : CI (cv M 38) 10000 := by rw [c1]; exact p1
  refine ⟨_, fun M1 r M' => r = R_lay (mv M1) S sl x t y ∧ SlM M' (F_lay (mv M1) S sl x t y) ∧ FrK M1 M', aX_lay E M q1 c3 c4, fun x1 M1 hq => ?_⟩
  obtain ⟨hr, hv, hm⟩ := hq
  rw [c1] at hv
  have hN : NM M M1 := hm.nm
  have hC1 := IC_w hC hm hv
  have hM1 := IM_eq hN.fm hM
  obtain ⟨n1, n2, n3, n4, n5, n6, n7, n8, n9⟩ := id hM1
  have r1 : CI (mv M1) 10000 := by rw [n1]; exact p1
  refine ⟨aM_lay E M1 r1 n3 n4, fun z1 M2 hz => ?_⟩
  obtain ⟨hr2, hv2, hm2⟩ := hz
  rw [n1] at hv2
  exact ⟨by rw [hr, hr2, c1, n1], ⟨_, IC_eq hm2.nx.fc hC1, IM_w hM1 hm2 hv2, hP⟩⟩
