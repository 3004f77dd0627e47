/-! Strings: the six constants -/
set_option maxRecDepth 100000 in
theorem lJ0_9 : Cond.fieldLink RJ0 9 "java/lang/String" "value" "[B" ∈ gw := gw_tb 1322 rfl rfl
set_option maxRecDepth 100000 in
theorem lJ0_15 : Cond.fieldLink RJ0 15 "java/lang/String" "coder" "B" ∈ gw := gw_tb 1323 rfl rfl
set_option maxRecDepth 100000 in
theorem lJ0_38 : Cond.fieldLink RJ0 38 "java/lang/String" "COMPACT_STRINGS" "Z" ∈ gw := gw_tb 587 rfl rfl
set_option maxRecDepth 100000 in
theorem lJ0_1053 : Cond.fieldLink RJ0 1053 "jdk/internal/util/Preconditions" "SIOOBE_FORMATTER" "Ljava/util/function/BiFunction;" ∈ gw := gw_tb 603 rfl rfl
def qA (E : ev) (q : Nat) (M : mm) : qcT := va_Qr (fun M' => M' = M) (fun M' a t => a = eA E q ∧ wB E M' t) (Az E)
theorem pB_blind' (E : ev) (vs : List Value) (M : mm) : FrameBlind (va_Pc vs (pB E M)) := fun a U g mk q => by
  obtain ⟨q0, q1, q2, q3, q4⟩ := q
  exact ⟨q0, q1, va_K.moved (u := U) (U := U.calling g mk a) (Vm.Alike.refl U.vm) q2, SX.same (u := U) (U := U.calling g mk a) rfl q3, q4⟩
theorem ct_of3 {E : ev} {d : Nat} {y : MethodName} {cc : ByteArray} {ret : Option FieldType} {x z : Int32} {v : Value} {M : mm} {Qc : qcT} (hy : plainName y.cls = true) (hv : v.category = 1)
    (k : V E d y cc 3 ret Qc 0 [some (.inl x), some (.inl z), none] [] M) : Met (eL E) y (.code y cc 3 ret :: gw) (rm d) (va_Pc [.int x, .int z, v] (pB E M)) Qc 0 0 (Az E) := by
  refine Met.ofW (cc := cc) (maxL := 3) (ret := ret) hy rfl ?_
  intro p e s m args below meth c s₁ B hml hvv
  obtain ⟨rfl, hP, hK, hSF, hLie⟩ := hvv
  have hts := atoms_spec (ws := .code y cc 3 ret :: gw) B.pre
  have hown : s.vm.findClass y.cls = some m.cls := findClass_of_methodNamed B.named
  rw [lg_entry_eq]
  have hl := lv_entry [.int x, .int z, v] (n := 3) (by unfold lg_sl; simp [Value.category] at hv ⊢; simp [hv])
  refine k p e s m _ below meth c s.heap [] _ ⟨B.exec, B.bytes, hml, B.returns, hown, fun w h => hts w (List.mem_cons_of_mem _ h), B.notSynchronized, hK, hSF, hLie⟩ hP va_S.rf ⟨hl.1, hl.2.1, fun q hq => hl.2.2 q ?_⟩
  have hq2 : q = (0, .int x) ∨ q = (1, .int z) := by
    simp [lz, rv] at hq
    exact hq
  rcases hq2 with rfl | rfl <;> simp [lv_args, Value.category]
section VS
variable {E : ev} {d d' : Nat} {y y' : MethodName} {cc cc' : ByteArray} {nL nL' : Nat} {ret ret' : Option FieldType} {Qc : qcT} {pc : Nat} {L : List (Option av)} {S St : List av} {M : mm} {as : List av}
theorem v_ldcS {i q : Nat} {tx : String} (hd : decode cc pc = .ok (.ldc i, 2)) (hr : ∀ s, RS E s → vk_R y.cls i tx (eA E (210 + q)) s) (k : V E d y cc nL ret Qc (pc + 2) L (.inr (210 + q) :: S) M) : V E d y cc nL ret Qc pc L S M := by
  intro p e s m args below meth c H locs ls C hP hS hl
  exact va_ldcS C.1 C.2.1 C.2.2.2.2.1 (hr s C.2.2.2.2.2.2.2.2.1.2.2.2) hd (k p e s m args below meth c H locs ls C hP hS hl)
theorem v_strV {i j : Nat} (hd : decode cc pc = .ok (.getfield j, 3)) (hi : i < 6) (hy : y.cls = RJ0) (hj : j = 9) (k : V E d y cc nL ret Qc (pc + 3) L (.inr (220 + i) :: S) M) : V E d y cc nL ret Qc pc L (.inr (210 + i) :: S) M := by
  intro p e s m args below meth c H locs ls C hP hS hl
  subst hj
  exact vk_getf C.1 C.2.1 (C.2.2.2.2.2.2.2.2.1.2.2.1.1.1 i hi).2.2.1 hS (own := RJ0) (by rw [← hy]; exact C.2.2.2.2.1) (C.2.2.2.2.2.1 _ lJ0_9) (fun x h => h) hd (k p e s m args below meth c H locs ls C hP hS hl)
theorem v_strC {i j : Nat} (hd : decode cc pc = .ok (.getfield j, 3)) (hi : i < 6) (hy : y.cls = RJ0) (hj : j = 15) (k : V E d y cc nL ret Qc (pc + 3) L (.inl 0 :: S) M) : V E d y cc nL ret Qc pc L (.inr (210 + i) :: S) M := by
  intro p e s m args below meth c H locs ls C hP hS hl
  subst hj
  exact vk_getf C.1 C.2.1 (C.2.2.2.2.2.2.2.2.1.2.2.1.1.1 i hi).2.1 hS (own := RJ0) (by rw [← hy]; exact C.2.2.2.2.1) (C.2.2.2.2.2.1 _ lJ0_15) (fun x h => h) hd (k p e s m args below meth c H locs ls C hP hS hl)
theorem v_getCS {j : Nat} (hd : decode cc pc = .ok (.getstatic j, 3)) (hy : y.cls = RJ0) (hj : j = 38) (k : V E d y cc nL ret Qc (pc + 3) L (.inl 1 :: S) M) : V E d y cc nL ret Qc pc L S M := by
  intro p e s m args below meth c H locs ls C hP hS hl
  subst hj
  exact va_gets C.1 C.2.1 C.2.2.2.2.2.2.2.2.1.2.2.1.2.1 hS (own := RJ0) (by rw [← hy]; exact C.2.2.2.2.1) (C.2.2.2.2.2.1 _ lJ0_38) (fun x h => h) hd (k p e s m args below meth c H locs ls C hP hS hl)
theorem v_slen {i : Nat} (hd : decode cc pc = .ok (.arraylength, 1)) (hi : i < 6) (k : V E d y cc nL ret Qc (pc + 1) L (.inl (nI (lenS.getD i 0)) :: S) M) : V E d y cc nL ret Qc pc L (.inr (220 + i) :: S) M := by
  intro p e s m args below meth c H locs ls C hP hS hl
  exact va_tlen C.1 C.2.1 (C.2.2.2.2.2.2.2.2.1.2.2.1.1.1 i hi).2.2.2 hS rfl hd (k p e s m args below meth c H locs ls C hP hS hl)
theorem v_sbald {i j : Nat} (hd : decode cc pc = .ok (.baload, 1)) (hi : i < 6) (hj : j < lenS.getD i 0 ∧ j < 6) (k : V E d y cc nL ret Qc (pc + 1) L (.inl ((bytS.getD i []).getD j 0) :: S) M) : V E d y cc nL ret Qc pc L (.inl (nI j) :: .inr (220 + i) :: S) M := by
  intro p e s m args below meth c H locs ls C hP hS hl
  have hl31 : ∀ i : Fin 6, lenS.getD i.val 0 < 2 ^ 31 := by decide
  exact va_tb C.1 C.2.1 (C.2.2.2.2.2.2.2.2.1.2.2.1.1.1 i hi).2.2.2 hS (vp_in_nI hj.1 (hl31 ⟨i, hi⟩)) (v := .int ((bytS.getD i []).getD j 0)) (by rw [nI_clamp (by omega)]) hd (k p e s m args below meth c H locs ls C hP hS hl)
theorem v_bret {Q : Int32 → mm → Prop} {r : Int32} (hd : decode cc pc = .ok (.ireturn, 1)) (hr : ret = some .byte) (hb : narrow .byte (.int r) = .int r) (hq : Q r M) : V E d y cc nL ret (qI E Q) pc L [.inl r] M := by
  intro p e s m args below meth c H locs ls C hP hS hl
  exact W.zret C.1 C.2.1 (by rw [C.2.2.2.1]; exact hr) hb (fun t ht _ => ⟨⟨r, M, rfl, hq, by show va_P _ _ _ _; rw [ht]; exact hP⟩, hS.F ht⟩) hS.2.2 hd C.2.2.2.2.2.2.1
theorem v_cret {Q : Int32 → mm → Prop} {r : Int32} (hd : decode cc pc = .ok (.ireturn, 1)) (hr : ret = some .char) (hb : narrow .char (.int r) = .int r) (hq : Q r M) : V E d y cc nL ret (qI E Q) pc L [.inl r] M := by
  intro p e s m args below meth c H locs ls C hP hS hl
  exact W.zret C.1 C.2.1 (by rw [C.2.2.2.1]; exact hr) hb (fun t ht _ => ⟨⟨r, M, rfl, hq, by show va_P _ _ _ _; rw [ht]; exact hP⟩, hS.F ht⟩) hS.2.2 hd C.2.2.2.2.2.2.1
theorem v_aret {q : Nat} {A : mm} (hd : decode cc pc = .ok (.areturn, 1)) (hr : ret = some (.object "java/lang/String")) (hq : M = A) : V E d y cc nL ret (qA E q A) pc L [.inr q] M := by
  intro p e s m args below meth c H locs ls C hP hS hl
  exact W.aret C.1 C.2.1 (by rw [C.2.2.2.1]; exact hr) (Or.inl ⟨_, rfl⟩) (Or.inr ⟨_, rfl⟩) (fun t ht _ => ⟨⟨M, eA E q, rfl, hq, rfl, by show va_P _ _ _ _; rw [ht]; exact hP⟩, hS.F ht⟩) hS.2.2 hd C.2.2.2.2.2.2.1
theorem v_callSr {i n q : Nat} (hC : Ct E d' y' cc' nL' ret' as M (qA E q M)) (hd : decode cc pc = .ok (.invokestatic i, 3)) (hv : CS y.cls i y' cc' nL' ret' n) (hn : as.length = n) (hdd : d' < d) (hs : S.length ≤ 8) (hst : St = as.reverse ++ S) (k : V E d y cc nL ret Qc (pc + 3) L (.inr q :: S) M) : V E d y cc nL ret Qc pc L St M := by
  intro p e s m args below meth c H locs ls C hP hS hl
  subst hst
  exact va_callr (A0 := Az E) (H0 := s.heap) (v_runS hC hd hv hn hdd hs C hP hS hl) hS (fun q _ h => h) (fun q h => h) (fun u ra t H1 locs1 ht hvm hw hB hz1 hk1 hS1 => by
    obtain ⟨ha, hB'⟩ := hB
    rw [ha]
    have hB2 : va_P (eD E) vwCl (wl E u) t.heap := hB'
    rw [ht, hw] at hB2
    exact k p e s m args below meth c H1 locs1 ls C hB2 hS1 hl)
theorem v_runVs {i n q : Nat} {Qd : qcT} (hC : Ct E d' y' cc' nL' ret' (.inr (210 + q) :: as) M Qd) (hq6 : q < 6) (hd : decode cc pc = .ok (.invokevirtual i, 3)) (hv : CV y.cls i y' cc' nL' ret' n) (hcl : y'.cls = "java/lang/String") (hn : as.length = n) (hdd : d' < d) (hs : S.length ≤ 8) {p : Program} {e : Env} {s : State} {m : MethodId} {args : Array Value} {below : List Frame} {meth : Method} {c : Code} {H : Heap} {locs : List Loc} {ls : Array Slot} (C : Cx E p s m args meth c y cc nL ret) (hP : va_P (eD E) vwCl (wl E M) H) (hS : va_S (Az E) s.heap H locs) (hl : lh E ls nL L) :
    va_Run p (eL E) e (rm d) s m args below meth c H locs 0 0 0 0 (F0 m pc ls ((as.reverse ++ .inr (210 + q) :: S).map (rv E))) (S.map (rv E)) (Qd ((.inr (210 + q) :: as).map (rv E)).toArray) (Az E) := by
  obtain ⟨hw, hq, h13⟩ := hv
  have hG : GoodIn gw (wsV y.cls i y'.cls y' (.code y' cc' nL' ret' :: gw)) := by
    refine gw_good (fun _ h => h) _ (fun w h => ?_)
    unfold wsV at h hw
    rcases List.mem_append.mp h with h | h
    · exact hw w (List.mem_append_left _ h)
    · rcases List.mem_cons.mp h with h | h
      · exact hw w (List.mem_append_right _ (by rw [h]; exact List.mem_singleton_self _))
      · exact h
  have cw : CallW (rm d) s args y.cls y'.cls i y' cc' nL' ret' (.code y' cc' nL' ret' :: gw) (rm d') 0 0 n := cwV n C.2.2.2.2.2.1 hG rfl rfl rfl ⟨rfl, hq⟩ ⟨hdd, by show 8 + (nL' + 11) + 32 * d' ≤ 32 * d; omega⟩
  have hrec := vk_recv C.2.2.2.2.2.2.2.2.1.2.2.1.1 hq6 hS
  rw [← hcl] at hrec
  exact va_runV (As := as.map (rv E)) (rest := S.map (rv E)) ⟨C.1, C.2.1, C.2.2.1, C.2.2.2.2.1, C.2.2.2.2.2.1⟩ hC cw ⟨pB_blind E _ M, hrec, fun U hU hW => ⟨rfl, pB_at C hP hS U hU hW⟩⟩ rfl (by rw [List.length_map]; exact hn) hl.1 (by simp [rv]) (lv_room (by rw [rv_sum]; exact hs)) hd ⟨Nat.le_refl _, Nat.le_refl _⟩
theorem v_callVsi {i n q : Nat} {Q' : Int32 → mm → Prop} (hC : Ct E d' y' cc' nL' ret' (.inr (210 + q) :: as) M (qI E Q')) (hq6 : q < 6) (hd : decode cc pc = .ok (.invokevirtual i, 3)) (hv : CV y.cls i y' cc' nL' ret' n) (hcl : y'.cls = "java/lang/String") (hn : as.length = n) (hdd : d' < d) (hs : S.length ≤ 8) (hst : St = as.reverse ++ .inr (210 + q) :: S) (k : ∀ (r : Int32) (M' : mm), Q' r M' → V E d y cc nL ret Qc (pc + 3) L (.inl r :: S) M') : V E d y cc nL ret Qc pc L St M := by
  intro p e s m args below meth c H locs ls C hP hS hl
  subst hst
  exact va_calli (A0 := Az E) (H0 := s.heap) (v_runVs hC hq6 hd hv hcl hn hdd hs C hP hS hl) hS (fun q _ h => h) (fun q h => h) (fun r u t H1 locs1 ht hvm hw hB hz1 hk1 hS1 => k r u hw p e s m args below meth c H1 locs1 ls C (by have hB' : va_P (eD E) vwCl (wl E u) t.heap := hB; rw [ht] at hB'; exact hB') hS1 hl)
end VS
theorem kJ_ck3 (E : ev) (Mz : mm) {x z : Int32} {v : Value} (hv : v.category = 1) (hx0 : ¬ x < 0) (hx1 : x < z) : Met (eL E) yJ3_checkIndex_8e157 (.code yJ3_checkIndex_8e157 cJ3_checkIndex_8e157 3 (some .int) :: gw) (rm 0) (va_Pc [.int x, .int z, v] (pB E Mz)) (qI E (fun r M' => r = x ∧ M' = Mz)) 0 0 (Az E) := by
  refine ct_of3 (by decide) hv ?_
  refine v_ild0 dJ3_checkIndex_8e157_0 ?_
  refine v_if_lt (tgt := 9) dJ3_checkIndex_8e157_1 (by decide) (fun h1 => absurd h1 (hx0)) (fun h1 => ?_)
  refine v_ild0 dJ3_checkIndex_8e157_4 ?_
  refine v_ild1 dJ3_checkIndex_8e157_5 ?_
  refine v_icmp_lt (tgt := 16) dJ3_checkIndex_8e157_6 (by decide) (fun h6 => ?_) (fun h6 => absurd h6 (fun q => q hx1))
  refine v_ild0 dJ3_checkIndex_8e157_16 ?_
  exact v_iret dJ3_checkIndex_8e157_17 rfl (⟨rfl, rfl⟩)
theorem v_ck {E : ev} {d : Nat} {y : MethodName} {cc : ByteArray} {nL : Nat} {ret : Option FieldType} {Qc : qcT} {pc : Nat} {L : List (Option av)} {S : List av} {M : mm} {x z : Int32} (hd : decode cc pc = .ok (.getstatic 1053, 3)) (hd5 : decode cc (pc + 3) = .ok (.invokestatic 1059, 3)) (hy : y.cls = RJ0) (h0 : ¬ x < 0) (h1 : x < z) (hdd : 0 < d) (hs : S.length ≤ 8) (k : V E d y cc nL ret Qc (pc + 3 + 3) L (.inl x :: S) M) : V E d y cc nL ret Qc pc L (.inl z :: .inl x :: S) M := by
  intro p e s m args below meth c H locs ls C hP hS hl
  have key : ∀ v : Value, v.category = 1 → W p (eL E) e (rm d) s m args below meth c H locs 0 0 (MQ below Qc args s 0 0 (Az E)) (F0 m (pc + 3) ls (v :: .int z :: .int x :: S.map (rv E))) := by
    intro v hv
    obtain ⟨hw, hq, h13⟩ := (by rw [hy]; exact cJ0_1059 : CS y.cls 1059 yJ3_checkIndex_8e157 cJ3_checkIndex_8e157 3 (some .int) 3)
    have hG : GoodIn gw (va_wsS y.cls 1059 yJ3_checkIndex_8e157 (.code yJ3_checkIndex_8e157 cJ3_checkIndex_8e157 3 (some .int) :: gw)) := by
      refine gw_good (fun _ h => h) _ (fun w h => ?_)
      unfold va_wsS at h hw
      rcases List.mem_append.mp h with h | h
      · exact hw w (List.mem_append_left _ h)
      · rcases List.mem_cons.mp h with h | h
        · exact hw w (List.mem_append_right _ (by rw [h]; exact List.mem_singleton_self _))
        · exact h
    have cw := va_cwS (R := rm d) (s := s) (args := args) (own := y.cls) (index := 1059) (y := yJ3_checkIndex_8e157) (bytes := cJ3_checkIndex_8e157) (maxL := 3) (mc := 0) (ms := 0) (ret := some .int) (rm := rm 0) 3 C.2.2.2.2.2.1 hG rfl rfl rfl hq ⟨hdd, by show 8 + (3 + 11) + 32 * 0 ≤ 32 * d; omega⟩
    have run := va_runS (e := e) (below := below) (meth := meth) (locs := locs) (As := [.int x, .int z, v]) (rest := S.map (rv E)) (g := F0 m (pc + 3) ls (v :: .int z :: .int x :: S.map (rv E))) ⟨C.1, C.2.1, C.2.2.1, C.2.2.2.2.1, C.2.2.2.2.2.1⟩ (kJ_ck3 E M hv h0 h1) cw ⟨pB_blind' E _ M, fun U hU hW => ⟨rfl, pB_at C hP hS U hU hW⟩⟩ rfl rfl hl.1 (by simp) (lv_room (by rw [rv_sum]; exact hs)) hd5 ⟨Nat.le_refl _, Nat.le_refl _⟩
    exact va_calli (A0 := Az E) (H0 := s.heap) run hS (fun q _ h => h) (fun q h => h) (fun r u t H1 locs1 ht hvm hw2 hB hz1 hk1 hS1 => by
      obtain ⟨hr, hu⟩ := hw2
      rw [hr]
      exact k p e s m args below meth c H1 locs1 ls C (by have hB' : va_P (eD E) vwCl (wl E u) t.heap := hB; rw [ht, hu] at hB'; exact hB') hS1 hl)
  rcases C.2.2.2.2.2.2.2.2.1.2.2.1.2.2 with hz | ⟨t, hz⟩
  · exact va_gets C.1 C.2.1 hz hS (own := RJ0) (by rw [← hy]; exact C.2.2.2.2.1) (C.2.2.2.2.2.1 _ lJ0_1053) (fun x h => h) hd (key .null rfl)
  · exact va_gets C.1 C.2.1 hz hS (own := RJ0) (by rw [← hy]; exact C.2.2.2.2.1) (C.2.2.2.2.2.1 _ lJ0_1053) (fun x h => h) hd (key (.ref t) rfl)
set_option maxRecDepth 100000 in
theorem kJ_checkIndex (E : ev) (Mz : mm) {x z : Int32} (h0 : ¬ x < 0) (h1 : x < z) : Ct E 1 yJ0_checkIndex_df160 cJ0_checkIndex_df160 2 none [.inl x, .inl z] Mz (qV E (fun M' => M' = Mz)) := by
  refine ct_of (by decide) (Nat.le_of_ble_eq_true rfl) ?_
  show V E 1 _ _ _ _ _ 0 [some (.inl x), some (.inl z)] [] Mz
  refine v_ild0 dJ0_checkIndex_df160_0 ?_
  refine v_ild1 dJ0_checkIndex_df160_1 ?_
  refine v_ck dJ0_checkIndex_df160_2 dJ0_checkIndex_df160_5 rfl h0 h1 (by decide) (Nat.le_of_ble_eq_true rfl) ?_
  refine v_pop dJ0_checkIndex_df160_8 ?_
  exact v_vret dJ0_checkIndex_df160_9 rfl rfl
def lnS (i : Nat) : Nat := lenS.getD i 0
def btS (i k : Nat) : Int32 := (bytS.getD i []).getD k 0
theorem lnD : ∀ i : Fin 6, 0 < lnS i.val ∧ lnS i.val ≤ 6 ∧ nI (lnS i.val) >>> ((0 : Int32) &&& 31) = nI (lnS i.val) := by decide +kernel
theorem btD : ∀ i : Fin 6, ∀ k : Fin 6, (((btS i.val k.val) &&& nI 255).toUInt32 % 65536).toInt32 = btS i.val k.val ∧ narrow .char (.int (btS i.val k.val)) = .int (btS i.val k.val) := by decide +kernel
theorem ln_ok {i : Nat} (h : i < 6) : 0 < lnS i ∧ lnS i ≤ 6 ∧ nI (lnS i) >>> ((0 : Int32) &&& 31) = nI (lnS i) := lnD ⟨i, h⟩
theorem bt_ok {i k : Nat} (h : i < 6) (hk : k < 6) : (((btS i k) &&& nI 255).toUInt32 % 65536).toInt32 = btS i k ∧ narrow .char (.int (btS i k)) = .int (btS i k) := btD ⟨i, h⟩ ⟨k, hk⟩
set_option maxRecDepth 100000 in
set_option maxHeartbeats 4000000 in
theorem kJ_coder (E : ev) (Mz : mm) {i : Nat} (hi : i < 6) : Ct E 0 yJ0_coder_7d493 cJ0_coder_7d493 1 (some .byte) [.inr (210 + i)] Mz (qI E (fun r M' => r = 0 ∧ M' = Mz)) := by
  refine ct_of (by decide) (Nat.le_of_ble_eq_true rfl) ?_
  show V E 0 _ _ _ _ _ 0 [some (.inr (210 + i))] [] Mz
  refine v_getCS dJ0_coder_7d493_0 rfl rfl ?_
  refine v_if_eq (tgt := 13) dJ0_coder_7d493_3 (by decide) (fun h3 => absurd h3 (by decide)) (fun h3 => ?_)
  refine v_ald0 dJ0_coder_7d493_6 ?_
  refine v_strC dJ0_coder_7d493_7 hi rfl rfl ?_
  refine v_goto (tgt := 14) dJ0_coder_7d493_10 (by decide) ?_
  exact v_bret dJ0_coder_7d493_14 rfl (by decide +kernel) (⟨rfl, rfl⟩)
set_option maxRecDepth 100000 in
set_option maxHeartbeats 4000000 in
theorem kJ_isLatin1 (E : ev) (Mz : mm) {i : Nat} (hi : i < 6) : Ct E 0 yJ0_isLatin1_aae02 cJ0_isLatin1_aae02 1 (some .boolean) [.inr (210 + i)] Mz (qI E (fun r M' => r = nI 1 ∧ M' = Mz)) := by
  refine ct_of (by decide) (Nat.le_of_ble_eq_true rfl) ?_
  show V E 0 _ _ _ _ _ 0 [some (.inr (210 + i))] [] Mz
  refine v_getCS dJ0_isLatin1_aae02_0 rfl rfl ?_
  refine v_if_eq (tgt := 17) dJ0_isLatin1_aae02_3 (by decide) (fun h3 => absurd h3 (by decide)) (fun h3 => ?_)
  refine v_ald0 dJ0_isLatin1_aae02_6 ?_
  refine v_strC dJ0_isLatin1_aae02_7 hi rfl rfl ?_
  refine v_if_ne (tgt := 17) dJ0_isLatin1_aae02_10 (by decide) (fun h10 => absurd h10 (by decide)) (fun h10 => ?_)
  refine v_iconstN (n := 1) dJ0_isLatin1_aae02_13 ?_
  refine v_goto (tgt := 18) dJ0_isLatin1_aae02_14 (by decide) ?_
  exact v_zret dJ0_isLatin1_aae02_18 rfl (by decide +kernel) (⟨rfl, rfl⟩)
set_option maxRecDepth 100000 in
set_option maxHeartbeats 4000000 in
theorem kJ_length (E : ev) (Mz : mm) {i : Nat} (hi : i < 6) : Ct E 1 yJ0_length_8abf5 cJ0_length_8abf5 1 (some .int) [.inr (210 + i)] Mz (qI E (fun r M' => r = nI (lnS i) ∧ M' = Mz)) := by
  refine ct_of (by decide) (Nat.le_of_ble_eq_true rfl) ?_
  show V E 1 _ _ _ _ _ 0 [some (.inr (210 + i))] [] Mz
  refine v_ald0 dJ0_length_8abf5_0 ?_
  refine v_strV dJ0_length_8abf5_1 hi rfl rfl ?_
  refine v_slen dJ0_length_8abf5_4 hi ?_
  refine v_ald0 dJ0_length_8abf5_5 ?_
  refine v_callVsi (kJ_coder E Mz hi) hi dJ0_length_8abf5_6 cJ0_335 rfl rfl (by decide) (Nat.le_of_ble_eq_true rfl) rfl (fun r M1z hq => ?_)
  obtain ⟨hr, hm⟩ := hq
  rw [hr, hm]
  clear hr hm
  refine v_ishr dJ0_length_8abf5_9 ?_
  exact v_iret dJ0_length_8abf5_10 rfl (⟨(ln_ok hi).2.2, rfl⟩)
set_option maxRecDepth 100000 in
set_option maxHeartbeats 4000000 in
theorem kJ1_charAt (E : ev) (Mz : mm) {i k : Nat} (hi : i < 6) (hk : k < lnS i) : Ct E 2 yJ1_charAt_3b067 cJ1_charAt_3b067 2 (some .char) [.inr (220 + i), .inl (nI k)] Mz (qI E (fun r M' => r = btS i k ∧ M' = Mz)) := by
  refine ct_of (by decide) (Nat.le_of_ble_eq_true rfl) ?_
  show V E 2 _ _ _ _ _ 0 [some (.inr (220 + i)), some (.inl (nI k))] [] Mz
  have hln := ln_ok hi
  refine v_ild1 dJ1_charAt_3b067_0 ?_
  refine v_ald0 dJ1_charAt_3b067_1 ?_
  refine v_slen dJ1_charAt_3b067_2 hi ?_
  refine v_callSv (kJ_checkIndex E Mz (nI_pos (by omega)) (nI_lt hk (by show lnS i < _; omega))) dJ1_charAt_3b067_3 cJ1_9 rfl (by decide) (Nat.le_of_ble_eq_true rfl) rfl (fun M1z hq => ?_)
  rw [hq]
  clear hq
  refine v_ald0 dJ1_charAt_3b067_6 ?_
  refine v_ild1 dJ1_charAt_3b067_7 ?_
  refine v_sbald dJ1_charAt_3b067_8 hi (⟨hk, by omega⟩) ?_
  refine v_sipushN (n := 255) dJ1_charAt_3b067_9 (by decide +kernel) ?_
  refine v_iand dJ1_charAt_3b067_12 ?_
  refine v_i2c dJ1_charAt_3b067_13 ?_
  refine v_eq ((bt_ok hi (by omega)).1) ?_
  exact v_cret dJ1_charAt_3b067_14 rfl ((bt_ok hi (by omega)).2) (⟨rfl, rfl⟩)
set_option maxRecDepth 100000 in
set_option maxHeartbeats 4000000 in
theorem kJ_charAt (E : ev) (Mz : mm) {i k : Nat} (hi : i < 6) (hk : k < lnS i) : Ct E 3 yJ0_charAt_5068e cJ0_charAt_5068e 2 (some .char) [.inr (210 + i), .inl (nI k)] Mz (qI E (fun r M' => r = btS i k ∧ M' = Mz)) := by
  refine ct_of (by decide) (Nat.le_of_ble_eq_true rfl) ?_
  show V E 3 _ _ _ _ _ 0 [some (.inr (210 + i)), some (.inl (nI k))] [] Mz
  refine v_ald0 dJ0_charAt_5068e_0 ?_
  refine v_callVsi (kJ_isLatin1 E Mz hi) hi dJ0_charAt_5068e_1 cJ0_492 rfl rfl (by decide) (Nat.le_of_ble_eq_true rfl) rfl (fun r M1z hq => ?_)
  obtain ⟨hr, hm⟩ := hq
  rw [hr, hm]
  clear hr hm
  refine v_if_eq (tgt := 16) dJ0_charAt_5068e_4 (by decide) (fun h4 => absurd h4 (by decide)) (fun h4 => ?_)
  refine v_ald0 dJ0_charAt_5068e_7 ?_
  refine v_strV dJ0_charAt_5068e_8 hi rfl rfl ?_
  refine v_ild1 dJ0_charAt_5068e_11 ?_
  refine v_callSi (kJ1_charAt E Mz hi hk) dJ0_charAt_5068e_12 cJ0_495 rfl (by decide) (Nat.le_of_ble_eq_true rfl) rfl (fun r M1z hq => ?_)
  obtain ⟨hr, hm⟩ := hq
  rw [hr, hm]
  clear hr hm
  exact v_cret dJ0_charAt_5068e_15 rfl ((bt_ok hi (by have := (ln_ok hi).2.1; omega)).2) (⟨rfl, rfl⟩)
def ixR (i : Nat) (c : Int32) : Nat → Int32
  | 0 => -1
  | r + 1 => if btS i (lnS i - (r + 1)) = c then nI (lnS i - (r + 1)) else ixR i c r
theorem ix_t {i k : Nat} {c : Int32} (hk : k < lnS i) (h : btS i k = c) : ixR i c (lnS i - k) = nI k := by
  rw [show lnS i - k = (lnS i - k - 1) + 1 by omega]
  unfold ixR
  rw [show lnS i - (lnS i - k - 1 + 1) = k by omega, if_pos h]
theorem ix_f {i k : Nat} {c : Int32} (hk : k < lnS i) (h : ¬ btS i k = c) : ixR i c (lnS i - k) = ixR i c (lnS i - (k + 1)) := by
  rw [show lnS i - k = (lnS i - (k + 1)) + 1 by omega]
  conv => lhs; unfold ixR
  rw [show lnS i - (lnS i - (k + 1) + 1) = k by omega, if_neg h]
theorem i2bD : ∀ c : Fin 128, (nI c.val).toInt8.toInt32 = nI c.val := by decide +kernel
theorem i2b_c {c : Nat} (h : c < 128) : (nI c).toInt8.toInt32 = nI c := i2bD ⟨c, h⟩
set_option maxRecDepth 100000 in
set_option maxHeartbeats 4000000 in
theorem kJ_indexOfChar (E : ev) (Mz : mm) {i c : Nat} (hi : i < 6) (hc : c < 128) : Ct E 0 yJ1_indexOfChar_4cfef cJ1_indexOfChar_4cfef 6 (some .int) [.inr (220 + i), .inl (nI c), .inl (nI 0), .inl (nI (lnS i))] Mz (qI E (fun r M' => r = ixR i (nI c) (lnS i) ∧ M' = Mz)) := by
  refine ct_of (by decide) (Nat.le_of_ble_eq_true rfl) ?_
  show V E 0 _ _ _ _ _ 0 [some (.inr (220 + i)), some (.inl (nI c)), some (.inl (nI 0)), some (.inl (nI (lnS i))), none, none] [] Mz
  have hln := ln_ok hi
  refine v_ild1 dJ1_indexOfChar_4cfef_0 ?_
  refine v_i2b dJ1_indexOfChar_4cfef_1 ?_
  refine v_eq (i2b_c hc) ?_
  refine v_ist4 dJ1_indexOfChar_4cfef_2 (by decide) ?_
  refine v_ild2 dJ1_indexOfChar_4cfef_4 ?_
  refine v_ist5 dJ1_indexOfChar_4cfef_5 (by decide) ?_
  refine v_loopQ (pc := 7) (fun k => [some (.inr (220 + i)), some (.inl (nI c)), some (.inl (nI 0)), some (.inl (nI (lnS i))), some (.inl (nI c)), some (.inl (nI k))]) (fun k => ixR i (nI c) (lnS i) = ixR i (nI c) (lnS i - k)) (lnS i) (rfl) (rfl) (fun k hk hrs ih => ?_) (fun hrs => ?_)
  · refine v_ild5 dJ1_indexOfChar_4cfef_7 ?_
    refine v_ild3 dJ1_indexOfChar_4cfef_9 ?_
    refine v_icmpN_ge (tgt := 31) dJ1_indexOfChar_4cfef_10 (by decide) (by omega) (by omega) (fun h10 => absurd h10 (by omega)) (fun h10 => ?_)
    refine v_ald0 dJ1_indexOfChar_4cfef_13 ?_
    refine v_ild5 dJ1_indexOfChar_4cfef_14 ?_
    refine v_sbald dJ1_indexOfChar_4cfef_16 hi (⟨hk, by omega⟩) ?_
    refine v_ild4 dJ1_indexOfChar_4cfef_17 ?_
    refine v_icmp_ne (tgt := 25) dJ1_indexOfChar_4cfef_19 (by decide) (fun h19 => ?_) (fun h19 => ?_)
    · refine v_iincN5 (n := 1) dJ1_indexOfChar_4cfef_25 (by decide) ?_
      refine v_goto (tgt := 7) dJ1_indexOfChar_4cfef_28 (by decide) ?_
      exact ih (hrs.trans (ix_f hk h19))
    · refine v_ild5 dJ1_indexOfChar_4cfef_22 ?_
      exact v_iret dJ1_indexOfChar_4cfef_24 rfl (⟨(hrs.trans (ix_t hk h19)).symm, rfl⟩)
  · refine v_ild5 dJ1_indexOfChar_4cfef_7 ?_
    refine v_ild3 dJ1_indexOfChar_4cfef_9 ?_
    refine v_icmpN_ge (tgt := 31) dJ1_indexOfChar_4cfef_10 (by decide) (by omega) (by omega) (fun h10 => ?_) (fun h10 => absurd h10 (by omega))
    refine v_iconst (x := -1) dJ1_indexOfChar_4cfef_31 (by decide) ?_
    exact v_iret dJ1_indexOfChar_4cfef_32 rfl (⟨by rw [Nat.sub_self] at hrs; exact hrs.symm, rfl⟩)
set_option maxRecDepth 100000 in
set_option maxHeartbeats 4000000 in
theorem kJ_canEncode (E : ev) (Mz : mm) {c : Nat} (hc : c < 128) : Ct E 0 yJ1_canEncode_9a6ad cJ1_canEncode_9a6ad 1 (some .boolean) [.inl (nI c)] Mz (qI E (fun r M' => r = nI 1 ∧ M' = Mz)) := by
  refine ct_of (by decide) (Nat.le_of_ble_eq_true rfl) ?_
  show V E 0 _ _ _ _ _ 0 [some (.inl (nI c))] [] Mz
  refine v_ild0 dJ1_canEncode_9a6ad_0 ?_
  refine v_if_lt (tgt := 15) dJ1_canEncode_9a6ad_1 (by decide) (fun h1 => absurd h1 (nI_pos (by omega))) (fun h1 => ?_)
  refine v_ild0 dJ1_canEncode_9a6ad_4 ?_
  refine v_sipushN (n := 255) dJ1_canEncode_9a6ad_5 (by decide +kernel) ?_
  refine v_icmpN_gt (tgt := 15) dJ1_canEncode_9a6ad_8 (by decide) (by omega) (by omega) (fun h8 => absurd h8 (by omega)) (fun h8 => ?_)
  refine v_iconstN (n := 1) dJ1_canEncode_9a6ad_11 ?_
  refine v_goto (tgt := 16) dJ1_canEncode_9a6ad_12 (by decide) ?_
  exact v_zret dJ1_canEncode_9a6ad_16 rfl (by decide +kernel) (⟨rfl, rfl⟩)
set_option maxRecDepth 100000 in
set_option maxHeartbeats 4000000 in
theorem kJ1_indexOf (E : ev) (Mz : mm) {i c : Nat} (hi : i < 6) (hc : c < 128) : Ct E 1 yJ1_indexOf_4cfef cJ1_indexOf_4cfef 4 (some .int) [.inr (220 + i), .inl (nI c), .inl (nI 0), .inl (nI (lnS i))] Mz (qI E (fun r M' => r = ixR i (nI c) (lnS i) ∧ M' = Mz)) := by
  refine ct_of (by decide) (Nat.le_of_ble_eq_true rfl) ?_
  show V E 1 _ _ _ _ _ 0 [some (.inr (220 + i)), some (.inl (nI c)), some (.inl (nI 0)), some (.inl (nI (lnS i)))] [] Mz
  have hln := ln_ok hi
  refine v_ild1 dJ1_indexOf_4cfef_0 ?_
  refine v_callSi (kJ_canEncode E Mz hc) dJ1_indexOf_4cfef_1 cJ1_88 rfl (by decide) (Nat.le_of_ble_eq_true rfl) rfl (fun r M1z hq => ?_)
  obtain ⟨hr, hm⟩ := hq
  rw [hr, hm]
  clear hr hm
  refine v_if_ne (tgt := 9) dJ1_indexOf_4cfef_4 (by decide) (fun h4 => ?_) (fun h4 => absurd h4 (by decide))
  refine v_ild2 dJ1_indexOf_4cfef_9 ?_
  refine v_iconstN (n := 0) dJ1_indexOf_4cfef_10 ?_
  refine v_mmax dJ1_indexOf_4cfef_11 mJ1_92 (by decide) (Nat.le_of_ble_eq_true rfl) ?_
  refine v_eq (show _ = nI 0 from by decide) ?_
  refine v_ist2 dJ1_indexOf_4cfef_14 (by decide) ?_
  refine v_ild3 dJ1_indexOf_4cfef_15 ?_
  refine v_ald0 dJ1_indexOf_4cfef_16 ?_
  refine v_slen dJ1_indexOf_4cfef_17 hi ?_
  refine v_mmin dJ1_indexOf_4cfef_18 mJ1_38 (by decide) (Nat.le_of_ble_eq_true rfl) ?_
  refine v_eq (show (if nI (lnS i) < nI (lnS i) then nI (lnS i) else nI (lnS i)) = nI (lnS i) from ite_self _) ?_
  refine v_ist3 dJ1_indexOf_4cfef_21 (by decide) ?_
  refine v_ild2 dJ1_indexOf_4cfef_22 ?_
  refine v_ild3 dJ1_indexOf_4cfef_23 ?_
  refine v_icmpN_lt (tgt := 29) dJ1_indexOf_4cfef_24 (by decide) (by omega) (by omega) (fun h24 => ?_) (fun h24 => absurd h24 (by omega))
  refine v_ald0 dJ1_indexOf_4cfef_29 ?_
  refine v_ild1 dJ1_indexOf_4cfef_30 ?_
  refine v_ild2 dJ1_indexOf_4cfef_31 ?_
  refine v_ild3 dJ1_indexOf_4cfef_32 ?_
  refine v_callSi (kJ_indexOfChar E Mz hi hc) dJ1_indexOf_4cfef_33 cJ1_95 rfl (by decide) (Nat.le_of_ble_eq_true rfl) rfl (fun r M1z hq => ?_)
  obtain ⟨hr, hm⟩ := hq
  rw [hr, hm]
  clear hr hm
  exact v_iret dJ1_indexOf_4cfef_36 rfl (⟨rfl, rfl⟩)
set_option maxRecDepth 100000 in
set_option maxHeartbeats 4000000 in
theorem kJ_indexOf2 (E : ev) (Mz : mm) {i c : Nat} (hi : i < 6) (hc : c < 128) : Ct E 2 yJ0_indexOf_7cf53 cJ0_indexOf_7cf53 3 (some .int) [.inr (210 + i), .inl (nI c), .inl (nI 0)] Mz (qI E (fun r M' => r = ixR i (nI c) (lnS i) ∧ M' = Mz)) := by
  refine ct_of (by decide) (Nat.le_of_ble_eq_true rfl) ?_
  show V E 2 _ _ _ _ _ 0 [some (.inr (210 + i)), some (.inl (nI c)), some (.inl (nI 0))] [] Mz
  refine v_ald0 dJ0_indexOf_7cf53_0 ?_
  refine v_callVsi (kJ_isLatin1 E Mz hi) hi dJ0_indexOf_7cf53_1 cJ0_492 rfl rfl (by decide) (Nat.le_of_ble_eq_true rfl) rfl (fun r M1z hq => ?_)
  obtain ⟨hr, hm⟩ := hq
  rw [hr, hm]
  clear hr hm
  refine v_if_eq (tgt := 23) dJ0_indexOf_7cf53_4 (by decide) (fun h4 => absurd h4 (by decide)) (fun h4 => ?_)
  refine v_ald0 dJ0_indexOf_7cf53_7 ?_
  refine v_strV dJ0_indexOf_7cf53_8 hi rfl rfl ?_
  refine v_ild1 dJ0_indexOf_7cf53_11 ?_
  refine v_ild2 dJ0_indexOf_7cf53_12 ?_
  refine v_ald0 dJ0_indexOf_7cf53_13 ?_
  refine v_callVsi (kJ_length E Mz hi) hi dJ0_indexOf_7cf53_14 cJ0_505 rfl rfl (by decide) (Nat.le_of_ble_eq_true rfl) rfl (fun r M1z hq => ?_)
  obtain ⟨hr, hm⟩ := hq
  rw [hr, hm]
  clear hr hm
  refine v_callSi (kJ1_indexOf E Mz hi hc) dJ0_indexOf_7cf53_17 cJ0_637 rfl (by decide) (Nat.le_of_ble_eq_true rfl) rfl (fun r M1z hq => ?_)
  obtain ⟨hr, hm⟩ := hq
  rw [hr, hm]
  clear hr hm
  refine v_goto (tgt := 36) dJ0_indexOf_7cf53_20 (by decide) ?_
  exact v_iret dJ0_indexOf_7cf53_36 rfl (⟨rfl, rfl⟩)
set_option maxRecDepth 100000 in
set_option maxHeartbeats 4000000 in
theorem kJ_indexOf (E : ev) (Mz : mm) {i c : Nat} (hi : i < 6) (hc : c < 128) : Ct E 3 yJ0_indexOf_0f7a4 cJ0_indexOf_0f7a4 2 (some .int) [.inr (210 + i), .inl (nI c)] Mz (qI E (fun r M' => r = ixR i (nI c) (lnS i) ∧ M' = Mz)) := by
  refine ct_of (by decide) (Nat.le_of_ble_eq_true rfl) ?_
  show V E 3 _ _ _ _ _ 0 [some (.inr (210 + i)), some (.inl (nI c))] [] Mz
  refine v_ald0 dJ0_indexOf_0f7a4_0 ?_
  refine v_ild1 dJ0_indexOf_0f7a4_1 ?_
  refine v_iconstN (n := 0) dJ0_indexOf_0f7a4_2 ?_
  refine v_callVsi (kJ_indexOf2 E Mz hi hc) hi dJ0_indexOf_0f7a4_3 cJ0_633 rfl rfl (by decide) (Nat.le_of_ble_eq_true rfl) rfl (fun r M1z hq => ?_)
  obtain ⟨hr, hm⟩ := hq
  rw [hr, hm]
  clear hr hm
  exact v_iret dJ0_indexOf_0f7a4_6 rfl (⟨rfl, rfl⟩)
