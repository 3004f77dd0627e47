/-! contracts: a method's start (its arguments, the memory), its end (answer, memory) -/
def wB (E : ev) : mm → State → Prop := fun M t => va_P (eD E) vwCl (wl E M) t.heap
def qI (E : ev) (Q : Int32 → mm → Prop) : qcT := va_Qi Q (wB E) (Az E)
def qV (E : ev) (Q : mm → Prop) : qcT := va_Qv Q (wB E) (Az E)
def pB (E : ev) (M : mm) (U : State) : Prop := va_P (eD E) vwCl (wl E M) U.heap ∧ va_K (eD E) vwCl (tys E) U ∧ SX E U U.heap ∧ Lie E
def Ct (E : ev) (d : Nat) (y : MethodName) (cc : ByteArray) (nL : Nat) (ret : Option FieldType) (as : List av) (M : mm) (Qc : qcT) : Prop :=
  Met (eL E) y (.code y cc nL ret :: gw) (rm d) (va_Pc (as.map (rv E)) (pB E M)) Qc 0 0 (Az E)
theorem lz_args (E : ev) (n : Nat) : ∀ (as : List av) (i : Nat), ∀ q ∈ lz E i (as.map some ++ List.replicate n none), q ∈ lv_args i (as.map (rv E))
  | [], i, q, h => by
    obtain ⟨j, v, hj, -⟩ := (lz_mem E _ i).mp h
    simp at hj
    rw [List.getElem?_replicate] at hj
    split at hj <;> simp at hj
  | a :: as, i, q, h => by
    simp only [List.map_cons, List.cons_append] at h
    unfold lz at h
    simp only [List.map_cons]
    unfold lv_args
    rw [if_neg (by rw [rv_cat]; decide)]
    rcases List.mem_cons.mp h with e | h
    · rw [e]; exact List.mem_cons_self
    · exact List.mem_cons_of_mem _ (lz_args E n as (i + 1) q h)
theorem lg_len (E : ev) : ∀ as : List av, (lg_sl (as.map (rv E))).length = as.length
  | [] => rfl
  | a :: as => by
    have h := lg_len E as
    unfold lg_sl at h ⊢
    simp only [List.map_cons, List.flatMap_cons, List.length_append, List.length_cons]
    rw [h]
    cases a <;> simp [rv, Value.category] <;> omega
theorem ct_of {E : ev} {d : Nat} {y : MethodName} {cc : ByteArray} {nL : Nat} {ret : Option FieldType} {as : List av} {M : mm} {Qc : qcT} (hy : plainName y.cls = true) (hn : as.length ≤ nL)
    (k : V E d y cc nL ret Qc 0 (as.map some ++ List.replicate (nL - as.length) none) [] M) : Ct E d y cc nL ret as M Qc := by
  refine Met.ofW (cc := cc) (maxL := nL) (ret := ret) hy rfl ?_
  intro p e s m args below meth c s₁ B hml hv
  obtain ⟨rfl, hP, hK, hSF, hLie⟩ := hv
  have hts := atoms_spec (ws := .code y cc nL ret :: gw) B.pre
  have hown : s.vm.findClass y.cls = some m.cls := findClass_of_methodNamed B.named
  rw [lg_entry_eq]
  have hl := lv_entry (as.map (rv E)) (n := nL) (by rw [lg_len]; exact hn)
  exact k p e s m _ below meth c s.heap [] _ ⟨B.exec, B.bytes, hml, B.returns, hown, fun w h => hts w (List.mem_cons_of_mem _ h), B.notSynchronized, hK, hSF, hLie⟩ hP va_S.rf ⟨hl.1, hl.2.1, fun q hq => hl.2.2 q (lz_args E _ as 0 q hq)⟩
/-- a weaker end -/
theorem qI_mono {E : ev} {Q Q' : Int32 → mm → Prop} (h : ∀ r M, Q r M → Q' r M) {a : Array Value} {s : State} {o : Outcome} {t : State} (q : qI E Q a s o t) : qI E Q' a s o t := by
  obtain ⟨⟨r, u, h1, h2, h3⟩, h4⟩ := q
  exact ⟨⟨r, u, h1, h r u h2, h3⟩, h4⟩
theorem rv_sum (E : ev) : ∀ S : List av, ((S.map (rv E)).map fun v => v.category).sum = S.length
  | [] => rfl
  | a :: S => by
    have h := rv_sum E S
    simp only [List.map_cons, List.sum_cons, List.length_cons, h, rv_cat]
    omega
theorem pB_blind (E : ev) (as : List av) (M : mm) : FrameBlind (va_Pc (as.map (rv E)) (pB E M)) := fun a U g mk q => by
  obtain ⟨q0, q1, q2, q3, q4⟩ := q
  exact ⟨q0, q1, va_K.moved (u := U) (U := U.calling g mk a) (Vm.Alike.refl U.vm) q2, SX.same (u := U) (U := U.calling g mk a) rfl q3, q4⟩
theorem pB_at {E : ev} {M : mm} {p : Program} {s : State} {m : MethodId} {args : Array Value} {meth : Method} {c : Code} {y : MethodName} {cc : ByteArray} {nL : Nat} {ret : Option FieldType} {H : Heap} {locs : List Loc} (C : Cx E p s m args meth c y cc nL ret) (hP : va_P (eD E) vwCl (wl E M) H) (hS : va_S (Az E) s.heap H locs) (U : State) (hU : U.heap = H) (hW : s.WarmedH U.vm) : pB E M U :=
  ⟨by rw [hU]; exact hP, va_K.moved hW.alike C.2.2.2.2.2.2.2.1, by rw [hU]; exact SX.warm hW (C.2.2.2.2.2.2.2.2.1.kept hS.2.1), C.2.2.2.2.2.2.2.2.2⟩
section VC
variable {E : ev} {d d' : Nat} {y y' : MethodName} {cc cc' : ByteArray} {nL nL' : Nat} {ret ret' : Option FieldType} {Qc : qcT} {pc : Nat} {L : List (Option av)} {S St : List av} {M : mm} {as : List av}
theorem v_runV {a ci i n N : Nat} {T : u_T} {fs : List (Option Nat)} {Qd : qcT} (hC : Ct E d' y' cc' nL' ret' (.inr a :: as) M Qd) (hd : decode cc pc = .ok (.invokevirtual i, 3)) (hv : CV y.cls i y' cc' nL' ret' n) (hn : as.length = n) (ha : sh a = .inr (ci, fs)) (hc : vwCl[ci]? = some (y'.cls, T, N)) (hdd : d' < d) (hs : S.length ≤ 8) {p : Program} {e : Env} {s : State} {m : MethodId} {args : Array Value} {below : List Frame} {meth : Method} {c : Code} {H : Heap} {locs : List Loc} {ls : Array Slot} (C : Cx E p s m args meth c y cc nL ret) (hP : va_P (eD E) vwCl (wl E M) H) (hS : va_S (Az E) s.heap H locs) (hl : lh E ls nL L) :
    va_Run p (eL E) e (rm d) s m args below meth c H locs 0 0 0 0 (F0 m pc ls ((as.reverse ++ .inr a :: S).map (rv E))) (S.map (rv E)) (Qd ((.inr a :: as).map (rv E)).toArray) (Az E) := by
  obtain ⟨hw, hq, h13⟩ := hv
  have hlt : a < NC := sh_lt ha (by intro q; cases q; simp at hc)
  have he : (wl E M)[a]? = some (eA E a, .inr (ci, fs.zipIdx.map (fv E M a))) := by rw [wl_at E M hlt]; unfold ce; rw [ha]; rfl
  have hG : GoodIn gw (wsV y.cls i y'.cls y' (.code y' cc' nL' ret' :: gw)) := by
    refine gw_good (fun _ h => h) _ (fun w h => ?_)
    unfold wsV at h hw
    rcases List.mem_append.mp h with h | h
    · exact hw w (List.mem_append_left _ h)
    · rcases List.mem_cons.mp h with h | h
      · exact hw w (List.mem_append_right _ (by rw [h]; exact List.mem_singleton_self _))
      · exact h
  have cw : CallW (rm d) s args y.cls y'.cls i y' cc' nL' ret' (.code y' cc' nL' ret' :: gw) (rm d') 0 0 n := cwV n C.2.2.2.2.2.1 hG rfl rfl rfl ⟨rfl, hq⟩ ⟨hdd, by show 8 + (nL' + 11) + 32 * d' ≤ 32 * d; omega⟩
  exact va_runV (As := as.map (rv E)) (rest := S.map (rv E)) ⟨C.1, C.2.1, C.2.2.1, C.2.2.2.2.1, C.2.2.2.2.2.1⟩ hC cw ⟨pB_blind E _ M, va_recv C.2.2.2.2.2.2.2.1 hP hc he, fun U hU hW => ⟨rfl, pB_at C hP hS U hU hW⟩⟩ rfl (by rw [List.length_map]; exact hn) hl.1 (by simp [rv]) (lv_room (by rw [rv_sum]; exact hs)) hd ⟨Nat.le_refl _, Nat.le_refl _⟩
theorem v_runS {i n : Nat} {Qd : qcT} (hC : Ct E d' y' cc' nL' ret' as M Qd) (hd : decode cc pc = .ok (.invokestatic i, 3)) (hv : CS y.cls i y' cc' nL' ret' n) (hn : as.length = n) (hdd : d' < d) (hs : S.length ≤ 8) {p : Program} {e : Env} {s : State} {m : MethodId} {args : Array Value} {below : List Frame} {meth : Method} {c : Code} {H : Heap} {locs : List Loc} {ls : Array Slot} (C : Cx E p s m args meth c y cc nL ret) (hP : va_P (eD E) vwCl (wl E M) H) (hS : va_S (Az E) s.heap H locs) (hl : lh E ls nL L) :
    va_Run p (eL E) e (rm d) s m args below meth c H locs 0 0 0 0 (F0 m pc ls ((as.reverse ++ S).map (rv E))) (S.map (rv E)) (Qd (as.map (rv E)).toArray) (Az E) := by
  obtain ⟨hw, hq, h13⟩ := hv
  have hG : GoodIn gw (va_wsS y.cls i y' (.code y' cc' nL' ret' :: gw)) := by
    refine gw_good (fun _ h => h) _ (fun w h => ?_)
    unfold va_wsS at h hw
    rcases List.mem_append.mp h with h | h
    · exact hw w (List.mem_append_left _ h)
    · rcases List.mem_cons.mp h with h | h
      · exact hw w (List.mem_append_right _ (by rw [h]; exact List.mem_singleton_self _))
      · exact h
  have cw := va_cwS (R := rm d) (s := s) (args := args) (own := y.cls) (index := i) (y := y') (bytes := cc') (maxL := nL') (mc := 0) (ms := 0) (ret := ret') (rm := rm d') n C.2.2.2.2.2.1 hG rfl rfl rfl hq ⟨hdd, by show 8 + (nL' + 11) + 32 * d' ≤ 32 * d; omega⟩
  exact va_runS (As := as.map (rv E)) (rest := S.map (rv E)) ⟨C.1, C.2.1, C.2.2.1, C.2.2.2.2.1, C.2.2.2.2.2.1⟩ hC cw ⟨pB_blind E _ M, fun U hU hW => ⟨rfl, pB_at C hP hS U hU hW⟩⟩ rfl (by rw [List.length_map]; exact hn) hl.1 (by simp) (lv_room (by rw [rv_sum]; exact hs)) hd ⟨Nat.le_refl _, Nat.le_refl _⟩
theorem v_runN {i n : Nat} {host : String} {Qd : qcT} (hC : Ct E d' y' cc' nL' ret' as M Qd) (hd : decode cc pc = .ok (.invokestatic i, 3)) (hv : CN y' cc' nL' ret' n) (hnw : ∀ s, NW s → va_Nw (.methodLinkNest y.cls i y' host) s) (hn : as.length = n) (hdd : d' < d) (hs : S.length ≤ 8) {p : Program} {e : Env} {s : State} {m : MethodId} {args : Array Value} {below : List Frame} {meth : Method} {c : Code} {H : Heap} {locs : List Loc} {ls : Array Slot} (C : Cx E p s m args meth c y cc nL ret) (hP : va_P (eD E) vwCl (wl E M) H) (hS : va_S (Az E) s.heap H locs) (hl : lh E ls nL L) :
    va_Run p (eL E) e (rm d) s m args below meth c H locs 0 0 0 0 (F0 m pc ls ((as.reverse ++ S).map (rv E))) (S.map (rv E)) (Qd (as.map (rv E)).toArray) (Az E) := by
  obtain ⟨hw, hq, h13⟩ := hv
  have hm : ∀ w ∈ ([.static y', .initialized y'.cls, .code y' cc' nL' ret'] : List Cond), w.before args s = true := fun w h => C.2.2.2.2.2.1 w (hw w h)
  have hG : GoodIn gw (.code y' cc' nL' ret' :: gw) := by
    refine gw_good (fun _ h => h) _ (fun w h => ?_)
    rcases List.mem_cons.mp h with h | h
    · rw [h]; exact hw _ (by simp)
    · exact h
  have hl1 : va_Nw (.methodLinkNest y.cls i y' host) s := hnw s C.2.2.2.2.2.2.2.2.1.2.1
  have cw := va_cnB (R := rm d) (s := s) (args := args) (own := y.cls) (index := i) (y := y') (host := host) (bytes := cc') (maxL := nL') (mc := 0) (ms := 0) (ret := ret') (rm := rm d') n C.2.2.2.2.2.1 hG rfl rfl rfl hl1 (hm _ (by simp)) hq ⟨hdd, by show 8 + (nL' + 11) + 32 * d' ≤ 32 * d; omega⟩
  exact va_runSN (As := as.map (rv E)) (rest := S.map (rv E)) ⟨C.1, C.2.1, C.2.2.1, C.2.2.2.2.1, C.2.2.2.2.2.1⟩ hC ⟨cw, hm _ (by simp), trivial⟩ ⟨pB_blind E _ M, fun U hU hW => ⟨rfl, pB_at C hP hS U hU hW⟩⟩ rfl (by rw [List.length_map]; exact hn) hl.1 (by simp) (lv_room (by rw [rv_sum]; exact hs)) hd ⟨Nat.le_refl _, Nat.le_refl _⟩

theorem v_callVi {a ci i n N : Nat} {T : u_T} {fs : List (Option Nat)} {Q' : Int32 → mm → Prop} (hC : Ct E d' y' cc' nL' ret' (.inr a :: as) M (qI E Q')) (hd : decode cc pc = .ok (.invokevirtual i, 3)) (hv : CV y.cls i y' cc' nL' ret' n) (hn : as.length = n) (ha : sh a = .inr (ci, fs)) (hc : vwCl[ci]? = some (y'.cls, T, N)) (hdd : d' < d) (hs : S.length ≤ 8) (hst : St = as.reverse ++ .inr a :: S) (k : ∀ (r : Int32) (M' : mm), Q' r M' → V E d y cc nL ret Qc (pc + 3) L (.inl r :: S) M') : V E d y cc nL ret Qc pc L St M := by
  intro p e s m args below meth c H locs ls C hP hS hl
  subst hst
  exact va_calli (A0 := Az E) (H0 := s.heap) (v_runV hC hd hv hn ha hc hdd hs C hP hS hl) hS (fun q _ h => h) (fun q h => h) (fun r u t H1 locs1 ht hvm hw hB hz1 hk1 hS1 => k r u hw p e s m args below meth c H1 locs1 ls C (by have hB' : va_P (eD E) vwCl (wl E u) t.heap := hB; rw [ht] at hB'; exact hB') hS1 hl)
theorem v_callVv {a ci i n N : Nat} {T : u_T} {fs : List (Option Nat)} {Q' : mm → Prop} (hC : Ct E d' y' cc' nL' ret' (.inr a :: as) M (qV E Q')) (hd : decode cc pc = .ok (.invokevirtual i, 3)) (hv : CV y.cls i y' cc' nL' ret' n) (hn : as.length = n) (ha : sh a = .inr (ci, fs)) (hc : vwCl[ci]? = some (y'.cls, T, N)) (hdd : d' < d) (hs : S.length ≤ 8) (hst : St = as.reverse ++ .inr a :: S) (k : ∀ (M' : mm), Q' M' → V E d y cc nL ret Qc (pc + 3) L S M') : V E d y cc nL ret Qc pc L St M := by
  intro p e s m args below meth c H locs ls C hP hS hl
  subst hst
  exact va_callv (A0 := Az E) (H0 := s.heap) (v_runV hC hd hv hn ha hc hdd hs C hP hS hl) hS (fun q _ h => h) (fun q h => h) (fun u t H1 locs1 ht hvm hw hB hz1 hk1 hS1 => k u hw p e s m args below meth c H1 locs1 ls C (by have hB' : va_P (eD E) vwCl (wl E u) t.heap := hB; rw [ht] at hB'; exact hB') hS1 hl)
theorem v_callSi {i n : Nat} {Q' : Int32 → mm → Prop} (hC : Ct E d' y' cc' nL' ret' as M (qI E Q')) (hd : decode cc pc = .ok (.invokestatic i, 3)) (hv : CS y.cls i y' cc' nL' ret' n) (hn : as.length = n) (hdd : d' < d) (hs : S.length ≤ 8) (hst : St = as.reverse ++ S) (k : ∀ (r : Int32) (M' : mm), Q' r M' → V E d y cc nL ret Qc (pc + 3) L (.inl r :: S) M') : V E d y cc nL ret Qc pc L St M := by
  intro p e s m args below meth c H locs ls C hP hS hl
  subst hst
  exact va_calli (A0 := Az E) (H0 := s.heap) (v_runS hC hd hv hn hdd hs C hP hS hl) hS (fun q _ h => h) (fun q h => h) (fun r u t H1 locs1 ht hvm hw hB hz1 hk1 hS1 => k r u hw p e s m args below meth c H1 locs1 ls C (by have hB' : va_P (eD E) vwCl (wl E u) t.heap := hB; rw [ht] at hB'; exact hB') hS1 hl)
theorem v_callSv {i n : Nat} {Q' : mm → Prop} (hC : Ct E d' y' cc' nL' ret' as M (qV E Q')) (hd : decode cc pc = .ok (.invokestatic i, 3)) (hv : CS y.cls i y' cc' nL' ret' n) (hn : as.length = n) (hdd : d' < d) (hs : S.length ≤ 8) (hst : St = as.reverse ++ S) (k : ∀ (M' : mm), Q' M' → V E d y cc nL ret Qc (pc + 3) L S M') : V E d y cc nL ret Qc pc L St M := by
  intro p e s m args below meth c H locs ls C hP hS hl
  subst hst
  exact va_callv (A0 := Az E) (H0 := s.heap) (v_runS hC hd hv hn hdd hs C hP hS hl) hS (fun q _ h => h) (fun q h => h) (fun u t H1 locs1 ht hvm hw hB hz1 hk1 hS1 => k u hw p e s m args below meth c H1 locs1 ls C (by have hB' : va_P (eD E) vwCl (wl E u) t.heap := hB; rw [ht] at hB'; exact hB') hS1 hl)
theorem v_callNi {i n : Nat} {host : String} {Q' : Int32 → mm → Prop} (hC : Ct E d' y' cc' nL' ret' as M (qI E Q')) (hd : decode cc pc = .ok (.invokestatic i, 3)) (hv : CN y' cc' nL' ret' n) (hnw : ∀ s, NW s → va_Nw (.methodLinkNest y.cls i y' host) s) (hn : as.length = n) (hdd : d' < d) (hs : S.length ≤ 8) (hst : St = as.reverse ++ S) (k : ∀ (r : Int32) (M' : mm), Q' r M' → V E d y cc nL ret Qc (pc + 3) L (.inl r :: S) M') : V E d y cc nL ret Qc pc L St M := by
  intro p e s m args below meth c H locs ls C hP hS hl
  subst hst
  exact va_calli (A0 := Az E) (H0 := s.heap) (v_runN hC hd hv hnw hn hdd hs C hP hS hl) hS (fun q _ h => h) (fun q h => h) (fun r u t H1 locs1 ht hvm hw hB hz1 hk1 hS1 => k r u hw p e s m args below meth c H1 locs1 ls C (by have hB' : va_P (eD E) vwCl (wl E u) t.heap := hB; rw [ht] at hB'; exact hB') hS1 hl)
theorem v_callNv {i n : Nat} {host : String} {Q' : mm → Prop} (hC : Ct E d' y' cc' nL' ret' as M (qV E Q')) (hd : decode cc pc = .ok (.invokestatic i, 3)) (hv : CN y' cc' nL' ret' n) (hnw : ∀ s, NW s → va_Nw (.methodLinkNest y.cls i y' host) s) (hn : as.length = n) (hdd : d' < d) (hs : S.length ≤ 8) (hst : St = as.reverse ++ S) (k : ∀ (M' : mm), Q' M' → V E d y cc nL ret Qc (pc + 3) L S M') : V E d y cc nL ret Qc pc L St M := by
  intro p e s m args below meth c H locs ls C hP hS hl
  subst hst
  exact va_callv (A0 := Az E) (H0 := s.heap) (v_runN hC hd hv hnw hn hdd hs C hP hS hl) hS (fun q _ h => h) (fun q h => h) (fun u t H1 locs1 ht hvm hw hB hz1 hk1 hS1 => k u hw p e s m args below meth c H1 locs1 ls C (by have hB' : va_P (eD E) vwCl (wl E u) t.heap := hB; rw [ht] at hB'; exact hB') hS1 hl)
theorem v_iret {Q : Int32 → mm → Prop} {r : Int32} (hd : decode cc pc = .ok (.ireturn, 1)) (hr : ret = some .int) (hq : Q r M) : V E d y cc nL ret (qI E Q) pc L [.inl r] M := by
  intro p e s m args below meth c H locs ls C hP hS hl
  exact W.iret C.1 C.2.1 (by rw [C.2.2.2.1]; exact hr) (fun t ht _ => ⟨⟨r, M, rfl, hq, by show va_P _ _ _ _; rw [ht]; exact hP⟩, hS.F ht⟩) hS.2.2 hd C.2.2.2.2.2.2.1
theorem v_zret {Q : Int32 → mm → Prop} {r : Int32} (hd : decode cc pc = .ok (.ireturn, 1)) (hr : ret = some .boolean) (hb : narrow .boolean (.int r) = .int r) (hq : Q r M) : V E d y cc nL ret (qI E Q) pc L [.inl r] M := by
  intro p e s m args below meth c H locs ls C hP hS hl
  exact W.zret C.1 C.2.1 (by rw [C.2.2.2.1]; exact hr) hb (fun t ht _ => ⟨⟨r, M, rfl, hq, by show va_P _ _ _ _; rw [ht]; exact hP⟩, hS.F ht⟩) hS.2.2 hd C.2.2.2.2.2.2.1
theorem v_vret {Q : mm → Prop} (hd : decode cc pc = .ok (.return_, 1)) (hr : ret = none) (hq : Q M) : V E d y cc nL ret (qV E Q) pc L [] M := by
  intro p e s m args below meth c H locs ls C hP hS hl
  exact W.vret C.1 C.2.1 (by rw [C.2.2.2.1]; exact hr) (fun t ht _ => ⟨⟨M, rfl, hq, by show va_P _ _ _ _; rw [ht]; exact hP⟩, hS.F ht⟩) hS.2.2 hd C.2.2.2.2.2.2.1
-- statics: the two tables
theorem v_getW {i : Nat} (hd : decode cc pc = .ok (.getstatic i, 3)) (hlink : Cond.fieldLink y.cls i "HearsaySeeds" "WEIGHS" "[I" ∈ gw) (k : V E d y cc nL ret Qc (pc + 3) L (.inr 200 :: S) M) : V E d y cc nL ret Qc pc L S M := by
  intro p e s m args below meth c H locs ls C hP hS hl
  exact va_gets C.1 C.2.1 C.2.2.2.2.2.2.2.2.1.1.1.1 hS C.2.2.2.2.1 (C.2.2.2.2.2.1 _ hlink) (fun x h => h) hd (k p e s m args below meth c H locs ls C hP hS hl)
theorem v_getWN {i : Nat} (hd : decode cc pc = .ok (.getstatic i, 3)) (hy : y.cls = RX0) (hi : i = 94) (k : V E d y cc nL ret Qc (pc + 3) L (.inr 200 :: S) M) : V E d y cc nL ret Qc pc L S M := by
  intro p e s m args below meth c H locs ls C hP hS hl
  subst hi
  exact va_getsN C.1 C.2.1 C.2.2.2.2.2.2.2.2.1.1.1.1 hS (own := RX0) (by rw [← hy]; exact C.2.2.2.2.1) (va_Nw.use rfl C.2.2.2.2.2.2.2.2.1.2.1.2) (fun x h => h) hd (k p e s m args below meth c H locs ls C hP hS hl)
theorem v_getA {i : Nat} (hd : decode cc pc = .ok (.getstatic i, 3)) (hlink : Cond.fieldLink y.cls i "HearsaySeeds" "ABOVE" "[I" ∈ gw) (k : V E d y cc nL ret Qc (pc + 3) L (.inr 201 :: S) M) : V E d y cc nL ret Qc pc L S M := by
  intro p e s m args below meth c H locs ls C hP hS hl
  exact va_gets C.1 C.2.1 C.2.2.2.2.2.2.2.2.1.1.2.1 hS C.2.2.2.2.1 (C.2.2.2.2.2.1 _ hlink) (fun x h => h) hd (k p e s m args below meth c H locs ls C hP hS hl)
theorem v_aldW {i : Int32} (hd : decode cc pc = .ok (.iaload, 1)) (hi : vp_in i 6) (k : V E d y cc nL ret Qc (pc + 1) L (.inl (tabW i.toNatClampNeg) :: S) M) : V E d y cc nL ret Qc pc L (.inl i :: .inr 200 :: S) M := by
  intro p e s m args below meth c H locs ls C hP hS hl
  exact va_ti C.1 C.2.1 C.2.2.2.2.2.2.2.2.1.1.1.2 hS hi (v := .int (tabW i.toNatClampNeg)) rfl hd (k p e s m args below meth c H locs ls C hP hS hl)
theorem v_aldA {i : Int32} (hd : decode cc pc = .ok (.iaload, 1)) (hi : vp_in i 6) (k : V E d y cc nL ret Qc (pc + 1) L (.inl (tabA i.toNatClampNeg) :: S) M) : V E d y cc nL ret Qc pc L (.inl i :: .inr 201 :: S) M := by
  intro p e s m args below meth c H locs ls C hP hS hl
  exact va_ti C.1 C.2.1 C.2.2.2.2.2.2.2.2.1.1.2.2 hS hi (v := .int (tabA i.toNatClampNeg)) rfl hd (k p e s m args below meth c H locs ls C hP hS hl)
theorem v_mmax {i : Nat} {x z : Int32} (hd : decode cc pc = .ok (.invokestatic i, 3)) (hm : MX y.cls i Lib.Math.max.name Lib.Math.max.code 2) (h0 : 0 < d) (hs : S.length ≤ 8) (k : V E d y cc nL ret Qc (pc + 3) L (.inl (if x < z then z else x) :: S) M) : V E d y cc nL ret Qc pc L (.inl z :: .inl x :: S) M := by
  intro p e s m args below meth c H locs ls C hP hS hl
  have hw := C.2.2.2.2.2.1
  exact va_mmax C.1 C.2.1 (by rw [C.2.2.1]; exact hl.1.symm) C.2.2.2.2.1 (hw _ hm.1) (hw _ hm.2.1) (hw _ hm.2.2.1) (hw _ hm.2.2.2) (show 1 ≤ d from h0) (by rw [rv_sum]; show _ ≤ 32 * d; omega) (Nat.le_refl _) (Nat.le_refl _) hd (k p e s m args below meth c H locs ls C hP hS hl)
theorem v_mmin {i : Nat} {x z : Int32} (hd : decode cc pc = .ok (.invokestatic i, 3)) (hm : MX y.cls i Lib.Math.min.name Lib.Math.min.code 2) (h0 : 0 < d) (hs : S.length ≤ 8) (k : V E d y cc nL ret Qc (pc + 3) L (.inl (if z < x then z else x) :: S) M) : V E d y cc nL ret Qc pc L (.inl z :: .inl x :: S) M := by
  intro p e s m args below meth c H locs ls C hP hS hl
  have hw := C.2.2.2.2.2.1
  exact va_mmin C.1 C.2.1 (by rw [C.2.2.1]; exact hl.1.symm) C.2.2.2.2.1 (hw _ hm.1) (hw _ hm.2.1) (hw _ hm.2.2.1) (hw _ hm.2.2.2) (show 1 ≤ d from h0) (by rw [rv_sum]; show _ ≤ 32 * d; omega) (Nat.le_refl _) (Nat.le_refl _) hd (k p e s m args below meth c H locs ls C hP hS hl)
theorem v_mabs {i : Nat} {x : Int32} (hd : decode cc pc = .ok (.invokestatic i, 3)) (hm : MX y.cls i Lib.Math.abs.name Lib.Math.abs.code 1) (h0 : 0 < d) (hs : S.length ≤ 8) (k : V E d y cc nL ret Qc (pc + 3) L (.inl (if 0 ≤ x then x else 0 - x) :: S) M) : V E d y cc nL ret Qc pc L (.inl x :: S) M := by
  intro p e s m args below meth c H locs ls C hP hS hl
  have hw := C.2.2.2.2.2.1
  exact va_mabs C.1 C.2.1 (by rw [C.2.2.1]; exact hl.1.symm) C.2.2.2.2.1 (hw _ hm.1) (hw _ hm.2.1) (hw _ hm.2.2.1) (hw _ hm.2.2.2) (show 1 ≤ d from h0) (by rw [rv_sum]; show _ ≤ 32 * d; omega) (Nat.le_refl _) (Nat.le_refl _) hd (k p e s m args below meth c H locs ls C hP hS hl)
theorem v_acopy {i a b n0 n1 : Nat} {sp dp n : Nat} (hd : decode cc pc = .ok (.invokestatic i, 3)) (hm : AX y.cls i) (h0 : 1 < d) (hs : S.length ≤ 8) (ha : sh a = .inl (0, n0, none)) (hb : sh b = .inl (0, n1, none)) (h4 : sp + n ≤ n0) (h5 : dp + n ≤ n1) (hn0 : n0 < 2 ^ 31) (hn1 : n1 < 2 ^ 31) (k : V E d y cc nL ret Qc (pc + 3) L S (wa M b (va_cpy (M a) (M b) sp dp n))) : V E d y cc nL ret Qc pc L (.inl (nI n) :: .inl (nI dp) :: .inr b :: .inl (nI sp) :: .inr a :: S) M := by
  intro p e s m args below meth c H locs ls C hP hS hl
  have hw := C.2.2.2.2.2.1
  have hlt : a < NC := sh_lt ha (by intro q; cases q)
  have hltb : b < NC := sh_lt hb (by intro q; cases q)
  have he : (wl E M)[a]? = some (eA E a, .inl (eC E 0, n0, .inl (M a))) := by rw [wl_at E M hlt]; unfold ce; rw [ha]; rfl
  have heb : (wl E M)[b]? = some (eA E b, .inl (eC E 0, n1, .inl (M b))) := by rw [wl_at E M hltb]; unfold ce; rw [hb]; rfl
  have c1 : (nI sp).toNatClampNeg = sp := nI_clamp (by omega)
  have c2 : (nI dp).toNatClampNeg = dp := nI_clamp (by omega)
  have c3 : (nI n).toNatClampNeg = n := nI_clamp (by omega)
  have hloc : (((S.map (rv E)).map fun v => v.category).sum) + (nativeFrameWords "java/lang/System" "arraycopy" 5 + 11) ≤ (rm d).locals := by
    have h40 : nativeFrameWords "java/lang/System" "arraycopy" 5 ≤ 40 := by decide +kernel
    rw [rv_sum]
    show _ ≤ 32 * d
    omega
  refine va_copyi (sp := nI sp) (dp := nI dp) (n := nI n) C.1 C.2.1 (by rw [C.2.2.1]; exact hl.1.symm) C.2.2.2.2.1 (hw _ hm.1) (hw _ hm.2.1) (hw _ hm.2.2.1) (hw _ hm.2.2.2) C.2.2.2.2.2.2.2.1 hP (wl_D C.2.2.2.2.2.2.2.2.2 M) hS a b 0 0 he heb (tys_at E rfl) (tys_at E rfl) rfl (nI_pos (by omega)) (nI_pos (by omega)) (nI_pos (by omega)) (by rw [c1, c3]; exact h4) (by rw [c2, c3]; exact h5) (fun _ _ => rfl) (show 1 ≤ d by omega) hloc hd (fun H1 locs1 hP1 hD1 hS1 => ?_)
  rw [c1, c2, c3, wl_arrA E M hb] at hP1
  exact k p e s m args below meth c H1 locs1 ls C hP1 hS1 hl
-- numbers that are small: nI
theorem v_iaddN {x z : Nat} (hd : decode cc pc = .ok (.iadd, 1)) (k : V E d y cc nL ret Qc (pc + 1) L (.inl (nI (x + z)) :: S) M) : V E d y cc nL ret Qc pc L (.inl (nI z) :: .inl (nI x) :: S) M := v_iadd hd (by rw [nI_add]; exact k)
theorem v_imulN {x z : Nat} (hd : decode cc pc = .ok (.imul, 1)) (k : V E d y cc nL ret Qc (pc + 1) L (.inl (nI (x * z)) :: S) M) : V E d y cc nL ret Qc pc L (.inl (nI z) :: .inl (nI x) :: S) M := v_imul hd (by rw [pk_mul]; exact k)
theorem v_isubN {x z : Nat} (hd : decode cc pc = .ok (.isub, 1)) (h : z ≤ x) (k : V E d y cc nL ret Qc (pc + 1) L (.inl (nI (x - z)) :: S) M) : V E d y cc nL ret Qc pc L (.inl (nI z) :: .inl (nI x) :: S) M := v_isub hd (by rw [pk_sub h]; exact k)
theorem v_iremN {x z : Nat} (hd : decode cc pc = .ok (.irem, 1)) (hx : x < 2 ^ 31) (h0 : 0 < z) (hz : z < 2 ^ 31) (k : V E d y cc nL ret Qc (pc + 1) L (.inl (nI (x % z)) :: S) M) : V E d y cc nL ret Qc pc L (.inl (nI z) :: .inl (nI x) :: S) M := v_irem hd (nI_ne0 h0 hz) (by rw [pk_rem hx h0 hz]; exact k)
theorem v_idivN {x z : Nat} (hd : decode cc pc = .ok (.idiv, 1)) (hx : x < 2 ^ 31) (h0 : 0 < z) (hz : z < 2 ^ 31) (k : V E d y cc nL ret Qc (pc + 1) L (.inl (nI (x / z)) :: S) M) : V E d y cc nL ret Qc pc L (.inl (nI z) :: .inl (nI x) :: S) M := v_idiv hd (nI_ne0 h0 hz) (by rw [pk_div hx h0 hz]; exact k)
theorem v_iconstN {n : Nat} (hd : decode cc pc = .ok (.iconst (n : Int), 1)) (k : V E d y cc nL ret Qc (pc + 1) L (.inl (nI n) :: S) M) : V E d y cc nL ret Qc pc L S M := v_iconst hd rfl k
theorem v_bipushN {n : Nat} (hd : decode cc pc = .ok (.bipush (n : Int), 2)) (h : n < 128) (k : V E d y cc nL ret Qc (pc + 2) L (.inl (nI n) :: S) M) : V E d y cc nL ret Qc pc L S M := v_bipush hd (by
  have : ∀ m, m < 128 → (Int8.ofInt (m : Nat)).toInt32 = nI m := by decide +kernel
  exact this n h) k
theorem v_sipushN {n : Nat} (hd : decode cc pc = .ok (.sipush (n : Int), 3)) (h : (Int16.ofInt n).toInt32 = nI n) (k : V E d y cc nL ret Qc (pc + 3) L (.inl (nI n) :: S) M) : V E d y cc nL ret Qc pc L S M := v_sipush hd h k

theorem v_icmpN_lt {x z : Nat} {off : Int} {tgt : Nat} (hd : decode cc pc = .ok (.if_icmp .lt off, 3)) (ht : (pc : Int) + off = (tgt : Int)) (hx : x < 2 ^ 31) (hz : z < 2 ^ 31) (kt : x < z → V E d y cc nL ret Qc tgt L S M) (kf : z ≤ x → V E d y cc nL ret Qc (pc + 3) L S M) : V E d y cc nL ret Qc pc L (.inl (nI z) :: .inl (nI x) :: S) M := v_icmp_lt hd ht (fun q => kt ((nI_ltI hx hz).mp q)) (fun q => kf (by have h2 : ¬ (x < z) := fun h => q ((nI_ltI hx hz).mpr h); omega))
theorem v_icmpN_ge {x z : Nat} {off : Int} {tgt : Nat} (hd : decode cc pc = .ok (.if_icmp .ge off, 3)) (ht : (pc : Int) + off = (tgt : Int)) (hx : x < 2 ^ 31) (hz : z < 2 ^ 31) (kt : z ≤ x → V E d y cc nL ret Qc tgt L S M) (kf : x < z → V E d y cc nL ret Qc (pc + 3) L S M) : V E d y cc nL ret Qc pc L (.inl (nI z) :: .inl (nI x) :: S) M := v_icmp_ge hd ht (fun q => kt ((nI_leI hz hx).mp q)) (fun q => kf (by have h2 : ¬ (z ≤ x) := fun h => q ((nI_leI hz hx).mpr h); omega))
theorem v_icmpN_gt {x z : Nat} {off : Int} {tgt : Nat} (hd : decode cc pc = .ok (.if_icmp .gt off, 3)) (ht : (pc : Int) + off = (tgt : Int)) (hx : x < 2 ^ 31) (hz : z < 2 ^ 31) (kt : z < x → V E d y cc nL ret Qc tgt L S M) (kf : x ≤ z → V E d y cc nL ret Qc (pc + 3) L S M) : V E d y cc nL ret Qc pc L (.inl (nI z) :: .inl (nI x) :: S) M := v_icmp_gt hd ht (fun q => kt ((nI_ltI hz hx).mp q)) (fun q => kf (by have h2 : ¬ (z < x) := fun h => q ((nI_ltI hz hx).mpr h); omega))
theorem v_icmpN_le {x z : Nat} {off : Int} {tgt : Nat} (hd : decode cc pc = .ok (.if_icmp .le off, 3)) (ht : (pc : Int) + off = (tgt : Int)) (hx : x < 2 ^ 31) (hz : z < 2 ^ 31) (kt : x ≤ z → V E d y cc nL ret Qc tgt L S M) (kf : z < x → V E d y cc nL ret Qc (pc + 3) L S M) : V E d y cc nL ret Qc pc L (.inl (nI z) :: .inl (nI x) :: S) M := v_icmp_le hd ht (fun q => kt ((nI_leI hx hz).mp q)) (fun q => kf (by have h2 : ¬ (x ≤ z) := fun h => q ((nI_leI hx hz).mpr h); omega))
theorem v_icmpN_eq {x z : Nat} {off : Int} {tgt : Nat} (hd : decode cc pc = .ok (.if_icmp .eq off, 3)) (ht : (pc : Int) + off = (tgt : Int)) (hx : x < 2 ^ 31) (hz : z < 2 ^ 31) (kt : x = z → V E d y cc nL ret Qc tgt L S M) (kf : x ≠ z → V E d y cc nL ret Qc (pc + 3) L S M) : V E d y cc nL ret Qc pc L (.inl (nI z) :: .inl (nI x) :: S) M := v_icmp_eq hd ht (fun q => kt ((nI_eq hx hz).mp q)) (fun q => kf (fun h => q ((nI_eq hx hz).mpr h)))
theorem v_icmpN_ne {x z : Nat} {off : Int} {tgt : Nat} (hd : decode cc pc = .ok (.if_icmp .ne off, 3)) (ht : (pc : Int) + off = (tgt : Int)) (hx : x < 2 ^ 31) (hz : z < 2 ^ 31) (kt : x ≠ z → V E d y cc nL ret Qc tgt L S M) (kf : x = z → V E d y cc nL ret Qc (pc + 3) L S M) : V E d y cc nL ret Qc pc L (.inl (nI z) :: .inl (nI x) :: S) M := v_icmp_ne hd ht (fun q => kt (fun h => q ((nI_eq hx hz).mpr h))) (fun q => kf ((nI_eq hx hz).mp q))
theorem v_iincN0 {x n : Nat} {l : List (Option av)} (hd : decode cc pc = .ok (.iinc 0 (n : Int), 3)) (hn : 0 < nL) (k : V E d y cc nL ret Qc (pc + 3) (some (.inl (nI (x + n))) :: l) S M) : V E d y cc nL ret Qc pc (some (.inl (nI x)) :: l) S M := v_iinc0 hd hn (by rw [show Int32.ofInt (n : Int) = nI n from rfl, nI_add]; exact k)
theorem v_iincN1 {l0 : Option av} {x n : Nat} {l : List (Option av)} (hd : decode cc pc = .ok (.iinc 1 (n : Int), 3)) (hn : 1 < nL) (k : V E d y cc nL ret Qc (pc + 3) (l0 :: some (.inl (nI (x + n))) :: l) S M) : V E d y cc nL ret Qc pc (l0 :: some (.inl (nI x)) :: l) S M := v_iinc1 hd hn (by rw [show Int32.ofInt (n : Int) = nI n from rfl, nI_add]; exact k)
theorem v_iincN2 {l0 l1 : Option av} {x n : Nat} {l : List (Option av)} (hd : decode cc pc = .ok (.iinc 2 (n : Int), 3)) (hn : 2 < nL) (k : V E d y cc nL ret Qc (pc + 3) (l0 :: l1 :: some (.inl (nI (x + n))) :: l) S M) : V E d y cc nL ret Qc pc (l0 :: l1 :: some (.inl (nI x)) :: l) S M := v_iinc2 hd hn (by rw [show Int32.ofInt (n : Int) = nI n from rfl, nI_add]; exact k)
theorem v_iincN3 {l0 l1 l2 : Option av} {x n : Nat} {l : List (Option av)} (hd : decode cc pc = .ok (.iinc 3 (n : Int), 3)) (hn : 3 < nL) (k : V E d y cc nL ret Qc (pc + 3) (l0 :: l1 :: l2 :: some (.inl (nI (x + n))) :: l) S M) : V E d y cc nL ret Qc pc (l0 :: l1 :: l2 :: some (.inl (nI x)) :: l) S M := v_iinc3 hd hn (by rw [show Int32.ofInt (n : Int) = nI n from rfl, nI_add]; exact k)
theorem v_iincN4 {l0 l1 l2 l3 : Option av} {x n : Nat} {l : List (Option av)} (hd : decode cc pc = .ok (.iinc 4 (n : Int), 3)) (hn : 4 < nL) (k : V E d y cc nL ret Qc (pc + 3) (l0 :: l1 :: l2 :: l3 :: some (.inl (nI (x + n))) :: l) S M) : V E d y cc nL ret Qc pc (l0 :: l1 :: l2 :: l3 :: some (.inl (nI x)) :: l) S M := v_iinc4 hd hn (by rw [show Int32.ofInt (n : Int) = nI n from rfl, nI_add]; exact k)
theorem v_iincN5 {l0 l1 l2 l3 l4 : Option av} {x n : Nat} {l : List (Option av)} (hd : decode cc pc = .ok (.iinc 5 (n : Int), 3)) (hn : 5 < nL) (k : V E d y cc nL ret Qc (pc + 3) (l0 :: l1 :: l2 :: l3 :: l4 :: some (.inl (nI (x + n))) :: l) S M) : V E d y cc nL ret Qc pc (l0 :: l1 :: l2 :: l3 :: l4 :: some (.inl (nI x)) :: l) S M := v_iinc5 hd hn (by rw [show Int32.ofInt (n : Int) = nI n from rfl, nI_add]; exact k)
theorem v_iincN6 {l0 l1 l2 l3 l4 l5 : Option av} {x n : Nat} {l : List (Option av)} (hd : decode cc pc = .ok (.iinc 6 (n : Int), 3)) (hn : 6 < nL) (k : V E d y cc nL ret Qc (pc + 3) (l0 :: l1 :: l2 :: l3 :: l4 :: l5 :: some (.inl (nI (x + n))) :: l) S M) : V E d y cc nL ret Qc pc (l0 :: l1 :: l2 :: l3 :: l4 :: l5 :: some (.inl (nI x)) :: l) S M := v_iinc6 hd hn (by rw [show Int32.ofInt (n : Int) = nI n from rfl, nI_add]; exact k)
theorem v_iincN7 {l0 l1 l2 l3 l4 l5 l6 : Option av} {x n : Nat} {l : List (Option av)} (hd : decode cc pc = .ok (.iinc 7 (n : Int), 3)) (hn : 7 < nL) (k : V E d y cc nL ret Qc (pc + 3) (l0 :: l1 :: l2 :: l3 :: l4 :: l5 :: l6 :: some (.inl (nI (x + n))) :: l) S M) : V E d y cc nL ret Qc pc (l0 :: l1 :: l2 :: l3 :: l4 :: l5 :: l6 :: some (.inl (nI x)) :: l) S M := v_iinc7 hd hn (by rw [show Int32.ofInt (n : Int) = nI n from rfl, nI_add]; exact k)
theorem v_iincN8 {l0 l1 l2 l3 l4 l5 l6 l7 : Option av} {x n : Nat} {l : List (Option av)} (hd : decode cc pc = .ok (.iinc 8 (n : Int), 3)) (hn : 8 < nL) (k : V E d y cc nL ret Qc (pc + 3) (l0 :: l1 :: l2 :: l3 :: l4 :: l5 :: l6 :: l7 :: some (.inl (nI (x + n))) :: l) S M) : V E d y cc nL ret Qc pc (l0 :: l1 :: l2 :: l3 :: l4 :: l5 :: l6 :: l7 :: some (.inl (nI x)) :: l) S M := v_iinc8 hd hn (by rw [show Int32.ofInt (n : Int) = nI n from rfl, nI_add]; exact k)
theorem v_iincN9 {l0 l1 l2 l3 l4 l5 l6 l7 l8 : Option av} {x n : Nat} {l : List (Option av)} (hd : decode cc pc = .ok (.iinc 9 (n : Int), 3)) (hn : 9 < nL) (k : V E d y cc nL ret Qc (pc + 3) (l0 :: l1 :: l2 :: l3 :: l4 :: l5 :: l6 :: l7 :: l8 :: some (.inl (nI (x + n))) :: l) S M) : V E d y cc nL ret Qc pc (l0 :: l1 :: l2 :: l3 :: l4 :: l5 :: l6 :: l7 :: l8 :: some (.inl (nI x)) :: l) S M := v_iinc9 hd hn (by rw [show Int32.ofInt (n : Int) = nI n from rfl, nI_add]; exact k)
theorem v_iincN10 {l0 l1 l2 l3 l4 l5 l6 l7 l8 l9 : Option av} {x n : Nat} {l : List (Option av)} (hd : decode cc pc = .ok (.iinc 10 (n : Int), 3)) (hn : 10 < nL) (k : V E d y cc nL ret Qc (pc + 3) (l0 :: l1 :: l2 :: l3 :: l4 :: l5 :: l6 :: l7 :: l8 :: l9 :: some (.inl (nI (x + n))) :: l) S M) : V E d y cc nL ret Qc pc (l0 :: l1 :: l2 :: l3 :: l4 :: l5 :: l6 :: l7 :: l8 :: l9 :: some (.inl (nI x)) :: l) S M := v_iinc10 hd hn (by rw [show Int32.ofInt (n : Int) = nI n from rfl, nI_add]; exact k)
theorem v_iincN11 {l0 l1 l2 l3 l4 l5 l6 l7 l8 l9 l10 : Option av} {x n : Nat} {l : List (Option av)} (hd : decode cc pc = .ok (.iinc 11 (n : Int), 3)) (hn : 11 < nL) (k : V E d y cc nL ret Qc (pc + 3) (l0 :: l1 :: l2 :: l3 :: l4 :: l5 :: l6 :: l7 :: l8 :: l9 :: l10 :: some (.inl (nI (x + n))) :: l) S M) : V E d y cc nL ret Qc pc (l0 :: l1 :: l2 :: l3 :: l4 :: l5 :: l6 :: l7 :: l8 :: l9 :: l10 :: some (.inl (nI x)) :: l) S M := v_iinc11 hd hn (by rw [show Int32.ofInt (n : Int) = nI n from rfl, nI_add]; exact k)
theorem v_iincN12 {l0 l1 l2 l3 l4 l5 l6 l7 l8 l9 l10 l11 : Option av} {x n : Nat} {l : List (Option av)} (hd : decode cc pc = .ok (.iinc 12 (n : Int), 3)) (hn : 12 < nL) (k : V E d y cc nL ret Qc (pc + 3) (l0 :: l1 :: l2 :: l3 :: l4 :: l5 :: l6 :: l7 :: l8 :: l9 :: l10 :: l11 :: some (.inl (nI (x + n))) :: l) S M) : V E d y cc nL ret Qc pc (l0 :: l1 :: l2 :: l3 :: l4 :: l5 :: l6 :: l7 :: l8 :: l9 :: l10 :: l11 :: some (.inl (nI x)) :: l) S M := v_iinc12 hd hn (by rw [show Int32.ofInt (n : Int) = nI n from rfl, nI_add]; exact k)
theorem v_iincN13 {l0 l1 l2 l3 l4 l5 l6 l7 l8 l9 l10 l11 l12 : Option av} {x n : Nat} {l : List (Option av)} (hd : decode cc pc = .ok (.iinc 13 (n : Int), 3)) (hn : 13 < nL) (k : V E d y cc nL ret Qc (pc + 3) (l0 :: l1 :: l2 :: l3 :: l4 :: l5 :: l6 :: l7 :: l8 :: l9 :: l10 :: l11 :: l12 :: some (.inl (nI (x + n))) :: l) S M) : V E d y cc nL ret Qc pc (l0 :: l1 :: l2 :: l3 :: l4 :: l5 :: l6 :: l7 :: l8 :: l9 :: l10 :: l11 :: l12 :: some (.inl (nI x)) :: l) S M := v_iinc13 hd hn (by rw [show Int32.ofInt (n : Int) = nI n from rfl, nI_add]; exact k)
end VC
/-- a loop whose states are known, from its end -/
theorem bk_loop (P : Nat → Prop) (N : Nat) (hs : ∀ k, k < N → P (k + 1) → P k) (hN : P N) : ∀ i, i ≤ N → P (N - i)
  | 0, _ => hN
  | i + 1, h => hs (N - (i + 1)) (by omega) (by have := bk_loop P N hs hN i (by omega); rwa [show N - (i + 1) + 1 = N - i by omega])
theorem bk_0 (P : Nat → Prop) (N : Nat) (hs : ∀ k, k < N → P (k + 1) → P k) (hN : P N) : P 0 := by
  have := bk_loop P N hs hN N (Nat.le_refl _)
  rwa [Nat.sub_self] at this
def b2 (b : Bool) : Int32 := if b then 1 else 0
theorem b2_nar (b : Bool) : narrow .boolean (.int (b2 b)) = .int (b2 b) := by cases b <;> decide +kernel
theorem b2_0 {b : Bool} : b2 b = 0 ↔ b = false := by cases b <;> decide
theorem b2_1 {b : Bool} : b2 b ≠ 0 ↔ b = true := by cases b <;> decide
