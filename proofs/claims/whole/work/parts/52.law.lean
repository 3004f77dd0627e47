/-! THE CLAIM OUT OF ONE WALK OF THE LAW'S BODY. Your part is whole_start (and what it stands on); all else here is the same for every law, but numbers. -/
def R_law : String := "HearsaySeedsLaw"
def lw_P (b : Addr) (xs : List Int32) (args : Array Value) (s : State) : Prop := args = #[.ref b] ∧ s.IntsAt b xs ∧ xs.length ≤ 3072 ∧ (Jvm.Cond.and given_1 narrow_1).before args s = true
def lw_Q (_ : Array Value) (s : State) (o : Outcome) (t : State) : Prop := o = .returned (some (.int 1)) ∧ Framed s o t [] 600000 7302250
def lw_Z (below : List Frame) (a : Array Value) (s : State) : State → Prop := fun t => ∃ o, t.status = .running ∧ Ended t below o ∧ lw_Q a s o t
/-- the law's own end, with 1 on the stack, nothing written that was there before, its room as the claim has it -/
theorem lw_ret {p : Program} {l : Launch} {e : Env} {s : State} {m : MethodId} {below : List Frame} {meth : Method} {c : Code} {b : Nat} (hx : p.tables.exec = Jvm.exec) (hb : c.code = code) (hr : meth.sig.returnType = ret) (hlocks : meth.locks = false) {pc : Nat} {H : Heap} {ls : Array Slot} (hdg : decode code pc = .ok (.ireturn, 1)) : W p l e room_1 s m #[Value.ref b] below meth c H [] 600000 7302250 (lw_Z below #[Value.ref b] s) (F0 m pc ls [.int 1]) := by
  intro T hT X
  obtain ⟨fs, hret, hrun, hended, hW, hframe⟩ := X.leave (v := some (.int 1)) (hlocks := hlocks) (fun h => by rw [hr] at h; cases h)
  have hmeth' : T.vm.method? m = some meth := X.method'
  refine ⟨T.setFrames fs, ?_, .returned (some (.int 1)), hrun, hended, rfl, ⟨_, rfl⟩, hW, hframe⟩
  jvm_step X.here [X.here.top, hx, hb, hdg, hmeth', hr, ret, narrow_b1]
  (try refine ⟨rfl, ?_⟩); (try refine ⟨rfl, ?_⟩)
  first | (intro acts; rw [hret _ acts rfl rfl rfl]) | rw [hret _ _ rfl rfl rfl]
  exact Steps.refl _
/-- what holds at the law's entry: the machine, the code, the tables' words (any of lw_tbl by 'hts w (by decide +kernel)'), the script of L ints xs at the cell b, what the Statement gives of the start (any of its parts by flat_of_before) -/
def lw_At (p : Program) (s : State) (m : MethodId) (meth : Method) (c : Code) (b L : Nat) (xs : Nat → Int32) : Prop :=
  p.tables.exec = Jvm.exec ∧ c.code = code ∧ meth.sig.returnType = ret ∧ c.maxLocals = 4 ∧ s.vm.findClass R_law = some m.cls ∧ (∀ w ∈ lw_tbl, w.before #[Value.ref b] s = true) ∧ va_X b L xs s s.heap ∧ b < s.heap.size ∧ meth.locks = false ∧ (Jvm.Cond.and given_1 narrow_1).before #[Value.ref b] s = true
/-! the law's own walk: the script lies at cell 300 of the env -/
def LX (E : ev) (p : Program) (s : State) (m : MethodId) (meth : Method) (c : Code) (L : Nat) (xs : Nat → Int32) : Prop :=
  lw_At p s m meth c (eA E 300) L xs ∧ (∀ w ∈ gw, w.before #[Value.ref (eA E 300)] s = true) ∧ va_K (eD E) vwCl (tys E) s ∧ SX E s s.heap ∧ Lie E ∧ eB E = s.heap.size
def LV (E : ev) (L : Nat) (xs : Nat → Int32) (pc : Nat) (Lo : List (Option av)) (S : List av) (M : mm) : Prop :=
  ∀ (p : Program) (e : Env) (s : State) (m : MethodId) (below : List Frame) (meth : Method) (c : Code) (H : Heap) (locs : List Loc) (ls : Array Slot),
    LX E p s m meth c L xs → va_P (eD E) vwCl (wl E M) H → va_S (Az E) s.heap H locs → lh E ls 4 Lo →
    W p (eL E) e room_1 s m #[Value.ref (eA E 300)] below meth c H locs 600000 7302250 (lw_Z below #[Value.ref (eA E 300)] s) (F0 m pc ls (S.map (rv E)))
abbrev Li (i : Nat) : List (Option av) := [some (.inr 300), some (.inr 0), some (.inr 92), some (.inl (nI i))]
section LVR
variable {E : ev} {L : Nat} {xs : Nat → Int32} {pc i : Nat} {S St : List av} {M : mm}
theorem l_al {k : Fin 4} {j a : Nat} (hd : decode cL_law pc = .ok (.aload_n k, 1)) (hk : (k : Nat) = j) (ha : (Li i)[j]? = some (some (.inr a))) (K : LV E L xs (pc + 1) (Li i) (.inr a :: S) M) : LV E L xs pc (Li i) S M := by
  intro p e s m below meth c H locs ls C hP hS hl
  exact lv_aload_n C.1.1 C.1.2.1 hd hk (lh_at hl (i := j) (v := .inr a) ha) (K p e s m below meth c H locs ls C hP hS hl)
theorem l_il (hd : decode cL_law pc = .ok (.iload_n 3, 1)) (K : LV E L xs (pc + 1) (Li i) (.inl (nI i) :: S) M) : LV E L xs pc (Li i) S M := by
  intro p e s m below meth c H locs ls C hP hS hl
  exact lv_iload_n C.1.1 C.1.2.1 hd rfl (lh_at hl (i := 3) (v := .inl (nI i)) rfl) (K p e s m below meth c H locs ls C hP hS hl)
theorem l_ic {n : Nat} (hd : decode cL_law pc = .ok (.iconst (n : Int), 1)) (K : LV E L xs (pc + 1) (Li i) (.inl (nI n) :: S) M) : LV E L xs pc (Li i) S M := by
  intro p e s m below meth c H locs ls C hP hS hl
  exact lv_iconst C.1.1 C.1.2.1 hd rfl (K p e s m below meth c H locs ls C hP hS hl)
theorem l_bp {n : Nat} (hd : decode cL_law pc = .ok (.bipush (n : Int), 2)) (hn : (Int8.ofInt (n : Int)).toInt32 = nI n) (K : LV E L xs (pc + 2) (Li i) (.inl (nI n) :: S) M) : LV E L xs pc (Li i) S M := by
  intro p e s m below meth c H locs ls C hP hS hl
  exact lv_bipush C.1.1 C.1.2.1 hd hn (K p e s m below meth c H locs ls C hP hS hl)
theorem l_ia {a b : Nat} (hd : decode cL_law pc = .ok (.iadd, 1)) (K : LV E L xs (pc + 1) (Li i) (.inl (nI (a + b)) :: S) M) : LV E L xs pc (Li i) (.inl (nI b) :: .inl (nI a) :: S) M := by
  intro p e s m below meth c H locs ls C hP hS hl
  exact lv_iadd C.1.1 C.1.2.1 hd (by rw [nI_add]; exact K p e s m below meth c H locs ls C hP hS hl)
theorem l_nb {E : ev} {p : Program} {s : State} {m : MethodId} {meth : Method} {c : Code} {L : Nat} {xs : Nat → Int32} (C : LX E p s m meth c L xs) : ¬ Az E (eA E 300) := by
  intro h
  have h1 : eB E ≤ eA E 300 := h
  have h2 := C.1.2.2.2.2.2.2.2.1
  rw [C.2.2.2.2.2] at h1
  omega
theorem l_sl {j : Nat} (hd : decode cL_law pc = .ok (.iaload, 1)) (hj : j < L) (hL : L ≤ 3072) (K : LV E L xs (pc + 1) (Li i) (.inl (xs j) :: S) M) : LV E L xs pc (Li i) (.inl (nI j) :: .inr 300 :: S) M := by
  intro p e s m below meth c H locs ls C hP hS hl
  refine va_sld C.1.1 C.1.2.1 C.1.2.2.2.2.2.2.1 C.1.2.2.2.2.2.2.2.1 (l_nb C) hS (vp_in_nI hj (by omega)) hd ?_
  rw [nI_clamp (by omega)]
  exact K p e s m below meth c H locs ls C hP hS hl
theorem l_call {a ci ix n N d' nL' : Nat} {T : u_T} {fs : List (Option Nat)} {y' : MethodName} {cc' : ByteArray} {as : List av} {Q' : Int32 → mm → Prop} (hC : Ct E d' y' cc' nL' (some .int) (.inr a :: as) M (qI E Q')) (hd : decode cL_law pc = .ok (.invokevirtual ix, 3)) (hv : CV RL ix y' cc' nL' (some .int) n) (hn : as.length = n) (ha : sh a = .inr (ci, fs)) (hc : vwCl[ci]? = some (y'.cls, T, N)) (hdd : d' < 10) (hs : S.length ≤ 8) (hst : St = as.reverse ++ .inr a :: S) (k : ∀ (r : Int32) (M' : mm), Q' r M' → LV E L xs (pc + 3) (Li i) (.inl r :: S) M') : LV E L xs pc (Li i) St M := by
  intro p e s m below meth c H locs ls C hP hS hl
  subst hst
  obtain ⟨hw, hq, h13⟩ := hv
  have hlt : a < NC := sh_lt ha (by intro q; cases q; simp at hc)
  have he : (wl E M)[a]? = some (eA E a, .inr (ci, fs.zipIdx.map (fv E M a))) := by rw [wl_at E M hlt]; unfold ce; rw [ha]; rfl
  have hG : GoodIn gw (wsV RL ix y'.cls y' (.code y' cc' nL' (some .int) :: gw)) := by
    refine gw_good (fun _ h => h) _ (fun w h => ?_)
    unfold wsV at h hw
    rcases List.mem_append.mp h with h | h
    · exact hw w (List.mem_append_left _ h)
    · rcases List.mem_cons.mp h with h | h
      · exact hw w (List.mem_append_right _ (by rw [h]; exact List.mem_singleton_self _))
      · exact h
  have cw : CallW room_1 s #[Value.ref (eA E 300)] RL y'.cls ix y' cc' nL' (some .int) (.code y' cc' nL' (some .int) :: gw) (rm d') 0 0 n := cwV n C.2.1 hG rfl rfl rfl ⟨rfl, hq⟩ ⟨(by show d' + 1 ≤ 13; omega), by show 8 + (nL' + 11) + 32 * d' ≤ 494; omega⟩
  have hpB : ∀ U : State, U.heap = H → s.WarmedH U.vm → pB E M U := fun U hU hW => ⟨by rw [hU]; exact hP, va_K.moved hW.alike C.2.2.1, by rw [hU]; exact SX.warm hW (C.2.2.2.1.kept hS.2.1), C.2.2.2.2.1⟩
  refine va_calli (A0 := Az E) (H0 := s.heap) (va_runV (As := as.map (rv E)) (rest := S.map (rv E)) ⟨C.1.1, C.1.2.1, C.1.2.2.2.1, C.1.2.2.2.2.1, C.2.1⟩ hC cw ⟨pB_blind E _ M, va_recv C.2.2.1 hP hc he, fun U hU hW => ⟨rfl, hpB U hU hW⟩⟩ rfl (by rw [List.length_map]; exact hn) hl.1 (by simp [rv]) (lv_room (by rw [rv_sum]; exact hs)) hd ⟨Nat.le_refl _, Nat.le_refl _⟩) hS (fun q _ h => h) (fun q h => h) (fun r u t H1 locs1 ht hvm hw hB hz1 hk1 hS1 => ?_)
  exact k r u hw p e s m below meth c H1 locs1 ls C (by have hB' : va_P (eD E) vwCl (wl E u) t.heap := hB; rw [ht] at hB'; exact hB') hS1 hl
theorem l_eq {x z : Int32} {off : Int} {tgt : Nat} (hd : decode cL_law pc = .ok (.if_icmp .eq off, 3)) (ht : (pc : Int) + off = (tgt : Int)) (h : x = z) (K : LV E L xs tgt (Li i) S M) : LV E L xs pc (Li i) (.inl z :: .inl x :: S) M := by
  intro p e s m below meth c H locs ls C hP hS hl
  exact lv_icmp_eq C.1.1 C.1.2.1 hd ht (fun _ => K p e s m below meth c H locs ls C hP hS hl) (fun q => absurd h q)
theorem l_gt {x z : Int32} {off : Int} {tgt : Nat} (hd : decode cL_law pc = .ok (.if_icmp .gt off, 3)) (ht : (pc : Int) + off = (tgt : Int)) (kt : z < x → LV E L xs tgt (Li i) S M) (kf : ¬ z < x → LV E L xs (pc + 3) (Li i) S M) : LV E L xs pc (Li i) (.inl z :: .inl x :: S) M := by
  intro p e s m below meth c H locs ls C hP hS hl
  exact lv_icmp_gt C.1.1 C.1.2.1 hd ht (fun q => kt q p e s m below meth c H locs ls C hP hS hl) (fun q => kf q p e s m below meth c H locs ls C hP hS hl)
theorem l_len (hd : decode cL_law pc = .ok (.arraylength, 1)) (K : LV E L xs (pc + 1) (Li i) (.inl (nI L) :: S) M) : LV E L xs pc (Li i) (.inr 300 :: S) M := by
  intro p e s m below meth c H locs ls C hP hS hl
  exact va_slen C.1.1 C.1.2.1 C.1.2.2.2.2.2.2.1 C.1.2.2.2.2.2.2.2.1 (l_nb C) hS hd (K p e s m below meth c H locs ls C hP hS hl)
theorem l_sub {x z : Int32} (hd : decode cL_law pc = .ok (.isub, 1)) (K : LV E L xs (pc + 1) (Li i) (.inl (x - z) :: S) M) : LV E L xs pc (Li i) (.inl z :: .inl x :: S) M := by
  intro p e s m below meth c H locs ls C hP hS hl
  exact lv_isub C.1.1 C.1.2.1 hd (K p e s m below meth c H locs ls C hP hS hl)
theorem l_and {x z : Int32} (hd : decode cL_law pc = .ok (.iand, 1)) (K : LV E L xs (pc + 1) (Li i) (.inl (x &&& z) :: S) M) : LV E L xs pc (Li i) (.inl z :: .inl x :: S) M := by
  intro p e s m below meth c H locs ls C hP hS hl
  exact lv_iand C.1.1 C.1.2.1 hd (K p e s m below meth c H locs ls C hP hS hl)
theorem l_ts {dflt lo hi : Int} {offs : Array Int} {len : Nat} {x : Int32} {off : Int} {tgt : Nat} (hd : decode cL_law pc = .ok (.tableswitch dflt lo hi offs, len)) (h1 : ¬ x.toInt < lo) (h2 : ¬ hi < x.toInt) (ho : offs[(x.toInt - lo).toNat]? = some off) (ht : (pc : Int) + off = (tgt : Int)) (K : LV E L xs tgt (Li i) S M) : LV E L xs pc (Li i) (.inl x :: S) M := by
  intro p e s m below meth c H locs ls C hP hS hl
  exact lv_tableIn C.1.1 C.1.2.1 hd h1 h2 ho ht (K p e s m below meth c H locs ls C hP hS hl)
theorem l_to {dflt lo hi : Int} {offs : Array Int} {len : Nat} {x : Int32} {tgt : Nat} (hd : decode cL_law pc = .ok (.tableswitch dflt lo hi offs, len)) (h : x.toInt < lo ∨ hi < x.toInt) (ht : (pc : Int) + dflt = (tgt : Int)) (K : LV E L xs tgt (Li i) S M) : LV E L xs pc (Li i) (.inl x :: S) M := by
  intro p e s m below meth c H locs ls C hP hS hl
  exact lv_tableOut C.1.1 C.1.2.1 hd h ht (K p e s m below meth c H locs ls C hP hS hl)
theorem l_goto {off : Int} {tgt : Nat} (hd : decode cL_law pc = .ok (.goto off, 3)) (ht : (pc : Int) + off = (tgt : Int)) (K : LV E L xs tgt (Li i) S M) : LV E L xs pc (Li i) S M := by
  intro p e s m below meth c H locs ls C hP hS hl
  exact lv_goto C.1.1 C.1.2.1 hd ht (K p e s m below meth c H locs ls C hP hS hl)
theorem l_inc {n : Nat} (hd : decode cL_law pc = .ok (.iinc 3 (n : Int), 3)) (K : LV E L xs (pc + 3) (Li (i + n)) S M) : LV E L xs pc (Li i) S M := by
  intro p e s m below meth c H locs ls C hP hS hl
  obtain ⟨z, hz⟩ := List.getElem?_of_mem ((lz_mem E (Li i) 0).mpr ⟨3, .inl (nI i), rfl, rfl⟩)
  refine lv_iinc (x := nI i) C.1.1 C.1.2.1 hd hl (k := z) (by rw [hz]; rfl) rfl (by decide) rfl (fun ls' hl' => ?_)
  have h4 : lh E ls' 4 (Li (i + n)) := by
    have := lh_set (v := .inl (nI i + Int32.ofInt (n : Int))) (i := 3) (L := Li i) hl'
    rw [show Int32.ofInt (n : Int) = nI n from rfl, nI_add] at this
    exact this
  exact K p e s m below meth c H locs ls' C hP hS h4
theorem l_end (hd : decode cL_law pc = .ok (.ireturn, 1)) : LV E L xs pc (Li i) [.inl (nI 1)] M := by
  intro p e s m below meth c H locs ls C hP hS hl
  refine va_forget (fun q hq => ?_) (lw_ret C.1.1 C.1.2.1 C.1.2.2.1 C.1.2.2.2.2.2.2.2.2.1 hd)
  have : eB E ≤ q.base := hS.2.2 q hq
  rw [C.2.2.2.2.2] at this
  exact this
end LVR
set_option maxRecDepth 100000 in
set_option maxHeartbeats 2000000 in
theorem lc_0 {E : ev} {L : Nat} {xs : Nat → Int32} {i : Nat} {M : mm} (hL : L ≤ 3072) (hi : i + 6 ≤ L) (hI : Inv M) (K : ∀ M', Inv M' → LV E L xs 1636 (Li i) [] M') : LV E L xs 224 (Li i) [] M := by
  refine l_al (a := 0) dL_law_224 rfl rfl ?_
  refine l_al (a := 300) dL_law_225 rfl rfl ?_
  refine l_il dL_law_226 ?_
  refine l_ic (n := 1) dL_law_227 ?_
  refine l_ia dL_law_228 ?_
  refine l_sl dL_law_229 (by omega) hL ?_
  refine l_al (a := 300) dL_law_230 rfl rfl ?_
  refine l_il dL_law_231 ?_
  refine l_ic (n := 2) dL_law_232 ?_
  refine l_ia dL_law_233 ?_
  refine l_sl dL_law_234 (by omega) hL ?_
  refine l_al (a := 300) dL_law_235 rfl rfl ?_
  refine l_il dL_law_236 ?_
  refine l_ic (n := 3) dL_law_237 ?_
  refine l_ia dL_law_238 ?_
  refine l_sl dL_law_239 (by omega) hL ?_
  obtain ⟨Q1, Q2, hX, hM⟩ := pr_person E M hI (xs (i + 1)) (xs (i + 2)) (xs (i + 3))
  refine l_call hX dL_law_240 cL_13 rfl sh_0 rfl (by decide) (Nat.le_of_ble_eq_true rfl) rfl (fun r1 M1 hq => ?_)
  obtain ⟨hM1, hM2⟩ := hM r1 M1 hq
  refine l_al (a := 92) dL_law_243 rfl rfl ?_
  refine l_al (a := 300) dL_law_244 rfl rfl ?_
  refine l_il dL_law_245 ?_
  refine l_ic (n := 1) dL_law_246 ?_
  refine l_ia dL_law_247 ?_
  refine l_sl dL_law_248 (by omega) hL ?_
  refine l_al (a := 300) dL_law_249 rfl rfl ?_
  refine l_il dL_law_250 ?_
  refine l_ic (n := 2) dL_law_251 ?_
  refine l_ia dL_law_252 ?_
  refine l_sl dL_law_253 (by omega) hL ?_
  refine l_al (a := 300) dL_law_254 rfl rfl ?_
  refine l_il dL_law_255 ?_
  refine l_ic (n := 3) dL_law_256 ?_
  refine l_ia dL_law_257 ?_
  refine l_sl dL_law_258 (by omega) hL ?_
  refine l_call hM1 dL_law_259 cL_17 rfl sh_92 rfl (by decide) (Nat.le_of_ble_eq_true rfl) rfl (fun r2 M2 hz => ?_)
  obtain ⟨he, hI2⟩ := hM2 r2 M2 hz
  exact l_eq (tgt := 1636) dL_law_262 (by decide) he (K M2 hI2)
set_option maxRecDepth 100000 in
set_option maxHeartbeats 2000000 in
theorem lc_1 {E : ev} {L : Nat} {xs : Nat → Int32} {i : Nat} {M : mm} (hL : L ≤ 3072) (hi : i + 6 ≤ L) (hI : Inv M) (K : ∀ M', Inv M' → LV E L xs 1636 (Li i) [] M') : LV E L xs 267 (Li i) [] M := by
  refine l_al (a := 0) dL_law_267 rfl rfl ?_
  refine l_al (a := 300) dL_law_268 rfl rfl ?_
  refine l_il dL_law_269 ?_
  refine l_ic (n := 1) dL_law_270 ?_
  refine l_ia dL_law_271 ?_
  refine l_sl dL_law_272 (by omega) hL ?_
  refine l_al (a := 300) dL_law_273 rfl rfl ?_
  refine l_il dL_law_274 ?_
  refine l_ic (n := 2) dL_law_275 ?_
  refine l_ia dL_law_276 ?_
  refine l_sl dL_law_277 (by omega) hL ?_
  obtain ⟨Q1, Q2, hX, hM⟩ := pr_told E M hI (xs (i + 1)) (xs (i + 2))
  refine l_call hX dL_law_278 cL_18 rfl sh_0 rfl (by decide) (Nat.le_of_ble_eq_true rfl) rfl (fun r1 M1 hq => ?_)
  obtain ⟨hM1, hM2⟩ := hM r1 M1 hq
  refine l_al (a := 92) dL_law_281 rfl rfl ?_
  refine l_al (a := 300) dL_law_282 rfl rfl ?_
  refine l_il dL_law_283 ?_
  refine l_ic (n := 1) dL_law_284 ?_
  refine l_ia dL_law_285 ?_
  refine l_sl dL_law_286 (by omega) hL ?_
  refine l_al (a := 300) dL_law_287 rfl rfl ?_
  refine l_il dL_law_288 ?_
  refine l_ic (n := 2) dL_law_289 ?_
  refine l_ia dL_law_290 ?_
  refine l_sl dL_law_291 (by omega) hL ?_
  refine l_call hM1 dL_law_292 cL_22 rfl sh_92 rfl (by decide) (Nat.le_of_ble_eq_true rfl) rfl (fun r2 M2 hz => ?_)
  obtain ⟨he, hI2⟩ := hM2 r2 M2 hz
  exact l_eq (tgt := 1636) dL_law_295 (by decide) he (K M2 hI2)
set_option maxRecDepth 100000 in
set_option maxHeartbeats 2000000 in
theorem lc_2 {E : ev} {L : Nat} {xs : Nat → Int32} {i : Nat} {M : mm} (hL : L ≤ 3072) (hi : i + 6 ≤ L) (hI : Inv M) (K : ∀ M', Inv M' → LV E L xs 1636 (Li i) [] M') : LV E L xs 300 (Li i) [] M := by
  refine l_al (a := 0) dL_law_300 rfl rfl ?_
  refine l_al (a := 300) dL_law_301 rfl rfl ?_
  refine l_il dL_law_302 ?_
  refine l_ic (n := 1) dL_law_303 ?_
  refine l_ia dL_law_304 ?_
  refine l_sl dL_law_305 (by omega) hL ?_
  refine l_al (a := 300) dL_law_306 rfl rfl ?_
  refine l_il dL_law_307 ?_
  refine l_ic (n := 2) dL_law_308 ?_
  refine l_ia dL_law_309 ?_
  refine l_sl dL_law_310 (by omega) hL ?_
  obtain ⟨Q1, Q2, hX, hM⟩ := pr_as E M hI (xs (i + 1)) (xs (i + 2))
  refine l_call hX dL_law_311 cL_23 rfl sh_0 rfl (by decide) (Nat.le_of_ble_eq_true rfl) rfl (fun r1 M1 hq => ?_)
  obtain ⟨hM1, hM2⟩ := hM r1 M1 hq
  refine l_al (a := 92) dL_law_314 rfl rfl ?_
  refine l_al (a := 300) dL_law_315 rfl rfl ?_
  refine l_il dL_law_316 ?_
  refine l_ic (n := 1) dL_law_317 ?_
  refine l_ia dL_law_318 ?_
  refine l_sl dL_law_319 (by omega) hL ?_
  refine l_al (a := 300) dL_law_320 rfl rfl ?_
  refine l_il dL_law_321 ?_
  refine l_ic (n := 2) dL_law_322 ?_
  refine l_ia dL_law_323 ?_
  refine l_sl dL_law_324 (by omega) hL ?_
  refine l_call hM1 dL_law_325 cL_26 rfl sh_92 rfl (by decide) (Nat.le_of_ble_eq_true rfl) rfl (fun r2 M2 hz => ?_)
  obtain ⟨he, hI2⟩ := hM2 r2 M2 hz
  exact l_eq (tgt := 1636) dL_law_328 (by decide) he (K M2 hI2)
set_option maxRecDepth 100000 in
set_option maxHeartbeats 2000000 in
theorem lc_3 {E : ev} {L : Nat} {xs : Nat → Int32} {i : Nat} {M : mm} (hL : L ≤ 3072) (hi : i + 6 ≤ L) (hI : Inv M) (K : ∀ M', Inv M' → LV E L xs 1636 (Li i) [] M') : LV E L xs 333 (Li i) [] M := by
  refine l_al (a := 0) dL_law_333 rfl rfl ?_
  refine l_al (a := 300) dL_law_334 rfl rfl ?_
  refine l_il dL_law_335 ?_
  refine l_ic (n := 1) dL_law_336 ?_
  refine l_ia dL_law_337 ?_
  refine l_sl dL_law_338 (by omega) hL ?_
  refine l_al (a := 300) dL_law_339 rfl rfl ?_
  refine l_il dL_law_340 ?_
  refine l_ic (n := 2) dL_law_341 ?_
  refine l_ia dL_law_342 ?_
  refine l_sl dL_law_343 (by omega) hL ?_
  obtain ⟨Q1, Q2, hX, hM⟩ := pr_turns E M hI (xs (i + 1)) (xs (i + 2))
  refine l_call hX dL_law_344 cL_27 rfl sh_0 rfl (by decide) (Nat.le_of_ble_eq_true rfl) rfl (fun r1 M1 hq => ?_)
  obtain ⟨hM1, hM2⟩ := hM r1 M1 hq
  refine l_al (a := 92) dL_law_347 rfl rfl ?_
  refine l_al (a := 300) dL_law_348 rfl rfl ?_
  refine l_il dL_law_349 ?_
  refine l_ic (n := 1) dL_law_350 ?_
  refine l_ia dL_law_351 ?_
  refine l_sl dL_law_352 (by omega) hL ?_
  refine l_al (a := 300) dL_law_353 rfl rfl ?_
  refine l_il dL_law_354 ?_
  refine l_ic (n := 2) dL_law_355 ?_
  refine l_ia dL_law_356 ?_
  refine l_sl dL_law_357 (by omega) hL ?_
  refine l_call hM1 dL_law_358 cL_30 rfl sh_92 rfl (by decide) (Nat.le_of_ble_eq_true rfl) rfl (fun r2 M2 hz => ?_)
  obtain ⟨he, hI2⟩ := hM2 r2 M2 hz
  exact l_eq (tgt := 1636) dL_law_361 (by decide) he (K M2 hI2)
set_option maxRecDepth 100000 in
set_option maxHeartbeats 2000000 in
theorem lc_4 {E : ev} {L : Nat} {xs : Nat → Int32} {i : Nat} {M : mm} (hL : L ≤ 3072) (hi : i + 6 ≤ L) (hI : Inv M) (K : ∀ M', Inv M' → LV E L xs 1636 (Li i) [] M') : LV E L xs 366 (Li i) [] M := by
  refine l_al (a := 0) dL_law_366 rfl rfl ?_
  refine l_al (a := 300) dL_law_367 rfl rfl ?_
  refine l_il dL_law_368 ?_
  refine l_ic (n := 1) dL_law_369 ?_
  refine l_ia dL_law_370 ?_
  refine l_sl dL_law_371 (by omega) hL ?_
  refine l_al (a := 300) dL_law_372 rfl rfl ?_
  refine l_il dL_law_373 ?_
  refine l_ic (n := 2) dL_law_374 ?_
  refine l_ia dL_law_375 ?_
  refine l_sl dL_law_376 (by omega) hL ?_
  refine l_al (a := 300) dL_law_377 rfl rfl ?_
  refine l_il dL_law_378 ?_
  refine l_ic (n := 3) dL_law_379 ?_
  refine l_ia dL_law_380 ?_
  refine l_sl dL_law_381 (by omega) hL ?_
  obtain ⟨Q1, Q2, hX, hM⟩ := pr_set E M hI (xs (i + 1)) (xs (i + 2)) (xs (i + 3))
  refine l_call hX dL_law_382 cL_31 rfl sh_0 rfl (by decide) (Nat.le_of_ble_eq_true rfl) rfl (fun r1 M1 hq => ?_)
  obtain ⟨hM1, hM2⟩ := hM r1 M1 hq
  refine l_al (a := 92) dL_law_385 rfl rfl ?_
  refine l_al (a := 300) dL_law_386 rfl rfl ?_
  refine l_il dL_law_387 ?_
  refine l_ic (n := 1) dL_law_388 ?_
  refine l_ia dL_law_389 ?_
  refine l_sl dL_law_390 (by omega) hL ?_
  refine l_al (a := 300) dL_law_391 rfl rfl ?_
  refine l_il dL_law_392 ?_
  refine l_ic (n := 2) dL_law_393 ?_
  refine l_ia dL_law_394 ?_
  refine l_sl dL_law_395 (by omega) hL ?_
  refine l_al (a := 300) dL_law_396 rfl rfl ?_
  refine l_il dL_law_397 ?_
  refine l_ic (n := 3) dL_law_398 ?_
  refine l_ia dL_law_399 ?_
  refine l_sl dL_law_400 (by omega) hL ?_
  refine l_call hM1 dL_law_401 cL_34 rfl sh_92 rfl (by decide) (Nat.le_of_ble_eq_true rfl) rfl (fun r2 M2 hz => ?_)
  obtain ⟨he, hI2⟩ := hM2 r2 M2 hz
  exact l_eq (tgt := 1636) dL_law_404 (by decide) he (K M2 hI2)
set_option maxRecDepth 100000 in
set_option maxHeartbeats 2000000 in
theorem lc_5 {E : ev} {L : Nat} {xs : Nat → Int32} {i : Nat} {M : mm} (hL : L ≤ 3072) (hi : i + 6 ≤ L) (hI : Inv M) (K : ∀ M', Inv M' → LV E L xs 1636 (Li i) [] M') : LV E L xs 409 (Li i) [] M := by
  refine l_al (a := 0) dL_law_409 rfl rfl ?_
  refine l_al (a := 300) dL_law_410 rfl rfl ?_
  refine l_il dL_law_411 ?_
  refine l_ic (n := 1) dL_law_412 ?_
  refine l_ia dL_law_413 ?_
  refine l_sl dL_law_414 (by omega) hL ?_
  refine l_al (a := 300) dL_law_415 rfl rfl ?_
  refine l_il dL_law_416 ?_
  refine l_ic (n := 2) dL_law_417 ?_
  refine l_ia dL_law_418 ?_
  refine l_sl dL_law_419 (by omega) hL ?_
  obtain ⟨Q1, Q2, hX, hM⟩ := pr_thought E M hI (xs (i + 1)) (xs (i + 2))
  refine l_call hX dL_law_420 cL_35 rfl sh_0 rfl (by decide) (Nat.le_of_ble_eq_true rfl) rfl (fun r1 M1 hq => ?_)
  obtain ⟨hM1, hM2⟩ := hM r1 M1 hq
  refine l_al (a := 92) dL_law_423 rfl rfl ?_
  refine l_al (a := 300) dL_law_424 rfl rfl ?_
  refine l_il dL_law_425 ?_
  refine l_ic (n := 1) dL_law_426 ?_
  refine l_ia dL_law_427 ?_
  refine l_sl dL_law_428 (by omega) hL ?_
  refine l_al (a := 300) dL_law_429 rfl rfl ?_
  refine l_il dL_law_430 ?_
  refine l_ic (n := 2) dL_law_431 ?_
  refine l_ia dL_law_432 ?_
  refine l_sl dL_law_433 (by omega) hL ?_
  refine l_call hM1 dL_law_434 cL_38 rfl sh_92 rfl (by decide) (Nat.le_of_ble_eq_true rfl) rfl (fun r2 M2 hz => ?_)
  obtain ⟨he, hI2⟩ := hM2 r2 M2 hz
  exact l_eq (tgt := 1636) dL_law_437 (by decide) he (K M2 hI2)
set_option maxRecDepth 100000 in
set_option maxHeartbeats 2000000 in
theorem lc_6 {E : ev} {L : Nat} {xs : Nat → Int32} {i : Nat} {M : mm} (hL : L ≤ 3072) (hi : i + 6 ≤ L) (hI : Inv M) (K : ∀ M', Inv M' → LV E L xs 1636 (Li i) [] M') : LV E L xs 442 (Li i) [] M := by
  refine l_al (a := 0) dL_law_442 rfl rfl ?_
  refine l_al (a := 300) dL_law_443 rfl rfl ?_
  refine l_il dL_law_444 ?_
  refine l_ic (n := 1) dL_law_445 ?_
  refine l_ia dL_law_446 ?_
  refine l_sl dL_law_447 (by omega) hL ?_
  refine l_al (a := 300) dL_law_448 rfl rfl ?_
  refine l_il dL_law_449 ?_
  refine l_ic (n := 2) dL_law_450 ?_
  refine l_ia dL_law_451 ?_
  refine l_sl dL_law_452 (by omega) hL ?_
  refine l_al (a := 300) dL_law_453 rfl rfl ?_
  refine l_il dL_law_454 ?_
  refine l_ic (n := 3) dL_law_455 ?_
  refine l_ia dL_law_456 ?_
  refine l_sl dL_law_457 (by omega) hL ?_
  obtain ⟨Q1, Q2, hX, hM⟩ := pr_lets E M hI (xs (i + 1)) (xs (i + 2)) (xs (i + 3))
  refine l_call hX dL_law_458 cL_39 rfl sh_0 rfl (by decide) (Nat.le_of_ble_eq_true rfl) rfl (fun r1 M1 hq => ?_)
  obtain ⟨hM1, hM2⟩ := hM r1 M1 hq
  refine l_al (a := 92) dL_law_461 rfl rfl ?_
  refine l_al (a := 300) dL_law_462 rfl rfl ?_
  refine l_il dL_law_463 ?_
  refine l_ic (n := 1) dL_law_464 ?_
  refine l_ia dL_law_465 ?_
  refine l_sl dL_law_466 (by omega) hL ?_
  refine l_al (a := 300) dL_law_467 rfl rfl ?_
  refine l_il dL_law_468 ?_
  refine l_ic (n := 2) dL_law_469 ?_
  refine l_ia dL_law_470 ?_
  refine l_sl dL_law_471 (by omega) hL ?_
  refine l_al (a := 300) dL_law_472 rfl rfl ?_
  refine l_il dL_law_473 ?_
  refine l_ic (n := 3) dL_law_474 ?_
  refine l_ia dL_law_475 ?_
  refine l_sl dL_law_476 (by omega) hL ?_
  refine l_call hM1 dL_law_477 cL_42 rfl sh_92 rfl (by decide) (Nat.le_of_ble_eq_true rfl) rfl (fun r2 M2 hz => ?_)
  obtain ⟨he, hI2⟩ := hM2 r2 M2 hz
  exact l_eq (tgt := 1636) dL_law_480 (by decide) he (K M2 hI2)
set_option maxRecDepth 100000 in
set_option maxHeartbeats 2000000 in
theorem lc_7 {E : ev} {L : Nat} {xs : Nat → Int32} {i : Nat} {M : mm} (hL : L ≤ 3072) (hi : i + 6 ≤ L) (hI : Inv M) (K : ∀ M', Inv M' → LV E L xs 1636 (Li i) [] M') : LV E L xs 485 (Li i) [] M := by
  refine l_al (a := 0) dL_law_485 rfl rfl ?_
  refine l_al (a := 300) dL_law_486 rfl rfl ?_
  refine l_il dL_law_487 ?_
  refine l_ic (n := 1) dL_law_488 ?_
  refine l_ia dL_law_489 ?_
  refine l_sl dL_law_490 (by omega) hL ?_
  refine l_al (a := 300) dL_law_491 rfl rfl ?_
  refine l_il dL_law_492 ?_
  refine l_ic (n := 2) dL_law_493 ?_
  refine l_ia dL_law_494 ?_
  refine l_sl dL_law_495 (by omega) hL ?_
  obtain ⟨Q1, Q2, hX, hM⟩ := pr_says E M hI (xs (i + 1)) (xs (i + 2))
  refine l_call hX dL_law_496 cL_43 rfl sh_0 rfl (by decide) (Nat.le_of_ble_eq_true rfl) rfl (fun r1 M1 hq => ?_)
  obtain ⟨hM1, hM2⟩ := hM r1 M1 hq
  refine l_al (a := 92) dL_law_499 rfl rfl ?_
  refine l_al (a := 300) dL_law_500 rfl rfl ?_
  refine l_il dL_law_501 ?_
  refine l_ic (n := 1) dL_law_502 ?_
  refine l_ia dL_law_503 ?_
  refine l_sl dL_law_504 (by omega) hL ?_
  refine l_al (a := 300) dL_law_505 rfl rfl ?_
  refine l_il dL_law_506 ?_
  refine l_ic (n := 2) dL_law_507 ?_
  refine l_ia dL_law_508 ?_
  refine l_sl dL_law_509 (by omega) hL ?_
  refine l_call hM1 dL_law_510 cL_46 rfl sh_92 rfl (by decide) (Nat.le_of_ble_eq_true rfl) rfl (fun r2 M2 hz => ?_)
  obtain ⟨he, hI2⟩ := hM2 r2 M2 hz
  exact l_eq (tgt := 1636) dL_law_513 (by decide) he (K M2 hI2)
set_option maxRecDepth 100000 in
set_option maxHeartbeats 2000000 in
theorem lc_8 {E : ev} {L : Nat} {xs : Nat → Int32} {i : Nat} {M : mm} (hL : L ≤ 3072) (hi : i + 6 ≤ L) (hI : Inv M) (K : ∀ M', Inv M' → LV E L xs 1636 (Li i) [] M') : LV E L xs 518 (Li i) [] M := by
  refine l_al (a := 0) dL_law_518 rfl rfl ?_
  refine l_al (a := 300) dL_law_519 rfl rfl ?_
  refine l_il dL_law_520 ?_
  refine l_ic (n := 1) dL_law_521 ?_
  refine l_ia dL_law_522 ?_
  refine l_sl dL_law_523 (by omega) hL ?_
  refine l_al (a := 300) dL_law_524 rfl rfl ?_
  refine l_il dL_law_525 ?_
  refine l_ic (n := 2) dL_law_526 ?_
  refine l_ia dL_law_527 ?_
  refine l_sl dL_law_528 (by omega) hL ?_
  refine l_al (a := 300) dL_law_529 rfl rfl ?_
  refine l_il dL_law_530 ?_
  refine l_ic (n := 3) dL_law_531 ?_
  refine l_ia dL_law_532 ?_
  refine l_sl dL_law_533 (by omega) hL ?_
  obtain ⟨Q1, Q2, hX, hM⟩ := pr_heeds E M hI (xs (i + 1)) (xs (i + 2)) (xs (i + 3))
  refine l_call hX dL_law_534 cL_47 rfl sh_0 rfl (by decide) (Nat.le_of_ble_eq_true rfl) rfl (fun r1 M1 hq => ?_)
  obtain ⟨hM1, hM2⟩ := hM r1 M1 hq
  refine l_al (a := 92) dL_law_537 rfl rfl ?_
  refine l_al (a := 300) dL_law_538 rfl rfl ?_
  refine l_il dL_law_539 ?_
  refine l_ic (n := 1) dL_law_540 ?_
  refine l_ia dL_law_541 ?_
  refine l_sl dL_law_542 (by omega) hL ?_
  refine l_al (a := 300) dL_law_543 rfl rfl ?_
  refine l_il dL_law_544 ?_
  refine l_ic (n := 2) dL_law_545 ?_
  refine l_ia dL_law_546 ?_
  refine l_sl dL_law_547 (by omega) hL ?_
  refine l_al (a := 300) dL_law_548 rfl rfl ?_
  refine l_il dL_law_549 ?_
  refine l_ic (n := 3) dL_law_550 ?_
  refine l_ia dL_law_551 ?_
  refine l_sl dL_law_552 (by omega) hL ?_
  refine l_call hM1 dL_law_553 cL_50 rfl sh_92 rfl (by decide) (Nat.le_of_ble_eq_true rfl) rfl (fun r2 M2 hz => ?_)
  obtain ⟨he, hI2⟩ := hM2 r2 M2 hz
  exact l_eq (tgt := 1636) dL_law_556 (by decide) he (K M2 hI2)
set_option maxRecDepth 100000 in
set_option maxHeartbeats 2000000 in
theorem lc_9 {E : ev} {L : Nat} {xs : Nat → Int32} {i : Nat} {M : mm} (hL : L ≤ 3072) (hi : i + 6 ≤ L) (hI : Inv M) (K : ∀ M', Inv M' → LV E L xs 1636 (Li i) [] M') : LV E L xs 561 (Li i) [] M := by
  refine l_al (a := 0) dL_law_561 rfl rfl ?_
  refine l_al (a := 300) dL_law_562 rfl rfl ?_
  refine l_il dL_law_563 ?_
  refine l_ic (n := 1) dL_law_564 ?_
  refine l_ia dL_law_565 ?_
  refine l_sl dL_law_566 (by omega) hL ?_
  refine l_al (a := 300) dL_law_567 rfl rfl ?_
  refine l_il dL_law_568 ?_
  refine l_ic (n := 2) dL_law_569 ?_
  refine l_ia dL_law_570 ?_
  refine l_sl dL_law_571 (by omega) hL ?_
  obtain ⟨Q1, Q2, hX, hM⟩ := pr_sow E M hI (xs (i + 1)) (xs (i + 2))
  refine l_call hX dL_law_572 cL_51 rfl sh_0 rfl (by decide) (Nat.le_of_ble_eq_true rfl) rfl (fun r1 M1 hq => ?_)
  obtain ⟨hM1, hM2⟩ := hM r1 M1 hq
  refine l_al (a := 92) dL_law_575 rfl rfl ?_
  refine l_al (a := 300) dL_law_576 rfl rfl ?_
  refine l_il dL_law_577 ?_
  refine l_ic (n := 1) dL_law_578 ?_
  refine l_ia dL_law_579 ?_
  refine l_sl dL_law_580 (by omega) hL ?_
  refine l_al (a := 300) dL_law_581 rfl rfl ?_
  refine l_il dL_law_582 ?_
  refine l_ic (n := 2) dL_law_583 ?_
  refine l_ia dL_law_584 ?_
  refine l_sl dL_law_585 (by omega) hL ?_
  refine l_call hM1 dL_law_586 cL_54 rfl sh_92 rfl (by decide) (Nat.le_of_ble_eq_true rfl) rfl (fun r2 M2 hz => ?_)
  obtain ⟨he, hI2⟩ := hM2 r2 M2 hz
  exact l_eq (tgt := 1636) dL_law_589 (by decide) he (K M2 hI2)
set_option maxRecDepth 100000 in
set_option maxHeartbeats 2000000 in
theorem lc_10 {E : ev} {L : Nat} {xs : Nat → Int32} {i : Nat} {M : mm} (hL : L ≤ 3072) (hi : i + 6 ≤ L) (hI : Inv M) (K : ∀ M', Inv M' → LV E L xs 1636 (Li i) [] M') : LV E L xs 594 (Li i) [] M := by
  refine l_al (a := 0) dL_law_594 rfl rfl ?_
  refine l_al (a := 300) dL_law_595 rfl rfl ?_
  refine l_il dL_law_596 ?_
  refine l_ic (n := 1) dL_law_597 ?_
  refine l_ia dL_law_598 ?_
  refine l_sl dL_law_599 (by omega) hL ?_
  refine l_al (a := 300) dL_law_600 rfl rfl ?_
  refine l_il dL_law_601 ?_
  refine l_ic (n := 2) dL_law_602 ?_
  refine l_ia dL_law_603 ?_
  refine l_sl dL_law_604 (by omega) hL ?_
  obtain ⟨Q1, Q2, hX, hM⟩ := pr_field E M hI (xs (i + 1)) (xs (i + 2))
  refine l_call hX dL_law_605 cL_55 rfl sh_0 rfl (by decide) (Nat.le_of_ble_eq_true rfl) rfl (fun r1 M1 hq => ?_)
  obtain ⟨hM1, hM2⟩ := hM r1 M1 hq
  refine l_al (a := 92) dL_law_608 rfl rfl ?_
  refine l_al (a := 300) dL_law_609 rfl rfl ?_
  refine l_il dL_law_610 ?_
  refine l_ic (n := 1) dL_law_611 ?_
  refine l_ia dL_law_612 ?_
  refine l_sl dL_law_613 (by omega) hL ?_
  refine l_al (a := 300) dL_law_614 rfl rfl ?_
  refine l_il dL_law_615 ?_
  refine l_ic (n := 2) dL_law_616 ?_
  refine l_ia dL_law_617 ?_
  refine l_sl dL_law_618 (by omega) hL ?_
  refine l_call hM1 dL_law_619 cL_58 rfl sh_92 rfl (by decide) (Nat.le_of_ble_eq_true rfl) rfl (fun r2 M2 hz => ?_)
  obtain ⟨he, hI2⟩ := hM2 r2 M2 hz
  exact l_eq (tgt := 1636) dL_law_622 (by decide) he (K M2 hI2)
set_option maxRecDepth 100000 in
set_option maxHeartbeats 2000000 in
theorem lc_11 {E : ev} {L : Nat} {xs : Nat → Int32} {i : Nat} {M : mm} (hL : L ≤ 3072) (hi : i + 6 ≤ L) (hI : Inv M) (K : ∀ M', Inv M' → LV E L xs 1636 (Li i) [] M') : LV E L xs 627 (Li i) [] M := by
  refine l_al (a := 0) dL_law_627 rfl rfl ?_
  refine l_al (a := 300) dL_law_628 rfl rfl ?_
  refine l_il dL_law_629 ?_
  refine l_ic (n := 1) dL_law_630 ?_
  refine l_ia dL_law_631 ?_
  refine l_sl dL_law_632 (by omega) hL ?_
  refine l_al (a := 300) dL_law_633 rfl rfl ?_
  refine l_il dL_law_634 ?_
  refine l_ic (n := 2) dL_law_635 ?_
  refine l_ia dL_law_636 ?_
  refine l_sl dL_law_637 (by omega) hL ?_
  obtain ⟨Q1, Q2, hX, hM⟩ := pr_votes E M hI (xs (i + 1)) (xs (i + 2))
  refine l_call hX dL_law_638 cL_59 rfl sh_0 rfl (by decide) (Nat.le_of_ble_eq_true rfl) rfl (fun r1 M1 hq => ?_)
  obtain ⟨hM1, hM2⟩ := hM r1 M1 hq
  refine l_al (a := 92) dL_law_641 rfl rfl ?_
  refine l_al (a := 300) dL_law_642 rfl rfl ?_
  refine l_il dL_law_643 ?_
  refine l_ic (n := 1) dL_law_644 ?_
  refine l_ia dL_law_645 ?_
  refine l_sl dL_law_646 (by omega) hL ?_
  refine l_al (a := 300) dL_law_647 rfl rfl ?_
  refine l_il dL_law_648 ?_
  refine l_ic (n := 2) dL_law_649 ?_
  refine l_ia dL_law_650 ?_
  refine l_sl dL_law_651 (by omega) hL ?_
  refine l_call hM1 dL_law_652 cL_62 rfl sh_92 rfl (by decide) (Nat.le_of_ble_eq_true rfl) rfl (fun r2 M2 hz => ?_)
  obtain ⟨he, hI2⟩ := hM2 r2 M2 hz
  exact l_eq (tgt := 1636) dL_law_655 (by decide) he (K M2 hI2)
set_option maxRecDepth 100000 in
set_option maxHeartbeats 2000000 in
theorem lc_12 {E : ev} {L : Nat} {xs : Nat → Int32} {i : Nat} {M : mm} (hL : L ≤ 3072) (hi : i + 6 ≤ L) (hI : Inv M) (K : ∀ M', Inv M' → LV E L xs 1636 (Li i) [] M') : LV E L xs 660 (Li i) [] M := by
  refine l_al (a := 0) dL_law_660 rfl rfl ?_
  refine l_al (a := 300) dL_law_661 rfl rfl ?_
  refine l_il dL_law_662 ?_
  refine l_ic (n := 1) dL_law_663 ?_
  refine l_ia dL_law_664 ?_
  refine l_sl dL_law_665 (by omega) hL ?_
  obtain ⟨Q1, Q2, hX, hM⟩ := pr_deal E M hI (xs (i + 1))
  refine l_call hX dL_law_666 cL_63 rfl sh_0 rfl (by decide) (Nat.le_of_ble_eq_true rfl) rfl (fun r1 M1 hq => ?_)
  obtain ⟨hM1, hM2⟩ := hM r1 M1 hq
  refine l_al (a := 92) dL_law_669 rfl rfl ?_
  refine l_al (a := 300) dL_law_670 rfl rfl ?_
  refine l_il dL_law_671 ?_
  refine l_ic (n := 1) dL_law_672 ?_
  refine l_ia dL_law_673 ?_
  refine l_sl dL_law_674 (by omega) hL ?_
  refine l_call hM1 dL_law_675 cL_67 rfl sh_92 rfl (by decide) (Nat.le_of_ble_eq_true rfl) rfl (fun r2 M2 hz => ?_)
  obtain ⟨he, hI2⟩ := hM2 r2 M2 hz
  exact l_eq (tgt := 1636) dL_law_678 (by decide) he (K M2 hI2)
set_option maxRecDepth 100000 in
set_option maxHeartbeats 2000000 in
theorem lc_13 {E : ev} {L : Nat} {xs : Nat → Int32} {i : Nat} {M : mm} (hL : L ≤ 3072) (hi : i + 6 ≤ L) (hI : Inv M) (K : ∀ M', Inv M' → LV E L xs 1636 (Li i) [] M') : LV E L xs 683 (Li i) [] M := by
  refine l_al (a := 0) dL_law_683 rfl rfl ?_
  refine l_al (a := 300) dL_law_684 rfl rfl ?_
  refine l_il dL_law_685 ?_
  refine l_ic (n := 1) dL_law_686 ?_
  refine l_ia dL_law_687 ?_
  refine l_sl dL_law_688 (by omega) hL ?_
  obtain ⟨Q1, Q2, hX, hM⟩ := pr_seed E M hI (xs (i + 1))
  refine l_call hX dL_law_689 cL_68 rfl sh_0 rfl (by decide) (Nat.le_of_ble_eq_true rfl) rfl (fun r1 M1 hq => ?_)
  obtain ⟨hM1, hM2⟩ := hM r1 M1 hq
  refine l_al (a := 92) dL_law_692 rfl rfl ?_
  refine l_al (a := 300) dL_law_693 rfl rfl ?_
  refine l_il dL_law_694 ?_
  refine l_ic (n := 1) dL_law_695 ?_
  refine l_ia dL_law_696 ?_
  refine l_sl dL_law_697 (by omega) hL ?_
  refine l_call hM1 dL_law_698 cL_71 rfl sh_92 rfl (by decide) (Nat.le_of_ble_eq_true rfl) rfl (fun r2 M2 hz => ?_)
  obtain ⟨he, hI2⟩ := hM2 r2 M2 hz
  exact l_eq (tgt := 1636) dL_law_701 (by decide) he (K M2 hI2)
set_option maxRecDepth 100000 in
set_option maxHeartbeats 2000000 in
theorem lc_14 {E : ev} {L : Nat} {xs : Nat → Int32} {i : Nat} {M : mm} (hL : L ≤ 3072) (hi : i + 6 ≤ L) (hI : Inv M) (K : ∀ M', Inv M' → LV E L xs 1636 (Li i) [] M') : LV E L xs 706 (Li i) [] M := by
  refine l_al (a := 0) dL_law_706 rfl rfl ?_
  refine l_al (a := 300) dL_law_707 rfl rfl ?_
  refine l_il dL_law_708 ?_
  refine l_ic (n := 1) dL_law_709 ?_
  refine l_ia dL_law_710 ?_
  refine l_sl dL_law_711 (by omega) hL ?_
  obtain ⟨Q1, Q2, hX, hM⟩ := pr_weeks E M hI (xs (i + 1))
  refine l_call hX dL_law_712 cL_72 rfl sh_0 rfl (by decide) (Nat.le_of_ble_eq_true rfl) rfl (fun r1 M1 hq => ?_)
  obtain ⟨hM1, hM2⟩ := hM r1 M1 hq
  refine l_al (a := 92) dL_law_715 rfl rfl ?_
  refine l_al (a := 300) dL_law_716 rfl rfl ?_
  refine l_il dL_law_717 ?_
  refine l_ic (n := 1) dL_law_718 ?_
  refine l_ia dL_law_719 ?_
  refine l_sl dL_law_720 (by omega) hL ?_
  refine l_call hM1 dL_law_721 cL_75 rfl sh_92 rfl (by decide) (Nat.le_of_ble_eq_true rfl) rfl (fun r2 M2 hz => ?_)
  obtain ⟨he, hI2⟩ := hM2 r2 M2 hz
  exact l_eq (tgt := 1636) dL_law_724 (by decide) he (K M2 hI2)
set_option maxRecDepth 100000 in
set_option maxHeartbeats 2000000 in
theorem lc_15 {E : ev} {L : Nat} {xs : Nat → Int32} {i : Nat} {M : mm} (hL : L ≤ 3072) (hi : i + 6 ≤ L) (hI : Inv M) (K : ∀ M', Inv M' → LV E L xs 1636 (Li i) [] M') : LV E L xs 729 (Li i) [] M := by
  refine l_al (a := 0) dL_law_729 rfl rfl ?_
  refine l_al (a := 300) dL_law_730 rfl rfl ?_
  refine l_il dL_law_731 ?_
  refine l_ic (n := 1) dL_law_732 ?_
  refine l_ia dL_law_733 ?_
  refine l_sl dL_law_734 (by omega) hL ?_
  obtain ⟨Q1, Q2, hX, hM⟩ := pr_county E M hI (xs (i + 1))
  refine l_call hX dL_law_735 cL_76 rfl sh_0 rfl (by decide) (Nat.le_of_ble_eq_true rfl) rfl (fun r1 M1 hq => ?_)
  obtain ⟨hM1, hM2⟩ := hM r1 M1 hq
  refine l_al (a := 92) dL_law_738 rfl rfl ?_
  refine l_al (a := 300) dL_law_739 rfl rfl ?_
  refine l_il dL_law_740 ?_
  refine l_ic (n := 1) dL_law_741 ?_
  refine l_ia dL_law_742 ?_
  refine l_sl dL_law_743 (by omega) hL ?_
  refine l_call hM1 dL_law_744 cL_79 rfl sh_92 rfl (by decide) (Nat.le_of_ble_eq_true rfl) rfl (fun r2 M2 hz => ?_)
  obtain ⟨he, hI2⟩ := hM2 r2 M2 hz
  exact l_eq (tgt := 1636) dL_law_747 (by decide) he (K M2 hI2)
set_option maxRecDepth 100000 in
set_option maxHeartbeats 2000000 in
theorem lc_16 {E : ev} {L : Nat} {xs : Nat → Int32} {i : Nat} {M : mm} (hL : L ≤ 3072) (hi : i + 6 ≤ L) (hI : Inv M) (K : ∀ M', Inv M' → LV E L xs 1636 (Li i) [] M') : LV E L xs 752 (Li i) [] M := by
  refine l_al (a := 0) dL_law_752 rfl rfl ?_
  refine l_al (a := 300) dL_law_753 rfl rfl ?_
  refine l_il dL_law_754 ?_
  refine l_ic (n := 1) dL_law_755 ?_
  refine l_ia dL_law_756 ?_
  refine l_sl dL_law_757 (by omega) hL ?_
  refine l_al (a := 300) dL_law_758 rfl rfl ?_
  refine l_il dL_law_759 ?_
  refine l_ic (n := 2) dL_law_760 ?_
  refine l_ia dL_law_761 ?_
  refine l_sl dL_law_762 (by omega) hL ?_
  obtain ⟨Q1, Q2, hX, hM⟩ := pr_behind E M hI (xs (i + 1)) (xs (i + 2))
  refine l_call hX dL_law_763 cL_80 rfl sh_0 rfl (by decide) (Nat.le_of_ble_eq_true rfl) rfl (fun r1 M1 hq => ?_)
  obtain ⟨hM1, hM2⟩ := hM r1 M1 hq
  refine l_al (a := 92) dL_law_766 rfl rfl ?_
  refine l_al (a := 300) dL_law_767 rfl rfl ?_
  refine l_il dL_law_768 ?_
  refine l_ic (n := 1) dL_law_769 ?_
  refine l_ia dL_law_770 ?_
  refine l_sl dL_law_771 (by omega) hL ?_
  refine l_al (a := 300) dL_law_772 rfl rfl ?_
  refine l_il dL_law_773 ?_
  refine l_ic (n := 2) dL_law_774 ?_
  refine l_ia dL_law_775 ?_
  refine l_sl dL_law_776 (by omega) hL ?_
  refine l_call hM1 dL_law_777 cL_83 rfl sh_92 rfl (by decide) (Nat.le_of_ble_eq_true rfl) rfl (fun r2 M2 hz => ?_)
  obtain ⟨he, hI2⟩ := hM2 r2 M2 hz
  exact l_eq (tgt := 1636) dL_law_780 (by decide) he (K M2 hI2)
set_option maxRecDepth 100000 in
set_option maxHeartbeats 2000000 in
theorem lc_17 {E : ev} {L : Nat} {xs : Nat → Int32} {i : Nat} {M : mm} (hL : L ≤ 3072) (hi : i + 6 ≤ L) (hI : Inv M) (K : ∀ M', Inv M' → LV E L xs 1636 (Li i) [] M') : LV E L xs 785 (Li i) [] M := by
  refine l_al (a := 0) dL_law_785 rfl rfl ?_
  refine l_al (a := 300) dL_law_786 rfl rfl ?_
  refine l_il dL_law_787 ?_
  refine l_ic (n := 1) dL_law_788 ?_
  refine l_ia dL_law_789 ?_
  refine l_sl dL_law_790 (by omega) hL ?_
  refine l_al (a := 300) dL_law_791 rfl rfl ?_
  refine l_il dL_law_792 ?_
  refine l_ic (n := 2) dL_law_793 ?_
  refine l_ia dL_law_794 ?_
  refine l_sl dL_law_795 (by omega) hL ?_
  obtain ⟨Q1, Q2, hX, hM⟩ := pr_first E M hI (xs (i + 1)) (xs (i + 2))
  refine l_call hX dL_law_796 cL_84 rfl sh_0 rfl (by decide) (Nat.le_of_ble_eq_true rfl) rfl (fun r1 M1 hq => ?_)
  obtain ⟨hM1, hM2⟩ := hM r1 M1 hq
  refine l_al (a := 92) dL_law_799 rfl rfl ?_
  refine l_al (a := 300) dL_law_800 rfl rfl ?_
  refine l_il dL_law_801 ?_
  refine l_ic (n := 1) dL_law_802 ?_
  refine l_ia dL_law_803 ?_
  refine l_sl dL_law_804 (by omega) hL ?_
  refine l_al (a := 300) dL_law_805 rfl rfl ?_
  refine l_il dL_law_806 ?_
  refine l_ic (n := 2) dL_law_807 ?_
  refine l_ia dL_law_808 ?_
  refine l_sl dL_law_809 (by omega) hL ?_
  refine l_call hM1 dL_law_810 cL_87 rfl sh_92 rfl (by decide) (Nat.le_of_ble_eq_true rfl) rfl (fun r2 M2 hz => ?_)
  obtain ⟨he, hI2⟩ := hM2 r2 M2 hz
  exact l_eq (tgt := 1636) dL_law_813 (by decide) he (K M2 hI2)
set_option maxRecDepth 100000 in
set_option maxHeartbeats 2000000 in
theorem lc_18 {E : ev} {L : Nat} {xs : Nat → Int32} {i : Nat} {M : mm} (hL : L ≤ 3072) (hi : i + 6 ≤ L) (hI : Inv M) (K : ∀ M', Inv M' → LV E L xs 1636 (Li i) [] M') : LV E L xs 818 (Li i) [] M := by
  refine l_al (a := 0) dL_law_818 rfl rfl ?_
  refine l_al (a := 300) dL_law_819 rfl rfl ?_
  refine l_il dL_law_820 ?_
  refine l_ic (n := 1) dL_law_821 ?_
  refine l_ia dL_law_822 ?_
  refine l_sl dL_law_823 (by omega) hL ?_
  refine l_al (a := 300) dL_law_824 rfl rfl ?_
  refine l_il dL_law_825 ?_
  refine l_ic (n := 2) dL_law_826 ?_
  refine l_ia dL_law_827 ?_
  refine l_sl dL_law_828 (by omega) hL ?_
  refine l_al (a := 300) dL_law_829 rfl rfl ?_
  refine l_il dL_law_830 ?_
  refine l_ic (n := 3) dL_law_831 ?_
  refine l_ia dL_law_832 ?_
  refine l_sl dL_law_833 (by omega) hL ?_
  refine l_al (a := 300) dL_law_834 rfl rfl ?_
  refine l_il dL_law_835 ?_
  refine l_ic (n := 4) dL_law_836 ?_
  refine l_ia dL_law_837 ?_
  refine l_sl dL_law_838 (by omega) hL ?_
  obtain ⟨Q1, Q2, hX, hM⟩ := pr_ear E M hI (xs (i + 1)) (xs (i + 2)) (xs (i + 3)) (xs (i + 4))
  refine l_call hX dL_law_839 cL_88 rfl sh_0 rfl (by decide) (Nat.le_of_ble_eq_true rfl) rfl (fun r1 M1 hq => ?_)
  obtain ⟨hM1, hM2⟩ := hM r1 M1 hq
  refine l_al (a := 92) dL_law_842 rfl rfl ?_
  refine l_al (a := 300) dL_law_843 rfl rfl ?_
  refine l_il dL_law_844 ?_
  refine l_ic (n := 1) dL_law_845 ?_
  refine l_ia dL_law_846 ?_
  refine l_sl dL_law_847 (by omega) hL ?_
  refine l_al (a := 300) dL_law_848 rfl rfl ?_
  refine l_il dL_law_849 ?_
  refine l_ic (n := 2) dL_law_850 ?_
  refine l_ia dL_law_851 ?_
  refine l_sl dL_law_852 (by omega) hL ?_
  refine l_al (a := 300) dL_law_853 rfl rfl ?_
  refine l_il dL_law_854 ?_
  refine l_ic (n := 3) dL_law_855 ?_
  refine l_ia dL_law_856 ?_
  refine l_sl dL_law_857 (by omega) hL ?_
  refine l_al (a := 300) dL_law_858 rfl rfl ?_
  refine l_il dL_law_859 ?_
  refine l_ic (n := 4) dL_law_860 ?_
  refine l_ia dL_law_861 ?_
  refine l_sl dL_law_862 (by omega) hL ?_
  refine l_call hM1 dL_law_863 cL_92 rfl sh_92 rfl (by decide) (Nat.le_of_ble_eq_true rfl) rfl (fun r2 M2 hz => ?_)
  obtain ⟨he, hI2⟩ := hM2 r2 M2 hz
  exact l_eq (tgt := 1636) dL_law_866 (by decide) he (K M2 hI2)
set_option maxRecDepth 100000 in
set_option maxHeartbeats 2000000 in
theorem lc_19 {E : ev} {L : Nat} {xs : Nat → Int32} {i : Nat} {M : mm} (hL : L ≤ 3072) (hi : i + 6 ≤ L) (hI : Inv M) (K : ∀ M', Inv M' → LV E L xs 1636 (Li i) [] M') : LV E L xs 871 (Li i) [] M := by
  refine l_al (a := 0) dL_law_871 rfl rfl ?_
  refine l_al (a := 300) dL_law_872 rfl rfl ?_
  refine l_il dL_law_873 ?_
  refine l_ic (n := 1) dL_law_874 ?_
  refine l_ia dL_law_875 ?_
  refine l_sl dL_law_876 (by omega) hL ?_
  refine l_al (a := 300) dL_law_877 rfl rfl ?_
  refine l_il dL_law_878 ?_
  refine l_ic (n := 2) dL_law_879 ?_
  refine l_ia dL_law_880 ?_
  refine l_sl dL_law_881 (by omega) hL ?_
  refine l_al (a := 300) dL_law_882 rfl rfl ?_
  refine l_il dL_law_883 ?_
  refine l_ic (n := 3) dL_law_884 ?_
  refine l_ia dL_law_885 ?_
  refine l_sl dL_law_886 (by omega) hL ?_
  obtain ⟨Q1, Q2, hX, hM⟩ := pr_fewest E M hI (xs (i + 1)) (xs (i + 2)) (xs (i + 3))
  refine l_call hX dL_law_887 cL_93 rfl sh_0 rfl (by decide) (Nat.le_of_ble_eq_true rfl) rfl (fun r1 M1 hq => ?_)
  obtain ⟨hM1, hM2⟩ := hM r1 M1 hq
  refine l_al (a := 92) dL_law_890 rfl rfl ?_
  refine l_al (a := 300) dL_law_891 rfl rfl ?_
  refine l_il dL_law_892 ?_
  refine l_ic (n := 1) dL_law_893 ?_
  refine l_ia dL_law_894 ?_
  refine l_sl dL_law_895 (by omega) hL ?_
  refine l_al (a := 300) dL_law_896 rfl rfl ?_
  refine l_il dL_law_897 ?_
  refine l_ic (n := 2) dL_law_898 ?_
  refine l_ia dL_law_899 ?_
  refine l_sl dL_law_900 (by omega) hL ?_
  refine l_al (a := 300) dL_law_901 rfl rfl ?_
  refine l_il dL_law_902 ?_
  refine l_ic (n := 3) dL_law_903 ?_
  refine l_ia dL_law_904 ?_
  refine l_sl dL_law_905 (by omega) hL ?_
  refine l_call hM1 dL_law_906 cL_96 rfl sh_92 rfl (by decide) (Nat.le_of_ble_eq_true rfl) rfl (fun r2 M2 hz => ?_)
  obtain ⟨he, hI2⟩ := hM2 r2 M2 hz
  exact l_eq (tgt := 1636) dL_law_909 (by decide) he (K M2 hI2)
set_option maxRecDepth 100000 in
set_option maxHeartbeats 2000000 in
theorem lc_20 {E : ev} {L : Nat} {xs : Nat → Int32} {i : Nat} {M : mm} (hL : L ≤ 3072) (hi : i + 6 ≤ L) (hI : Inv M) (K : ∀ M', Inv M' → LV E L xs 1636 (Li i) [] M') : LV E L xs 914 (Li i) [] M := by
  refine l_al (a := 0) dL_law_914 rfl rfl ?_
  refine l_al (a := 300) dL_law_915 rfl rfl ?_
  refine l_il dL_law_916 ?_
  refine l_ic (n := 1) dL_law_917 ?_
  refine l_ia dL_law_918 ?_
  refine l_sl dL_law_919 (by omega) hL ?_
  refine l_al (a := 300) dL_law_920 rfl rfl ?_
  refine l_il dL_law_921 ?_
  refine l_ic (n := 2) dL_law_922 ?_
  refine l_ia dL_law_923 ?_
  refine l_sl dL_law_924 (by omega) hL ?_
  refine l_al (a := 300) dL_law_925 rfl rfl ?_
  refine l_il dL_law_926 ?_
  refine l_ic (n := 3) dL_law_927 ?_
  refine l_ia dL_law_928 ?_
  refine l_sl dL_law_929 (by omega) hL ?_
  obtain ⟨Q1, Q2, hX, hM⟩ := pr_house E M hI (xs (i + 1)) (xs (i + 2)) (xs (i + 3))
  refine l_call hX dL_law_930 cL_97 rfl sh_0 rfl (by decide) (Nat.le_of_ble_eq_true rfl) rfl (fun r1 M1 hq => ?_)
  obtain ⟨hM1, hM2⟩ := hM r1 M1 hq
  refine l_al (a := 92) dL_law_933 rfl rfl ?_
  refine l_al (a := 300) dL_law_934 rfl rfl ?_
  refine l_il dL_law_935 ?_
  refine l_ic (n := 1) dL_law_936 ?_
  refine l_ia dL_law_937 ?_
  refine l_sl dL_law_938 (by omega) hL ?_
  refine l_al (a := 300) dL_law_939 rfl rfl ?_
  refine l_il dL_law_940 ?_
  refine l_ic (n := 2) dL_law_941 ?_
  refine l_ia dL_law_942 ?_
  refine l_sl dL_law_943 (by omega) hL ?_
  refine l_al (a := 300) dL_law_944 rfl rfl ?_
  refine l_il dL_law_945 ?_
  refine l_ic (n := 3) dL_law_946 ?_
  refine l_ia dL_law_947 ?_
  refine l_sl dL_law_948 (by omega) hL ?_
  refine l_call hM1 dL_law_949 cL_100 rfl sh_92 rfl (by decide) (Nat.le_of_ble_eq_true rfl) rfl (fun r2 M2 hz => ?_)
  obtain ⟨he, hI2⟩ := hM2 r2 M2 hz
  exact l_eq (tgt := 1636) dL_law_952 (by decide) he (K M2 hI2)
set_option maxRecDepth 100000 in
set_option maxHeartbeats 2000000 in
theorem lc_21 {E : ev} {L : Nat} {xs : Nat → Int32} {i : Nat} {M : mm} (hL : L ≤ 3072) (hi : i + 6 ≤ L) (hI : Inv M) (K : ∀ M', Inv M' → LV E L xs 1636 (Li i) [] M') : LV E L xs 957 (Li i) [] M := by
  refine l_al (a := 0) dL_law_957 rfl rfl ?_
  refine l_al (a := 300) dL_law_958 rfl rfl ?_
  refine l_il dL_law_959 ?_
  refine l_ic (n := 1) dL_law_960 ?_
  refine l_ia dL_law_961 ?_
  refine l_sl dL_law_962 (by omega) hL ?_
  refine l_al (a := 300) dL_law_963 rfl rfl ?_
  refine l_il dL_law_964 ?_
  refine l_ic (n := 2) dL_law_965 ?_
  refine l_ia dL_law_966 ?_
  refine l_sl dL_law_967 (by omega) hL ?_
  refine l_al (a := 300) dL_law_968 rfl rfl ?_
  refine l_il dL_law_969 ?_
  refine l_ic (n := 3) dL_law_970 ?_
  refine l_ia dL_law_971 ?_
  refine l_sl dL_law_972 (by omega) hL ?_
  obtain ⟨Q1, Q2, hX, hM⟩ := pr_becomes E M hI (xs (i + 1)) (xs (i + 2)) (xs (i + 3))
  refine l_call hX dL_law_973 cL_101 rfl sh_0 rfl (by decide) (Nat.le_of_ble_eq_true rfl) rfl (fun r1 M1 hq => ?_)
  obtain ⟨hM1, hM2⟩ := hM r1 M1 hq
  refine l_al (a := 92) dL_law_976 rfl rfl ?_
  refine l_al (a := 300) dL_law_977 rfl rfl ?_
  refine l_il dL_law_978 ?_
  refine l_ic (n := 1) dL_law_979 ?_
  refine l_ia dL_law_980 ?_
  refine l_sl dL_law_981 (by omega) hL ?_
  refine l_al (a := 300) dL_law_982 rfl rfl ?_
  refine l_il dL_law_983 ?_
  refine l_ic (n := 2) dL_law_984 ?_
  refine l_ia dL_law_985 ?_
  refine l_sl dL_law_986 (by omega) hL ?_
  refine l_al (a := 300) dL_law_987 rfl rfl ?_
  refine l_il dL_law_988 ?_
  refine l_ic (n := 3) dL_law_989 ?_
  refine l_ia dL_law_990 ?_
  refine l_sl dL_law_991 (by omega) hL ?_
  refine l_call hM1 dL_law_992 cL_104 rfl sh_92 rfl (by decide) (Nat.le_of_ble_eq_true rfl) rfl (fun r2 M2 hz => ?_)
  obtain ⟨he, hI2⟩ := hM2 r2 M2 hz
  exact l_eq (tgt := 1636) dL_law_995 (by decide) he (K M2 hI2)
set_option maxRecDepth 100000 in
set_option maxHeartbeats 2000000 in
theorem lc_22 {E : ev} {L : Nat} {xs : Nat → Int32} {i : Nat} {M : mm} (hL : L ≤ 3072) (hi : i + 6 ≤ L) (hI : Inv M) (K : ∀ M', Inv M' → LV E L xs 1636 (Li i) [] M') : LV E L xs 1000 (Li i) [] M := by
  refine l_al (a := 0) dL_law_1000 rfl rfl ?_
  refine l_al (a := 300) dL_law_1001 rfl rfl ?_
  refine l_il dL_law_1002 ?_
  refine l_ic (n := 1) dL_law_1003 ?_
  refine l_ia dL_law_1004 ?_
  refine l_sl dL_law_1005 (by omega) hL ?_
  refine l_al (a := 300) dL_law_1006 rfl rfl ?_
  refine l_il dL_law_1007 ?_
  refine l_ic (n := 2) dL_law_1008 ?_
  refine l_ia dL_law_1009 ?_
  refine l_sl dL_law_1010 (by omega) hL ?_
  obtain ⟨Q1, Q2, hX, hM⟩ := pr_like E M hI (xs (i + 1)) (xs (i + 2))
  refine l_call hX dL_law_1011 cL_105 rfl sh_0 rfl (by decide) (Nat.le_of_ble_eq_true rfl) rfl (fun r1 M1 hq => ?_)
  obtain ⟨hM1, hM2⟩ := hM r1 M1 hq
  refine l_al (a := 92) dL_law_1014 rfl rfl ?_
  refine l_al (a := 300) dL_law_1015 rfl rfl ?_
  refine l_il dL_law_1016 ?_
  refine l_ic (n := 1) dL_law_1017 ?_
  refine l_ia dL_law_1018 ?_
  refine l_sl dL_law_1019 (by omega) hL ?_
  refine l_al (a := 300) dL_law_1020 rfl rfl ?_
  refine l_il dL_law_1021 ?_
  refine l_ic (n := 2) dL_law_1022 ?_
  refine l_ia dL_law_1023 ?_
  refine l_sl dL_law_1024 (by omega) hL ?_
  refine l_call hM1 dL_law_1025 cL_108 rfl sh_92 rfl (by decide) (Nat.le_of_ble_eq_true rfl) rfl (fun r2 M2 hz => ?_)
  obtain ⟨he, hI2⟩ := hM2 r2 M2 hz
  exact l_eq (tgt := 1636) dL_law_1028 (by decide) he (K M2 hI2)
set_option maxRecDepth 100000 in
set_option maxHeartbeats 2000000 in
theorem lc_23 {E : ev} {L : Nat} {xs : Nat → Int32} {i : Nat} {M : mm} (hL : L ≤ 3072) (hi : i + 6 ≤ L) (hI : Inv M) (K : ∀ M', Inv M' → LV E L xs 1636 (Li i) [] M') : LV E L xs 1033 (Li i) [] M := by
  refine l_al (a := 0) dL_law_1033 rfl rfl ?_
  obtain ⟨Q1, Q2, hX, hM⟩ := pr_fee E M hI
  refine l_call hX dL_law_1034 cL_109 rfl sh_0 rfl (by decide) (Nat.le_of_ble_eq_true rfl) rfl (fun r1 M1 hq => ?_)
  obtain ⟨hM1, hM2⟩ := hM r1 M1 hq
  refine l_al (a := 92) dL_law_1037 rfl rfl ?_
  refine l_call hM1 dL_law_1038 cL_113 rfl sh_92 rfl (by decide) (Nat.le_of_ble_eq_true rfl) rfl (fun r2 M2 hz => ?_)
  obtain ⟨he, hI2⟩ := hM2 r2 M2 hz
  exact l_eq (tgt := 1636) dL_law_1041 (by decide) he (K M2 hI2)
set_option maxRecDepth 100000 in
set_option maxHeartbeats 2000000 in
theorem lc_24 {E : ev} {L : Nat} {xs : Nat → Int32} {i : Nat} {M : mm} (hL : L ≤ 3072) (hi : i + 6 ≤ L) (hI : Inv M) (K : ∀ M', Inv M' → LV E L xs 1636 (Li i) [] M') : LV E L xs 1046 (Li i) [] M := by
  refine l_al (a := 0) dL_law_1046 rfl rfl ?_
  refine l_al (a := 300) dL_law_1047 rfl rfl ?_
  refine l_il dL_law_1048 ?_
  refine l_ic (n := 1) dL_law_1049 ?_
  refine l_ia dL_law_1050 ?_
  refine l_sl dL_law_1051 (by omega) hL ?_
  obtain ⟨Q1, Q2, hX, hM⟩ := pr_fine E M hI (xs (i + 1))
  refine l_call hX dL_law_1052 cL_114 rfl sh_0 rfl (by decide) (Nat.le_of_ble_eq_true rfl) rfl (fun r1 M1 hq => ?_)
  obtain ⟨hM1, hM2⟩ := hM r1 M1 hq
  refine l_al (a := 92) dL_law_1055 rfl rfl ?_
  refine l_al (a := 300) dL_law_1056 rfl rfl ?_
  refine l_il dL_law_1057 ?_
  refine l_ic (n := 1) dL_law_1058 ?_
  refine l_ia dL_law_1059 ?_
  refine l_sl dL_law_1060 (by omega) hL ?_
  refine l_call hM1 dL_law_1061 cL_117 rfl sh_92 rfl (by decide) (Nat.le_of_ble_eq_true rfl) rfl (fun r2 M2 hz => ?_)
  obtain ⟨he, hI2⟩ := hM2 r2 M2 hz
  exact l_eq (tgt := 1636) dL_law_1064 (by decide) he (K M2 hI2)
set_option maxRecDepth 100000 in
set_option maxHeartbeats 2000000 in
theorem lc_25 {E : ev} {L : Nat} {xs : Nat → Int32} {i : Nat} {M : mm} (hL : L ≤ 3072) (hi : i + 6 ≤ L) (hI : Inv M) (K : ∀ M', Inv M' → LV E L xs 1636 (Li i) [] M') : LV E L xs 1069 (Li i) [] M := by
  refine l_al (a := 0) dL_law_1069 rfl rfl ?_
  refine l_al (a := 300) dL_law_1070 rfl rfl ?_
  refine l_il dL_law_1071 ?_
  refine l_ic (n := 1) dL_law_1072 ?_
  refine l_ia dL_law_1073 ?_
  refine l_sl dL_law_1074 (by omega) hL ?_
  refine l_al (a := 300) dL_law_1075 rfl rfl ?_
  refine l_il dL_law_1076 ?_
  refine l_ic (n := 2) dL_law_1077 ?_
  refine l_ia dL_law_1078 ?_
  refine l_sl dL_law_1079 (by omega) hL ?_
  refine l_al (a := 300) dL_law_1080 rfl rfl ?_
  refine l_il dL_law_1081 ?_
  refine l_ic (n := 3) dL_law_1082 ?_
  refine l_ia dL_law_1083 ?_
  refine l_sl dL_law_1084 (by omega) hL ?_
  obtain ⟨Q1, Q2, hX, hM⟩ := pr_feed E M hI (xs (i + 1)) (xs (i + 2)) (xs (i + 3))
  refine l_call hX dL_law_1085 cL_118 rfl sh_0 rfl (by decide) (Nat.le_of_ble_eq_true rfl) rfl (fun r1 M1 hq => ?_)
  obtain ⟨hM1, hM2⟩ := hM r1 M1 hq
  refine l_al (a := 92) dL_law_1088 rfl rfl ?_
  refine l_al (a := 300) dL_law_1089 rfl rfl ?_
  refine l_il dL_law_1090 ?_
  refine l_ic (n := 1) dL_law_1091 ?_
  refine l_ia dL_law_1092 ?_
  refine l_sl dL_law_1093 (by omega) hL ?_
  refine l_al (a := 300) dL_law_1094 rfl rfl ?_
  refine l_il dL_law_1095 ?_
  refine l_ic (n := 2) dL_law_1096 ?_
  refine l_ia dL_law_1097 ?_
  refine l_sl dL_law_1098 (by omega) hL ?_
  refine l_al (a := 300) dL_law_1099 rfl rfl ?_
  refine l_il dL_law_1100 ?_
  refine l_ic (n := 3) dL_law_1101 ?_
  refine l_ia dL_law_1102 ?_
  refine l_sl dL_law_1103 (by omega) hL ?_
  refine l_call hM1 dL_law_1104 cL_121 rfl sh_92 rfl (by decide) (Nat.le_of_ble_eq_true rfl) rfl (fun r2 M2 hz => ?_)
  obtain ⟨he, hI2⟩ := hM2 r2 M2 hz
  exact l_eq (tgt := 1636) dL_law_1107 (by decide) he (K M2 hI2)
set_option maxRecDepth 100000 in
set_option maxHeartbeats 2000000 in
theorem lc_26 {E : ev} {L : Nat} {xs : Nat → Int32} {i : Nat} {M : mm} (hL : L ≤ 3072) (hi : i + 6 ≤ L) (hI : Inv M) (K : ∀ M', Inv M' → LV E L xs 1636 (Li i) [] M') : LV E L xs 1112 (Li i) [] M := by
  refine l_al (a := 0) dL_law_1112 rfl rfl ?_
  refine l_al (a := 300) dL_law_1113 rfl rfl ?_
  refine l_il dL_law_1114 ?_
  refine l_ic (n := 1) dL_law_1115 ?_
  refine l_ia dL_law_1116 ?_
  refine l_sl dL_law_1117 (by omega) hL ?_
  obtain ⟨Q1, Q2, hX, hM⟩ := pr_trim E M hI (xs (i + 1))
  refine l_call hX dL_law_1118 cL_122 rfl sh_0 rfl (by decide) (Nat.le_of_ble_eq_true rfl) rfl (fun r1 M1 hq => ?_)
  obtain ⟨hM1, hM2⟩ := hM r1 M1 hq
  refine l_al (a := 92) dL_law_1121 rfl rfl ?_
  refine l_al (a := 300) dL_law_1122 rfl rfl ?_
  refine l_il dL_law_1123 ?_
  refine l_ic (n := 1) dL_law_1124 ?_
  refine l_ia dL_law_1125 ?_
  refine l_sl dL_law_1126 (by omega) hL ?_
  refine l_call hM1 dL_law_1127 cL_125 rfl sh_92 rfl (by decide) (Nat.le_of_ble_eq_true rfl) rfl (fun r2 M2 hz => ?_)
  obtain ⟨he, hI2⟩ := hM2 r2 M2 hz
  exact l_eq (tgt := 1636) dL_law_1130 (by decide) he (K M2 hI2)
set_option maxRecDepth 100000 in
set_option maxHeartbeats 2000000 in
theorem lc_27 {E : ev} {L : Nat} {xs : Nat → Int32} {i : Nat} {M : mm} (hL : L ≤ 3072) (hi : i + 6 ≤ L) (hI : Inv M) (K : ∀ M', Inv M' → LV E L xs 1636 (Li i) [] M') : LV E L xs 1135 (Li i) [] M := by
  refine l_al (a := 0) dL_law_1135 rfl rfl ?_
  obtain ⟨Q1, Q2, hX, hM⟩ := pr_text E M hI
  refine l_call hX dL_law_1136 cL_126 rfl sh_0 rfl (by decide) (Nat.le_of_ble_eq_true rfl) rfl (fun r1 M1 hq => ?_)
  obtain ⟨hM1, hM2⟩ := hM r1 M1 hq
  refine l_al (a := 92) dL_law_1139 rfl rfl ?_
  refine l_call hM1 dL_law_1140 cL_129 rfl sh_92 rfl (by decide) (Nat.le_of_ble_eq_true rfl) rfl (fun r2 M2 hz => ?_)
  obtain ⟨he, hI2⟩ := hM2 r2 M2 hz
  exact l_eq (tgt := 1636) dL_law_1143 (by decide) he (K M2 hI2)
set_option maxRecDepth 100000 in
set_option maxHeartbeats 2000000 in
theorem lc_28 {E : ev} {L : Nat} {xs : Nat → Int32} {i : Nat} {M : mm} (hL : L ≤ 3072) (hi : i + 6 ≤ L) (hI : Inv M) (K : ∀ M', Inv M' → LV E L xs 1636 (Li i) [] M') : LV E L xs 1148 (Li i) [] M := by
  refine l_al (a := 0) dL_law_1148 rfl rfl ?_
  refine l_al (a := 300) dL_law_1149 rfl rfl ?_
  refine l_il dL_law_1150 ?_
  refine l_ic (n := 1) dL_law_1151 ?_
  refine l_ia dL_law_1152 ?_
  refine l_sl dL_law_1153 (by omega) hL ?_
  refine l_al (a := 300) dL_law_1154 rfl rfl ?_
  refine l_il dL_law_1155 ?_
  refine l_ic (n := 2) dL_law_1156 ?_
  refine l_ia dL_law_1157 ?_
  refine l_sl dL_law_1158 (by omega) hL ?_
  obtain ⟨Q1, Q2, hX, hM⟩ := pr_tt E M hI (xs (i + 1)) (xs (i + 2))
  refine l_call hX dL_law_1159 cL_130 rfl sh_0 rfl (by decide) (Nat.le_of_ble_eq_true rfl) rfl (fun r1 M1 hq => ?_)
  obtain ⟨hM1, hM2⟩ := hM r1 M1 hq
  refine l_al (a := 92) dL_law_1162 rfl rfl ?_
  refine l_al (a := 300) dL_law_1163 rfl rfl ?_
  refine l_il dL_law_1164 ?_
  refine l_ic (n := 1) dL_law_1165 ?_
  refine l_ia dL_law_1166 ?_
  refine l_sl dL_law_1167 (by omega) hL ?_
  refine l_al (a := 300) dL_law_1168 rfl rfl ?_
  refine l_il dL_law_1169 ?_
  refine l_ic (n := 2) dL_law_1170 ?_
  refine l_ia dL_law_1171 ?_
  refine l_sl dL_law_1172 (by omega) hL ?_
  refine l_call hM1 dL_law_1173 cL_133 rfl sh_92 rfl (by decide) (Nat.le_of_ble_eq_true rfl) rfl (fun r2 M2 hz => ?_)
  obtain ⟨he, hI2⟩ := hM2 r2 M2 hz
  exact l_eq (tgt := 1636) dL_law_1176 (by decide) he (K M2 hI2)
set_option maxRecDepth 100000 in
set_option maxHeartbeats 2000000 in
theorem lc_29 {E : ev} {L : Nat} {xs : Nat → Int32} {i : Nat} {M : mm} (hL : L ≤ 3072) (hi : i + 6 ≤ L) (hI : Inv M) (K : ∀ M', Inv M' → LV E L xs 1636 (Li i) [] M') : LV E L xs 1181 (Li i) [] M := by
  refine l_al (a := 0) dL_law_1181 rfl rfl ?_
  refine l_al (a := 300) dL_law_1182 rfl rfl ?_
  refine l_il dL_law_1183 ?_
  refine l_ic (n := 1) dL_law_1184 ?_
  refine l_ia dL_law_1185 ?_
  refine l_sl dL_law_1186 (by omega) hL ?_
  obtain ⟨Q1, Q2, hX, hM⟩ := pr_why E M hI (xs (i + 1))
  refine l_call hX dL_law_1187 cL_134 rfl sh_0 rfl (by decide) (Nat.le_of_ble_eq_true rfl) rfl (fun r1 M1 hq => ?_)
  obtain ⟨hM1, hM2⟩ := hM r1 M1 hq
  refine l_al (a := 92) dL_law_1190 rfl rfl ?_
  refine l_al (a := 300) dL_law_1191 rfl rfl ?_
  refine l_il dL_law_1192 ?_
  refine l_ic (n := 1) dL_law_1193 ?_
  refine l_ia dL_law_1194 ?_
  refine l_sl dL_law_1195 (by omega) hL ?_
  refine l_call hM1 dL_law_1196 cL_137 rfl sh_92 rfl (by decide) (Nat.le_of_ble_eq_true rfl) rfl (fun r2 M2 hz => ?_)
  obtain ⟨he, hI2⟩ := hM2 r2 M2 hz
  exact l_eq (tgt := 1636) dL_law_1199 (by decide) he (K M2 hI2)
set_option maxRecDepth 100000 in
set_option maxHeartbeats 2000000 in
theorem lc_30 {E : ev} {L : Nat} {xs : Nat → Int32} {i : Nat} {M : mm} (hL : L ≤ 3072) (hi : i + 6 ≤ L) (hI : Inv M) (K : ∀ M', Inv M' → LV E L xs 1636 (Li i) [] M') : LV E L xs 1204 (Li i) [] M := by
  refine l_al (a := 0) dL_law_1204 rfl rfl ?_
  refine l_al (a := 300) dL_law_1205 rfl rfl ?_
  refine l_il dL_law_1206 ?_
  refine l_ic (n := 1) dL_law_1207 ?_
  refine l_ia dL_law_1208 ?_
  refine l_sl dL_law_1209 (by omega) hL ?_
  refine l_al (a := 300) dL_law_1210 rfl rfl ?_
  refine l_il dL_law_1211 ?_
  refine l_ic (n := 2) dL_law_1212 ?_
  refine l_ia dL_law_1213 ?_
  refine l_sl dL_law_1214 (by omega) hL ?_
  refine l_al (a := 300) dL_law_1215 rfl rfl ?_
  refine l_il dL_law_1216 ?_
  refine l_ic (n := 3) dL_law_1217 ?_
  refine l_ia dL_law_1218 ?_
  refine l_sl dL_law_1219 (by omega) hL ?_
  obtain ⟨Q1, Q2, hX, hM⟩ := pr_sheet E M hI (xs (i + 1)) (xs (i + 2)) (xs (i + 3))
  refine l_call hX dL_law_1220 cL_138 rfl sh_0 rfl (by decide) (Nat.le_of_ble_eq_true rfl) rfl (fun r1 M1 hq => ?_)
  obtain ⟨hM1, hM2⟩ := hM r1 M1 hq
  refine l_al (a := 92) dL_law_1223 rfl rfl ?_
  refine l_al (a := 300) dL_law_1224 rfl rfl ?_
  refine l_il dL_law_1225 ?_
  refine l_ic (n := 1) dL_law_1226 ?_
  refine l_ia dL_law_1227 ?_
  refine l_sl dL_law_1228 (by omega) hL ?_
  refine l_al (a := 300) dL_law_1229 rfl rfl ?_
  refine l_il dL_law_1230 ?_
  refine l_ic (n := 2) dL_law_1231 ?_
  refine l_ia dL_law_1232 ?_
  refine l_sl dL_law_1233 (by omega) hL ?_
  refine l_al (a := 300) dL_law_1234 rfl rfl ?_
  refine l_il dL_law_1235 ?_
  refine l_ic (n := 3) dL_law_1236 ?_
  refine l_ia dL_law_1237 ?_
  refine l_sl dL_law_1238 (by omega) hL ?_
  refine l_call hM1 dL_law_1239 cL_141 rfl sh_92 rfl (by decide) (Nat.le_of_ble_eq_true rfl) rfl (fun r2 M2 hz => ?_)
  obtain ⟨he, hI2⟩ := hM2 r2 M2 hz
  exact l_eq (tgt := 1636) dL_law_1242 (by decide) he (K M2 hI2)
set_option maxRecDepth 100000 in
set_option maxHeartbeats 2000000 in
theorem lc_31 {E : ev} {L : Nat} {xs : Nat → Int32} {i : Nat} {M : mm} (hL : L ≤ 3072) (hi : i + 6 ≤ L) (hI : Inv M) (K : ∀ M', Inv M' → LV E L xs 1636 (Li i) [] M') : LV E L xs 1247 (Li i) [] M := by
  refine l_al (a := 0) dL_law_1247 rfl rfl ?_
  refine l_al (a := 300) dL_law_1248 rfl rfl ?_
  refine l_il dL_law_1249 ?_
  refine l_ic (n := 1) dL_law_1250 ?_
  refine l_ia dL_law_1251 ?_
  refine l_sl dL_law_1252 (by omega) hL ?_
  refine l_al (a := 300) dL_law_1253 rfl rfl ?_
  refine l_il dL_law_1254 ?_
  refine l_ic (n := 2) dL_law_1255 ?_
  refine l_ia dL_law_1256 ?_
  refine l_sl dL_law_1257 (by omega) hL ?_
  refine l_al (a := 300) dL_law_1258 rfl rfl ?_
  refine l_il dL_law_1259 ?_
  refine l_ic (n := 3) dL_law_1260 ?_
  refine l_ia dL_law_1261 ?_
  refine l_sl dL_law_1262 (by omega) hL ?_
  obtain ⟨Q1, Q2, hX, hM⟩ := pr_mark E M hI (xs (i + 1)) (xs (i + 2)) (xs (i + 3))
  refine l_call hX dL_law_1263 cL_142 rfl sh_0 rfl (by decide) (Nat.le_of_ble_eq_true rfl) rfl (fun r1 M1 hq => ?_)
  obtain ⟨hM1, hM2⟩ := hM r1 M1 hq
  refine l_al (a := 92) dL_law_1266 rfl rfl ?_
  refine l_al (a := 300) dL_law_1267 rfl rfl ?_
  refine l_il dL_law_1268 ?_
  refine l_ic (n := 1) dL_law_1269 ?_
  refine l_ia dL_law_1270 ?_
  refine l_sl dL_law_1271 (by omega) hL ?_
  refine l_al (a := 300) dL_law_1272 rfl rfl ?_
  refine l_il dL_law_1273 ?_
  refine l_ic (n := 2) dL_law_1274 ?_
  refine l_ia dL_law_1275 ?_
  refine l_sl dL_law_1276 (by omega) hL ?_
  refine l_al (a := 300) dL_law_1277 rfl rfl ?_
  refine l_il dL_law_1278 ?_
  refine l_ic (n := 3) dL_law_1279 ?_
  refine l_ia dL_law_1280 ?_
  refine l_sl dL_law_1281 (by omega) hL ?_
  refine l_call hM1 dL_law_1282 cL_145 rfl sh_92 rfl (by decide) (Nat.le_of_ble_eq_true rfl) rfl (fun r2 M2 hz => ?_)
  obtain ⟨he, hI2⟩ := hM2 r2 M2 hz
  exact l_eq (tgt := 1636) dL_law_1285 (by decide) he (K M2 hI2)
set_option maxRecDepth 100000 in
set_option maxHeartbeats 2000000 in
theorem lc_32 {E : ev} {L : Nat} {xs : Nat → Int32} {i : Nat} {M : mm} (hL : L ≤ 3072) (hi : i + 6 ≤ L) (hI : Inv M) (K : ∀ M', Inv M' → LV E L xs 1636 (Li i) [] M') : LV E L xs 1290 (Li i) [] M := by
  refine l_al (a := 0) dL_law_1290 rfl rfl ?_
  refine l_al (a := 300) dL_law_1291 rfl rfl ?_
  refine l_il dL_law_1292 ?_
  refine l_ic (n := 1) dL_law_1293 ?_
  refine l_ia dL_law_1294 ?_
  refine l_sl dL_law_1295 (by omega) hL ?_
  obtain ⟨Q1, Q2, hX, hM⟩ := pr_pour E M hI (xs (i + 1))
  refine l_call hX dL_law_1296 cL_146 rfl sh_0 rfl (by decide) (Nat.le_of_ble_eq_true rfl) rfl (fun r1 M1 hq => ?_)
  obtain ⟨hM1, hM2⟩ := hM r1 M1 hq
  refine l_al (a := 92) dL_law_1299 rfl rfl ?_
  refine l_al (a := 300) dL_law_1300 rfl rfl ?_
  refine l_il dL_law_1301 ?_
  refine l_ic (n := 1) dL_law_1302 ?_
  refine l_ia dL_law_1303 ?_
  refine l_sl dL_law_1304 (by omega) hL ?_
  refine l_call hM1 dL_law_1305 cL_149 rfl sh_92 rfl (by decide) (Nat.le_of_ble_eq_true rfl) rfl (fun r2 M2 hz => ?_)
  obtain ⟨he, hI2⟩ := hM2 r2 M2 hz
  exact l_eq (tgt := 1636) dL_law_1308 (by decide) he (K M2 hI2)
set_option maxRecDepth 100000 in
set_option maxHeartbeats 2000000 in
theorem lc_33 {E : ev} {L : Nat} {xs : Nat → Int32} {i : Nat} {M : mm} (hL : L ≤ 3072) (hi : i + 6 ≤ L) (hI : Inv M) (K : ∀ M', Inv M' → LV E L xs 1636 (Li i) [] M') : LV E L xs 1313 (Li i) [] M := by
  refine l_al (a := 0) dL_law_1313 rfl rfl ?_
  refine l_al (a := 300) dL_law_1314 rfl rfl ?_
  refine l_il dL_law_1315 ?_
  refine l_ic (n := 1) dL_law_1316 ?_
  refine l_ia dL_law_1317 ?_
  refine l_sl dL_law_1318 (by omega) hL ?_
  obtain ⟨Q1, Q2, hX, hM⟩ := pr_reads E M hI (xs (i + 1))
  refine l_call hX dL_law_1319 cL_150 rfl sh_0 rfl (by decide) (Nat.le_of_ble_eq_true rfl) rfl (fun r1 M1 hq => ?_)
  obtain ⟨hM1, hM2⟩ := hM r1 M1 hq
  refine l_al (a := 92) dL_law_1322 rfl rfl ?_
  refine l_al (a := 300) dL_law_1323 rfl rfl ?_
  refine l_il dL_law_1324 ?_
  refine l_ic (n := 1) dL_law_1325 ?_
  refine l_ia dL_law_1326 ?_
  refine l_sl dL_law_1327 (by omega) hL ?_
  refine l_call hM1 dL_law_1328 cL_153 rfl sh_92 rfl (by decide) (Nat.le_of_ble_eq_true rfl) rfl (fun r2 M2 hz => ?_)
  obtain ⟨he, hI2⟩ := hM2 r2 M2 hz
  exact l_eq (tgt := 1636) dL_law_1331 (by decide) he (K M2 hI2)
set_option maxRecDepth 100000 in
set_option maxHeartbeats 2000000 in
theorem lc_34 {E : ev} {L : Nat} {xs : Nat → Int32} {i : Nat} {M : mm} (hL : L ≤ 3072) (hi : i + 6 ≤ L) (hI : Inv M) (K : ∀ M', Inv M' → LV E L xs 1636 (Li i) [] M') : LV E L xs 1336 (Li i) [] M := by
  refine l_al (a := 0) dL_law_1336 rfl rfl ?_
  refine l_al (a := 300) dL_law_1337 rfl rfl ?_
  refine l_il dL_law_1338 ?_
  refine l_ic (n := 1) dL_law_1339 ?_
  refine l_ia dL_law_1340 ?_
  refine l_sl dL_law_1341 (by omega) hL ?_
  refine l_al (a := 300) dL_law_1342 rfl rfl ?_
  refine l_il dL_law_1343 ?_
  refine l_ic (n := 2) dL_law_1344 ?_
  refine l_ia dL_law_1345 ?_
  refine l_sl dL_law_1346 (by omega) hL ?_
  refine l_al (a := 300) dL_law_1347 rfl rfl ?_
  refine l_il dL_law_1348 ?_
  refine l_ic (n := 3) dL_law_1349 ?_
  refine l_ia dL_law_1350 ?_
  refine l_sl dL_law_1351 (by omega) hL ?_
  refine l_al (a := 300) dL_law_1352 rfl rfl ?_
  refine l_il dL_law_1353 ?_
  refine l_ic (n := 4) dL_law_1354 ?_
  refine l_ia dL_law_1355 ?_
  refine l_sl dL_law_1356 (by omega) hL ?_
  refine l_al (a := 300) dL_law_1357 rfl rfl ?_
  refine l_il dL_law_1358 ?_
  refine l_ic (n := 5) dL_law_1359 ?_
  refine l_ia dL_law_1360 ?_
  refine l_sl dL_law_1361 (by omega) hL ?_
  obtain ⟨Q1, Q2, hX, hM⟩ := pr_copy E M hI (xs (i + 1)) (xs (i + 2)) (xs (i + 3)) (xs (i + 4)) (xs (i + 5))
  refine l_call hX dL_law_1362 cL_154 rfl sh_0 rfl (by decide) (Nat.le_of_ble_eq_true rfl) rfl (fun r1 M1 hq => ?_)
  obtain ⟨hM1, hM2⟩ := hM r1 M1 hq
  refine l_al (a := 92) dL_law_1365 rfl rfl ?_
  refine l_al (a := 300) dL_law_1366 rfl rfl ?_
  refine l_il dL_law_1367 ?_
  refine l_ic (n := 1) dL_law_1368 ?_
  refine l_ia dL_law_1369 ?_
  refine l_sl dL_law_1370 (by omega) hL ?_
  refine l_al (a := 300) dL_law_1371 rfl rfl ?_
  refine l_il dL_law_1372 ?_
  refine l_ic (n := 2) dL_law_1373 ?_
  refine l_ia dL_law_1374 ?_
  refine l_sl dL_law_1375 (by omega) hL ?_
  refine l_al (a := 300) dL_law_1376 rfl rfl ?_
  refine l_il dL_law_1377 ?_
  refine l_ic (n := 3) dL_law_1378 ?_
  refine l_ia dL_law_1379 ?_
  refine l_sl dL_law_1380 (by omega) hL ?_
  refine l_al (a := 300) dL_law_1381 rfl rfl ?_
  refine l_il dL_law_1382 ?_
  refine l_ic (n := 4) dL_law_1383 ?_
  refine l_ia dL_law_1384 ?_
  refine l_sl dL_law_1385 (by omega) hL ?_
  refine l_al (a := 300) dL_law_1386 rfl rfl ?_
  refine l_il dL_law_1387 ?_
  refine l_ic (n := 5) dL_law_1388 ?_
  refine l_ia dL_law_1389 ?_
  refine l_sl dL_law_1390 (by omega) hL ?_
  refine l_call hM1 dL_law_1391 cL_158 rfl sh_92 rfl (by decide) (Nat.le_of_ble_eq_true rfl) rfl (fun r2 M2 hz => ?_)
  obtain ⟨he, hI2⟩ := hM2 r2 M2 hz
  exact l_eq (tgt := 1636) dL_law_1394 (by decide) he (K M2 hI2)
set_option maxRecDepth 100000 in
set_option maxHeartbeats 2000000 in
theorem lc_35 {E : ev} {L : Nat} {xs : Nat → Int32} {i : Nat} {M : mm} (hL : L ≤ 3072) (hi : i + 6 ≤ L) (hI : Inv M) (K : ∀ M', Inv M' → LV E L xs 1636 (Li i) [] M') : LV E L xs 1399 (Li i) [] M := by
  refine l_al (a := 0) dL_law_1399 rfl rfl ?_
  refine l_al (a := 300) dL_law_1400 rfl rfl ?_
  refine l_il dL_law_1401 ?_
  refine l_ic (n := 1) dL_law_1402 ?_
  refine l_ia dL_law_1403 ?_
  refine l_sl dL_law_1404 (by omega) hL ?_
  refine l_al (a := 300) dL_law_1405 rfl rfl ?_
  refine l_il dL_law_1406 ?_
  refine l_ic (n := 2) dL_law_1407 ?_
  refine l_ia dL_law_1408 ?_
  refine l_sl dL_law_1409 (by omega) hL ?_
  refine l_al (a := 300) dL_law_1410 rfl rfl ?_
  refine l_il dL_law_1411 ?_
  refine l_ic (n := 3) dL_law_1412 ?_
  refine l_ia dL_law_1413 ?_
  refine l_sl dL_law_1414 (by omega) hL ?_
  obtain ⟨Q1, Q2, hX, hM⟩ := pr_lay E M hI (xs (i + 1)) (xs (i + 2)) (xs (i + 3))
  refine l_call hX dL_law_1415 cL_159 rfl sh_0 rfl (by decide) (Nat.le_of_ble_eq_true rfl) rfl (fun r1 M1 hq => ?_)
  obtain ⟨hM1, hM2⟩ := hM r1 M1 hq
  refine l_al (a := 92) dL_law_1418 rfl rfl ?_
  refine l_al (a := 300) dL_law_1419 rfl rfl ?_
  refine l_il dL_law_1420 ?_
  refine l_ic (n := 1) dL_law_1421 ?_
  refine l_ia dL_law_1422 ?_
  refine l_sl dL_law_1423 (by omega) hL ?_
  refine l_al (a := 300) dL_law_1424 rfl rfl ?_
  refine l_il dL_law_1425 ?_
  refine l_ic (n := 2) dL_law_1426 ?_
  refine l_ia dL_law_1427 ?_
  refine l_sl dL_law_1428 (by omega) hL ?_
  refine l_al (a := 300) dL_law_1429 rfl rfl ?_
  refine l_il dL_law_1430 ?_
  refine l_ic (n := 3) dL_law_1431 ?_
  refine l_ia dL_law_1432 ?_
  refine l_sl dL_law_1433 (by omega) hL ?_
  refine l_call hM1 dL_law_1434 cL_162 rfl sh_92 rfl (by decide) (Nat.le_of_ble_eq_true rfl) rfl (fun r2 M2 hz => ?_)
  obtain ⟨he, hI2⟩ := hM2 r2 M2 hz
  exact l_eq (tgt := 1636) dL_law_1437 (by decide) he (K M2 hI2)
set_option maxRecDepth 100000 in
set_option maxHeartbeats 2000000 in
theorem lc_36 {E : ev} {L : Nat} {xs : Nat → Int32} {i : Nat} {M : mm} (hL : L ≤ 3072) (hi : i + 6 ≤ L) (hI : Inv M) (K : ∀ M', Inv M' → LV E L xs 1636 (Li i) [] M') : LV E L xs 1442 (Li i) [] M := by
  refine l_al (a := 0) dL_law_1442 rfl rfl ?_
  refine l_al (a := 300) dL_law_1443 rfl rfl ?_
  refine l_il dL_law_1444 ?_
  refine l_ic (n := 1) dL_law_1445 ?_
  refine l_ia dL_law_1446 ?_
  refine l_sl dL_law_1447 (by omega) hL ?_
  refine l_al (a := 300) dL_law_1448 rfl rfl ?_
  refine l_il dL_law_1449 ?_
  refine l_ic (n := 2) dL_law_1450 ?_
  refine l_ia dL_law_1451 ?_
  refine l_sl dL_law_1452 (by omega) hL ?_
  obtain ⟨Q1, Q2, hX, hM⟩ := pr_ask E M hI (xs (i + 1)) (xs (i + 2))
  refine l_call hX dL_law_1453 cL_163 rfl sh_0 rfl (by decide) (Nat.le_of_ble_eq_true rfl) rfl (fun r1 M1 hq => ?_)
  obtain ⟨hM1, hM2⟩ := hM r1 M1 hq
  refine l_al (a := 92) dL_law_1456 rfl rfl ?_
  refine l_al (a := 300) dL_law_1457 rfl rfl ?_
  refine l_il dL_law_1458 ?_
  refine l_ic (n := 1) dL_law_1459 ?_
  refine l_ia dL_law_1460 ?_
  refine l_sl dL_law_1461 (by omega) hL ?_
  refine l_al (a := 300) dL_law_1462 rfl rfl ?_
  refine l_il dL_law_1463 ?_
  refine l_ic (n := 2) dL_law_1464 ?_
  refine l_ia dL_law_1465 ?_
  refine l_sl dL_law_1466 (by omega) hL ?_
  refine l_call hM1 dL_law_1467 cL_166 rfl sh_92 rfl (by decide) (Nat.le_of_ble_eq_true rfl) rfl (fun r2 M2 hz => ?_)
  obtain ⟨he, hI2⟩ := hM2 r2 M2 hz
  exact l_eq (tgt := 1636) dL_law_1470 (by decide) he (K M2 hI2)
set_option maxRecDepth 100000 in
set_option maxHeartbeats 2000000 in
theorem lc_37 {E : ev} {L : Nat} {xs : Nat → Int32} {i : Nat} {M : mm} (hL : L ≤ 3072) (hi : i + 6 ≤ L) (hI : Inv M) (K : ∀ M', Inv M' → LV E L xs 1636 (Li i) [] M') : LV E L xs 1475 (Li i) [] M := by
  refine l_al (a := 0) dL_law_1475 rfl rfl ?_
  refine l_al (a := 300) dL_law_1476 rfl rfl ?_
  refine l_il dL_law_1477 ?_
  refine l_ic (n := 1) dL_law_1478 ?_
  refine l_ia dL_law_1479 ?_
  refine l_sl dL_law_1480 (by omega) hL ?_
  refine l_al (a := 300) dL_law_1481 rfl rfl ?_
  refine l_il dL_law_1482 ?_
  refine l_ic (n := 2) dL_law_1483 ?_
  refine l_ia dL_law_1484 ?_
  refine l_sl dL_law_1485 (by omega) hL ?_
  obtain ⟨Q1, Q2, hX, hM⟩ := pr_item E M hI (xs (i + 1)) (xs (i + 2))
  refine l_call hX dL_law_1486 cL_167 rfl sh_0 rfl (by decide) (Nat.le_of_ble_eq_true rfl) rfl (fun r1 M1 hq => ?_)
  obtain ⟨hM1, hM2⟩ := hM r1 M1 hq
  refine l_al (a := 92) dL_law_1489 rfl rfl ?_
  refine l_al (a := 300) dL_law_1490 rfl rfl ?_
  refine l_il dL_law_1491 ?_
  refine l_ic (n := 1) dL_law_1492 ?_
  refine l_ia dL_law_1493 ?_
  refine l_sl dL_law_1494 (by omega) hL ?_
  refine l_al (a := 300) dL_law_1495 rfl rfl ?_
  refine l_il dL_law_1496 ?_
  refine l_ic (n := 2) dL_law_1497 ?_
  refine l_ia dL_law_1498 ?_
  refine l_sl dL_law_1499 (by omega) hL ?_
  refine l_call hM1 dL_law_1500 cL_170 rfl sh_92 rfl (by decide) (Nat.le_of_ble_eq_true rfl) rfl (fun r2 M2 hz => ?_)
  obtain ⟨he, hI2⟩ := hM2 r2 M2 hz
  exact l_eq (tgt := 1636) dL_law_1503 (by decide) he (K M2 hI2)
set_option maxRecDepth 100000 in
set_option maxHeartbeats 2000000 in
theorem lc_38 {E : ev} {L : Nat} {xs : Nat → Int32} {i : Nat} {M : mm} (hL : L ≤ 3072) (hi : i + 6 ≤ L) (hI : Inv M) (K : ∀ M', Inv M' → LV E L xs 1636 (Li i) [] M') : LV E L xs 1508 (Li i) [] M := by
  refine l_al (a := 0) dL_law_1508 rfl rfl ?_
  refine l_al (a := 300) dL_law_1509 rfl rfl ?_
  refine l_il dL_law_1510 ?_
  refine l_ic (n := 1) dL_law_1511 ?_
  refine l_ia dL_law_1512 ?_
  refine l_sl dL_law_1513 (by omega) hL ?_
  refine l_al (a := 300) dL_law_1514 rfl rfl ?_
  refine l_il dL_law_1515 ?_
  refine l_ic (n := 2) dL_law_1516 ?_
  refine l_ia dL_law_1517 ?_
  refine l_sl dL_law_1518 (by omega) hL ?_
  obtain ⟨Q1, Q2, hX, hM⟩ := pr_rest E M hI (xs (i + 1)) (xs (i + 2))
  refine l_call hX dL_law_1519 cL_171 rfl sh_0 rfl (by decide) (Nat.le_of_ble_eq_true rfl) rfl (fun r1 M1 hq => ?_)
  obtain ⟨hM1, hM2⟩ := hM r1 M1 hq
  refine l_al (a := 92) dL_law_1522 rfl rfl ?_
  refine l_al (a := 300) dL_law_1523 rfl rfl ?_
  refine l_il dL_law_1524 ?_
  refine l_ic (n := 1) dL_law_1525 ?_
  refine l_ia dL_law_1526 ?_
  refine l_sl dL_law_1527 (by omega) hL ?_
  refine l_al (a := 300) dL_law_1528 rfl rfl ?_
  refine l_il dL_law_1529 ?_
  refine l_ic (n := 2) dL_law_1530 ?_
  refine l_ia dL_law_1531 ?_
  refine l_sl dL_law_1532 (by omega) hL ?_
  refine l_call hM1 dL_law_1533 cL_174 rfl sh_92 rfl (by decide) (Nat.le_of_ble_eq_true rfl) rfl (fun r2 M2 hz => ?_)
  obtain ⟨he, hI2⟩ := hM2 r2 M2 hz
  exact l_eq (tgt := 1636) dL_law_1536 (by decide) he (K M2 hI2)
set_option maxRecDepth 100000 in
set_option maxHeartbeats 2000000 in
theorem lc_39 {E : ev} {L : Nat} {xs : Nat → Int32} {i : Nat} {M : mm} (hL : L ≤ 3072) (hi : i + 6 ≤ L) (hI : Inv M) (K : ∀ M', Inv M' → LV E L xs 1636 (Li i) [] M') : LV E L xs 1541 (Li i) [] M := by
  refine l_al (a := 0) dL_law_1541 rfl rfl ?_
  refine l_al (a := 300) dL_law_1542 rfl rfl ?_
  refine l_il dL_law_1543 ?_
  refine l_ic (n := 1) dL_law_1544 ?_
  refine l_ia dL_law_1545 ?_
  refine l_sl dL_law_1546 (by omega) hL ?_
  obtain ⟨Q1, Q2, hX, hM⟩ := pr_tell E M hI (xs (i + 1))
  refine l_call hX dL_law_1547 cL_175 rfl sh_0 rfl (by decide) (Nat.le_of_ble_eq_true rfl) rfl (fun r1 M1 hq => ?_)
  obtain ⟨hM1, hM2⟩ := hM r1 M1 hq
  refine l_al (a := 92) dL_law_1550 rfl rfl ?_
  refine l_al (a := 300) dL_law_1551 rfl rfl ?_
  refine l_il dL_law_1552 ?_
  refine l_ic (n := 1) dL_law_1553 ?_
  refine l_ia dL_law_1554 ?_
  refine l_sl dL_law_1555 (by omega) hL ?_
  refine l_call hM1 dL_law_1556 cL_178 rfl sh_92 rfl (by decide) (Nat.le_of_ble_eq_true rfl) rfl (fun r2 M2 hz => ?_)
  obtain ⟨he, hI2⟩ := hM2 r2 M2 hz
  exact l_eq (tgt := 1636) dL_law_1559 (by decide) he (K M2 hI2)
set_option maxRecDepth 100000 in
set_option maxHeartbeats 2000000 in
theorem lc_40 {E : ev} {L : Nat} {xs : Nat → Int32} {i : Nat} {M : mm} (hL : L ≤ 3072) (hi : i + 6 ≤ L) (hI : Inv M) (K : ∀ M', Inv M' → LV E L xs 1636 (Li i) [] M') : LV E L xs 1564 (Li i) [] M := by
  refine l_al (a := 0) dL_law_1564 rfl rfl ?_
  refine l_al (a := 300) dL_law_1565 rfl rfl ?_
  refine l_il dL_law_1566 ?_
  refine l_ic (n := 1) dL_law_1567 ?_
  refine l_ia dL_law_1568 ?_
  refine l_sl dL_law_1569 (by omega) hL ?_
  obtain ⟨Q1, Q2, hX, hM⟩ := pr_check E M hI (xs (i + 1))
  refine l_call hX dL_law_1570 cL_179 rfl sh_0 rfl (by decide) (Nat.le_of_ble_eq_true rfl) rfl (fun r1 M1 hq => ?_)
  obtain ⟨hM1, hM2⟩ := hM r1 M1 hq
  refine l_al (a := 92) dL_law_1573 rfl rfl ?_
  refine l_al (a := 300) dL_law_1574 rfl rfl ?_
  refine l_il dL_law_1575 ?_
  refine l_ic (n := 1) dL_law_1576 ?_
  refine l_ia dL_law_1577 ?_
  refine l_sl dL_law_1578 (by omega) hL ?_
  refine l_call hM1 dL_law_1579 cL_182 rfl sh_92 rfl (by decide) (Nat.le_of_ble_eq_true rfl) rfl (fun r2 M2 hz => ?_)
  obtain ⟨he, hI2⟩ := hM2 r2 M2 hz
  exact l_eq (tgt := 1636) dL_law_1582 (by decide) he (K M2 hI2)
set_option maxRecDepth 100000 in
set_option maxHeartbeats 2000000 in
theorem lc_41 {E : ev} {L : Nat} {xs : Nat → Int32} {i : Nat} {M : mm} (hL : L ≤ 3072) (hi : i + 6 ≤ L) (hI : Inv M) (K : ∀ M', Inv M' → LV E L xs 1636 (Li i) [] M') : LV E L xs 1587 (Li i) [] M := by
  refine l_al (a := 0) dL_law_1587 rfl rfl ?_
  obtain ⟨Q1, Q2, hX, hM⟩ := pr_keep E M hI
  refine l_call hX dL_law_1588 cL_183 rfl sh_0 rfl (by decide) (Nat.le_of_ble_eq_true rfl) rfl (fun r1 M1 hq => ?_)
  obtain ⟨hM1, hM2⟩ := hM r1 M1 hq
  refine l_al (a := 92) dL_law_1591 rfl rfl ?_
  refine l_call hM1 dL_law_1592 cL_186 rfl sh_92 rfl (by decide) (Nat.le_of_ble_eq_true rfl) rfl (fun r2 M2 hz => ?_)
  obtain ⟨he, hI2⟩ := hM2 r2 M2 hz
  exact l_eq (tgt := 1636) dL_law_1595 (by decide) he (K M2 hI2)
set_option maxRecDepth 100000 in
set_option maxHeartbeats 2000000 in
theorem lc_42 {E : ev} {L : Nat} {xs : Nat → Int32} {i : Nat} {M : mm} (hL : L ≤ 3072) (hi : i + 6 ≤ L) (hI : Inv M) (K : ∀ M', Inv M' → LV E L xs 1636 (Li i) [] M') : LV E L xs 1600 (Li i) [] M := by
  refine l_al (a := 0) dL_law_1600 rfl rfl ?_
  obtain ⟨Q1, Q2, hX, hM⟩ := pr_back E M hI
  refine l_call hX dL_law_1601 cL_187 rfl sh_0 rfl (by decide) (Nat.le_of_ble_eq_true rfl) rfl (fun r1 M1 hq => ?_)
  obtain ⟨hM1, hM2⟩ := hM r1 M1 hq
  refine l_al (a := 92) dL_law_1604 rfl rfl ?_
  refine l_call hM1 dL_law_1605 cL_190 rfl sh_92 rfl (by decide) (Nat.le_of_ble_eq_true rfl) rfl (fun r2 M2 hz => ?_)
  obtain ⟨he, hI2⟩ := hM2 r2 M2 hz
  exact l_eq (tgt := 1636) dL_law_1608 (by decide) he (K M2 hI2)
set_option maxRecDepth 100000 in
set_option maxHeartbeats 2000000 in
theorem lc_43 {E : ev} {L : Nat} {xs : Nat → Int32} {i : Nat} {M : mm} (hL : L ≤ 3072) (hi : i + 6 ≤ L) (hI : Inv M) (K : ∀ M', Inv M' → LV E L xs 1636 (Li i) [] M') : LV E L xs 1613 (Li i) [] M := by
  refine l_al (a := 0) dL_law_1613 rfl rfl ?_
  refine l_al (a := 300) dL_law_1614 rfl rfl ?_
  refine l_il dL_law_1615 ?_
  refine l_ic (n := 1) dL_law_1616 ?_
  refine l_ia dL_law_1617 ?_
  refine l_sl dL_law_1618 (by omega) hL ?_
  obtain ⟨Q1, Q2, hX, hM⟩ := pr_count E M hI (xs (i + 1))
  refine l_call hX dL_law_1619 cL_191 rfl sh_0 rfl (by decide) (Nat.le_of_ble_eq_true rfl) rfl (fun r1 M1 hq => ?_)
  obtain ⟨hM1, hM2⟩ := hM r1 M1 hq
  refine l_al (a := 92) dL_law_1622 rfl rfl ?_
  refine l_al (a := 300) dL_law_1623 rfl rfl ?_
  refine l_il dL_law_1624 ?_
  refine l_ic (n := 1) dL_law_1625 ?_
  refine l_ia dL_law_1626 ?_
  refine l_sl dL_law_1627 (by omega) hL ?_
  refine l_call hM1 dL_law_1628 cL_194 rfl sh_92 rfl (by decide) (Nat.le_of_ble_eq_true rfl) rfl (fun r2 M2 hz => ?_)
  obtain ⟨he, hI2⟩ := hM2 r2 M2 hz
  exact l_eq (tgt := 1636) dL_law_1631 (by decide) he (K M2 hI2)
theorem gt_6 {i L : Nat} (hL : L ≤ 3072) (hi : i ≤ 6000) : nI L - nI 6 < nI i ↔ L < i + 6 := by
  by_cases h : 6 ≤ L
  · rw [pk_sub h, nI_ltI (by omega) (by omega)]; omega
  · have h0 : nI L - nI 6 < 0 := by
      rcases (show L = 0 ∨ L = 1 ∨ L = 2 ∨ L = 3 ∨ L = 4 ∨ L = 5 by omega) with rfl | rfl | rfl | rfl | rfl | rfl <;> decide
    exact ⟨fun _ => by omega, fun _ => Int32.lt_of_lt_of_le h0 (nI_pos' (by omega))⟩
set_option maxRecDepth 100000 in
set_option maxHeartbeats 8000000 in
theorem law_loop {E : ev} {L : Nat} {xs : Nat → Int32} (hL : L ≤ 3072) : ∀ (f i : Nat) (M : mm), L < i + f → i ≤ L → Inv M → LV E L xs 18 (Li i) [] M
  | 0, i, M, hf, hi, hI => absurd hf (by omega)
  | f + 1, i, M, hf, hi, hI => by
    refine l_il dL_law_18 ?_
    refine l_al (a := 300) dL_law_19 rfl rfl ?_
    refine l_len dL_law_20 ?_
    refine l_bp (n := 6) dL_law_21 (by decide) ?_
    refine l_sub dL_law_23 ?_
    refine l_gt (tgt := 1642) dL_law_24 (by decide) (fun h => ?_) (fun h => ?_)
    · refine l_ic (n := 1) dL_law_1642 ?_
      exact l_end dL_law_1643
    · have h6 : i + 6 ≤ L := by
        rcases Nat.lt_or_ge L (i + 6) with q | q
        · exact absurd ((gt_6 hL (by omega)).mpr q) h
        · exact q
      have K : ∀ M', Inv M' → LV E L xs 1636 (Li i) [] M' := fun M' hI' => by
        refine l_inc (n := 6) dL_law_1636 ?_
        refine l_goto (tgt := 18) dL_law_1639 (by decide) ?_
        exact law_loop hL f (i + 6) M' (by omega) h6 hI'
      refine l_al (a := 300) dL_law_27 rfl rfl ?_
      refine l_il dL_law_28 ?_
      refine l_sl dL_law_29 (by omega) hL ?_
      refine l_bp (n := 63) dL_law_30 (by decide) ?_
      refine l_and dL_law_32 ?_
      rw [show xs i &&& nI 63 = nI ((xs i).toBitVec.toNat % 64) from pk_and (xs i) 6 (by decide)]
      generalize hj : (xs i).toBitVec.toNat % 64 = j
      have hj64 : j < 64 := by omega
      clear hj
      by_cases h44 : 44 ≤ j
      · refine l_to (tgt := 1636) dL_law_33 (Or.inr (by rw [nI_toInt (by omega)]; omega)) (by decide) ?_
        exact K M hI
      · rcases (show j = 0 ∨ j = 1 ∨ j = 2 ∨ j = 3 ∨ j = 4 ∨ j = 5 ∨ j = 6 ∨ j = 7 ∨ j = 8 ∨ j = 9 ∨ j = 10 ∨ j = 11 ∨ j = 12 ∨ j = 13 ∨ j = 14 ∨ j = 15 ∨ j = 16 ∨ j = 17 ∨ j = 18 ∨ j = 19 ∨ j = 20 ∨ j = 21 ∨ j = 22 ∨ j = 23 ∨ j = 24 ∨ j = 25 ∨ j = 26 ∨ j = 27 ∨ j = 28 ∨ j = 29 ∨ j = 30 ∨ j = 31 ∨ j = 32 ∨ j = 33 ∨ j = 34 ∨ j = 35 ∨ j = 36 ∨ j = 37 ∨ j = 38 ∨ j = 39 ∨ j = 40 ∨ j = 41 ∨ j = 42 ∨ j = 43 by omega) with rfl | rfl | rfl | rfl | rfl | rfl | rfl | rfl | rfl | rfl | rfl | rfl | rfl | rfl | rfl | rfl | rfl | rfl | rfl | rfl | rfl | rfl | rfl | rfl | rfl | rfl | rfl | rfl | rfl | rfl | rfl | rfl | rfl | rfl | rfl | rfl | rfl | rfl | rfl | rfl | rfl | rfl | rfl | rfl
        · refine l_ts (off := 191) (tgt := 224) dL_law_33 (by decide) (by decide) (by decide) (by decide) ?_
          exact lc_0 hL h6 hI K
        · refine l_ts (off := 234) (tgt := 267) dL_law_33 (by decide) (by decide) (by decide) (by decide) ?_
          exact lc_1 hL h6 hI K
        · refine l_ts (off := 267) (tgt := 300) dL_law_33 (by decide) (by decide) (by decide) (by decide) ?_
          exact lc_2 hL h6 hI K
        · refine l_ts (off := 300) (tgt := 333) dL_law_33 (by decide) (by decide) (by decide) (by decide) ?_
          exact lc_3 hL h6 hI K
        · refine l_ts (off := 333) (tgt := 366) dL_law_33 (by decide) (by decide) (by decide) (by decide) ?_
          exact lc_4 hL h6 hI K
        · refine l_ts (off := 376) (tgt := 409) dL_law_33 (by decide) (by decide) (by decide) (by decide) ?_
          exact lc_5 hL h6 hI K
        · refine l_ts (off := 409) (tgt := 442) dL_law_33 (by decide) (by decide) (by decide) (by decide) ?_
          exact lc_6 hL h6 hI K
        · refine l_ts (off := 452) (tgt := 485) dL_law_33 (by decide) (by decide) (by decide) (by decide) ?_
          exact lc_7 hL h6 hI K
        · refine l_ts (off := 485) (tgt := 518) dL_law_33 (by decide) (by decide) (by decide) (by decide) ?_
          exact lc_8 hL h6 hI K
        · refine l_ts (off := 528) (tgt := 561) dL_law_33 (by decide) (by decide) (by decide) (by decide) ?_
          exact lc_9 hL h6 hI K
        · refine l_ts (off := 561) (tgt := 594) dL_law_33 (by decide) (by decide) (by decide) (by decide) ?_
          exact lc_10 hL h6 hI K
        · refine l_ts (off := 594) (tgt := 627) dL_law_33 (by decide) (by decide) (by decide) (by decide) ?_
          exact lc_11 hL h6 hI K
        · refine l_ts (off := 627) (tgt := 660) dL_law_33 (by decide) (by decide) (by decide) (by decide) ?_
          exact lc_12 hL h6 hI K
        · refine l_ts (off := 650) (tgt := 683) dL_law_33 (by decide) (by decide) (by decide) (by decide) ?_
          exact lc_13 hL h6 hI K
        · refine l_ts (off := 673) (tgt := 706) dL_law_33 (by decide) (by decide) (by decide) (by decide) ?_
          exact lc_14 hL h6 hI K
        · refine l_ts (off := 696) (tgt := 729) dL_law_33 (by decide) (by decide) (by decide) (by decide) ?_
          exact lc_15 hL h6 hI K
        · refine l_ts (off := 719) (tgt := 752) dL_law_33 (by decide) (by decide) (by decide) (by decide) ?_
          exact lc_16 hL h6 hI K
        · refine l_ts (off := 752) (tgt := 785) dL_law_33 (by decide) (by decide) (by decide) (by decide) ?_
          exact lc_17 hL h6 hI K
        · refine l_ts (off := 785) (tgt := 818) dL_law_33 (by decide) (by decide) (by decide) (by decide) ?_
          exact lc_18 hL h6 hI K
        · refine l_ts (off := 838) (tgt := 871) dL_law_33 (by decide) (by decide) (by decide) (by decide) ?_
          exact lc_19 hL h6 hI K
        · refine l_ts (off := 881) (tgt := 914) dL_law_33 (by decide) (by decide) (by decide) (by decide) ?_
          exact lc_20 hL h6 hI K
        · refine l_ts (off := 924) (tgt := 957) dL_law_33 (by decide) (by decide) (by decide) (by decide) ?_
          exact lc_21 hL h6 hI K
        · refine l_ts (off := 967) (tgt := 1000) dL_law_33 (by decide) (by decide) (by decide) (by decide) ?_
          exact lc_22 hL h6 hI K
        · refine l_ts (off := 1000) (tgt := 1033) dL_law_33 (by decide) (by decide) (by decide) (by decide) ?_
          exact lc_23 hL h6 hI K
        · refine l_ts (off := 1013) (tgt := 1046) dL_law_33 (by decide) (by decide) (by decide) (by decide) ?_
          exact lc_24 hL h6 hI K
        · refine l_ts (off := 1036) (tgt := 1069) dL_law_33 (by decide) (by decide) (by decide) (by decide) ?_
          exact lc_25 hL h6 hI K
        · refine l_ts (off := 1079) (tgt := 1112) dL_law_33 (by decide) (by decide) (by decide) (by decide) ?_
          exact lc_26 hL h6 hI K
        · refine l_ts (off := 1102) (tgt := 1135) dL_law_33 (by decide) (by decide) (by decide) (by decide) ?_
          exact lc_27 hL h6 hI K
        · refine l_ts (off := 1115) (tgt := 1148) dL_law_33 (by decide) (by decide) (by decide) (by decide) ?_
          exact lc_28 hL h6 hI K
        · refine l_ts (off := 1148) (tgt := 1181) dL_law_33 (by decide) (by decide) (by decide) (by decide) ?_
          exact lc_29 hL h6 hI K
        · refine l_ts (off := 1171) (tgt := 1204) dL_law_33 (by decide) (by decide) (by decide) (by decide) ?_
          exact lc_30 hL h6 hI K
        · refine l_ts (off := 1214) (tgt := 1247) dL_law_33 (by decide) (by decide) (by decide) (by decide) ?_
          exact lc_31 hL h6 hI K
        · refine l_ts (off := 1257) (tgt := 1290) dL_law_33 (by decide) (by decide) (by decide) (by decide) ?_
          exact lc_32 hL h6 hI K
        · refine l_ts (off := 1280) (tgt := 1313) dL_law_33 (by decide) (by decide) (by decide) (by decide) ?_
          exact lc_33 hL h6 hI K
        · refine l_ts (off := 1303) (tgt := 1336) dL_law_33 (by decide) (by decide) (by decide) (by decide) ?_
          exact lc_34 hL h6 hI K
        · refine l_ts (off := 1366) (tgt := 1399) dL_law_33 (by decide) (by decide) (by decide) (by decide) ?_
          exact lc_35 hL h6 hI K
        · refine l_ts (off := 1409) (tgt := 1442) dL_law_33 (by decide) (by decide) (by decide) (by decide) ?_
          exact lc_36 hL h6 hI K
        · refine l_ts (off := 1442) (tgt := 1475) dL_law_33 (by decide) (by decide) (by decide) (by decide) ?_
          exact lc_37 hL h6 hI K
        · refine l_ts (off := 1475) (tgt := 1508) dL_law_33 (by decide) (by decide) (by decide) (by decide) ?_
          exact lc_38 hL h6 hI K
        · refine l_ts (off := 1508) (tgt := 1541) dL_law_33 (by decide) (by decide) (by decide) (by decide) ?_
          exact lc_39 hL h6 hI K
        · refine l_ts (off := 1531) (tgt := 1564) dL_law_33 (by decide) (by decide) (by decide) (by decide) ?_
          exact lc_40 hL h6 hI K
        · refine l_ts (off := 1554) (tgt := 1587) dL_law_33 (by decide) (by decide) (by decide) (by decide) ?_
          exact lc_41 hL h6 hI K
        · refine l_ts (off := 1567) (tgt := 1600) dL_law_33 (by decide) (by decide) (by decide) (by decide) ?_
          exact lc_42 hL h6 hI K
        · refine l_ts (off := 1580) (tgt := 1613) dL_law_33 (by decide) (by decide) (by decide) (by decide) ?_
          exact lc_43 hL h6 hI K
