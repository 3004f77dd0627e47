/-! constructors: worlds that grow, at addresses that are variables -/
def NI (s : State) : Prop := va_AO "HearsaySeeds$Text" s ∧ va_AO "HearsaySeeds$Sheet" s ∧ va_AO "HearsaySeeds$Slot" s ∧ va_Nw (.methodLinkNest RX1 24 yX5_init "HearsaySeeds") s ∧ va_Nw (.methodLinkNest RX6 18 yX2_init "HearsaySeeds") s ∧ va_Nw (.methodLinkNest RX2 17 yX5_init "HearsaySeeds") s ∧ va_Nw (.methodLinkNest RX6 44 yX3_init "HearsaySeeds") s ∧ va_Nw (.methodLinkNest RX6 51 yX4_init "HearsaySeeds") s ∧ va_Nw (.methodLinkNest RX4 17 yX3_init "HearsaySeeds") s
theorem NI.warm {s U : State} (hW : s.WarmedH U.vm) (h : NI s) : NI U := ⟨va_AO.moved hW.alike h.1, va_AO.moved hW.alike h.2.1, va_AO.moved hW.alike h.2.2.1, va_Nw.warmM hW h.2.2.2.1, va_Nw.warmM hW h.2.2.2.2.1, va_Nw.warmM hW h.2.2.2.2.2.1, va_Nw.warmM hW h.2.2.2.2.2.2.1, va_Nw.warmM hW h.2.2.2.2.2.2.2.1, va_Nw.warmM hW h.2.2.2.2.2.2.2.2⟩
theorem NI.same {u U : State} (hv : U.vm = u.vm) (h : NI u) : NI U := by
  have ha : u.vm.Alike U.vm := by rw [hv]; exact Vm.Alike.refl _
  exact ⟨va_AO.moved ha h.1, va_AO.moved ha h.2.1, va_AO.moved ha h.2.2.1, va_Nw.same rfl hv.symm h.2.2.2.1, va_Nw.same rfl hv.symm h.2.2.2.2.1, va_Nw.same rfl hv.symm h.2.2.2.2.2.1, va_Nw.same rfl hv.symm h.2.2.2.2.2.2.1, va_Nw.same rfl hv.symm h.2.2.2.2.2.2.2.1, va_Nw.same rfl hv.symm h.2.2.2.2.2.2.2.2⟩
def rgm (d mc ms : Nat) : Room := { frames := d, cells := mc, slots := ms, locals := 32 * d }
def Gc (E : ev) (A : Nat → Prop) (p : Program) (s : State) (m : MethodId) (args : Array Value) (meth : Method) (c : Code) (y : MethodName) (cc : ByteArray) (nL : Nat) : Prop :=
  p.tables.exec = Jvm.exec ∧ c.code = cc ∧ c.maxLocals = nL ∧ meth.sig.returnType = none ∧ s.vm.findClass y.cls = some m.cls ∧ (∀ w ∈ gw, w.before args s = true) ∧ meth.locks = false ∧ va_K (eD E) vwCl (tys E) s ∧ NI s ∧ meth.name = "<init>" ∧ ∀ q : Nat, s.heap.size ≤ q → A q
def G (E : ev) (A : Nat → Prop) (d mc ms kc ks : Nat) (y : MethodName) (cc : ByteArray) (nL : Nat) (Qc : qcT) (pc : Nat) (Lo : List (Nat × Value)) (St : List Value) (ws : va_W) : Prop :=
  ∀ (p : Program) (e : Env) (s : State) (m : MethodId) (args : Array Value) (below : List Frame) (meth : Method) (c : Code) (H : Heap) (locs : List Loc) (ls : Array Slot),
    Gc E A p s m args meth c y cc nL → va_P (eD E) vwCl ws H → va_D A ws → va_S A s.heap H locs → lv_has ls nL Lo →
    W p (eL E) e (rgm d mc ms) s m args below meth c H locs kc ks (MQ below Qc args s mc ms A) (F0 m pc ls St)
/-- a final field of references written in its class's constructor -/
def PR (own : String) (i ci k0 : Nat) (ty : FieldType) : Prop := ∃ (C : String) (T : u_T) (N : Nat) (ty0 : Nat → FieldType), (∀ w ∈ u_ws C T N, w ∈ gw) ∧ (∀ k, k < N → parseFieldDescriptor (T k).2.2.1 = some (ty0 k)) ∧ (∀ a, a < N → ∀ b, b < N → a ≠ b → (T a).2.1 ≠ (T b).2.1) ∧ Cond.fieldLink own i (T k0).1 (T k0).2.1 (T k0).2.2.1 ∈ gw ∧ vwCl[ci]? = some (C, T, N) ∧ k0 < N ∧ (T k0).2.2.2 = true ∧ (T k0).1 = own ∧ ty0 k0 = ty
/-- an object made -/
def NWc (own : String) (i ci N : Nat) (fs : List Value) : Prop := ∃ (C : String) (T : u_T) (ty : Nat → FieldType), (∀ w ∈ u_ws C T N, w ∈ gw) ∧ (∀ k, k < N → parseFieldDescriptor (T k).2.2.1 = some (ty k)) ∧ Cond.classLink own i C ∈ gw ∧ Cond.instantiable C N ∈ gw ∧ Cond.initialized C ∈ gw ∧ vwCl[ci]? = some (C, T, N) ∧ ∀ j, j < N → defaultValue (ty j) = vp_V fs j
section GR
variable {E : ev} {A : Nat → Prop} {d mc ms kc ks : Nat} {y : MethodName} {cc : ByteArray} {nL : Nat} {Qc : qcT} {pc : Nat} {Lo : List (Nat × Value)} {St : List Value} {ws : va_W}
theorem g_al {k : Fin 4} {i x : Nat} (j : Nat) (hd : decode cc pc = .ok (.aload_n k, 1)) (hk : (k : Nat) = i) (hL : Lo[j]? = some (i, .ref x)) (K : G E A d mc ms kc ks y cc nL Qc (pc + 1) Lo (.ref x :: St) ws) : G E A d mc ms kc ks y cc nL Qc pc Lo St ws := by
  intro p e s m args below meth c H locs ls C hP hD hS hl
  exact lv_aload_n C.1 C.2.1 hd hk (lv_at hl j hL) (K p e s m args below meth c H locs ls C hP hD hS hl)
theorem g_il {k : Fin 4} {i : Nat} {x : Int32} (j : Nat) (hd : decode cc pc = .ok (.iload_n k, 1)) (hk : (k : Nat) = i) (hL : Lo[j]? = some (i, .int x)) (K : G E A d mc ms kc ks y cc nL Qc (pc + 1) Lo (.int x :: St) ws) : G E A d mc ms kc ks y cc nL Qc pc Lo St ws := by
  intro p e s m args below meth c H locs ls C hP hD hS hl
  exact lv_iload_n C.1 C.2.1 hd hk (lv_at hl j hL) (K p e s m args below meth c H locs ls C hP hD hS hl)
theorem g_ic {n : Int} {v : Int32} (hd : decode cc pc = .ok (.iconst n, 1)) (hv : Int32.ofInt n = v) (K : G E A d mc ms kc ks y cc nL Qc (pc + 1) Lo (.int v :: St) ws) : G E A d mc ms kc ks y cc nL Qc pc Lo St ws := by
  intro p e s m args below meth c H locs ls C hP hD hS hl
  exact lv_iconst C.1 C.2.1 hd hv (K p e s m args below meth c H locs ls C hP hD hS hl)
theorem g_bp {n : Int} {v : Int32} (hd : decode cc pc = .ok (.bipush n, 2)) (hv : (Int8.ofInt n).toInt32 = v) (K : G E A d mc ms kc ks y cc nL Qc (pc + 2) Lo (.int v :: St) ws) : G E A d mc ms kc ks y cc nL Qc pc Lo St ws := by
  intro p e s m args below meth c H locs ls C hP hD hS hl
  exact lv_bipush C.1 C.2.1 hd hv (K p e s m args below meth c H locs ls C hP hD hS hl)
theorem g_sp {n : Int} {v : Int32} (hd : decode cc pc = .ok (.sipush n, 3)) (hv : (Int16.ofInt n).toInt32 = v) (K : G E A d mc ms kc ks y cc nL Qc (pc + 3) Lo (.int v :: St) ws) : G E A d mc ms kc ks y cc nL Qc pc Lo St ws := by
  intro p e s m args below meth c H locs ls C hP hD hS hl
  exact lv_sipush C.1 C.2.1 hd hv (K p e s m args below meth c H locs ls C hP hD hS hl)
theorem g_dup {v : Value} (hd : decode cc pc = .ok (.dup, 1)) (hv : v.category = 1) (K : G E A d mc ms kc ks y cc nL Qc (pc + 1) Lo (v :: v :: St) ws) : G E A d mc ms kc ks y cc nL Qc pc Lo (v :: St) ws := by
  intro p e s m args below meth c H locs ls C hP hD hS hl
  exact lv_dup C.1 C.2.1 hd hv (K p e s m args below meth c H locs ls C hP hD hS hl)
theorem g_ist {k : Fin 4} {i : Nat} {x : Int32} {Lo' : List (Nat × Value)} (hd : decode cc pc = .ok (.istore_n k, 1)) (hk : (k : Nat) = i) (hn : i < nL) (hL : (i, Value.int x) :: Lo.filter (fun q => !(q.1 == i) && !(q.1 + 1 == i && q.2.category == 2)) = Lo') (K : G E A d mc ms kc ks y cc nL Qc (pc + 1) Lo' St ws) : G E A d mc ms kc ks y cc nL Qc pc Lo (.int x :: St) ws := by
  intro p e s m args below meth c H locs ls C hP hD hS hl
  exact lv_istore_n C.1 C.2.1 hd hk hl hn hL (fun ls' hl' => K p e s m args below meth c H locs ls' C hP hD hS hl')
theorem g_iinc {i : Nat} {n : Int} {x v : Int32} {Lo' : List (Nat × Value)} (j : Nat) (hd : decode cc pc = .ok (.iinc i n, 3)) (hk : Lo[j]? = some (i, .int x)) (hv : x + Int32.ofInt n = v) (hn : i < nL) (hL : (i, Value.int v) :: Lo.filter (fun q => !(q.1 == i) && !(q.1 + 1 == i && q.2.category == 2)) = Lo') (K : G E A d mc ms kc ks y cc nL Qc (pc + 3) Lo' St ws) : G E A d mc ms kc ks y cc nL Qc pc Lo St ws := by
  intro p e s m args below meth c H locs ls C hP hD hS hl
  exact lv_iinc C.1 C.2.1 hd hl hk hv hn hL (fun ls' hl' => K p e s m args below meth c H locs ls' C hP hD hS hl')
theorem g_goto {off : Int} {tgt : Nat} (hd : decode cc pc = .ok (.goto off, 3)) (ht : (pc : Int) + off = (tgt : Int)) (K : G E A d mc ms kc ks y cc nL Qc tgt Lo St ws) : G E A d mc ms kc ks y cc nL Qc pc Lo St ws := by
  intro p e s m args below meth c H locs ls C hP hD hS hl
  exact lv_goto C.1 C.2.1 hd ht (K p e s m args below meth c H locs ls C hP hD hS hl)
theorem g_geT {x z : Int32} {off : Int} {tgt : Nat} (hd : decode cc pc = .ok (.if_icmp .ge off, 3)) (ht : (pc : Int) + off = (tgt : Int)) (h : z ≤ x) (K : G E A d mc ms kc ks y cc nL Qc tgt Lo St ws) : G E A d mc ms kc ks y cc nL Qc pc Lo (.int z :: .int x :: St) ws := by
  intro p e s m args below meth c H locs ls C hP hD hS hl
  exact lv_icmp_ge C.1 C.2.1 hd ht (fun _ => K p e s m args below meth c H locs ls C hP hD hS hl) (fun q => absurd h q)
theorem g_geF {x z : Int32} {off : Int} (tgt : Nat) (hd : decode cc pc = .ok (.if_icmp .ge off, 3)) (ht : (pc : Int) + off = (tgt : Int)) (h : ¬ z ≤ x) (K : G E A d mc ms kc ks y cc nL Qc (pc + 3) Lo St ws) : G E A d mc ms kc ks y cc nL Qc pc Lo (.int z :: .int x :: St) ws := by
  intro p e s m args below meth c H locs ls C hP hD hS hl
  exact lv_icmp_ge C.1 C.2.1 hd ht (fun q => absurd q h) (fun _ => K p e s m args below meth c H locs ls C hP hD hS hl)
set_option maxRecDepth 100000 in
theorem gO1 : Cond.instanceMethod Lib.objectInit ∈ gw := gw_tb 23 rfl rfl
set_option maxRecDepth 100000 in
theorem gO2 : Cond.code Lib.objectInit ⟨#[0xb1]⟩ 1 none ∈ gw := gw_tb 24 rfl rfl
theorem g_obj {idx a : Nat} (hd : decode cc pc = .ok (.invokespecial idx, 3)) (hlink : Cond.methodLink y.cls idx Lib.objectInit ∈ gw) (h1 : 1 ≤ d) (hs : (St.map fun v => v.category).sum + 12 ≤ 32 * d) (K : G E A d mc ms kc ks y cc nL Qc (pc + 3) Lo St ws) : G E A d mc ms kc ks y cc nL Qc pc Lo (.ref a :: St) ws := by
  intro p e s m args below meth c H locs ls C hP hD hS hl
  refine W.objInit C.1 C.2.1 C.2.2.2.2.1 (C.2.2.2.2.2.1 _ hlink) (C.2.2.2.2.2.1 _ gO1) (C.2.2.2.2.2.1 _ gO2) rfl (by rw [C.2.2.1]; exact hl.1) rfl hd h1 (by show 2 * 0 + _ + 12 ≤ 32 * d; omega) ?_
  exact W.eq (g2 := F0 m (pc + 3) ls St) rfl (K p e s m args below meth c H locs ls C hP hD hS hl)
set_option maxRecDepth 100000 in
theorem gA_int : Cond.arrayClass .int ∈ gw := gw_tb 56 rfl rfl
theorem g_new_int {n : Int32} {N : Nat} (hd : decode cc pc = .ok (.newarray .int, 2)) (hn : ¬ n < 0) (hN : n.toNatClampNeg = N) (hb : N * componentBytes .int ≤ 536870912) (hc : kc + 1 ≤ mc) (hs : ks + N ≤ ms) (K : ∀ q : Nat, G E A d mc ms (kc + 1) (ks + N) y cc nL Qc (pc + 2) Lo (.ref q :: St) (ws ++ [(q, .inl (eC E 0, N, .inl (fun _ => 0)))])) : G E A d mc ms kc ks y cc nL Qc pc Lo (.int n :: St) ws := by
  intro p e s m args below meth c H locs ls C hP hD hS hl
  refine va_newa (atype := .int) (ty := .int) (a0 := (N, .inl (fun _ => 0))) C.1 C.2.1 (C.2.2.2.2.2.1 _ gA_int) rfl C.2.2.2.2.2.2.2.1 hP hD hS C.2.2.2.2.2.2.2.2.2.2 (fun _ => rfl) hn hN hb hc hs hd (fun q cA H1 hK1 hP1 hD1 hS1 => ?_)
  have h1 : s.vm.findClass ("[" ++ (FieldType.int).toString) = some cA := (hK1.2 7 (cA, .int) rfl).2
  have h2 : s.vm.findClass ("[" ++ (FieldType.int).toString) = some (eC E 0) := ((C.2.2.2.2.2.2.2.1).2 0 _ (tys_at E rfl)).2
  have he : cA = eC E 0 := Option.some.inj (h1.symm.trans h2)
  subst he
  exact K q p e s m args below meth c H1 locs ls C hP1 hD1 hS1 hl
set_option maxRecDepth 100000 in
theorem gA_byte : Cond.arrayClass .byte ∈ gw := gw_tb 114 rfl rfl
theorem g_new_byte {n : Int32} {N : Nat} (hd : decode cc pc = .ok (.newarray .byte, 2)) (hn : ¬ n < 0) (hN : n.toNatClampNeg = N) (hb : N * componentBytes .byte ≤ 536870912) (hc : kc + 1 ≤ mc) (hs : ks + N ≤ ms) (K : ∀ q : Nat, G E A d mc ms (kc + 1) (ks + N) y cc nL Qc (pc + 2) Lo (.ref q :: St) (ws ++ [(q, .inl (eC E 1, N, .inl (fun _ => 0)))])) : G E A d mc ms kc ks y cc nL Qc pc Lo (.int n :: St) ws := by
  intro p e s m args below meth c H locs ls C hP hD hS hl
  refine va_newa (atype := .byte) (ty := .byte) (a0 := (N, .inl (fun _ => 0))) C.1 C.2.1 (C.2.2.2.2.2.1 _ gA_byte) rfl C.2.2.2.2.2.2.2.1 hP hD hS C.2.2.2.2.2.2.2.2.2.2 (fun _ => rfl) hn hN hb hc hs hd (fun q cA H1 hK1 hP1 hD1 hS1 => ?_)
  have h1 : s.vm.findClass ("[" ++ (FieldType.byte).toString) = some cA := (hK1.2 7 (cA, .byte) rfl).2
  have h2 : s.vm.findClass ("[" ++ (FieldType.byte).toString) = some (eC E 1) := ((C.2.2.2.2.2.2.2.1).2 1 _ (tys_at E rfl)).2
  have he : cA = eC E 1 := Option.some.inj (h1.symm.trans h2)
  subst he
  exact K q p e s m args below meth c H1 locs ls C hP1 hD1 hS1 hl
set_option maxRecDepth 100000 in
theorem gA_boolean : Cond.arrayClass .boolean ∈ gw := gw_tb 945 rfl rfl
theorem g_new_boolean {n : Int32} {N : Nat} (hd : decode cc pc = .ok (.newarray .boolean, 2)) (hn : ¬ n < 0) (hN : n.toNatClampNeg = N) (hb : N * componentBytes .boolean ≤ 536870912) (hc : kc + 1 ≤ mc) (hs : ks + N ≤ ms) (K : ∀ q : Nat, G E A d mc ms (kc + 1) (ks + N) y cc nL Qc (pc + 2) Lo (.ref q :: St) (ws ++ [(q, .inl (eC E 2, N, .inl (fun _ => 0)))])) : G E A d mc ms kc ks y cc nL Qc pc Lo (.int n :: St) ws := by
  intro p e s m args below meth c H locs ls C hP hD hS hl
  refine va_newa (atype := .boolean) (ty := .boolean) (a0 := (N, .inl (fun _ => 0))) C.1 C.2.1 (C.2.2.2.2.2.1 _ gA_boolean) rfl C.2.2.2.2.2.2.2.1 hP hD hS C.2.2.2.2.2.2.2.2.2.2 (fun _ => rfl) hn hN hb hc hs hd (fun q cA H1 hK1 hP1 hD1 hS1 => ?_)
  have h1 : s.vm.findClass ("[" ++ (FieldType.boolean).toString) = some cA := (hK1.2 7 (cA, .boolean) rfl).2
  have h2 : s.vm.findClass ("[" ++ (FieldType.boolean).toString) = some (eC E 2) := ((C.2.2.2.2.2.2.2.1).2 2 _ (tys_at E rfl)).2
  have he : cA = eC E 2 := Option.some.inj (h1.symm.trans h2)
  subst he
  exact K q p e s m args below meth c H1 locs ls C hP1 hD1 hS1 hl
set_option maxRecDepth 100000 in
theorem gA_char : Cond.arrayClass .char ∈ gw := gw_tb 944 rfl rfl
theorem g_new_char {n : Int32} {N : Nat} (hd : decode cc pc = .ok (.newarray .char, 2)) (hn : ¬ n < 0) (hN : n.toNatClampNeg = N) (hb : N * componentBytes .char ≤ 536870912) (hc : kc + 1 ≤ mc) (hs : ks + N ≤ ms) (K : ∀ q : Nat, G E A d mc ms (kc + 1) (ks + N) y cc nL Qc (pc + 2) Lo (.ref q :: St) (ws ++ [(q, .inl (eC E 3, N, .inl (fun _ => 0)))])) : G E A d mc ms kc ks y cc nL Qc pc Lo (.int n :: St) ws := by
  intro p e s m args below meth c H locs ls C hP hD hS hl
  refine va_newa (atype := .char) (ty := .char) (a0 := (N, .inl (fun _ => 0))) C.1 C.2.1 (C.2.2.2.2.2.1 _ gA_char) rfl C.2.2.2.2.2.2.2.1 hP hD hS C.2.2.2.2.2.2.2.2.2.2 (fun _ => rfl) hn hN hb hc hs hd (fun q cA H1 hK1 hP1 hD1 hS1 => ?_)
  have h1 : s.vm.findClass ("[" ++ (FieldType.char).toString) = some cA := (hK1.2 7 (cA, .char) rfl).2
  have h2 : s.vm.findClass ("[" ++ (FieldType.char).toString) = some (eC E 3) := ((C.2.2.2.2.2.2.2.1).2 3 _ (tys_at E rfl)).2
  have he : cA = eC E 3 := Option.some.inj (h1.symm.trans h2)
  subst he
  exact K q p e s m args below meth c H1 locs ls C hP1 hD1 hS1 hl
theorem g_new_Text {n : Int32} {N idx : Nat} (hd : decode cc pc = .ok (.anewarray idx, 3)) (hcl : Cond.classLink y.cls idx "HearsaySeeds$Text" ∈ gw) (hn : ¬ n < 0) (hN : n.toNatClampNeg = N) (hb : N * 4 ≤ 536870912) (hc : kc + 1 ≤ mc) (hs : ks + N ≤ ms) (K : ∀ q : Nat, G E A d mc ms (kc + 1) (ks + N) y cc nL Qc (pc + 3) Lo (.ref q :: St) (ws ++ [(q, .inl (eC E 4, N, .inr (.inr (.inr (.inr (fun _ => none))))))])) : G E A d mc ms kc ks y cc nL Qc pc Lo (.int n :: St) ws := by
  intro p e s m args below meth c H locs ls C hP hD hS hl
  refine va_newq (C := "HearsaySeeds$Text") C.1 C.2.1 C.2.2.2.2.1 (C.2.2.2.2.2.1 _ hcl) (C.2.2.2.2.2.2.2.2.1.1) C.2.2.2.2.2.2.2.1 hP hD hS C.2.2.2.2.2.2.2.2.2.2 hn hN hb hc hs hd (fun q cA H1 hK1 hP1 hD1 hS1 => ?_)
  obtain ⟨kA, comp, -, -, -, h1⟩ := (hK1.2 7 (cA, .object "HearsaySeeds$Text") rfl).2
  obtain ⟨kB, comp2, -, -, -, h2⟩ := ((C.2.2.2.2.2.2.2.1).2 4 _ (tys_at E (ty := .object "HearsaySeeds$Text") rfl)).2
  have he : cA = eC E 4 := Option.some.inj (h1.symm.trans h2)
  subst he
  exact K q p e s m args below meth c H1 locs ls C hP1 hD1 hS1 hl
theorem g_new_Sheet {n : Int32} {N idx : Nat} (hd : decode cc pc = .ok (.anewarray idx, 3)) (hcl : Cond.classLink y.cls idx "HearsaySeeds$Sheet" ∈ gw) (hn : ¬ n < 0) (hN : n.toNatClampNeg = N) (hb : N * 4 ≤ 536870912) (hc : kc + 1 ≤ mc) (hs : ks + N ≤ ms) (K : ∀ q : Nat, G E A d mc ms (kc + 1) (ks + N) y cc nL Qc (pc + 3) Lo (.ref q :: St) (ws ++ [(q, .inl (eC E 5, N, .inr (.inr (.inr (.inr (fun _ => none))))))])) : G E A d mc ms kc ks y cc nL Qc pc Lo (.int n :: St) ws := by
  intro p e s m args below meth c H locs ls C hP hD hS hl
  refine va_newq (C := "HearsaySeeds$Sheet") C.1 C.2.1 C.2.2.2.2.1 (C.2.2.2.2.2.1 _ hcl) (C.2.2.2.2.2.2.2.2.1.2.1) C.2.2.2.2.2.2.2.1 hP hD hS C.2.2.2.2.2.2.2.2.2.2 hn hN hb hc hs hd (fun q cA H1 hK1 hP1 hD1 hS1 => ?_)
  obtain ⟨kA, comp, -, -, -, h1⟩ := (hK1.2 7 (cA, .object "HearsaySeeds$Sheet") rfl).2
  obtain ⟨kB, comp2, -, -, -, h2⟩ := ((C.2.2.2.2.2.2.2.1).2 5 _ (tys_at E (ty := .object "HearsaySeeds$Sheet") rfl)).2
  have he : cA = eC E 5 := Option.some.inj (h1.symm.trans h2)
  subst he
  exact K q p e s m args below meth c H1 locs ls C hP1 hD1 hS1 hl
theorem g_new_Slot {n : Int32} {N idx : Nat} (hd : decode cc pc = .ok (.anewarray idx, 3)) (hcl : Cond.classLink y.cls idx "HearsaySeeds$Slot" ∈ gw) (hn : ¬ n < 0) (hN : n.toNatClampNeg = N) (hb : N * 4 ≤ 536870912) (hc : kc + 1 ≤ mc) (hs : ks + N ≤ ms) (K : ∀ q : Nat, G E A d mc ms (kc + 1) (ks + N) y cc nL Qc (pc + 3) Lo (.ref q :: St) (ws ++ [(q, .inl (eC E 6, N, .inr (.inr (.inr (.inr (fun _ => none))))))])) : G E A d mc ms kc ks y cc nL Qc pc Lo (.int n :: St) ws := by
  intro p e s m args below meth c H locs ls C hP hD hS hl
  refine va_newq (C := "HearsaySeeds$Slot") C.1 C.2.1 C.2.2.2.2.1 (C.2.2.2.2.2.1 _ hcl) (C.2.2.2.2.2.2.2.2.1.2.2.1) C.2.2.2.2.2.2.2.1 hP hD hS C.2.2.2.2.2.2.2.2.2.2 hn hN hb hc hs hd (fun q cA H1 hK1 hP1 hD1 hS1 => ?_)
  obtain ⟨kA, comp, -, -, -, h1⟩ := (hK1.2 7 (cA, .object "HearsaySeeds$Slot") rfl).2
  obtain ⟨kB, comp2, -, -, -, h2⟩ := ((C.2.2.2.2.2.2.2.1).2 6 _ (tys_at E (ty := .object "HearsaySeeds$Slot") rfl)).2
  have he : cA = eC E 6 := Option.some.inj (h1.symm.trans h2)
  subst he
  exact K q p e s m args below meth c H1 locs ls C hP1 hD1 hS1 hl
theorem g_new {idx ci N : Nat} {fs : List Value} (hd : decode cc pc = .ok (.new idx, 3)) (hg : NWc y.cls idx ci N fs) (hc : kc + 1 ≤ mc) (hs : ks + N ≤ ms) (K : ∀ q : Nat, G E A d mc ms (kc + 1) (ks + N) y cc nL Qc (pc + 3) Lo (.ref q :: St) (ws ++ [(q, .inr (ci, fs))])) : G E A d mc ms kc ks y cc nL Qc pc Lo St ws := by
  intro p e s m args below meth c H locs ls C hP hD hS hl
  obtain ⟨C0, T, ty, hin, hty, hcl, hins, hini, hvc, hfs⟩ := hg
  exact va_new C.1 C.2.1 C.2.2.2.2.2.1 hin ty hty C.2.2.2.2.1 (C.2.2.2.2.2.1 _ hcl) (C.2.2.2.2.2.1 _ hins) (C.2.2.2.2.2.1 _ hini) C.2.2.2.2.2.2.2.1 hP hD hS C.2.2.2.2.2.2.2.2.2.2 hvc hfs hc hs hd (fun q H1 hP1 hD1 hS1 => K q p e s m args below meth c H1 locs ls C hP1 hD1 hS1 hl)
theorem g_putF {a i ci k0 : Nat} {fs : List Value} {ty : FieldType} {v : Value} {ws' : va_W} (q0 : Nat) (hd : decode cc pc = .ok (.putfield i, 3)) (hg : PR y.cls i ci k0 ty) (he : ws[q0]? = some (a, .inr (ci, fs))) (hn : narrow ty v = v) (hfit : fits ty v = true) (hl0 : k0 < fs.length) (hw : ws.set q0 (a, .inr (ci, fs.set k0 v)) = ws') (K : G E A d mc ms kc ks y cc nL Qc (pc + 3) Lo St ws') : G E A d mc ms kc ks y cc nL Qc pc Lo (v :: .ref a :: St) ws := by
  intro p e s m args below meth c H locs ls C hP hD hS hl
  obtain ⟨C0, T, N, ty0, hin, hty, hnm, hlink, hc, hk, hfin, hdec, hy0⟩ := hg
  subst hy0
  subst hw
  exact va_putF C.1 C.2.1 C.2.2.2.2.2.1 hin ty0 hty hnm C.2.2.2.2.1 C.2.2.2.2.2.2.2.1 hP hD hS q0 he hc k0 hk (C.2.2.2.2.2.1 _ hlink) (fun x h => h) hfin C.2.2.2.2.2.2.2.2.2.1 hdec (hty k0 hk) hn hfit hl0 hd (fun H1 locs1 hP1 hD1 hS1 => K p e s m args below meth c H1 locs1 ls C hP1 hD1 hS1 hl)
theorem g_put {a i ci k0 : Nat} {fs : List Value} {ty : FieldType} {v : Value} {ws' : va_W} (q0 : Nat) (hd : decode cc pc = .ok (.putfield i, 3)) (hg : PF y.cls i ci k0 ty) (he : ws[q0]? = some (a, .inr (ci, fs))) (hn : narrow ty v = v) (hfit : fits ty v = true) (hl0 : k0 < fs.length) (hw : ws.set q0 (a, .inr (ci, fs.set k0 v)) = ws') (K : G E A d mc ms kc ks y cc nL Qc (pc + 3) Lo St ws') : G E A d mc ms kc ks y cc nL Qc pc Lo (v :: .ref a :: St) ws := by
  intro p e s m args below meth c H locs ls C hP hD hS hl
  obtain ⟨C0, T, N, ty0, hin, hty, hnm, hlink, hc, hk, hfin, hy0⟩ := hg
  subst hy0
  subst hw
  exact va_put C.1 C.2.1 C.2.2.2.2.2.1 hin ty0 hty hnm C.2.2.2.2.1 C.2.2.2.2.2.2.2.1 hP hD hS q0 he hc k0 hk (C.2.2.2.2.2.1 _ hlink) (fun x h => h) hfin (hty k0 hk) hn hfit hl0 hd (fun H1 locs1 hP1 hD1 hS1 => K p e s m args below meth c H1 locs1 ls C hP1 hD1 hS1 hl)
theorem g_get {a i ci k0 : Nat} {fs : List Value} {v : Value} (q0 : Nat) (hd : decode cc pc = .ok (.getfield i, 3)) (hg : GF y.cls i ci k0) (he : ws[q0]? = some (a, .inr (ci, fs))) (hf : fs[k0]? = some v) (K : G E A d mc ms kc ks y cc nL Qc (pc + 3) Lo (v :: St) ws) : G E A d mc ms kc ks y cc nL Qc pc Lo (.ref a :: St) ws := by
  intro p e s m args below meth c H locs ls C hP hD hS hl
  obtain ⟨C0, T, N, hin, hlink, hc, hk⟩ := hg
  exact va_get C.1 C.2.1 C.2.2.2.2.2.1 hin C.2.2.2.2.1 C.2.2.2.2.2.2.2.1 hP q0 he hc k0 hk (C.2.2.2.2.2.1 _ hlink) (fun x h => h) hf hd (K p e s m args below meth c H locs ls C hP hD hS hl)
theorem g_iast {a n j : Nat} {f : Nat → Int32} {i x x' : Int32} {ws' : va_W} (q0 : Nat) (hd : decode cc pc = .ok (.iastore, 1)) (he : ws[q0]? = some (a, .inl (eC E 0, n, .inl f))) (hi : vp_in i n) (hj : i.toNatClampNeg = j) (hx : x = x') (hw : ws.set q0 (a, .inl (eC E 0, n, .inl (upd f j x'))) = ws') (K : G E A d mc ms kc ks y cc nL Qc (pc + 1) Lo St ws') : G E A d mc ms kc ks y cc nL Qc pc Lo (.int x :: .int i :: .ref a :: St) ws := by
  intro p e s m args below meth c H locs ls C hP hD hS hl
  subst hw
  subst hj
  subst hx
  exact va_iast C.1 C.2.1 C.2.2.2.2.2.2.2.1 hP hD hS q0 0 he (tys_at E rfl) hi hd (fun H1 locs1 hP1 hD1 hS1 => K p e s m args below meth c H1 locs1 ls C hP1 hD1 hS1 hl)
theorem g_cast {a n j : Nat} {f : Nat → Int32} {i x x' : Int32} {ws' : va_W} (q0 : Nat) (hd : decode cc pc = .ok (.castore, 1)) (he : ws[q0]? = some (a, .inl (eC E 3, n, .inl f))) (hi : vp_in i n) (hj : i.toNatClampNeg = j) (hx : (vp_nar .char x) = x') (hw : ws.set q0 (a, .inl (eC E 3, n, .inl (upd f j x'))) = ws') (K : G E A d mc ms kc ks y cc nL Qc (pc + 1) Lo St ws') : G E A d mc ms kc ks y cc nL Qc pc Lo (.int x :: .int i :: .ref a :: St) ws := by
  intro p e s m args below meth c H locs ls C hP hD hS hl
  subst hw
  subst hj
  subst hx
  exact va_cast C.1 C.2.1 C.2.2.2.2.2.2.2.1 hP hD hS q0 3 he (tys_at E rfl) hi hd (fun H1 locs1 hP1 hD1 hS1 => K p e s m args below meth c H1 locs1 ls C hP1 hD1 hS1 hl)
theorem g_aast {a n j v ci : Nat} {vs : List Value} {f : Nat → Option Nat} {i : Int32} {r : vw_C} {ws' : va_W} (q0 t qk : Nat) (hd : decode cc pc = .ok (.aastore, 1)) (he : ws[q0]? = some (a, .inl (eC E t, n, .inr (.inr (.inr (.inr f)))))) (ht : aty[t]? = some (.object r.1)) (hv : ws[qk]? = some (v, .inr (ci, vs))) (hc : vwCl[ci]? = some r) (hi : vp_in i n) (hj : i.toNatClampNeg = j) (hw : ws.set q0 (a, .inl (eC E t, n, .inr (.inr (.inr (.inr (va_up f j (some v))))))) = ws') (K : G E A d mc ms kc ks y cc nL Qc (pc + 1) Lo St ws') : G E A d mc ms kc ks y cc nL Qc pc Lo (.ref v :: .int i :: .ref a :: St) ws := by
  intro p e s m args below meth c H locs ls C hP hD hS hl
  subst hw
  subst hj
  exact va_astq C.1 C.2.1 C.2.2.2.2.2.2.2.1 hP hD hS q0 t qk ci he (tys_at E ht) hv hc hi hd (fun H1 locs1 hP1 hD1 hS1 => K p e s m args below meth c H1 locs1 ls C hP1 hD1 hS1 hl)
theorem g_perm {ws' : va_W} (is : List Nat) (h1 : is.filterMap (fun i => ws[i]?) = ws') (h2 : is.map (fun i => ws[i]?) = ws'.map some) (hn : va_nd is = true) (K : G E A d mc ms kc ks y cc nL Qc pc Lo St ws') : G E A d mc ms kc ks y cc nL Qc pc Lo St ws := by
  intro p e s m args below meth c H locs ls C hP hD hS hl
  exact K p e s m args below meth c H locs ls C (hP.sub is h1) (hD.sub is hn h2) hS hl
theorem g_fun {a n t : Nat} {f f' : Nat → Option Nat} {ws' : va_W} (q0 : Nat) (he : ws[q0]? = some (a, .inl (eC E t, n, .inr (.inr (.inr (.inr f)))))) (hf : ∀ j, j < n → f j = f' j) (hw : ws.set q0 (a, .inl (eC E t, n, .inr (.inr (.inr (.inr f'))))) = ws') (K : G E A d mc ms kc ks y cc nL Qc pc Lo St ws') : G E A d mc ms kc ks y cc nL Qc pc Lo St ws := by
  intro p e s m args below meth c H locs ls C hP hD hS hl
  subst hw
  refine K p e s m args below meth c H locs ls C (fun k q hk => ?_) (hD.set he) hS hl
  by_cases hq : k = q0
  · subst hq
    have hlt := (List.getElem?_eq_some_iff.mp he).1
    rw [List.getElem?_set_self hlt] at hk
    cases hk
    have h0 : H[a]? = some (vp_cell (eC E t) (n, .inr (.inr (.inr (.inr f))))) := hP k _ he
    show H[a]? = some (vp_cell (eC E t) (n, .inr (.inr (.inr (.inr f')))))
    rw [h0, vp_cell_q, vp_cell_q]
    unfold arrV
    congr 3
    funext j
    show va_rf (f j.val) = va_rf (f' j.val)
    rw [hf j.val j.isLt]
  · rw [List.getElem?_set_ne (Ne.symm hq)] at hk
    exact hP k q hk
theorem g_ret {S : Type} {post : S → Prop} {w1 : S → va_W} (u : S) (hd : decode cc pc = .ok (.return_, 1)) (hp : post u) (hw : ws = w1 u) (hk : kc ≤ mc) (hs : ks ≤ ms) : G E A d mc ms kc ks y cc nL (va_Qv post (fun u t => va_P (eD E) vwCl (w1 u) t.heap ∧ va_D A (w1 u)) A) pc Lo [] ws := by
  intro p e s m args below meth c H locs ls C hP hD hS hl
  subst hw
  refine W.widen hk hs ?_
  exact W.vret C.1 C.2.1 (by rw [C.2.2.2.1]) (fun t ht _ => ⟨⟨u, rfl, hp, by rw [ht]; exact hP, hD⟩, hS.F ht⟩) hS.2.2 hd C.2.2.2.2.2.2.1
end GR
def gB (E : ev) (sz : Nat) (w0 : va_W) (U : State) : Prop := U.heap.size = sz ∧ va_P (eD E) vwCl w0 U.heap ∧ va_K (eD E) vwCl (tys E) U ∧ NI U ∧ va_D (fun _ => True) w0
/-- a constructor's contract: its cells before, its cells behind -/
def GCt (E : ev) (d mc ms : Nat) (y : MethodName) (cc : ByteArray) (nL : Nat) (as : List Value) (w0 : va_W) {S : Type} (post : S → Prop) (w1 : S → va_W) : Prop :=
  ∀ sz : Nat, Met (eL E) y (.code y cc nL none :: gw) (rgm d mc ms) (va_Pc as (gB E sz w0)) (va_Qv post (fun u t => va_P (eD E) vwCl (w1 u) t.heap ∧ va_D (va_A w0 sz) (w1 u)) (va_A w0 sz)) mc ms (va_A w0 sz)
theorem gct_of {E : ev} {d mc ms : Nat} {y : MethodName} {cc : ByteArray} {nL : Nat} {as : List Value} {w0 : va_W} {S : Type} {post : S → Prop} {w1 : S → va_W} (hy : plainName y.cls = true) (hn : y.name = "<init>") (hl : (lg_sl as).length ≤ nL)
    (k : ∀ A, G E A d mc ms 0 0 y cc nL (va_Qv post (fun u t => va_P (eD E) vwCl (w1 u) t.heap ∧ va_D A (w1 u)) A) 0 (lv_args 0 as) [] w0) : GCt E d mc ms y cc nL as w0 post w1 := by
  intro sz
  refine Met.ofW (cc := cc) (maxL := nL) (ret := none) hy rfl ?_
  intro p e s m args below meth c s₁ B hml hv
  obtain ⟨rfl, hsz, hP, hK, hNI, hD0⟩ := hv
  have hts := atoms_spec (ws := .code y cc nL none :: gw) B.pre
  have hown : s.vm.findClass y.cls = some m.cls := findClass_of_methodNamed B.named
  have hin : meth.name = "<init>" := by rw [← hn]; exact (name_of_methodNamed B.named B.method).1
  subst hsz
  rw [lg_entry_eq]
  have hle := lv_entry as (n := nL) hl
  exact k (va_A w0 s.heap.size) p e s m _ below meth c s.heap [] _ ⟨B.exec, B.bytes, hml, B.returns, hown, fun w h => hts w (List.mem_cons_of_mem _ h), B.notSynchronized, hK, hNI, hin, fun q h => Or.inr h⟩ hP hD0.self va_S.rf hle
theorem gB_blind (E : ev) (as : List Value) (sz : Nat) (w0 : va_W) : FrameBlind (va_Pc as (gB E sz w0)) := fun a U g mk q => by
  obtain ⟨q0, q1, q2, q3, q4, q5⟩ := q
  exact ⟨q0, q1, q2, va_K.moved (u := U) (U := U.calling g mk a) (Vm.Alike.refl U.vm) q3, NI.same (u := U) (U := U.calling g mk a) rfl q4, q5⟩
/-- an object's constructor called: its cells at isC, the others at isR stay -/
def CI0 (y : MethodName) (cc : ByteArray) (nL n : Nat) : Prop := Cond.code y cc nL none ∈ gw ∧ Cond.initialized y.cls ∈ gw ∧ Cond.instanceMethod y ∈ gw ∧ y.name = "<init>" ∧ (y.cls ≠ "java/lang/invoke/MethodHandle" ∧ y.cls ≠ "java/lang/invoke/VarHandle" ∧ (parseMethodDescriptor y.desc).map (fun d => d.parameters.length) = some n) ∧ nL ≤ 13
theorem g_callI {E : ev} {A : Nat → Prop} {d mc ms kc ks : Nat} {y : MethodName} {cc : ByteArray} {nL : Nat} {Qc : qcT} {pc : Nat} {Lo : List (Nat × Value)} {St Sx : List Value} {ws : va_W} {d' mc' ms' nL' idx n b : Nat} {y' : MethodName} {cc' : ByteArray} {As : List Value} {w0 wr : va_W} {S : Type} {post : S → Prop} {w1 : S → va_W} (hC : GCt E d' mc' ms' y' cc' nL' (.ref b :: As) w0 post w1) (isC isR : List Nat) (hd : decode cc pc = .ok (.invokespecial idx, 3)) (hlk : Cond.methodLink y.cls idx y' ∈ gw) (h0 : CI0 y' cc' nL' n) (hn : As.length = n) (h1 : isC.map (fun i => ws[i]?) = w0.map some) (h1' : isC.filterMap (fun i => ws[i]?) = w0) (hnC : va_nd isC = true) (h2 : isR.map (fun i => ws[i]?) = wr.map some) (hnR : va_nd isR = true) (hdis : ∀ i ∈ isR, i ∉ isC) (hdd : d' < d) (hmc : kc + mc' ≤ mc) (hms : ks + ms' ≤ ms) (hs : (St.map fun v => v.category).sum ≤ 8) (hst : Sx = As.reverse ++ .ref b :: St) (K : ∀ u, post u → G E A d mc ms (kc + mc') (ks + ms') y cc nL Qc (pc + 3) Lo St (wr ++ w1 u)) : G E A d mc ms kc ks y cc nL Qc pc Lo Sx ws := by
  intro p e s m args below meth c H locs ls C hP hD hS hl
  subst hst
  obtain ⟨g1, g2, g3, g4, g5, g6⟩ := h0
  have hG : GoodIn gw (.code y' cc' nL' none :: gw) := by
    refine gw_good (fun _ h => h) _ (fun w h => ?_)
    rcases List.mem_cons.mp h with h | h
    · rw [h]; exact g1
    · exact h
  have hPc := hP.sub isC h1'
  have hDc := hD.sub isC hnC h1
  have hFc := va_free (wc := w0) hD hS C.2.2.2.2.2.2.2.2.2.2 isC h1
  have cw := cwI (R := rgm d mc ms) (s := s) (args := args) (own := y.cls) (index := idx) (y := y') (bytes := cc') (maxL := nL') (mc := mc') (ms := ms') (rm := rgm d' mc' ms') n C.2.2.2.2.2.1 hG rfl rfl rfl (C.2.2.2.2.2.1 _ g2) (C.2.2.2.2.2.1 _ hlk) (C.2.2.2.2.2.1 _ g3) g4 g5 ⟨hdd, by show 8 + (nL' + 11) + 32 * d' ≤ 32 * d; omega⟩
  refine va_callv (A0 := A) (H0 := s.heap) (va_runI (As := As) (rest := St) ⟨C.1, C.2.1, C.2.2.1, C.2.2.2.2.1, C.2.2.2.2.2.1⟩ (hC H.size) cw ⟨gB_blind E _ _ _, fun U hU hW => ⟨rfl, by rw [hU], by rw [hU]; exact hPc, va_K.moved hW.alike C.2.2.2.2.2.2.2.1, NI.warm hW C.2.2.2.2.2.2.2.2.1, hDc.weaken (fun _ _ _ _ => trivial)⟩⟩ rfl hn hl.1 rfl (lv_room hs) hd ⟨hmc, hms⟩) hS (fun q _ h => hFc q h) hFc (fun u t H1 locs1 ht hvm hw hB hz1 hk1 hS1 => ?_)
  obtain ⟨hP1, hD1⟩ := hB
  rw [ht] at hP1
  obtain ⟨hP2, hD2⟩ := va_join (wr := wr) (w1 := w1 u) hP hD isC isR h1 h2 hnR hdis hk1 hFc hP1 hD1
  exact K u hw p e s m args below meth c H1 locs1 ls C hP2 hD2 hS1 hl
theorem g_callN {E : ev} {A : Nat → Prop} {d mc ms kc ks : Nat} {y : MethodName} {cc : ByteArray} {nL : Nat} {Qc : qcT} {pc : Nat} {Lo : List (Nat × Value)} {St Sx : List Value} {ws : va_W} {d' mc' ms' nL' idx n b : Nat} {y' : MethodName} {cc' : ByteArray} {As : List Value} {w0 wr : va_W} {S : Type} {post : S → Prop} {w1 : S → va_W} {host : String} (hC : GCt E d' mc' ms' y' cc' nL' (.ref b :: As) w0 post w1) (isC isR : List Nat) (hd : decode cc pc = .ok (.invokespecial idx, 3)) (hlk : ∀ s, NI s → va_Nw (.methodLinkNest y.cls idx y' host) s) (h0 : CI0 y' cc' nL' n) (hn : As.length = n) (h1 : isC.map (fun i => ws[i]?) = w0.map some) (h1' : isC.filterMap (fun i => ws[i]?) = w0) (hnC : va_nd isC = true) (h2 : isR.map (fun i => ws[i]?) = wr.map some) (hnR : va_nd isR = true) (hdis : ∀ i ∈ isR, i ∉ isC) (hdd : d' < d) (hmc : kc + mc' ≤ mc) (hms : ks + ms' ≤ ms) (hs : (St.map fun v => v.category).sum ≤ 8) (hst : Sx = As.reverse ++ .ref b :: St) (K : ∀ u, post u → G E A d mc ms (kc + mc') (ks + ms') y cc nL Qc (pc + 3) Lo St (wr ++ w1 u)) : G E A d mc ms kc ks y cc nL Qc pc Lo Sx ws := by
  intro p e s m args below meth c H locs ls C hP hD hS hl
  subst hst
  obtain ⟨g1, g2, g3, g4, g5, g6⟩ := h0
  have hG : GoodIn gw (.code y' cc' nL' none :: gw) := by
    refine gw_good (fun _ h => h) _ (fun w h => ?_)
    rcases List.mem_cons.mp h with h | h
    · rw [h]; exact g1
    · exact h
  have hPc := hP.sub isC h1'
  have hDc := hD.sub isC hnC h1
  have hFc := va_free (wc := w0) hD hS C.2.2.2.2.2.2.2.2.2.2 isC h1
  have cw : va_CN (rgm d mc ms) s args y.cls idx y' host cc' nL' none (.code y' cc' nL' none :: gw) (rgm d' mc' ms') mc' ms' n ∧ y'.name = "<init>" ∧ (Cond.instanceMethod y').before args s = true := ⟨va_cnB n C.2.2.2.2.2.1 hG rfl rfl rfl (hlk s C.2.2.2.2.2.2.2.2.1) (C.2.2.2.2.2.1 _ g2) g5 ⟨hdd, by show 8 + (nL' + 11) + 32 * d' ≤ 32 * d; omega⟩, g4, C.2.2.2.2.2.1 _ g3⟩
  refine va_callv (A0 := A) (H0 := s.heap) (va_runIN (As := As) (rest := St) ⟨C.1, C.2.1, C.2.2.1, C.2.2.2.2.1, C.2.2.2.2.2.1⟩ (hC H.size) cw ⟨gB_blind E _ _ _, fun U hU hW => ⟨rfl, by rw [hU], by rw [hU]; exact hPc, va_K.moved hW.alike C.2.2.2.2.2.2.2.1, NI.warm hW C.2.2.2.2.2.2.2.2.1, hDc.weaken (fun _ _ _ _ => trivial)⟩⟩ rfl hn hl.1 rfl (lv_room hs) hd ⟨hmc, hms⟩) hS (fun q _ h => hFc q h) hFc (fun u t H1 locs1 ht hvm hw hB hz1 hk1 hS1 => ?_)
  obtain ⟨hP1, hD1⟩ := hB
  rw [ht] at hP1
  obtain ⟨hP2, hD2⟩ := va_join (wr := wr) (w1 := w1 u) hP hD isC isR h1 h2 hnR hdis hk1 hFc hP1 hD1
  exact K u hw p e s m args below meth c H1 locs1 ls C hP2 hD2 hS1 hl
set_option maxRecDepth 100000 in
theorem nwL_7 : NWc RL 7 6 11 [.null, .null, .null, .null, .null, .int 0, .null, .null, .null, .int 0, .null] := ⟨RX6, TX6, tyX6, iX6, tyX6_ok, gw_tb 17 rfl rfl, gw_tb 18 rfl rfl, gw_tb 1 rfl rfl, rfl, fun j hj => by rcases (show j = 0 ∨ j = 1 ∨ j = 2 ∨ j = 3 ∨ j = 4 ∨ j = 5 ∨ j = 6 ∨ j = 7 ∨ j = 8 ∨ j = 9 ∨ j = 10 by omega) with rfl | rfl | rfl | rfl | rfl | rfl | rfl | rfl | rfl | rfl | rfl <;> rfl⟩
set_option maxRecDepth 100000 in
theorem clL_7 : Cond.classLink RL 7 "HearsaySeeds" ∈ gw := gw_tb 17 rfl rfl
set_option maxRecDepth 100000 in
theorem mlL_9 : Cond.methodLink RL 9 yX6_init ∈ gw := gw_tb 19 rfl rfl
set_option maxRecDepth 100000 in
theorem obX6_1 : Cond.methodLink RX6 1 Lib.objectInit ∈ gw := gw_tb 22 rfl rfl
set_option maxRecDepth 100000 in
theorem nwX6_7 : NWc RX6 7 1 3 [.null, .null, .null] := ⟨RX1, TX1, tyX1, iX1, tyX1_ok, gw_tb 25 rfl rfl, gw_tb 26 rfl rfl, gw_tb 2 rfl rfl, rfl, fun j hj => by rcases (show j = 0 ∨ j = 1 ∨ j = 2 by omega) with rfl | rfl | rfl <;> rfl⟩
set_option maxRecDepth 100000 in
theorem clX6_7 : Cond.classLink RX6 7 "HearsaySeeds$Laws" ∈ gw := gw_tb 25 rfl rfl
set_option maxRecDepth 100000 in
theorem mlX6_9 : Cond.methodLink RX6 9 yX1_init ∈ gw := gw_tb 27 rfl rfl
set_option maxRecDepth 100000 in
theorem obX1_3 : Cond.methodLink RX1 3 Lib.objectInit ∈ gw := gw_tb 30 rfl rfl
set_option maxRecDepth 100000 in
theorem nwX1_9 : NWc RX1 9 5 4 [.int 0, .int 0, .int 0, .null] := ⟨RX5, TX5, tyX5, iX5, tyX5_ok, gw_tb 31 rfl rfl, gw_tb 33 rfl rfl, gw_tb 3 rfl rfl, rfl, fun j hj => by rcases (show j = 0 ∨ j = 1 ∨ j = 2 ∨ j = 3 by omega) with rfl | rfl | rfl | rfl <;> rfl⟩
set_option maxRecDepth 100000 in
theorem clX1_9 : Cond.classLink RX1 9 "HearsaySeeds$Text" ∈ gw := gw_tb 31 rfl rfl
set_option maxRecDepth 100000 in
theorem obX5_3 : Cond.methodLink RX5 3 Lib.objectInit ∈ gw := gw_tb 37 rfl rfl
set_option maxRecDepth 100000 in
theorem fX5_9 : PR RX5 9 5 3 (.array (.int)) := ⟨RX5, TX5, 4, tyX5, iX5, tyX5_ok, nmX5, gw_tb 45 rfl rfl, rfl, by decide, rfl, rfl, rfl⟩
set_option maxRecDepth 100000 in
theorem fX1_11 : PR RX1 11 1 0 (.array (.object "HearsaySeeds$Text")) := ⟨RX1, TX1, 3, tyX1, iX1, tyX1_ok, nmX1, gw_tb 57 rfl rfl, rfl, by decide, rfl, rfl, rfl⟩
set_option maxRecDepth 100000 in
theorem fX1_17 : PR RX1 17 1 1 (.array (.int)) := ⟨RX1, TX1, 3, tyX1, iX1, tyX1_ok, nmX1, gw_tb 59 rfl rfl, rfl, by decide, rfl, rfl, rfl⟩
set_option maxRecDepth 100000 in
theorem fX1_21 : PR RX1 21 1 2 (.array (.int)) := ⟨RX1, TX1, 3, tyX1, iX1, tyX1_ok, nmX1, gw_tb 62 rfl rfl, rfl, by decide, rfl, rfl, rfl⟩
set_option maxRecDepth 100000 in
theorem nwX6_16 : NWc RX6 16 2 11 [.null, .int 0, .null, .int 0, .int 0, .int 0, .int 0, .null, .int 0, .int 0, .int 0] := ⟨RX2, TX2, tyX2, iX2, tyX2_ok, gw_tb 70 rfl rfl, gw_tb 71 rfl rfl, gw_tb 4 rfl rfl, rfl, fun j hj => by rcases (show j = 0 ∨ j = 1 ∨ j = 2 ∨ j = 3 ∨ j = 4 ∨ j = 5 ∨ j = 6 ∨ j = 7 ∨ j = 8 ∨ j = 9 ∨ j = 10 by omega) with rfl | rfl | rfl | rfl | rfl | rfl | rfl | rfl | rfl | rfl | rfl <;> rfl⟩
set_option maxRecDepth 100000 in
theorem clX6_16 : Cond.classLink RX6 16 "HearsaySeeds$Reader" ∈ gw := gw_tb 70 rfl rfl
set_option maxRecDepth 100000 in
theorem obX2_3 : Cond.methodLink RX2 3 Lib.objectInit ∈ gw := gw_tb 75 rfl rfl
set_option maxRecDepth 100000 in
theorem nwX2_15 : NWc RX2 15 5 4 [.int 0, .int 0, .int 0, .null] := ⟨RX5, TX5, tyX5, iX5, tyX5_ok, gw_tb 76 rfl rfl, gw_tb 33 rfl rfl, gw_tb 3 rfl rfl, rfl, fun j hj => by rcases (show j = 0 ∨ j = 1 ∨ j = 2 ∨ j = 3 by omega) with rfl | rfl | rfl | rfl <;> rfl⟩
set_option maxRecDepth 100000 in
theorem clX2_15 : Cond.classLink RX2 15 "HearsaySeeds$Text" ∈ gw := gw_tb 76 rfl rfl
set_option maxRecDepth 100000 in
theorem fX2_9 : PR RX2 9 2 0 (.array (.byte)) := ⟨RX2, TX2, 11, tyX2, iX2, tyX2_ok, nmX2, gw_tb 78 rfl rfl, rfl, by decide, rfl, rfl, rfl⟩
set_option maxRecDepth 100000 in
theorem fX2_18 : PR RX2 18 2 2 (.object "HearsaySeeds$Text") := ⟨RX2, TX2, 11, tyX2, iX2, tyX2_ok, nmX2, gw_tb 81 rfl rfl, rfl, by decide, rfl, rfl, rfl⟩
set_option maxRecDepth 100000 in
theorem fX2_22 : PR RX2 22 2 7 (.array (.int)) := ⟨RX2, TX2, 11, tyX2, iX2, tyX2_ok, nmX2, gw_tb 87 rfl rfl, rfl, by decide, rfl, rfl, rfl⟩
set_option maxRecDepth 100000 in
theorem nwX6_23 : NWc RX6 23 0 16 [.null, .int 0, .null, .null, .null, .null, .null, .null, .null, .int 0, .int 0, .int 0, .int 0, .int 0, .int 0, .null] := ⟨RX0, TX0, tyX0, iX0, tyX0_ok, gw_tb 115 rfl rfl, gw_tb 116 rfl rfl, gw_tb 5 rfl rfl, rfl, fun j hj => by rcases (show j = 0 ∨ j = 1 ∨ j = 2 ∨ j = 3 ∨ j = 4 ∨ j = 5 ∨ j = 6 ∨ j = 7 ∨ j = 8 ∨ j = 9 ∨ j = 10 ∨ j = 11 ∨ j = 12 ∨ j = 13 ∨ j = 14 ∨ j = 15 by omega) with rfl | rfl | rfl | rfl | rfl | rfl | rfl | rfl | rfl | rfl | rfl | rfl | rfl | rfl | rfl | rfl <;> rfl⟩
set_option maxRecDepth 100000 in
theorem clX6_23 : Cond.classLink RX6 23 "HearsaySeeds$County" ∈ gw := gw_tb 115 rfl rfl
set_option maxRecDepth 100000 in
theorem mlX6_25 : Cond.methodLink RX6 25 yX0_init ∈ gw := gw_tb 117 rfl rfl
set_option maxRecDepth 100000 in
theorem obX0_3 : Cond.methodLink RX0 3 Lib.objectInit ∈ gw := gw_tb 120 rfl rfl
set_option maxRecDepth 100000 in
theorem fX0_40 : PR RX0 40 0 0 (.object "HearsaySeeds$Laws") := ⟨RX0, TX0, 16, tyX0, iX0, tyX0_ok, nmX0, gw_tb 121 rfl rfl, rfl, by decide, rfl, rfl, rfl⟩
set_option maxRecDepth 100000 in
theorem fX0_9 : PR RX0 9 0 2 (.array (.int)) := ⟨RX0, TX0, 16, tyX0, iX0, tyX0_ok, nmX0, gw_tb 124 rfl rfl, rfl, by decide, rfl, rfl, rfl⟩
set_option maxRecDepth 100000 in
theorem fX0_15 : PR RX0 15 0 3 (.array (.int)) := ⟨RX0, TX0, 16, tyX0, iX0, tyX0_ok, nmX0, gw_tb 126 rfl rfl, rfl, by decide, rfl, rfl, rfl⟩
set_option maxRecDepth 100000 in
theorem fX0_18 : PR RX0 18 0 4 (.array (.int)) := ⟨RX0, TX0, 16, tyX0, iX0, tyX0_ok, nmX0, gw_tb 128 rfl rfl, rfl, by decide, rfl, rfl, rfl⟩
set_option maxRecDepth 100000 in
theorem fX0_21 : PR RX0 21 0 5 (.array (.int)) := ⟨RX0, TX0, 16, tyX0, iX0, tyX0_ok, nmX0, gw_tb 130 rfl rfl, rfl, by decide, rfl, rfl, rfl⟩
set_option maxRecDepth 100000 in
theorem fX0_24 : PR RX0 24 0 6 (.array (.int)) := ⟨RX0, TX0, 16, tyX0, iX0, tyX0_ok, nmX0, gw_tb 132 rfl rfl, rfl, by decide, rfl, rfl, rfl⟩
set_option maxRecDepth 100000 in
theorem fX0_27 : PR RX0 27 0 7 (.array (.int)) := ⟨RX0, TX0, 16, tyX0, iX0, tyX0_ok, nmX0, gw_tb 133 rfl rfl, rfl, by decide, rfl, rfl, rfl⟩
set_option maxRecDepth 100000 in
theorem fX0_30 : PR RX0 30 0 8 (.array (.int)) := ⟨RX0, TX0, 16, tyX0, iX0, tyX0_ok, nmX0, gw_tb 135 rfl rfl, rfl, by decide, rfl, rfl, rfl⟩
set_option maxRecDepth 100000 in
theorem fX0_37 : PR RX0 37 0 15 (.array (.int)) := ⟨RX0, TX0, 16, tyX0, iX0, tyX0_ok, nmX0, gw_tb 149 rfl rfl, rfl, by decide, rfl, rfl, rfl⟩
set_option maxRecDepth 100000 in
theorem nwX6_38 : NWc RX6 38 3 3 [.int 0, .int 0, .null] := ⟨RX3, TX3, tyX3, iX3, tyX3_ok, gw_tb 184 rfl rfl, gw_tb 186 rfl rfl, gw_tb 6 rfl rfl, rfl, fun j hj => by rcases (show j = 0 ∨ j = 1 ∨ j = 2 by omega) with rfl | rfl | rfl <;> rfl⟩
set_option maxRecDepth 100000 in
theorem clX6_38 : Cond.classLink RX6 38 "HearsaySeeds$Sheet" ∈ gw := gw_tb 184 rfl rfl
set_option maxRecDepth 100000 in
theorem obX3_3 : Cond.methodLink RX3 3 Lib.objectInit ∈ gw := gw_tb 190 rfl rfl
set_option maxRecDepth 100000 in
theorem fX3_15 : PR RX3 15 3 2 (.array (.int)) := ⟨RX3, TX3, 3, tyX3, iX3, tyX3_ok, nmX3, gw_tb 195 rfl rfl, rfl, by decide, rfl, rfl, rfl⟩
set_option maxRecDepth 100000 in
theorem nwX6_45 : NWc RX6 45 4 4 [.int 0, .int 0, .int 0, .null] := ⟨RX4, TX4, tyX4, iX4, tyX4_ok, gw_tb 204 rfl rfl, gw_tb 206 rfl rfl, gw_tb 7 rfl rfl, rfl, fun j hj => by rcases (show j = 0 ∨ j = 1 ∨ j = 2 ∨ j = 3 by omega) with rfl | rfl | rfl | rfl <;> rfl⟩
set_option maxRecDepth 100000 in
theorem clX6_45 : Cond.classLink RX6 45 "HearsaySeeds$Slot" ∈ gw := gw_tb 204 rfl rfl
set_option maxRecDepth 100000 in
theorem obX4_3 : Cond.methodLink RX4 3 Lib.objectInit ∈ gw := gw_tb 210 rfl rfl
set_option maxRecDepth 100000 in
theorem nwX4_15 : NWc RX4 15 3 3 [.int 0, .int 0, .null] := ⟨RX3, TX3, tyX3, iX3, tyX3_ok, gw_tb 211 rfl rfl, gw_tb 186 rfl rfl, gw_tb 6 rfl rfl, rfl, fun j hj => by rcases (show j = 0 ∨ j = 1 ∨ j = 2 by omega) with rfl | rfl | rfl <;> rfl⟩
set_option maxRecDepth 100000 in
theorem clX4_15 : Cond.classLink RX4 15 "HearsaySeeds$Sheet" ∈ gw := gw_tb 211 rfl rfl
set_option maxRecDepth 100000 in
theorem fX4_18 : PR RX4 18 4 3 (.object "HearsaySeeds$Sheet") := ⟨RX4, TX4, 4, tyX4, iX4, tyX4_ok, nmX4, gw_tb 217 rfl rfl, rfl, by decide, rfl, rfl, rfl⟩
set_option maxRecDepth 100000 in
theorem fX6_10 : PR RX6 10 6 0 (.object "HearsaySeeds$Laws") := ⟨RX6, TX6, 11, tyX6, iX6, tyX6_ok, nmX6, gw_tb 228 rfl rfl, rfl, by decide, rfl, rfl, rfl⟩
set_option maxRecDepth 100000 in
theorem fX6_19 : PR RX6 19 6 1 (.object "HearsaySeeds$Reader") := ⟨RX6, TX6, 11, tyX6, iX6, tyX6_ok, nmX6, gw_tb 229 rfl rfl, rfl, by decide, rfl, rfl, rfl⟩
set_option maxRecDepth 100000 in
theorem fX6_28 : PR RX6 28 6 2 (.object "HearsaySeeds$County") := ⟨RX6, TX6, 11, tyX6, iX6, tyX6_ok, nmX6, gw_tb 230 rfl rfl, rfl, by decide, rfl, rfl, rfl⟩
set_option maxRecDepth 100000 in
theorem fX6_32 : PR RX6 32 6 3 (.object "HearsaySeeds$County") := ⟨RX6, TX6, 11, tyX6, iX6, tyX6_ok, nmX6, gw_tb 231 rfl rfl, rfl, by decide, rfl, rfl, rfl⟩
set_option maxRecDepth 100000 in
theorem fX6_35 : PR RX6 35 6 4 (.object "HearsaySeeds$County") := ⟨RX6, TX6, 11, tyX6, iX6, tyX6_ok, nmX6, gw_tb 232 rfl rfl, rfl, by decide, rfl, rfl, rfl⟩
set_option maxRecDepth 100000 in
theorem fX6_40 : PR RX6 40 6 6 (.array (.object "HearsaySeeds$Sheet")) := ⟨RX6, TX6, 11, tyX6, iX6, tyX6_ok, nmX6, gw_tb 234 rfl rfl, rfl, by decide, rfl, rfl, rfl⟩
set_option maxRecDepth 100000 in
theorem fX6_47 : PR RX6 47 6 7 (.array (.object "HearsaySeeds$Slot")) := ⟨RX6, TX6, 11, tyX6, iX6, tyX6_ok, nmX6, gw_tb 235 rfl rfl, rfl, by decide, rfl, rfl, rfl⟩
set_option maxRecDepth 100000 in
theorem fX6_52 : PR RX6 52 6 8 (.array (.int)) := ⟨RX6, TX6, 11, tyX6, iX6, tyX6_ok, nmX6, gw_tb 236 rfl rfl, rfl, by decide, rfl, rfl, rfl⟩
set_option maxRecDepth 100000 in
theorem fX6_56 : PR RX6 56 6 10 (.array (.int)) := ⟨RX6, TX6, 11, tyX6, iX6, tyX6_ok, nmX6, gw_tb 238 rfl rfl, rfl, by decide, rfl, rfl, rfl⟩
set_option maxRecDepth 100000 in
theorem nwL_10 : NWc RL 10 7 33 [.null, .null, .null, .int 0, .null, .null, .int 0, .int 0, .int 0, .int 0, .int 0, .int 0, .int 0, .null, .null, .null, .int 0, .int 0, .null, .int 0, .null, .null, .null, .null, .null, .null, .null, .null, .null, .null, .null, .null, .int 0] := ⟨RX7, TX7, tyX7, iX7, tyX7_ok, gw_tb 838 rfl rfl, gw_tb 839 rfl rfl, gw_tb 8 rfl rfl, rfl, fun j hj => by rcases (show j = 0 ∨ j = 1 ∨ j = 2 ∨ j = 3 ∨ j = 4 ∨ j = 5 ∨ j = 6 ∨ j = 7 ∨ j = 8 ∨ j = 9 ∨ j = 10 ∨ j = 11 ∨ j = 12 ∨ j = 13 ∨ j = 14 ∨ j = 15 ∨ j = 16 ∨ j = 17 ∨ j = 18 ∨ j = 19 ∨ j = 20 ∨ j = 21 ∨ j = 22 ∨ j = 23 ∨ j = 24 ∨ j = 25 ∨ j = 26 ∨ j = 27 ∨ j = 28 ∨ j = 29 ∨ j = 30 ∨ j = 31 ∨ j = 32 by omega) with rfl | rfl | rfl | rfl | rfl | rfl | rfl | rfl | rfl | rfl | rfl | rfl | rfl | rfl | rfl | rfl | rfl | rfl | rfl | rfl | rfl | rfl | rfl | rfl | rfl | rfl | rfl | rfl | rfl | rfl | rfl | rfl | rfl <;> rfl⟩
set_option maxRecDepth 100000 in
theorem clL_10 : Cond.classLink RL 10 "HearsaySeedsModel" ∈ gw := gw_tb 838 rfl rfl
set_option maxRecDepth 100000 in
theorem mlL_12 : Cond.methodLink RL 12 yX7_init ∈ gw := gw_tb 840 rfl rfl
set_option maxRecDepth 100000 in
theorem obX7_1 : Cond.methodLink RX7 1 Lib.objectInit ∈ gw := gw_tb 843 rfl rfl
set_option maxRecDepth 100000 in
theorem fX7_9 : PR RX7 9 7 0 (.array (.int)) := ⟨RX7, TX7, 33, tyX7, iX7, tyX7_ok, nmX7, gw_tb 844 rfl rfl, rfl, by decide, rfl, rfl, rfl⟩
set_option maxRecDepth 100000 in
theorem fX7_13 : PR RX7 13 7 1 (.array (.int)) := ⟨RX7, TX7, 33, tyX7, iX7, tyX7_ok, nmX7, gw_tb 845 rfl rfl, rfl, by decide, rfl, rfl, rfl⟩
set_option maxRecDepth 100000 in
theorem fX7_16 : PR RX7 16 7 2 (.array (.int)) := ⟨RX7, TX7, 33, tyX7, iX7, tyX7_ok, nmX7, gw_tb 846 rfl rfl, rfl, by decide, rfl, rfl, rfl⟩
set_option maxRecDepth 100000 in
theorem fX7_19 : PR RX7 19 7 4 (.array (.int)) := ⟨RX7, TX7, 33, tyX7, iX7, tyX7_ok, nmX7, gw_tb 848 rfl rfl, rfl, by decide, rfl, rfl, rfl⟩
set_option maxRecDepth 100000 in
theorem fX7_22 : PR RX7 22 7 5 (.array (.int)) := ⟨RX7, TX7, 33, tyX7, iX7, tyX7_ok, nmX7, gw_tb 849 rfl rfl, rfl, by decide, rfl, rfl, rfl⟩
set_option maxRecDepth 100000 in
theorem fX7_25 : PR RX7 25 7 13 (.array (.char)) := ⟨RX7, TX7, 33, tyX7, iX7, tyX7_ok, nmX7, gw_tb 857 rfl rfl, rfl, by decide, rfl, rfl, rfl⟩
set_option maxRecDepth 100000 in
theorem fX7_29 : PR RX7 29 7 14 (.array (.int)) := ⟨RX7, TX7, 33, tyX7, iX7, tyX7_ok, nmX7, gw_tb 858 rfl rfl, rfl, by decide, rfl, rfl, rfl⟩
set_option maxRecDepth 100000 in
theorem fX7_32 : PR RX7 32 7 15 (.array (.int)) := ⟨RX7, TX7, 33, tyX7, iX7, tyX7_ok, nmX7, gw_tb 859 rfl rfl, rfl, by decide, rfl, rfl, rfl⟩
set_option maxRecDepth 100000 in
theorem fX7_35 : PR RX7 35 7 18 (.array (.int)) := ⟨RX7, TX7, 33, tyX7, iX7, tyX7_ok, nmX7, gw_tb 862 rfl rfl, rfl, by decide, rfl, rfl, rfl⟩
set_option maxRecDepth 100000 in
theorem fX7_38 : PR RX7 38 7 20 (.array (.boolean)) := ⟨RX7, TX7, 33, tyX7, iX7, tyX7_ok, nmX7, gw_tb 864 rfl rfl, rfl, by decide, rfl, rfl, rfl⟩
set_option maxRecDepth 100000 in
theorem fX7_42 : PR RX7 42 7 21 (.array (.int)) := ⟨RX7, TX7, 33, tyX7, iX7, tyX7_ok, nmX7, gw_tb 865 rfl rfl, rfl, by decide, rfl, rfl, rfl⟩
set_option maxRecDepth 100000 in
theorem fX7_45 : PR RX7 45 7 22 (.array (.int)) := ⟨RX7, TX7, 33, tyX7, iX7, tyX7_ok, nmX7, gw_tb 866 rfl rfl, rfl, by decide, rfl, rfl, rfl⟩
set_option maxRecDepth 100000 in
theorem fX7_48 : PR RX7 48 7 23 (.array (.int)) := ⟨RX7, TX7, 33, tyX7, iX7, tyX7_ok, nmX7, gw_tb 867 rfl rfl, rfl, by decide, rfl, rfl, rfl⟩
set_option maxRecDepth 100000 in
theorem fX7_51 : PR RX7 51 7 24 (.array (.int)) := ⟨RX7, TX7, 33, tyX7, iX7, tyX7_ok, nmX7, gw_tb 868 rfl rfl, rfl, by decide, rfl, rfl, rfl⟩
set_option maxRecDepth 100000 in
theorem fX7_54 : PR RX7 54 7 25 (.array (.int)) := ⟨RX7, TX7, 33, tyX7, iX7, tyX7_ok, nmX7, gw_tb 869 rfl rfl, rfl, by decide, rfl, rfl, rfl⟩
set_option maxRecDepth 100000 in
theorem fX7_57 : PR RX7 57 7 26 (.array (.int)) := ⟨RX7, TX7, 33, tyX7, iX7, tyX7_ok, nmX7, gw_tb 870 rfl rfl, rfl, by decide, rfl, rfl, rfl⟩
set_option maxRecDepth 100000 in
theorem fX7_60 : PR RX7 60 7 27 (.array (.int)) := ⟨RX7, TX7, 33, tyX7, iX7, tyX7_ok, nmX7, gw_tb 871 rfl rfl, rfl, by decide, rfl, rfl, rfl⟩
set_option maxRecDepth 100000 in
theorem fX7_63 : PR RX7 63 7 28 (.array (.int)) := ⟨RX7, TX7, 33, tyX7, iX7, tyX7_ok, nmX7, gw_tb 872 rfl rfl, rfl, by decide, rfl, rfl, rfl⟩
set_option maxRecDepth 100000 in
theorem fX7_66 : PR RX7 66 7 29 (.array (.int)) := ⟨RX7, TX7, 33, tyX7, iX7, tyX7_ok, nmX7, gw_tb 873 rfl rfl, rfl, by decide, rfl, rfl, rfl⟩
set_option maxRecDepth 100000 in
theorem fX7_69 : PR RX7 69 7 30 (.array (.int)) := ⟨RX7, TX7, 33, tyX7, iX7, tyX7_ok, nmX7, gw_tb 874 rfl rfl, rfl, by decide, rfl, rfl, rfl⟩
set_option maxRecDepth 100000 in
theorem fX7_72 : PR RX7 72 7 31 (.array (.int)) := ⟨RX7, TX7, 33, tyX7, iX7, tyX7_ok, nmX7, gw_tb 875 rfl rfl, rfl, by decide, rfl, rfl, rfl⟩
set_option maxRecDepth 100000 in
theorem ci0 : CI0 yX0_init cX0_init 2 1 := ⟨gw_tb 119 rfl rfl, gw_tb 5 rfl rfl, gw_tb 118 rfl rfl, rfl, by decide +kernel, by decide⟩
set_option maxRecDepth 100000 in
theorem ci1 : CI0 yX1_init cX1_init 2 0 := ⟨gw_tb 29 rfl rfl, gw_tb 2 rfl rfl, gw_tb 28 rfl rfl, rfl, by decide +kernel, by decide⟩
set_option maxRecDepth 100000 in
theorem ci2 : CI0 yX2_init cX2_init 1 0 := ⟨gw_tb 74 rfl rfl, gw_tb 4 rfl rfl, gw_tb 73 rfl rfl, rfl, by decide +kernel, by decide⟩
set_option maxRecDepth 100000 in
theorem ci3 : CI0 yX3_init cX3_init 1 0 := ⟨gw_tb 189 rfl rfl, gw_tb 6 rfl rfl, gw_tb 188 rfl rfl, rfl, by decide +kernel, by decide⟩
set_option maxRecDepth 100000 in
theorem ci4 : CI0 yX4_init cX4_init 1 0 := ⟨gw_tb 209 rfl rfl, gw_tb 7 rfl rfl, gw_tb 208 rfl rfl, rfl, by decide +kernel, by decide⟩
set_option maxRecDepth 100000 in
theorem ci5 : CI0 yX5_init cX5_init 1 0 := ⟨gw_tb 36 rfl rfl, gw_tb 3 rfl rfl, gw_tb 35 rfl rfl, rfl, by decide +kernel, by decide⟩
set_option maxRecDepth 100000 in
theorem ci6 : CI0 yX6_init cX6_init 2 0 := ⟨gw_tb 21 rfl rfl, gw_tb 1 rfl rfl, gw_tb 20 rfl rfl, rfl, by decide +kernel, by decide⟩
set_option maxRecDepth 100000 in
theorem ci7 : CI0 yX7_init cX7_init 1 0 := ⟨gw_tb 842 rfl rfl, gw_tb 8 rfl rfl, gw_tb 841 rfl rfl, rfl, by decide +kernel, by decide⟩
