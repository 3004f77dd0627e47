/-! the memory as numbers: cell a, place j; the shape of the cells never changes after the constructors -/
abbrev mm : Type := Nat → Nat → Int32
abbrev av : Type := Int32 ⊕ Nat
abbrev shp : Type := (Nat × Nat × Option (Nat → Nat)) ⊕ (Nat × List (Option Nat))

def shL : List shp := [
  .inr (6, [some 1, some 33, some 38, some 47, some 56, none, some 65, some 74, some 90, none, some 91]),
  .inr (1, [some 2, some 3, some 4]),
  .inl (4, 14, some (fun j => 5 + 2 * j)),
  .inl (0, 6, none),
  .inl (0, 96, none),
  .inr (5, [none, none, none, some 6]),
  .inl (0, 96, none),
  .inr (5, [none, none, none, some 8]),
  .inl (0, 96, none),
  .inr (5, [none, none, none, some 10]),
  .inl (0, 96, none),
  .inr (5, [none, none, none, some 12]),
  .inl (0, 96, none),
  .inr (5, [none, none, none, some 14]),
  .inl (0, 96, none),
  .inr (5, [none, none, none, some 16]),
  .inl (0, 96, none),
  .inr (5, [none, none, none, some 18]),
  .inl (0, 96, none),
  .inr (5, [none, none, none, some 20]),
  .inl (0, 96, none),
  .inr (5, [none, none, none, some 22]),
  .inl (0, 96, none),
  .inr (5, [none, none, none, some 24]),
  .inl (0, 96, none),
  .inr (5, [none, none, none, some 26]),
  .inl (0, 96, none),
  .inr (5, [none, none, none, some 28]),
  .inl (0, 96, none),
  .inr (5, [none, none, none, some 30]),
  .inl (0, 96, none),
  .inr (5, [none, none, none, some 32]),
  .inl (0, 96, none),
  .inr (2, [some 34, none, some 35, none, none, none, none, some 37, none, none, none]),
  .inl (1, 96, none),
  .inr (5, [none, none, none, some 36]),
  .inl (0, 96, none),
  .inl (0, 96, none),
  .inr (0, [some 1, none, some 39, some 40, some 41, some 42, some 43, some 44, some 45, none, none, none, none, none, none, some 46]),
  .inl (0, 8, none),
  .inl (0, 8, none),
  .inl (0, 8, none),
  .inl (0, 8, none),
  .inl (0, 48, none),
  .inl (0, 6, none),
  .inl (0, 6, none),
  .inl (0, 3, none),
  .inr (0, [some 1, none, some 48, some 49, some 50, some 51, some 52, some 53, some 54, none, none, none, none, none, none, some 55]),
  .inl (0, 8, none),
  .inl (0, 8, none),
  .inl (0, 8, none),
  .inl (0, 8, none),
  .inl (0, 48, none),
  .inl (0, 6, none),
  .inl (0, 6, none),
  .inl (0, 3, none),
  .inr (0, [some 1, none, some 57, some 58, some 59, some 60, some 61, some 62, some 63, none, none, none, none, none, none, some 64]),
  .inl (0, 8, none),
  .inl (0, 8, none),
  .inl (0, 8, none),
  .inl (0, 8, none),
  .inl (0, 48, none),
  .inl (0, 6, none),
  .inl (0, 6, none),
  .inl (0, 3, none),
  .inl (5, 4, some (fun j => 66 + 2 * j)),
  .inr (3, [none, none, some 67]),
  .inl (0, 24, none),
  .inr (3, [none, none, some 69]),
  .inl (0, 24, none),
  .inr (3, [none, none, some 71]),
  .inl (0, 24, none),
  .inr (3, [none, none, some 73]),
  .inl (0, 24, none),
  .inl (6, 5, some (fun j => 75 + 3 * j)),
  .inr (4, [none, none, none, some 76]),
  .inr (3, [none, none, some 77]),
  .inl (0, 24, none),
  .inr (4, [none, none, none, some 79]),
  .inr (3, [none, none, some 80]),
  .inl (0, 24, none),
  .inr (4, [none, none, none, some 82]),
  .inr (3, [none, none, some 83]),
  .inl (0, 24, none),
  .inr (4, [none, none, none, some 85]),
  .inr (3, [none, none, some 86]),
  .inl (0, 24, none),
  .inr (4, [none, none, none, some 88]),
  .inr (3, [none, none, some 89]),
  .inl (0, 24, none),
  .inl (0, 60, none),
  .inl (0, 6, none),
  .inr (7, [some 93, some 94, some 95, none, some 96, some 97, none, none, none, none, none, none, none, some 98, some 99, some 100, none, none, some 101, none, some 102, some 103, some 104, some 105, some 106, some 107, some 108, some 109, some 110, some 111, some 112, some 113, none]),
  .inl (0, 1471, none),
  .inl (0, 1471, none),
  .inl (0, 1471, none),
  .inl (0, 6, none),
  .inl (0, 96, none),
  .inl (3, 11, none),
  .inl (0, 4, none),
  .inl (0, 96, none),
  .inl (0, 96, none),
  .inl (2, 10, none),
  .inl (0, 96, none),
  .inl (0, 4, none),
  .inl (0, 4, none),
  .inl (0, 4, none),
  .inl (0, 96, none),
  .inl (0, 5, none),
  .inl (0, 5, none),
  .inl (0, 5, none),
  .inl (0, 120, none),
  .inl (0, 24, none),
  .inl (0, 60, none)
]
def sh (a : Nat) : shp := shL.getD a (.inr (99, []))
abbrev NC : Nat := 114
theorem sh_lt {a : Nat} {x : shp} (h : sh a = x) (hx : x ≠ .inr (99, [])) : a < NC := by
  by_cases ha : a < NC
  · exact ha
  · exfalso; apply hx; rw [← h]; unfold sh; rw [List.getD_eq_getElem?_getD, List.getElem?_eq_none (by show 114 ≤ a; exact Nat.le_of_not_lt ha)]; rfl
theorem sh_0 : sh 0 = .inr (6, [some 1, some 33, some 38, some 47, some 56, none, some 65, some 74, some 90, none, some 91]) := rfl
theorem sh_1 : sh 1 = .inr (1, [some 2, some 3, some 4]) := rfl
theorem sh_2 : sh 2 = .inl (4, 14, some (fun j => 5 + 2 * j)) := rfl
theorem sh_3 : sh 3 = .inl (0, 6, none) := rfl
theorem sh_4 : sh 4 = .inl (0, 96, none) := rfl
theorem sh_5 : sh 5 = .inr (5, [none, none, none, some 6]) := rfl
theorem sh_6 : sh 6 = .inl (0, 96, none) := rfl
theorem sh_7 : sh 7 = .inr (5, [none, none, none, some 8]) := rfl
theorem sh_8 : sh 8 = .inl (0, 96, none) := rfl
theorem sh_9 : sh 9 = .inr (5, [none, none, none, some 10]) := rfl
theorem sh_10 : sh 10 = .inl (0, 96, none) := rfl
theorem sh_11 : sh 11 = .inr (5, [none, none, none, some 12]) := rfl
theorem sh_12 : sh 12 = .inl (0, 96, none) := rfl
theorem sh_13 : sh 13 = .inr (5, [none, none, none, some 14]) := rfl
theorem sh_14 : sh 14 = .inl (0, 96, none) := rfl
theorem sh_15 : sh 15 = .inr (5, [none, none, none, some 16]) := rfl
theorem sh_16 : sh 16 = .inl (0, 96, none) := rfl
theorem sh_17 : sh 17 = .inr (5, [none, none, none, some 18]) := rfl
theorem sh_18 : sh 18 = .inl (0, 96, none) := rfl
theorem sh_19 : sh 19 = .inr (5, [none, none, none, some 20]) := rfl
theorem sh_20 : sh 20 = .inl (0, 96, none) := rfl
theorem sh_21 : sh 21 = .inr (5, [none, none, none, some 22]) := rfl
theorem sh_22 : sh 22 = .inl (0, 96, none) := rfl
theorem sh_23 : sh 23 = .inr (5, [none, none, none, some 24]) := rfl
theorem sh_24 : sh 24 = .inl (0, 96, none) := rfl
theorem sh_25 : sh 25 = .inr (5, [none, none, none, some 26]) := rfl
theorem sh_26 : sh 26 = .inl (0, 96, none) := rfl
theorem sh_27 : sh 27 = .inr (5, [none, none, none, some 28]) := rfl
theorem sh_28 : sh 28 = .inl (0, 96, none) := rfl
theorem sh_29 : sh 29 = .inr (5, [none, none, none, some 30]) := rfl
theorem sh_30 : sh 30 = .inl (0, 96, none) := rfl
theorem sh_31 : sh 31 = .inr (5, [none, none, none, some 32]) := rfl
theorem sh_32 : sh 32 = .inl (0, 96, none) := rfl
theorem sh_33 : sh 33 = .inr (2, [some 34, none, some 35, none, none, none, none, some 37, none, none, none]) := rfl
theorem sh_34 : sh 34 = .inl (1, 96, none) := rfl
theorem sh_35 : sh 35 = .inr (5, [none, none, none, some 36]) := rfl
theorem sh_36 : sh 36 = .inl (0, 96, none) := rfl
theorem sh_37 : sh 37 = .inl (0, 96, none) := rfl
theorem sh_38 : sh 38 = .inr (0, [some 1, none, some 39, some 40, some 41, some 42, some 43, some 44, some 45, none, none, none, none, none, none, some 46]) := rfl
theorem sh_39 : sh 39 = .inl (0, 8, none) := rfl
theorem sh_40 : sh 40 = .inl (0, 8, none) := rfl
theorem sh_41 : sh 41 = .inl (0, 8, none) := rfl
theorem sh_42 : sh 42 = .inl (0, 8, none) := rfl
theorem sh_43 : sh 43 = .inl (0, 48, none) := rfl
theorem sh_44 : sh 44 = .inl (0, 6, none) := rfl
theorem sh_45 : sh 45 = .inl (0, 6, none) := rfl
theorem sh_46 : sh 46 = .inl (0, 3, none) := rfl
theorem sh_47 : sh 47 = .inr (0, [some 1, none, some 48, some 49, some 50, some 51, some 52, some 53, some 54, none, none, none, none, none, none, some 55]) := rfl
theorem sh_48 : sh 48 = .inl (0, 8, none) := rfl
theorem sh_49 : sh 49 = .inl (0, 8, none) := rfl
theorem sh_50 : sh 50 = .inl (0, 8, none) := rfl
theorem sh_51 : sh 51 = .inl (0, 8, none) := rfl
theorem sh_52 : sh 52 = .inl (0, 48, none) := rfl
theorem sh_53 : sh 53 = .inl (0, 6, none) := rfl
theorem sh_54 : sh 54 = .inl (0, 6, none) := rfl
theorem sh_55 : sh 55 = .inl (0, 3, none) := rfl
theorem sh_56 : sh 56 = .inr (0, [some 1, none, some 57, some 58, some 59, some 60, some 61, some 62, some 63, none, none, none, none, none, none, some 64]) := rfl
theorem sh_57 : sh 57 = .inl (0, 8, none) := rfl
theorem sh_58 : sh 58 = .inl (0, 8, none) := rfl
theorem sh_59 : sh 59 = .inl (0, 8, none) := rfl
theorem sh_60 : sh 60 = .inl (0, 8, none) := rfl
theorem sh_61 : sh 61 = .inl (0, 48, none) := rfl
theorem sh_62 : sh 62 = .inl (0, 6, none) := rfl
theorem sh_63 : sh 63 = .inl (0, 6, none) := rfl
theorem sh_64 : sh 64 = .inl (0, 3, none) := rfl
theorem sh_65 : sh 65 = .inl (5, 4, some (fun j => 66 + 2 * j)) := rfl
theorem sh_66 : sh 66 = .inr (3, [none, none, some 67]) := rfl
theorem sh_67 : sh 67 = .inl (0, 24, none) := rfl
theorem sh_68 : sh 68 = .inr (3, [none, none, some 69]) := rfl
theorem sh_69 : sh 69 = .inl (0, 24, none) := rfl
theorem sh_70 : sh 70 = .inr (3, [none, none, some 71]) := rfl
theorem sh_71 : sh 71 = .inl (0, 24, none) := rfl
theorem sh_72 : sh 72 = .inr (3, [none, none, some 73]) := rfl
theorem sh_73 : sh 73 = .inl (0, 24, none) := rfl
theorem sh_74 : sh 74 = .inl (6, 5, some (fun j => 75 + 3 * j)) := rfl
theorem sh_75 : sh 75 = .inr (4, [none, none, none, some 76]) := rfl
theorem sh_76 : sh 76 = .inr (3, [none, none, some 77]) := rfl
theorem sh_77 : sh 77 = .inl (0, 24, none) := rfl
theorem sh_78 : sh 78 = .inr (4, [none, none, none, some 79]) := rfl
theorem sh_79 : sh 79 = .inr (3, [none, none, some 80]) := rfl
theorem sh_80 : sh 80 = .inl (0, 24, none) := rfl
theorem sh_81 : sh 81 = .inr (4, [none, none, none, some 82]) := rfl
theorem sh_82 : sh 82 = .inr (3, [none, none, some 83]) := rfl
theorem sh_83 : sh 83 = .inl (0, 24, none) := rfl
theorem sh_84 : sh 84 = .inr (4, [none, none, none, some 85]) := rfl
theorem sh_85 : sh 85 = .inr (3, [none, none, some 86]) := rfl
theorem sh_86 : sh 86 = .inl (0, 24, none) := rfl
theorem sh_87 : sh 87 = .inr (4, [none, none, none, some 88]) := rfl
theorem sh_88 : sh 88 = .inr (3, [none, none, some 89]) := rfl
theorem sh_89 : sh 89 = .inl (0, 24, none) := rfl
theorem sh_90 : sh 90 = .inl (0, 60, none) := rfl
theorem sh_91 : sh 91 = .inl (0, 6, none) := rfl
theorem sh_92 : sh 92 = .inr (7, [some 93, some 94, some 95, none, some 96, some 97, none, none, none, none, none, none, none, some 98, some 99, some 100, none, none, some 101, none, some 102, some 103, some 104, some 105, some 106, some 107, some 108, some 109, some 110, some 111, some 112, some 113, none]) := rfl
theorem sh_93 : sh 93 = .inl (0, 1471, none) := rfl
theorem sh_94 : sh 94 = .inl (0, 1471, none) := rfl
theorem sh_95 : sh 95 = .inl (0, 1471, none) := rfl
theorem sh_96 : sh 96 = .inl (0, 6, none) := rfl
theorem sh_97 : sh 97 = .inl (0, 96, none) := rfl
theorem sh_98 : sh 98 = .inl (3, 11, none) := rfl
theorem sh_99 : sh 99 = .inl (0, 4, none) := rfl
theorem sh_100 : sh 100 = .inl (0, 96, none) := rfl
theorem sh_101 : sh 101 = .inl (0, 96, none) := rfl
theorem sh_102 : sh 102 = .inl (2, 10, none) := rfl
theorem sh_103 : sh 103 = .inl (0, 96, none) := rfl
theorem sh_104 : sh 104 = .inl (0, 4, none) := rfl
theorem sh_105 : sh 105 = .inl (0, 4, none) := rfl
theorem sh_106 : sh 106 = .inl (0, 4, none) := rfl
theorem sh_107 : sh 107 = .inl (0, 96, none) := rfl
theorem sh_108 : sh 108 = .inl (0, 5, none) := rfl
theorem sh_109 : sh 109 = .inl (0, 5, none) := rfl
theorem sh_110 : sh 110 = .inl (0, 5, none) := rfl
theorem sh_111 : sh 111 = .inl (0, 120, none) := rfl
theorem sh_112 : sh 112 = .inl (0, 24, none) := rfl
theorem sh_113 : sh 113 = .inl (0, 60, none) := rfl

/-- the env: where the cells lie (ad), the array classes, the classes and the slots of fields -/
abbrev ev : Type := Launch × Nat × (Nat → Nat) × (Nat → ClassId) × va_G
abbrev eL (E : ev) : Launch := E.1
abbrev eB (E : ev) : Nat := E.2.1
abbrev eA (E : ev) : Nat → Nat := E.2.2.1
abbrev eC (E : ev) : Nat → ClassId := E.2.2.2.1
abbrev eD (E : ev) : va_G := E.2.2.2.2
def rv (E : ev) : av → Value
  | .inl x => .int x
  | .inr k => .ref (eA E k)
def wa (M : mm) (a : Nat) (f : Nat → Int32) : mm := fun a' => if a' = a then f else M a'
def wr (M : mm) (a j : Nat) (v : Int32) : mm := wa M a (upd (M a) j v)
def fv (E : ev) (M : mm) (a : Nat) (q : Option Nat × Nat) : Value := match q.1 with
  | none => .int (M a q.2)
  | some r => .ref (eA E r)
def ceS (E : ev) (M : mm) (a : Nat) (x : shp) : va_E := match x with
  | .inl (t, n, none) => .inl (eC E t, n, .inl (M a))
  | .inl (t, n, some g) => .inl (eC E t, n, .inr (.inr (.inr (.inr (fun j => some (eA E (g j)))))))
  | .inr (ci, fs) => .inr (ci, fs.zipIdx.map (fv E M a))
def ce (E : ev) (M : mm) (a : Nat) : va_E := ceS E M a (sh a)
def wl (E : ev) (M : mm) : va_W := (List.range NC).map fun k => (eA E k, ce E M k)
theorem wl_at (E : ev) (M : mm) {a : Nat} (h : a < NC) : (wl E M)[a]? = some (eA E a, ce E M a) := by
  unfold wl
  rw [List.getElem?_map, List.getElem?_range h]
  rfl
theorem wl_len (E : ev) (M : mm) : (wl E M).length = NC := by unfold wl; simp
theorem wl_set (E : ev) (M M' : mm) {a : Nat} {x : va_E} (hx : ce E M' a = x) (ho : ∀ b, b ≠ a → M' b = M b) : (wl E M).set a (eA E a, x) = wl E M' := by
  apply List.ext_getElem?
  intro i
  by_cases hi : i < NC
  · by_cases e : i = a
    · subst e
      rw [List.getElem?_set_self (by rw [wl_len]; exact hi), wl_at E M' hi, hx]
    · rw [List.getElem?_set_ne (Ne.symm e), wl_at E M hi, wl_at E M' hi]
      have hm := ho i e
      have hc : ce E M i = ce E M' i := by
        unfold ce
        generalize sh i = q
        unfold ceS
        split
        · rw [hm]
        · rfl
        · congr 1
          have hf : fv E M i = fv E M' i := by
            funext q
            unfold fv
            rw [hm]
          rw [hf]
      rw [hc]
  · rw [List.getElem?_eq_none (by rw [List.length_set, wl_len]; exact Nat.le_of_not_lt hi), List.getElem?_eq_none (by rw [wl_len]; exact Nat.le_of_not_lt hi)]
theorem wa_ne {M : mm} {a b : Nat} {f : Nat → Int32} (h : b ≠ a) : wa M a f b = M b := if_neg h
theorem wa_at {M : mm} {a : Nat} {f : Nat → Int32} : wa M a f a = f := if_pos rfl
theorem wr_ne {M : mm} {a b j : Nat} {v : Int32} (h : b ≠ a) : wr M a j v b = M b := if_neg h
theorem wr_at {M : mm} {a j : Nat} {v : Int32} : wr M a j v a = upd (M a) j v := if_pos rfl
theorem wl_arr (E : ev) (M : mm) {a t n j : Nat} {v : Int32} (h : sh a = .inl (t, n, none)) : (wl E M).set a (eA E a, .inl (eC E t, n, .inl (upd (M a) j v))) = wl E (wr M a j v) := by
  refine wl_set E M _ ?_ (fun b hb => wr_ne hb)
  unfold ce
  rw [h]
  show Sum.inl (eC E t, n, Sum.inl (wr M a j v a)) = _
  rw [wr_at]
theorem wl_arrA (E : ev) (M : mm) {a t n : Nat} {f : Nat → Int32} (h : sh a = .inl (t, n, none)) : (wl E M).set a (eA E a, .inl (eC E t, n, .inl f)) = wl E (wa M a f) := by
  refine wl_set E M _ ?_ (fun b hb => wa_ne hb)
  unfold ce
  rw [h]
  show Sum.inl (eC E t, n, Sum.inl (wa M a f a)) = _
  rw [wa_at]
theorem fz_at (E : ev) (M : mm) (a : Nat) {fs : List (Option Nat)} {k : Nat} {x : Option Nat} (h : fs[k]? = some x) : (fs.zipIdx.map (fv E M a))[k]? = some (fv E M a (x, k)) := by
  rw [List.getElem?_map, List.getElem?_zipIdx, h]
  simp
theorem fz_set (E : ev) (M : mm) {a k : Nat} {fs : List (Option Nat)} {v : Int32} (h : fs[k]? = some none) : (fs.zipIdx.map (fv E M a)).set k (.int v) = fs.zipIdx.map (fv E (wr M a k v) a) := by
  apply List.ext_getElem?
  intro i
  have hk := (List.getElem?_eq_some_iff.mp h).1
  by_cases hi : i < fs.length
  · obtain ⟨x, hx⟩ : ∃ x, fs[i]? = some x := ⟨_, List.getElem?_eq_getElem hi⟩
    rw [fz_at E (wr M a k v) a hx]
    by_cases e : i = k
    · subst e
      rw [List.getElem?_set_self (by simp; exact hk)]
      rw [h] at hx
      cases hx
      show _ = some (Value.int (wr M a i v a i))
      rw [wr_at]
      simp [upd]
    · rw [List.getElem?_set_ne (Ne.symm e), fz_at E M a hx]
      unfold fv
      cases x with
      | none => show some (Value.int (M a i)) = some (Value.int (wr M a k v a i)); rw [wr_at]; simp [upd, e]
      | some r => rfl
  · rw [List.getElem?_eq_none (by simp; omega), List.getElem?_eq_none (by simp; omega)]
theorem wl_obj (E : ev) (M : mm) {a ci k : Nat} {fs : List (Option Nat)} {v : Int32} (h : sh a = .inr (ci, fs)) (hk : fs[k]? = some none) : (wl E M).set a (eA E a, .inr (ci, (fs.zipIdx.map (fv E M a)).set k (.int v))) = wl E (wr M a k v) := by
  refine wl_set E M _ ?_ (fun b hb => wr_ne hb)
  unfold ce
  rw [h, fz_set E M hk]
  rfl
def aty : List FieldType := [.int, .byte, .boolean, .char, .object "HearsaySeeds$Text", .object "HearsaySeeds$Sheet", .object "HearsaySeeds$Slot"]
def tys (E : ev) : List (ClassId × FieldType) := aty.zipIdx.map fun q => (eC E q.2, q.1)
theorem tys_at (E : ev) {t : Nat} {ty : FieldType} (h : aty[t]? = some ty) : (tys E)[t]? = some (eC E t, ty) := by
  unfold tys
  rw [List.getElem?_map, List.getElem?_zipIdx, h]
  simp
def Az (E : ev) : Nat → Prop := fun q => eB E ≤ q
/-- where the cells lie: apart, from eB on -/
def Lie (E : ev) : Prop := (∀ i j, i < NC → j < NC → eA E i = eA E j → i = j) ∧ ∀ k, k < NC → eB E ≤ eA E k
theorem wl_D {E : ev} (h : Lie E) (M : mm) : va_D (Az E) (wl E M) := by
  have key : ∀ (i : Nat) (q : Nat × va_E), (wl E M)[i]? = some q → i < NC ∧ q.1 = eA E i := by
    intro i q hq
    have hl : i < NC := by have := (List.getElem?_eq_some_iff.mp hq).1; rw [wl_len] at this; exact this
    rw [wl_at E M hl] at hq
    cases hq
    exact ⟨hl, rfl⟩
  refine ⟨fun i j x y hi hj hxy => ?_, fun k q hk => ?_⟩
  · obtain ⟨a0, a1⟩ := key i x hi
    obtain ⟨b0, b1⟩ := key j y hj
    exact h.1 i j a0 b0 (by rw [← a1, ← b1, hxy])
  · obtain ⟨a0, a1⟩ := key k q hk
    show eB E ≤ q.1
    rw [a1]
    exact h.2 k a0
def tabW : Nat → Int32 := fun j => ([2, 1, 5, 3, 4, 1] : List Int32).getD j 0
def tabA : Nat → Int32 := fun j => ([-1, 0, 0, 1, 2, 0] : List Int32).getD j 0
/-- the two static tables: cells 200 and 201 -/
def SF (E : ev) (s : State) (H : Heap) : Prop := (va_Z "HearsaySeeds" "WEIGHS" "[I" (.ref (eA E 200)) (Az E) s H ∧ va_T .int (eA E 200) 6 (fun j => .int (tabW j)) (Az E) s H) ∧ (va_Z "HearsaySeeds" "ABOVE" "[I" (.ref (eA E 201)) (Az E) s H ∧ va_T .int (eA E 201) 6 (fun j => .int (tabA j)) (Az E) s H)
theorem SF.moved {E : ev} {u U : State} {H : Heap} (hvm : u.vm.Alike U.vm) (h : SF E u H) : SF E U H := ⟨⟨h.1.1.moved hvm, h.1.2.moved hvm⟩, ⟨h.2.1.moved hvm, h.2.2.moved hvm⟩⟩
theorem SF.kept {E : ev} {s : State} {H H1 : Heap} (h : SF E s H) (hq : ∀ a : Nat, a < H.size → ¬ Az E a → H1[a]? = H[a]?) : SF E s H1 := ⟨⟨h.1.1.kept hq, h.1.2.kept hq⟩, ⟨h.2.1.kept hq, h.2.2.kept hq⟩⟩
/-- the links between nest mates that are met behind the constructors -/
def NW (s : State) : Prop := va_Nw (.methodLinkNest RX0 129 yX6_within "HearsaySeeds") s ∧ va_Nw (.fieldLinkNest RX0 94 "HearsaySeeds" "WEIGHS" "[I" "HearsaySeeds") s
/-- the six String constants: cells 210 on, their bytes 220 on -/
def lenS : List Nat := [4, 3, 4, 4, 6, 3]
def bytS : List (List Int32) := [[119, 97, 110, 116], [102, 101, 101], [102, 105, 110, 101], [116, 110, 115, 118], [32, 32, 32, 32, 119, 103], [116, 32, 115]]
def RS (E : ev) (s : State) : Prop := vk_R RX2 87 "want" (eA E 210) s ∧ vk_R RX2 93 "fee" (eA E 211) s ∧ vk_R RX2 95 "fine" (eA E 212) s ∧ vk_R RX2 131 "tnsv" (eA E 213) s ∧ vk_R RX2 133 "    wg" (eA E 214) s ∧ vk_R RX2 135 "t s" (eA E 215) s
def ST (E : ev) (s : State) (H : Heap) : Prop := vk_S 6 lenS bytS (fun i => eA E (210 + i)) (fun i => eA E (220 + i)) (Az E) s H ∧ va_Z "java/lang/String" "COMPACT_STRINGS" "Z" (.int 1) (Az E) s H ∧ va_Zq "jdk/internal/util/Preconditions" "SIOOBE_FORMATTER" "Ljava/util/function/BiFunction;" (Az E) s H
def SX (E : ev) (s : State) (H : Heap) : Prop := SF E s H ∧ NW s ∧ ST E s H ∧ RS E s
theorem SX.warm {E : ev} {s U : State} {H : Heap} (hW : s.WarmedH U.vm) (h : SX E s H) : SX E U H :=
  ⟨h.1.moved hW.alike, ⟨va_Nw.warmM hW h.2.1.1, va_Nw.warmF hW h.2.1.2⟩, ⟨h.2.2.1.1.moved hW.alike, h.2.2.1.2.1.moved hW.alike, h.2.2.1.2.2.moved hW.alike⟩, ⟨h.2.2.2.1.warm hW, h.2.2.2.2.1.warm hW, h.2.2.2.2.2.1.warm hW, h.2.2.2.2.2.2.1.warm hW, h.2.2.2.2.2.2.2.1.warm hW, h.2.2.2.2.2.2.2.2.warm hW⟩⟩
theorem SX.same {E : ev} {u U : State} {H : Heap} (hv : U.vm = u.vm) (h : SX E u H) : SX E U H := by
  have ha : u.vm.Alike U.vm := by rw [hv]; exact Vm.Alike.refl _
  exact ⟨h.1.moved ha, ⟨va_Nw.same rfl hv.symm h.2.1.1, va_Nw.same rfl hv.symm h.2.1.2⟩, ⟨h.2.2.1.1.moved ha, h.2.2.1.2.1.moved ha, h.2.2.1.2.2.moved ha⟩, ⟨h.2.2.2.1.same hv, h.2.2.2.2.1.same hv, h.2.2.2.2.2.1.same hv, h.2.2.2.2.2.2.1.same hv, h.2.2.2.2.2.2.2.1.same hv, h.2.2.2.2.2.2.2.2.same hv⟩⟩
theorem SX.kept {E : ev} {s : State} {H H1 : Heap} (h : SX E s H) (hq : ∀ a : Nat, a < H.size → ¬ Az E a → H1[a]? = H[a]?) : SX E s H1 := ⟨h.1.kept hq, h.2.1, ⟨h.2.2.1.1.kept hq, h.2.2.1.2.1.kept hq, h.2.2.1.2.2.kept hq⟩, h.2.2.2⟩
def lz (E : ev) : Nat → List (Option av) → List (Nat × Value)
  | _, [] => []
  | i, none :: l => lz E (i + 1) l
  | i, some v :: l => (i, rv E v) :: lz E (i + 1) l
theorem lz_mem (E : ev) {q : Nat × Value} : ∀ (L : List (Option av)) (i : Nat), q ∈ lz E i L ↔ ∃ (j : Nat) (v : av), L[j]? = some (some v) ∧ q = (i + j, rv E v)
  | [], i => by simp [lz]
  | none :: l, i => by
    unfold lz
    rw [lz_mem E l (i + 1)]
    constructor
    · rintro ⟨j, v, h, e⟩
      exact ⟨j + 1, v, by simpa using h, by rw [e]; congr 1; omega⟩
    · rintro ⟨j, v, h, e⟩
      cases j with
      | zero => simp at h
      | succ j => exact ⟨j, v, by simpa using h, by rw [e]; congr 1; omega⟩
  | some w :: l, i => by
    unfold lz
    rw [List.mem_cons, lz_mem E l (i + 1)]
    constructor
    · rintro (e | ⟨j, v, h, e⟩)
      · exact ⟨0, w, by simp, e⟩
      · exact ⟨j + 1, v, by simpa using h, by rw [e]; congr 1; omega⟩
    · rintro ⟨j, v, h, e⟩
      cases j with
      | zero => simp at h; subst h; exact Or.inl e
      | succ j => exact Or.inr ⟨j, v, by simpa using h, by rw [e]; congr 1; omega⟩
def lh (E : ev) (ls : Array Slot) (nL : Nat) (L : List (Option av)) : Prop := lv_has ls nL (lz E 0 L)
theorem lh_at {E : ev} {ls : Array Slot} {nL i : Nat} {L : List (Option av)} {v : av} (h : lh E ls nL L) (hi : L[i]? = some (some v)) : ls[i]? = some (.val (rv E v)) := h.2.2 (i, rv E v) ((lz_mem E L 0).mpr ⟨i, v, hi, by simp⟩)
theorem rv_cat (E : ev) (v : av) : (rv E v).category = 1 := by cases v <;> rfl
theorem lh_set {E : ev} {ls' : Array Slot} {nL i : Nat} {L : List (Option av)} {v : av} (h : lv_has ls' nL ((i, rv E v) :: (lz E 0 L).filter (fun q => !(q.1 == i) && !(q.1 + 1 == i && q.2.category == 2)))) : lh E ls' nL (L.set i (some v)) := by
  refine ⟨h.1, h.2.1, fun q hq => h.2.2 q ?_⟩
  obtain ⟨j, w, hj, rfl⟩ := (lz_mem E _ 0).mp hq
  by_cases e : j = i
  · subst e
    rw [List.getElem?_set] at hj
    simp at hj
    obtain ⟨-, rfl⟩ := hj
    simp
  · rw [List.getElem?_set_ne (Ne.symm e)] at hj
    refine List.mem_cons_of_mem _ (List.mem_filter.mpr ⟨(lz_mem E L 0).mpr ⟨j, w, hj, rfl⟩, ?_⟩)
    have hc : ¬ (rv E w).category = 2 := by rw [rv_cat]; decide
    simp [e, hc]
theorem lh_sub {E : ev} {ls : Array Slot} {nL : Nat} {L L' : List (Option av)} (h : lh E ls nL L) (hs : ∀ (i : Nat) (v : av), L'[i]? = some (some v) → L[i]? = some (some v)) : lh E ls nL L' := by
  refine ⟨h.1, h.2.1, fun q hq => h.2.2 q ?_⟩
  obtain ⟨j, w, hj, rfl⟩ := (lz_mem E _ 0).mp hq
  exact (lz_mem E L 0).mpr ⟨j, w, hs j w hj, rfl⟩
def rm (d : Nat) : Room := { frames := d, cells := 0, slots := 0, locals := 32 * d }
abbrev qcT : Type := Array Value → State → Outcome → State → Prop
/-- what holds of the machine within a method y of code cc -/
def Cx (E : ev) (p : Program) (s : State) (m : MethodId) (args : Array Value) (meth : Method) (c : Code) (y : MethodName) (cc : ByteArray) (nL : Nat) (ret : Option FieldType) : Prop :=
  p.tables.exec = Jvm.exec ∧ c.code = cc ∧ c.maxLocals = nL ∧ meth.sig.returnType = ret ∧ s.vm.findClass y.cls = some m.cls ∧ (∀ w ∈ gw, w.before args s = true) ∧ meth.locks = false ∧ va_K (eD E) vwCl (tys E) s ∧ SX E s s.heap ∧ Lie E
def V (E : ev) (d : Nat) (y : MethodName) (cc : ByteArray) (nL : Nat) (ret : Option FieldType) (Qc : qcT) (pc : Nat) (L : List (Option av)) (S : List av) (M : mm) : Prop :=
  ∀ (p : Program) (e : Env) (s : State) (m : MethodId) (args : Array Value) (below : List Frame) (meth : Method) (c : Code) (H : Heap) (locs : List Loc) (ls : Array Slot),
    Cx E p s m args meth c y cc nL ret → va_P (eD E) vwCl (wl E M) H → va_S (Az E) s.heap H locs → lh E ls nL L →
    W p (eL E) e (rm d) s m args below meth c H locs 0 0 (MQ below Qc args s 0 0 (Az E)) (F0 m pc ls (S.map (rv E)))
section VR
variable {E : ev} {d : Nat} {y : MethodName} {cc : ByteArray} {nL : Nat} {ret : Option FieldType} {Qc : qcT} {pc : Nat} {L : List (Option av)} {S : List av} {M : mm}
theorem v_sub {L' : List (Option av)} (hs : ∀ (i : Nat) (v : av), L'[i]? = some (some v) → L[i]? = some (some v)) (k : V E d y cc nL ret Qc pc L' S M) : V E d y cc nL ret Qc pc L S M :=
  fun p e s m args below meth c H locs ls C hP hS hl => k p e s m args below meth c H locs ls C hP hS (lh_sub hl hs)
theorem v_top {x : Int32} (k : ∀ z, z = x → V E d y cc nL ret Qc pc L (.inl z :: S) M) : V E d y cc nL ret Qc pc L (.inl x :: S) M := k x rfl
theorem v_eq {x z : Int32} (h : x = z) (k : V E d y cc nL ret Qc pc L (.inl z :: S) M) : V E d y cc nL ret Qc pc L (.inl x :: S) M := h ▸ k
theorem v_mem {M' : mm} (h : M = M') (k : V E d y cc nL ret Qc pc L S M') : V E d y cc nL ret Qc pc L S M := h ▸ k

theorem v_iconst {n : Int} {x : Int32} (hd : decode cc pc = .ok (.iconst n, 1)) (hv : Int32.ofInt n = x) (k : V E d y cc nL ret Qc (pc + 1) L (.inl x :: S) M) : V E d y cc nL ret Qc pc L S M := by
  intro p e s m args below meth c H locs ls C hP hS hl
  exact lv_iconst C.1 C.2.1 hd hv (k p e s m args below meth c H locs ls C hP hS hl)
theorem v_bipush {n : Int} {x : Int32} (hd : decode cc pc = .ok (.bipush n, 2)) (hv : (Int8.ofInt n).toInt32 = x) (k : V E d y cc nL ret Qc (pc + 2) L (.inl x :: S) M) : V E d y cc nL ret Qc pc L S M := by
  intro p e s m args below meth c H locs ls C hP hS hl
  exact lv_bipush C.1 C.2.1 hd hv (k p e s m args below meth c H locs ls C hP hS hl)
theorem v_sipush {n : Int} {x : Int32} (hd : decode cc pc = .ok (.sipush n, 3)) (hv : (Int16.ofInt n).toInt32 = x) (k : V E d y cc nL ret Qc (pc + 3) L (.inl x :: S) M) : V E d y cc nL ret Qc pc L S M := by
  intro p e s m args below meth c H locs ls C hP hS hl
  exact lv_sipush C.1 C.2.1 hd hv (k p e s m args below meth c H locs ls C hP hS hl)
theorem v_ldc {i : Nat} {x : Int32} (hd : decode cc pc = .ok (.ldc i, 2)) (hw : Cond.constant y.cls i x ∈ gw) (k : V E d y cc nL ret Qc (pc + 2) L (.inl x :: S) M) : V E d y cc nL ret Qc pc L S M := by
  intro p e s m args below meth c H locs ls C hP hS hl
  exact lv_ldc C.1 C.2.1 C.2.2.2.2.1 (C.2.2.2.2.2.1 _ hw) hd (k p e s m args below meth c H locs ls C hP hS hl)
theorem v_ldcw {i : Nat} {x : Int32} (hd : decode cc pc = .ok (.ldc_w i, 3)) (hw : Cond.constant y.cls i x ∈ gw) (k : V E d y cc nL ret Qc (pc + 3) L (.inl x :: S) M) : V E d y cc nL ret Qc pc L S M := by
  intro p e s m args below meth c H locs ls C hP hS hl
  exact lv_ldcw C.1 C.2.1 C.2.2.2.2.1 (C.2.2.2.2.2.1 _ hw) hd (k p e s m args below meth c H locs ls C hP hS hl)
theorem v_iadd {x z : Int32} (hd : decode cc pc = .ok (.iadd, 1)) (k : V E d y cc nL ret Qc (pc + 1) L (.inl (x + z) :: S) M) : V E d y cc nL ret Qc pc L (.inl z :: .inl x :: S) M := by
  intro p e s m args below meth c H locs ls C hP hS hl
  exact lv_iadd C.1 C.2.1 hd (k p e s m args below meth c H locs ls C hP hS hl)
theorem v_isub {x z : Int32} (hd : decode cc pc = .ok (.isub, 1)) (k : V E d y cc nL ret Qc (pc + 1) L (.inl (x - z) :: S) M) : V E d y cc nL ret Qc pc L (.inl z :: .inl x :: S) M := by
  intro p e s m args below meth c H locs ls C hP hS hl
  exact lv_isub C.1 C.2.1 hd (k p e s m args below meth c H locs ls C hP hS hl)
theorem v_imul {x z : Int32} (hd : decode cc pc = .ok (.imul, 1)) (k : V E d y cc nL ret Qc (pc + 1) L (.inl (x * z) :: S) M) : V E d y cc nL ret Qc pc L (.inl z :: .inl x :: S) M := by
  intro p e s m args below meth c H locs ls C hP hS hl
  exact lv_imul C.1 C.2.1 hd (k p e s m args below meth c H locs ls C hP hS hl)
theorem v_iand {x z : Int32} (hd : decode cc pc = .ok (.iand, 1)) (k : V E d y cc nL ret Qc (pc + 1) L (.inl (x &&& z) :: S) M) : V E d y cc nL ret Qc pc L (.inl z :: .inl x :: S) M := by
  intro p e s m args below meth c H locs ls C hP hS hl
  exact lv_iand C.1 C.2.1 hd (k p e s m args below meth c H locs ls C hP hS hl)
theorem v_ior {x z : Int32} (hd : decode cc pc = .ok (.ior, 1)) (k : V E d y cc nL ret Qc (pc + 1) L (.inl (x ||| z) :: S) M) : V E d y cc nL ret Qc pc L (.inl z :: .inl x :: S) M := by
  intro p e s m args below meth c H locs ls C hP hS hl
  exact lv_ior C.1 C.2.1 hd (k p e s m args below meth c H locs ls C hP hS hl)
theorem v_ishl {x z : Int32} (hd : decode cc pc = .ok (.ishl, 1)) (k : V E d y cc nL ret Qc (pc + 1) L (.inl (x <<< (z &&& 31)) :: S) M) : V E d y cc nL ret Qc pc L (.inl z :: .inl x :: S) M := by
  intro p e s m args below meth c H locs ls C hP hS hl
  exact lv_ishl C.1 C.2.1 hd (k p e s m args below meth c H locs ls C hP hS hl)
theorem v_ishr {x z : Int32} (hd : decode cc pc = .ok (.ishr, 1)) (k : V E d y cc nL ret Qc (pc + 1) L (.inl (x >>> (z &&& 31)) :: S) M) : V E d y cc nL ret Qc pc L (.inl z :: .inl x :: S) M := by
  intro p e s m args below meth c H locs ls C hP hS hl
  exact lv_ishr C.1 C.2.1 hd (k p e s m args below meth c H locs ls C hP hS hl)
theorem v_idiv {x z : Int32} (hd : decode cc pc = .ok (.idiv, 1)) (hz : ¬ z = 0) (k : V E d y cc nL ret Qc (pc + 1) L (.inl (x / z) :: S) M) : V E d y cc nL ret Qc pc L (.inl z :: .inl x :: S) M := by
  intro p e s m args below meth c H locs ls C hP hS hl
  exact lv_idiv C.1 C.2.1 hd hz (k p e s m args below meth c H locs ls C hP hS hl)
theorem v_irem {x z : Int32} (hd : decode cc pc = .ok (.irem, 1)) (hz : ¬ z = 0) (k : V E d y cc nL ret Qc (pc + 1) L (.inl (x - x / z * z) :: S) M) : V E d y cc nL ret Qc pc L (.inl z :: .inl x :: S) M := by
  intro p e s m args below meth c H locs ls C hP hS hl
  exact lv_irem C.1 C.2.1 hd hz (k p e s m args below meth c H locs ls C hP hS hl)
theorem v_ineg {x : Int32} (hd : decode cc pc = .ok (.ineg, 1)) (k : V E d y cc nL ret Qc (pc + 1) L (.inl (-x) :: S) M) : V E d y cc nL ret Qc pc L (.inl x :: S) M := by
  intro p e s m args below meth c H locs ls C hP hS hl
  exact lv_ineg C.1 C.2.1 hd (k p e s m args below meth c H locs ls C hP hS hl)
theorem v_iushr {x z : Int32} (hd : decode cc pc = .ok (.iushr, 1)) (k : V E d y cc nL ret Qc (pc + 1) L (.inl ((x.toUInt32 >>> (z.toUInt32 &&& Int32.toUInt32 31)).toInt32) :: S) M) : V E d y cc nL ret Qc pc L (.inl z :: .inl x :: S) M := by
  intro p e s m args below meth c H locs ls C hP hS hl
  exact lv_iushr C.1 C.2.1 hd rfl (k p e s m args below meth c H locs ls C hP hS hl)
theorem v_i2b {x : Int32} (hd : decode cc pc = .ok (.i2b, 1)) (k : V E d y cc nL ret Qc (pc + 1) L (.inl x.toInt8.toInt32 :: S) M) : V E d y cc nL ret Qc pc L (.inl x :: S) M := by
  intro p e s m args below meth c H locs ls C hP hS hl
  exact lv_i2b C.1 C.2.1 hd rfl (k p e s m args below meth c H locs ls C hP hS hl)
theorem v_i2s {x : Int32} (hd : decode cc pc = .ok (.i2s, 1)) (k : V E d y cc nL ret Qc (pc + 1) L (.inl x.toInt16.toInt32 :: S) M) : V E d y cc nL ret Qc pc L (.inl x :: S) M := by
  intro p e s m args below meth c H locs ls C hP hS hl
  exact lv_i2s C.1 C.2.1 hd rfl (k p e s m args below meth c H locs ls C hP hS hl)
theorem v_i2c {x : Int32} (hd : decode cc pc = .ok (.i2c, 1)) (k : V E d y cc nL ret Qc (pc + 1) L (.inl (x.toUInt32 % 65536).toInt32 :: S) M) : V E d y cc nL ret Qc pc L (.inl x :: S) M := by
  intro p e s m args below meth c H locs ls C hP hS hl
  exact lv_i2c C.1 C.2.1 hd rfl (k p e s m args below meth c H locs ls C hP hS hl)
theorem v_dup {v : av} (hd : decode cc pc = .ok (.dup, 1)) (k : V E d y cc nL ret Qc (pc + 1) L (v :: v :: S) M) : V E d y cc nL ret Qc pc L (v :: S) M := by
  intro p e s m args below meth c H locs ls C hP hS hl
  exact lv_dup C.1 C.2.1 hd (rv_cat E v) (k p e s m args below meth c H locs ls C hP hS hl)
theorem v_dup2 {v u : av} (hd : decode cc pc = .ok (.dup2, 1)) (k : V E d y cc nL ret Qc (pc + 1) L (v :: u :: v :: u :: S) M) : V E d y cc nL ret Qc pc L (v :: u :: S) M := by
  intro p e s m args below meth c H locs ls C hP hS hl
  exact lv_dup2_11 C.1 C.2.1 hd (rv_cat E v) (rv_cat E u) (k p e s m args below meth c H locs ls C hP hS hl)
theorem v_pop {v : av} (hd : decode cc pc = .ok (.pop, 1)) (k : V E d y cc nL ret Qc (pc + 1) L S M) : V E d y cc nL ret Qc pc L (v :: S) M := by
  intro p e s m args below meth c H locs ls C hP hS hl
  exact lv_pop C.1 C.2.1 hd (rv_cat E v) (k p e s m args below meth c H locs ls C hP hS hl)
theorem v_ild0 {x : Int32} {l : List (Option av)} (hd : decode cc pc = .ok (.iload_n 0, 1)) (k : V E d y cc nL ret Qc (pc + 1) (some (.inl x) :: l) (.inl x :: S) M) : V E d y cc nL ret Qc pc (some (.inl x) :: l) S M := by
  intro p e s m args below meth c H locs ls C hP hS hl
  exact lv_iload_n C.1 C.2.1 hd rfl (lh_at hl (i := 0) (v := .inl x) rfl) (k p e s m args below meth c H locs ls C hP hS hl)
theorem v_ist0 {x : Int32} {o : Option av} {l : List (Option av)} (hd : decode cc pc = .ok (.istore_n 0, 1)) (hn : 0 < nL) (k : V E d y cc nL ret Qc (pc + 1) (some (.inl x) :: l) S M) : V E d y cc nL ret Qc pc (o :: l) (.inl x :: S) M := by
  intro p e s m args below meth c H locs ls C hP hS hl
  exact lv_istore_n C.1 C.2.1 hd rfl hl hn rfl (fun ls' hl' => k p e s m args below meth c H locs ls' C hP hS (lh_set (v := .inl x) (i := 0) (L := o :: l) hl'))
theorem v_ald0 {x : Nat} {l : List (Option av)} (hd : decode cc pc = .ok (.aload_n 0, 1)) (k : V E d y cc nL ret Qc (pc + 1) (some (.inr x) :: l) (.inr x :: S) M) : V E d y cc nL ret Qc pc (some (.inr x) :: l) S M := by
  intro p e s m args below meth c H locs ls C hP hS hl
  exact lv_aload_n C.1 C.2.1 hd rfl (lh_at hl (i := 0) (v := .inr x) rfl) (k p e s m args below meth c H locs ls C hP hS hl)
theorem v_ast0 {x : Nat} {o : Option av} {l : List (Option av)} (hd : decode cc pc = .ok (.astore_n 0, 1)) (hn : 0 < nL) (k : V E d y cc nL ret Qc (pc + 1) (some (.inr x) :: l) S M) : V E d y cc nL ret Qc pc (o :: l) (.inr x :: S) M := by
  intro p e s m args below meth c H locs ls C hP hS hl
  exact lv_astore_n C.1 C.2.1 hd rfl hl hn rfl (fun ls' hl' => k p e s m args below meth c H locs ls' C hP hS (lh_set (v := .inr x) (i := 0) (L := o :: l) hl'))
theorem v_iinc0 {x : Int32} {n : Int} {l : List (Option av)} (hd : decode cc pc = .ok (.iinc 0 n, 3)) (hn : 0 < nL) (k : V E d y cc nL ret Qc (pc + 3) (some (.inl (x + Int32.ofInt n)) :: l) S M) : V E d y cc nL ret Qc pc (some (.inl x) :: l) S M := by
  intro p e s m args below meth c H locs ls C hP hS hl
  obtain ⟨z, hz⟩ := List.getElem?_of_mem ((lz_mem E (some (.inl x) :: l) 0).mpr ⟨0, .inl x, rfl, rfl⟩)
  exact lv_iinc (x := x) C.1 C.2.1 hd hl (k := z) (by rw [hz]; rfl) rfl hn rfl (fun ls' hl' => k p e s m args below meth c H locs ls' C hP hS (lh_set (v := .inl (x + Int32.ofInt n)) (i := 0) (L := some (.inl x) :: l) hl'))
theorem v_ild1 {l0 : Option av} {x : Int32} {l : List (Option av)} (hd : decode cc pc = .ok (.iload_n 1, 1)) (k : V E d y cc nL ret Qc (pc + 1) (l0 :: some (.inl x) :: l) (.inl x :: S) M) : V E d y cc nL ret Qc pc (l0 :: some (.inl x) :: l) S M := by
  intro p e s m args below meth c H locs ls C hP hS hl
  exact lv_iload_n C.1 C.2.1 hd rfl (lh_at hl (i := 1) (v := .inl x) rfl) (k p e s m args below meth c H locs ls C hP hS hl)
theorem v_ist1 {l0 : Option av} {x : Int32} {o : Option av} {l : List (Option av)} (hd : decode cc pc = .ok (.istore_n 1, 1)) (hn : 1 < nL) (k : V E d y cc nL ret Qc (pc + 1) (l0 :: some (.inl x) :: l) S M) : V E d y cc nL ret Qc pc (l0 :: o :: l) (.inl x :: S) M := by
  intro p e s m args below meth c H locs ls C hP hS hl
  exact lv_istore_n C.1 C.2.1 hd rfl hl hn rfl (fun ls' hl' => k p e s m args below meth c H locs ls' C hP hS (lh_set (v := .inl x) (i := 1) (L := l0 :: o :: l) hl'))
theorem v_ald1 {l0 : Option av} {x : Nat} {l : List (Option av)} (hd : decode cc pc = .ok (.aload_n 1, 1)) (k : V E d y cc nL ret Qc (pc + 1) (l0 :: some (.inr x) :: l) (.inr x :: S) M) : V E d y cc nL ret Qc pc (l0 :: some (.inr x) :: l) S M := by
  intro p e s m args below meth c H locs ls C hP hS hl
  exact lv_aload_n C.1 C.2.1 hd rfl (lh_at hl (i := 1) (v := .inr x) rfl) (k p e s m args below meth c H locs ls C hP hS hl)
theorem v_ast1 {l0 : Option av} {x : Nat} {o : Option av} {l : List (Option av)} (hd : decode cc pc = .ok (.astore_n 1, 1)) (hn : 1 < nL) (k : V E d y cc nL ret Qc (pc + 1) (l0 :: some (.inr x) :: l) S M) : V E d y cc nL ret Qc pc (l0 :: o :: l) (.inr x :: S) M := by
  intro p e s m args below meth c H locs ls C hP hS hl
  exact lv_astore_n C.1 C.2.1 hd rfl hl hn rfl (fun ls' hl' => k p e s m args below meth c H locs ls' C hP hS (lh_set (v := .inr x) (i := 1) (L := l0 :: o :: l) hl'))
theorem v_iinc1 {l0 : Option av} {x : Int32} {n : Int} {l : List (Option av)} (hd : decode cc pc = .ok (.iinc 1 n, 3)) (hn : 1 < nL) (k : V E d y cc nL ret Qc (pc + 3) (l0 :: some (.inl (x + Int32.ofInt n)) :: l) S M) : V E d y cc nL ret Qc pc (l0 :: some (.inl x) :: l) S M := by
  intro p e s m args below meth c H locs ls C hP hS hl
  obtain ⟨z, hz⟩ := List.getElem?_of_mem ((lz_mem E (l0 :: some (.inl x) :: l) 0).mpr ⟨1, .inl x, rfl, rfl⟩)
  exact lv_iinc (x := x) C.1 C.2.1 hd hl (k := z) (by rw [hz]; rfl) rfl hn rfl (fun ls' hl' => k p e s m args below meth c H locs ls' C hP hS (lh_set (v := .inl (x + Int32.ofInt n)) (i := 1) (L := l0 :: some (.inl x) :: l) hl'))
theorem v_ild2 {l0 l1 : Option av} {x : Int32} {l : List (Option av)} (hd : decode cc pc = .ok (.iload_n 2, 1)) (k : V E d y cc nL ret Qc (pc + 1) (l0 :: l1 :: some (.inl x) :: l) (.inl x :: S) M) : V E d y cc nL ret Qc pc (l0 :: l1 :: some (.inl x) :: l) S M := by
  intro p e s m args below meth c H locs ls C hP hS hl
  exact lv_iload_n C.1 C.2.1 hd rfl (lh_at hl (i := 2) (v := .inl x) rfl) (k p e s m args below meth c H locs ls C hP hS hl)
theorem v_ist2 {l0 l1 : Option av} {x : Int32} {o : Option av} {l : List (Option av)} (hd : decode cc pc = .ok (.istore_n 2, 1)) (hn : 2 < nL) (k : V E d y cc nL ret Qc (pc + 1) (l0 :: l1 :: some (.inl x) :: l) S M) : V E d y cc nL ret Qc pc (l0 :: l1 :: o :: l) (.inl x :: S) M := by
  intro p e s m args below meth c H locs ls C hP hS hl
  exact lv_istore_n C.1 C.2.1 hd rfl hl hn rfl (fun ls' hl' => k p e s m args below meth c H locs ls' C hP hS (lh_set (v := .inl x) (i := 2) (L := l0 :: l1 :: o :: l) hl'))
theorem v_ald2 {l0 l1 : Option av} {x : Nat} {l : List (Option av)} (hd : decode cc pc = .ok (.aload_n 2, 1)) (k : V E d y cc nL ret Qc (pc + 1) (l0 :: l1 :: some (.inr x) :: l) (.inr x :: S) M) : V E d y cc nL ret Qc pc (l0 :: l1 :: some (.inr x) :: l) S M := by
  intro p e s m args below meth c H locs ls C hP hS hl
  exact lv_aload_n C.1 C.2.1 hd rfl (lh_at hl (i := 2) (v := .inr x) rfl) (k p e s m args below meth c H locs ls C hP hS hl)
theorem v_ast2 {l0 l1 : Option av} {x : Nat} {o : Option av} {l : List (Option av)} (hd : decode cc pc = .ok (.astore_n 2, 1)) (hn : 2 < nL) (k : V E d y cc nL ret Qc (pc + 1) (l0 :: l1 :: some (.inr x) :: l) S M) : V E d y cc nL ret Qc pc (l0 :: l1 :: o :: l) (.inr x :: S) M := by
  intro p e s m args below meth c H locs ls C hP hS hl
  exact lv_astore_n C.1 C.2.1 hd rfl hl hn rfl (fun ls' hl' => k p e s m args below meth c H locs ls' C hP hS (lh_set (v := .inr x) (i := 2) (L := l0 :: l1 :: o :: l) hl'))
theorem v_iinc2 {l0 l1 : Option av} {x : Int32} {n : Int} {l : List (Option av)} (hd : decode cc pc = .ok (.iinc 2 n, 3)) (hn : 2 < nL) (k : V E d y cc nL ret Qc (pc + 3) (l0 :: l1 :: some (.inl (x + Int32.ofInt n)) :: l) S M) : V E d y cc nL ret Qc pc (l0 :: l1 :: some (.inl x) :: l) S M := by
  intro p e s m args below meth c H locs ls C hP hS hl
  obtain ⟨z, hz⟩ := List.getElem?_of_mem ((lz_mem E (l0 :: l1 :: some (.inl x) :: l) 0).mpr ⟨2, .inl x, rfl, rfl⟩)
  exact lv_iinc (x := x) C.1 C.2.1 hd hl (k := z) (by rw [hz]; rfl) rfl hn rfl (fun ls' hl' => k p e s m args below meth c H locs ls' C hP hS (lh_set (v := .inl (x + Int32.ofInt n)) (i := 2) (L := l0 :: l1 :: some (.inl x) :: l) hl'))
theorem v_ild3 {l0 l1 l2 : Option av} {x : Int32} {l : List (Option av)} (hd : decode cc pc = .ok (.iload_n 3, 1)) (k : V E d y cc nL ret Qc (pc + 1) (l0 :: l1 :: l2 :: some (.inl x) :: l) (.inl x :: S) M) : V E d y cc nL ret Qc pc (l0 :: l1 :: l2 :: some (.inl x) :: l) S M := by
  intro p e s m args below meth c H locs ls C hP hS hl
  exact lv_iload_n C.1 C.2.1 hd rfl (lh_at hl (i := 3) (v := .inl x) rfl) (k p e s m args below meth c H locs ls C hP hS hl)
theorem v_ist3 {l0 l1 l2 : Option av} {x : Int32} {o : Option av} {l : List (Option av)} (hd : decode cc pc = .ok (.istore_n 3, 1)) (hn : 3 < nL) (k : V E d y cc nL ret Qc (pc + 1) (l0 :: l1 :: l2 :: some (.inl x) :: l) S M) : V E d y cc nL ret Qc pc (l0 :: l1 :: l2 :: o :: l) (.inl x :: S) M := by
  intro p e s m args below meth c H locs ls C hP hS hl
  exact lv_istore_n C.1 C.2.1 hd rfl hl hn rfl (fun ls' hl' => k p e s m args below meth c H locs ls' C hP hS (lh_set (v := .inl x) (i := 3) (L := l0 :: l1 :: l2 :: o :: l) hl'))
theorem v_ald3 {l0 l1 l2 : Option av} {x : Nat} {l : List (Option av)} (hd : decode cc pc = .ok (.aload_n 3, 1)) (k : V E d y cc nL ret Qc (pc + 1) (l0 :: l1 :: l2 :: some (.inr x) :: l) (.inr x :: S) M) : V E d y cc nL ret Qc pc (l0 :: l1 :: l2 :: some (.inr x) :: l) S M := by
  intro p e s m args below meth c H locs ls C hP hS hl
  exact lv_aload_n C.1 C.2.1 hd rfl (lh_at hl (i := 3) (v := .inr x) rfl) (k p e s m args below meth c H locs ls C hP hS hl)
theorem v_ast3 {l0 l1 l2 : Option av} {x : Nat} {o : Option av} {l : List (Option av)} (hd : decode cc pc = .ok (.astore_n 3, 1)) (hn : 3 < nL) (k : V E d y cc nL ret Qc (pc + 1) (l0 :: l1 :: l2 :: some (.inr x) :: l) S M) : V E d y cc nL ret Qc pc (l0 :: l1 :: l2 :: o :: l) (.inr x :: S) M := by
  intro p e s m args below meth c H locs ls C hP hS hl
  exact lv_astore_n C.1 C.2.1 hd rfl hl hn rfl (fun ls' hl' => k p e s m args below meth c H locs ls' C hP hS (lh_set (v := .inr x) (i := 3) (L := l0 :: l1 :: l2 :: o :: l) hl'))
theorem v_iinc3 {l0 l1 l2 : Option av} {x : Int32} {n : Int} {l : List (Option av)} (hd : decode cc pc = .ok (.iinc 3 n, 3)) (hn : 3 < nL) (k : V E d y cc nL ret Qc (pc + 3) (l0 :: l1 :: l2 :: some (.inl (x + Int32.ofInt n)) :: l) S M) : V E d y cc nL ret Qc pc (l0 :: l1 :: l2 :: some (.inl x) :: l) S M := by
  intro p e s m args below meth c H locs ls C hP hS hl
  obtain ⟨z, hz⟩ := List.getElem?_of_mem ((lz_mem E (l0 :: l1 :: l2 :: some (.inl x) :: l) 0).mpr ⟨3, .inl x, rfl, rfl⟩)
  exact lv_iinc (x := x) C.1 C.2.1 hd hl (k := z) (by rw [hz]; rfl) rfl hn rfl (fun ls' hl' => k p e s m args below meth c H locs ls' C hP hS (lh_set (v := .inl (x + Int32.ofInt n)) (i := 3) (L := l0 :: l1 :: l2 :: some (.inl x) :: l) hl'))
theorem v_ild4 {l0 l1 l2 l3 : Option av} {x : Int32} {l : List (Option av)} (hd : decode cc pc = .ok (.iload 4, 2)) (k : V E d y cc nL ret Qc (pc + 2) (l0 :: l1 :: l2 :: l3 :: some (.inl x) :: l) (.inl x :: S) M) : V E d y cc nL ret Qc pc (l0 :: l1 :: l2 :: l3 :: some (.inl x) :: l) S M := by
  intro p e s m args below meth c H locs ls C hP hS hl
  exact lv_iload C.1 C.2.1 hd (lh_at hl (i := 4) (v := .inl x) rfl) (k p e s m args below meth c H locs ls C hP hS hl)
theorem v_ist4 {l0 l1 l2 l3 : Option av} {x : Int32} {o : Option av} {l : List (Option av)} (hd : decode cc pc = .ok (.istore 4, 2)) (hn : 4 < nL) (k : V E d y cc nL ret Qc (pc + 2) (l0 :: l1 :: l2 :: l3 :: some (.inl x) :: l) S M) : V E d y cc nL ret Qc pc (l0 :: l1 :: l2 :: l3 :: o :: l) (.inl x :: S) M := by
  intro p e s m args below meth c H locs ls C hP hS hl
  exact lv_istore C.1 C.2.1 hd hl hn rfl (fun ls' hl' => k p e s m args below meth c H locs ls' C hP hS (lh_set (v := .inl x) (i := 4) (L := l0 :: l1 :: l2 :: l3 :: o :: l) hl'))
theorem v_ald4 {l0 l1 l2 l3 : Option av} {x : Nat} {l : List (Option av)} (hd : decode cc pc = .ok (.aload 4, 2)) (k : V E d y cc nL ret Qc (pc + 2) (l0 :: l1 :: l2 :: l3 :: some (.inr x) :: l) (.inr x :: S) M) : V E d y cc nL ret Qc pc (l0 :: l1 :: l2 :: l3 :: some (.inr x) :: l) S M := by
  intro p e s m args below meth c H locs ls C hP hS hl
  exact lv_aload C.1 C.2.1 hd (lh_at hl (i := 4) (v := .inr x) rfl) (k p e s m args below meth c H locs ls C hP hS hl)
theorem v_ast4 {l0 l1 l2 l3 : Option av} {x : Nat} {o : Option av} {l : List (Option av)} (hd : decode cc pc = .ok (.astore 4, 2)) (hn : 4 < nL) (k : V E d y cc nL ret Qc (pc + 2) (l0 :: l1 :: l2 :: l3 :: some (.inr x) :: l) S M) : V E d y cc nL ret Qc pc (l0 :: l1 :: l2 :: l3 :: o :: l) (.inr x :: S) M := by
  intro p e s m args below meth c H locs ls C hP hS hl
  exact lv_astore C.1 C.2.1 hd hl hn rfl (fun ls' hl' => k p e s m args below meth c H locs ls' C hP hS (lh_set (v := .inr x) (i := 4) (L := l0 :: l1 :: l2 :: l3 :: o :: l) hl'))
theorem v_iinc4 {l0 l1 l2 l3 : Option av} {x : Int32} {n : Int} {l : List (Option av)} (hd : decode cc pc = .ok (.iinc 4 n, 3)) (hn : 4 < nL) (k : V E d y cc nL ret Qc (pc + 3) (l0 :: l1 :: l2 :: l3 :: some (.inl (x + Int32.ofInt n)) :: l) S M) : V E d y cc nL ret Qc pc (l0 :: l1 :: l2 :: l3 :: some (.inl x) :: l) S M := by
  intro p e s m args below meth c H locs ls C hP hS hl
  obtain ⟨z, hz⟩ := List.getElem?_of_mem ((lz_mem E (l0 :: l1 :: l2 :: l3 :: some (.inl x) :: l) 0).mpr ⟨4, .inl x, rfl, rfl⟩)
  exact lv_iinc (x := x) C.1 C.2.1 hd hl (k := z) (by rw [hz]; rfl) rfl hn rfl (fun ls' hl' => k p e s m args below meth c H locs ls' C hP hS (lh_set (v := .inl (x + Int32.ofInt n)) (i := 4) (L := l0 :: l1 :: l2 :: l3 :: some (.inl x) :: l) hl'))
theorem v_ild5 {l0 l1 l2 l3 l4 : Option av} {x : Int32} {l : List (Option av)} (hd : decode cc pc = .ok (.iload 5, 2)) (k : V E d y cc nL ret Qc (pc + 2) (l0 :: l1 :: l2 :: l3 :: l4 :: some (.inl x) :: l) (.inl x :: S) M) : V E d y cc nL ret Qc pc (l0 :: l1 :: l2 :: l3 :: l4 :: some (.inl x) :: l) S M := by
  intro p e s m args below meth c H locs ls C hP hS hl
  exact lv_iload C.1 C.2.1 hd (lh_at hl (i := 5) (v := .inl x) rfl) (k p e s m args below meth c H locs ls C hP hS hl)
theorem v_ist5 {l0 l1 l2 l3 l4 : Option av} {x : Int32} {o : Option av} {l : List (Option av)} (hd : decode cc pc = .ok (.istore 5, 2)) (hn : 5 < nL) (k : V E d y cc nL ret Qc (pc + 2) (l0 :: l1 :: l2 :: l3 :: l4 :: some (.inl x) :: l) S M) : V E d y cc nL ret Qc pc (l0 :: l1 :: l2 :: l3 :: l4 :: o :: l) (.inl x :: S) M := by
  intro p e s m args below meth c H locs ls C hP hS hl
  exact lv_istore C.1 C.2.1 hd hl hn rfl (fun ls' hl' => k p e s m args below meth c H locs ls' C hP hS (lh_set (v := .inl x) (i := 5) (L := l0 :: l1 :: l2 :: l3 :: l4 :: o :: l) hl'))
theorem v_ald5 {l0 l1 l2 l3 l4 : Option av} {x : Nat} {l : List (Option av)} (hd : decode cc pc = .ok (.aload 5, 2)) (k : V E d y cc nL ret Qc (pc + 2) (l0 :: l1 :: l2 :: l3 :: l4 :: some (.inr x) :: l) (.inr x :: S) M) : V E d y cc nL ret Qc pc (l0 :: l1 :: l2 :: l3 :: l4 :: some (.inr x) :: l) S M := by
  intro p e s m args below meth c H locs ls C hP hS hl
  exact lv_aload C.1 C.2.1 hd (lh_at hl (i := 5) (v := .inr x) rfl) (k p e s m args below meth c H locs ls C hP hS hl)
theorem v_ast5 {l0 l1 l2 l3 l4 : Option av} {x : Nat} {o : Option av} {l : List (Option av)} (hd : decode cc pc = .ok (.astore 5, 2)) (hn : 5 < nL) (k : V E d y cc nL ret Qc (pc + 2) (l0 :: l1 :: l2 :: l3 :: l4 :: some (.inr x) :: l) S M) : V E d y cc nL ret Qc pc (l0 :: l1 :: l2 :: l3 :: l4 :: o :: l) (.inr x :: S) M := by
  intro p e s m args below meth c H locs ls C hP hS hl
  exact lv_astore C.1 C.2.1 hd hl hn rfl (fun ls' hl' => k p e s m args below meth c H locs ls' C hP hS (lh_set (v := .inr x) (i := 5) (L := l0 :: l1 :: l2 :: l3 :: l4 :: o :: l) hl'))
theorem v_iinc5 {l0 l1 l2 l3 l4 : Option av} {x : Int32} {n : Int} {l : List (Option av)} (hd : decode cc pc = .ok (.iinc 5 n, 3)) (hn : 5 < nL) (k : V E d y cc nL ret Qc (pc + 3) (l0 :: l1 :: l2 :: l3 :: l4 :: some (.inl (x + Int32.ofInt n)) :: l) S M) : V E d y cc nL ret Qc pc (l0 :: l1 :: l2 :: l3 :: l4 :: some (.inl x) :: l) S M := by
  intro p e s m args below meth c H locs ls C hP hS hl
  obtain ⟨z, hz⟩ := List.getElem?_of_mem ((lz_mem E (l0 :: l1 :: l2 :: l3 :: l4 :: some (.inl x) :: l) 0).mpr ⟨5, .inl x, rfl, rfl⟩)
  exact lv_iinc (x := x) C.1 C.2.1 hd hl (k := z) (by rw [hz]; rfl) rfl hn rfl (fun ls' hl' => k p e s m args below meth c H locs ls' C hP hS (lh_set (v := .inl (x + Int32.ofInt n)) (i := 5) (L := l0 :: l1 :: l2 :: l3 :: l4 :: some (.inl x) :: l) hl'))
theorem v_ild6 {l0 l1 l2 l3 l4 l5 : Option av} {x : Int32} {l : List (Option av)} (hd : decode cc pc = .ok (.iload 6, 2)) (k : V E d y cc nL ret Qc (pc + 2) (l0 :: l1 :: l2 :: l3 :: l4 :: l5 :: some (.inl x) :: l) (.inl x :: S) M) : V E d y cc nL ret Qc pc (l0 :: l1 :: l2 :: l3 :: l4 :: l5 :: some (.inl x) :: l) S M := by
  intro p e s m args below meth c H locs ls C hP hS hl
  exact lv_iload C.1 C.2.1 hd (lh_at hl (i := 6) (v := .inl x) rfl) (k p e s m args below meth c H locs ls C hP hS hl)
theorem v_ist6 {l0 l1 l2 l3 l4 l5 : Option av} {x : Int32} {o : Option av} {l : List (Option av)} (hd : decode cc pc = .ok (.istore 6, 2)) (hn : 6 < nL) (k : V E d y cc nL ret Qc (pc + 2) (l0 :: l1 :: l2 :: l3 :: l4 :: l5 :: some (.inl x) :: l) S M) : V E d y cc nL ret Qc pc (l0 :: l1 :: l2 :: l3 :: l4 :: l5 :: o :: l) (.inl x :: S) M := by
  intro p e s m args below meth c H locs ls C hP hS hl
  exact lv_istore C.1 C.2.1 hd hl hn rfl (fun ls' hl' => k p e s m args below meth c H locs ls' C hP hS (lh_set (v := .inl x) (i := 6) (L := l0 :: l1 :: l2 :: l3 :: l4 :: l5 :: o :: l) hl'))
theorem v_ald6 {l0 l1 l2 l3 l4 l5 : Option av} {x : Nat} {l : List (Option av)} (hd : decode cc pc = .ok (.aload 6, 2)) (k : V E d y cc nL ret Qc (pc + 2) (l0 :: l1 :: l2 :: l3 :: l4 :: l5 :: some (.inr x) :: l) (.inr x :: S) M) : V E d y cc nL ret Qc pc (l0 :: l1 :: l2 :: l3 :: l4 :: l5 :: some (.inr x) :: l) S M := by
  intro p e s m args below meth c H locs ls C hP hS hl
  exact lv_aload C.1 C.2.1 hd (lh_at hl (i := 6) (v := .inr x) rfl) (k p e s m args below meth c H locs ls C hP hS hl)
theorem v_ast6 {l0 l1 l2 l3 l4 l5 : Option av} {x : Nat} {o : Option av} {l : List (Option av)} (hd : decode cc pc = .ok (.astore 6, 2)) (hn : 6 < nL) (k : V E d y cc nL ret Qc (pc + 2) (l0 :: l1 :: l2 :: l3 :: l4 :: l5 :: some (.inr x) :: l) S M) : V E d y cc nL ret Qc pc (l0 :: l1 :: l2 :: l3 :: l4 :: l5 :: o :: l) (.inr x :: S) M := by
  intro p e s m args below meth c H locs ls C hP hS hl
  exact lv_astore C.1 C.2.1 hd hl hn rfl (fun ls' hl' => k p e s m args below meth c H locs ls' C hP hS (lh_set (v := .inr x) (i := 6) (L := l0 :: l1 :: l2 :: l3 :: l4 :: l5 :: o :: l) hl'))
theorem v_iinc6 {l0 l1 l2 l3 l4 l5 : Option av} {x : Int32} {n : Int} {l : List (Option av)} (hd : decode cc pc = .ok (.iinc 6 n, 3)) (hn : 6 < nL) (k : V E d y cc nL ret Qc (pc + 3) (l0 :: l1 :: l2 :: l3 :: l4 :: l5 :: some (.inl (x + Int32.ofInt n)) :: l) S M) : V E d y cc nL ret Qc pc (l0 :: l1 :: l2 :: l3 :: l4 :: l5 :: some (.inl x) :: l) S M := by
  intro p e s m args below meth c H locs ls C hP hS hl
  obtain ⟨z, hz⟩ := List.getElem?_of_mem ((lz_mem E (l0 :: l1 :: l2 :: l3 :: l4 :: l5 :: some (.inl x) :: l) 0).mpr ⟨6, .inl x, rfl, rfl⟩)
  exact lv_iinc (x := x) C.1 C.2.1 hd hl (k := z) (by rw [hz]; rfl) rfl hn rfl (fun ls' hl' => k p e s m args below meth c H locs ls' C hP hS (lh_set (v := .inl (x + Int32.ofInt n)) (i := 6) (L := l0 :: l1 :: l2 :: l3 :: l4 :: l5 :: some (.inl x) :: l) hl'))
theorem v_ild7 {l0 l1 l2 l3 l4 l5 l6 : Option av} {x : Int32} {l : List (Option av)} (hd : decode cc pc = .ok (.iload 7, 2)) (k : V E d y cc nL ret Qc (pc + 2) (l0 :: l1 :: l2 :: l3 :: l4 :: l5 :: l6 :: some (.inl x) :: l) (.inl x :: S) M) : V E d y cc nL ret Qc pc (l0 :: l1 :: l2 :: l3 :: l4 :: l5 :: l6 :: some (.inl x) :: l) S M := by
  intro p e s m args below meth c H locs ls C hP hS hl
  exact lv_iload C.1 C.2.1 hd (lh_at hl (i := 7) (v := .inl x) rfl) (k p e s m args below meth c H locs ls C hP hS hl)
theorem v_ist7 {l0 l1 l2 l3 l4 l5 l6 : Option av} {x : Int32} {o : Option av} {l : List (Option av)} (hd : decode cc pc = .ok (.istore 7, 2)) (hn : 7 < nL) (k : V E d y cc nL ret Qc (pc + 2) (l0 :: l1 :: l2 :: l3 :: l4 :: l5 :: l6 :: some (.inl x) :: l) S M) : V E d y cc nL ret Qc pc (l0 :: l1 :: l2 :: l3 :: l4 :: l5 :: l6 :: o :: l) (.inl x :: S) M := by
  intro p e s m args below meth c H locs ls C hP hS hl
  exact lv_istore C.1 C.2.1 hd hl hn rfl (fun ls' hl' => k p e s m args below meth c H locs ls' C hP hS (lh_set (v := .inl x) (i := 7) (L := l0 :: l1 :: l2 :: l3 :: l4 :: l5 :: l6 :: o :: l) hl'))
theorem v_ald7 {l0 l1 l2 l3 l4 l5 l6 : Option av} {x : Nat} {l : List (Option av)} (hd : decode cc pc = .ok (.aload 7, 2)) (k : V E d y cc nL ret Qc (pc + 2) (l0 :: l1 :: l2 :: l3 :: l4 :: l5 :: l6 :: some (.inr x) :: l) (.inr x :: S) M) : V E d y cc nL ret Qc pc (l0 :: l1 :: l2 :: l3 :: l4 :: l5 :: l6 :: some (.inr x) :: l) S M := by
  intro p e s m args below meth c H locs ls C hP hS hl
  exact lv_aload C.1 C.2.1 hd (lh_at hl (i := 7) (v := .inr x) rfl) (k p e s m args below meth c H locs ls C hP hS hl)
theorem v_ast7 {l0 l1 l2 l3 l4 l5 l6 : Option av} {x : Nat} {o : Option av} {l : List (Option av)} (hd : decode cc pc = .ok (.astore 7, 2)) (hn : 7 < nL) (k : V E d y cc nL ret Qc (pc + 2) (l0 :: l1 :: l2 :: l3 :: l4 :: l5 :: l6 :: some (.inr x) :: l) S M) : V E d y cc nL ret Qc pc (l0 :: l1 :: l2 :: l3 :: l4 :: l5 :: l6 :: o :: l) (.inr x :: S) M := by
  intro p e s m args below meth c H locs ls C hP hS hl
  exact lv_astore C.1 C.2.1 hd hl hn rfl (fun ls' hl' => k p e s m args below meth c H locs ls' C hP hS (lh_set (v := .inr x) (i := 7) (L := l0 :: l1 :: l2 :: l3 :: l4 :: l5 :: l6 :: o :: l) hl'))
theorem v_iinc7 {l0 l1 l2 l3 l4 l5 l6 : Option av} {x : Int32} {n : Int} {l : List (Option av)} (hd : decode cc pc = .ok (.iinc 7 n, 3)) (hn : 7 < nL) (k : V E d y cc nL ret Qc (pc + 3) (l0 :: l1 :: l2 :: l3 :: l4 :: l5 :: l6 :: some (.inl (x + Int32.ofInt n)) :: l) S M) : V E d y cc nL ret Qc pc (l0 :: l1 :: l2 :: l3 :: l4 :: l5 :: l6 :: some (.inl x) :: l) S M := by
  intro p e s m args below meth c H locs ls C hP hS hl
  obtain ⟨z, hz⟩ := List.getElem?_of_mem ((lz_mem E (l0 :: l1 :: l2 :: l3 :: l4 :: l5 :: l6 :: some (.inl x) :: l) 0).mpr ⟨7, .inl x, rfl, rfl⟩)
  exact lv_iinc (x := x) C.1 C.2.1 hd hl (k := z) (by rw [hz]; rfl) rfl hn rfl (fun ls' hl' => k p e s m args below meth c H locs ls' C hP hS (lh_set (v := .inl (x + Int32.ofInt n)) (i := 7) (L := l0 :: l1 :: l2 :: l3 :: l4 :: l5 :: l6 :: some (.inl x) :: l) hl'))
theorem v_ild8 {l0 l1 l2 l3 l4 l5 l6 l7 : Option av} {x : Int32} {l : List (Option av)} (hd : decode cc pc = .ok (.iload 8, 2)) (k : V E d y cc nL ret Qc (pc + 2) (l0 :: l1 :: l2 :: l3 :: l4 :: l5 :: l6 :: l7 :: some (.inl x) :: l) (.inl x :: S) M) : V E d y cc nL ret Qc pc (l0 :: l1 :: l2 :: l3 :: l4 :: l5 :: l6 :: l7 :: some (.inl x) :: l) S M := by
  intro p e s m args below meth c H locs ls C hP hS hl
  exact lv_iload C.1 C.2.1 hd (lh_at hl (i := 8) (v := .inl x) rfl) (k p e s m args below meth c H locs ls C hP hS hl)
theorem v_ist8 {l0 l1 l2 l3 l4 l5 l6 l7 : Option av} {x : Int32} {o : Option av} {l : List (Option av)} (hd : decode cc pc = .ok (.istore 8, 2)) (hn : 8 < nL) (k : V E d y cc nL ret Qc (pc + 2) (l0 :: l1 :: l2 :: l3 :: l4 :: l5 :: l6 :: l7 :: some (.inl x) :: l) S M) : V E d y cc nL ret Qc pc (l0 :: l1 :: l2 :: l3 :: l4 :: l5 :: l6 :: l7 :: o :: l) (.inl x :: S) M := by
  intro p e s m args below meth c H locs ls C hP hS hl
  exact lv_istore C.1 C.2.1 hd hl hn rfl (fun ls' hl' => k p e s m args below meth c H locs ls' C hP hS (lh_set (v := .inl x) (i := 8) (L := l0 :: l1 :: l2 :: l3 :: l4 :: l5 :: l6 :: l7 :: o :: l) hl'))
theorem v_ald8 {l0 l1 l2 l3 l4 l5 l6 l7 : Option av} {x : Nat} {l : List (Option av)} (hd : decode cc pc = .ok (.aload 8, 2)) (k : V E d y cc nL ret Qc (pc + 2) (l0 :: l1 :: l2 :: l3 :: l4 :: l5 :: l6 :: l7 :: some (.inr x) :: l) (.inr x :: S) M) : V E d y cc nL ret Qc pc (l0 :: l1 :: l2 :: l3 :: l4 :: l5 :: l6 :: l7 :: some (.inr x) :: l) S M := by
  intro p e s m args below meth c H locs ls C hP hS hl
  exact lv_aload C.1 C.2.1 hd (lh_at hl (i := 8) (v := .inr x) rfl) (k p e s m args below meth c H locs ls C hP hS hl)
theorem v_ast8 {l0 l1 l2 l3 l4 l5 l6 l7 : Option av} {x : Nat} {o : Option av} {l : List (Option av)} (hd : decode cc pc = .ok (.astore 8, 2)) (hn : 8 < nL) (k : V E d y cc nL ret Qc (pc + 2) (l0 :: l1 :: l2 :: l3 :: l4 :: l5 :: l6 :: l7 :: some (.inr x) :: l) S M) : V E d y cc nL ret Qc pc (l0 :: l1 :: l2 :: l3 :: l4 :: l5 :: l6 :: l7 :: o :: l) (.inr x :: S) M := by
  intro p e s m args below meth c H locs ls C hP hS hl
  exact lv_astore C.1 C.2.1 hd hl hn rfl (fun ls' hl' => k p e s m args below meth c H locs ls' C hP hS (lh_set (v := .inr x) (i := 8) (L := l0 :: l1 :: l2 :: l3 :: l4 :: l5 :: l6 :: l7 :: o :: l) hl'))
theorem v_iinc8 {l0 l1 l2 l3 l4 l5 l6 l7 : Option av} {x : Int32} {n : Int} {l : List (Option av)} (hd : decode cc pc = .ok (.iinc 8 n, 3)) (hn : 8 < nL) (k : V E d y cc nL ret Qc (pc + 3) (l0 :: l1 :: l2 :: l3 :: l4 :: l5 :: l6 :: l7 :: some (.inl (x + Int32.ofInt n)) :: l) S M) : V E d y cc nL ret Qc pc (l0 :: l1 :: l2 :: l3 :: l4 :: l5 :: l6 :: l7 :: some (.inl x) :: l) S M := by
  intro p e s m args below meth c H locs ls C hP hS hl
  obtain ⟨z, hz⟩ := List.getElem?_of_mem ((lz_mem E (l0 :: l1 :: l2 :: l3 :: l4 :: l5 :: l6 :: l7 :: some (.inl x) :: l) 0).mpr ⟨8, .inl x, rfl, rfl⟩)
  exact lv_iinc (x := x) C.1 C.2.1 hd hl (k := z) (by rw [hz]; rfl) rfl hn rfl (fun ls' hl' => k p e s m args below meth c H locs ls' C hP hS (lh_set (v := .inl (x + Int32.ofInt n)) (i := 8) (L := l0 :: l1 :: l2 :: l3 :: l4 :: l5 :: l6 :: l7 :: some (.inl x) :: l) hl'))
theorem v_ild9 {l0 l1 l2 l3 l4 l5 l6 l7 l8 : Option av} {x : Int32} {l : List (Option av)} (hd : decode cc pc = .ok (.iload 9, 2)) (k : V E d y cc nL ret Qc (pc + 2) (l0 :: l1 :: l2 :: l3 :: l4 :: l5 :: l6 :: l7 :: l8 :: some (.inl x) :: l) (.inl x :: S) M) : V E d y cc nL ret Qc pc (l0 :: l1 :: l2 :: l3 :: l4 :: l5 :: l6 :: l7 :: l8 :: some (.inl x) :: l) S M := by
  intro p e s m args below meth c H locs ls C hP hS hl
  exact lv_iload C.1 C.2.1 hd (lh_at hl (i := 9) (v := .inl x) rfl) (k p e s m args below meth c H locs ls C hP hS hl)
theorem v_ist9 {l0 l1 l2 l3 l4 l5 l6 l7 l8 : Option av} {x : Int32} {o : Option av} {l : List (Option av)} (hd : decode cc pc = .ok (.istore 9, 2)) (hn : 9 < nL) (k : V E d y cc nL ret Qc (pc + 2) (l0 :: l1 :: l2 :: l3 :: l4 :: l5 :: l6 :: l7 :: l8 :: some (.inl x) :: l) S M) : V E d y cc nL ret Qc pc (l0 :: l1 :: l2 :: l3 :: l4 :: l5 :: l6 :: l7 :: l8 :: o :: l) (.inl x :: S) M := by
  intro p e s m args below meth c H locs ls C hP hS hl
  exact lv_istore C.1 C.2.1 hd hl hn rfl (fun ls' hl' => k p e s m args below meth c H locs ls' C hP hS (lh_set (v := .inl x) (i := 9) (L := l0 :: l1 :: l2 :: l3 :: l4 :: l5 :: l6 :: l7 :: l8 :: o :: l) hl'))
theorem v_ald9 {l0 l1 l2 l3 l4 l5 l6 l7 l8 : Option av} {x : Nat} {l : List (Option av)} (hd : decode cc pc = .ok (.aload 9, 2)) (k : V E d y cc nL ret Qc (pc + 2) (l0 :: l1 :: l2 :: l3 :: l4 :: l5 :: l6 :: l7 :: l8 :: some (.inr x) :: l) (.inr x :: S) M) : V E d y cc nL ret Qc pc (l0 :: l1 :: l2 :: l3 :: l4 :: l5 :: l6 :: l7 :: l8 :: some (.inr x) :: l) S M := by
  intro p e s m args below meth c H locs ls C hP hS hl
  exact lv_aload C.1 C.2.1 hd (lh_at hl (i := 9) (v := .inr x) rfl) (k p e s m args below meth c H locs ls C hP hS hl)
theorem v_ast9 {l0 l1 l2 l3 l4 l5 l6 l7 l8 : Option av} {x : Nat} {o : Option av} {l : List (Option av)} (hd : decode cc pc = .ok (.astore 9, 2)) (hn : 9 < nL) (k : V E d y cc nL ret Qc (pc + 2) (l0 :: l1 :: l2 :: l3 :: l4 :: l5 :: l6 :: l7 :: l8 :: some (.inr x) :: l) S M) : V E d y cc nL ret Qc pc (l0 :: l1 :: l2 :: l3 :: l4 :: l5 :: l6 :: l7 :: l8 :: o :: l) (.inr x :: S) M := by
  intro p e s m args below meth c H locs ls C hP hS hl
  exact lv_astore C.1 C.2.1 hd hl hn rfl (fun ls' hl' => k p e s m args below meth c H locs ls' C hP hS (lh_set (v := .inr x) (i := 9) (L := l0 :: l1 :: l2 :: l3 :: l4 :: l5 :: l6 :: l7 :: l8 :: o :: l) hl'))
theorem v_iinc9 {l0 l1 l2 l3 l4 l5 l6 l7 l8 : Option av} {x : Int32} {n : Int} {l : List (Option av)} (hd : decode cc pc = .ok (.iinc 9 n, 3)) (hn : 9 < nL) (k : V E d y cc nL ret Qc (pc + 3) (l0 :: l1 :: l2 :: l3 :: l4 :: l5 :: l6 :: l7 :: l8 :: some (.inl (x + Int32.ofInt n)) :: l) S M) : V E d y cc nL ret Qc pc (l0 :: l1 :: l2 :: l3 :: l4 :: l5 :: l6 :: l7 :: l8 :: some (.inl x) :: l) S M := by
  intro p e s m args below meth c H locs ls C hP hS hl
  obtain ⟨z, hz⟩ := List.getElem?_of_mem ((lz_mem E (l0 :: l1 :: l2 :: l3 :: l4 :: l5 :: l6 :: l7 :: l8 :: some (.inl x) :: l) 0).mpr ⟨9, .inl x, rfl, rfl⟩)
  exact lv_iinc (x := x) C.1 C.2.1 hd hl (k := z) (by rw [hz]; rfl) rfl hn rfl (fun ls' hl' => k p e s m args below meth c H locs ls' C hP hS (lh_set (v := .inl (x + Int32.ofInt n)) (i := 9) (L := l0 :: l1 :: l2 :: l3 :: l4 :: l5 :: l6 :: l7 :: l8 :: some (.inl x) :: l) hl'))
theorem v_ild10 {l0 l1 l2 l3 l4 l5 l6 l7 l8 l9 : Option av} {x : Int32} {l : List (Option av)} (hd : decode cc pc = .ok (.iload 10, 2)) (k : V E d y cc nL ret Qc (pc + 2) (l0 :: l1 :: l2 :: l3 :: l4 :: l5 :: l6 :: l7 :: l8 :: l9 :: some (.inl x) :: l) (.inl x :: S) M) : V E d y cc nL ret Qc pc (l0 :: l1 :: l2 :: l3 :: l4 :: l5 :: l6 :: l7 :: l8 :: l9 :: some (.inl x) :: l) S M := by
  intro p e s m args below meth c H locs ls C hP hS hl
  exact lv_iload C.1 C.2.1 hd (lh_at hl (i := 10) (v := .inl x) rfl) (k p e s m args below meth c H locs ls C hP hS hl)
theorem v_ist10 {l0 l1 l2 l3 l4 l5 l6 l7 l8 l9 : Option av} {x : Int32} {o : Option av} {l : List (Option av)} (hd : decode cc pc = .ok (.istore 10, 2)) (hn : 10 < nL) (k : V E d y cc nL ret Qc (pc + 2) (l0 :: l1 :: l2 :: l3 :: l4 :: l5 :: l6 :: l7 :: l8 :: l9 :: some (.inl x) :: l) S M) : V E d y cc nL ret Qc pc (l0 :: l1 :: l2 :: l3 :: l4 :: l5 :: l6 :: l7 :: l8 :: l9 :: o :: l) (.inl x :: S) M := by
  intro p e s m args below meth c H locs ls C hP hS hl
  exact lv_istore C.1 C.2.1 hd hl hn rfl (fun ls' hl' => k p e s m args below meth c H locs ls' C hP hS (lh_set (v := .inl x) (i := 10) (L := l0 :: l1 :: l2 :: l3 :: l4 :: l5 :: l6 :: l7 :: l8 :: l9 :: o :: l) hl'))
theorem v_ald10 {l0 l1 l2 l3 l4 l5 l6 l7 l8 l9 : Option av} {x : Nat} {l : List (Option av)} (hd : decode cc pc = .ok (.aload 10, 2)) (k : V E d y cc nL ret Qc (pc + 2) (l0 :: l1 :: l2 :: l3 :: l4 :: l5 :: l6 :: l7 :: l8 :: l9 :: some (.inr x) :: l) (.inr x :: S) M) : V E d y cc nL ret Qc pc (l0 :: l1 :: l2 :: l3 :: l4 :: l5 :: l6 :: l7 :: l8 :: l9 :: some (.inr x) :: l) S M := by
  intro p e s m args below meth c H locs ls C hP hS hl
  exact lv_aload C.1 C.2.1 hd (lh_at hl (i := 10) (v := .inr x) rfl) (k p e s m args below meth c H locs ls C hP hS hl)
theorem v_ast10 {l0 l1 l2 l3 l4 l5 l6 l7 l8 l9 : Option av} {x : Nat} {o : Option av} {l : List (Option av)} (hd : decode cc pc = .ok (.astore 10, 2)) (hn : 10 < nL) (k : V E d y cc nL ret Qc (pc + 2) (l0 :: l1 :: l2 :: l3 :: l4 :: l5 :: l6 :: l7 :: l8 :: l9 :: some (.inr x) :: l) S M) : V E d y cc nL ret Qc pc (l0 :: l1 :: l2 :: l3 :: l4 :: l5 :: l6 :: l7 :: l8 :: l9 :: o :: l) (.inr x :: S) M := by
  intro p e s m args below meth c H locs ls C hP hS hl
  exact lv_astore C.1 C.2.1 hd hl hn rfl (fun ls' hl' => k p e s m args below meth c H locs ls' C hP hS (lh_set (v := .inr x) (i := 10) (L := l0 :: l1 :: l2 :: l3 :: l4 :: l5 :: l6 :: l7 :: l8 :: l9 :: o :: l) hl'))
theorem v_iinc10 {l0 l1 l2 l3 l4 l5 l6 l7 l8 l9 : Option av} {x : Int32} {n : Int} {l : List (Option av)} (hd : decode cc pc = .ok (.iinc 10 n, 3)) (hn : 10 < nL) (k : V E d y cc nL ret Qc (pc + 3) (l0 :: l1 :: l2 :: l3 :: l4 :: l5 :: l6 :: l7 :: l8 :: l9 :: some (.inl (x + Int32.ofInt n)) :: l) S M) : V E d y cc nL ret Qc pc (l0 :: l1 :: l2 :: l3 :: l4 :: l5 :: l6 :: l7 :: l8 :: l9 :: some (.inl x) :: l) S M := by
  intro p e s m args below meth c H locs ls C hP hS hl
  obtain ⟨z, hz⟩ := List.getElem?_of_mem ((lz_mem E (l0 :: l1 :: l2 :: l3 :: l4 :: l5 :: l6 :: l7 :: l8 :: l9 :: some (.inl x) :: l) 0).mpr ⟨10, .inl x, rfl, rfl⟩)
  exact lv_iinc (x := x) C.1 C.2.1 hd hl (k := z) (by rw [hz]; rfl) rfl hn rfl (fun ls' hl' => k p e s m args below meth c H locs ls' C hP hS (lh_set (v := .inl (x + Int32.ofInt n)) (i := 10) (L := l0 :: l1 :: l2 :: l3 :: l4 :: l5 :: l6 :: l7 :: l8 :: l9 :: some (.inl x) :: l) hl'))
theorem v_ild11 {l0 l1 l2 l3 l4 l5 l6 l7 l8 l9 l10 : Option av} {x : Int32} {l : List (Option av)} (hd : decode cc pc = .ok (.iload 11, 2)) (k : V E d y cc nL ret Qc (pc + 2) (l0 :: l1 :: l2 :: l3 :: l4 :: l5 :: l6 :: l7 :: l8 :: l9 :: l10 :: some (.inl x) :: l) (.inl x :: S) M) : V E d y cc nL ret Qc pc (l0 :: l1 :: l2 :: l3 :: l4 :: l5 :: l6 :: l7 :: l8 :: l9 :: l10 :: some (.inl x) :: l) S M := by
  intro p e s m args below meth c H locs ls C hP hS hl
  exact lv_iload C.1 C.2.1 hd (lh_at hl (i := 11) (v := .inl x) rfl) (k p e s m args below meth c H locs ls C hP hS hl)
theorem v_ist11 {l0 l1 l2 l3 l4 l5 l6 l7 l8 l9 l10 : Option av} {x : Int32} {o : Option av} {l : List (Option av)} (hd : decode cc pc = .ok (.istore 11, 2)) (hn : 11 < nL) (k : V E d y cc nL ret Qc (pc + 2) (l0 :: l1 :: l2 :: l3 :: l4 :: l5 :: l6 :: l7 :: l8 :: l9 :: l10 :: some (.inl x) :: l) S M) : V E d y cc nL ret Qc pc (l0 :: l1 :: l2 :: l3 :: l4 :: l5 :: l6 :: l7 :: l8 :: l9 :: l10 :: o :: l) (.inl x :: S) M := by
  intro p e s m args below meth c H locs ls C hP hS hl
  exact lv_istore C.1 C.2.1 hd hl hn rfl (fun ls' hl' => k p e s m args below meth c H locs ls' C hP hS (lh_set (v := .inl x) (i := 11) (L := l0 :: l1 :: l2 :: l3 :: l4 :: l5 :: l6 :: l7 :: l8 :: l9 :: l10 :: o :: l) hl'))
theorem v_ald11 {l0 l1 l2 l3 l4 l5 l6 l7 l8 l9 l10 : Option av} {x : Nat} {l : List (Option av)} (hd : decode cc pc = .ok (.aload 11, 2)) (k : V E d y cc nL ret Qc (pc + 2) (l0 :: l1 :: l2 :: l3 :: l4 :: l5 :: l6 :: l7 :: l8 :: l9 :: l10 :: some (.inr x) :: l) (.inr x :: S) M) : V E d y cc nL ret Qc pc (l0 :: l1 :: l2 :: l3 :: l4 :: l5 :: l6 :: l7 :: l8 :: l9 :: l10 :: some (.inr x) :: l) S M := by
  intro p e s m args below meth c H locs ls C hP hS hl
  exact lv_aload C.1 C.2.1 hd (lh_at hl (i := 11) (v := .inr x) rfl) (k p e s m args below meth c H locs ls C hP hS hl)
theorem v_ast11 {l0 l1 l2 l3 l4 l5 l6 l7 l8 l9 l10 : Option av} {x : Nat} {o : Option av} {l : List (Option av)} (hd : decode cc pc = .ok (.astore 11, 2)) (hn : 11 < nL) (k : V E d y cc nL ret Qc (pc + 2) (l0 :: l1 :: l2 :: l3 :: l4 :: l5 :: l6 :: l7 :: l8 :: l9 :: l10 :: some (.inr x) :: l) S M) : V E d y cc nL ret Qc pc (l0 :: l1 :: l2 :: l3 :: l4 :: l5 :: l6 :: l7 :: l8 :: l9 :: l10 :: o :: l) (.inr x :: S) M := by
  intro p e s m args below meth c H locs ls C hP hS hl
  exact lv_astore C.1 C.2.1 hd hl hn rfl (fun ls' hl' => k p e s m args below meth c H locs ls' C hP hS (lh_set (v := .inr x) (i := 11) (L := l0 :: l1 :: l2 :: l3 :: l4 :: l5 :: l6 :: l7 :: l8 :: l9 :: l10 :: o :: l) hl'))
theorem v_iinc11 {l0 l1 l2 l3 l4 l5 l6 l7 l8 l9 l10 : Option av} {x : Int32} {n : Int} {l : List (Option av)} (hd : decode cc pc = .ok (.iinc 11 n, 3)) (hn : 11 < nL) (k : V E d y cc nL ret Qc (pc + 3) (l0 :: l1 :: l2 :: l3 :: l4 :: l5 :: l6 :: l7 :: l8 :: l9 :: l10 :: some (.inl (x + Int32.ofInt n)) :: l) S M) : V E d y cc nL ret Qc pc (l0 :: l1 :: l2 :: l3 :: l4 :: l5 :: l6 :: l7 :: l8 :: l9 :: l10 :: some (.inl x) :: l) S M := by
  intro p e s m args below meth c H locs ls C hP hS hl
  obtain ⟨z, hz⟩ := List.getElem?_of_mem ((lz_mem E (l0 :: l1 :: l2 :: l3 :: l4 :: l5 :: l6 :: l7 :: l8 :: l9 :: l10 :: some (.inl x) :: l) 0).mpr ⟨11, .inl x, rfl, rfl⟩)
  exact lv_iinc (x := x) C.1 C.2.1 hd hl (k := z) (by rw [hz]; rfl) rfl hn rfl (fun ls' hl' => k p e s m args below meth c H locs ls' C hP hS (lh_set (v := .inl (x + Int32.ofInt n)) (i := 11) (L := l0 :: l1 :: l2 :: l3 :: l4 :: l5 :: l6 :: l7 :: l8 :: l9 :: l10 :: some (.inl x) :: l) hl'))
theorem v_ild12 {l0 l1 l2 l3 l4 l5 l6 l7 l8 l9 l10 l11 : Option av} {x : Int32} {l : List (Option av)} (hd : decode cc pc = .ok (.iload 12, 2)) (k : V E d y cc nL ret Qc (pc + 2) (l0 :: l1 :: l2 :: l3 :: l4 :: l5 :: l6 :: l7 :: l8 :: l9 :: l10 :: l11 :: some (.inl x) :: l) (.inl x :: S) M) : V E d y cc nL ret Qc pc (l0 :: l1 :: l2 :: l3 :: l4 :: l5 :: l6 :: l7 :: l8 :: l9 :: l10 :: l11 :: some (.inl x) :: l) S M := by
  intro p e s m args below meth c H locs ls C hP hS hl
  exact lv_iload C.1 C.2.1 hd (lh_at hl (i := 12) (v := .inl x) rfl) (k p e s m args below meth c H locs ls C hP hS hl)
theorem v_ist12 {l0 l1 l2 l3 l4 l5 l6 l7 l8 l9 l10 l11 : Option av} {x : Int32} {o : Option av} {l : List (Option av)} (hd : decode cc pc = .ok (.istore 12, 2)) (hn : 12 < nL) (k : V E d y cc nL ret Qc (pc + 2) (l0 :: l1 :: l2 :: l3 :: l4 :: l5 :: l6 :: l7 :: l8 :: l9 :: l10 :: l11 :: some (.inl x) :: l) S M) : V E d y cc nL ret Qc pc (l0 :: l1 :: l2 :: l3 :: l4 :: l5 :: l6 :: l7 :: l8 :: l9 :: l10 :: l11 :: o :: l) (.inl x :: S) M := by
  intro p e s m args below meth c H locs ls C hP hS hl
  exact lv_istore C.1 C.2.1 hd hl hn rfl (fun ls' hl' => k p e s m args below meth c H locs ls' C hP hS (lh_set (v := .inl x) (i := 12) (L := l0 :: l1 :: l2 :: l3 :: l4 :: l5 :: l6 :: l7 :: l8 :: l9 :: l10 :: l11 :: o :: l) hl'))
theorem v_ald12 {l0 l1 l2 l3 l4 l5 l6 l7 l8 l9 l10 l11 : Option av} {x : Nat} {l : List (Option av)} (hd : decode cc pc = .ok (.aload 12, 2)) (k : V E d y cc nL ret Qc (pc + 2) (l0 :: l1 :: l2 :: l3 :: l4 :: l5 :: l6 :: l7 :: l8 :: l9 :: l10 :: l11 :: some (.inr x) :: l) (.inr x :: S) M) : V E d y cc nL ret Qc pc (l0 :: l1 :: l2 :: l3 :: l4 :: l5 :: l6 :: l7 :: l8 :: l9 :: l10 :: l11 :: some (.inr x) :: l) S M := by
  intro p e s m args below meth c H locs ls C hP hS hl
  exact lv_aload C.1 C.2.1 hd (lh_at hl (i := 12) (v := .inr x) rfl) (k p e s m args below meth c H locs ls C hP hS hl)
theorem v_ast12 {l0 l1 l2 l3 l4 l5 l6 l7 l8 l9 l10 l11 : Option av} {x : Nat} {o : Option av} {l : List (Option av)} (hd : decode cc pc = .ok (.astore 12, 2)) (hn : 12 < nL) (k : V E d y cc nL ret Qc (pc + 2) (l0 :: l1 :: l2 :: l3 :: l4 :: l5 :: l6 :: l7 :: l8 :: l9 :: l10 :: l11 :: some (.inr x) :: l) S M) : V E d y cc nL ret Qc pc (l0 :: l1 :: l2 :: l3 :: l4 :: l5 :: l6 :: l7 :: l8 :: l9 :: l10 :: l11 :: o :: l) (.inr x :: S) M := by
  intro p e s m args below meth c H locs ls C hP hS hl
  exact lv_astore C.1 C.2.1 hd hl hn rfl (fun ls' hl' => k p e s m args below meth c H locs ls' C hP hS (lh_set (v := .inr x) (i := 12) (L := l0 :: l1 :: l2 :: l3 :: l4 :: l5 :: l6 :: l7 :: l8 :: l9 :: l10 :: l11 :: o :: l) hl'))
theorem v_iinc12 {l0 l1 l2 l3 l4 l5 l6 l7 l8 l9 l10 l11 : Option av} {x : Int32} {n : Int} {l : List (Option av)} (hd : decode cc pc = .ok (.iinc 12 n, 3)) (hn : 12 < nL) (k : V E d y cc nL ret Qc (pc + 3) (l0 :: l1 :: l2 :: l3 :: l4 :: l5 :: l6 :: l7 :: l8 :: l9 :: l10 :: l11 :: some (.inl (x + Int32.ofInt n)) :: l) S M) : V E d y cc nL ret Qc pc (l0 :: l1 :: l2 :: l3 :: l4 :: l5 :: l6 :: l7 :: l8 :: l9 :: l10 :: l11 :: some (.inl x) :: l) S M := by
  intro p e s m args below meth c H locs ls C hP hS hl
  obtain ⟨z, hz⟩ := List.getElem?_of_mem ((lz_mem E (l0 :: l1 :: l2 :: l3 :: l4 :: l5 :: l6 :: l7 :: l8 :: l9 :: l10 :: l11 :: some (.inl x) :: l) 0).mpr ⟨12, .inl x, rfl, rfl⟩)
  exact lv_iinc (x := x) C.1 C.2.1 hd hl (k := z) (by rw [hz]; rfl) rfl hn rfl (fun ls' hl' => k p e s m args below meth c H locs ls' C hP hS (lh_set (v := .inl (x + Int32.ofInt n)) (i := 12) (L := l0 :: l1 :: l2 :: l3 :: l4 :: l5 :: l6 :: l7 :: l8 :: l9 :: l10 :: l11 :: some (.inl x) :: l) hl'))
theorem v_ild13 {l0 l1 l2 l3 l4 l5 l6 l7 l8 l9 l10 l11 l12 : Option av} {x : Int32} {l : List (Option av)} (hd : decode cc pc = .ok (.iload 13, 2)) (k : V E d y cc nL ret Qc (pc + 2) (l0 :: l1 :: l2 :: l3 :: l4 :: l5 :: l6 :: l7 :: l8 :: l9 :: l10 :: l11 :: l12 :: some (.inl x) :: l) (.inl x :: S) M) : V E d y cc nL ret Qc pc (l0 :: l1 :: l2 :: l3 :: l4 :: l5 :: l6 :: l7 :: l8 :: l9 :: l10 :: l11 :: l12 :: some (.inl x) :: l) S M := by
  intro p e s m args below meth c H locs ls C hP hS hl
  exact lv_iload C.1 C.2.1 hd (lh_at hl (i := 13) (v := .inl x) rfl) (k p e s m args below meth c H locs ls C hP hS hl)
theorem v_ist13 {l0 l1 l2 l3 l4 l5 l6 l7 l8 l9 l10 l11 l12 : Option av} {x : Int32} {o : Option av} {l : List (Option av)} (hd : decode cc pc = .ok (.istore 13, 2)) (hn : 13 < nL) (k : V E d y cc nL ret Qc (pc + 2) (l0 :: l1 :: l2 :: l3 :: l4 :: l5 :: l6 :: l7 :: l8 :: l9 :: l10 :: l11 :: l12 :: some (.inl x) :: l) S M) : V E d y cc nL ret Qc pc (l0 :: l1 :: l2 :: l3 :: l4 :: l5 :: l6 :: l7 :: l8 :: l9 :: l10 :: l11 :: l12 :: o :: l) (.inl x :: S) M := by
  intro p e s m args below meth c H locs ls C hP hS hl
  exact lv_istore C.1 C.2.1 hd hl hn rfl (fun ls' hl' => k p e s m args below meth c H locs ls' C hP hS (lh_set (v := .inl x) (i := 13) (L := l0 :: l1 :: l2 :: l3 :: l4 :: l5 :: l6 :: l7 :: l8 :: l9 :: l10 :: l11 :: l12 :: o :: l) hl'))
theorem v_ald13 {l0 l1 l2 l3 l4 l5 l6 l7 l8 l9 l10 l11 l12 : Option av} {x : Nat} {l : List (Option av)} (hd : decode cc pc = .ok (.aload 13, 2)) (k : V E d y cc nL ret Qc (pc + 2) (l0 :: l1 :: l2 :: l3 :: l4 :: l5 :: l6 :: l7 :: l8 :: l9 :: l10 :: l11 :: l12 :: some (.inr x) :: l) (.inr x :: S) M) : V E d y cc nL ret Qc pc (l0 :: l1 :: l2 :: l3 :: l4 :: l5 :: l6 :: l7 :: l8 :: l9 :: l10 :: l11 :: l12 :: some (.inr x) :: l) S M := by
  intro p e s m args below meth c H locs ls C hP hS hl
  exact lv_aload C.1 C.2.1 hd (lh_at hl (i := 13) (v := .inr x) rfl) (k p e s m args below meth c H locs ls C hP hS hl)
theorem v_ast13 {l0 l1 l2 l3 l4 l5 l6 l7 l8 l9 l10 l11 l12 : Option av} {x : Nat} {o : Option av} {l : List (Option av)} (hd : decode cc pc = .ok (.astore 13, 2)) (hn : 13 < nL) (k : V E d y cc nL ret Qc (pc + 2) (l0 :: l1 :: l2 :: l3 :: l4 :: l5 :: l6 :: l7 :: l8 :: l9 :: l10 :: l11 :: l12 :: some (.inr x) :: l) S M) : V E d y cc nL ret Qc pc (l0 :: l1 :: l2 :: l3 :: l4 :: l5 :: l6 :: l7 :: l8 :: l9 :: l10 :: l11 :: l12 :: o :: l) (.inr x :: S) M := by
  intro p e s m args below meth c H locs ls C hP hS hl
  exact lv_astore C.1 C.2.1 hd hl hn rfl (fun ls' hl' => k p e s m args below meth c H locs ls' C hP hS (lh_set (v := .inr x) (i := 13) (L := l0 :: l1 :: l2 :: l3 :: l4 :: l5 :: l6 :: l7 :: l8 :: l9 :: l10 :: l11 :: l12 :: o :: l) hl'))
theorem v_iinc13 {l0 l1 l2 l3 l4 l5 l6 l7 l8 l9 l10 l11 l12 : Option av} {x : Int32} {n : Int} {l : List (Option av)} (hd : decode cc pc = .ok (.iinc 13 n, 3)) (hn : 13 < nL) (k : V E d y cc nL ret Qc (pc + 3) (l0 :: l1 :: l2 :: l3 :: l4 :: l5 :: l6 :: l7 :: l8 :: l9 :: l10 :: l11 :: l12 :: some (.inl (x + Int32.ofInt n)) :: l) S M) : V E d y cc nL ret Qc pc (l0 :: l1 :: l2 :: l3 :: l4 :: l5 :: l6 :: l7 :: l8 :: l9 :: l10 :: l11 :: l12 :: some (.inl x) :: l) S M := by
  intro p e s m args below meth c H locs ls C hP hS hl
  obtain ⟨z, hz⟩ := List.getElem?_of_mem ((lz_mem E (l0 :: l1 :: l2 :: l3 :: l4 :: l5 :: l6 :: l7 :: l8 :: l9 :: l10 :: l11 :: l12 :: some (.inl x) :: l) 0).mpr ⟨13, .inl x, rfl, rfl⟩)
  exact lv_iinc (x := x) C.1 C.2.1 hd hl (k := z) (by rw [hz]; rfl) rfl hn rfl (fun ls' hl' => k p e s m args below meth c H locs ls' C hP hS (lh_set (v := .inl (x + Int32.ofInt n)) (i := 13) (L := l0 :: l1 :: l2 :: l3 :: l4 :: l5 :: l6 :: l7 :: l8 :: l9 :: l10 :: l11 :: l12 :: some (.inl x) :: l) hl'))
theorem v_icmp_eq {x z : Int32} {off : Int} {tgt : Nat} (hd : decode cc pc = .ok (.if_icmp .eq off, 3)) (ht : (pc : Int) + off = (tgt : Int)) (kt : x = z → V E d y cc nL ret Qc tgt L S M) (kf : ¬ (x = z) → V E d y cc nL ret Qc (pc + 3) L S M) : V E d y cc nL ret Qc pc L (.inl z :: .inl x :: S) M := by
  intro p e s m args below meth c H locs ls C hP hS hl
  exact lv_icmp_eq C.1 C.2.1 hd ht (fun q => kt q p e s m args below meth c H locs ls C hP hS hl) (fun q => kf q p e s m args below meth c H locs ls C hP hS hl)
theorem v_if_eq {x : Int32} {off : Int} {tgt : Nat} (hd : decode cc pc = .ok (.ifCond .eq off, 3)) (ht : (pc : Int) + off = (tgt : Int)) (kt : x = 0 → V E d y cc nL ret Qc tgt L S M) (kf : ¬ (x = 0) → V E d y cc nL ret Qc (pc + 3) L S M) : V E d y cc nL ret Qc pc L (.inl x :: S) M := by
  intro p e s m args below meth c H locs ls C hP hS hl
  exact lv_if_eq C.1 C.2.1 hd ht (fun q => kt q p e s m args below meth c H locs ls C hP hS hl) (fun q => kf q p e s m args below meth c H locs ls C hP hS hl)
theorem v_icmp_ne {x z : Int32} {off : Int} {tgt : Nat} (hd : decode cc pc = .ok (.if_icmp .ne off, 3)) (ht : (pc : Int) + off = (tgt : Int)) (kt : (x ≠ z) → V E d y cc nL ret Qc tgt L S M) (kf : x = z → V E d y cc nL ret Qc (pc + 3) L S M) : V E d y cc nL ret Qc pc L (.inl z :: .inl x :: S) M := by
  intro p e s m args below meth c H locs ls C hP hS hl
  exact lv_icmp_ne C.1 C.2.1 hd ht (fun q => kt q p e s m args below meth c H locs ls C hP hS hl) (fun q => kf q p e s m args below meth c H locs ls C hP hS hl)
theorem v_if_ne {x : Int32} {off : Int} {tgt : Nat} (hd : decode cc pc = .ok (.ifCond .ne off, 3)) (ht : (pc : Int) + off = (tgt : Int)) (kt : x ≠ 0 → V E d y cc nL ret Qc tgt L S M) (kf : x = 0 → V E d y cc nL ret Qc (pc + 3) L S M) : V E d y cc nL ret Qc pc L (.inl x :: S) M := by
  intro p e s m args below meth c H locs ls C hP hS hl
  exact lv_if_ne C.1 C.2.1 hd ht (fun q => kt q p e s m args below meth c H locs ls C hP hS hl) (fun q => kf q p e s m args below meth c H locs ls C hP hS hl)
theorem v_icmp_lt {x z : Int32} {off : Int} {tgt : Nat} (hd : decode cc pc = .ok (.if_icmp .lt off, 3)) (ht : (pc : Int) + off = (tgt : Int)) (kt : x < z → V E d y cc nL ret Qc tgt L S M) (kf : ¬ (x < z) → V E d y cc nL ret Qc (pc + 3) L S M) : V E d y cc nL ret Qc pc L (.inl z :: .inl x :: S) M := by
  intro p e s m args below meth c H locs ls C hP hS hl
  exact lv_icmp_lt C.1 C.2.1 hd ht (fun q => kt q p e s m args below meth c H locs ls C hP hS hl) (fun q => kf q p e s m args below meth c H locs ls C hP hS hl)
theorem v_if_lt {x : Int32} {off : Int} {tgt : Nat} (hd : decode cc pc = .ok (.ifCond .lt off, 3)) (ht : (pc : Int) + off = (tgt : Int)) (kt : x < 0 → V E d y cc nL ret Qc tgt L S M) (kf : ¬ (x < 0) → V E d y cc nL ret Qc (pc + 3) L S M) : V E d y cc nL ret Qc pc L (.inl x :: S) M := by
  intro p e s m args below meth c H locs ls C hP hS hl
  exact lv_if_lt C.1 C.2.1 hd ht (fun q => kt q p e s m args below meth c H locs ls C hP hS hl) (fun q => kf q p e s m args below meth c H locs ls C hP hS hl)
theorem v_icmp_ge {x z : Int32} {off : Int} {tgt : Nat} (hd : decode cc pc = .ok (.if_icmp .ge off, 3)) (ht : (pc : Int) + off = (tgt : Int)) (kt : z ≤ x → V E d y cc nL ret Qc tgt L S M) (kf : ¬ (z ≤ x) → V E d y cc nL ret Qc (pc + 3) L S M) : V E d y cc nL ret Qc pc L (.inl z :: .inl x :: S) M := by
  intro p e s m args below meth c H locs ls C hP hS hl
  exact lv_icmp_ge C.1 C.2.1 hd ht (fun q => kt q p e s m args below meth c H locs ls C hP hS hl) (fun q => kf q p e s m args below meth c H locs ls C hP hS hl)
theorem v_if_ge {x : Int32} {off : Int} {tgt : Nat} (hd : decode cc pc = .ok (.ifCond .ge off, 3)) (ht : (pc : Int) + off = (tgt : Int)) (kt : 0 ≤ x → V E d y cc nL ret Qc tgt L S M) (kf : ¬ (0 ≤ x) → V E d y cc nL ret Qc (pc + 3) L S M) : V E d y cc nL ret Qc pc L (.inl x :: S) M := by
  intro p e s m args below meth c H locs ls C hP hS hl
  exact lv_if_ge C.1 C.2.1 hd ht (fun q => kt q p e s m args below meth c H locs ls C hP hS hl) (fun q => kf q p e s m args below meth c H locs ls C hP hS hl)
theorem v_icmp_gt {x z : Int32} {off : Int} {tgt : Nat} (hd : decode cc pc = .ok (.if_icmp .gt off, 3)) (ht : (pc : Int) + off = (tgt : Int)) (kt : z < x → V E d y cc nL ret Qc tgt L S M) (kf : ¬ (z < x) → V E d y cc nL ret Qc (pc + 3) L S M) : V E d y cc nL ret Qc pc L (.inl z :: .inl x :: S) M := by
  intro p e s m args below meth c H locs ls C hP hS hl
  exact lv_icmp_gt C.1 C.2.1 hd ht (fun q => kt q p e s m args below meth c H locs ls C hP hS hl) (fun q => kf q p e s m args below meth c H locs ls C hP hS hl)
theorem v_if_gt {x : Int32} {off : Int} {tgt : Nat} (hd : decode cc pc = .ok (.ifCond .gt off, 3)) (ht : (pc : Int) + off = (tgt : Int)) (kt : 0 < x → V E d y cc nL ret Qc tgt L S M) (kf : ¬ (0 < x) → V E d y cc nL ret Qc (pc + 3) L S M) : V E d y cc nL ret Qc pc L (.inl x :: S) M := by
  intro p e s m args below meth c H locs ls C hP hS hl
  exact lv_if_gt C.1 C.2.1 hd ht (fun q => kt q p e s m args below meth c H locs ls C hP hS hl) (fun q => kf q p e s m args below meth c H locs ls C hP hS hl)
theorem v_icmp_le {x z : Int32} {off : Int} {tgt : Nat} (hd : decode cc pc = .ok (.if_icmp .le off, 3)) (ht : (pc : Int) + off = (tgt : Int)) (kt : x ≤ z → V E d y cc nL ret Qc tgt L S M) (kf : ¬ (x ≤ z) → V E d y cc nL ret Qc (pc + 3) L S M) : V E d y cc nL ret Qc pc L (.inl z :: .inl x :: S) M := by
  intro p e s m args below meth c H locs ls C hP hS hl
  exact lv_icmp_le C.1 C.2.1 hd ht (fun q => kt q p e s m args below meth c H locs ls C hP hS hl) (fun q => kf q p e s m args below meth c H locs ls C hP hS hl)
theorem v_if_le {x : Int32} {off : Int} {tgt : Nat} (hd : decode cc pc = .ok (.ifCond .le off, 3)) (ht : (pc : Int) + off = (tgt : Int)) (kt : x ≤ 0 → V E d y cc nL ret Qc tgt L S M) (kf : ¬ (x ≤ 0) → V E d y cc nL ret Qc (pc + 3) L S M) : V E d y cc nL ret Qc pc L (.inl x :: S) M := by
  intro p e s m args below meth c H locs ls C hP hS hl
  exact lv_if_le C.1 C.2.1 hd ht (fun q => kt q p e s m args below meth c H locs ls C hP hS hl) (fun q => kf q p e s m args below meth c H locs ls C hP hS hl)
theorem v_goto {off : Int} {tgt : Nat} (hd : decode cc pc = .ok (.goto off, 3)) (ht : (pc : Int) + off = (tgt : Int)) (k : V E d y cc nL ret Qc tgt L S M) : V E d y cc nL ret Qc pc L S M := by
  intro p e s m args below meth c H locs ls C hP hS hl
  exact lv_goto C.1 C.2.1 hd ht (k p e s m args below meth c H locs ls C hP hS hl)
theorem v_tsIn {dflt lo hi : Int} {offs : Array Int} {len : Nat} {x : Int32} {off : Int} {tgt : Nat} (hd : decode cc pc = .ok (.tableswitch dflt lo hi offs, len)) (h1 : ¬ x.toInt < lo) (h2 : ¬ hi < x.toInt) (ho : offs[(x.toInt - lo).toNat]? = some off) (ht : (pc : Int) + off = (tgt : Int)) (k : V E d y cc nL ret Qc tgt L S M) : V E d y cc nL ret Qc pc L (.inl x :: S) M := by
  intro p e s m args below meth c H locs ls C hP hS hl
  exact lv_tableIn C.1 C.2.1 hd h1 h2 ho ht (k p e s m args below meth c H locs ls C hP hS hl)
theorem v_tsOut {dflt lo hi : Int} {offs : Array Int} {len : Nat} {x : Int32} {tgt : Nat} (hd : decode cc pc = .ok (.tableswitch dflt lo hi offs, len)) (h : x.toInt < lo ∨ hi < x.toInt) (ht : (pc : Int) + dflt = (tgt : Int)) (k : V E d y cc nL ret Qc tgt L S M) : V E d y cc nL ret Qc pc L (.inl x :: S) M := by
  intro p e s m args below meth c H locs ls C hP hS hl
  exact lv_tableOut C.1 C.2.1 hd h ht (k p e s m args below meth c H locs ls C hP hS hl)
theorem v_lsw {dflt : Int} {ps : Array (Int × Int)} {len : Nat} {x : Int32} {off : Int} {tgt : Nat} (hd : decode cc pc = .ok (.lookupswitch dflt ps, len)) (hp : (ps.toList.zip (ps.toList.drop 1)).all (fun (a, next) => a.1 < next.1) = true) (ho : Op.lookupswitch.offset ps.toList dflt x.toInt = off) (ht : (pc : Int) + off = (tgt : Int)) (k : V E d y cc nL ret Qc tgt L S M) : V E d y cc nL ret Qc pc L (.inl x :: S) M := by
  intro p e s m args below meth c H locs ls C hP hS hl
  exact lv_lookup C.1 C.2.1 hd hp ho ht (k p e s m args below meth c H locs ls C hP hS hl)
-- fields
theorem v_geti {a ci i k0 : Nat} {fs : List (Option Nat)} (hd : decode cc pc = .ok (.getfield i, 3)) (hg : GF y.cls i ci k0) (ha : sh a = .inr (ci, fs)) (hf : fs[k0]? = some none) (k : V E d y cc nL ret Qc (pc + 3) L (.inl (M a k0) :: S) M) : V E d y cc nL ret Qc pc L (.inr a :: S) M := by
  intro p e s m args below meth c H locs ls C hP hS hl
  have hlt : a < NC := sh_lt ha (by intro q; cases q; simp at hf)
  have he : (wl E M)[a]? = some (eA E a, .inr (ci, fs.zipIdx.map (fv E M a))) := by rw [wl_at E M hlt]; unfold ce; rw [ha]; rfl
  obtain ⟨C0, T, N, hin, hlink, hc, hk⟩ := hg
  exact va_get C.1 C.2.1 C.2.2.2.2.2.1 hin C.2.2.2.2.1 C.2.2.2.2.2.2.2.1 hP a he hc k0 hk (C.2.2.2.2.2.1 _ hlink) (fun x h => h) (v := .int (M a k0)) (fz_at E M a hf) hd (k p e s m args below meth c H locs ls C hP hS hl)
theorem v_getr {a ci i k0 r : Nat} {fs : List (Option Nat)} (hd : decode cc pc = .ok (.getfield i, 3)) (hg : GF y.cls i ci k0) (ha : sh a = .inr (ci, fs)) (hf : fs[k0]? = some (some r)) (k : V E d y cc nL ret Qc (pc + 3) L (.inr r :: S) M) : V E d y cc nL ret Qc pc L (.inr a :: S) M := by
  intro p e s m args below meth c H locs ls C hP hS hl
  have hlt : a < NC := sh_lt ha (by intro q; cases q; simp at hf)
  have he : (wl E M)[a]? = some (eA E a, .inr (ci, fs.zipIdx.map (fv E M a))) := by rw [wl_at E M hlt]; unfold ce; rw [ha]; rfl
  obtain ⟨C0, T, N, hin, hlink, hc, hk⟩ := hg
  exact va_get C.1 C.2.1 C.2.2.2.2.2.1 hin C.2.2.2.2.1 C.2.2.2.2.2.2.2.1 hP a he hc k0 hk (C.2.2.2.2.2.1 _ hlink) (fun x h => h) (v := .ref (eA E r)) (fz_at E M a hf) hd (k p e s m args below meth c H locs ls C hP hS hl)
theorem v_puti {a ci i k0 : Nat} {fs : List (Option Nat)} {ty : FieldType} {x : Int32} (hd : decode cc pc = .ok (.putfield i, 3)) (hg : PF y.cls i ci k0 ty) (ha : sh a = .inr (ci, fs)) (hf : fs[k0]? = some none) (hn : narrow ty (.int x) = .int x) (hfit : fits ty (.int x) = true) (k : V E d y cc nL ret Qc (pc + 3) L S (wr M a k0 x)) : V E d y cc nL ret Qc pc L (.inl x :: .inr a :: S) M := by
  intro p e s m args below meth c H locs ls C hP hS hl
  have hlt : a < NC := sh_lt ha (by intro q; cases q; simp at hf)
  have he : (wl E M)[a]? = some (eA E a, .inr (ci, fs.zipIdx.map (fv E M a))) := by rw [wl_at E M hlt]; unfold ce; rw [ha]; rfl
  obtain ⟨C0, T, N, ty0, hin, hty, hnm, hlink, hc, hk, hfin, hy0⟩ := hg
  subst hy0
  refine va_put C.1 C.2.1 C.2.2.2.2.2.1 hin ty0 hty hnm C.2.2.2.2.1 C.2.2.2.2.2.2.2.1 hP (wl_D C.2.2.2.2.2.2.2.2.2 M) hS a he hc k0 hk (C.2.2.2.2.2.1 _ hlink) (fun x h => h) hfin (hty k0 hk) hn hfit (by simpa using (List.getElem?_eq_some_iff.mp hf).1) hd (fun H1 locs1 hP1 hD1 hS1 => ?_)
  have h2 := wl_obj E M (v := x) ha hf
  have hP2 : va_P (eD E) vwCl (wl E (wr M a k0 x)) H1 := by rw [← h2]; exact hP1
  exact k p e s m args below meth c H1 locs1 ls C hP2 hS1 hl
-- arrays
theorem v_iald {a n : Nat} {i : Int32} (hd : decode cc pc = .ok (.iaload, 1)) (ha : sh a = .inl (0, n, none)) (hi : vp_in i n) (k : V E d y cc nL ret Qc (pc + 1) L (.inl (M a i.toNatClampNeg) :: S) M) : V E d y cc nL ret Qc pc L (.inl i :: .inr a :: S) M := by
  intro p e s m args below meth c H locs ls C hP hS hl
  have hlt : a < NC := sh_lt ha (by intro q; cases q)
  have he : (wl E M)[a]? = some (eA E a, .inl (eC E 0, n, .inl (M a))) := by rw [wl_at E M hlt]; unfold ce; rw [ha]; rfl
  exact va_iald C.1 C.2.1 C.2.2.2.2.2.2.2.1 hP a 0 he (tys_at E rfl) hi hd (k p e s m args below meth c H locs ls C hP hS hl)
theorem v_ialdN {a n i : Nat} (hd : decode cc pc = .ok (.iaload, 1)) (ha : sh a = .inl (0, n, none)) (hi : i < n) (hn : n < 2 ^ 31) (k : V E d y cc nL ret Qc (pc + 1) L (.inl (M a i) :: S) M) : V E d y cc nL ret Qc pc L (.inl (nI i) :: .inr a :: S) M :=
  v_iald hd ha (vp_in_nI hi hn) (by rw [nI_clamp (by omega)]; exact k)
theorem v_bald {a n : Nat} {i : Int32} (hd : decode cc pc = .ok (.baload, 1)) (ha : sh a = .inl (1, n, none)) (hi : vp_in i n) (k : V E d y cc nL ret Qc (pc + 1) L (.inl (M a i.toNatClampNeg) :: S) M) : V E d y cc nL ret Qc pc L (.inl i :: .inr a :: S) M := by
  intro p e s m args below meth c H locs ls C hP hS hl
  have hlt : a < NC := sh_lt ha (by intro q; cases q)
  have he : (wl E M)[a]? = some (eA E a, .inl (eC E 1, n, .inl (M a))) := by rw [wl_at E M hlt]; unfold ce; rw [ha]; rfl
  exact va_bald C.1 C.2.1 C.2.2.2.2.2.2.2.1 hP a 1 he (tys_at E rfl) hi hd (k p e s m args below meth c H locs ls C hP hS hl)
theorem v_baldN {a n i : Nat} (hd : decode cc pc = .ok (.baload, 1)) (ha : sh a = .inl (1, n, none)) (hi : i < n) (hn : n < 2 ^ 31) (k : V E d y cc nL ret Qc (pc + 1) L (.inl (M a i) :: S) M) : V E d y cc nL ret Qc pc L (.inl (nI i) :: .inr a :: S) M :=
  v_bald hd ha (vp_in_nI hi hn) (by rw [nI_clamp (by omega)]; exact k)
theorem v_zald {a n : Nat} {i : Int32} (hd : decode cc pc = .ok (.baload, 1)) (ha : sh a = .inl (2, n, none)) (hi : vp_in i n) (k : V E d y cc nL ret Qc (pc + 1) L (.inl (M a i.toNatClampNeg) :: S) M) : V E d y cc nL ret Qc pc L (.inl i :: .inr a :: S) M := by
  intro p e s m args below meth c H locs ls C hP hS hl
  have hlt : a < NC := sh_lt ha (by intro q; cases q)
  have he : (wl E M)[a]? = some (eA E a, .inl (eC E 2, n, .inl (M a))) := by rw [wl_at E M hlt]; unfold ce; rw [ha]; rfl
  exact va_zald C.1 C.2.1 C.2.2.2.2.2.2.2.1 hP a 2 he (tys_at E rfl) hi hd (k p e s m args below meth c H locs ls C hP hS hl)
theorem v_zaldN {a n i : Nat} (hd : decode cc pc = .ok (.baload, 1)) (ha : sh a = .inl (2, n, none)) (hi : i < n) (hn : n < 2 ^ 31) (k : V E d y cc nL ret Qc (pc + 1) L (.inl (M a i) :: S) M) : V E d y cc nL ret Qc pc L (.inl (nI i) :: .inr a :: S) M :=
  v_zald hd ha (vp_in_nI hi hn) (by rw [nI_clamp (by omega)]; exact k)
theorem v_cald {a n : Nat} {i : Int32} (hd : decode cc pc = .ok (.caload, 1)) (ha : sh a = .inl (3, n, none)) (hi : vp_in i n) (k : V E d y cc nL ret Qc (pc + 1) L (.inl (M a i.toNatClampNeg) :: S) M) : V E d y cc nL ret Qc pc L (.inl i :: .inr a :: S) M := by
  intro p e s m args below meth c H locs ls C hP hS hl
  have hlt : a < NC := sh_lt ha (by intro q; cases q)
  have he : (wl E M)[a]? = some (eA E a, .inl (eC E 3, n, .inl (M a))) := by rw [wl_at E M hlt]; unfold ce; rw [ha]; rfl
  exact va_cald C.1 C.2.1 C.2.2.2.2.2.2.2.1 hP a 3 he (tys_at E rfl) hi hd (k p e s m args below meth c H locs ls C hP hS hl)
theorem v_caldN {a n i : Nat} (hd : decode cc pc = .ok (.caload, 1)) (ha : sh a = .inl (3, n, none)) (hi : i < n) (hn : n < 2 ^ 31) (k : V E d y cc nL ret Qc (pc + 1) L (.inl (M a i) :: S) M) : V E d y cc nL ret Qc pc L (.inl (nI i) :: .inr a :: S) M :=
  v_cald hd ha (vp_in_nI hi hn) (by rw [nI_clamp (by omega)]; exact k)
theorem v_iast {a n : Nat} {i x : Int32} (hd : decode cc pc = .ok (.iastore, 1)) (ha : sh a = .inl (0, n, none)) (hi : vp_in i n) (k : V E d y cc nL ret Qc (pc + 1) L S (wr M a i.toNatClampNeg (x))) : V E d y cc nL ret Qc pc L (.inl x :: .inl i :: .inr a :: S) M := by
  intro p e s m args below meth c H locs ls C hP hS hl
  have hlt : a < NC := sh_lt ha (by intro q; cases q)
  have he : (wl E M)[a]? = some (eA E a, .inl (eC E 0, n, .inl (M a))) := by rw [wl_at E M hlt]; unfold ce; rw [ha]; rfl
  refine va_iast C.1 C.2.1 C.2.2.2.2.2.2.2.1 hP (wl_D C.2.2.2.2.2.2.2.2.2 M) hS a 0 he (tys_at E rfl) hi hd (fun H1 locs1 hP1 hD1 hS1 => ?_)
  rw [wl_arr E M ha] at hP1
  exact k p e s m args below meth c H1 locs1 ls C hP1 hS1 hl
theorem v_iastN {a n i : Nat} {x : Int32} (hd : decode cc pc = .ok (.iastore, 1)) (ha : sh a = .inl (0, n, none)) (hi : i < n) (hn : n < 2 ^ 31) (k : V E d y cc nL ret Qc (pc + 1) L S (wr M a i (x))) : V E d y cc nL ret Qc pc L (.inl x :: .inl (nI i) :: .inr a :: S) M :=
  v_iast hd ha (vp_in_nI hi hn) (by rw [nI_clamp (by omega)]; exact k)
theorem v_bast {a n : Nat} {i x : Int32} (hd : decode cc pc = .ok (.bastore, 1)) (ha : sh a = .inl (1, n, none)) (hi : vp_in i n) (k : V E d y cc nL ret Qc (pc + 1) L S (wr M a i.toNatClampNeg (vp_nar .byte x))) : V E d y cc nL ret Qc pc L (.inl x :: .inl i :: .inr a :: S) M := by
  intro p e s m args below meth c H locs ls C hP hS hl
  have hlt : a < NC := sh_lt ha (by intro q; cases q)
  have he : (wl E M)[a]? = some (eA E a, .inl (eC E 1, n, .inl (M a))) := by rw [wl_at E M hlt]; unfold ce; rw [ha]; rfl
  refine va_bast C.1 C.2.1 C.2.2.2.2.2.2.2.1 hP (wl_D C.2.2.2.2.2.2.2.2.2 M) hS a 1 he (tys_at E rfl) hi hd (fun H1 locs1 hP1 hD1 hS1 => ?_)
  rw [wl_arr E M ha] at hP1
  exact k p e s m args below meth c H1 locs1 ls C hP1 hS1 hl
theorem v_bastN {a n i : Nat} {x : Int32} (hd : decode cc pc = .ok (.bastore, 1)) (ha : sh a = .inl (1, n, none)) (hi : i < n) (hn : n < 2 ^ 31) (k : V E d y cc nL ret Qc (pc + 1) L S (wr M a i (vp_nar .byte x))) : V E d y cc nL ret Qc pc L (.inl x :: .inl (nI i) :: .inr a :: S) M :=
  v_bast hd ha (vp_in_nI hi hn) (by rw [nI_clamp (by omega)]; exact k)
theorem v_zast {a n : Nat} {i x : Int32} (hd : decode cc pc = .ok (.bastore, 1)) (ha : sh a = .inl (2, n, none)) (hi : vp_in i n) (k : V E d y cc nL ret Qc (pc + 1) L S (wr M a i.toNatClampNeg (vp_nar .boolean x))) : V E d y cc nL ret Qc pc L (.inl x :: .inl i :: .inr a :: S) M := by
  intro p e s m args below meth c H locs ls C hP hS hl
  have hlt : a < NC := sh_lt ha (by intro q; cases q)
  have he : (wl E M)[a]? = some (eA E a, .inl (eC E 2, n, .inl (M a))) := by rw [wl_at E M hlt]; unfold ce; rw [ha]; rfl
  refine va_zast C.1 C.2.1 C.2.2.2.2.2.2.2.1 hP (wl_D C.2.2.2.2.2.2.2.2.2 M) hS a 2 he (tys_at E rfl) hi hd (fun H1 locs1 hP1 hD1 hS1 => ?_)
  rw [wl_arr E M ha] at hP1
  exact k p e s m args below meth c H1 locs1 ls C hP1 hS1 hl
theorem v_zastN {a n i : Nat} {x : Int32} (hd : decode cc pc = .ok (.bastore, 1)) (ha : sh a = .inl (2, n, none)) (hi : i < n) (hn : n < 2 ^ 31) (k : V E d y cc nL ret Qc (pc + 1) L S (wr M a i (vp_nar .boolean x))) : V E d y cc nL ret Qc pc L (.inl x :: .inl (nI i) :: .inr a :: S) M :=
  v_zast hd ha (vp_in_nI hi hn) (by rw [nI_clamp (by omega)]; exact k)
theorem v_cast {a n : Nat} {i x : Int32} (hd : decode cc pc = .ok (.castore, 1)) (ha : sh a = .inl (3, n, none)) (hi : vp_in i n) (k : V E d y cc nL ret Qc (pc + 1) L S (wr M a i.toNatClampNeg (vp_nar .char x))) : V E d y cc nL ret Qc pc L (.inl x :: .inl i :: .inr a :: S) M := by
  intro p e s m args below meth c H locs ls C hP hS hl
  have hlt : a < NC := sh_lt ha (by intro q; cases q)
  have he : (wl E M)[a]? = some (eA E a, .inl (eC E 3, n, .inl (M a))) := by rw [wl_at E M hlt]; unfold ce; rw [ha]; rfl
  refine va_cast C.1 C.2.1 C.2.2.2.2.2.2.2.1 hP (wl_D C.2.2.2.2.2.2.2.2.2 M) hS a 3 he (tys_at E rfl) hi hd (fun H1 locs1 hP1 hD1 hS1 => ?_)
  rw [wl_arr E M ha] at hP1
  exact k p e s m args below meth c H1 locs1 ls C hP1 hS1 hl
theorem v_castN {a n i : Nat} {x : Int32} (hd : decode cc pc = .ok (.castore, 1)) (ha : sh a = .inl (3, n, none)) (hi : i < n) (hn : n < 2 ^ 31) (k : V E d y cc nL ret Qc (pc + 1) L S (wr M a i (vp_nar .char x))) : V E d y cc nL ret Qc pc L (.inl x :: .inl (nI i) :: .inr a :: S) M :=
  v_cast hd ha (vp_in_nI hi hn) (by rw [nI_clamp (by omega)]; exact k)
theorem v_aald {a t n : Nat} {g : Nat → Nat} {C0 : String} {i : Int32} (hd : decode cc pc = .ok (.aaload, 1)) (ha : sh a = .inl (t, n, some g)) (ht : aty[t]? = some (.object C0)) (hi : vp_in i n) (k : V E d y cc nL ret Qc (pc + 1) L (.inr (g i.toNatClampNeg) :: S) M) : V E d y cc nL ret Qc pc L (.inl i :: .inr a :: S) M := by
  intro p e s m args below meth c H locs ls C hP hS hl
  have hlt : a < NC := sh_lt ha (by intro q; cases q)
  have he : (wl E M)[a]? = some (eA E a, .inl (eC E t, n, .inr (.inr (.inr (.inr (fun j => some (eA E (g j)))))))) := by rw [wl_at E M hlt]; unfold ce; rw [ha]; rfl
  exact va_aldq C.1 C.2.1 C.2.2.2.2.2.2.2.1 hP a t he (tys_at E ht) hi hd (k p e s m args below meth c H locs ls C hP hS hl)
theorem v_aaldN {a t n i : Nat} {g : Nat → Nat} {C0 : String} (hd : decode cc pc = .ok (.aaload, 1)) (ha : sh a = .inl (t, n, some g)) (ht : aty[t]? = some (.object C0)) (hi : i < n) (hn : n < 2 ^ 31) (k : V E d y cc nL ret Qc (pc + 1) L (.inr (g i) :: S) M) : V E d y cc nL ret Qc pc L (.inl (nI i) :: .inr a :: S) M :=
  v_aald hd ha ht (vp_in_nI hi hn) (by rw [nI_clamp (by omega)]; exact k)
end VR
