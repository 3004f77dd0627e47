/-! counties taken over -/
def FrT (c : Nat) (M M' : mm) : Prop := ∀ a, ¬ (c ≤ a ∧ a < c + 9) → M' a = M a
def FrX (M M' : mm) : Prop := ∀ a, ¬ (56 ≤ a ∧ a < 65) → a ≠ 3 → a ≠ 4 → a ≠ 91 → M' a = M a
theorem FrX.rf (M : mm) : FrX M M := fun _ _ _ _ _ => rfl
theorem FrX.tr {A B C : mm} (h : FrX A B) (g : FrX B C) : FrX A C := fun a h1 h2 h3 h4 => (g a h1 h2 h3 h4).trans (h a h1 h2 h3 h4)
theorem FrX.t {A B : mm} (h : FrT 56 A B) : FrX A B := fun a h1 _ _ _ => h a h1
theorem FrX.c {A B : mm} (h : FrC 56 A B) : FrX A B := fun a h1 h2 h3 _ => h a (by omega) h2 h3
theorem cv_ext {M M' : mm} {c c' : Nat} (h0 : ∀ k, k = 1 ∨ (9 ≤ k ∧ k ≤ 14) → M' c k = M c' k) (h1 : ∀ r, 1 ≤ r → r ≤ 4 → ∀ j, j < 8 → M' (c + r) j = M (c' + r) j) (h5 : ∀ j, j < 48 → M' (c + 5) j = M (c' + 5) j) (h6 : ∀ j, j < 6 → M' (c + 6) j = M (c' + 6) j) (h7 : ∀ j, j < 6 → M' (c + 7) j = M (c' + 7) j) : cv M' c = cv M c' := by
  funext i
  unfold cv
  split
  · apply h0
    rcases (show i = 0 ∨ i = 1 ∨ i = 2 ∨ i = 3 ∨ i = 4 ∨ i = 5 ∨ i = 6 by omega) with rfl | rfl | rfl | rfl | rfl | rfl | rfl <;> simp
  · split
    · exact h6 _ (by omega)
    · split
      · exact h7 _ (by omega)
      · split
        · split
          · rw [show c + 1 + (i - 19) % 10 = c + (1 + (i - 19) % 10) by omega, show c' + 1 + (i - 19) % 10 = c' + (1 + (i - 19) % 10) by omega]
            exact h1 _ (by omega) (by omega) _ (by omega)
          · exact h5 _ (by omega)
        · rfl
theorem TxC.over {c c' T : Nat} {tt : Nat → tx} {M M' : mm} (hc : CB c) (h : TxC M c' tt T) (hv : cv M' c = cv M c') (hl : ∀ j, j < 3 → M' (c + 8) j = M (c' + 8) j) (hf : FrT c M M') : TxC M' c tt T := by
  have hb := hc.ge
  have h14 := h.1
  refine ⟨h.1, (congrFun hv 6).trans h.2.1, fun t ht => ?_, fun key hk => by rw [hl key hk]; exact h.2.2.2 key hk⟩
  obtain ⟨a1, a2, a3, a4, a5⟩ := h.2.2.1 t ht
  have e1 : M' (5 + 2 * t) = M (5 + 2 * t) := hf _ (by omega)
  have e2 : M' (5 + 2 * t + 1) = M (5 + 2 * t + 1) := hf _ (by omega)
  exact ⟨a1, by rw [e1]; exact a2, by rw [e1]; exact a3, by rw [e1]; exact a4, fun i hi => by rw [e2]; exact a5 i hi⟩
set_option maxRecDepth 100000 in
set_option maxHeartbeats 4000000 in
theorem kC_over_56_38 (E : ev) (Mz : mm)  : Ct E 2 yX0_takeOver cX0_takeOver 2 none [.inr 56, .inr 38] Mz (qV E (fun M' => cv M' 56 = cv Mz 38 ∧ (∀ j, j < 3 → M' 64 j = Mz 46 j) ∧ FrT 56 Mz M')) := by
  refine ct_of (by decide) (Nat.le_of_ble_eq_true rfl) ?_
  show V E 2 _ _ _ _ _ 0 [some (.inr 56), some (.inr 38)] [] Mz
  refine v_ald0 dX0_takeOver_0 ?_
  refine v_ald1 dX0_takeOver_1 ?_
  refine v_geti dX0_takeOver_2 gX0_44 sh_38 rfl ?_
  refine v_puti dX0_takeOver_5 pX0_44 sh_56 rfl rfl rfl ?_
  refine v_ald1 dX0_takeOver_8 ?_
  refine v_getr dX0_takeOver_9 gX0_9 sh_38 rfl ?_
  refine v_iconstN (n := 0) dX0_takeOver_12 ?_
  refine v_ald0 dX0_takeOver_13 ?_
  refine v_getr dX0_takeOver_14 gX0_9 sh_56 rfl ?_
  refine v_iconstN (n := 0) dX0_takeOver_17 ?_
  refine v_bipushN (n := 8) dX0_takeOver_18 (by decide) ?_
  refine v_acopy dX0_takeOver_20 aX0_47 (by decide) (Nat.le_of_ble_eq_true rfl) sh_39 sh_57 (by decide) (by decide) (by decide) (by decide) ?_
  refine v_ald1 dX0_takeOver_23 ?_
  refine v_getr dX0_takeOver_24 gX0_15 sh_38 rfl ?_
  refine v_iconstN (n := 0) dX0_takeOver_27 ?_
  refine v_ald0 dX0_takeOver_28 ?_
  refine v_getr dX0_takeOver_29 gX0_15 sh_56 rfl ?_
  refine v_iconstN (n := 0) dX0_takeOver_32 ?_
  refine v_bipushN (n := 8) dX0_takeOver_33 (by decide) ?_
  refine v_acopy dX0_takeOver_35 aX0_47 (by decide) (Nat.le_of_ble_eq_true rfl) sh_40 sh_58 (by decide) (by decide) (by decide) (by decide) ?_
  refine v_ald1 dX0_takeOver_38 ?_
  refine v_getr dX0_takeOver_39 gX0_18 sh_38 rfl ?_
  refine v_iconstN (n := 0) dX0_takeOver_42 ?_
  refine v_ald0 dX0_takeOver_43 ?_
  refine v_getr dX0_takeOver_44 gX0_18 sh_56 rfl ?_
  refine v_iconstN (n := 0) dX0_takeOver_47 ?_
  refine v_bipushN (n := 8) dX0_takeOver_48 (by decide) ?_
  refine v_acopy dX0_takeOver_50 aX0_47 (by decide) (Nat.le_of_ble_eq_true rfl) sh_41 sh_59 (by decide) (by decide) (by decide) (by decide) ?_
  refine v_ald1 dX0_takeOver_53 ?_
  refine v_getr dX0_takeOver_54 gX0_21 sh_38 rfl ?_
  refine v_iconstN (n := 0) dX0_takeOver_57 ?_
  refine v_ald0 dX0_takeOver_58 ?_
  refine v_getr dX0_takeOver_59 gX0_21 sh_56 rfl ?_
  refine v_iconstN (n := 0) dX0_takeOver_62 ?_
  refine v_bipushN (n := 8) dX0_takeOver_63 (by decide) ?_
  refine v_acopy dX0_takeOver_65 aX0_47 (by decide) (Nat.le_of_ble_eq_true rfl) sh_42 sh_60 (by decide) (by decide) (by decide) (by decide) ?_
  refine v_ald1 dX0_takeOver_68 ?_
  refine v_getr dX0_takeOver_69 gX0_24 sh_38 rfl ?_
  refine v_iconstN (n := 0) dX0_takeOver_72 ?_
  refine v_ald0 dX0_takeOver_73 ?_
  refine v_getr dX0_takeOver_74 gX0_24 sh_56 rfl ?_
  refine v_iconstN (n := 0) dX0_takeOver_77 ?_
  refine v_bipushN (n := 48) dX0_takeOver_78 (by decide) ?_
  refine v_acopy dX0_takeOver_80 aX0_47 (by decide) (Nat.le_of_ble_eq_true rfl) sh_43 sh_61 (by decide) (by decide) (by decide) (by decide) ?_
  refine v_ald1 dX0_takeOver_83 ?_
  refine v_getr dX0_takeOver_84 gX0_27 sh_38 rfl ?_
  refine v_iconstN (n := 0) dX0_takeOver_87 ?_
  refine v_ald0 dX0_takeOver_88 ?_
  refine v_getr dX0_takeOver_89 gX0_27 sh_56 rfl ?_
  refine v_iconstN (n := 0) dX0_takeOver_92 ?_
  refine v_bipushN (n := 6) dX0_takeOver_93 (by decide) ?_
  refine v_acopy dX0_takeOver_95 aX0_47 (by decide) (Nat.le_of_ble_eq_true rfl) sh_44 sh_62 (by decide) (by decide) (by decide) (by decide) ?_
  refine v_ald1 dX0_takeOver_98 ?_
  refine v_getr dX0_takeOver_99 gX0_30 sh_38 rfl ?_
  refine v_iconstN (n := 0) dX0_takeOver_102 ?_
  refine v_ald0 dX0_takeOver_103 ?_
  refine v_getr dX0_takeOver_104 gX0_30 sh_56 rfl ?_
  refine v_iconstN (n := 0) dX0_takeOver_107 ?_
  refine v_bipushN (n := 6) dX0_takeOver_108 (by decide) ?_
  refine v_acopy dX0_takeOver_110 aX0_47 (by decide) (Nat.le_of_ble_eq_true rfl) sh_45 sh_63 (by decide) (by decide) (by decide) (by decide) ?_
  refine v_ald0 dX0_takeOver_113 ?_
  refine v_ald1 dX0_takeOver_114 ?_
  refine v_geti dX0_takeOver_115 gX0_53 sh_38 rfl ?_
  refine v_puti dX0_takeOver_118 pX0_53 sh_56 rfl rfl rfl ?_
  refine v_ald0 dX0_takeOver_121 ?_
  refine v_ald1 dX0_takeOver_122 ?_
  refine v_geti dX0_takeOver_123 gX0_56 sh_38 rfl ?_
  refine v_puti dX0_takeOver_126 pX0_56 sh_56 rfl rfl rfl ?_
  refine v_ald0 dX0_takeOver_129 ?_
  refine v_ald1 dX0_takeOver_130 ?_
  refine v_geti dX0_takeOver_131 gX0_59 sh_38 rfl ?_
  refine v_puti dX0_takeOver_134 pX0_59 sh_56 rfl rfl rfl ?_
  refine v_ald0 dX0_takeOver_137 ?_
  refine v_ald1 dX0_takeOver_138 ?_
  refine v_geti dX0_takeOver_139 gX0_62 sh_38 rfl ?_
  refine v_puti dX0_takeOver_142 pX0_62 sh_56 rfl rfl rfl ?_
  refine v_ald0 dX0_takeOver_145 ?_
  refine v_ald1 dX0_takeOver_146 ?_
  refine v_geti dX0_takeOver_147 gX0_33 sh_38 rfl ?_
  refine v_puti dX0_takeOver_150 pX0_33 sh_56 rfl rfl rfl ?_
  refine v_ald0 dX0_takeOver_153 ?_
  refine v_ald1 dX0_takeOver_154 ?_
  refine v_geti dX0_takeOver_155 gX0_65 sh_38 rfl ?_
  refine v_puti dX0_takeOver_158 pX0_65 sh_56 rfl rfl rfl ?_
  refine v_ald1 dX0_takeOver_161 ?_
  refine v_getr dX0_takeOver_162 gX0_37 sh_38 rfl ?_
  refine v_iconstN (n := 0) dX0_takeOver_165 ?_
  refine v_ald0 dX0_takeOver_166 ?_
  refine v_getr dX0_takeOver_167 gX0_37 sh_56 rfl ?_
  refine v_iconstN (n := 0) dX0_takeOver_170 ?_
  refine v_iconstN (n := 3) dX0_takeOver_171 ?_
  refine v_acopy dX0_takeOver_172 aX0_47 (by decide) (Nat.le_of_ble_eq_true rfl) sh_46 sh_64 (by decide) (by decide) (by decide) (by decide) ?_
  exact v_vret dX0_takeOver_175 rfl (⟨cv_ext (c := 56) (c' := 38) (fun k hk => by rcases (show k = 1 ∨ k = 9 ∨ k = 10 ∨ k = 11 ∨ k = 12 ∨ k = 13 ∨ k = 14 by omega) with rfl | rfl | rfl | rfl | rfl | rfl | rfl <;> rfl) (fun r h1 h4 j hj => by
        rcases (show r = 1 ∨ r = 2 ∨ r = 3 ∨ r = 4 by omega) with rfl | rfl | rfl | rfl
        · exact ((show _ = va_cpy (Mz 39) _ 0 0 8 j from rfl).trans (pk_cpy_in (Nat.zero_le _) (by omega))).trans (by show Mz _ (0 + (j - 0)) = _; rw [Nat.sub_zero, Nat.zero_add])
        · exact ((show _ = va_cpy (Mz 40) _ 0 0 8 j from rfl).trans (pk_cpy_in (Nat.zero_le _) (by omega))).trans (by show Mz _ (0 + (j - 0)) = _; rw [Nat.sub_zero, Nat.zero_add])
        · exact ((show _ = va_cpy (Mz 41) _ 0 0 8 j from rfl).trans (pk_cpy_in (Nat.zero_le _) (by omega))).trans (by show Mz _ (0 + (j - 0)) = _; rw [Nat.sub_zero, Nat.zero_add])
        · exact ((show _ = va_cpy (Mz 42) _ 0 0 8 j from rfl).trans (pk_cpy_in (Nat.zero_le _) (by omega))).trans (by show Mz _ (0 + (j - 0)) = _; rw [Nat.sub_zero, Nat.zero_add])) (fun j hj => ((show _ = va_cpy (Mz 43) _ 0 0 48 j from rfl).trans (pk_cpy_in (Nat.zero_le _) (by omega))).trans (by show Mz _ (0 + (j - 0)) = _; rw [Nat.sub_zero, Nat.zero_add])) (fun j hj => ((show _ = va_cpy (Mz 44) _ 0 0 6 j from rfl).trans (pk_cpy_in (Nat.zero_le _) (by omega))).trans (by show Mz _ (0 + (j - 0)) = _; rw [Nat.sub_zero, Nat.zero_add])) (fun j hj => ((show _ = va_cpy (Mz 45) _ 0 0 6 j from rfl).trans (pk_cpy_in (Nat.zero_le _) (by omega))).trans (by show Mz _ (0 + (j - 0)) = _; rw [Nat.sub_zero, Nat.zero_add])), fun j hj => ((show _ = va_cpy (Mz 46) _ 0 0 3 j from rfl).trans (pk_cpy_in (Nat.zero_le _) (by omega))).trans (by show Mz _ (0 + (j - 0)) = _; rw [Nat.sub_zero, Nat.zero_add]), fun a ha => by rw [wa_ne (show a ≠ 64 by omega), wr_ne (show a ≠ 56 by omega), wr_ne (show a ≠ 56 by omega), wr_ne (show a ≠ 56 by omega), wr_ne (show a ≠ 56 by omega), wr_ne (show a ≠ 56 by omega), wr_ne (show a ≠ 56 by omega), wa_ne (show a ≠ 63 by omega), wa_ne (show a ≠ 62 by omega), wa_ne (show a ≠ 61 by omega), wa_ne (show a ≠ 60 by omega), wa_ne (show a ≠ 59 by omega), wa_ne (show a ≠ 58 by omega), wa_ne (show a ≠ 57 by omega), wr_ne (show a ≠ 56 by omega)]⟩)
set_option maxRecDepth 100000 in
set_option maxHeartbeats 4000000 in
theorem kC_over_56_47 (E : ev) (Mz : mm)  : Ct E 2 yX0_takeOver cX0_takeOver 2 none [.inr 56, .inr 47] Mz (qV E (fun M' => cv M' 56 = cv Mz 47 ∧ (∀ j, j < 3 → M' 64 j = Mz 55 j) ∧ FrT 56 Mz M')) := by
  refine ct_of (by decide) (Nat.le_of_ble_eq_true rfl) ?_
  show V E 2 _ _ _ _ _ 0 [some (.inr 56), some (.inr 47)] [] Mz
  refine v_ald0 dX0_takeOver_0 ?_
  refine v_ald1 dX0_takeOver_1 ?_
  refine v_geti dX0_takeOver_2 gX0_44 sh_47 rfl ?_
  refine v_puti dX0_takeOver_5 pX0_44 sh_56 rfl rfl rfl ?_
  refine v_ald1 dX0_takeOver_8 ?_
  refine v_getr dX0_takeOver_9 gX0_9 sh_47 rfl ?_
  refine v_iconstN (n := 0) dX0_takeOver_12 ?_
  refine v_ald0 dX0_takeOver_13 ?_
  refine v_getr dX0_takeOver_14 gX0_9 sh_56 rfl ?_
  refine v_iconstN (n := 0) dX0_takeOver_17 ?_
  refine v_bipushN (n := 8) dX0_takeOver_18 (by decide) ?_
  refine v_acopy dX0_takeOver_20 aX0_47 (by decide) (Nat.le_of_ble_eq_true rfl) sh_48 sh_57 (by decide) (by decide) (by decide) (by decide) ?_
  refine v_ald1 dX0_takeOver_23 ?_
  refine v_getr dX0_takeOver_24 gX0_15 sh_47 rfl ?_
  refine v_iconstN (n := 0) dX0_takeOver_27 ?_
  refine v_ald0 dX0_takeOver_28 ?_
  refine v_getr dX0_takeOver_29 gX0_15 sh_56 rfl ?_
  refine v_iconstN (n := 0) dX0_takeOver_32 ?_
  refine v_bipushN (n := 8) dX0_takeOver_33 (by decide) ?_
  refine v_acopy dX0_takeOver_35 aX0_47 (by decide) (Nat.le_of_ble_eq_true rfl) sh_49 sh_58 (by decide) (by decide) (by decide) (by decide) ?_
  refine v_ald1 dX0_takeOver_38 ?_
  refine v_getr dX0_takeOver_39 gX0_18 sh_47 rfl ?_
  refine v_iconstN (n := 0) dX0_takeOver_42 ?_
  refine v_ald0 dX0_takeOver_43 ?_
  refine v_getr dX0_takeOver_44 gX0_18 sh_56 rfl ?_
  refine v_iconstN (n := 0) dX0_takeOver_47 ?_
  refine v_bipushN (n := 8) dX0_takeOver_48 (by decide) ?_
  refine v_acopy dX0_takeOver_50 aX0_47 (by decide) (Nat.le_of_ble_eq_true rfl) sh_50 sh_59 (by decide) (by decide) (by decide) (by decide) ?_
  refine v_ald1 dX0_takeOver_53 ?_
  refine v_getr dX0_takeOver_54 gX0_21 sh_47 rfl ?_
  refine v_iconstN (n := 0) dX0_takeOver_57 ?_
  refine v_ald0 dX0_takeOver_58 ?_
  refine v_getr dX0_takeOver_59 gX0_21 sh_56 rfl ?_
  refine v_iconstN (n := 0) dX0_takeOver_62 ?_
  refine v_bipushN (n := 8) dX0_takeOver_63 (by decide) ?_
  refine v_acopy dX0_takeOver_65 aX0_47 (by decide) (Nat.le_of_ble_eq_true rfl) sh_51 sh_60 (by decide) (by decide) (by decide) (by decide) ?_
  refine v_ald1 dX0_takeOver_68 ?_
  refine v_getr dX0_takeOver_69 gX0_24 sh_47 rfl ?_
  refine v_iconstN (n := 0) dX0_takeOver_72 ?_
  refine v_ald0 dX0_takeOver_73 ?_
  refine v_getr dX0_takeOver_74 gX0_24 sh_56 rfl ?_
  refine v_iconstN (n := 0) dX0_takeOver_77 ?_
  refine v_bipushN (n := 48) dX0_takeOver_78 (by decide) ?_
  refine v_acopy dX0_takeOver_80 aX0_47 (by decide) (Nat.le_of_ble_eq_true rfl) sh_52 sh_61 (by decide) (by decide) (by decide) (by decide) ?_
  refine v_ald1 dX0_takeOver_83 ?_
  refine v_getr dX0_takeOver_84 gX0_27 sh_47 rfl ?_
  refine v_iconstN (n := 0) dX0_takeOver_87 ?_
  refine v_ald0 dX0_takeOver_88 ?_
  refine v_getr dX0_takeOver_89 gX0_27 sh_56 rfl ?_
  refine v_iconstN (n := 0) dX0_takeOver_92 ?_
  refine v_bipushN (n := 6) dX0_takeOver_93 (by decide) ?_
  refine v_acopy dX0_takeOver_95 aX0_47 (by decide) (Nat.le_of_ble_eq_true rfl) sh_53 sh_62 (by decide) (by decide) (by decide) (by decide) ?_
  refine v_ald1 dX0_takeOver_98 ?_
  refine v_getr dX0_takeOver_99 gX0_30 sh_47 rfl ?_
  refine v_iconstN (n := 0) dX0_takeOver_102 ?_
  refine v_ald0 dX0_takeOver_103 ?_
  refine v_getr dX0_takeOver_104 gX0_30 sh_56 rfl ?_
  refine v_iconstN (n := 0) dX0_takeOver_107 ?_
  refine v_bipushN (n := 6) dX0_takeOver_108 (by decide) ?_
  refine v_acopy dX0_takeOver_110 aX0_47 (by decide) (Nat.le_of_ble_eq_true rfl) sh_54 sh_63 (by decide) (by decide) (by decide) (by decide) ?_
  refine v_ald0 dX0_takeOver_113 ?_
  refine v_ald1 dX0_takeOver_114 ?_
  refine v_geti dX0_takeOver_115 gX0_53 sh_47 rfl ?_
  refine v_puti dX0_takeOver_118 pX0_53 sh_56 rfl rfl rfl ?_
  refine v_ald0 dX0_takeOver_121 ?_
  refine v_ald1 dX0_takeOver_122 ?_
  refine v_geti dX0_takeOver_123 gX0_56 sh_47 rfl ?_
  refine v_puti dX0_takeOver_126 pX0_56 sh_56 rfl rfl rfl ?_
  refine v_ald0 dX0_takeOver_129 ?_
  refine v_ald1 dX0_takeOver_130 ?_
  refine v_geti dX0_takeOver_131 gX0_59 sh_47 rfl ?_
  refine v_puti dX0_takeOver_134 pX0_59 sh_56 rfl rfl rfl ?_
  refine v_ald0 dX0_takeOver_137 ?_
  refine v_ald1 dX0_takeOver_138 ?_
  refine v_geti dX0_takeOver_139 gX0_62 sh_47 rfl ?_
  refine v_puti dX0_takeOver_142 pX0_62 sh_56 rfl rfl rfl ?_
  refine v_ald0 dX0_takeOver_145 ?_
  refine v_ald1 dX0_takeOver_146 ?_
  refine v_geti dX0_takeOver_147 gX0_33 sh_47 rfl ?_
  refine v_puti dX0_takeOver_150 pX0_33 sh_56 rfl rfl rfl ?_
  refine v_ald0 dX0_takeOver_153 ?_
  refine v_ald1 dX0_takeOver_154 ?_
  refine v_geti dX0_takeOver_155 gX0_65 sh_47 rfl ?_
  refine v_puti dX0_takeOver_158 pX0_65 sh_56 rfl rfl rfl ?_
  refine v_ald1 dX0_takeOver_161 ?_
  refine v_getr dX0_takeOver_162 gX0_37 sh_47 rfl ?_
  refine v_iconstN (n := 0) dX0_takeOver_165 ?_
  refine v_ald0 dX0_takeOver_166 ?_
  refine v_getr dX0_takeOver_167 gX0_37 sh_56 rfl ?_
  refine v_iconstN (n := 0) dX0_takeOver_170 ?_
  refine v_iconstN (n := 3) dX0_takeOver_171 ?_
  refine v_acopy dX0_takeOver_172 aX0_47 (by decide) (Nat.le_of_ble_eq_true rfl) sh_55 sh_64 (by decide) (by decide) (by decide) (by decide) ?_
  exact v_vret dX0_takeOver_175 rfl (⟨cv_ext (c := 56) (c' := 47) (fun k hk => by rcases (show k = 1 ∨ k = 9 ∨ k = 10 ∨ k = 11 ∨ k = 12 ∨ k = 13 ∨ k = 14 by omega) with rfl | rfl | rfl | rfl | rfl | rfl | rfl <;> rfl) (fun r h1 h4 j hj => by
        rcases (show r = 1 ∨ r = 2 ∨ r = 3 ∨ r = 4 by omega) with rfl | rfl | rfl | rfl
        · exact ((show _ = va_cpy (Mz 48) _ 0 0 8 j from rfl).trans (pk_cpy_in (Nat.zero_le _) (by omega))).trans (by show Mz _ (0 + (j - 0)) = _; rw [Nat.sub_zero, Nat.zero_add])
        · exact ((show _ = va_cpy (Mz 49) _ 0 0 8 j from rfl).trans (pk_cpy_in (Nat.zero_le _) (by omega))).trans (by show Mz _ (0 + (j - 0)) = _; rw [Nat.sub_zero, Nat.zero_add])
        · exact ((show _ = va_cpy (Mz 50) _ 0 0 8 j from rfl).trans (pk_cpy_in (Nat.zero_le _) (by omega))).trans (by show Mz _ (0 + (j - 0)) = _; rw [Nat.sub_zero, Nat.zero_add])
        · exact ((show _ = va_cpy (Mz 51) _ 0 0 8 j from rfl).trans (pk_cpy_in (Nat.zero_le _) (by omega))).trans (by show Mz _ (0 + (j - 0)) = _; rw [Nat.sub_zero, Nat.zero_add])) (fun j hj => ((show _ = va_cpy (Mz 52) _ 0 0 48 j from rfl).trans (pk_cpy_in (Nat.zero_le _) (by omega))).trans (by show Mz _ (0 + (j - 0)) = _; rw [Nat.sub_zero, Nat.zero_add])) (fun j hj => ((show _ = va_cpy (Mz 53) _ 0 0 6 j from rfl).trans (pk_cpy_in (Nat.zero_le _) (by omega))).trans (by show Mz _ (0 + (j - 0)) = _; rw [Nat.sub_zero, Nat.zero_add])) (fun j hj => ((show _ = va_cpy (Mz 54) _ 0 0 6 j from rfl).trans (pk_cpy_in (Nat.zero_le _) (by omega))).trans (by show Mz _ (0 + (j - 0)) = _; rw [Nat.sub_zero, Nat.zero_add])), fun j hj => ((show _ = va_cpy (Mz 55) _ 0 0 3 j from rfl).trans (pk_cpy_in (Nat.zero_le _) (by omega))).trans (by show Mz _ (0 + (j - 0)) = _; rw [Nat.sub_zero, Nat.zero_add]), fun a ha => by rw [wa_ne (show a ≠ 64 by omega), wr_ne (show a ≠ 56 by omega), wr_ne (show a ≠ 56 by omega), wr_ne (show a ≠ 56 by omega), wr_ne (show a ≠ 56 by omega), wr_ne (show a ≠ 56 by omega), wr_ne (show a ≠ 56 by omega), wa_ne (show a ≠ 63 by omega), wa_ne (show a ≠ 62 by omega), wa_ne (show a ≠ 61 by omega), wa_ne (show a ≠ 60 by omega), wa_ne (show a ≠ 59 by omega), wa_ne (show a ≠ 58 by omega), wa_ne (show a ≠ 57 by omega), wr_ne (show a ≠ 56 by omega)]⟩)
set_option maxRecDepth 100000 in
set_option maxHeartbeats 4000000 in
theorem kC_over_47_38 (E : ev) (Mz : mm)  : Ct E 2 yX0_takeOver cX0_takeOver 2 none [.inr 47, .inr 38] Mz (qV E (fun M' => cv M' 47 = cv Mz 38 ∧ (∀ j, j < 3 → M' 55 j = Mz 46 j) ∧ FrT 47 Mz M')) := by
  refine ct_of (by decide) (Nat.le_of_ble_eq_true rfl) ?_
  show V E 2 _ _ _ _ _ 0 [some (.inr 47), some (.inr 38)] [] Mz
  refine v_ald0 dX0_takeOver_0 ?_
  refine v_ald1 dX0_takeOver_1 ?_
  refine v_geti dX0_takeOver_2 gX0_44 sh_38 rfl ?_
  refine v_puti dX0_takeOver_5 pX0_44 sh_47 rfl rfl rfl ?_
  refine v_ald1 dX0_takeOver_8 ?_
  refine v_getr dX0_takeOver_9 gX0_9 sh_38 rfl ?_
  refine v_iconstN (n := 0) dX0_takeOver_12 ?_
  refine v_ald0 dX0_takeOver_13 ?_
  refine v_getr dX0_takeOver_14 gX0_9 sh_47 rfl ?_
  refine v_iconstN (n := 0) dX0_takeOver_17 ?_
  refine v_bipushN (n := 8) dX0_takeOver_18 (by decide) ?_
  refine v_acopy dX0_takeOver_20 aX0_47 (by decide) (Nat.le_of_ble_eq_true rfl) sh_39 sh_48 (by decide) (by decide) (by decide) (by decide) ?_
  refine v_ald1 dX0_takeOver_23 ?_
  refine v_getr dX0_takeOver_24 gX0_15 sh_38 rfl ?_
  refine v_iconstN (n := 0) dX0_takeOver_27 ?_
  refine v_ald0 dX0_takeOver_28 ?_
  refine v_getr dX0_takeOver_29 gX0_15 sh_47 rfl ?_
  refine v_iconstN (n := 0) dX0_takeOver_32 ?_
  refine v_bipushN (n := 8) dX0_takeOver_33 (by decide) ?_
  refine v_acopy dX0_takeOver_35 aX0_47 (by decide) (Nat.le_of_ble_eq_true rfl) sh_40 sh_49 (by decide) (by decide) (by decide) (by decide) ?_
  refine v_ald1 dX0_takeOver_38 ?_
  refine v_getr dX0_takeOver_39 gX0_18 sh_38 rfl ?_
  refine v_iconstN (n := 0) dX0_takeOver_42 ?_
  refine v_ald0 dX0_takeOver_43 ?_
  refine v_getr dX0_takeOver_44 gX0_18 sh_47 rfl ?_
  refine v_iconstN (n := 0) dX0_takeOver_47 ?_
  refine v_bipushN (n := 8) dX0_takeOver_48 (by decide) ?_
  refine v_acopy dX0_takeOver_50 aX0_47 (by decide) (Nat.le_of_ble_eq_true rfl) sh_41 sh_50 (by decide) (by decide) (by decide) (by decide) ?_
  refine v_ald1 dX0_takeOver_53 ?_
  refine v_getr dX0_takeOver_54 gX0_21 sh_38 rfl ?_
  refine v_iconstN (n := 0) dX0_takeOver_57 ?_
  refine v_ald0 dX0_takeOver_58 ?_
  refine v_getr dX0_takeOver_59 gX0_21 sh_47 rfl ?_
  refine v_iconstN (n := 0) dX0_takeOver_62 ?_
  refine v_bipushN (n := 8) dX0_takeOver_63 (by decide) ?_
  refine v_acopy dX0_takeOver_65 aX0_47 (by decide) (Nat.le_of_ble_eq_true rfl) sh_42 sh_51 (by decide) (by decide) (by decide) (by decide) ?_
  refine v_ald1 dX0_takeOver_68 ?_
  refine v_getr dX0_takeOver_69 gX0_24 sh_38 rfl ?_
  refine v_iconstN (n := 0) dX0_takeOver_72 ?_
  refine v_ald0 dX0_takeOver_73 ?_
  refine v_getr dX0_takeOver_74 gX0_24 sh_47 rfl ?_
  refine v_iconstN (n := 0) dX0_takeOver_77 ?_
  refine v_bipushN (n := 48) dX0_takeOver_78 (by decide) ?_
  refine v_acopy dX0_takeOver_80 aX0_47 (by decide) (Nat.le_of_ble_eq_true rfl) sh_43 sh_52 (by decide) (by decide) (by decide) (by decide) ?_
  refine v_ald1 dX0_takeOver_83 ?_
  refine v_getr dX0_takeOver_84 gX0_27 sh_38 rfl ?_
  refine v_iconstN (n := 0) dX0_takeOver_87 ?_
  refine v_ald0 dX0_takeOver_88 ?_
  refine v_getr dX0_takeOver_89 gX0_27 sh_47 rfl ?_
  refine v_iconstN (n := 0) dX0_takeOver_92 ?_
  refine v_bipushN (n := 6) dX0_takeOver_93 (by decide) ?_
  refine v_acopy dX0_takeOver_95 aX0_47 (by decide) (Nat.le_of_ble_eq_true rfl) sh_44 sh_53 (by decide) (by decide) (by decide) (by decide) ?_
  refine v_ald1 dX0_takeOver_98 ?_
  refine v_getr dX0_takeOver_99 gX0_30 sh_38 rfl ?_
  refine v_iconstN (n := 0) dX0_takeOver_102 ?_
  refine v_ald0 dX0_takeOver_103 ?_
  refine v_getr dX0_takeOver_104 gX0_30 sh_47 rfl ?_
  refine v_iconstN (n := 0) dX0_takeOver_107 ?_
  refine v_bipushN (n := 6) dX0_takeOver_108 (by decide) ?_
  refine v_acopy dX0_takeOver_110 aX0_47 (by decide) (Nat.le_of_ble_eq_true rfl) sh_45 sh_54 (by decide) (by decide) (by decide) (by decide) ?_
  refine v_ald0 dX0_takeOver_113 ?_
  refine v_ald1 dX0_takeOver_114 ?_
  refine v_geti dX0_takeOver_115 gX0_53 sh_38 rfl ?_
  refine v_puti dX0_takeOver_118 pX0_53 sh_47 rfl rfl rfl ?_
  refine v_ald0 dX0_takeOver_121 ?_
  refine v_ald1 dX0_takeOver_122 ?_
  refine v_geti dX0_takeOver_123 gX0_56 sh_38 rfl ?_
  refine v_puti dX0_takeOver_126 pX0_56 sh_47 rfl rfl rfl ?_
  refine v_ald0 dX0_takeOver_129 ?_
  refine v_ald1 dX0_takeOver_130 ?_
  refine v_geti dX0_takeOver_131 gX0_59 sh_38 rfl ?_
  refine v_puti dX0_takeOver_134 pX0_59 sh_47 rfl rfl rfl ?_
  refine v_ald0 dX0_takeOver_137 ?_
  refine v_ald1 dX0_takeOver_138 ?_
  refine v_geti dX0_takeOver_139 gX0_62 sh_38 rfl ?_
  refine v_puti dX0_takeOver_142 pX0_62 sh_47 rfl rfl rfl ?_
  refine v_ald0 dX0_takeOver_145 ?_
  refine v_ald1 dX0_takeOver_146 ?_
  refine v_geti dX0_takeOver_147 gX0_33 sh_38 rfl ?_
  refine v_puti dX0_takeOver_150 pX0_33 sh_47 rfl rfl rfl ?_
  refine v_ald0 dX0_takeOver_153 ?_
  refine v_ald1 dX0_takeOver_154 ?_
  refine v_geti dX0_takeOver_155 gX0_65 sh_38 rfl ?_
  refine v_puti dX0_takeOver_158 pX0_65 sh_47 rfl rfl rfl ?_
  refine v_ald1 dX0_takeOver_161 ?_
  refine v_getr dX0_takeOver_162 gX0_37 sh_38 rfl ?_
  refine v_iconstN (n := 0) dX0_takeOver_165 ?_
  refine v_ald0 dX0_takeOver_166 ?_
  refine v_getr dX0_takeOver_167 gX0_37 sh_47 rfl ?_
  refine v_iconstN (n := 0) dX0_takeOver_170 ?_
  refine v_iconstN (n := 3) dX0_takeOver_171 ?_
  refine v_acopy dX0_takeOver_172 aX0_47 (by decide) (Nat.le_of_ble_eq_true rfl) sh_46 sh_55 (by decide) (by decide) (by decide) (by decide) ?_
  exact v_vret dX0_takeOver_175 rfl (⟨cv_ext (c := 47) (c' := 38) (fun k hk => by rcases (show k = 1 ∨ k = 9 ∨ k = 10 ∨ k = 11 ∨ k = 12 ∨ k = 13 ∨ k = 14 by omega) with rfl | rfl | rfl | rfl | rfl | rfl | rfl <;> rfl) (fun r h1 h4 j hj => by
        rcases (show r = 1 ∨ r = 2 ∨ r = 3 ∨ r = 4 by omega) with rfl | rfl | rfl | rfl
        · exact ((show _ = va_cpy (Mz 39) _ 0 0 8 j from rfl).trans (pk_cpy_in (Nat.zero_le _) (by omega))).trans (by show Mz _ (0 + (j - 0)) = _; rw [Nat.sub_zero, Nat.zero_add])
        · exact ((show _ = va_cpy (Mz 40) _ 0 0 8 j from rfl).trans (pk_cpy_in (Nat.zero_le _) (by omega))).trans (by show Mz _ (0 + (j - 0)) = _; rw [Nat.sub_zero, Nat.zero_add])
        · exact ((show _ = va_cpy (Mz 41) _ 0 0 8 j from rfl).trans (pk_cpy_in (Nat.zero_le _) (by omega))).trans (by show Mz _ (0 + (j - 0)) = _; rw [Nat.sub_zero, Nat.zero_add])
        · exact ((show _ = va_cpy (Mz 42) _ 0 0 8 j from rfl).trans (pk_cpy_in (Nat.zero_le _) (by omega))).trans (by show Mz _ (0 + (j - 0)) = _; rw [Nat.sub_zero, Nat.zero_add])) (fun j hj => ((show _ = va_cpy (Mz 43) _ 0 0 48 j from rfl).trans (pk_cpy_in (Nat.zero_le _) (by omega))).trans (by show Mz _ (0 + (j - 0)) = _; rw [Nat.sub_zero, Nat.zero_add])) (fun j hj => ((show _ = va_cpy (Mz 44) _ 0 0 6 j from rfl).trans (pk_cpy_in (Nat.zero_le _) (by omega))).trans (by show Mz _ (0 + (j - 0)) = _; rw [Nat.sub_zero, Nat.zero_add])) (fun j hj => ((show _ = va_cpy (Mz 45) _ 0 0 6 j from rfl).trans (pk_cpy_in (Nat.zero_le _) (by omega))).trans (by show Mz _ (0 + (j - 0)) = _; rw [Nat.sub_zero, Nat.zero_add])), fun j hj => ((show _ = va_cpy (Mz 46) _ 0 0 3 j from rfl).trans (pk_cpy_in (Nat.zero_le _) (by omega))).trans (by show Mz _ (0 + (j - 0)) = _; rw [Nat.sub_zero, Nat.zero_add]), fun a ha => by rw [wa_ne (show a ≠ 55 by omega), wr_ne (show a ≠ 47 by omega), wr_ne (show a ≠ 47 by omega), wr_ne (show a ≠ 47 by omega), wr_ne (show a ≠ 47 by omega), wr_ne (show a ≠ 47 by omega), wr_ne (show a ≠ 47 by omega), wa_ne (show a ≠ 54 by omega), wa_ne (show a ≠ 53 by omega), wa_ne (show a ≠ 52 by omega), wa_ne (show a ≠ 51 by omega), wa_ne (show a ≠ 50 by omega), wa_ne (show a ≠ 49 by omega), wa_ne (show a ≠ 48 by omega), wr_ne (show a ≠ 47 by omega)]⟩)
set_option maxRecDepth 100000 in
set_option maxHeartbeats 4000000 in
theorem kC_over_38_47 (E : ev) (Mz : mm)  : Ct E 2 yX0_takeOver cX0_takeOver 2 none [.inr 38, .inr 47] Mz (qV E (fun M' => cv M' 38 = cv Mz 47 ∧ (∀ j, j < 3 → M' 46 j = Mz 55 j) ∧ FrT 38 Mz M')) := by
  refine ct_of (by decide) (Nat.le_of_ble_eq_true rfl) ?_
  show V E 2 _ _ _ _ _ 0 [some (.inr 38), some (.inr 47)] [] Mz
  refine v_ald0 dX0_takeOver_0 ?_
  refine v_ald1 dX0_takeOver_1 ?_
  refine v_geti dX0_takeOver_2 gX0_44 sh_47 rfl ?_
  refine v_puti dX0_takeOver_5 pX0_44 sh_38 rfl rfl rfl ?_
  refine v_ald1 dX0_takeOver_8 ?_
  refine v_getr dX0_takeOver_9 gX0_9 sh_47 rfl ?_
  refine v_iconstN (n := 0) dX0_takeOver_12 ?_
  refine v_ald0 dX0_takeOver_13 ?_
  refine v_getr dX0_takeOver_14 gX0_9 sh_38 rfl ?_
  refine v_iconstN (n := 0) dX0_takeOver_17 ?_
  refine v_bipushN (n := 8) dX0_takeOver_18 (by decide) ?_
  refine v_acopy dX0_takeOver_20 aX0_47 (by decide) (Nat.le_of_ble_eq_true rfl) sh_48 sh_39 (by decide) (by decide) (by decide) (by decide) ?_
  refine v_ald1 dX0_takeOver_23 ?_
  refine v_getr dX0_takeOver_24 gX0_15 sh_47 rfl ?_
  refine v_iconstN (n := 0) dX0_takeOver_27 ?_
  refine v_ald0 dX0_takeOver_28 ?_
  refine v_getr dX0_takeOver_29 gX0_15 sh_38 rfl ?_
  refine v_iconstN (n := 0) dX0_takeOver_32 ?_
  refine v_bipushN (n := 8) dX0_takeOver_33 (by decide) ?_
  refine v_acopy dX0_takeOver_35 aX0_47 (by decide) (Nat.le_of_ble_eq_true rfl) sh_49 sh_40 (by decide) (by decide) (by decide) (by decide) ?_
  refine v_ald1 dX0_takeOver_38 ?_
  refine v_getr dX0_takeOver_39 gX0_18 sh_47 rfl ?_
  refine v_iconstN (n := 0) dX0_takeOver_42 ?_
  refine v_ald0 dX0_takeOver_43 ?_
  refine v_getr dX0_takeOver_44 gX0_18 sh_38 rfl ?_
  refine v_iconstN (n := 0) dX0_takeOver_47 ?_
  refine v_bipushN (n := 8) dX0_takeOver_48 (by decide) ?_
  refine v_acopy dX0_takeOver_50 aX0_47 (by decide) (Nat.le_of_ble_eq_true rfl) sh_50 sh_41 (by decide) (by decide) (by decide) (by decide) ?_
  refine v_ald1 dX0_takeOver_53 ?_
  refine v_getr dX0_takeOver_54 gX0_21 sh_47 rfl ?_
  refine v_iconstN (n := 0) dX0_takeOver_57 ?_
  refine v_ald0 dX0_takeOver_58 ?_
  refine v_getr dX0_takeOver_59 gX0_21 sh_38 rfl ?_
  refine v_iconstN (n := 0) dX0_takeOver_62 ?_
  refine v_bipushN (n := 8) dX0_takeOver_63 (by decide) ?_
  refine v_acopy dX0_takeOver_65 aX0_47 (by decide) (Nat.le_of_ble_eq_true rfl) sh_51 sh_42 (by decide) (by decide) (by decide) (by decide) ?_
  refine v_ald1 dX0_takeOver_68 ?_
  refine v_getr dX0_takeOver_69 gX0_24 sh_47 rfl ?_
  refine v_iconstN (n := 0) dX0_takeOver_72 ?_
  refine v_ald0 dX0_takeOver_73 ?_
  refine v_getr dX0_takeOver_74 gX0_24 sh_38 rfl ?_
  refine v_iconstN (n := 0) dX0_takeOver_77 ?_
  refine v_bipushN (n := 48) dX0_takeOver_78 (by decide) ?_
  refine v_acopy dX0_takeOver_80 aX0_47 (by decide) (Nat.le_of_ble_eq_true rfl) sh_52 sh_43 (by decide) (by decide) (by decide) (by decide) ?_
  refine v_ald1 dX0_takeOver_83 ?_
  refine v_getr dX0_takeOver_84 gX0_27 sh_47 rfl ?_
  refine v_iconstN (n := 0) dX0_takeOver_87 ?_
  refine v_ald0 dX0_takeOver_88 ?_
  refine v_getr dX0_takeOver_89 gX0_27 sh_38 rfl ?_
  refine v_iconstN (n := 0) dX0_takeOver_92 ?_
  refine v_bipushN (n := 6) dX0_takeOver_93 (by decide) ?_
  refine v_acopy dX0_takeOver_95 aX0_47 (by decide) (Nat.le_of_ble_eq_true rfl) sh_53 sh_44 (by decide) (by decide) (by decide) (by decide) ?_
  refine v_ald1 dX0_takeOver_98 ?_
  refine v_getr dX0_takeOver_99 gX0_30 sh_47 rfl ?_
  refine v_iconstN (n := 0) dX0_takeOver_102 ?_
  refine v_ald0 dX0_takeOver_103 ?_
  refine v_getr dX0_takeOver_104 gX0_30 sh_38 rfl ?_
  refine v_iconstN (n := 0) dX0_takeOver_107 ?_
  refine v_bipushN (n := 6) dX0_takeOver_108 (by decide) ?_
  refine v_acopy dX0_takeOver_110 aX0_47 (by decide) (Nat.le_of_ble_eq_true rfl) sh_54 sh_45 (by decide) (by decide) (by decide) (by decide) ?_
  refine v_ald0 dX0_takeOver_113 ?_
  refine v_ald1 dX0_takeOver_114 ?_
  refine v_geti dX0_takeOver_115 gX0_53 sh_47 rfl ?_
  refine v_puti dX0_takeOver_118 pX0_53 sh_38 rfl rfl rfl ?_
  refine v_ald0 dX0_takeOver_121 ?_
  refine v_ald1 dX0_takeOver_122 ?_
  refine v_geti dX0_takeOver_123 gX0_56 sh_47 rfl ?_
  refine v_puti dX0_takeOver_126 pX0_56 sh_38 rfl rfl rfl ?_
  refine v_ald0 dX0_takeOver_129 ?_
  refine v_ald1 dX0_takeOver_130 ?_
  refine v_geti dX0_takeOver_131 gX0_59 sh_47 rfl ?_
  refine v_puti dX0_takeOver_134 pX0_59 sh_38 rfl rfl rfl ?_
  refine v_ald0 dX0_takeOver_137 ?_
  refine v_ald1 dX0_takeOver_138 ?_
  refine v_geti dX0_takeOver_139 gX0_62 sh_47 rfl ?_
  refine v_puti dX0_takeOver_142 pX0_62 sh_38 rfl rfl rfl ?_
  refine v_ald0 dX0_takeOver_145 ?_
  refine v_ald1 dX0_takeOver_146 ?_
  refine v_geti dX0_takeOver_147 gX0_33 sh_47 rfl ?_
  refine v_puti dX0_takeOver_150 pX0_33 sh_38 rfl rfl rfl ?_
  refine v_ald0 dX0_takeOver_153 ?_
  refine v_ald1 dX0_takeOver_154 ?_
  refine v_geti dX0_takeOver_155 gX0_65 sh_47 rfl ?_
  refine v_puti dX0_takeOver_158 pX0_65 sh_38 rfl rfl rfl ?_
  refine v_ald1 dX0_takeOver_161 ?_
  refine v_getr dX0_takeOver_162 gX0_37 sh_47 rfl ?_
  refine v_iconstN (n := 0) dX0_takeOver_165 ?_
  refine v_ald0 dX0_takeOver_166 ?_
  refine v_getr dX0_takeOver_167 gX0_37 sh_38 rfl ?_
  refine v_iconstN (n := 0) dX0_takeOver_170 ?_
  refine v_iconstN (n := 3) dX0_takeOver_171 ?_
  refine v_acopy dX0_takeOver_172 aX0_47 (by decide) (Nat.le_of_ble_eq_true rfl) sh_55 sh_46 (by decide) (by decide) (by decide) (by decide) ?_
  exact v_vret dX0_takeOver_175 rfl (⟨cv_ext (c := 38) (c' := 47) (fun k hk => by rcases (show k = 1 ∨ k = 9 ∨ k = 10 ∨ k = 11 ∨ k = 12 ∨ k = 13 ∨ k = 14 by omega) with rfl | rfl | rfl | rfl | rfl | rfl | rfl <;> rfl) (fun r h1 h4 j hj => by
        rcases (show r = 1 ∨ r = 2 ∨ r = 3 ∨ r = 4 by omega) with rfl | rfl | rfl | rfl
        · exact ((show _ = va_cpy (Mz 48) _ 0 0 8 j from rfl).trans (pk_cpy_in (Nat.zero_le _) (by omega))).trans (by show Mz _ (0 + (j - 0)) = _; rw [Nat.sub_zero, Nat.zero_add])
        · exact ((show _ = va_cpy (Mz 49) _ 0 0 8 j from rfl).trans (pk_cpy_in (Nat.zero_le _) (by omega))).trans (by show Mz _ (0 + (j - 0)) = _; rw [Nat.sub_zero, Nat.zero_add])
        · exact ((show _ = va_cpy (Mz 50) _ 0 0 8 j from rfl).trans (pk_cpy_in (Nat.zero_le _) (by omega))).trans (by show Mz _ (0 + (j - 0)) = _; rw [Nat.sub_zero, Nat.zero_add])
        · exact ((show _ = va_cpy (Mz 51) _ 0 0 8 j from rfl).trans (pk_cpy_in (Nat.zero_le _) (by omega))).trans (by show Mz _ (0 + (j - 0)) = _; rw [Nat.sub_zero, Nat.zero_add])) (fun j hj => ((show _ = va_cpy (Mz 52) _ 0 0 48 j from rfl).trans (pk_cpy_in (Nat.zero_le _) (by omega))).trans (by show Mz _ (0 + (j - 0)) = _; rw [Nat.sub_zero, Nat.zero_add])) (fun j hj => ((show _ = va_cpy (Mz 53) _ 0 0 6 j from rfl).trans (pk_cpy_in (Nat.zero_le _) (by omega))).trans (by show Mz _ (0 + (j - 0)) = _; rw [Nat.sub_zero, Nat.zero_add])) (fun j hj => ((show _ = va_cpy (Mz 54) _ 0 0 6 j from rfl).trans (pk_cpy_in (Nat.zero_le _) (by omega))).trans (by show Mz _ (0 + (j - 0)) = _; rw [Nat.sub_zero, Nat.zero_add])), fun j hj => ((show _ = va_cpy (Mz 55) _ 0 0 3 j from rfl).trans (pk_cpy_in (Nat.zero_le _) (by omega))).trans (by show Mz _ (0 + (j - 0)) = _; rw [Nat.sub_zero, Nat.zero_add]), fun a ha => by rw [wa_ne (show a ≠ 46 by omega), wr_ne (show a ≠ 38 by omega), wr_ne (show a ≠ 38 by omega), wr_ne (show a ≠ 38 by omega), wr_ne (show a ≠ 38 by omega), wr_ne (show a ≠ 38 by omega), wr_ne (show a ≠ 38 by omega), wa_ne (show a ≠ 45 by omega), wa_ne (show a ≠ 44 by omega), wa_ne (show a ≠ 43 by omega), wa_ne (show a ≠ 42 by omega), wa_ne (show a ≠ 41 by omega), wa_ne (show a ≠ 40 by omega), wa_ne (show a ≠ 39 by omega), wr_ne (show a ≠ 38 by omega)]⟩)
def DR (A M : mm) : Prop := (∀ a, a ≠ 93 → a ≠ 95 → a ≠ 96 → a ≠ 103 → a ≠ 104 → M a = A a) ∧ (∀ i, i < 1471 → M 95 i = A 93 i) ∧ ∀ i, 99 ≤ i → M 93 i = A 93 i
def FrD (M M' : mm) : Prop := ∀ a, a ≠ 95 → a ≠ 96 → a ≠ 103 → a ≠ 104 → M' a = M a
theorem FrD.rf (M : mm) : FrD M M := fun _ _ _ _ _ => rfl
theorem DR.start (M : mm) : DR M (wa M 95 (cpN 1471 (M 93) (M 95))) := ⟨fun a _ h _ _ _ => wa_ne h, fun i hi => by rw [wa_at]; exact if_pos hi, fun i _ => by rw [wa_ne (by decide)]⟩
theorem DR.fr {A M M' : mm} (h : DR A M) (g : FrM M M') : DR A M' := ⟨fun a h1 h2 h3 h4 h5 => (g.1 a h1 h4 h5).trans (h.1 a h1 h2 h3 h4 h5), fun i hi => by rw [g.1 95 (by decide) (by decide) (by decide)]; exact h.2.1 i hi, fun i hi => (g.2 i hi).trans (h.2.2 i hi)⟩
theorem DR.back {A M : mm} (h : DR A M) : DR A (wa M 93 (cpN 1471 (M 95) (M 93))) ∧ (wa M 93 (cpN 1471 (M 95) (M 93))) 93 = A 93 := by
  have e : (wa M 93 (cpN 1471 (M 95) (M 93))) 93 = A 93 := by
    rw [wa_at]
    funext i
    unfold cpN
    split
    · rename_i hi; exact h.2.1 i hi
    · exact h.2.2 i (by omega)
  exact ⟨⟨fun a h1 h2 h3 h4 h5 => by rw [wa_ne h1]; exact h.1 a h1 h2 h3 h4 h5, fun i hi => by rw [wa_ne (by decide)]; exact h.2.1 i hi, fun i _ => congrFun e i⟩, e⟩
theorem DR.fin {A M : mm} (h : DR A M) (e : M 93 = A 93) : FrD A M := fun a h2 h3 h4 h5 => by
  by_cases h1 : a = 93
  · rw [h1]; exact e
  · exact h.1 a h1 h2 h3 h4 h5
theorem mv_93 {A M : mm} (e : M 93 = A 93) : mv M = mv A := by unfold mv; rw [e]
theorem TxM.dr {T : Nat} {tt : Nat → tx} {A M : mm} (h : TxM A tt T) (hf : DR A M) (h6 : mv M 6 = mv A 6) : TxM M tt T := by
  refine ⟨h.1, h6.trans h.2.1, fun t ht => ?_⟩
  obtain ⟨a1, a2, a3, a4⟩ := h.2.2 t ht
  exact ⟨a1, by rw [hf.2.2 _ (by omega)]; exact a2, by rw [hf.2.2 _ (by omega)]; exact a3, fun i hi => by rw [hf.2.2 _ (by omega)]; exact a4 i hi⟩
set_option maxRecDepth 100000 in
set_option maxHeartbeats 4000000 in
theorem kM_dreams (E : ev) (Mz : mm)  : Ct E 1 yX7_dreams cX7_dreams 1 none [.inr 92] Mz (qV E (fun M' => M' = wa Mz 95 (cpN 1471 (Mz 93) (Mz 95)))) := by
  refine ct_of (by decide) (Nat.le_of_ble_eq_true rfl) ?_
  show V E 1 _ _ _ _ _ 0 [some (.inr 92)] [] Mz
  refine v_ald0 dX7_dreams_0 ?_
  refine v_getr dX7_dreams_1 gX7_9 sh_92 rfl ?_
  refine v_ald0 dX7_dreams_4 ?_
  refine v_getr dX7_dreams_5 gX7_16 sh_92 rfl ?_
  refine v_callSv (kM_copyAll E Mz sh_93 sh_95 (by decide)) dX7_dreams_8 cX7_181 rfl (by decide) (Nat.le_of_ble_eq_true rfl) rfl (fun M1z hq => ?_)
  rw [hq]
  exact v_vret dX7_dreams_11 rfl (rfl)
set_option maxRecDepth 100000 in
set_option maxHeartbeats 4000000 in
theorem kM_putsBack (E : ev) (Mz : mm)  : Ct E 1 yX7_putsBack cX7_putsBack 1 none [.inr 92] Mz (qV E (fun M' => M' = wa Mz 93 (cpN 1471 (Mz 95) (Mz 93)))) := by
  refine ct_of (by decide) (Nat.le_of_ble_eq_true rfl) ?_
  show V E 1 _ _ _ _ _ 0 [some (.inr 92)] [] Mz
  refine v_ald0 dX7_putsBack_0 ?_
  refine v_getr dX7_putsBack_1 gX7_16 sh_92 rfl ?_
  refine v_ald0 dX7_putsBack_4 ?_
  refine v_getr dX7_putsBack_5 gX7_9 sh_92 rfl ?_
  refine v_callSv (kM_copyAll E Mz sh_95 sh_93 (by decide)) dX7_putsBack_8 cX7_181 rfl (by decide) (Nat.le_of_ble_eq_true rfl) rfl (fun M1z hq => ?_)
  rw [hq]
  exact v_vret dX7_putsBack_11 rfl (rfl)
def R_behind (pf : p4) (v : fl) (n u : Int32) : Int32 := if (inB n (nI 0) (nI 100) && inB u (nI 0) (nI 8)) = true then (if tN u < 3 then wksS pf v (tN n) (3 + tN u) else wksS pf v (tN n) (10 + tN u)) else cBAD

set_option maxRecDepth 100000 in
set_option maxHeartbeats 4000000 in
theorem aX_behind (E : ev) (Mz : mm) {n u : Int32} {T : Nat} {tt : Nat → tx} (hI : CI (cv Mz 38) 10000) (hT : TxC Mz 38 tt T) : Ct E 7 yX6_behind cX6_behind 3 (some .int) [.inr 0, .inl n, .inl u] Mz (qI E (fun r M' => r = R_behind (pfT tt T) (cv Mz 38) n u ∧ FrX Mz M')) := by
  refine ct_of (by decide) (Nat.le_of_ble_eq_true rfl) ?_
  show V E 7 _ _ _ _ _ 0 [some (.inr 0), some (.inl n), some (.inl u)] [] Mz
  refine v_ild1 dX6_behind_0 ?_
  refine v_iconstN (n := 0) dX6_behind_1 ?_
  refine v_bipushN (n := 100) dX6_behind_2 (by decide) ?_
  refine v_callSi (kX_outside E _) dX6_behind_4 cX6_63 rfl (by decide) (Nat.le_of_ble_eq_true rfl) rfl (fun r M1z hq => ?_)
  obtain ⟨hr, hm⟩ := hq
  rw [hr, hm]
  clear hr hm
  refine v_if_ne (tgt := 20) dX6_behind_7 (by decide) (fun h7 => ?_) (fun h7 => ?_)
  · refine v_ldc dX6_behind_20 kX6_67 ?_
    exact v_iret dX6_behind_22 rfl (⟨by unfold R_behind; rw [if_neg (by simp [nb1 h7])], FrX.rf Mz⟩)
  · refine v_ild2 dX6_behind_10 ?_
    refine v_iconstN (n := 0) dX6_behind_11 ?_
    refine v_bipushN (n := 8) dX6_behind_12 (by decide) ?_
    refine v_callSi (kX_outside E _) dX6_behind_14 cX6_63 rfl (by decide) (Nat.le_of_ble_eq_true rfl) rfl (fun r M1z hq => ?_)
    obtain ⟨hr, hm⟩ := hq
    rw [hr, hm]
    clear hr hm
    refine v_if_eq (tgt := 23) dX6_behind_17 (by decide) (fun h17 => ?_) (fun h17 => ?_)
    · obtain ⟨k, hkl, hk, rfl⟩ := inB_n (by decide) (by decide) (nb0 h7)
      obtain ⟨j, hjl, hj, rfl⟩ := inB_n (by decide) (by decide) (nb0 h17)
      refine v_ald0 dX6_behind_23 ?_
      refine v_getr dX6_behind_24 gX6_35 sh_0 rfl ?_
      refine v_ald0 dX6_behind_27 ?_
      refine v_getr dX6_behind_28 gX6_28 sh_0 rfl ?_
      refine v_callVv (kC_over_56_38 E Mz) dX6_behind_31 cX6_177 rfl sh_56 rfl (by decide) (Nat.le_of_ble_eq_true rfl) rfl (fun M1z hq1 => ?_)
      obtain ⟨hv1, hl1, hf1⟩ := hq1
      have hI1 : CI (cv M1z 56) 10000 := by rw [hv1]; exact hI
      have hT1 : TxC M1z 56 tt T := hT.over CB.trial hv1 hl1 hf1
      refine v_ald0 dX6_behind_34 ?_
      refine v_getr dX6_behind_35 gX6_35 sh_0 rfl ?_
      refine v_ild1 dX6_behind_38 ?_
      refine v_callVv (kC_pass E M1z CB.trial hI1 (by omega) hT1) dX6_behind_39 cX6_160 rfl sh_56 rfl (by decide) (Nat.le_of_ble_eq_true rfl) rfl (fun M2z hq2 => ?_)
      obtain ⟨hv2, hf2⟩ := hq2
      rw [hv1] at hv2
      have hfx : FrX Mz M2z := (FrX.t hf1).tr (FrX.c hf2)
      rcases (show j = 0 ∨ j = 1 ∨ j = 2 ∨ j = 3 ∨ j = 4 ∨ j = 5 ∨ j = 6 ∨ j = 7 ∨ j = 8 by omega) with rfl | rfl | rfl | rfl | rfl | rfl | rfl | rfl | rfl
      · refine v_ild2 dX6_behind_42 ?_
        refine v_tsIn (off := 25) (tgt := 68) dX6_behind_43 (by decide) (by decide) (by decide) (by decide) ?_
        refine v_ald0 dX6_behind_68 ?_
        refine v_getr dX6_behind_69 gX6_35 sh_0 rfl ?_
        refine v_geti dX6_behind_72 gX6_154 sh_56 rfl ?_
        exact v_iret dX6_behind_75 rfl (⟨by unfold R_behind; rw [if_pos (by simp [nb0 h7, nb0 h17]), tN_n (p := k) (by omega), tN_n (by omega), if_pos (by omega), ← hv2]; rfl, hfx⟩)
      · refine v_ild2 dX6_behind_42 ?_
        refine v_tsIn (off := 33) (tgt := 76) dX6_behind_43 (by decide) (by decide) (by decide) (by decide) ?_
        refine v_ald0 dX6_behind_76 ?_
        refine v_getr dX6_behind_77 gX6_35 sh_0 rfl ?_
        refine v_geti dX6_behind_80 gX6_164 sh_56 rfl ?_
        exact v_iret dX6_behind_83 rfl (⟨by unfold R_behind; rw [if_pos (by simp [nb0 h7, nb0 h17]), tN_n (p := k) (by omega), tN_n (by omega), if_pos (by omega), ← hv2]; rfl, hfx⟩)
      · refine v_ild2 dX6_behind_42 ?_
        refine v_tsIn (off := 41) (tgt := 84) dX6_behind_43 (by decide) (by decide) (by decide) (by decide) ?_
        refine v_ald0 dX6_behind_84 ?_
        refine v_getr dX6_behind_85 gX6_35 sh_0 rfl ?_
        refine v_geti dX6_behind_88 gX6_167 sh_56 rfl ?_
        exact v_iret dX6_behind_91 rfl (⟨by unfold R_behind; rw [if_pos (by simp [nb0 h7, nb0 h17]), tN_n (p := k) (by omega), tN_n (by omega), if_pos (by omega), ← hv2]; rfl, hfx⟩)
      · refine v_ild2 dX6_behind_42 ?_
        refine v_tsOut (tgt := 92) dX6_behind_43 (by decide) (by decide) ?_
        refine v_ald0 dX6_behind_92 ?_
        refine v_getr dX6_behind_93 gX6_35 sh_0 rfl ?_
        refine v_getr dX6_behind_96 gX6_134 sh_56 rfl ?_
        refine v_ild2 dX6_behind_99 ?_
        refine v_iconstN (n := 3) dX6_behind_100 ?_
        refine v_isubN dX6_behind_101 (by decide) ?_
        refine v_ialdN dX6_behind_102 sh_63 (by omega) (by decide) ?_
        exact v_iret dX6_behind_103 rfl (⟨by unfold R_behind; rw [if_pos (by simp [nb0 h7, nb0 h17]), tN_n (p := k) (by omega), tN_n (by omega), if_neg (by omega), ← hv2]; exact (cv_gr M2z 56 (f := 0) (by decide)).symm, hfx⟩)
      · refine v_ild2 dX6_behind_42 ?_
        refine v_tsOut (tgt := 92) dX6_behind_43 (by decide) (by decide) ?_
        refine v_ald0 dX6_behind_92 ?_
        refine v_getr dX6_behind_93 gX6_35 sh_0 rfl ?_
        refine v_getr dX6_behind_96 gX6_134 sh_56 rfl ?_
        refine v_ild2 dX6_behind_99 ?_
        refine v_iconstN (n := 3) dX6_behind_100 ?_
        refine v_isubN dX6_behind_101 (by decide) ?_
        refine v_ialdN dX6_behind_102 sh_63 (by omega) (by decide) ?_
        exact v_iret dX6_behind_103 rfl (⟨by unfold R_behind; rw [if_pos (by simp [nb0 h7, nb0 h17]), tN_n (p := k) (by omega), tN_n (by omega), if_neg (by omega), ← hv2]; exact (cv_gr M2z 56 (f := 1) (by decide)).symm, hfx⟩)
      · refine v_ild2 dX6_behind_42 ?_
        refine v_tsOut (tgt := 92) dX6_behind_43 (by decide) (by decide) ?_
        refine v_ald0 dX6_behind_92 ?_
        refine v_getr dX6_behind_93 gX6_35 sh_0 rfl ?_
        refine v_getr dX6_behind_96 gX6_134 sh_56 rfl ?_
        refine v_ild2 dX6_behind_99 ?_
        refine v_iconstN (n := 3) dX6_behind_100 ?_
        refine v_isubN dX6_behind_101 (by decide) ?_
        refine v_ialdN dX6_behind_102 sh_63 (by omega) (by decide) ?_
        exact v_iret dX6_behind_103 rfl (⟨by unfold R_behind; rw [if_pos (by simp [nb0 h7, nb0 h17]), tN_n (p := k) (by omega), tN_n (by omega), if_neg (by omega), ← hv2]; exact (cv_gr M2z 56 (f := 2) (by decide)).symm, hfx⟩)
      · refine v_ild2 dX6_behind_42 ?_
        refine v_tsOut (tgt := 92) dX6_behind_43 (by decide) (by decide) ?_
        refine v_ald0 dX6_behind_92 ?_
        refine v_getr dX6_behind_93 gX6_35 sh_0 rfl ?_
        refine v_getr dX6_behind_96 gX6_134 sh_56 rfl ?_
        refine v_ild2 dX6_behind_99 ?_
        refine v_iconstN (n := 3) dX6_behind_100 ?_
        refine v_isubN dX6_behind_101 (by decide) ?_
        refine v_ialdN dX6_behind_102 sh_63 (by omega) (by decide) ?_
        exact v_iret dX6_behind_103 rfl (⟨by unfold R_behind; rw [if_pos (by simp [nb0 h7, nb0 h17]), tN_n (p := k) (by omega), tN_n (by omega), if_neg (by omega), ← hv2]; exact (cv_gr M2z 56 (f := 3) (by decide)).symm, hfx⟩)
      · refine v_ild2 dX6_behind_42 ?_
        refine v_tsOut (tgt := 92) dX6_behind_43 (by decide) (by decide) ?_
        refine v_ald0 dX6_behind_92 ?_
        refine v_getr dX6_behind_93 gX6_35 sh_0 rfl ?_
        refine v_getr dX6_behind_96 gX6_134 sh_56 rfl ?_
        refine v_ild2 dX6_behind_99 ?_
        refine v_iconstN (n := 3) dX6_behind_100 ?_
        refine v_isubN dX6_behind_101 (by decide) ?_
        refine v_ialdN dX6_behind_102 sh_63 (by omega) (by decide) ?_
        exact v_iret dX6_behind_103 rfl (⟨by unfold R_behind; rw [if_pos (by simp [nb0 h7, nb0 h17]), tN_n (p := k) (by omega), tN_n (by omega), if_neg (by omega), ← hv2]; exact (cv_gr M2z 56 (f := 4) (by decide)).symm, hfx⟩)
      · refine v_ild2 dX6_behind_42 ?_
        refine v_tsOut (tgt := 92) dX6_behind_43 (by decide) (by decide) ?_
        refine v_ald0 dX6_behind_92 ?_
        refine v_getr dX6_behind_93 gX6_35 sh_0 rfl ?_
        refine v_getr dX6_behind_96 gX6_134 sh_56 rfl ?_
        refine v_ild2 dX6_behind_99 ?_
        refine v_iconstN (n := 3) dX6_behind_100 ?_
        refine v_isubN dX6_behind_101 (by decide) ?_
        refine v_ialdN dX6_behind_102 sh_63 (by omega) (by decide) ?_
        exact v_iret dX6_behind_103 rfl (⟨by unfold R_behind; rw [if_pos (by simp [nb0 h7, nb0 h17]), tN_n (p := k) (by omega), tN_n (by omega), if_neg (by omega), ← hv2]; exact (cv_gr M2z 56 (f := 5) (by decide)).symm, hfx⟩)
    · refine v_ldc dX6_behind_20 kX6_67 ?_
      exact v_iret dX6_behind_22 rfl (⟨by unfold R_behind; rw [if_neg (by simp [nb0 h7, nb1 h17])], FrX.rf Mz⟩)
set_option maxRecDepth 100000 in
set_option maxHeartbeats 4000000 in
theorem aM_behind (E : ev) (Mz : mm) {n u : Int32} {T : Nat} {tt : Nat → tx} (hI : CI (mv Mz) 10000) (hT : TxM Mz tt T) : Ct E 8 yX7_behind cX7_behind 4 (some .int) [.inr 92, .inl n, .inl u] Mz (qI E (fun r M' => r = R_behind (pfT tt T) (mv Mz) n u ∧ FrD Mz M')) := by
  refine ct_of (by decide) (Nat.le_of_ble_eq_true rfl) ?_
  show V E 8 _ _ _ _ _ 0 [some (.inr 92), some (.inl n), some (.inl u), none] [] Mz
  refine v_ild1 dX7_behind_0 ?_
  refine v_iconstN (n := 0) dX7_behind_1 ?_
  refine v_bipushN (n := 100) dX7_behind_2 (by decide) ?_
  refine v_callSi (kM_in E _) dX7_behind_4 cX7_75 rfl (by decide) (Nat.le_of_ble_eq_true rfl) rfl (fun r M1z hq => ?_)
  obtain ⟨hr, hm⟩ := hq
  rw [hr, hm]
  clear hr hm
  refine v_if_eq (tgt := 20) dX7_behind_7 (by decide) (fun h7 => ?_) (fun h7 => ?_)
  · refine v_ldc dX7_behind_20 kX7_119 ?_
    exact v_iret dX7_behind_22 rfl (⟨by unfold R_behind; rw [if_neg (by simp [b2_0.mp h7])], FrD.rf Mz⟩)
  · refine v_ild2 dX7_behind_10 ?_
    refine v_iconstN (n := 0) dX7_behind_11 ?_
    refine v_bipushN (n := 8) dX7_behind_12 (by decide) ?_
    refine v_callSi (kM_in E _) dX7_behind_14 cX7_75 rfl (by decide) (Nat.le_of_ble_eq_true rfl) rfl (fun r M1z hq => ?_)
    obtain ⟨hr, hm⟩ := hq
    rw [hr, hm]
    clear hr hm
    refine v_if_ne (tgt := 23) dX7_behind_17 (by decide) (fun h17 => ?_) (fun h17 => ?_)
    · obtain ⟨k, hkl, hk, rfl⟩ := inB_n (by decide) (by decide) (b2_1.mp h7)
      obtain ⟨j, hjl, hj, rfl⟩ := inB_n (by decide) (by decide) (b2_1.mp h17)
      refine v_ald0 dX7_behind_23 ?_
      refine v_callVv (kM_dreams E Mz) dX7_behind_24 cX7_185 rfl sh_92 rfl (by decide) (Nat.le_of_ble_eq_true rfl) rfl (fun M1z hq => ?_)
      rw [hq]
      clear hq
      refine v_ald0 dX7_behind_27 ?_
      refine v_ild1 dX7_behind_28 ?_
      refine v_callVv (kM_goesOn E (wa Mz 95 (cpN 1471 (Mz 93) (Mz 95))) (W := 10000) (tt := tt) (T := T) (by rw [mv_wa (by decide)]; exact hI) (by omega) (hT.dr (DR.start Mz) (by rw [mv_wa (by decide)]))) dX7_behind_29 cX7_172 rfl sh_92 rfl (by decide) (Nat.le_of_ble_eq_true rfl) rfl (fun M2z hq2 => ?_)
      obtain ⟨hv2, hf2⟩ := hq2
      rw [mv_wa (by decide)] at hv2
      have hd2 : DR Mz M2z := (DR.start Mz).fr hf2
      have hb := hd2.back
      rcases (show j = 0 ∨ j = 1 ∨ j = 2 ∨ j = 3 ∨ j = 4 ∨ j = 5 ∨ j = 6 ∨ j = 7 ∨ j = 8 by omega) with rfl | rfl | rfl | rfl | rfl | rfl | rfl | rfl | rfl
      · refine v_ild2 dX7_behind_32 ?_
        refine v_iconstN (n := 3) dX7_behind_33 ?_
        refine v_icmpN_ge (tgt := 48) dX7_behind_34 (by decide) (by omega) (by omega) (fun h34 => absurd h34 (by decide)) (fun h34 => ?_)
        refine v_ald0 dX7_behind_37 ?_
        refine v_getr dX7_behind_38 gX7_9 sh_92 rfl ?_
        refine v_iconstN (n := 3) dX7_behind_41 ?_
        refine v_ild2 dX7_behind_42 ?_
        refine v_iaddN dX7_behind_43 ?_
        refine v_ialdN dX7_behind_44 sh_93 (by omega) (by decide) ?_
        refine v_goto (tgt := 59) dX7_behind_45 (by decide) ?_
        refine v_ist3 dX7_behind_59 (by decide) ?_
        refine v_ald0 dX7_behind_60 ?_
        refine v_callVv (kM_putsBack E M2z) dX7_behind_61 cX7_188 rfl sh_92 rfl (by decide) (Nat.le_of_ble_eq_true rfl) rfl (fun M1z hq => ?_)
        rw [hq]
        clear hq
        refine v_ild3 dX7_behind_64 ?_
        exact v_iret dX7_behind_65 rfl (⟨by unfold R_behind; rw [if_pos (by simp [b2_1.mp h7, b2_1.mp h17]), tN_n (p := k) (by omega), tN_n (by omega), if_pos (by omega), ← hv2]; rfl, hb.1.fin hb.2⟩)
      · refine v_ild2 dX7_behind_32 ?_
        refine v_iconstN (n := 3) dX7_behind_33 ?_
        refine v_icmpN_ge (tgt := 48) dX7_behind_34 (by decide) (by omega) (by omega) (fun h34 => absurd h34 (by decide)) (fun h34 => ?_)
        refine v_ald0 dX7_behind_37 ?_
        refine v_getr dX7_behind_38 gX7_9 sh_92 rfl ?_
        refine v_iconstN (n := 3) dX7_behind_41 ?_
        refine v_ild2 dX7_behind_42 ?_
        refine v_iaddN dX7_behind_43 ?_
        refine v_ialdN dX7_behind_44 sh_93 (by omega) (by decide) ?_
        refine v_goto (tgt := 59) dX7_behind_45 (by decide) ?_
        refine v_ist3 dX7_behind_59 (by decide) ?_
        refine v_ald0 dX7_behind_60 ?_
        refine v_callVv (kM_putsBack E M2z) dX7_behind_61 cX7_188 rfl sh_92 rfl (by decide) (Nat.le_of_ble_eq_true rfl) rfl (fun M1z hq => ?_)
        rw [hq]
        clear hq
        refine v_ild3 dX7_behind_64 ?_
        exact v_iret dX7_behind_65 rfl (⟨by unfold R_behind; rw [if_pos (by simp [b2_1.mp h7, b2_1.mp h17]), tN_n (p := k) (by omega), tN_n (by omega), if_pos (by omega), ← hv2]; rfl, hb.1.fin hb.2⟩)
      · refine v_ild2 dX7_behind_32 ?_
        refine v_iconstN (n := 3) dX7_behind_33 ?_
        refine v_icmpN_ge (tgt := 48) dX7_behind_34 (by decide) (by omega) (by omega) (fun h34 => absurd h34 (by decide)) (fun h34 => ?_)
        refine v_ald0 dX7_behind_37 ?_
        refine v_getr dX7_behind_38 gX7_9 sh_92 rfl ?_
        refine v_iconstN (n := 3) dX7_behind_41 ?_
        refine v_ild2 dX7_behind_42 ?_
        refine v_iaddN dX7_behind_43 ?_
        refine v_ialdN dX7_behind_44 sh_93 (by omega) (by decide) ?_
        refine v_goto (tgt := 59) dX7_behind_45 (by decide) ?_
        refine v_ist3 dX7_behind_59 (by decide) ?_
        refine v_ald0 dX7_behind_60 ?_
        refine v_callVv (kM_putsBack E M2z) dX7_behind_61 cX7_188 rfl sh_92 rfl (by decide) (Nat.le_of_ble_eq_true rfl) rfl (fun M1z hq => ?_)
        rw [hq]
        clear hq
        refine v_ild3 dX7_behind_64 ?_
        exact v_iret dX7_behind_65 rfl (⟨by unfold R_behind; rw [if_pos (by simp [b2_1.mp h7, b2_1.mp h17]), tN_n (p := k) (by omega), tN_n (by omega), if_pos (by omega), ← hv2]; rfl, hb.1.fin hb.2⟩)
      · refine v_ild2 dX7_behind_32 ?_
        refine v_iconstN (n := 3) dX7_behind_33 ?_
        refine v_icmpN_ge (tgt := 48) dX7_behind_34 (by decide) (by omega) (by omega) (fun h34 => ?_) (fun h34 => absurd h34 (by decide))
        refine v_ald0 dX7_behind_48 ?_
        refine v_getr dX7_behind_49 gX7_9 sh_92 rfl ?_
        refine v_bipushN (n := 13) dX7_behind_52 (by decide) ?_
        refine v_ild2 dX7_behind_54 ?_
        refine v_iaddN dX7_behind_55 ?_
        refine v_iconstN (n := 3) dX7_behind_56 ?_
        refine v_isubN dX7_behind_57 (by decide) ?_
        refine v_ialdN dX7_behind_58 sh_93 (by omega) (by decide) ?_
        refine v_ist3 dX7_behind_59 (by decide) ?_
        refine v_ald0 dX7_behind_60 ?_
        refine v_callVv (kM_putsBack E M2z) dX7_behind_61 cX7_188 rfl sh_92 rfl (by decide) (Nat.le_of_ble_eq_true rfl) rfl (fun M1z hq => ?_)
        rw [hq]
        clear hq
        refine v_ild3 dX7_behind_64 ?_
        exact v_iret dX7_behind_65 rfl (⟨by unfold R_behind; rw [if_pos (by simp [b2_1.mp h7, b2_1.mp h17]), tN_n (p := k) (by omega), tN_n (by omega), if_neg (by omega), ← hv2]; rfl, hb.1.fin hb.2⟩)
      · refine v_ild2 dX7_behind_32 ?_
        refine v_iconstN (n := 3) dX7_behind_33 ?_
        refine v_icmpN_ge (tgt := 48) dX7_behind_34 (by decide) (by omega) (by omega) (fun h34 => ?_) (fun h34 => absurd h34 (by decide))
        refine v_ald0 dX7_behind_48 ?_
        refine v_getr dX7_behind_49 gX7_9 sh_92 rfl ?_
        refine v_bipushN (n := 13) dX7_behind_52 (by decide) ?_
        refine v_ild2 dX7_behind_54 ?_
        refine v_iaddN dX7_behind_55 ?_
        refine v_iconstN (n := 3) dX7_behind_56 ?_
        refine v_isubN dX7_behind_57 (by decide) ?_
        refine v_ialdN dX7_behind_58 sh_93 (by omega) (by decide) ?_
        refine v_ist3 dX7_behind_59 (by decide) ?_
        refine v_ald0 dX7_behind_60 ?_
        refine v_callVv (kM_putsBack E M2z) dX7_behind_61 cX7_188 rfl sh_92 rfl (by decide) (Nat.le_of_ble_eq_true rfl) rfl (fun M1z hq => ?_)
        rw [hq]
        clear hq
        refine v_ild3 dX7_behind_64 ?_
        exact v_iret dX7_behind_65 rfl (⟨by unfold R_behind; rw [if_pos (by simp [b2_1.mp h7, b2_1.mp h17]), tN_n (p := k) (by omega), tN_n (by omega), if_neg (by omega), ← hv2]; rfl, hb.1.fin hb.2⟩)
      · refine v_ild2 dX7_behind_32 ?_
        refine v_iconstN (n := 3) dX7_behind_33 ?_
        refine v_icmpN_ge (tgt := 48) dX7_behind_34 (by decide) (by omega) (by omega) (fun h34 => ?_) (fun h34 => absurd h34 (by decide))
        refine v_ald0 dX7_behind_48 ?_
        refine v_getr dX7_behind_49 gX7_9 sh_92 rfl ?_
        refine v_bipushN (n := 13) dX7_behind_52 (by decide) ?_
        refine v_ild2 dX7_behind_54 ?_
        refine v_iaddN dX7_behind_55 ?_
        refine v_iconstN (n := 3) dX7_behind_56 ?_
        refine v_isubN dX7_behind_57 (by decide) ?_
        refine v_ialdN dX7_behind_58 sh_93 (by omega) (by decide) ?_
        refine v_ist3 dX7_behind_59 (by decide) ?_
        refine v_ald0 dX7_behind_60 ?_
        refine v_callVv (kM_putsBack E M2z) dX7_behind_61 cX7_188 rfl sh_92 rfl (by decide) (Nat.le_of_ble_eq_true rfl) rfl (fun M1z hq => ?_)
        rw [hq]
        clear hq
        refine v_ild3 dX7_behind_64 ?_
        exact v_iret dX7_behind_65 rfl (⟨by unfold R_behind; rw [if_pos (by simp [b2_1.mp h7, b2_1.mp h17]), tN_n (p := k) (by omega), tN_n (by omega), if_neg (by omega), ← hv2]; rfl, hb.1.fin hb.2⟩)
      · refine v_ild2 dX7_behind_32 ?_
        refine v_iconstN (n := 3) dX7_behind_33 ?_
        refine v_icmpN_ge (tgt := 48) dX7_behind_34 (by decide) (by omega) (by omega) (fun h34 => ?_) (fun h34 => absurd h34 (by decide))
        refine v_ald0 dX7_behind_48 ?_
        refine v_getr dX7_behind_49 gX7_9 sh_92 rfl ?_
        refine v_bipushN (n := 13) dX7_behind_52 (by decide) ?_
        refine v_ild2 dX7_behind_54 ?_
        refine v_iaddN dX7_behind_55 ?_
        refine v_iconstN (n := 3) dX7_behind_56 ?_
        refine v_isubN dX7_behind_57 (by decide) ?_
        refine v_ialdN dX7_behind_58 sh_93 (by omega) (by decide) ?_
        refine v_ist3 dX7_behind_59 (by decide) ?_
        refine v_ald0 dX7_behind_60 ?_
        refine v_callVv (kM_putsBack E M2z) dX7_behind_61 cX7_188 rfl sh_92 rfl (by decide) (Nat.le_of_ble_eq_true rfl) rfl (fun M1z hq => ?_)
        rw [hq]
        clear hq
        refine v_ild3 dX7_behind_64 ?_
        exact v_iret dX7_behind_65 rfl (⟨by unfold R_behind; rw [if_pos (by simp [b2_1.mp h7, b2_1.mp h17]), tN_n (p := k) (by omega), tN_n (by omega), if_neg (by omega), ← hv2]; rfl, hb.1.fin hb.2⟩)
      · refine v_ild2 dX7_behind_32 ?_
        refine v_iconstN (n := 3) dX7_behind_33 ?_
        refine v_icmpN_ge (tgt := 48) dX7_behind_34 (by decide) (by omega) (by omega) (fun h34 => ?_) (fun h34 => absurd h34 (by decide))
        refine v_ald0 dX7_behind_48 ?_
        refine v_getr dX7_behind_49 gX7_9 sh_92 rfl ?_
        refine v_bipushN (n := 13) dX7_behind_52 (by decide) ?_
        refine v_ild2 dX7_behind_54 ?_
        refine v_iaddN dX7_behind_55 ?_
        refine v_iconstN (n := 3) dX7_behind_56 ?_
        refine v_isubN dX7_behind_57 (by decide) ?_
        refine v_ialdN dX7_behind_58 sh_93 (by omega) (by decide) ?_
        refine v_ist3 dX7_behind_59 (by decide) ?_
        refine v_ald0 dX7_behind_60 ?_
        refine v_callVv (kM_putsBack E M2z) dX7_behind_61 cX7_188 rfl sh_92 rfl (by decide) (Nat.le_of_ble_eq_true rfl) rfl (fun M1z hq => ?_)
        rw [hq]
        clear hq
        refine v_ild3 dX7_behind_64 ?_
        exact v_iret dX7_behind_65 rfl (⟨by unfold R_behind; rw [if_pos (by simp [b2_1.mp h7, b2_1.mp h17]), tN_n (p := k) (by omega), tN_n (by omega), if_neg (by omega), ← hv2]; rfl, hb.1.fin hb.2⟩)
      · refine v_ild2 dX7_behind_32 ?_
        refine v_iconstN (n := 3) dX7_behind_33 ?_
        refine v_icmpN_ge (tgt := 48) dX7_behind_34 (by decide) (by omega) (by omega) (fun h34 => ?_) (fun h34 => absurd h34 (by decide))
        refine v_ald0 dX7_behind_48 ?_
        refine v_getr dX7_behind_49 gX7_9 sh_92 rfl ?_
        refine v_bipushN (n := 13) dX7_behind_52 (by decide) ?_
        refine v_ild2 dX7_behind_54 ?_
        refine v_iaddN dX7_behind_55 ?_
        refine v_iconstN (n := 3) dX7_behind_56 ?_
        refine v_isubN dX7_behind_57 (by decide) ?_
        refine v_ialdN dX7_behind_58 sh_93 (by omega) (by decide) ?_
        refine v_ist3 dX7_behind_59 (by decide) ?_
        refine v_ald0 dX7_behind_60 ?_
        refine v_callVv (kM_putsBack E M2z) dX7_behind_61 cX7_188 rfl sh_92 rfl (by decide) (Nat.le_of_ble_eq_true rfl) rfl (fun M1z hq => ?_)
        rw [hq]
        clear hq
        refine v_ild3 dX7_behind_64 ?_
        exact v_iret dX7_behind_65 rfl (⟨by unfold R_behind; rw [if_pos (by simp [b2_1.mp h7, b2_1.mp h17]), tN_n (p := k) (by omega), tN_n (by omega), if_neg (by omega), ← hv2]; rfl, hb.1.fin hb.2⟩)
    · refine v_ldc dX7_behind_20 kX7_119 ?_
      exact v_iret dX7_behind_22 rfl (⟨by unfold R_behind; rw [if_neg (by simp [b2_1.mp h7, b2_0.mp h17])], FrD.rf Mz⟩)
def fsR (pf : p4) (v : fl) (f : Nat) (c : Int32) : Nat → Int32
  | 0 => cNONE
  | r + 1 => if gr (wksS pf v (200 - r)) f = c then nI (200 - r) else fsR pf v f c r
def R_first (pf : p4) (v : fl) (f c : Int32) : Int32 := if (isF f && inB c (nI 0) (nI 9)) = true then fsR pf v (tN f) c 201 else cBAD
theorem fs_t {pf : p4} {v : fl} {f k : Nat} {c : Int32} (hk : k < 201) (h : gr (wksS pf v k) f = c) : fsR pf v f c (201 - k) = nI k := by
  rw [show 201 - k = (200 - k) + 1 by omega]
  unfold fsR
  rw [show 200 - (200 - k) = k by omega, if_pos h]
theorem fs_f {pf : p4} {v : fl} {f k : Nat} {c : Int32} (hk : k < 201) (h : ¬ gr (wksS pf v k) f = c) : fsR pf v f c (201 - k) = fsR pf v f c (201 - (k + 1)) := by
  rw [show 201 - k = (200 - k) + 1 by omega]
  conv => lhs; unfold fsR
  rw [show 200 - (200 - k) = k by omega, if_neg h, show 200 - k = 201 - (k + 1) by omega]
set_option maxRecDepth 100000 in
set_option maxHeartbeats 4000000 in
theorem aX_first (E : ev) (Mz : mm) {f c : Int32} {T : Nat} {tt : Nat → tx} (hI : CI (cv Mz 38) 10000) (hT : TxC Mz 38 tt T) : Ct E 7 yX6_first cX6_first 4 (some .int) [.inr 0, .inl f, .inl c] Mz (qI E (fun r M' => r = R_first (pfT tt T) (cv Mz 38) f c ∧ FrX Mz M')) := by
  refine ct_of (by decide) (Nat.le_of_ble_eq_true rfl) ?_
  show V E 7 _ _ _ _ _ 0 [some (.inr 0), some (.inl f), some (.inl c), none] [] Mz
  refine v_ild1 dX6_first_0 ?_
  refine v_callSi (kX_noField E _) dX6_first_1 cX6_111 rfl (by decide) (Nat.le_of_ble_eq_true rfl) rfl (fun r M1z hq => ?_)
  obtain ⟨hr, hm⟩ := hq
  rw [hr, hm]
  clear hr hm
  refine v_if_ne (tgt := 17) dX6_first_4 (by decide) (fun h4 => ?_) (fun h4 => ?_)
  · refine v_ldc dX6_first_17 kX6_67 ?_
    exact v_iret dX6_first_19 rfl (⟨by unfold R_first; rw [if_neg (by simp [nb1 h4])], FrX.rf Mz⟩)
  · refine v_ild2 dX6_first_7 ?_
    refine v_iconstN (n := 0) dX6_first_8 ?_
    refine v_bipushN (n := 9) dX6_first_9 (by decide) ?_
    refine v_callSi (kX_outside E _) dX6_first_11 cX6_63 rfl (by decide) (Nat.le_of_ble_eq_true rfl) rfl (fun r M1z hq => ?_)
    obtain ⟨hr, hm⟩ := hq
    rw [hr, hm]
    clear hr hm
    refine v_if_eq (tgt := 20) dX6_first_14 (by decide) (fun h14 => ?_) (fun h14 => ?_)
    · obtain ⟨g, hgl, hg, rfl⟩ := inB_n (by decide) (by decide) (nb0 h4)
      obtain ⟨k, hkl, hk, rfl⟩ := inB_n (by decide) (by decide) (nb0 h14)
      refine v_ald0 dX6_first_20 ?_
      refine v_getr dX6_first_21 gX6_35 sh_0 rfl ?_
      refine v_ald0 dX6_first_24 ?_
      refine v_getr dX6_first_25 gX6_28 sh_0 rfl ?_
      refine v_callVv (kC_over_56_38 E Mz) dX6_first_28 cX6_177 rfl sh_56 rfl (by decide) (Nat.le_of_ble_eq_true rfl) rfl (fun M1z hq1 => ?_)
      obtain ⟨hv1, hl1, hf1⟩ := hq1
      have hI1 : CI (cv M1z 56) 10000 := by rw [hv1]; exact hI
      have hT1 : TxC M1z 56 tt T := hT.over CB.trial hv1 hl1 hf1
      refine v_iconstN (n := 0) dX6_first_31 ?_
      refine v_ist3 dX6_first_32 (by decide) ?_
      refine v_loopP (pc := 33) (fun j _ => [some (.inr 0), some (.inl (nI g)), some (.inl (nI k)), some (.inl (nI j))]) (fun j Mj => cv Mj 56 = wksS (pfT tt T) (cv Mz 38) j ∧ FrX Mz Mj ∧ TxC Mj 56 tt T ∧ fsR (pfT tt T) (cv Mz 38) g (nI k) 201 = fsR (pfT tt T) (cv Mz 38) g (nI k) (201 - j)) (201) (rfl) (⟨hv1, FrX.t hf1, hT1, rfl⟩) (fun j Mj hj hM ih => ?_) (fun Mj hM => ?_)
      · obtain ⟨hv, hfr, hTk, hfs⟩ := hM
        obtain ⟨hIk, -, hk6⟩ := wks_ok (pfT_ok tt T) hI j (by omega)
        rw [← hv] at hIk
        refine v_ild3 dX6_first_33 ?_
        refine v_sipushN (n := 200) dX6_first_34 (by decide +kernel) ?_
        refine v_icmpN_gt (tgt := 69) dX6_first_37 (by decide) (by omega) (by omega) (fun h37 => absurd h37 (by omega)) (fun h37 => ?_)
        refine v_ald0 dX6_first_40 ?_
        refine v_getr dX6_first_41 gX6_35 sh_0 rfl ?_
        refine v_getr dX6_first_44 gX6_134 sh_56 rfl ?_
        refine v_ild1 dX6_first_47 ?_
        refine v_ialdN dX6_first_48 sh_63 (by omega) (by decide) ?_
        refine v_eq (show _ = gr (cv Mj 56) g from (cv_gr Mj 56 (by omega)).symm) ?_
        refine v_ild2 dX6_first_49 ?_
        refine v_icmp_ne (tgt := 55) dX6_first_50 (by decide) (fun h50 => ?_) (fun h50 => ?_)
        · refine v_ald0 dX6_first_55 ?_
          refine v_getr dX6_first_56 gX6_35 sh_0 rfl ?_
          refine v_iconstN (n := 1) dX6_first_59 ?_
          refine v_callVv (kC_pass E Mj (n := 1) CB.trial hIk (by omega) hTk) dX6_first_60 cX6_160 rfl sh_56 rfl (by decide) (Nat.le_of_ble_eq_true rfl) rfl (fun M2z hq2 => ?_)
          refine v_iincN3 (n := 1) dX6_first_63 (by decide) ?_
          refine v_goto (tgt := 33) dX6_first_66 (by decide) ?_
          exact ih _ ⟨by rw [hq2.1, hv]; rfl, hfr.tr (FrX.c hq2.2), hTk.fr CB.trial hq2.2 (by rw [hq2.1]; exact (wks_ok (pfT_ok tt T) hIk 1 (by omega)).2.2), hfs.trans (fs_f hj (by rw [← hv]; exact h50))⟩
        · refine v_ild3 dX6_first_53 ?_
          exact v_iret dX6_first_54 rfl (⟨by unfold R_first; rw [if_pos (by simp [nb0 h4, nb0 h14]), tN_n (by omega), hfs, fs_t hj (by rw [← hv]; exact h50)], hfr⟩)
      · obtain ⟨hv, hfr, hTk, hfs⟩ := hM
        refine v_ild3 dX6_first_33 ?_
        refine v_sipushN (n := 200) dX6_first_34 (by decide +kernel) ?_
        refine v_icmpN_gt (tgt := 69) dX6_first_37 (by decide) (by omega) (by omega) (fun h37 => ?_) (fun h37 => absurd h37 (by omega))
        refine v_ldc dX6_first_69 kX6_181 ?_
        exact v_iret dX6_first_71 rfl (⟨by unfold R_first; rw [if_pos (by simp [nb0 h4, nb0 h14]), tN_n (by omega), hfs]; rfl, hfr⟩)
    · refine v_ldc dX6_first_17 kX6_67 ?_
      exact v_iret dX6_first_19 rfl (⟨by unfold R_first; rw [if_neg (by simp [nb0 h4, nb1 h14])], FrX.rf Mz⟩)
set_option maxRecDepth 100000 in
set_option maxHeartbeats 4000000 in
theorem aM_first (E : ev) (Mz : mm) {f c : Int32} {T : Nat} {tt : Nat → tx} (hI : CI (mv Mz) 10000) (hT : TxM Mz tt T) : Ct E 7 yX7_first cX7_first 4 (some .int) [.inr 92, .inl f, .inl c] Mz (qI E (fun r M' => r = R_first (pfT tt T) (mv Mz) f c ∧ FrD Mz M')) := by
  refine ct_of (by decide) (Nat.le_of_ble_eq_true rfl) ?_
  show V E 7 _ _ _ _ _ 0 [some (.inr 92), some (.inl f), some (.inl c), none] [] Mz
  refine v_ild1 dX7_first_0 ?_
  refine v_callSi (kM_isField E _) dX7_first_1 cX7_145 rfl (by decide) (Nat.le_of_ble_eq_true rfl) rfl (fun r M1z hq => ?_)
  obtain ⟨hr, hm⟩ := hq
  rw [hr, hm]
  clear hr hm
  refine v_if_eq (tgt := 17) dX7_first_4 (by decide) (fun h4 => ?_) (fun h4 => ?_)
  · refine v_ldc dX7_first_17 kX7_119 ?_
    exact v_iret dX7_first_19 rfl (⟨by unfold R_first; rw [if_neg (by simp [show isF f = false from b2_0.mp h4])], FrD.rf Mz⟩)
  · refine v_ild2 dX7_first_7 ?_
    refine v_iconstN (n := 0) dX7_first_8 ?_
    refine v_bipushN (n := 9) dX7_first_9 (by decide) ?_
    refine v_callSi (kM_in E _) dX7_first_11 cX7_75 rfl (by decide) (Nat.le_of_ble_eq_true rfl) rfl (fun r M1z hq => ?_)
    obtain ⟨hr, hm⟩ := hq
    rw [hr, hm]
    clear hr hm
    refine v_if_ne (tgt := 20) dX7_first_14 (by decide) (fun h14 => ?_) (fun h14 => ?_)
    · obtain ⟨g, hgl, hg, rfl⟩ := inB_n (by decide) (by decide) (b2_1.mp h4)
      obtain ⟨k, hkl, hk, rfl⟩ := inB_n (by decide) (by decide) (b2_1.mp h14)
      refine v_ald0 dX7_first_20 ?_
      refine v_callVv (kM_dreams E Mz) dX7_first_21 cX7_185 rfl sh_92 rfl (by decide) (Nat.le_of_ble_eq_true rfl) rfl (fun M1z hq => ?_)
      rw [hq]
      clear hq
      refine v_iconstN (n := 0) dX7_first_24 ?_
      refine v_ist3 dX7_first_25 (by decide) ?_
      refine v_loopP (pc := 26) (fun j _ => [some (.inr 92), some (.inl (nI g)), some (.inl (nI k)), some (.inl (nI j))]) (fun j Mj => mv Mj = wksS (pfT tt T) (mv Mz) j ∧ DR Mz Mj ∧ fsR (pfT tt T) (mv Mz) g (nI k) 201 = fsR (pfT tt T) (mv Mz) g (nI k) (201 - j)) (201) (rfl) (⟨mv_wa (by decide), DR.start Mz, rfl⟩) (fun j Mj hj hM ih => ?_) (fun Mj hM => ?_)
      · obtain ⟨hv, hd, hfs⟩ := hM
        obtain ⟨hIk, -, hk6⟩ := wks_ok (pfT_ok tt T) hI j (by omega)
        rw [← hv] at hIk hk6
        have hTk : TxM Mj tt T := hT.dr hd hk6
        have hgr : Mj 93 (13 + g) = gr (mv Mj) g := (mv_at Mj (by omega)).symm
        refine v_ild3 dX7_first_26 ?_
        refine v_sipushN (n := 200) dX7_first_27 (by decide +kernel) ?_
        refine v_icmpN_gt (tgt := 56) dX7_first_30 (by decide) (by omega) (by omega) (fun h30 => absurd h30 (by omega)) (fun h30 => ?_)
        refine v_ald0 dX7_first_33 ?_
        refine v_getr dX7_first_34 gX7_9 sh_92 rfl ?_
        refine v_bipushN (n := 13) dX7_first_37 (by decide) ?_
        refine v_ild1 dX7_first_39 ?_
        refine v_iaddN dX7_first_40 ?_
        refine v_ialdN dX7_first_41 sh_93 (by omega) (by decide) ?_
        refine v_eq (hgr) ?_
        refine v_ild2 dX7_first_42 ?_
        refine v_icmp_eq (tgt := 56) dX7_first_43 (by decide) (fun h43 => ?_) (fun h43 => ?_)
        · refine v_ald0 dX7_first_56 ?_
          refine v_callVv (kM_putsBack E Mj) dX7_first_57 cX7_188 rfl sh_92 rfl (by decide) (Nat.le_of_ble_eq_true rfl) rfl (fun M1z hq => ?_)
          rw [hq]
          clear hq
          refine v_ild3 dX7_first_60 ?_
          refine v_sipushN (n := 200) dX7_first_61 (by decide +kernel) ?_
          refine v_icmpN_le (tgt := 72) dX7_first_64 (by decide) (by omega) (by omega) (fun h64 => ?_) (fun h64 => absurd h64 (by omega))
          refine v_ild3 dX7_first_72 ?_
          exact v_iret dX7_first_73 rfl (⟨by unfold R_first; rw [if_pos (by simp [show isF (nI g) = true from b2_1.mp h4, b2_1.mp h14]), tN_n (by omega), hfs, fs_t hj (by rw [← hv]; exact h43)], hd.back.1.fin hd.back.2⟩)
        · refine v_ald0 dX7_first_46 ?_
          refine v_callVv (kM_week E Mj hIk (by omega) hTk) dX7_first_47 cX7_169 rfl sh_92 rfl (by decide) (Nat.le_of_ble_eq_true rfl) rfl (fun M2z hq2 => ?_)
          refine v_iincN3 (n := 1) dX7_first_50 (by decide) ?_
          refine v_goto (tgt := 26) dX7_first_53 (by decide) ?_
          exact ih _ ⟨by rw [hq2.1, hv]; rfl, hd.fr hq2.2, hfs.trans (fs_f hj (by rw [← hv]; exact h43))⟩
      · obtain ⟨hv, hd, hfs⟩ := hM
        refine v_ild3 dX7_first_26 ?_
        refine v_sipushN (n := 200) dX7_first_27 (by decide +kernel) ?_
        refine v_icmpN_gt (tgt := 56) dX7_first_30 (by decide) (by omega) (by omega) (fun h30 => ?_) (fun h30 => absurd h30 (by omega))
        refine v_ald0 dX7_first_56 ?_
        refine v_callVv (kM_putsBack E Mj) dX7_first_57 cX7_188 rfl sh_92 rfl (by decide) (Nat.le_of_ble_eq_true rfl) rfl (fun M1z hq => ?_)
        rw [hq]
        clear hq
        refine v_ild3 dX7_first_60 ?_
        refine v_sipushN (n := 200) dX7_first_61 (by decide +kernel) ?_
        refine v_icmpN_le (tgt := 72) dX7_first_64 (by decide) (by omega) (by omega) (fun h64 => absurd h64 (by omega)) (fun h64 => ?_)
        refine v_ldc dX7_first_67 kX7_191 ?_
        refine v_goto (tgt := 73) dX7_first_69 (by decide) ?_
        exact v_iret dX7_first_73 rfl (⟨by unfold R_first; rw [if_pos (by simp [show isF (nI g) = true from b2_1.mp h4, b2_1.mp h14]), tN_n (by omega), hfs]; rfl, hd.back.1.fin hd.back.2⟩)
    · refine v_ldc dX7_first_17 kX7_119 ?_
      exact v_iret dX7_first_19 rfl (⟨by unfold R_first; rw [if_neg (by simp [show isF f = true from b2_1.mp h4, b2_0.mp h14])], FrD.rf Mz⟩)
