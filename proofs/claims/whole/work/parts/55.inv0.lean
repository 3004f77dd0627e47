/-! the start: no people -/
def v0 : fl := fun i => if i = 0 then 1 else 0
theorem v0_n {i : Nat} (h : i ≠ 0) : v0 i = 0 := if_neg h
theorem v0_in {i n : Nat} (h : i ≠ 0) (hn : 0 < n) : inR (v0 i) n := ⟨0, hn, by rw [v0_n h]; exact nI_0.symm⟩
theorem cv_0 (cc : Nat) (h0 : M0 cc = fun j => if j = 13 then 1 else 0) (hz : ∀ k, k < 7 → M0 (cc + 1 + k) = fun _ => 0) : cv M0 cc = v0 := by
  funext i
  unfold cv
  by_cases h1 : i < 7
  · rw [if_pos h1, h0]
    rcases (show i = 0 ∨ i = 1 ∨ i = 2 ∨ i = 3 ∨ i = 4 ∨ i = 5 ∨ i = 6 by omega) with rfl | rfl | rfl | rfl | rfl | rfl | rfl <;> rfl
  have hi : i ≠ 0 := by omega
  rw [v0_n hi, if_neg h1]
  by_cases h2 : i < 13
  · rw [if_pos h2, hz 5 (by omega)]
  rw [if_neg h2]
  by_cases h3 : i < 19
  · rw [if_pos h3, hz 6 (by omega)]
  rw [if_neg h3]
  by_cases h4 : i < 99
  · rw [if_pos h4]
    by_cases h5 : (i - 19) % 10 < 4
    · rw [if_pos h5, hz _ (by omega)]
    · rw [if_neg h5, hz 4 (by omega)]
  · rw [if_neg h4]
theorem mv_0 : mv M0 = v0 := by
  funext i
  unfold mv
  rw [show M0 93 = upd (fun _ => 0) 0 1 from rfl]
  by_cases h : i < 99
  · rw [if_pos h]
    by_cases e : i = 0
    · rw [e, pk_us]; rfl
    · rw [pk_un e, v0_n e]
  · rw [if_neg h, v0_n (by omega)]
theorem ky_0 : ∀ i : Fin 3, ∀ k : Fin 6, k.val < lnS i.val → M0 98 (ofK i.val + k.val) = btS i.val k.val := by decide +kernel
theorem ln_0 : ∀ i : Fin 3, lnS i.val ≤ 6 := by decide
theorem inv0 : Inv M0 := by
  refine ⟨(v0, fun _ => (0, 0, 0, fun _ => 0), 0, (fun _ => -1, fun _ => 0, fun _ _ => 0), fun _ => (0, 0, 0, 0, fun _ => 0), 0, fun _ => 0, fun _ => 0, 0, false, v0, 0), ⟨?_, ⟨by omega, rfl, fun t ht => absurd ht (Nat.not_lt_zero _), fun key hk => ?_⟩, fun i hi => ?_, fun i hi => ?_, ⟨rfl, fun i hi => absurd hi (Nat.not_lt_zero _)⟩, ⟨rfl, by omega, fun i hi => absurd hi (Nat.not_lt_zero _)⟩, rfl, (fun h => by cases h)⟩, ⟨mv_0, ⟨by omega, rfl, fun t ht => absurd ht (Nat.not_lt_zero _)⟩, fun i hi => ?_, fun i hi => ?_, ⟨rfl, fun i hi => absurd hi (Nat.not_lt_zero _)⟩, ⟨rfl, by omega, fun i hi => absurd hi (Nat.not_lt_zero _)⟩, rfl, (fun h => by cases h), ⟨fun i hi => ?_, fun i hi k hk => ?_⟩⟩, ⟨?_, by omega, (fun h => by cases h)⟩⟩
  · exact cv_0 38 rfl (fun k hk => by rcases (show k = 0 ∨ k = 1 ∨ k = 2 ∨ k = 3 ∨ k = 4 ∨ k = 5 ∨ k = 6 by omega) with rfl | rfl | rfl | rfl | rfl | rfl | rfl <;> rfl)
  · rcases (show key = 0 ∨ key = 1 ∨ key = 2 by omega) with rfl | rfl | rfl <;> rfl
  · rcases (show i = 0 ∨ i = 1 ∨ i = 2 ∨ i = 3 by omega) with rfl | rfl | rfl | rfl <;> exact ⟨rfl, rfl, ⟨Nat.zero_le _, Or.inl rfl⟩, fun k hk => rfl⟩
  · rcases (show i = 0 ∨ i = 1 ∨ i = 2 ∨ i = 3 ∨ i = 4 by omega) with rfl | rfl | rfl | rfl | rfl <;> exact ⟨rfl, (by decide : (0 : Nat) < 4), fun h => absurd h (by decide : ¬ (0 : Nat) = 1), fun h => absurd h (by decide : ¬ (0 : Nat) = 2), fun h => absurd h (by decide : ¬ (0 : Nat) = 3)⟩
  · rcases (show i = 0 ∨ i = 1 ∨ i = 2 ∨ i = 3 by omega) with rfl | rfl | rfl | rfl <;> exact ⟨rfl, rfl, ⟨Nat.zero_le _, Or.inl rfl⟩, fun k hk => rfl⟩
  · rcases (show i = 0 ∨ i = 1 ∨ i = 2 ∨ i = 3 ∨ i = 4 by omega) with rfl | rfl | rfl | rfl | rfl <;> exact ⟨rfl, (by decide : (0 : Nat) < 4), fun h => absurd h (by decide : ¬ (0 : Nat) = 1), fun h => absurd h (by decide : ¬ (0 : Nat) = 2), fun h => absurd h (by decide : ¬ (0 : Nat) = 3)⟩
  · rcases (show i = 0 ∨ i = 1 ∨ i = 2 ∨ i = 3 by omega) with rfl | rfl | rfl | rfl <;> rfl
  · have := ln_0 ⟨i, hi⟩
    have h6 : k < 6 := Nat.lt_of_lt_of_le hk this
    exact ky_0 ⟨i, hi⟩ ⟨k, h6⟩ hk
  · exact ⟨v0_in (by omega) (by omega), fun p hp => ⟨v0_in (by omega) (by omega), v0_in (by omega) (by omega), v0_in (by omega) (by omega), v0_in (by omega) (by omega), fun f hf => v0_in (by omega) (by omega)⟩, fun f hf => ⟨v0_in (by omega) (by omega), v0_in (by omega) (by omega)⟩, v0_in (by omega) (by omega), v0_in (by omega) (by omega), v0_in (by omega) (by omega)⟩
