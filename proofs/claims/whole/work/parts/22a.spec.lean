
/-! THE CLASS: words of its own -/
theorem z_out16 {x : Int32} (h : x.toInt < 1 ∨ 6 < x.toInt) : x ≠ 1 ∧ x ≠ 2 ∧ x ≠ 3 ∧ x ≠ 4 ∧ x ≠ 5 ∧ x ≠ 6 := by
  refine ⟨?_, ?_, ?_, ?_, ?_, ?_⟩ <;> intro e <;> subst e <;> exact absurd h (by decide)
theorem z_out26 {x : Int32} (h : x.toInt < 2 ∨ 6 < x.toInt) : x ≠ 2 ∧ x ≠ 3 ∧ x ≠ 4 ∧ x ≠ 5 ∧ x ≠ 6 := by
  refine ⟨?_, ?_, ?_, ?_, ?_⟩ <;> intro e <;> subst e <;> exact absurd h (by decide)
theorem z_out14 {x : Int32} (h : x.toInt < 1 ∨ 4 < x.toInt) : x ≠ 1 ∧ x ≠ 2 ∧ x ≠ 3 ∧ x ≠ 4 := by
  refine ⟨?_, ?_, ?_, ?_⟩ <;> intro e <;> subst e <;> exact absurd h (by decide)
theorem z_out09 {x : Int32} (h : x.toInt < 0 ∨ 9 < x.toInt) : x ≠ 0 ∧ x ≠ 1 ∧ x ≠ 2 ∧ x ≠ 3 ∧ x ≠ 4 ∧ x ≠ 5 ∧ x ≠ 6 ∧ x ≠ 7 ∧ x ≠ 8 ∧ x ≠ 9 := by
  refine ⟨?_, ?_, ?_, ?_, ?_, ?_, ?_, ?_, ?_, ?_⟩ <;> intro e <;> subst e <;> exact absurd h (by decide)
/-- a coin as another coat has it -/
def s_cp (τ σ : Nat → Int32) (c i : Nat) : Int32 := if 16 + 8 * c ≤ i ∧ i < 16 + 8 * c + 8 then τ i else σ i
theorem s_cp_up (τ σ : Nat → Int32) (c : Nat) : upd (upd (upd (upd (upd (upd (upd (upd σ (16 + 8 * c + 0) (τ (16 + 8 * c + 0))) (16 + 8 * c + 1) (τ (16 + 8 * c + 1))) (16 + 8 * c + 2) (τ (16 + 8 * c + 2))) (16 + 8 * c + 3) (τ (16 + 8 * c + 3))) (16 + 8 * c + 4) (τ (16 + 8 * c + 4))) (16 + 8 * c + 5) (τ (16 + 8 * c + 5))) (16 + 8 * c + 6) (τ (16 + 8 * c + 6))) (16 + 8 * c + 7) (τ (16 + 8 * c + 7)) = s_cp τ σ c := by
  funext i
  unfold s_cp
  by_cases h : 16 + 8 * c ≤ i ∧ i < 16 + 8 * c + 8
  · rw [if_pos h]
    rcases (show i = 16 + 8 * c + 0 ∨ i = 16 + 8 * c + 1 ∨ i = 16 + 8 * c + 2 ∨ i = 16 + 8 * c + 3 ∨ i = 16 + 8 * c + 4 ∨ i = 16 + 8 * c + 5 ∨ i = 16 + 8 * c + 6 ∨ i = 16 + 8 * c + 7 by omega) with rfl | rfl | rfl | rfl | rfl | rfl | rfl | rfl
    all_goals repeat (first | rw [u_eq] | rw [u_ne _ _ (by omega)])
  · rw [if_neg h]
    rw [u_ne _ _ (by omega), u_ne _ _ (by omega), u_ne _ _ (by omega), u_ne _ _ (by omega), u_ne _ _ (by omega), u_ne _ _ (by omega), u_ne _ _ (by omega), u_ne _ _ (by omega)]
/-- the class moves a coin -/
theorem s_move (σ : Nat → Int32) (c : Nat) (pl : Int32) : upd (upd (upd (upd σ (16 + 8 * c + 4) pl) (16 + 8 * c + 5) 0) (16 + 8 * c + 6) 0) (16 + 8 * c + 7) (-1) = s_goTo σ c pl := by
  unfold s_goTo
  rw [u_cm σ pl 0 (by omega), u_cm _ pl 0 (by omega), u_cm _ pl (-1) (by omega)]
/-- of which kind a coin is, as the class asks -/
def s_isK (kind k : Int32) : Bool := decide (k = 0) || decide (k = kind) || (decide (k = 1) && decide (kind = 3)) || (decide (k = 2) && decide (kind = 4)) || (decide (k = 5) && decide (kind = 6))
theorem s_isK_n : ∀ a, a < 7 → ∀ b, b < 7 → s_isK (nI a) (nI b) = s_under (nI a) (nI b) := by decide +kernel
theorem s_isK_eq {a b : Int32} (ha : b_in a 0 6 = true) (hb : b_in b 0 6 = true) : s_isK a b = s_under a b := by
  obtain ⟨i, hi, rfl⟩ := b_in0 6 (by decide) ha
  obtain ⟨j, hj, rfl⟩ := b_in0 6 (by decide) hb
  exact s_isK_n i (by omega) j (by omega)
