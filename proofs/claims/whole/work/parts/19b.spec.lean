
theorem s_has_n {m c : Nat} (hm : m < 2 ^ 31) (hc : c < 31) : s_has (nI m) c = m.testBit c := by
  unfold s_has
  rw [pk_shrN hm _ c (i_shrc c hc), i_and1, Nat.testBit_eq_decide_div_mod_eq]
  exact decide_eq_decide.mpr (nI_eq (a := m / 2 ^ c % 2) (b := 1) (by omega) (by omega))
def p_lie (σ : Nat → Int32) (pl : Int32) : Nat → Nat
  | 0 => 0
  | c + 1 => if σ (16 + 8 * c + 4) = pl then p_lie σ pl c ||| 2 ^ c else p_lie σ pl c
theorem p_lie_lt (σ : Nat → Int32) (pl : Int32) : ∀ N, p_lie σ pl N < 2 ^ N
  | 0 => Nat.zero_lt_one
  | N + 1 => by
    have ih := p_lie_lt σ pl N
    have h2 : 2 ^ N < 2 ^ (N + 1) := Nat.pow_lt_pow_right (by decide) (Nat.lt_succ_self N)
    unfold p_lie
    split
    · exact Nat.or_lt_two_pow (by omega) h2
    · omega
theorem p_lie_1024 (σ : Nat → Int32) (pl : Int32) {N : Nat} (h : N ≤ 10) : p_lie σ pl N < 1024 := Nat.lt_of_lt_of_le (p_lie_lt σ pl N) (i_pow h)
theorem s_lie_n (σ : Nat → Int32) (pl : Int32) : ∀ N, N ≤ 31 → s_lie σ pl N = nI (p_lie σ pl N)
  | 0, _ => rfl
  | N + 1, h => by
    have ih := s_lie_n σ pl N (by omega)
    unfold s_lie p_lie
    split
    · rw [ih, i_shl1 N (by omega), fa_or]
    · exact ih
theorem p_lie_bit (σ : Nat → Int32) (pl : Int32) : ∀ N c, (p_lie σ pl N).testBit c = (decide (c < N) && decide (σ (16 + 8 * c + 4) = pl))
  | 0, c => by simp [p_lie]
  | N + 1, c => by
    have ih := p_lie_bit σ pl N c
    unfold p_lie
    by_cases h : σ (16 + 8 * N + 4) = pl
    · rw [if_pos h, Nat.testBit_or, ih, Nat.testBit_two_pow]
      by_cases e : N = c
      · subst e; simp [h]
      · have e1 : (decide (c < N + 1)) = decide (c < N) := by
          by_cases q : c < N
          · simp [q]; omega
          · simp [q]; omega
        simp [e, e1]
    · rw [if_neg h, ih]
      by_cases e : N = c
      · subst e; simp [h]
      · have e1 : (decide (c < N + 1)) = decide (c < N) := by
          by_cases q : c < N
          · simp [q]; omega
          · simp [q]; omega
        simp [e1]
/-- how many came to the ground -/
def s_fell (σ τ : Nat → Int32) (N : Nat) : Int32 := nI (p_pop (p_lie τ 2 N)) - nI (p_pop (p_lie σ 2 N))
theorem s_inP_lo (σ : Nat → Int32) (c : Nat) {i : Nat} (h : i < 16) (h1 : i ≠ 1) : s_inP σ c i = σ i := by
  have a4 : i ≠ 16 + 8 * c + 4 := by omega
  have a5 : i ≠ 16 + 8 * c + 5 := by omega
  have a6 : i ≠ 16 + 8 * c + 6 := by omega
  unfold s_inP
  repeat' split
  all_goals simp only [u_ne _ _ a4, u_ne _ _ a5, u_ne _ _ a6, u_ne _ _ h1]
theorem s_inL_lo (σ : Nat → Int32) (N c : Nat) (st : Int32) {i : Nat} (h : i < 16) : s_inL σ N c st i = σ i := by
  have a4 : i ≠ 16 + 8 * c + 4 := by omega
  have a6 : i ≠ 16 + 8 * c + 6 := by omega
  have a7 : i ≠ 16 + 8 * c + 7 := by omega
  unfold s_inL
  split
  all_goals simp only [u_ne _ _ a4, u_ne _ _ a6, u_ne _ _ a7]
theorem s_pk_lo (σ : Nat → Int32) {i : Nat} (h : i < 16) (h1 : i ≠ 1) : ∀ c, s_pk σ c i = σ i
  | 0 => rfl
  | c + 1 => by
    unfold s_pk
    split
    · rw [s_inP_lo _ _ h h1, s_pk_lo σ h h1 c]
    · exact s_pk_lo σ h h1 c
theorem s_ln_lo (σ : Nat → Int32) (N : Nat) (set st : Int32) {i : Nat} (h : i < 16) : ∀ c, s_ln σ N set st c i = σ i
  | 0 => rfl
  | c + 1 => by
    unfold s_ln
    split
    · rw [s_inL_lo _ _ _ _ h, s_ln_lo σ N set st h c]
    · exact s_ln_lo σ N set st h c
theorem s_step_lo (σ : Nat → Int32) (N : Nat) {i : Nat} (h : i < 16) (h1 : i ≠ 1) (h0 : i ≠ 0) : s_step σ N i = σ i := by
  unfold s_step
  rw [u_ne _ _ h0, s_ln_lo _ _ _ _ h, s_pk_lo _ h h1]
theorem s_steps_lo (σ : Nat → Int32) (N : Nat) {i : Nat} (h : i < 16) (h1 : i ≠ 1) (h0 : i ≠ 0) : ∀ n, s_steps σ N n i = σ i
  | 0 => rfl
  | n + 1 => by rw [s_steps, s_step_lo _ _ h h1 h0, s_steps_lo σ N h h1 h0 n]
theorem s_step_0 (σ : Nat → Int32) (N : Nat) : s_step σ N 0 = σ 0 + 1 := by rw [s_step, u_eq]
theorem s_inP_hi (σ : Nat → Int32) {c i : Nat} (hc : c < 10) (h : 96 ≤ i) : s_inP σ c i = σ i := by
  have a1 : i ≠ 1 := by omega
  have a4 : i ≠ 16 + 8 * c + 4 := by omega
  have a5 : i ≠ 16 + 8 * c + 5 := by omega
  have a6 : i ≠ 16 + 8 * c + 6 := by omega
  unfold s_inP
  repeat' split
  all_goals simp only [u_ne _ _ a4, u_ne _ _ a5, u_ne _ _ a6, u_ne _ _ a1]
theorem s_inL_hi (σ : Nat → Int32) (N : Nat) {c i : Nat} (st : Int32) (hc : c < 10) (h : 96 ≤ i) : s_inL σ N c st i = σ i := by
  have a4 : i ≠ 16 + 8 * c + 4 := by omega
  have a6 : i ≠ 16 + 8 * c + 6 := by omega
  have a7 : i ≠ 16 + 8 * c + 7 := by omega
  unfold s_inL
  split
  all_goals simp only [u_ne _ _ a4, u_ne _ _ a6, u_ne _ _ a7]
theorem s_pk_hi (σ : Nat → Int32) {i : Nat} (h : 96 ≤ i) : ∀ c, c ≤ 10 → s_pk σ c i = σ i
  | 0, _ => rfl
  | c + 1, hc => by
    unfold s_pk
    split
    · rw [s_inP_hi _ (by omega) h, s_pk_hi σ h c (by omega)]
    · exact s_pk_hi σ h c (by omega)
theorem s_ln_hi (σ : Nat → Int32) (N : Nat) (set st : Int32) {i : Nat} (h : 96 ≤ i) : ∀ c, c ≤ 10 → s_ln σ N set st c i = σ i
  | 0, _ => rfl
  | c + 1, hc => by
    unfold s_ln
    split
    · rw [s_inL_hi _ _ _ (by omega) h, s_ln_hi σ N set st h c (by omega)]
    · exact s_ln_hi σ N set st h c (by omega)
theorem s_steps_hi (σ : Nat → Int32) {N i : Nat} (hN : N ≤ 10) (h : 96 ≤ i) : ∀ n, s_steps σ N n i = σ i
  | 0 => rfl
  | n + 1 => by
    rw [s_steps, s_step, u_ne _ _ (show i ≠ 0 by omega), s_ln_hi _ _ _ _ h _ hN, s_pk_hi _ h _ hN, s_steps_hi σ hN h n]
/-- what was set aside is put back -/
theorem z_back (D : zD) (τ : Nat → Int32) (h : ∀ i, 96 ≤ i → τ i = D.1 1 i) : z_row (z_row (z_as D) 1 τ) 1 (fun k => if k < 96 then (z_row (z_as D) 1 τ).1 2 k else (z_row (z_as D) 1 τ).1 1 k) = z_as D := by
  rw [z_row_row, z_rowo _ _ (show 2 ≠ 1 by decide), z_rowr, z_as2]
  have e : (fun k => if k < 96 then (if k < 96 then D.1 1 k else D.1 2 k) else τ k) = (z_as D).1 1 := by
    rw [z_as1]
    funext k
    by_cases hk : k < 96
    · rw [if_pos hk, if_pos hk]
    · rw [if_neg hk, h k (by omega)]
  rw [e, z_row_eq]
