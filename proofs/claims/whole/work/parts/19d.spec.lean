
/-! STEPS, coin by coin -/
theorem s_inP_ot (σ : Nat → Int32) {c i : Nat} (h : i < 16 + 8 * c ∨ 16 + 8 * c + 8 ≤ i) (h1 : i ≠ 1) : s_inP σ c i = σ i := by
  have a4 : i ≠ 16 + 8 * c + 4 := by omega
  have a5 : i ≠ 16 + 8 * c + 5 := by omega
  have a6 : i ≠ 16 + 8 * c + 6 := by omega
  unfold s_inP
  repeat' split
  all_goals simp only [u_ne _ _ a4, u_ne _ _ a5, u_ne _ _ a6, u_ne _ _ h1]
theorem s_inL_ot (σ : Nat → Int32) (N : Nat) {c i : Nat} (st : Int32) (h : i < 16 + 8 * c ∨ 16 + 8 * c + 8 ≤ i) : s_inL σ N c st i = σ i := by
  have a4 : i ≠ 16 + 8 * c + 4 := by omega
  have a6 : i ≠ 16 + 8 * c + 6 := by omega
  have a7 : i ≠ 16 + 8 * c + 7 := by omega
  unfold s_inL
  split
  all_goals simp only [u_ne _ _ a4, u_ne _ _ a6, u_ne _ _ a7]
/-- a coin ahead of whose turn nothing has come -/
theorem s_pk_ah (σ : Nat → Int32) {c f : Nat} (hf : f < 8) : ∀ n, n ≤ c → s_pk σ n (16 + 8 * c + f) = σ (16 + 8 * c + f)
  | 0, _ => rfl
  | n + 1, h => by
    unfold s_pk
    split
    · rw [s_inP_ot _ (by omega) (by omega), s_pk_ah σ hf n (by omega)]
    · exact s_pk_ah σ hf n (by omega)
/-- a coin behind its turn -/
theorem s_pk_bh (σ : Nat → Int32) {c f : Nat} (hf : f < 8) : ∀ n, c < n → s_pk σ n (16 + 8 * c + f) = s_pk σ (c + 1) (16 + 8 * c + f)
  | 0, h => absurd h (by omega)
  | n + 1, h => by
    rcases Nat.lt_or_ge c n with q | q
    · rw [show s_pk σ (n + 1) = if s_pk σ n (16 + 8 * n + 4) = 0 then s_inP (s_pk σ n) n else s_pk σ n from rfl]
      split
      · rw [s_inP_ot _ (by omega) (by omega), s_pk_bh σ hf n q]
      · exact s_pk_bh σ hf n q
    · have e : c = n := by omega
      subst e
      rfl
/-- out of the pocket: nothing of it changes in the pocket's part -/
theorem s_pk_out (σ : Nat → Int32) {c f N : Nat} (hf : f < 8) (h : ¬ σ (16 + 8 * c + 4) = 0) : s_pk σ N (16 + 8 * c + f) = σ (16 + 8 * c + f) := by
  rcases Nat.lt_or_ge c N with q | q
  · rw [s_pk_bh σ hf N q, s_pk, if_neg (by rw [s_pk_ah σ (by omega) c (Nat.le_refl c)]; exact h), s_pk_ah σ hf c (Nat.le_refl c)]
  · exact s_pk_ah σ hf N q
theorem s_pk_in (σ : Nat → Int32) {c f N : Nat} (hf : f < 8) (hc : c < N) (h : σ (16 + 8 * c + 4) = 0) : s_pk σ N (16 + 8 * c + f) = s_inP (s_pk σ c) c (16 + 8 * c + f) := by
  rw [s_pk_bh σ hf N hc, s_pk, if_pos (by rw [s_pk_ah σ (by omega) c (Nat.le_refl c)]; exact h)]
theorem s_ln_ah (σ : Nat → Int32) (N : Nat) (set st : Int32) {c f : Nat} (hf : f < 8) : ∀ n, n ≤ c → s_ln σ N set st n (16 + 8 * c + f) = σ (16 + 8 * c + f)
  | 0, _ => rfl
  | n + 1, h => by
    unfold s_ln
    split
    · rw [s_inL_ot _ _ _ (by omega), s_ln_ah σ N set st hf n (by omega)]
    · exact s_ln_ah σ N set st hf n (by omega)
theorem s_ln_bh (σ : Nat → Int32) (N : Nat) (set st : Int32) {c f : Nat} (hf : f < 8) : ∀ n, c < n → s_ln σ N set st n (16 + 8 * c + f) = s_ln σ N set st (c + 1) (16 + 8 * c + f)
  | 0, h => absurd h (by omega)
  | n + 1, h => by
    rcases Nat.lt_or_ge c n with q | q
    · rw [show s_ln σ N set st (n + 1) = if s_has set n = true then s_inL (s_ln σ N set st n) N n st else s_ln σ N set st n from rfl]
      split
      · rw [s_inL_ot _ _ _ (by omega), s_ln_bh σ N set st hf n q]
      · exact s_ln_bh σ N set st hf n q
    · have e : c = n := by omega
      subst e
      rfl
theorem s_ln_out (σ : Nat → Int32) (N : Nat) (set st : Int32) {c f n : Nat} (hf : f < 8) (h : s_has set c = false) : s_ln σ N set st n (16 + 8 * c + f) = σ (16 + 8 * c + f) := by
  rcases Nat.lt_or_ge c n with q | q
  · rw [s_ln_bh σ N set st hf n q, s_ln, if_neg (by rw [h]; decide), s_ln_ah σ N set st hf c (Nat.le_refl c)]
  · exact s_ln_ah σ N set st hf n q
theorem s_ln_in (σ : Nat → Int32) (N : Nat) (set st : Int32) {c f n : Nat} (hf : f < 8) (hc : c < n) (h : s_has set c = true) : s_ln σ N set st n (16 + 8 * c + f) = s_inL (s_ln σ N set st c) N c st (16 + 8 * c + f) := by
  rw [s_ln_bh σ N set st hf n hc, s_ln, if_pos h]
theorem s_has_lie (σ : Nat → Int32) (pl : Int32) {N c : Nat} (h10 : N ≤ 10) (hc : c < 31) : s_has (s_lie σ pl N) c = (decide (c < N) && decide (σ (16 + 8 * c + 4) = pl)) := by
  have := p_lie_1024 σ pl h10
  rw [s_lie_n σ pl N (by omega), s_has_n (by omega) hc, p_lie_bit]
theorem s_step_ix (σ : Nat → Int32) (N : Nat) {c f : Nat} : s_step σ N (16 + 8 * c + f) = s_ln (s_pk σ N) N (s_lie σ 1 N) (σ 0) N (16 + 8 * c + f) := by
  rw [s_step, u_ne _ _ (by omega)]
/-- on the ground a coin stays as it is -/
theorem s_step_gr (σ : Nat → Int32) {N c f : Nat} (h10 : N ≤ 10) (hf : f < 8) (hc : c < 31) (h : σ (16 + 8 * c + 4) = 2) : s_step σ N (16 + 8 * c + f) = σ (16 + 8 * c + f) := by
  rw [s_step_ix, s_ln_out _ _ _ _ hf (by rw [s_has_lie _ _ h10 hc, h]; simp), s_pk_out σ hf (by rw [h]; decide)]
theorem s_steps_gr (σ : Nat → Int32) {N c f : Nat} (h10 : N ≤ 10) (hf : f < 8) (hc : c < 31) (h : σ (16 + 8 * c + 4) = 2) : ∀ n, s_steps σ N n (16 + 8 * c + f) = σ (16 + 8 * c + f)
  | 0 => rfl
  | n + 1 => by
    have h4 := s_steps_gr (f := 4) σ h10 (by decide) hc h n
    rw [s_steps, s_step_gr _ h10 hf hc (by rw [h4, h]), s_steps_gr σ h10 hf hc h n]
theorem p_cnt_le {m m2 : Nat} (h : ∀ i, m.testBit i = true → m2.testBit i = true) : ∀ n, p_cnt m n ≤ p_cnt m2 n
  | 0 => Nat.le_refl 0
  | n + 1 => by
    have ih := p_cnt_le h n
    unfold p_cnt
    by_cases q : m.testBit n = true
    · rw [if_pos q, if_pos (h n q)]; omega
    · rw [if_neg q]; split <;> omega
theorem p_cnt_eq {m m2 : Nat} (h : ∀ i, m.testBit i = true → m2.testBit i = true) : ∀ n, p_cnt m n = p_cnt m2 n → ∀ i, i < n → m.testBit i = m2.testBit i
  | 0, _, i, hi => absurd hi (by omega)
  | n + 1, e, i, hi => by
    have ih := p_cnt_le h n
    have e' : p_cnt m n + (if m.testBit n then 1 else 0) = p_cnt m2 n + (if m2.testBit n then 1 else 0) := e
    have hn : m.testBit n = m2.testBit n := by
      by_cases q : m.testBit n = true
      · rw [q, h n q]
      · by_cases q2 : m2.testBit n = true
        · rw [if_neg q, if_pos q2] at e'; omega
        · cases a : m.testBit n
          · cases b : m2.testBit n
            · rfl
            · exact absurd b q2
          · exact absurd a q
    rcases Nat.lt_or_ge i n with z | z
    · refine p_cnt_eq h n ?_ i z
      rw [hn] at e'
      omega
    · have : i = n := by omega
      subst this
      exact hn
theorem p_lie_gr (σ : Nat → Int32) {N : Nat} (h10 : N ≤ 10) (n : Nat) : ∀ i, (p_lie σ 2 N).testBit i = true → (p_lie (s_steps σ N n) 2 N).testBit i = true := by
  intro i h
  rw [p_lie_bit] at h ⊢
  simp only [Bool.and_eq_true, decide_eq_true_eq] at h ⊢
  exact ⟨h.1, by rw [s_steps_gr σ h10 (by decide) (by omega) h.2]; exact h.2⟩
theorem s_fell_n (σ : Nat → Int32) {N : Nat} (h10 : N ≤ 10) (n : Nat) : s_fell σ (s_steps σ N n) N = nI (p_pop (p_lie (s_steps σ N n) 2 N) - p_pop (p_lie σ 2 N)) := by
  exact pk_sub (p_cnt_le (p_lie_gr σ h10 n) 10)
/-- what falls is not below 0 -/
theorem s_fell_nn (σ : Nat → Int32) {N : Nat} (h10 : N ≤ 10) (n : Nat) : ¬ s_fell σ (s_steps σ N n) N < 0 := by
  have := p_pop_le (p_lie (s_steps σ N n) 2 N)
  rw [s_fell_n σ h10 n]
  exact nI_pos (by omega)
theorem s_fell_nn' (σ : Nat → Int32) {N : Nat} (h10 : N ≤ 10) (n : Nat) : 0 ≤ s_fell σ (s_steps σ N n) N := Int32.not_lt.mp (s_fell_nn σ h10 n)
/-- nothing fell: no new set -/
theorem s_fell_0 (σ : Nat → Int32) {N : Nat} (h10 : N ≤ 10) (n : Nat) (h : s_fell σ (s_steps σ N n) N = 0) : s_lie (s_steps σ N n) 2 N &&& (s_lie σ 2 N ^^^ (-1)) = 0 := by
  rw [s_fell_n σ h10 n, show (0 : Int32) = nI 0 from rfl, nI_eq (by have := p_pop_le (p_lie (s_steps σ N n) 2 N); omega) (by decide)] at h
  have hle := p_cnt_le (p_lie_gr σ h10 n) 10
  have he : p_cnt (p_lie σ 2 N) 10 = p_cnt (p_lie (s_steps σ N n) 2 N) 10 := by
    unfold p_pop at h
    omega
  have hb := p_cnt_eq (p_lie_gr σ h10 n) 10 he
  have h1 := p_lie_1024 σ 2 h10
  have h2 := p_lie_1024 (s_steps σ N n) 2 h10
  have e : p_lie σ 2 N = p_lie (s_steps σ N n) 2 N := by
    apply Nat.eq_of_testBit_eq
    intro i
    rcases Nat.lt_or_ge i 10 with z | z
    · exact hb i z
    · rw [Nat.testBit_lt_two_pow (Nat.lt_of_lt_of_le h1 (Nat.pow_le_pow_right (n := 2) (by decide) z)), Nat.testBit_lt_two_pow (Nat.lt_of_lt_of_le h2 (Nat.pow_le_pow_right (n := 2) (by decide) z))]
  rw [s_lie_n _ _ N (by omega), s_lie_n _ _ N (by omega), i_diff h2, ← e, Nat.and_self, Nat.xor_self]
  rfl
/-- behind how many steps it is so first -/
def s_till (P : (Nat → Int32) → Bool) (σ : Nat → Int32) (N : Nat) : Nat → Nat → Nat
  | 0, n => n
  | f + 1, n => if P (s_steps σ N n) = true then n else s_till P σ N f (n + 1)
def s_isP (c : Nat) (falls : Bool) (τ : Nat → Int32) : Bool := if falls = true then decide (τ (16 + 8 * c + 4) = 2) else !decide (τ (16 + 8 * c + 4) = 0)
theorem s_till_le (P : (Nat → Int32) → Bool) (σ : Nat → Int32) (N : Nat) : ∀ f n, s_till P σ N f n ≤ f + n
  | 0, n => by rw [s_till]; omega
  | f + 1, n => by
    unfold s_till
    split
    · omega
    · have := s_till_le P σ N f (n + 1); omega
