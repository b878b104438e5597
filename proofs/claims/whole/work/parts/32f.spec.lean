
/-! WHO STAYS -/
theorem s_place_ag {N : Nat} {σ τ : Nat → Int32} (h : ag N σ τ) (all set : Int32) : ∀ c, ag N (s_place σ all set c) (s_place τ all set c)
  | 0 => h
  | c + 1 => by
    rw [s_place, s_place]
    split
    · exact s_goTo_ag (s_place_ag h all set c) c _
    · exact s_place_ag h all set c
theorem s_place_bh (σ : Nat → Int32) (all set : Int32) {c f : Nat} (hf : f < 8) : ∀ n, c < n → s_place σ all set n (16 + 8 * c + f) = s_place σ all set (c + 1) (16 + 8 * c + f)
  | 0, h => absurd h (by omega)
  | n + 1, h => by
    rcases Nat.lt_or_ge c n with q | q
    · rw [show s_place σ all set (n + 1) = if s_has all n = true then s_goTo (s_place σ all set n) n (if s_has set n = true then 0 else 3) else s_place σ all set n from rfl]
      split
      · rw [s_goTo_ot _ _ (by omega), s_place_bh σ all set hf n q]
      · exact s_place_bh σ all set hf n q
    · have e : c = n := by omega
      subst e
      rfl
theorem s_place_4 (σ : Nat → Int32) (all set : Int32) {c N : Nat} (hc : c < N) : s_place σ all set N (16 + 8 * c + 4) = if s_has all c = true then (if s_has set c = true then 0 else 3) else σ (16 + 8 * c + 4) := by
  rw [s_place_bh σ all set (by decide) N hc, s_place]
  split
  · rw [s_goTo, u_eq]
  · exact s_place_ah σ all set (by decide) c (Nat.le_refl _)
theorem p_sub_eq {a b : Nat} (h1 : ∀ i, a.testBit i = true → b.testBit i = true) (h2 : ∀ i, b.testBit i = true → a.testBit i = true) : a = b := by
  apply Nat.eq_of_testBit_eq
  intro i
  cases x : a.testBit i <;> cases y : b.testBit i
  · rfl
  · rw [h2 i y] at x; cases x
  · rw [h1 i x] at y; cases y
  · rfl
theorem s_inAll_b {k a : Nat} (hk : k < 1024) (h : s_inAll (nI k) (nI a) = true) : ∀ i, k.testBit i = true → a.testBit i = true := by
  unfold s_inAll at h
  have hd : k ^^^ (k &&& a) < 2 ^ 10 := p_diff_lt (N := 10) hk
  rw [decide_eq_true_eq, i_diff hk, show (0 : Int32) = nI 0 from rfl, nI_eq (by omega) (by decide)] at h
  intro i hi
  have := congrArg (fun x => Nat.testBit x i) h
  simp only [Nat.testBit_xor, Nat.testBit_and, hi, Nat.zero_testBit] at this
  cases q : a.testBit i
  · rw [q] at this; simp at this
  · rfl
def p_all (σ : Nat → Int32) (N : Nat) : Nat := p_lie σ 0 N ||| p_lie σ 3 N
theorem s_all_n (σ : Nat → Int32) {N : Nat} (h10 : N ≤ 10) : s_all σ N = nI (p_all σ N) := by
  rw [s_all, s_lie_n _ _ _ (by omega), s_lie_n _ _ _ (by omega), fa_or]
  rfl
/-- placed so, just the set is in the pocket -/
theorem p_place {σ : Nat → Int32} {N k : Nat} (h10 : N ≤ 10) (hk : k < 2 ^ N) (h : s_inAll (nI k) (s_all σ N) = true) : p_lie (s_place σ (s_all σ N) (nI k) N) 0 N = k := by
  have hp := i_pow h10
  have hb := s_inAll_b (k := k) (a := p_all σ N) (by omega) (by rw [← s_all_n σ h10]; exact h)
  apply Nat.eq_of_testBit_eq
  intro c
  rw [p_lie_bit]
  rcases Nat.lt_or_ge c N with z | z
  · rw [decide_eq_true z, Bool.true_and, s_place_4 _ _ _ z, s_has_n (m := k) (by omega) (by omega)]
    have ha := s_all_pl σ h10 (show c < 31 by omega)
    rw [decide_eq_true z, Bool.true_and] at ha
    by_cases q : s_has (s_all σ N) c = true
    · rw [if_pos q]
      cases k.testBit c <;> rfl
    · rw [if_neg q]
      have hn : k.testBit c = false := by
        cases y : k.testBit c
        · rfl
        · exact absurd (by rw [s_all_n σ h10, s_has_n (by have := Nat.or_lt_two_pow (p_lie_lt σ 0 N) (p_lie_lt σ 3 N); unfold p_all; omega) (by omega)]; exact hb c y) q
      rw [hn]
      rw [ha] at q
      cases y : decide (σ (16 + 8 * c + 4) = 0)
      · rfl
      · rw [y] at q; exact absurd rfl q
  · rw [decide_eq_false (by omega), Bool.false_and, Nat.testBit_lt_two_pow (Nat.lt_of_lt_of_le hk (Nat.pow_le_pow_right (n := 2) (by decide) z))]
/-- nobody comes back to the pocket -/
theorem s_goP_0 {σ : Nat → Int32} {N c : Nat} (h : s_goP σ N (16 + 8 * c + 4) = 0) : σ (16 + 8 * c + 4) = 0 := by
  by_cases z : σ (16 + 8 * c + 4) = 0
  · exact z
  · rw [s_goP, u_ne _ _ (by omega), s_pk_out σ (by decide) z] at h
    exact h
theorem s_goPs_0 {σ : Nat → Int32} {N c i : Nat} : ∀ j, s_goPs σ N (i + j) (16 + 8 * c + 4) = 0 → s_goPs σ N i (16 + 8 * c + 4) = 0
  | 0, h => h
  | j + 1, h => s_goPs_0 j (s_goP_0 h)
theorem p_go_sub (σ : Nat → Int32) (N : Nat) {i n : Nat} (h : i ≤ n) : ∀ c, (p_lie (s_goPs σ N n) 0 N).testBit c = true → (p_lie (s_goPs σ N i) 0 N).testBit c = true := by
  intro c g
  rw [p_lie_bit, Bool.and_eq_true, decide_eq_true_eq, decide_eq_true_eq] at g ⊢
  refine ⟨g.1, s_goPs_0 (n - i) ?_⟩
  rw [show i + (n - i) = n by omega]
  exact g.2
theorem p_go_btw {σ : Nat → Int32} {N i n k : Nat} (h : i ≤ n) (h0 : p_lie σ 0 N = k) (hn : p_lie (s_goPs σ N n) 0 N = k) : p_lie (s_goPs σ N i) 0 N = k := by
  refine p_sub_eq (fun c g => ?_) (fun c g => ?_)
  · rw [← h0]; exact p_go_sub σ N (Nat.zero_le i) c g
  · exact p_go_sub σ N h c (by rw [hn]; exact g)
theorem s_stays_p {σ : Nat → Int32} {N n k : Nat} (h10 : N ≤ 10) (hk : k < 2 ^ N) (h : s_inAll (nI k) (s_all σ N) = true) : s_stays σ N n (s_all σ N) (nI k) = decide (p_lie (s_goPs (s_place σ (s_all σ N) (nI k) N) N n) 0 N = k) := by
  have hp := i_pow h10
  have h0 := p_place h10 hk h
  have hs := p_go_sub (s_place σ (s_all σ N) (nI k) N) N (Nat.zero_le n)
  unfold s_stays
  rw [← s_lie_go _ h10, s_lie_n _ _ _ (by omega), i_diff (by omega)]
  rw [show s_goPs (s_place σ (s_all σ N) (nI k) N) N 0 = s_place σ (s_all σ N) (nI k) N from rfl, h0] at hs
  revert hs
  generalize p_lie (s_goPs (s_place σ (s_all σ N) (nI k) N) N n) 0 N = u
  intro hs
  refine decide_eq_decide.mpr ?_
  have hd : k ^^^ (k &&& u) < 2 ^ 10 := p_diff_lt (N := 10) (by omega)
  rw [show (nI (k ^^^ (k &&& u)) = 0) = (nI (k ^^^ (k &&& u)) = nI 0) from rfl, nI_eq (by omega) (by decide)]
  constructor
  · intro e
    refine p_sub_eq hs (fun c g => ?_)
    have := congrArg (fun x => Nat.testBit x c) e
    simp only [Nat.testBit_xor, Nat.testBit_and, g, Nat.zero_testBit, Bool.true_and] at this
    cases q : u.testBit c
    · rw [q] at this; exact absurd this (by decide)
    · rfl
  · intro e
    rw [e, Nat.and_self, Nat.xor_self]
theorem s_carry_nn (σ : Nat → Int32) (N n : Nat) (all : Int32) : ∀ k, 0 ≤ (s_carry σ N n all k).2
  | 0 => by show (0 : Int32) ≤ 0; decide
  | k + 1 => by
    have ih := s_carry_nn σ N n all k
    rw [s_carry]
    by_cases g : (s_carry σ N n all k).2 < (if s_inAll (nI k) all = true then s_sum σ 3 (nI k) N else 0) ∧ s_stays σ N n all (nI k) = true
    · rw [if_pos g]; exact Int32.le_trans ih (Int32.le_of_lt g.1)
    · rw [if_neg g]; exact ih
theorem s_sum_0 (σ : Nat → Int32) (f : Nat) : ∀ n, n ≤ 31 → s_sum σ f (nI 0) n = 0
  | 0, _ => rfl
  | n + 1, h => by rw [s_sum, if_neg (by rw [s_has_n (by decide) (by omega), Nat.zero_testBit]; decide)]; exact s_sum_0 σ f n (by omega)
theorem s_carry_sum (σ : Nat → Int32) {N : Nat} (h10 : N ≤ 10) (n : Nat) (all : Int32) : ∀ k, (s_carry σ N n all k).2 = s_sum σ 3 (s_carry σ N n all k).1 N
  | 0 => (s_sum_0 σ 3 N (by omega)).symm
  | k + 1 => by
    have ih := s_carry_sum σ h10 n all k
    rw [s_carry]
    by_cases g : (s_carry σ N n all k).2 < (if s_inAll (nI k) all = true then s_sum σ 3 (nI k) N else 0) ∧ s_stays σ N n all (nI k) = true
    · rw [if_pos g]
      have hn := s_carry_nn σ N n all k
      show (if s_inAll (nI k) all = true then s_sum σ 3 (nI k) N else 0) = s_sum σ 3 (nI k) N
      by_cases q : s_inAll (nI k) all = true
      · rw [if_pos q]
      · exfalso
        have := g.1
        rw [if_neg q] at this
        exact Int32.not_lt.mpr hn this
    · rw [if_neg g]; exact ih
theorem s_carry_out {σ : Nat → Int32} {N n k : Nat} {all : Int32} (h : ¬ s_inAll (nI k) all = true) : s_carry σ N n all (k + 1) = s_carry σ N n all k := by
  rw [s_carry, if_neg]
  intro z
  have := z.1
  rw [if_neg h] at this
  exact Int32.not_lt.mpr (s_carry_nn σ N n all k) this
theorem s_carry_in {σ : Nat → Int32} {N n k : Nat} {all : Int32} (h : s_inAll (nI k) all = true) : s_carry σ N n all (k + 1) = if (s_carry σ N n all k).2 < s_sum σ 3 (nI k) N ∧ s_stays σ N n all (nI k) = true then (nI k, s_sum σ 3 (nI k) N) else s_carry σ N n all k := by
  rw [s_carry, if_pos h]
theorem s_carry_1 (σ : Nat → Int32) {N : Nat} (h10 : N ≤ 10) (n : Nat) (all : Int32) : s_carry σ N n all 1 = (0, 0) := by
  by_cases h : s_inAll (nI 0) all = true
  · rw [s_carry_in h, if_neg]
    · rfl
    · intro z
      have := z.1
      rw [s_sum_0 σ 3 N (by omega)] at this
      exact absurd this (by show ¬ (0 : Int32) < 0; decide)
  · rw [s_carry_out h]
    rfl
/-- all coins -/
theorem s_has_m1 {c : Nat} (h : c < 31) : s_has (-1) c = true := (by decide +kernel : ∀ c, c < 31 → s_has (-1) c = true) c h
theorem s_sum_all (σ : Nat → Int32) (f : Nat) {x : Int32} {N : Nat} (hx : ∀ c, c < N → s_has x c = true) (hN : N ≤ 31) : ∀ n, n ≤ N → s_sum σ f x n = s_sum σ f (-1) n
  | 0, _ => rfl
  | n + 1, h => by rw [s_sum, s_sum, if_pos (hx n (by omega)), if_pos (s_has_m1 (by omega)), s_sum_all σ f hx hN n (by omega)]
theorem s_has_full {N c : Nat} (h10 : N ≤ 10) (hc : c < N) : s_has (nI (2 ^ N) - 1) c = true := by
  have hp := i_pow h10
  have h1 : 1 ≤ 2 ^ N := Nat.one_le_two_pow
  rw [show (1 : Int32) = nI 1 from rfl, pk_sub h1, s_has_n (by omega) (by omega), Nat.testBit_two_pow_sub_one, decide_eq_true hc]
