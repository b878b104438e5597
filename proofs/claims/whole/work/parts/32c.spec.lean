
/-! HOLES TRIED, up or down -/
theorem s_hm_tal (P : Nat → Bool) : ∀ r, r ≤ 100 → (s_hm P r).1 + p_tally P (100 - r) = p_tally P 100
  | 0, _ => by rw [s_hm]; exact Nat.zero_add _
  | r + 1, h => by
    have ih := s_hm_tal P r (by omega)
    rw [show 100 - r = (99 - r) + 1 by omega, p_tally] at ih
    rw [s_hm, show 100 - (r + 1) = 99 - r by omega]
    by_cases q : P (99 - r) = true
    · rw [if_pos q] at ih ⊢
      show (s_hm P r).1 + 1 + p_tally P (99 - r) = p_tally P 100
      omega
    · rw [if_neg q] at ih ⊢
      omega
theorem s_hm_all (P : Nat → Bool) : (s_hm P 100).1 = p_tally P 100 := s_hm_tal P 100 (Nat.le_refl _)
theorem s_hm_0 {P : Nat → Bool} : ∀ r, r ≤ 100 → (∀ k, 100 - r ≤ k → k < 100 → P k = false) → (s_hm P r).1 = 0
  | 0, _, _ => rfl
  | r + 1, h, hp => by
    rw [s_hm, if_neg (by rw [hp (99 - r) (by omega) (by omega)]; decide)]
    exact s_hm_0 r (by omega) (fun k h1 h2 => hp k (by omega) h2)
theorem s_hm_k {P : Nat → Bool} {k : Nat} (hk : k < 100) (hp : P k = true) (hb : ∀ i, i < k → P i = false) : ∀ r, r ≤ 100 → 100 - r ≤ k → (s_hm P r).1 ≠ 0 ∧ (s_hm P r).2 = nI k
  | 0, _, h => absurd h (by omega)
  | r + 1, hr, h => by
    rw [s_hm]
    by_cases q : P (99 - r) = true
    · rw [if_pos q]
      have e : 99 - r = k := by
        rcases Nat.lt_or_ge (99 - r) k with z | z
        · rw [hb _ z] at q; cases q
        · omega
      rw [e]
      exact ⟨Nat.succ_ne_zero _, rfl⟩
    · rw [if_neg q]
      have ne : 99 - r ≠ k := fun e => q (e ▸ hp)
      exact s_hm_k hk hp hb r (by omega) (by omega)
theorem p_tally_0 {P : Nat → Bool} : ∀ n, p_tally P n = 0 → ∀ k, k < n → P k = false
  | 0, _, k, h => absurd h (by omega)
  | n + 1, e, k, h => by
    rw [p_tally] at e
    by_cases q : P n = true
    · rw [if_pos q] at e; omega
    · rw [if_neg q] at e
      rcases Nat.lt_or_ge k n with z | z
      · exact p_tally_0 n (by omega) k z
      · have : k = n := by omega
        subst this
        cases g : P k
        · rfl
        · exact absurd g q
theorem i_01 (x : Int32) : x &&& 1 = 0 ∨ x &&& 1 = 1 := by
  rw [← i_u_n x, i_and1]
  rcases (show i_u x % 2 = 0 ∨ i_u x % 2 = 1 by omega) with e | e <;> rw [e]
  · exact Or.inl rfl
  · exact Or.inr rfl
theorem s_has_z {x : Int32} {c : Nat} (h : (x >>> (nI c &&& 31)) &&& 1 = 0) : s_has x c = false := by
  unfold s_has
  rw [h]
  decide
theorem s_has_nz {x : Int32} {c : Nat} (h : ¬ (x >>> (nI c &&& 31)) &&& 1 = 0) : s_has x c = true := by
  unfold s_has
  rcases i_01 (x >>> (nI c &&& 31)) with e | e
  · exact absurd e h
  · rw [e]; decide
theorem p_diff_lt {a b N : Nat} (ha : a < 2 ^ N) : a ^^^ (a &&& b) < 2 ^ N := Nat.xor_lt_two_pow ha (Nat.lt_of_le_of_lt Nat.and_le_left ha)
/-- who is gone, as a set -/
theorem p_gone (σ τ : Nat → Int32) {N : Nat} (h10 : N ≤ 10) : ∃ g, g < 2 ^ N ∧ s_lie σ 0 N &&& (s_lie τ 0 N ^^^ (-1)) = nI g ∧ ∀ c, g.testBit c = (decide (c < N) && decide (σ (16 + 8 * c + 4) = 0) && !decide (τ (16 + 8 * c + 4) = 0)) := by
  have h1 := p_lie_lt σ 0 N
  have h2 := i_pow h10
  refine ⟨p_lie σ 0 N ^^^ (p_lie σ 0 N &&& p_lie τ 0 N), p_diff_lt h1, ?_, fun c => ?_⟩
  · rw [s_lie_n σ 0 N (by omega), s_lie_n τ 0 N (by omega), i_diff (by omega)]
  · rw [Nat.testBit_xor, Nat.testBit_and, p_lie_bit, p_lie_bit]
    cases decide (c < N) <;> cases decide (σ (16 + 8 * c + 4) = 0) <;> cases decide (τ (16 + 8 * c + 4) = 0) <;> rfl
theorem s_goneH_b {σ : Nat → Int32} {N n v j : Nat} (h10 : N ≤ 10) (hj : j < N) (hz : σ (16 + 8 * j + 4) = 0) : s_has (s_goneH σ N n v) j = !s_bearsP σ N j n v := by
  obtain ⟨g, h1, h2, h3⟩ := p_gone σ (s_steps (s_hole σ (nI v)) N n) h10
  have := i_pow h10
  rw [s_goneH, h2, s_has_n (by omega) (by omega), h3, decide_eq_true hj, decide_eq_true hz]
  rfl
theorem p_pop1 : ∀ m, m < 1024 → p_pop m = 1 → m = 2 ^ 0 ∨ m = 2 ^ 1 ∨ m = 2 ^ 2 ∨ m = 2 ^ 3 ∨ m = 2 ^ 4 ∨ m = 2 ^ 5 ∨ m = 2 ^ 6 ∨ m = 2 ^ 7 ∨ m = 2 ^ 8 ∨ m = 2 ^ 9 := by decide +kernel
theorem p_pop0 : ∀ m, m < 1024 → p_pop m = 0 → m = 0 := by decide +kernel
theorem p_popd : ∀ d, d < 10 → p_pop (2 ^ d) = 1 := by decide +kernel
theorem p_pop1_ex {m N : Nat} (h10 : N ≤ 10) (hm : m < 2 ^ N) (h : p_pop m = 1) : ∃ d, d < N ∧ m = 2 ^ d := by
  have h2 := i_pow h10
  rcases p_pop1 m (by omega) h with e | e | e | e | e | e | e | e | e | e <;> exact ⟨_, (Nat.pow_lt_pow_iff_right (by decide)).mp (e ▸ hm), e⟩
theorem s_boy_0 {σ : Nat → Int32} {N n : Nat} {set : Int32} : ∀ c, (∀ d, d < c → ∀ k, k < 100 → s_goneP σ N n (set ^^^ ((1 : Int32) <<< (nI d &&& 31))) k = false) → s_boy σ N n set c = 0
  | 0, _ => rfl
  | c + 1, h => by
    rw [s_boy, if_pos (s_hm_0 100 (Nat.le_refl _) (fun k _ hk => h c (by omega) k hk))]
    exact s_boy_0 c (fun d hd k hk => h d (by omega) k hk)
theorem s_boy_2 {σ : Nat → Int32} {N n : Nat} {set : Int32} {d k : Nat} (hk : k < 100) (h : s_goneP σ N n (set ^^^ ((1 : Int32) <<< (nI d &&& 31))) k = true) : ∀ c, d < c → s_boy σ N n set c = 2
  | 0, hd => absurd hd (by omega)
  | c + 1, hd => by
    rw [s_boy]
    split
    · next g =>
      rcases Nat.lt_or_ge d c with z | z
      · exact s_boy_2 hk h c z
      · have e : c = d := by omega
        subst e
        rw [s_hm_all] at g
        rw [p_tally_0 100 g k hk] at h
        cases h
    · rfl
theorem n_xor3 (a b : Nat) : a ^^^ b ^^^ b = a := by rw [Nat.xor_assoc, Nat.xor_self, Nat.xor_zero]
/-- unlike by just one coin -/
theorem s_un1 {σ : Nat → Int32} {N n k s : Nat} (h10 : N ≤ 10) (hs : s < 2 ^ N) : ∃ m, m < 2 ^ N ∧ s_goneH σ N n k ^^^ nI s = nI m ∧ (p_pop m = 0 ↔ s_goneP σ N n (nI s) k = true) ∧ (p_pop m = 1 → ∃ d, d < N ∧ s_goneP σ N n (nI s ^^^ ((1 : Int32) <<< (nI d &&& 31))) k = true) ∧ (∀ d, d < N → s_goneP σ N n (nI s ^^^ ((1 : Int32) <<< (nI d &&& 31))) k = true → p_pop m = 1) := by
  obtain ⟨g, h1, h2, h3⟩ := p_gone σ (s_steps (s_hole σ (nI k)) N n) h10
  have hp := i_pow h10
  have e : s_goneH σ N n k = nI g := h2
  have hm : g ^^^ s < 2 ^ N := Nat.xor_lt_two_pow h1 hs
  refine ⟨g ^^^ s, hm, by rw [e, nx_xor], ?_, ?_, ?_⟩
  · unfold s_goneP
    rw [decide_eq_true_eq, e, nI_eq (by omega) (by omega)]
    constructor
    · intro h
      have h0 := p_pop0 _ (by omega) h
      have : g ^^^ s ^^^ s = 0 ^^^ s := by rw [h0]
      rw [n_xor3, Nat.zero_xor] at this
      exact this
    · intro h
      rw [h, Nat.xor_self]
      decide
  · intro h
    obtain ⟨d, hd, ed⟩ := p_pop1_ex h10 hm h
    refine ⟨d, hd, ?_⟩
    unfold s_goneP
    rw [decide_eq_true_eq, e, i_shl1 d (by omega), nx_xor, ← ed]
    congr 1
    rw [Nat.xor_comm g s, ← Nat.xor_assoc, Nat.xor_self, Nat.zero_xor]
  · intro d hd h
    unfold s_goneP at h
    have h2d : 2 ^ d < 2 ^ N := (Nat.pow_lt_pow_iff_right (by decide)).mpr hd
    rw [decide_eq_true_eq, e, i_shl1 d (by omega), nx_xor, nI_eq (by omega) (by have := Nat.xor_lt_two_pow hs h2d; omega)] at h
    rw [h, Nat.xor_comm s, n_xor3]
    exact p_popd d (by omega)
/-! first -/
def t_of (σ : Nat → Int32) (N c : Nat) : Nat := if σ (16 + 8 * c + 4) = 0 then v_till σ N c false else 101
theorem s_first_r (σ : Nat → Int32) (N c : Nat) : s_first σ N (c + 1) = (if t_of σ N c < (s_first σ N c).2 then nI c else (s_first σ N c).1, if t_of σ N c < (s_first σ N c).2 then t_of σ N c else (s_first σ N c).2) := rfl
theorem s_first_no {σ : Nat → Int32} {N : Nat} : ∀ n, (∀ c, c < n → 101 ≤ t_of σ N c) → s_first σ N n = (-1, 101)
  | 0, _ => rfl
  | n + 1, h => by
    have := h n (by omega)
    rw [s_first_r, s_first_no n (fun c hc => h c (by omega)), if_neg (by show ¬ t_of σ N n < 101; omega), if_neg (by show ¬ t_of σ N n < 101; omega)]
theorem s_first_lo {σ : Nat → Int32} {N m : Nat} (hm : m < 101) : ∀ n, (∀ c, c < n → m < t_of σ N c) → m < (s_first σ N n).2
  | 0, _ => hm
  | n + 1, h => by
    have ih := s_first_lo hm n (fun c hc => h c (by omega))
    have := h n (by omega)
    rw [s_first_r]
    show m < if t_of σ N n < (s_first σ N n).2 then t_of σ N n else (s_first σ N n).2
    split <;> omega
theorem s_first_at {σ : Nat → Int32} {N m c : Nat} (hm : m < 101) (ht : t_of σ N c = m) (hb : ∀ d, d < c → m < t_of σ N d) : ∀ n, c < n → (∀ d, d < n → m ≤ t_of σ N d) → s_first σ N n = (nI c, m)
  | 0, h, _ => absurd h (by omega)
  | n + 1, h, ha => by
    rw [s_first_r]
    rcases Nat.lt_or_ge c n with z | z
    · have := ha n (by omega)
      rw [s_first_at hm ht hb n z (fun d hd => ha d (by omega)), if_neg (by show ¬ t_of σ N n < m; omega), if_neg (by show ¬ t_of σ N n < m; omega)]
    · have e : c = n := by omega
      subst e
      have := s_first_lo hm c hb
      rw [if_pos (by omega), if_pos (by omega), ht]
theorem s_till_lo {P : (Nat → Int32) → Bool} {σ : Nat → Int32} {N m : Nat} : ∀ f n, (∀ k, k ≤ m → P (s_steps σ N k) = false) → m < n + f → m < s_till P σ N f n
  | 0, n, _, h => by rw [s_till]; omega
  | f + 1, n, hp, h => by
    rw [s_till]
    split
    · next g =>
      rcases Nat.lt_or_ge m n with z | z
      · exact z
      · rw [hp n z] at g; cases g
    · exact s_till_lo f (n + 1) hp (by omega)
theorem s_till_at {P : (Nat → Int32) → Bool} {σ : Nat → Int32} {N m : Nat} (hm : P (s_steps σ N m) = true) (hp : ∀ k, k < m → P (s_steps σ N k) = false) : ∀ f n, n ≤ m → m < n + f → s_till P σ N f n = m
  | 0, n, h1, h2 => absurd h2 (by omega)
  | f + 1, n, h1, h2 => by
    rw [s_till]
    rcases Nat.lt_or_ge n m with z | z
    · rw [if_neg (by rw [hp n z]; decide)]
      exact s_till_at hm hp f (n + 1) (by omega) (by omega)
    · have e : n = m := by omega
      rw [e, if_pos hm]
theorem s_isP_t {τ : Nat → Int32} {c : Nat} (h : ¬ τ (16 + 8 * c + 4) = 0) : s_isP c false τ = true := by rw [s_isP, if_neg (by decide), decide_eq_false h]; rfl
theorem s_isP_f {τ : Nat → Int32} {c : Nat} (h : τ (16 + 8 * c + 4) = 0) : s_isP c false τ = false := by rw [s_isP, if_neg (by decide), decide_eq_true h]; rfl
/-- no coin is gone yet behind m steps -/
def t_no (σ : Nat → Int32) (N m : Nat) : Prop := ∀ c, c < N → σ (16 + 8 * c + 4) = 0 → s_steps σ N m (16 + 8 * c + 4) = 0
theorem t_of_lo {σ : Nat → Int32} {N m c : Nat} (hm : m < 101) (hc : c < N) (h : ∀ k, k ≤ m → t_no σ N k) : m < t_of σ N c := by
  unfold t_of
  split
  · next g => exact s_till_lo 101 0 (fun k hk => s_isP_f (h k hk c hc g)) (by omega)
  · exact hm
theorem t_of_at {σ : Nat → Int32} {N m c : Nat} (hm : m < 100) (hc : c < N) (h : ∀ k, k ≤ m → t_no σ N k) (hz : σ (16 + 8 * c + 4) = 0) (hg : ¬ s_steps σ N (m + 1) (16 + 8 * c + 4) = 0) : t_of σ N c = m + 1 := by
  unfold t_of
  rw [if_pos hz]
  exact s_till_at (s_isP_t hg) (fun k hk => s_isP_f (h k (by omega) c hc hz)) 101 0 (Nat.zero_le _) (by omega)
theorem t_of_up {σ : Nat → Int32} {N m c : Nat} (hm : m + 1 < 101) (hc : c < N) (h : ∀ k, k ≤ m → t_no σ N k) (hg : σ (16 + 8 * c + 4) = 0 → s_steps σ N (m + 1) (16 + 8 * c + 4) = 0) : m + 1 < t_of σ N c := by
  unfold t_of
  split
  · next g =>
    refine s_till_lo 101 0 (fun k hk => s_isP_f ?_) (by omega)
    rcases Nat.lt_or_ge k (m + 1) with z | z
    · exact h k (by omega) c hc g
    · rw [show k = m + 1 by omega]; exact hg g
  · exact hm
/-- the least bit of a set -/
theorem p_least {g : Nat} : ∀ n, (∃ c, c < n ∧ g.testBit c = true) → ∃ c, c < n ∧ g.testBit c = true ∧ ∀ d, d < c → g.testBit d = false
  | 0, ⟨c, h, _⟩ => absurd h (by omega)
  | n + 1, ⟨c, h, hb⟩ => by
    by_cases q : ∃ d, d < n ∧ g.testBit d = true
    · obtain ⟨d, h1, h2, h3⟩ := p_least n q
      exact ⟨d, by omega, h2, h3⟩
    · have e : c = n := by
        rcases Nat.lt_or_ge c n with z | z
        · exact absurd ⟨c, z, hb⟩ q
        · omega
      refine ⟨c, h, hb, fun d hd => ?_⟩
      cases k : g.testBit d
      · rfl
      · exact absurd ⟨d, by omega, k⟩ q
theorem p_nz {g N : Nat} (h : g < 2 ^ N) (h0 : g ≠ 0) : ∃ c, c < N ∧ g.testBit c = true := by
  by_cases q : ∃ c, c < N ∧ g.testBit c = true
  · exact q
  · exfalso
    apply h0
    apply Nat.eq_of_testBit_eq
    intro i
    rw [Nat.zero_testBit]
    rcases Nat.lt_or_ge i N with z | z
    · cases k : g.testBit i
      · rfl
      · exact absurd ⟨i, z, k⟩ q
    · exact Nat.testBit_lt_two_pow (Nat.lt_of_lt_of_le h (Nat.pow_le_pow_right (n := 2) (by decide) z))
