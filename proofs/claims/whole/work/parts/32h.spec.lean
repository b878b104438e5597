
/-! THE WAY's CELLS -/
def b_cel (σ : Nat → Int32) (m : Int32) (w c : Nat) : Bool := s_fallen σ c && decide (s_bc σ c m = nI w)
def b_any (σ : Nat → Int32) (m : Int32) (w : Nat) : Nat → Bool
  | 0 => false
  | c + 1 => b_any σ m w c || b_cel σ m w c
def s_wsum (σ : Nat → Int32) (m : Int32) (w : Nat) : Nat → Int32
  | 0 => 0
  | c + 1 => if b_cel σ m w c = true then s_wsum σ m w c + σ (16 + 8 * c + 3) else s_wsum σ m w c
/-- the class's row: -1, or the pence in a cell -/
def s_wp (σ : Nat → Int32) (m : Int32) (c w : Nat) : Int32 := if b_any σ m w c = true then s_wsum σ m w c else -1
theorem s_wsum_n {σ : Nat → Int32} {m : Int32} {w N : Nat} (hpen : ∀ c, c < N → ∃ p, p ≤ 240 ∧ σ (16 + 8 * c + 3) = nI p) : ∀ c, c ≤ N → ∃ k, k ≤ 240 * c ∧ s_wsum σ m w c = nI k
  | 0, _ => ⟨0, Nat.le_refl _, rfl⟩
  | c + 1, h => by
    obtain ⟨k, hk, e⟩ := s_wsum_n hpen c (by omega)
    obtain ⟨p, hp, e2⟩ := hpen c (by omega)
    rw [s_wsum]
    split
    · exact ⟨k + p, by omega, by rw [e, e2, nI_add]⟩
    · exact ⟨k, by omega, e⟩
theorem s_wsum_no {σ : Nat → Int32} {m : Int32} {w : Nat} : ∀ c, b_any σ m w c = false → s_wsum σ m w c = 0
  | 0, _ => rfl
  | c + 1, h => by
    rw [b_any, Bool.or_eq_false_iff] at h
    rw [s_wsum, if_neg (by rw [h.2]; decide)]
    exact s_wsum_no c h.1
def p_rset (σ : Nat → Int32) (m : Int32) (w : Nat) : Nat → Nat
  | 0 => 0
  | c + 1 => if b_cel σ m w c = true then p_rset σ m w c ||| 2 ^ c else p_rset σ m w c
theorem p_rset_lt (σ : Nat → Int32) (m : Int32) (w : Nat) : ∀ c, p_rset σ m w c < 2 ^ c
  | 0 => Nat.zero_lt_one
  | c + 1 => by
    have ih := p_rset_lt σ m w c
    have h2 : 2 ^ c < 2 ^ (c + 1) := Nat.pow_lt_pow_right (by decide) (Nat.lt_succ_self c)
    rw [p_rset]
    split
    · exact Nat.or_lt_two_pow (by omega) h2
    · omega
theorem b_cel_iff (σ : Nat → Int32) (m : Int32) (w c : Nat) : b_cel σ m w c = true ↔ s_fallen σ c = true ∧ s_bc σ c m = nI w := by
  unfold b_cel
  rw [Bool.and_eq_true, decide_eq_true_eq]
theorem s_rset_n (σ : Nat → Int32) (m : Int32) (w : Nat) : ∀ c, c ≤ 31 → s_rset σ m (nI w) c = nI (p_rset σ m w c)
  | 0, _ => rfl
  | c + 1, h => by
    have ih := s_rset_n σ m w c (by omega)
    rw [s_rset, p_rset, ih]
    by_cases g : b_cel σ m w c = true
    · rw [if_pos ((b_cel_iff σ m w c).mp g), if_pos g, i_shl1 c (by omega), fa_or]
    · rw [if_neg (fun z => g ((b_cel_iff σ m w c).mpr z)), if_neg g, i_or0]
theorem p_rset_bit (σ : Nat → Int32) (m : Int32) (w : Nat) : ∀ N c, (p_rset σ m w N).testBit c = (decide (c < N) && b_cel σ m w c)
  | 0, c => by simp [p_rset]
  | N + 1, c => by
    have ih := p_rset_bit σ m w N c
    have e1 : N ≠ c → decide (c < N + 1) = decide (c < N) := fun e => by
      by_cases q : c < N
      · simp [q]; omega
      · simp [q]; omega
    rw [p_rset]
    by_cases h : b_cel σ m w N = true
    · rw [if_pos h, Nat.testBit_or, ih, Nat.testBit_two_pow]
      by_cases e : N = c
      · subst e; simp [h]
      · simp [e, e1 e]
    · rw [if_neg h, ih]
      by_cases e : N = c
      · subst e; simp [h]
      · simp [e1 e]
theorem s_wsum_eq (σ : Nat → Int32) (m : Int32) (w : Nat) {N : Nat} (h10 : N ≤ 10) : ∀ n, n ≤ N → s_sum σ 3 (s_rset σ m (nI w) N) n = s_wsum σ m w n
  | 0, _ => rfl
  | n + 1, h => by
    have hl := p_rset_lt σ m w N
    have hp := i_pow h10
    rw [s_sum, s_wsum, s_wsum_eq σ m w h10 n (by omega), s_rset_n σ m w N (by omega), s_has_n (by omega) (by omega), p_rset_bit, decide_eq_true (show n < N by omega), Bool.true_and]
theorem b_any_ex {σ : Nat → Int32} {m : Int32} {w : Nat} : ∀ n, b_any σ m w n = true → ∃ c, c < n ∧ b_cel σ m w c = true
  | 0, h => by cases h
  | n + 1, h => by
    rw [b_any] at h
    cases g : b_cel σ m w n
    · rw [g, Bool.or_false] at h
      obtain ⟨c, h1, h2⟩ := b_any_ex n h
      exact ⟨c, by omega, h2⟩
    · exact ⟨n, Nat.lt_succ_self n, g⟩
theorem b_any_no {σ : Nat → Int32} {m : Int32} {w : Nat} : ∀ n, b_any σ m w n = false → ∀ c, c < n → b_cel σ m w c = false
  | 0, _, c, h => absurd h (by omega)
  | n + 1, h, c, hc => by
    rw [b_any, Bool.or_eq_false_iff] at h
    rcases Nat.lt_or_ge c n with z | z
    · exact b_any_no n h.1 c z
    · rw [show c = n by omega]; exact h.2
theorem s_rset_0 {σ : Nat → Int32} {m : Int32} {w N : Nat} (h10 : N ≤ 10) : s_rset σ m (nI w) N = 0 ↔ b_any σ m w N = false := by
  have hl := p_rset_lt σ m w N
  have hp := i_pow h10
  rw [s_rset_n σ m w N (by omega), show (0 : Int32) = nI 0 from rfl, nI_eq (by omega) (by decide)]
  constructor
  · intro h
    cases g : b_any σ m w N
    · rfl
    · obtain ⟨c, h1, h2⟩ := b_any_ex N g
      have := p_rset_bit σ m w N c
      rw [h, Nat.zero_testBit, decide_eq_true h1, h2] at this
      cases this
  · intro h
    apply Nat.eq_of_testBit_eq
    intro i
    rw [p_rset_bit, Nat.zero_testBit]
    rcases Nat.lt_or_ge i N with z | z
    · rw [b_any_no N h i z, Bool.and_false]
    · rw [decide_eq_false (by omega), Bool.false_and]
/-- the class's best cell -/
def s_cb (σ : Nat → Int32) (m : Int32) (N : Nat) : Nat → Nat
  | 0 => 0
  | k + 1 => if s_wp σ m N (s_cb σ m N k) < s_wp σ m N k then k else s_cb σ m N k
theorem s_cb_lt (σ : Nat → Int32) (m : Int32) (N : Nat) : ∀ k, 1 ≤ k → s_cb σ m N k < k
  | 0, h => absurd h (by omega)
  | k + 1, _ => by
    rw [s_cb]
    split
    · omega
    · rcases Nat.eq_zero_or_pos k with e | e
      · subst e; exact Nat.zero_lt_one
      · have := s_cb_lt σ m N k e; omega
theorem i_lneg' (k : Nat) (h : k < 2 ^ 31) : ¬ nI k < (-1 : Int32) := fun z => by
  have h1 := nI_toInt h
  rw [Int32.lt_iff_toInt_lt, h1, show (-1 : Int32).toInt = -1 by decide] at z
  omega
theorem s_rich_cb {σ : Nat → Int32} {m : Int32} {N : Nat} (h10 : N ≤ 10) (hpen : ∀ c, c < N → ∃ p, p ≤ 240 ∧ σ (16 + 8 * c + 3) = nI p) : ∀ k, k ≤ 29 → (s_wp σ m N (s_cb σ m N (k + 1)) = -1 ∧ s_rich σ N m (k + 1) = (-1, 0)) ∨ (0 ≤ s_wp σ m N (s_cb σ m N (k + 1)) ∧ s_rich σ N m (k + 1) = (nI (s_cb σ m N (k + 1)), s_wp σ m N (s_cb σ m N (k + 1)))) := by
  have hw : ∀ w, (b_any σ m w N = true ∧ s_rset σ m (nI w) N ≠ 0 ∧ s_wp σ m N w = s_sum σ 3 (s_rset σ m (nI w) N) N ∧ ∃ j, j ≤ 2400 ∧ s_wp σ m N w = nI j) ∨ (s_rset σ m (nI w) N = 0 ∧ s_wp σ m N w = -1) := by
    intro w
    cases g : b_any σ m w N
    · exact Or.inr ⟨(s_rset_0 h10).mpr g, by rw [s_wp, g]; rfl⟩
    · obtain ⟨j, hj, e⟩ := s_wsum_n (m := m) (w := w) hpen N (Nat.le_refl _)
      refine Or.inl ⟨rfl, fun z => ?_, ?_, j, by omega, ?_⟩
      · rw [(s_rset_0 h10).mp z] at g; cases g
      · rw [s_wp, if_pos g, s_wsum_eq σ m w h10 N (Nat.le_refl _)]
      · rw [s_wp, if_pos g, e]
  intro k
  induction k with
  | zero =>
    intro _
    have e : s_cb σ m N 1 = 0 := by
      rw [s_cb]
      split <;> rfl
    show _ ∨ _
    rw [show (0 + 1) = 1 from rfl, e, s_rich, s_rich]
    rcases hw 0 with ⟨_, h1, h2, j, hj, h3⟩ | ⟨h1, h2⟩
    · refine Or.inr ⟨?_, ?_⟩
      · rw [h3]; exact nI_pos' (by omega)
      · rw [if_pos ⟨h1, Or.inl (by show (-1 : Int32) < 0; decide)⟩, h2]
    · refine Or.inl ⟨h2, ?_⟩
      rw [if_neg (fun z => z.1 h1)]
  | succ k ih =>
    intro hk
    have ih := ih (by omega)
    have hlt := s_cb_lt σ m N (k + 1) (by omega)
    rw [show s_cb σ m N (k + 1 + 1) = if s_wp σ m N (s_cb σ m N (k + 1)) < s_wp σ m N (k + 1) then k + 1 else s_cb σ m N (k + 1) from rfl, show s_rich σ N m (k + 1 + 1) = if s_rset σ m (nI (k + 1)) N ≠ 0 ∧ ((s_rich σ N m (k + 1)).1 < 0 ∨ (s_rich σ N m (k + 1)).2 < s_sum σ 3 (s_rset σ m (nI (k + 1)) N) N) then (nI (k + 1), s_sum σ 3 (s_rset σ m (nI (k + 1)) N) N) else s_rich σ N m (k + 1) from rfl]
    rcases ih with ⟨a1, a2⟩ | ⟨a1, a2⟩
    · rcases hw (k + 1) with ⟨_, h1, h2, j, hj, h3⟩ | ⟨h1, h2⟩
      · rw [if_pos (show s_wp σ m N (s_cb σ m N (k + 1)) < s_wp σ m N (k + 1) by rw [a1, h3]; exact i_lneg _ (by omega)), if_pos ⟨h1, Or.inl (by rw [a2]; show (-1 : Int32) < 0; decide)⟩]
        exact Or.inr ⟨by rw [h3]; exact nI_pos' (by omega), by rw [h2]⟩
      · rw [if_neg (show ¬ s_wp σ m N (s_cb σ m N (k + 1)) < s_wp σ m N (k + 1) by rw [a1, h2]; decide), if_neg (fun z => z.1 h1)]
        exact Or.inl ⟨a1, a2⟩
    · have hb : ∃ j, j ≤ 2400 ∧ s_wp σ m N (s_cb σ m N (k + 1)) = nI j := by
        rcases hw (s_cb σ m N (k + 1)) with ⟨_, _, _, h⟩ | ⟨_, h⟩
        · exact h
        · rw [h] at a1; exact absurd a1 (by decide)
      obtain ⟨jb, hjb, eb⟩ := hb
      have hn1 : ¬ (s_rich σ N m (k + 1)).1 < 0 := by
        rw [a2]
        exact nI_pos (by omega)
      rcases hw (k + 1) with ⟨_, h1, h2, j, hj, h3⟩ | ⟨h1, h2⟩
      · by_cases q : s_wp σ m N (s_cb σ m N (k + 1)) < s_wp σ m N (k + 1)
        · rw [if_pos q, if_pos ⟨h1, Or.inr (by rw [a2, ← h2]; exact q)⟩]
          exact Or.inr ⟨by rw [h3]; exact nI_pos' (by omega), by rw [h2]⟩
        · rw [if_neg q, if_neg (fun z => z.2.elim hn1 (fun y => q (by rw [a2, ← h2] at y; exact y)))]
          exact Or.inr ⟨a1, a2⟩
      · rw [if_neg (show ¬ s_wp σ m N (s_cb σ m N (k + 1)) < s_wp σ m N (k + 1) by rw [eb, h2]; exact i_lneg' _ (by omega)), if_neg (fun z => z.1 h1)]
        exact Or.inr ⟨a1, a2⟩
/-- a byte, by either shift -/
theorem i_ush (x : Int32) {j : Nat} (h : j < 4) : ((x.toUInt32 >>> ((8 * nI j).toUInt32 &&& Int32.toUInt32 31)).toInt32) &&& 255 = (x >>> ((8 * nI j) &&& 31)) &&& 255 := by
  rw [show (8 : Int32) * nI j = nI (8 * j) by rw [show (8 : Int32) = nI 8 from rfl, pk_mul]]
  apply b_ext
  intro i hi
  rw [b_and, b_and, b_ushr (8 * j) (by omega), b_sshr (8 * j) (by omega) x hi, b_255]
  by_cases q : i < 8
  · rw [if_pos (by omega)]
  · rw [decide_eq_false q, Bool.and_false, Bool.and_false]
