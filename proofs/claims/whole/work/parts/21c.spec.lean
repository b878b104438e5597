
/-! THE TEXT READ: items, what they come to -/
def i_at (ω : Nat → Int32) (k : Nat) : zIt := (ω (5 * k), ω (5 * k + 1), ω (5 * k + 2), ω (5 * k + 3), ω (5 * k + 4))
theorem i_at_eq (ω : Nat → Int32) (m : Nat) (i : zIt) : i_at (s_item ω m i) m = i := by
  obtain ⟨a, b, c, d, e⟩ := i
  unfold i_at s_item
  simp only [u_eq, u_ne _ _ (show 5 * m ≠ 5 * m + 1 by omega), u_ne _ _ (show 5 * m ≠ 5 * m + 2 by omega), u_ne _ _ (show 5 * m ≠ 5 * m + 3 by omega), u_ne _ _ (show 5 * m ≠ 5 * m + 4 by omega), u_ne _ _ (show 5 * m + 1 ≠ 5 * m + 2 by omega), u_ne _ _ (show 5 * m + 1 ≠ 5 * m + 3 by omega), u_ne _ _ (show 5 * m + 1 ≠ 5 * m + 4 by omega), u_ne _ _ (show 5 * m + 2 ≠ 5 * m + 3 by omega), u_ne _ _ (show 5 * m + 2 ≠ 5 * m + 4 by omega), u_ne _ _ (show 5 * m + 3 ≠ 5 * m + 4 by omega)]
theorem s_item_lo (ω : Nat → Int32) {m x : Nat} (i : zIt) (h : x < 5 * m) : s_item ω m i x = ω x := by
  unfold s_item
  rw [u_ne _ _ (by omega), u_ne _ _ (by omega), u_ne _ _ (by omega), u_ne _ _ (by omega), u_ne _ _ (by omega)]
theorem i_at_ne (ω : Nat → Int32) {m k : Nat} (i : zIt) (h : k < m) : i_at (s_item ω m i) k = i_at ω k := by
  unfold i_at
  rw [s_item_lo ω i (by omega), s_item_lo ω i (by omega), s_item_lo ω i (by omega), s_item_lo ω i (by omega), s_item_lo ω i (by omega)]
/-- an item as it must be, c coins being there -/
def i_ok (i : zIt) (c : Int32) : Prop := (i.1 = 10 ∧ b_in i.2.1 0 99 = true) ∨ (i.1 = 11 ∧ b_in i.2.1 0 99 = true ∧ b_in i.2.2.1 0 7 = true) ∨ (b_in i.1 0 6 = true ∧ c < 10 ∧ b_in i.2.1 1 40 = true ∧ b_in i.2.2.1 1 50 = true ∧ b_in i.2.2.2.1 0 240 = true ∧ (i.2.2.2.2 = 0 ∨ i.2.2.2.2 = 3))
def i_then (i : zIt) (c : Int32) : Int32 := if i.1 < 10 then c + 1 else c
def i_cnt (ω : Nat → Int32) (c : Int32) : Nat → Int32
  | 0 => c
  | k + 1 => i_then (i_at ω k) (i_cnt ω c k)
theorem i_cnt_ne (ω : Nat → Int32) (c : Int32) (m : Nat) (i : zIt) : ∀ k, k ≤ m → i_cnt (s_item ω m i) c k = i_cnt ω c k
  | 0, _ => rfl
  | k + 1, h => by rw [i_cnt, i_cnt, i_at_ne ω i (by omega), i_cnt_ne ω c m i k (by omega)]
/-- wrong stays wrong -/
theorem m_num_w {τ : Nat → Int32} {t : Nat} {s : zRd} {lo hi : Int32} (h : (m_num τ t s lo hi).2 = false) : s.2 = false ∧ b_in s.1.2.2.2 lo hi = true := by
  have := m_must_w h
  exact ⟨this.1, (b_and_2 this.2).2⟩
theorem m_next_w {τ : Nat → Int32} {t : Nat} {s : zRd} {i : Nat} (h : (m_next τ t s i).2 = false) : s.2 = false := by
  unfold m_next at h
  split at h
  · next g => cases q : s.2 with
    | false => rfl
    | true => rw [m_isn, q] at g; simp at g
  · exact h
theorem m_part_w {τ : Nat → Int32} {t : Nat} {s : zRd} {i : Nat} {lo hi df : Int32} (hd : b_in df lo hi = true) (h : (m_part τ t s i lo hi df).2.2 = false) : s.2 = false ∧ b_in (m_part τ t s i lo hi df).1 lo hi = true := by
  unfold m_part at h ⊢
  split at h
  · next g =>
    rw [if_pos g]
    have := m_num_w h
    exact ⟨m_next_w this.1, this.2⟩
  · next g =>
    rw [if_neg g]
    exact ⟨h, hd⟩
theorem s_isw_1 {τ : Nat → Int32} {k : zTk} {i : Nat} (h : s_isw τ k i = true) : k.2.2.1 = 1 := by
  rw [s_isw, Bool.and_eq_true, Bool.and_eq_true, decide_eq_true_eq] at h
  exact h.1.1
theorem m_kd_in (τ : Nat → Int32) (k : zTk) : ∀ j, j ≤ 7 → (m_kd τ k j = -1 ∨ (b_in (m_kd τ k j) 0 6 = true ∧ k.2.2.1 = 1))
  | 0, _ => Or.inl rfl
  | j + 1, h => by
    rw [m_kd]
    by_cases g : s_isw τ k (m_kix j) = true
    · rw [if_pos g]
      refine Or.inr ⟨?_, s_isw_1 g⟩
      rcases (show j = 0 ∨ j = 1 ∨ j = 2 ∨ j = 3 ∨ j = 4 ∨ j = 5 ∨ j = 6 by omega) with rfl | rfl | rfl | rfl | rfl | rfl | rfl <;> decide
    · rw [if_neg g]
      exact m_kd_in τ k j (by omega)
theorem m_kd_7 {τ : Nat → Int32} {k : zTk} (h : ¬ m_kd τ k 7 < 0) : b_in (m_kd τ k 7) 0 6 = true ∧ k.2.2.1 = 1 :=
  (m_kd_in τ k 7 (by decide)).elim (fun e => absurd (by rw [e]; decide) h) (fun e => e)
theorem b_in06_lt {x : Int32} (h : b_in x 0 6 = true) : x < 10 := by
  obtain ⟨j, hj, rfl⟩ := b_in0 6 (by decide) h
  exact nI_lt (a := j) (b := 10) (by omega) (by decide)
theorem m_read_ok {τ : Nat → Int32} {t : Nat} {s : zRd} {c : Int32} (h : t_ok t s.1) : t_ok t (m_read τ t s c).2.1 ∧ s.1.1 ≤ (m_read τ t s c).2.1.1 := by
  unfold m_read
  split
  · split
    · have h1 := m_next_ok (τ := τ) (i := 0) h
      have h2 := m_must_ok (τ := τ) (is := decide ((m_next τ t s 0).1.2.2.1 = 2) && b_in (m_next τ t s 0).1.2.2.2 0 99) h1.1
      exact ⟨h2.1, Nat.le_trans h1.2 h2.2⟩
    · have h1 := m_must_ok (τ := τ) (is := s_isw τ s.1 1) h
      have h2 := m_num_ok (τ := τ) (lo := 0) (hi := 99) h1.1
      have h3 := m_must_ok (τ := τ) (is := s_isw τ (m_num τ t (m_must τ t s (s_isw τ s.1 1)) 0 99).1 2) h2.1
      have h4 := m_num_ok (τ := τ) (lo := 0) (hi := 7) h3.1
      exact ⟨h4.1, Nat.le_trans h1.2 (Nat.le_trans h2.2 (Nat.le_trans h3.2 h4.2))⟩
  · have h0 := m_must_ok (τ := τ) (is := decide (c < 10)) h
    have h1 := m_part_ok (τ := τ) (i := 10) (lo := 1) (hi := 40) (df := 8) h0.1
    have h2 := m_part_ok (τ := τ) (i := 11) (lo := 1) (hi := 50) (df := 5) h1.1
    have h3 := m_part_ok (τ := τ) (i := 12) (lo := 0) (hi := 240) (df := 6) h2.1
    have h4 := m_next_ok (τ := τ) (i := 13) h3.1
    exact ⟨h4.1, Nat.le_trans h0.2 (Nat.le_trans h1.2 (Nat.le_trans h2.2 (Nat.le_trans h3.2 h4.2)))⟩
/-- an item that isn't wrong: it is as it must be, and something is read -/
theorem m_read_w {τ : Nat → Int32} {t : Nat} {s : zRd} {c : Int32} (h : t_ok t s.1) (hw : (m_read τ t s c).2.2 = false) : s.2 = false ∧ s.1.1 < (m_read τ t s c).2.1.1 ∧ i_ok (m_read τ t s c).1 c ∧ m_then τ s c = i_then (m_read τ t s c).1 c := by
  unfold m_read m_then at *
  by_cases hk : m_kd τ s.1 7 < 0
  · rw [if_pos hk] at hw ⊢
    rw [if_pos hk]
    by_cases hi : m_isn τ s 0 = true
    · rw [if_pos hi] at hw ⊢
      have w1 := m_num_w (s := m_next τ t s 0) hw
      have w2 := m_next_w w1.1
      have h1 := m_next_ok (τ := τ) (i := 0) h
      have h2 := m_must_ok (τ := τ) (is := decide ((m_next τ t s 0).1.2.2.1 = 2) && b_in (m_next τ t s 0).1.2.2.2 0 99) h1.1
      have h3 : s.1.1 < (m_next τ t s 0).1.1 := by
        have q : s.1.2.2.1 = 1 := s_isw_1 (b_and_2 hi).2
        have := h.2.2 (by rw [q]; decide)
        rw [m_next, if_pos hi]
        have := (s_tok_ok (τ := τ) h.2.1).2
        show s.1.1 < (s_tok τ t s.1.2.1).1
        omega
      exact ⟨w2, Nat.lt_of_lt_of_le h3 h2.2, Or.inl ⟨rfl, w1.2⟩, (if_neg (show ¬ (10 : Int32) < 10 by decide)).symm⟩
    · rw [if_neg hi] at hw ⊢
      have w4 := m_num_w (s := (m_must τ t (m_num τ t (m_must τ t s (s_isw τ s.1 1)) 0 99) (s_isw τ (m_num τ t (m_must τ t s (s_isw τ s.1 1)) 0 99).1 2))) hw
      have w3 := m_must_w w4.1
      have w2 := m_num_w w3.1
      have w1 := m_must_w w2.1
      have h1 := m_must_ok (τ := τ) (is := s_isw τ s.1 1) h
      have h2 := m_num_ok (τ := τ) (lo := 0) (hi := 99) h1.1
      have h3 := m_must_ok (τ := τ) (is := s_isw τ (m_num τ t (m_must τ t s (s_isw τ s.1 1)) 0 99).1 2) h2.1
      have h4 := m_num_ok (τ := τ) (lo := 0) (hi := 7) h3.1
      have h0 := m_must_lt (is := s_isw τ s.1 1) h (by rw [s_isw_1 w1.2]; decide) w2.1
      exact ⟨w1.1, Nat.lt_of_lt_of_le h0 (Nat.le_trans h2.2 (Nat.le_trans h3.2 h4.2)), Or.inr (Or.inl ⟨rfl, w2.2, w4.2⟩), (if_neg (show ¬ (11 : Int32) < 10 by decide)).symm⟩
  · rw [if_neg hk] at hw ⊢
    rw [if_neg hk]
    have k7 := m_kd_7 hk
    have w3 := m_next_w (s := (m_part τ t (m_part τ t (m_part τ t (m_must τ t s (decide (c < 10))) 10 1 40 8).2 11 1 50 5).2 12 0 240 6).2) hw
    have w2 := m_part_w (by decide) w3
    have w1 := m_part_w (by decide) w2.1
    have w0 := m_part_w (by decide) w1.1
    have w := m_must_w w0.1
    have h0 := m_must_ok (τ := τ) (is := decide (c < 10)) h
    have h1 := m_part_ok (τ := τ) (i := 10) (lo := 1) (hi := 40) (df := 8) h0.1
    have h2 := m_part_ok (τ := τ) (i := 11) (lo := 1) (hi := 50) (df := 5) h1.1
    have h3 := m_part_ok (τ := τ) (i := 12) (lo := 0) (hi := 240) (df := 6) h2.1
    have h4 := m_next_ok (τ := τ) (i := 13) h3.1
    have hl := m_must_lt (is := decide (c < 10)) h (by rw [k7.2]; decide) w0.1
    refine ⟨w.1, Nat.lt_of_lt_of_le hl (Nat.le_trans h1.2 (Nat.le_trans h2.2 (Nat.le_trans h3.2 h4.2))), Or.inr (Or.inr ⟨k7.1, of_decide_eq_true w.2, w0.2, w1.2, w2.2, ?_⟩), (if_pos (b_in06_lt k7.1)).symm⟩
    show (if _ then (3 : Int32) else 0) = 0 ∨ (if _ then (3 : Int32) else 0) = 3
    split
    · exact Or.inr rfl
    · exact Or.inl rfl
/-- along the loop -/
def m_inv (t : Nat) (c0 : Int32) (q : zRs) : Prop := t_ok t q.1.1 ∧ (q.1.2 = false → q.2.2.2 ≤ q.1.1.1 ∧ (∀ k, k < q.2.2.2 → i_ok (i_at q.2.2.1 k) (i_cnt q.2.2.1 c0 k)) ∧ q.2.1 = i_cnt q.2.2.1 c0 q.2.2.2)
theorem m_one_inv {τ : Nat → Int32} {t : Nat} {c0 : Int32} {q : zRs} (h : t_ok t q.1.1) (hi : q.1.2 = false → q.2.2.2 ≤ q.1.1.1 ∧ (∀ k, k < q.2.2.2 → i_ok (i_at q.2.2.1 k) (i_cnt q.2.2.1 c0 k)) ∧ q.2.1 = i_cnt q.2.2.1 c0 q.2.2.2) : m_inv t c0 (m_one τ t q) := by
  refine ⟨(m_read_ok h).1, fun hw => ?_⟩
  obtain ⟨w1, w2, w3, w4⟩ := m_read_w (s := q.1) (c := q.2.1) h hw
  obtain ⟨g1, g2, g3⟩ := hi w1
  refine ⟨?_, ?_, ?_⟩
  · show q.2.2.2 + 1 ≤ (m_read τ t q.1 q.2.1).2.1.1
    omega
  · intro k hk
    show i_ok (i_at (s_item q.2.2.1 q.2.2.2 (m_read τ t q.1 q.2.1).1) k) (i_cnt (s_item q.2.2.1 q.2.2.2 (m_read τ t q.1 q.2.1).1) c0 k)
    have hk' : k < q.2.2.2 + 1 := hk
    by_cases e : k = q.2.2.2
    · rw [e, i_at_eq, i_cnt_ne _ _ _ _ _ (Nat.le_refl _), ← g3]
      exact w3
    · rw [i_at_ne _ _ (by omega), i_cnt_ne _ _ _ _ _ (by omega)]
      exact g2 k (by omega)
  · show m_then τ q.1 q.2.1 = i_cnt (s_item q.2.2.1 q.2.2.2 (m_read τ t q.1 q.2.1).1) c0 (q.2.2.2 + 1)
    rw [i_cnt, i_at_eq, i_cnt_ne _ _ _ _ _ (Nat.le_refl _), ← g3]
    exact w4
theorem m_step_inv {τ : Nat → Int32} {t : Nat} {c0 : Int32} {q : zRs} (h : m_inv t c0 q) (hm : m_more τ q = true) : m_inv t c0 (m_one τ t (m_must τ t q.1 true, q.2)) ∧ q.1.2 = false ∧ q.1.1.1 < t ∧ q.2.2.2 ≤ q.1.1.1 := by
  unfold m_more at hm
  rw [Bool.and_eq_true, Bool.and_eq_true, decide_eq_true_eq, decide_eq_true_eq] at hm
  have hw : q.1.2 = false := by
    have := hm.1.1
    cases e : q.1.2 with
    | false => rfl
    | true => rw [e] at this; exact absurd this (by decide)
  obtain ⟨g1, g2, g3⟩ := h.2 hw
  have hlt := h.1.2.2 (by rw [hm.1.2]; decide)
  have h2 := h.1.2.1
  refine ⟨m_one_inv (m_must_ok h.1).1 (fun _ => ⟨Nat.le_trans g1 (m_must_ok h.1).2, g2, g3⟩), hw, by omega, g1⟩
/-- what the items come to -/
def s_so (σ : Nat → Int32) (i : zIt) : Nat → Int32 := if i.1 = 10 then upd σ 1 i.2.1 else if i.1 = 11 then upd (upd σ 2 i.2.1) 3 i.2.2.1 else s_come σ (i_n (σ 4)) i.1 i.2.1 i.2.2.1 i.2.2.2.1 i.2.2.2.2
def s_sos (σ ω : Nat → Int32) : Nat → (Nat → Int32)
  | 0 => σ
  | k + 1 => s_so (s_sos σ ω k) (i_at ω k)
def m_all (τ : Nat → Int32) (t : Nat) (c : Int32) (ω : Nat → Int32) : zRs := m_loop τ t 121 (m_one τ t ((s_tok τ t 0, false), c, ω, 0))
def m_end (τ : Nat → Int32) (t : Nat) (c : Int32) (ω : Nat → Int32) : zRd := m_must τ t (m_all τ t c ω).1 (decide ((m_all τ t c ω).1.1.2.2.1 = 0))
def o_text (D : zD) (t : Nat) : oD := if (m_end (D.1 8) t (D.1 1 4) (D.1 11)).2 = true then .inr (-1 - nI (m_end (D.1 8) t (D.1 1 4) (D.1 11)).1.1, z_up D 0 12 0) else .inr (nI (m_all (D.1 8) t (D.1 1 4) (D.1 11)).2.2.2, z_row (z_up D 0 12 0) 1 (s_sos (D.1 1) (m_all (D.1 8) t (D.1 1 4) (D.1 11)).2.2.1 (m_all (D.1 8) t (D.1 1 4) (D.1 11)).2.2.2))
theorem m_first_inv (τ : Nat → Int32) (t : Nat) (c : Int32) (ω : Nat → Int32) : m_inv t c (m_one τ t ((s_tok τ t 0, false), c, ω, 0)) := m_one_inv (s_tok_ok (Nat.zero_le _)).1 (fun _ => ⟨Nat.zero_le _, fun k hk => absurd hk (Nat.not_lt_zero k), rfl⟩)
theorem m_loop_inv {τ : Nat → Int32} {t : Nat} {c0 : Int32} : ∀ f q, m_inv t c0 q → m_inv t c0 (m_loop τ t f q)
  | 0, q, h => h
  | f + 1, q, h => by
    rw [m_loop]
    split
    · next g => exact m_loop_inv f _ (m_step_inv h g).1
    · exact h
theorem m_all_inv (τ : Nat → Int32) (t : Nat) (c : Int32) (ω : Nat → Int32) : m_inv t c (m_all τ t c ω) := m_loop_inv _ _ (m_first_inv τ t c ω)
