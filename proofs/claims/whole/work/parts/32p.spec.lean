
/-! READING, move by move -/
theorem m_next_f (τ : Nat → Int32) (t : Nat) (k : zTk) (i : Nat) : m_next τ t (k, false) i = (if s_isw τ k i = true then s_tok τ t k.2.1 else k, false) := by
  unfold m_next m_isn
  by_cases h : s_isw τ k i = true
  · rw [if_pos (by rw [h]; rfl), if_pos h]
  · rw [if_neg (fun z => h (by simpa using z)), if_neg h]
theorem m_must_f (τ : Nat → Int32) (t : Nat) (k : zTk) (b : Bool) : m_must τ t (k, false) b = if b = true then (s_tok τ t k.2.1, false) else (k, true) := by
  cases b <;> rfl
theorem m_num_f (τ : Nat → Int32) (t : Nat) (k : zTk) (lo hi : Int32) : m_num τ t (k, false) lo hi = if (decide (k.2.2.1 = 2) && b_in k.2.2.2 lo hi) = true then (s_tok τ t k.2.1, false) else (k, true) := m_must_f τ t k _
theorem m_must_t {τ : Nat → Int32} {t : Nat} {s : zRd} {b : Bool} (h : s.2 = true) : m_must τ t s b = s := by
  obtain ⟨k, w⟩ := s
  simp only at h
  subst h
  rfl
theorem m_num_t {τ : Nat → Int32} {t : Nat} {s : zRd} {lo hi : Int32} (h : s.2 = true) : m_num τ t s lo hi = s := m_must_t h
theorem m_next_t {τ : Nat → Int32} {t : Nat} {s : zRd} {i : Nat} (h : s.2 = true) : m_next τ t s i = s := by
  unfold m_next m_isn
  rw [h]
  rfl
theorem m_part_t {τ : Nat → Int32} {t : Nat} {s : zRd} {i : Nat} {lo hi df : Int32} (h : s.2 = true) : m_part τ t s i lo hi df = (df, s) := by
  unfold m_part m_isn
  rw [h]
  rfl
theorem m_part_f (τ : Nat → Int32) (t : Nat) (k : zTk) (i : Nat) (lo hi df : Int32) : m_part τ t (k, false) i lo hi df = if s_isw τ k i = true then ((s_tok τ t k.2.1).2.2.2, m_num τ t (s_tok τ t k.2.1, false) lo hi) else (df, (k, false)) := by
  unfold m_part
  by_cases h : s_isw τ k i = true
  · rw [if_pos (show m_isn τ (k, false) i = true by unfold m_isn; rw [h]; rfl), if_pos h, m_next_f, if_pos h]
  · rw [if_neg (show ¬ m_isn τ (k, false) i = true from fun z => h (by unfold m_isn at z; simpa using z)), if_neg h]
theorem s_pair {s : zRd} (h : s.2 = false) : s = (s.1, false) := by
  obtain ⟨k, w⟩ := s
  simp only at h
  subst h
  rfl
theorem b_in_m1 {x lo hi : Int32} (hl : 0 ≤ lo) (h : b_in x lo hi = true) : ¬ x = -1 := by
  intro e
  rw [b_in, Bool.and_eq_true, decide_eq_true_eq, decide_eq_true_eq] at h
  have := Int32.le_trans hl h.1
  rw [e] at this
  exact absurd this (by decide)
/-- a row behind a row -/
theorem z_20r (D : zD) (T T' R : Nat → Int32) : z_row (z_row (z_row D 2 T) 0 R) 2 T' = z_row (z_row D 2 T') 0 R := by
  rw [z_row_cm _ _ _ (by decide), z_row_row]
theorem z_20u (D : zD) (T R : Nat → Int32) (x : Nat) (v : Int32) : z_up (z_row (z_row D 2 T) 0 R) 2 x v = z_row (z_row D 2 (upd T x v)) 0 R := by
  rw [z_up_row, z_20r, z_rowo _ _ (by decide), z_rowr]
theorem z_202 (D : zD) (T R : Nat → Int32) : (z_row (z_row D 2 T) 0 R).1 2 = T := by rw [z_rowo _ _ (by decide), z_rowr]
/-- a coin come, its parts told -/
theorem s_goTo_cm (σ : Nat → Int32) (N : Nat) (pl : Int32) {f : Nat} (hf : f < 4) (x : Int32) : upd (s_goTo σ N pl) (16 + 8 * N + f) x = s_goTo (upd σ (16 + 8 * N + f) x) N pl := by
  unfold s_goTo
  rw [u_cm _ pl x (by omega), u_cm _ (-1) x (by omega), u_cm _ 0 x (by omega), u_cm _ 0 x (by omega)]
theorem s_goTo2 (σ : Nat → Int32) (N : Nat) (p q : Int32) : s_goTo (s_goTo σ N p) N q = s_goTo σ N q := by
  funext i
  unfold s_goTo upd
  by_cases h4 : i = 16 + 8 * N + 4
  · simp [h4]
  · by_cases h7 : i = 16 + 8 * N + 7
    · simp [h7]
    · by_cases h6 : i = 16 + 8 * N + 6
      · simp [h6]
      · by_cases h5 : i = 16 + 8 * N + 5
        · simp [h5]
        · simp [h4, h5, h6, h7]
theorem s_come_1 (σ : Nat → Int32) (N : Nat) (k a b c pl x : Int32) : upd (s_come σ N k a b c pl) (16 + 8 * N + 1) x = s_come σ N k x b c pl := by
  unfold s_come
  rw [s_goTo_cm _ _ _ (by decide), u_cm _ (nI N + 1) x (by omega), u_cm _ c x (by omega), u_cm _ b x (by omega), u_u]
theorem s_come_2 (σ : Nat → Int32) (N : Nat) (k a b c pl x : Int32) : upd (s_come σ N k a b c pl) (16 + 8 * N + 2) x = s_come σ N k a x c pl := by
  unfold s_come
  rw [s_goTo_cm _ _ _ (by decide), u_cm _ (nI N + 1) x (by omega), u_cm _ c x (by omega), u_u]
theorem s_come_3 (σ : Nat → Int32) (N : Nat) (k a b c pl x : Int32) : upd (s_come σ N k a b c pl) (16 + 8 * N + 3) x = s_come σ N k a b x pl := by
  unfold s_come
  rw [s_goTo_cm _ _ _ (by decide), u_cm _ (nI N + 1) x (by omega), u_u]
theorem s_come_go (σ : Nat → Int32) (N : Nat) (k a b c p q : Int32) : s_goTo (s_come σ N k a b c p) N q = s_come σ N k a b c q := by
  unfold s_come
  rw [s_goTo2]
theorem s_come_r1 (σ : Nat → Int32) (N : Nat) (k a b c pl : Int32) : s_come σ N k a b c pl (16 + 8 * N + 1) = a := by
  have h := s_come_1 σ N k a b c pl a
  rw [← h, u_eq]
theorem s_come_r2 (σ : Nat → Int32) (N : Nat) (k a b c pl : Int32) : s_come σ N k a b c pl (16 + 8 * N + 2) = b := by
  have h := s_come_2 σ N k a b c pl b
  rw [← h, u_eq]
theorem s_come_r3 (σ : Nat → Int32) (N : Nat) (k a b c pl : Int32) : s_come σ N k a b c pl (16 + 8 * N + 3) = c := by
  have h := s_come_3 σ N k a b c pl c
  rw [← h, u_eq]
theorem s_come_4 (σ : Nat → Int32) (N : Nat) (k a b c pl : Int32) : s_come σ N k a b c pl 4 = nI (N + 1) := by
  unfold s_come
  rw [s_goTo_lo _ _ (by decide), u_eq, nI_succ]
theorem s_come_ag {N : Nat} {σ τ : Nat → Int32} (h : ag N σ τ) (k a b c pl : Int32) : ag (N + 1) (s_come σ N k a b c pl) (s_come τ N k a b c pl) := by
  intro i hi
  unfold s_come s_goTo
  unfold upd
  by_cases h4 : i = 16 + 8 * N + 4
  · simp [h4]
  by_cases h7 : i = 16 + 8 * N + 7
  · simp [h7]
  by_cases h6 : i = 16 + 8 * N + 6
  · simp [h6]
  by_cases h5 : i = 16 + 8 * N + 5
  · simp [h5]
  by_cases g4 : i = 4
  · simp [g4, show ¬ 4 = 16 + 8 * N + 4 by omega, show ¬ 4 = 16 + 8 * N + 7 by omega, show ¬ 4 = 16 + 8 * N + 6 by omega, show ¬ 4 = 16 + 8 * N + 5 by omega]
  by_cases h3 : i = 16 + 8 * N + 3
  · simp [h3]
  by_cases h2 : i = 16 + 8 * N + 2
  · simp [h2]
  by_cases h1 : i = 16 + 8 * N + 1
  · simp [h1]
  by_cases h0 : i = 16 + 8 * N + 0
  · simp [h0]
  simp only [h4, h7, h6, h5, g4, h3, h2, h1, h0, if_false]
  exact h i (by omega)
theorem s_sos_ne (σ ω : Nat → Int32) (m : Nat) (i : zIt) : ∀ k, k ≤ m → s_sos σ (s_item ω m i) k = s_sos σ ω k
  | 0, _ => rfl
  | k + 1, h => by rw [s_sos, s_sos, s_sos_ne σ ω m i k (by omega), i_at_ne ω i (by omega)]
theorem s_sos_1 (σ ω : Nat → Int32) (m : Nat) (i : zIt) : s_sos σ (s_item ω m i) (m + 1) = s_so (s_sos σ ω m) i := by
  rw [s_sos, s_sos_ne σ ω m i m (Nat.le_refl _), i_at_eq]
/-- what an item comes to, on rows that agree -/
theorem s_so_ag {N : Nat} (h10 : N ≤ 10) {σ T : Nat → Int32} (h : ag N T σ) (hT : T 4 = nI N) {i : zIt} (hi : i_ok i (nI N)) : ∃ N', N' ≤ 10 ∧ s_so T i 4 = nI N' ∧ ag N' (s_so T i) (s_so σ i) ∧ i_then i (nI N) = nI N' := by
  have hS : σ 4 = nI N := by rw [← ag_0 h (show 4 < 16 by decide)]; exact hT
  rcases hi with ⟨h1, _⟩ | ⟨h1, _, _⟩ | ⟨h1, h2, _, _, _, _⟩
  · refine ⟨N, h10, ?_, ?_, ?_⟩
    · rw [s_so, if_pos h1, u_ne _ _ (by decide)]; exact hT
    · rw [s_so, s_so, if_pos h1, if_pos h1]; exact ag_u _ _ h
    · rw [i_then, h1]; exact if_neg (by decide)
  · have n1 : ¬ i.1 = 10 := by rw [h1]; decide
    refine ⟨N, h10, ?_, ?_, ?_⟩
    · rw [s_so, if_neg n1, if_pos h1, u_ne _ _ (by decide), u_ne _ _ (by decide)]; exact hT
    · rw [s_so, s_so, if_neg n1, if_neg n1, if_pos h1, if_pos h1]; exact ag_u _ _ (ag_u _ _ h)
    · rw [i_then, h1]; exact if_neg (by decide)
  · have hN : N < 10 := (nI_ltI (a := N) (b := 10) (by omega) (by decide)).mp h2
    obtain ⟨j, hj, ej⟩ := b_in0 6 (by decide) h1
    have n1 : ¬ i.1 = 10 := by rw [ej]; intro e; have := (nI_eq (a := j) (b := 10) (by omega) (by decide)).mp e; omega
    have n2 : ¬ i.1 = 11 := by rw [ej]; intro e; have := (nI_eq (a := j) (b := 11) (by omega) (by decide)).mp e; omega
    refine ⟨N + 1, by omega, ?_, ?_, ?_⟩
    · rw [s_so, if_neg n1, if_neg n2, hT, i_n_n (by omega), s_come_4]
    · rw [s_so, s_so, if_neg n1, if_neg n1, if_neg n2, if_neg n2, hT, hS, i_n_n (by omega)]; exact s_come_ag h _ _ _ _ _
    · rw [i_then, if_pos (b_in06_lt h1), nI_succ]
