
/-! THE CLASS's TAPE: its token is the reference's, but the sort of a strange sign and a value that has grown old -/
def s_q0 (ρ : Nat → Int32) (k : zTk) : Nat → Int32 := fun i => if i = 13 then nI k.1 else if i = 14 then nI k.2.1 else if i = 15 then k.2.2.1 else if i = 16 then k.2.2.2 else ρ i
def x_of (τ : Nat → Int32) (v : Int32) (k : zTk) : zTk := (k.1, k.2.1, if k.2.2.1 = 3 ∧ ¬ τ k.1 = 59 then 4 else k.2.2.1, if k.2.2.1 = 2 then k.2.2.2 else v)
theorem z_g13 (D : zD) (ρ : Nat → Int32) (k : zTk) : (z_row D 0 (s_q0 ρ k)).1 0 13 = nI k.1 := by rw [z_rowr]; rfl
theorem z_h13 (D : zD) (ρ : Nat → Int32) (b e : Nat) (so v : Int32) (b' : Nat) : z_up (z_row D 0 (s_q0 ρ (b, e, so, v))) 0 13 (nI b') = z_row D 0 (s_q0 ρ (b', e, so, v)) := by
  rw [z_row_up]
  congr 1
  funext i
  unfold upd s_q0
  by_cases h : i = 13
  · subst h; rfl
  · simp only [h, if_false]
theorem z_g14 (D : zD) (ρ : Nat → Int32) (k : zTk) : (z_row D 0 (s_q0 ρ k)).1 0 14 = nI k.2.1 := by rw [z_rowr]; rfl
theorem z_h14 (D : zD) (ρ : Nat → Int32) (b e : Nat) (so v : Int32) (e' : Nat) : z_up (z_row D 0 (s_q0 ρ (b, e, so, v))) 0 14 (nI e') = z_row D 0 (s_q0 ρ (b, e', so, v)) := by
  rw [z_row_up]
  congr 1
  funext i
  unfold upd s_q0
  by_cases h : i = 14
  · subst h; rfl
  · simp only [h, if_false]
theorem z_g15 (D : zD) (ρ : Nat → Int32) (k : zTk) : (z_row D 0 (s_q0 ρ k)).1 0 15 = k.2.2.1 := by rw [z_rowr]; rfl
theorem z_h15 (D : zD) (ρ : Nat → Int32) (b e : Nat) (so v : Int32) (so' : Int32) : z_up (z_row D 0 (s_q0 ρ (b, e, so, v))) 0 15 (so') = z_row D 0 (s_q0 ρ (b, e, so', v)) := by
  rw [z_row_up]
  congr 1
  funext i
  unfold upd s_q0
  by_cases h : i = 15
  · subst h; rfl
  · simp only [h, if_false]
theorem z_g16 (D : zD) (ρ : Nat → Int32) (k : zTk) : (z_row D 0 (s_q0 ρ k)).1 0 16 = k.2.2.2 := by rw [z_rowr]; rfl
theorem z_h16 (D : zD) (ρ : Nat → Int32) (b e : Nat) (so v : Int32) (v' : Int32) : z_up (z_row D 0 (s_q0 ρ (b, e, so, v))) 0 16 (v') = z_row D 0 (s_q0 ρ (b, e, so, v')) := by
  rw [z_row_up]
  congr 1
  funext i
  unfold upd s_q0
  by_cases h : i = 16
  · subst h; rfl
  · simp only [h, if_false]
theorem z_gR (D : zD) (ρ : Nat → Int32) (k : zTk) {i : Nat} (h : i < 13 ∨ 16 < i) : (z_row D 0 (s_q0 ρ k)).1 0 i = ρ i := by
  rw [z_rowr]
  unfold s_q0
  rw [if_neg (by omega), if_neg (by omega), if_neg (by omega), if_neg (by omega)]
theorem s_q0_id (ρ : Nat → Int32) {b e : Nat} {so v : Int32} (h13 : ρ 13 = nI b) (h14 : ρ 14 = nI e) (h15 : ρ 15 = so) (h16 : ρ 16 = v) : s_q0 ρ (b, e, so, v) = ρ := by
  funext i
  unfold s_q0
  by_cases a : i = 13
  · subst a; exact h13.symm
  · rw [if_neg a]
    by_cases c : i = 14
    · subst c; exact h14.symm
    · rw [if_neg c]
      by_cases d : i = 15
      · subst d; exact h15.symm
      · rw [if_neg d]
        by_cases f : i = 16
        · subst f; exact h16.symm
        · rw [if_neg f]
theorem s_att_lt {τ : Nat → Int32} {t k : Nat} (h : k < t) : s_att τ t k = τ k := if_pos h
/-- the bytes are none below 0 -/
def s_by (τ : Nat → Int32) (t : Nat) : Prop := ∀ j, j < t → 0 ≤ τ j
section XT
variable {τ : Nat → Int32} {t e b : Nat} (v : Int32)
theorem xt_end (hb : b = t_b τ t e) (h : t ≤ b) : x_of τ v (s_tok τ t e) = (b, b, 0, v) := by
  have : s_att τ t b < 0 := by rw [s_att, if_neg (by omega)]; decide
  unfold s_tok
  rw [← hb, if_pos this]
  rfl
theorem xt_word (hb : b = t_b τ t e) (hn : ¬ s_att τ t b < 0) (hl : t_le τ t b = true) : x_of τ v (s_tok τ t e) = (b, s_upto (t_le τ t) 121 b, 1, v) := by
  unfold s_tok
  rw [← hb, if_neg hn, if_pos hl]
  rfl
theorem xt_num (hb : b = t_b τ t e) (hn : ¬ s_att τ t b < 0) (hl : t_le τ t b = false) (hd : t_di τ t b = true) : x_of τ v (s_tok τ t e) = (b, s_upto (t_di τ t) 121 b, 2, s_val τ t b (s_upto (t_di τ t) 121 b - b)) := by
  unfold s_tok
  rw [← hb, if_neg hn, if_neg (by rw [hl]; decide), if_pos hd]
  rfl
theorem xt_sign (hb : b = t_b τ t e) (hn : ¬ s_att τ t b < 0) (hl : t_le τ t b = false) (hd : t_di τ t b = false) : x_of τ v (s_tok τ t e) = (b, b + 1, if τ b = 59 then 3 else 4, v) := by
  unfold s_tok
  rw [← hb, if_neg hn, if_neg (by rw [hl]; decide), if_neg (by rw [hd]; decide)]
  unfold x_of
  by_cases g : τ b = 59
  · rw [if_pos g]
    show (b, b + 1, (if (3 : Int32) = 3 ∧ ¬ τ b = 59 then (4 : Int32) else 3), v) = _
    rw [if_neg (fun z => z.2 g)]
  · rw [if_neg g]
    show (b, b + 1, (if (3 : Int32) = 3 ∧ ¬ τ b = 59 then (4 : Int32) else 3), v) = _
    rw [if_pos ⟨rfl, g⟩]
end XT
theorem x_so1 {τ : Nat → Int32} {v : Int32} {k : zTk} : (x_of τ v k).2.2.1 = 1 ↔ k.2.2.1 = 1 := by
  show (if k.2.2.1 = 3 ∧ ¬ τ k.1 = 59 then (4 : Int32) else k.2.2.1) = 1 ↔ k.2.2.1 = 1
  by_cases h : k.2.2.1 = 3 ∧ ¬ τ k.1 = 59
  · rw [if_pos h, h.1]; decide
  · rw [if_neg h]
theorem x_so2 {τ : Nat → Int32} {v : Int32} {k : zTk} : (x_of τ v k).2.2.1 = 2 ↔ k.2.2.1 = 2 := by
  show (if k.2.2.1 = 3 ∧ ¬ τ k.1 = 59 then (4 : Int32) else k.2.2.1) = 2 ↔ k.2.2.1 = 2
  by_cases h : k.2.2.1 = 3 ∧ ¬ τ k.1 = 59
  · rw [if_pos h, h.1]; decide
  · rw [if_neg h]
theorem x_so0 {τ : Nat → Int32} {v : Int32} {k : zTk} : (x_of τ v k).2.2.1 = 0 ↔ k.2.2.1 = 0 := by
  show (if k.2.2.1 = 3 ∧ ¬ τ k.1 = 59 then (4 : Int32) else k.2.2.1) = 0 ↔ k.2.2.1 = 0
  by_cases h : k.2.2.1 = 3 ∧ ¬ τ k.1 = 59
  · rw [if_pos h, h.1]; decide
  · rw [if_neg h]
theorem x_so3 {τ : Nat → Int32} {v : Int32} {k : zTk} : (x_of τ v k).2.2.1 = 3 ↔ (k.2.2.1 = 3 ∧ τ k.1 = 59) := by
  show (if k.2.2.1 = 3 ∧ ¬ τ k.1 = 59 then (4 : Int32) else k.2.2.1) = 3 ↔ (k.2.2.1 = 3 ∧ τ k.1 = 59)
  by_cases h : k.2.2.1 = 3 ∧ ¬ τ k.1 = 59
  · rw [if_pos h]
    exact ⟨fun z => absurd z (by decide), fun z => absurd z.2 h.2⟩
  · rw [if_neg h]
    refine ⟨fun z => ⟨z, ?_⟩, fun z => z.1⟩
    by_cases g : τ k.1 = 59
    · exact g
    · exact absurd ⟨z, g⟩ h
theorem x_v2 {τ : Nat → Int32} {v : Int32} {k : zTk} (h : k.2.2.1 = 2) : (x_of τ v k).2.2.2 = k.2.2.2 := if_pos h
theorem x_q (τ : Nat → Int32) (k : zTk) : ∃ v, x_of τ v k = (k.1, k.2.1, if k.2.2.1 = 3 ∧ ¬ τ k.1 = 59 then 4 else k.2.2.1, v) := ⟨if k.2.2.1 = 2 then k.2.2.2 else 0, by unfold x_of; by_cases h : k.2.2.1 = 2 <;> simp [h]⟩
/-- no two of the words are one -/
theorem z_sb_ne : ∀ i, i < 14 → ∀ j, j < 14 → i ≠ j → z_sl.getD i 0 = z_sl.getD j 0 → (List.range (z_sl.getD i 0)).any (fun x => !decide ((z_sb.getD i []).getD x 0 = (z_sb.getD j []).getD x 0)) = true := by decide +kernel
theorem s_eqw_at {τ : Nat → Int32} {b i : Nat} {n x : Nat} (h : s_eqw τ b i n = true) (hx : x < n) : τ (b + x) = (z_sb.getD i []).getD x 0 := by
  have := s_eqw_mono n h (x + 1) (by omega)
  rw [s_eqw, Bool.and_eq_true, decide_eq_true_eq] at this
  exact this.2
theorem s_isw_ne {τ : Nat → Int32} {k : zTk} {i j : Nat} (hi : i < 14) (hj : j < 14) (hn : i ≠ j) (h : s_isw τ k i = true) : s_isw τ k j = false := by
  cases g : s_isw τ k j
  · rfl
  · exfalso
    rw [s_isw, Bool.and_eq_true, Bool.and_eq_true, decide_eq_true_eq, decide_eq_true_eq] at h g
    have hl : z_sl.getD i 0 = z_sl.getD j 0 := by have := h.1.2; have := g.1.2; omega
    have hs := z_sb_ne i hi j hj hn hl
    rw [List.any_eq_true] at hs
    obtain ⟨x, hx, hd⟩ := hs
    have hx2 := List.mem_range.mp hx
    have e1 := s_eqw_at h.2 hx2
    have e2 := s_eqw_at g.2 (x := x) (by omega)
    rw [← e1, e2, decide_eq_true rfl] at hd
    cases hd
/-- the kind told: the class's way -/
theorem m_kd_at {τ : Nat → Int32} {k : zTk} : ∀ j, j < 7 → s_isw τ k (3 + j) = true → m_kd τ k 7 = nI j := by
  intro j hj h
  have n : ∀ i, i < 14 → i ≠ 3 + j → s_isw τ k i = false := fun i hi hne => s_isw_ne (by omega) hi (Ne.symm hne) h
  rcases (show j = 0 ∨ j = 1 ∨ j = 2 ∨ j = 3 ∨ j = 4 ∨ j = 5 ∨ j = 6 by omega) with rfl | rfl | rfl | rfl | rfl | rfl | rfl
  · simp [m_kd, m_kix, n 9 (by decide) (by decide), n 7 (by decide) (by decide), n 6 (by decide) (by decide), n 8 (by decide) (by decide), n 5 (by decide) (by decide), n 4 (by decide) (by decide), show s_isw τ k 3 = true from h]; rfl
  · simp [m_kd, m_kix, n 9 (by decide) (by decide), n 7 (by decide) (by decide), n 6 (by decide) (by decide), n 8 (by decide) (by decide), n 5 (by decide) (by decide), show s_isw τ k 4 = true from h]; rfl
  · simp [m_kd, m_kix, n 9 (by decide) (by decide), n 7 (by decide) (by decide), n 6 (by decide) (by decide), n 8 (by decide) (by decide), show s_isw τ k 5 = true from h]; rfl
  · simp [m_kd, m_kix, n 9 (by decide) (by decide), n 7 (by decide) (by decide), show s_isw τ k 6 = true from h]; rfl
  · simp [m_kd, m_kix, n 9 (by decide) (by decide), show s_isw τ k 7 = true from h]; rfl
  · simp [m_kd, m_kix, n 9 (by decide) (by decide), n 7 (by decide) (by decide), n 6 (by decide) (by decide), show s_isw τ k 8 = true from h]; rfl
  · simp [m_kd, m_kix, show s_isw τ k 9 = true from h]; rfl
theorem m_kd_no {τ : Nat → Int32} {k : zTk} (h : ∀ j, j < 7 → s_isw τ k (3 + j) = false) : m_kd τ k 7 = -1 := by
  simp [m_kd, m_kix, show s_isw τ k 3 = false from h 0 (by decide), show s_isw τ k 4 = false from h 1 (by decide), show s_isw τ k 5 = false from h 2 (by decide), show s_isw τ k 6 = false from h 3 (by decide), show s_isw τ k 7 = false from h 4 (by decide), show s_isw τ k 8 = false from h 5 (by decide), show s_isw τ k 9 = false from h 6 (by decide)]
/-- a kind's word is neither hole nor gap -/
theorem m_kd_w {τ : Nat → Int32} {k : zTk} {i : Nat} (hi : i < 3) (h : s_isw τ k i = true) : m_kd τ k 7 = -1 := m_kd_no (fun j hj => s_isw_ne (by omega) (by omega) (by omega) h)
