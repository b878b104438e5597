
/-! THE TAPE's TOKENS: (begin, end, sort, value) -/
abbrev zTk : Type := Nat × Nat × Int32 × Int32
/-- the lone numbers, those of the reader told apart: token, wrong, items, coins then -/
def s_r0 (ρ : Nat → Int32) (k : zTk) (w : Bool) (m : Nat) (c : Int32) : Nat → Int32 := fun i => if i = 13 then nI k.1 else if i = 14 then nI k.2.1 else if i = 15 then k.2.2.1 else if i = 16 then k.2.2.2 else if i = 17 then z_b w else if i = 21 then nI m else if i = 22 then c else ρ i
theorem z_r13 (D : zD) (ρ : Nat → Int32) (k : zTk) (w : Bool) (m : Nat) (c : Int32) : (z_row D 0 (s_r0 ρ k w m c)).1 0 13 = nI k.1 := by rw [z_rowr]; rfl
theorem z_p13 (D : zD) (ρ : Nat → Int32) (b e : Nat) (so v : Int32) (w : Bool) (m : Nat) (c : Int32) (b' : Nat) : z_up (z_row D 0 (s_r0 ρ (b, e, so, v) w m c)) 0 13 (nI b') = z_row D 0 (s_r0 ρ (b', e, so, v) w m c) := by
  rw [z_row_up]
  congr 1
  funext i
  unfold upd s_r0
  by_cases h : i = 13
  · subst h; rfl
  · simp only [h, if_false]
theorem z_r14 (D : zD) (ρ : Nat → Int32) (k : zTk) (w : Bool) (m : Nat) (c : Int32) : (z_row D 0 (s_r0 ρ k w m c)).1 0 14 = nI k.2.1 := by rw [z_rowr]; rfl
theorem z_p14 (D : zD) (ρ : Nat → Int32) (b e : Nat) (so v : Int32) (w : Bool) (m : Nat) (c : Int32) (e' : Nat) : z_up (z_row D 0 (s_r0 ρ (b, e, so, v) w m c)) 0 14 (nI e') = z_row D 0 (s_r0 ρ (b, e', so, v) w m c) := by
  rw [z_row_up]
  congr 1
  funext i
  unfold upd s_r0
  by_cases h : i = 14
  · subst h; rfl
  · simp only [h, if_false]
theorem z_r15 (D : zD) (ρ : Nat → Int32) (k : zTk) (w : Bool) (m : Nat) (c : Int32) : (z_row D 0 (s_r0 ρ k w m c)).1 0 15 = k.2.2.1 := by rw [z_rowr]; rfl
theorem z_p15 (D : zD) (ρ : Nat → Int32) (b e : Nat) (so v : Int32) (w : Bool) (m : Nat) (c : Int32) (so' : Int32) : z_up (z_row D 0 (s_r0 ρ (b, e, so, v) w m c)) 0 15 (so') = z_row D 0 (s_r0 ρ (b, e, so', v) w m c) := by
  rw [z_row_up]
  congr 1
  funext i
  unfold upd s_r0
  by_cases h : i = 15
  · subst h; rfl
  · simp only [h, if_false]
theorem z_r16 (D : zD) (ρ : Nat → Int32) (k : zTk) (w : Bool) (m : Nat) (c : Int32) : (z_row D 0 (s_r0 ρ k w m c)).1 0 16 = k.2.2.2 := by rw [z_rowr]; rfl
theorem z_p16 (D : zD) (ρ : Nat → Int32) (b e : Nat) (so v : Int32) (w : Bool) (m : Nat) (c : Int32) (v' : Int32) : z_up (z_row D 0 (s_r0 ρ (b, e, so, v) w m c)) 0 16 (v') = z_row D 0 (s_r0 ρ (b, e, so, v') w m c) := by
  rw [z_row_up]
  congr 1
  funext i
  unfold upd s_r0
  by_cases h : i = 16
  · subst h; rfl
  · simp only [h, if_false]
theorem z_r17 (D : zD) (ρ : Nat → Int32) (k : zTk) (w : Bool) (m : Nat) (c : Int32) : (z_row D 0 (s_r0 ρ k w m c)).1 0 17 = z_b w := by rw [z_rowr]; rfl
theorem z_p17 (D : zD) (ρ : Nat → Int32) (b e : Nat) (so v : Int32) (w : Bool) (m : Nat) (c : Int32) (w' : Bool) : z_up (z_row D 0 (s_r0 ρ (b, e, so, v) w m c)) 0 17 (z_b w') = z_row D 0 (s_r0 ρ (b, e, so, v) w' m c) := by
  rw [z_row_up]
  congr 1
  funext i
  unfold upd s_r0
  by_cases h : i = 17
  · subst h; rfl
  · simp only [h, if_false]
theorem z_r21 (D : zD) (ρ : Nat → Int32) (k : zTk) (w : Bool) (m : Nat) (c : Int32) : (z_row D 0 (s_r0 ρ k w m c)).1 0 21 = nI m := by rw [z_rowr]; rfl
theorem z_p21 (D : zD) (ρ : Nat → Int32) (b e : Nat) (so v : Int32) (w : Bool) (m : Nat) (c : Int32) (m' : Nat) : z_up (z_row D 0 (s_r0 ρ (b, e, so, v) w m c)) 0 21 (nI m') = z_row D 0 (s_r0 ρ (b, e, so, v) w m' c) := by
  rw [z_row_up]
  congr 1
  funext i
  unfold upd s_r0
  by_cases h : i = 21
  · subst h; rfl
  · simp only [h, if_false]
theorem z_r22 (D : zD) (ρ : Nat → Int32) (k : zTk) (w : Bool) (m : Nat) (c : Int32) : (z_row D 0 (s_r0 ρ k w m c)).1 0 22 = c := by rw [z_rowr]; rfl
theorem z_p22 (D : zD) (ρ : Nat → Int32) (b e : Nat) (so v : Int32) (w : Bool) (m : Nat) (c : Int32) (c' : Int32) : z_up (z_row D 0 (s_r0 ρ (b, e, so, v) w m c)) 0 22 (c') = z_row D 0 (s_r0 ρ (b, e, so, v) w m c') := by
  rw [z_row_up]
  congr 1
  funext i
  unfold upd s_r0
  by_cases h : i = 22
  · subst h; rfl
  · simp only [h, if_false]
theorem z_rRo (D : zD) (ρ : Nat → Int32) (k : zTk) (w : Bool) (m : Nat) (c : Int32) {i : Nat} (h : i < 13 ∨ 17 < i ∧ i < 21) : (z_row D 0 (s_r0 ρ k w m c)).1 0 i = ρ i := by
  rw [z_rowr]
  unfold s_r0
  simp only [show i ≠ 13 by omega, show i ≠ 14 by omega, show i ≠ 15 by omega, show i ≠ 16 by omega, show i ≠ 17 by omega, show i ≠ 21 by omega, show i ≠ 22 by omega, if_false]
def s_att (τ : Nat → Int32) (t k : Nat) : Int32 := if k < t then τ k else -1
def t_sp (τ : Nat → Int32) (t k : Nat) : Bool := decide (s_att τ t k = 32)
def t_le (τ : Nat → Int32) (t k : Nat) : Bool := b_in (s_att τ t k) 97 122
def t_di (τ : Nat → Int32) (t k : Nat) : Bool := b_in (s_att τ t k) 48 57
/-- the number told by n digits from b on -/
def s_val (τ : Nat → Int32) (t b : Nat) : Nat → Int32
  | 0 => 0
  | n + 1 => i_min 1000 (10 * s_val τ t b n + s_att τ t (b + n) - 48)
def t_b (τ : Nat → Int32) (t e : Nat) : Nat := s_upto (t_sp τ t) 121 e
def s_tok (τ : Nat → Int32) (t e : Nat) : zTk :=
  if s_att τ t (t_b τ t e) < 0 then (t_b τ t e, t_b τ t e, 0, 0)
  else if t_le τ t (t_b τ t e) = true then (t_b τ t e, s_upto (t_le τ t) 121 (t_b τ t e), 1, 0)
  else if t_di τ t (t_b τ t e) = true then (t_b τ t e, s_upto (t_di τ t) 121 (t_b τ t e), 2, s_val τ t (t_b τ t e) (s_upto (t_di τ t) 121 (t_b τ t e) - t_b τ t e))
  else (t_b τ t e, t_b τ t e + 1, 3, 0)
theorem s_upto_ge (P : Nat → Bool) : ∀ f n, n ≤ s_upto P f n
  | 0, n => Nat.le_refl _
  | f + 1, n => by
    rw [s_upto]
    split
    · have := s_upto_ge P f (n + 1); omega
    · omega
theorem s_upto_lt (P : Nat → Bool) {t : Nat} (hP : ∀ k, P k = true → k < t) : ∀ f n, n ≤ t → s_upto P f n ≤ t
  | 0, n, h => h
  | f + 1, n, h => by
    rw [s_upto]
    split
    · next g => exact s_upto_lt P hP f (n + 1) (hP n g)
    · exact h
theorem t_sp_lt {τ : Nat → Int32} {t k : Nat} (h : t_sp τ t k = true) : k < t := by
  rcases Nat.lt_or_ge k t with g | g
  · exact g
  · rw [t_sp, s_att, if_neg (by omega)] at h; exact absurd h (by decide)
theorem t_le_lt {τ : Nat → Int32} {t k : Nat} (h : t_le τ t k = true) : k < t := by
  rcases Nat.lt_or_ge k t with g | g
  · exact g
  · rw [t_le, s_att, if_neg (by omega)] at h; exact absurd h (by decide)
theorem t_di_lt {τ : Nat → Int32} {t k : Nat} (h : t_di τ t k = true) : k < t := by
  rcases Nat.lt_or_ge k t with g | g
  · exact g
  · rw [t_di, s_att, if_neg (by omega)] at h; exact absurd h (by decide)
theorem t_b_le {τ : Nat → Int32} {t e : Nat} (h : e ≤ t) : t_b τ t e ≤ t := s_upto_lt _ (fun _ => t_sp_lt) _ _ h
theorem t_b_ge (τ : Nat → Int32) (t e : Nat) : e ≤ t_b τ t e := s_upto_ge _ _ _
/-- a token's bounds: where it begins, where it ends -/
def t_ok (t : Nat) (k : zTk) : Prop := k.1 ≤ k.2.1 ∧ k.2.1 ≤ t ∧ (k.2.2.1 ≠ 0 → k.1 < k.2.1)
theorem s_upto_1 {P : Nat → Bool} {f n : Nat} (h : P n = true) : n < s_upto P (f + 1) n := by
  rw [s_upto, if_pos h]
  have := s_upto_ge P f (n + 1)
  omega
theorem s_tok_ok {τ : Nat → Int32} {t e : Nat} (h : e ≤ t) : t_ok t (s_tok τ t e) ∧ e ≤ (s_tok τ t e).1 := by
  have hb := t_b_le (τ := τ) h
  have hg := t_b_ge τ t e
  unfold s_tok
  by_cases h0 : s_att τ t (t_b τ t e) < 0
  · rw [if_pos h0]; exact ⟨⟨Nat.le_refl _, hb, fun q => absurd rfl q⟩, hg⟩
  rw [if_neg h0]
  by_cases h1 : t_le τ t (t_b τ t e) = true
  · rw [if_pos h1]
    have g1 := s_upto_1 (f := 120) h1
    have g2 := s_upto_lt _ (fun _ => t_le_lt (τ := τ) (t := t)) 121 _ hb
    exact ⟨⟨Nat.le_of_lt g1, g2, fun _ => g1⟩, hg⟩
  rw [if_neg h1]
  by_cases h2 : t_di τ t (t_b τ t e) = true
  · rw [if_pos h2]
    have g1 := s_upto_1 (f := 120) h2
    have g2 := s_upto_lt _ (fun _ => t_di_lt (τ := τ) (t := t)) 121 _ hb
    exact ⟨⟨Nat.le_of_lt g1, g2, fun _ => g1⟩, hg⟩
  rw [if_neg h2]
  have g : t_b τ t e < t := by
    rcases Nat.lt_or_ge (t_b τ t e) t with g | g
    · exact g
    · rw [s_att, if_neg (by omega)] at h0; exact absurd (by decide) h0
  exact ⟨⟨Nat.le_succ _, g, fun _ => Nat.lt_succ_self _⟩, hg⟩
/-! words, the reader's moves -/
def s_eqw (τ : Nat → Int32) (b i : Nat) : Nat → Bool
  | 0 => true
  | j + 1 => s_eqw τ b i j && decide (τ (b + j) = (z_sb.getD i []).getD j 0)
def s_isw (τ : Nat → Int32) (k : zTk) (i : Nat) : Bool := decide (k.2.2.1 = 1) && decide (k.2.1 = k.1 + z_sl.getD i 0) && s_eqw τ k.1 i (z_sl.getD i 0)
abbrev zRd : Type := zTk × Bool
def m_must (τ : Nat → Int32) (t : Nat) (s : zRd) (is : Bool) : zRd := if (s.2 || !is) = true then (s.1, true) else (s_tok τ t s.1.2.1, false)
def m_num (τ : Nat → Int32) (t : Nat) (s : zRd) (lo hi : Int32) : zRd := m_must τ t s (decide (s.1.2.2.1 = 2) && b_in s.1.2.2.2 lo hi)
def m_isn (τ : Nat → Int32) (s : zRd) (i : Nat) : Bool := !s.2 && s_isw τ s.1 i
def m_next (τ : Nat → Int32) (t : Nat) (s : zRd) (i : Nat) : zRd := if m_isn τ s i = true then (s_tok τ t s.1.2.1, false) else s
def m_kix (j : Nat) : Nat := [3, 4, 5, 8, 6, 7, 9].getD j 0
def m_kd (τ : Nat → Int32) (k : zTk) : Nat → Int32
  | 0 => -1
  | j + 1 => if s_isw τ k (m_kix j) = true then [0, 1, 2, 5, 3, 4, 6].getD j 0 else m_kd τ k j
/-- size, weight or pence: the number told, the reader behind it -/
def m_part (τ : Nat → Int32) (t : Nat) (s : zRd) (i : Nat) (lo hi df : Int32) : Int32 × zRd := if m_isn τ s i = true then ((m_next τ t s i).1.2.2.2, m_num τ t (m_next τ t s i) lo hi) else (df, s)
/-- an item: (what, a, b, c, d), the reader behind it -/
abbrev zIt : Type := Int32 × Int32 × Int32 × Int32 × Int32
def m_coin (τ : Nat → Int32) (t : Nat) (s : zRd) (kind c : Int32) : zIt × zRd :=
  let p1 := m_part τ t (m_must τ t s (decide (c < 10))) 10 1 40 8
  let p2 := m_part τ t p1.2 11 1 50 5
  let p3 := m_part τ t p2.2 12 0 240 6
  ((kind, p1.1, p2.1, p3.1, if m_isn τ p3.2 13 = true then 3 else 0), m_next τ t p3.2 13)
def m_gap (τ : Nat → Int32) (t : Nat) (s : zRd) : zIt × zRd :=
  let s1 := m_must τ t s (s_isw τ s.1 1)
  let s2 := m_num τ t s1 0 99
  let s3 := m_must τ t s2 (s_isw τ s2.1 2)
  ((11, s1.1.2.2.2, s3.1.2.2.2, 0, 0), m_num τ t s3 0 7)
def m_hole (τ : Nat → Int32) (t : Nat) (s : zRd) : zIt × zRd := ((10, (m_next τ t s 0).1.2.2.2, 0, 0, 0), m_num τ t (m_next τ t s 0) 0 99)
def m_read (τ : Nat → Int32) (t : Nat) (s : zRd) (c : Int32) : zIt × zRd :=
  if m_kd τ s.1 7 < 0 then (if m_isn τ s 0 = true then m_hole τ t s else m_gap τ t s) else m_coin τ t s (m_kd τ s.1 7) c
def m_then (τ : Nat → Int32) (s : zRd) (c : Int32) : Int32 := if m_kd τ s.1 7 < 0 then c else c + 1
def s_item (ω : Nat → Int32) (m : Nat) (i : zIt) : Nat → Int32 := upd (upd (upd (upd (upd ω (5 * m) i.1) (5 * m + 1) i.2.1) (5 * m + 2) i.2.2.1) (5 * m + 3) i.2.2.2.1) (5 * m + 4) i.2.2.2.2
/-- the reader's whole state: reader, coins then, items' row, their number -/
abbrev zRs : Type := zRd × Int32 × (Nat → Int32) × Nat
def m_one (τ : Nat → Int32) (t : Nat) (q : zRs) : zRs := ((m_read τ t q.1 q.2.1).2, m_then τ q.1 q.2.1, s_item q.2.2.1 q.2.2.2 (m_read τ t q.1 q.2.1).1, q.2.2.2 + 1)
def m_more (τ : Nat → Int32) (q : zRs) : Bool := !q.1.2 && decide (q.1.1.2.2.1 = 3) && decide (τ q.1.1.1 = 59)
def m_loop (τ : Nat → Int32) (t : Nat) : Nat → zRs → zRs
  | 0, q => q
  | f + 1, q => if m_more τ q = true then m_loop τ t f (m_one τ t (m_must τ t q.1 true, q.2)) else q
/-- bounds along the way -/
theorem m_must_ok {τ : Nat → Int32} {t : Nat} {s : zRd} {is : Bool} (h : t_ok t s.1) : t_ok t (m_must τ t s is).1 ∧ s.1.1 ≤ (m_must τ t s is).1.1 := by
  unfold m_must
  split
  · exact ⟨h, Nat.le_refl _⟩
  · have := s_tok_ok (τ := τ) h.2.1
    exact ⟨this.1, Nat.le_trans h.1 this.2⟩
theorem m_must_lt {τ : Nat → Int32} {t : Nat} {s : zRd} {is : Bool} (h : t_ok t s.1) (h0 : s.1.2.2.1 ≠ 0) (hw : (m_must τ t s is).2 = false) : s.1.1 < (m_must τ t s is).1.1 := by
  unfold m_must at hw ⊢
  split at hw
  · cases hw
  · next q =>
    rw [if_neg q]
    have := s_tok_ok (τ := τ) h.2.1
    have := h.2.2 h0
    show s.1.1 < (s_tok τ t s.1.2.1).1
    omega
theorem m_must_w {τ : Nat → Int32} {t : Nat} {s : zRd} {is : Bool} (hw : (m_must τ t s is).2 = false) : s.2 = false ∧ is = true := by
  unfold m_must at hw
  split at hw
  · cases hw
  · next q => cases h1 : s.2 <;> cases h2 : is <;> simp_all
theorem m_next_ok {τ : Nat → Int32} {t : Nat} {s : zRd} {i : Nat} (h : t_ok t s.1) : t_ok t (m_next τ t s i).1 ∧ s.1.1 ≤ (m_next τ t s i).1.1 := by
  unfold m_next
  split
  · have := s_tok_ok (τ := τ) h.2.1
    exact ⟨this.1, Nat.le_trans h.1 this.2⟩
  · exact ⟨h, Nat.le_refl _⟩
theorem m_part_ok {τ : Nat → Int32} {t : Nat} {s : zRd} {i : Nat} {lo hi df : Int32} (h : t_ok t s.1) : t_ok t (m_part τ t s i lo hi df).2.1 ∧ s.1.1 ≤ (m_part τ t s i lo hi df).2.1.1 := by
  unfold m_part
  split
  · have h1 := m_next_ok (τ := τ) (i := i) h
    have h2 := m_must_ok (τ := τ) (is := decide ((m_next τ t s i).1.2.2.1 = 2) && b_in (m_next τ t s i).1.2.2.2 lo hi) h1.1
    exact ⟨h2.1, Nat.le_trans h1.2 h2.2⟩
  · exact ⟨h, Nat.le_refl _⟩
