
/-! MORE QUESTIONS -/
theorem b_and_2 {a b : Bool} (h : (a && b) = true) : a = true ∧ b = true := by cases a <;> cases b <;> simp_all
theorem i_max_c (a b : Int32) : i_max a b = if a < b then b else a := by
  unfold i_max
  by_cases h : a < b <;> by_cases g : b < a
  · exfalso; rw [Int32.lt_iff_toInt_lt] at h g; omega
  · simp only [h, g, if_true, if_false]
  · simp only [h, g, if_true, if_false]
  · simp only [h, g, if_false]
    try (apply Int32.toInt_inj.mp; rw [Int32.lt_iff_toInt_lt] at h g; omega)
def s_kind (σ : Nat → Int32) (N c : Nat) : Nat → Int32 × Int32
  | 0 => (-1, -1)
  | k + 1 => (if (s_kind σ N c k).2 < nI (v_till (upd σ (16 + 8 * c + 0) (nI k)) N c false) then nI k else (s_kind σ N c k).1, if (s_kind σ N c k).2 < nI (v_till (upd σ (16 + 8 * c + 0) (nI k)) N c false) then nI (v_till (upd σ (16 + 8 * c + 0) (nI k)) N c false) else (s_kind σ N c k).2)
def o_kindFor (σ : Nat → Int32) (N : Nat) (c : Int32) : oQ := if b_coin c N = true then (if ¬ σ (16 + 8 * i_n c + 4) = 0 ∨ 9899 < σ 0 then .inl 4 else .inr (s_kind σ N (i_n c) 7).1) else .inl 0
def v_worst (σ : Nat → Int32) (N n c : Nat) : Int32 := v_lost (s_goTo σ c 3) N n (s_lie σ 2 N)
def s_worst (σ : Nat → Int32) (N n : Nat) : Nat → Int32 × Int32
  | 0 => (-1, 0)
  | c + 1 => if σ (16 + 8 * c + 4) = 0 ∧ ((s_worst σ N n c).1 < 0 ∨ v_worst σ N n c < (s_worst σ N n c).2) then (nI c, v_worst σ N n c) else s_worst σ N n c
def o_worst (σ : Nat → Int32) (N : Nat) (n : Int32) : oQ := if b_in n 1 100 = true then (if 9999 < σ 0 + n then .inl 4 else if (s_worst σ N (i_n n) N).1 < 0 then .inl 3 else .inr (s_worst σ N (i_n n) N).1) else .inl 0
def v_hem (σ : Nat → Int32) (N n a : Nat) : Int32 := v_lost (upd σ 3 (nI a)) N n (s_lie σ 2 N)
def s_hem (σ : Nat → Int32) (N n : Nat) : Nat → Int32 × Int32
  | 0 => (-1, 0)
  | a + 1 => if (s_hem σ N n a).1 < 0 ∨ v_hem σ N n a < (s_hem σ N n a).2 then (nI a, v_hem σ N n a) else s_hem σ N n a
def o_hem (σ : Nat → Int32) (N : Nat) (n : Int32) : oQ := if b_in n 1 100 = true then (if 9999 < σ 0 + n then .inl 4 else .inr (s_hem σ N (i_n n) 8).1) else .inl 0
def s_thin (σ : Nat → Int32) : Nat → Int32
  | 0 => 0
  | c + 1 => if s_thick σ c ≤ σ 1 then s_thin σ c ||| ((1 : Int32) <<< (nI c &&& 31)) else s_thin σ c
/-- those of a set go where it says: one in it to the pocket, else left -/
def s_place (σ : Nat → Int32) (all set : Int32) : Nat → Nat → Int32
  | 0 => σ
  | c + 1 => if s_has all c = true then s_goTo (s_place σ all set c) c (if s_has set c = true then 0 else 3) else s_place σ all set c
def s_stays (σ : Nat → Int32) (N n : Nat) (all set : Int32) : Bool := decide (set &&& (s_lie (s_steps (s_place σ all set N) N n) 0 N ^^^ (-1)) = 0)
def s_all (σ : Nat → Int32) (N : Nat) : Int32 := s_lie σ 0 N ||| s_lie σ 3 N
def s_inAll (set all : Int32) : Bool := decide (set &&& (all ^^^ (-1)) = 0)
def s_carry (σ : Nat → Int32) (N n : Nat) (all : Int32) : Nat → Int32 × Int32
  | 0 => (0, 0)
  | k + 1 => if (s_carry σ N n all k).2 < (if s_inAll (nI k) all = true then s_sum σ 3 (nI k) N else 0) ∧ s_stays σ N n all (nI k) = true then (nI k, if s_inAll (nI k) all = true then s_sum σ 3 (nI k) N else 0) else s_carry σ N n all k
def o_carry (σ : Nat → Int32) (N : Nat) (n : Int32) : oQ := if b_in n 1 100 = true then (if 9999 < σ 0 + n then .inl 4 else .inr (s_carry σ N (i_n n) (s_all σ N) (2 ^ N)).1) else .inl 0
def o_carried (σ : Nat → Int32) (N : Nat) (n : Int32) : oQ := if b_in n 1 100 = true then (if 9999 < σ 0 + n then .inl 4 else .inr (s_carry σ N (i_n n) (s_all σ N) (2 ^ N)).2) else .inl 0
theorem z_as_up0 (D : zD) (x : Nat) (v : Int32) : z_up (z_as D) 0 x v = z_as (z_up D 0 x v) := by
  unfold z_as
  rw [z_up_row, z_up_row]
  refine Prod.ext (funext fun q => ?_) rfl
  by_cases h : q = 0
  · subst h; simp [z_row]
  · by_cases g : q = 2
    · subst g; simp [z_row]
    · simp [z_row, h, g]
theorem z_row_up0 (D : zD) (x : Nat) (σ : Nat → Int32) (v : Int32) : z_up (z_row D 1 σ) 0 x v = z_row (z_up D 0 x v) 1 σ := by
  rw [z_up_row, z_up_row]
  refine Prod.ext (funext fun q => ?_) rfl
  by_cases h : q = 0
  · subst h; simp [z_row]
  · by_cases g : q = 1
    · subst g; simp [z_row]
    · simp [z_row, h, g]
theorem u_self (σ : Nat → Int32) (x : Nat) : upd σ x (σ x) = σ := by
  funext i
  by_cases h : i = x
  · subst h; simp [upd]
  · simp [upd, h]
theorem u_u (σ : Nat → Int32) (x : Nat) (v w : Int32) : upd (upd σ x v) x w = upd σ x w := by
  funext i
  by_cases h : i = x
  · subst h; simp [upd]
  · simp [upd, h]
theorem z_up_self (D : zD) (r x : Nat) : z_up D r x (D.1 r x) = D := by rw [z_up_row, u_self, z_row_eq]
theorem z_row_cm (D : zD) {r q : Nat} (σ τ : Nat → Int32) (h : r ≠ q) : z_row (z_row D r σ) q τ = z_row (z_row D q τ) r σ := by
  refine Prod.ext (funext fun k => ?_) rfl
  by_cases a : k = r <;> by_cases b : k = q <;> simp [z_row, a, b]
  · exact absurd (a.symm.trans b) h
  · intro e; exact absurd e h
  · intro e; exact absurd e.symm h
theorem s_goTo_hi (σ : Nat → Int32) {c i : Nat} (pl : Int32) (hc : c < 10) (h : 96 ≤ i) : s_goTo σ c pl i = σ i := by
  unfold s_goTo
  rw [u_ne _ _ (by omega), u_ne _ _ (by omega), u_ne _ _ (by omega), u_ne _ _ (by omega)]
theorem s_goTo_lo (σ : Nat → Int32) {c i : Nat} (pl : Int32) (h : i < 16) : s_goTo σ c pl i = σ i := by
  unfold s_goTo
  rw [u_ne _ _ (by omega), u_ne _ _ (by omega), u_ne _ _ (by omega), u_ne _ _ (by omega)]
theorem s_place_hi (σ : Nat → Int32) (all set : Int32) {i : Nat} (h : 96 ≤ i) : ∀ c, c ≤ 10 → s_place σ all set c i = σ i
  | 0, _ => rfl
  | c + 1, hc => by
    rw [s_place]
    split
    · rw [s_goTo_hi _ _ (by omega) h]; exact s_place_hi σ all set h c (by omega)
    · exact s_place_hi σ all set h c (by omega)
theorem s_place_lo (σ : Nat → Int32) (all set : Int32) {i : Nat} (h : i < 16) : ∀ c, s_place σ all set c i = σ i
  | 0 => rfl
  | c + 1 => by
    rw [s_place]
    split
    · rw [s_goTo_lo _ _ h]; exact s_place_lo σ all set h c
    · exact s_place_lo σ all set h c
