
/-! WHAT THE METHODS MEAN: pure words over a coat's row σ (0 STEP, 1 HOLE, 2 GAP, 3 AT, 4 COINS, 5 z, 6 + s spots, 16 + 8 c + f field f of coin c) -/
theorem i_or0 (x : Int32) : x ||| 0 = x := by
  apply Int32.toBitVec_inj.mp
  simp
theorem i_add0 (x : Int32) : x + 0 = x := by
  apply Int32.toBitVec_inj.mp
  simp
theorem i_0add (x : Int32) : 0 + x = x := by
  apply Int32.toBitVec_inj.mp
  simp
/-- the set of those of N coins that lie in a place -/
def s_lie (σ : Nat → Int32) (pl : Int32) : Nat → Int32
  | 0 => 0
  | c + 1 => if σ (16 + 8 * c + 4) = pl then s_lie σ pl c ||| ((1 : Int32) <<< (nI c &&& 31)) else s_lie σ pl c
def s_has (set : Int32) (c : Nat) : Bool := decide ((set >>> (nI c &&& 31)) &&& 1 = 1)
def s_sum (σ : Nat → Int32) (f : Nat) (set : Int32) : Nat → Int32
  | 0 => 0
  | c + 1 => if s_has set c = true then s_sum σ f set c + σ (16 + 8 * c + f) else s_sum σ f set c
theorem i_min_c (a b : Int32) : i_min a b = i_min b a := by
  unfold i_min
  by_cases h : a < b <;> by_cases g : b < a
  · rw [Int32.lt_iff_toInt_lt] at h g; omega
  · rw [if_pos h, if_neg g]
  · rw [if_neg h, if_pos g]
  · rw [if_neg h, if_neg g]
    apply Int32.toInt_inj.mp
    rw [Int32.lt_iff_toInt_lt] at h g
    omega
def b_in (v lo hi : Int32) : Bool := decide (lo ≤ v) && decide (v ≤ hi)
def b_coin (c : Int32) (N : Nat) : Bool := decide (0 ≤ c) && decide (c < nI N)
theorem b_coin_in (c : Int32) {N : Nat} (h : N ≤ 10) : b_in c 0 (nI N - 1) = b_coin c N := by
  unfold b_in b_coin
  congr 1
  have e : (nI N - 1).toInt = (N : Int) - 1 := pk_sub_toInt (a := N) (b := 1) (by omega) (by omega)
  have e2 := nI_toInt (n := N) (by omega)
  refine decide_eq_decide.mpr ?_
  rw [Int32.le_iff_toInt_le, Int32.lt_iff_toInt_lt, e, e2]
  omega
theorem b_in0 {v : Int32} (n : Nat) (hn : n < 2 ^ 31) (h : b_in v 0 (nI n) = true) : ∃ w, w ≤ n ∧ v = nI w := by
  simp only [b_in, Bool.and_eq_true, decide_eq_true_eq] at h
  obtain ⟨j, hj, rfl⟩ := nI_of (x := v) (Int32.not_lt.mpr h.1)
  exact ⟨j, (nI_leI hj hn).mp h.2, rfl⟩
theorem b_in1 {v : Int32} (n : Nat) (hn : n < 2 ^ 31) (h : b_in v 1 (nI n) = true) : ∃ w, 1 ≤ w ∧ w ≤ n ∧ v = nI w := by
  simp only [b_in, Bool.and_eq_true, decide_eq_true_eq] at h
  obtain ⟨j, hj, rfl⟩ := nI_of (x := v) (fun q => by
    have h1 := h.1
    rw [Int32.le_iff_toInt_le] at h1
    rw [Int32.lt_iff_toInt_lt] at q
    have e1 : (1 : Int32).toInt = 1 := by decide
    have e0 : (0 : Int32).toInt = 0 := by decide
    omega)
  exact ⟨j, (nI_leI (a := 1) (by omega) hj).mp h.1, (nI_leI hj hn).mp h.2, rfl⟩
theorem b_coin_ex {c : Int32} {N : Nat} (h10 : N ≤ 10) (h : b_coin c N = true) : ∃ j, j < N ∧ c = nI j := by
  simp only [b_coin, Bool.and_eq_true, decide_eq_true_eq] at h
  obtain ⟨j, hj, rfl⟩ := nI_of (x := c) (Int32.not_lt.mpr h.1)
  exact ⟨j, (nI_ltI hj (by omega)).mp h.2, rfl⟩
theorem b_coin_n {j N : Nat} (h10 : N ≤ 10) (h : j < N) : b_coin (nI j) N = true := by
  simp only [b_coin, Bool.and_eq_true, decide_eq_true_eq]
  exact ⟨nI_pos' (by omega), nI_lt h (by omega)⟩
def i_n (v : Int32) : Nat := v.toNatClampNeg
theorem i_n_n {j : Nat} (h : j < 2 ^ 31) : i_n (nI j) = j := nI_clamp h
/-- a finding -/
def nF (k : Nat) : Int32 := -1000001 - nI k
theorem nF_ix : ∀ k, k < 7 → (-1000001 : Int32) - nF k + 1 = nI (1 + k) := by decide +kernel
def s_above (k : Int32) : Int32 := if k = 0 then -1 else if k = 3 then 1 else if k = 4 then 2 else if k = 6 then 5 else 0
def s_und : Nat → Int32 → Int32 → Int32
  | 0, k, _ => k
  | n + 1, k, o => if k < 0 then k else if k = o then k else s_und n (s_above k) o
def s_under (k o : Int32) : Bool := decide (¬ s_und 3 k o < 0)
def s_rk (k : Int32) : Nat := if k < 0 then 0 else if k = 0 then 1 else if k = 3 ∨ k = 4 ∨ k = 6 then 3 else 2
theorem s_rk_above {k : Int32} (h : ¬ k < 0) : s_rk (s_above k) < s_rk k := by
  by_cases h0 : k = 0
  · subst h0; decide
  by_cases h3 : k = 3
  · subst h3; decide
  by_cases h4 : k = 4
  · subst h4; decide
  by_cases h6 : k = 6
  · subst h6; decide
  have e : s_above k = 0 := by simp only [s_above, h0, h3, h4, h6, if_false]
  rw [e]
  simp only [s_rk, h, h0, h3, h4, h6, if_false, or_self]
  decide
theorem s_rk_le (k : Int32) : s_rk k ≤ 3 := by
  unfold s_rk
  repeat' split
  all_goals omega
theorem s_under_o (k o : Int32) (ho : ¬ o < 0) : s_under k o = decide (¬ k < 0 ∧ (k = o ∨ s_above k = o ∨ (¬ s_above k < 0 ∧ s_above (s_above k) = o))) := by
  by_cases hn : k < 0
  · simp [s_under, s_und, hn]
  by_cases ho' : k = o
  · subst ho'
    simp [s_under, s_und, hn]
  by_cases h1 : s_above k < 0
  · have : ¬ s_above k = o := fun e => ho (e ▸ h1)
    simp [s_under, s_und, hn, ho', h1, this]
  by_cases h2 : s_above k = o
  · simp [s_under, s_und, hn, ho', h1, h2, ho]
  by_cases h3 : s_above (s_above k) < 0
  · have : ¬ s_above (s_above k) = o := fun e => ho (e ▸ h3)
    simp [s_under, s_und, hn, ho', h1, h2, h3, this]
  by_cases h4 : s_above (s_above k) = o
  · simp [s_under, s_und, hn, ho', h1, h2, h3, h4, ho]
  have h5 : s_above (s_above (s_above k)) < 0 := by
    have a := s_rk_above hn
    have b := s_rk_above h1
    have c := s_rk_above h3
    have d := s_rk_le k
    have e : s_rk (s_above (s_above (s_above k))) = 0 := by omega
    by_cases q : s_above (s_above (s_above k)) < 0
    · exact q
    · exfalso
      unfold s_rk at e
      rw [if_neg q] at e
      revert e
      repeat' split
      all_goals omega
  simp [s_under, s_und, hn, ho', h1, h2, h3, h4, h5]
theorem s_under_1 (k : Int32) : s_under k 1 = decide (k = 1 ∨ k = 3) := by
  rw [s_under_o k 1 (by decide)]
  by_cases h0 : k = 0
  · subst h0; decide
  by_cases h3 : k = 3
  · subst h3; decide
  by_cases h4 : k = 4
  · subst h4; decide
  by_cases h6 : k = 6
  · subst h6; decide
  by_cases h1 : k = 1
  · subst h1; decide
  have e : s_above k = 0 := by simp only [s_above, h0, h3, h4, h6, if_false]
  have e0 : s_above 0 = -1 := by decide
  simp [e, e0, h1, h3]
theorem s_under_5 (k : Int32) : s_under k 5 = decide (k = 5 ∨ k = 6) := by
  rw [s_under_o k 5 (by decide)]
  by_cases h0 : k = 0
  · subst h0; decide
  by_cases h3 : k = 3
  · subst h3; decide
  by_cases h4 : k = 4
  · subst h4; decide
  by_cases h6 : k = 6
  · subst h6; decide
  by_cases h1 : k = 5
  · subst h1; decide
  have e : s_above k = 0 := by simp only [s_above, h0, h3, h4, h6, if_false]
  have e0 : s_above 0 = -1 := by decide
  simp [e, e0, h1, h6]
theorem s_under_2 (k : Int32) : s_under k 2 = decide (k = 2 ∨ k = 4) := by
  rw [s_under_o k 2 (by decide)]
  by_cases h0 : k = 0
  · subst h0; decide
  by_cases h3 : k = 3
  · subst h3; decide
  by_cases h4 : k = 4
  · subst h4; decide
  by_cases h6 : k = 6
  · subst h6; decide
  by_cases h1 : k = 2
  · subst h1; decide
  have e : s_above k = 0 := by simp only [s_above, h0, h3, h4, h6, if_false]
  have e0 : s_above 0 = -1 := by decide
  simp [e, e0, h1, h4]
def s_thick (σ : Nat → Int32) (c : Nat) : Int32 :=
  if σ (16 + 8 * c + 0) = 1 then 2 * σ (16 + 8 * c + 1) else if σ (16 + 8 * c + 0) = 3 then 2 * σ (16 + 8 * c + 1) + 3 else if σ (16 + 8 * c + 0) = 5 ∨ σ (16 + 8 * c + 0) = 6 then (if 1 < σ (16 + 8 * c + 1) then σ (16 + 8 * c + 1) / 2 else 1) else σ (16 + 8 * c + 1)
def s_goes (σ : Nat → Int32) (c : Nat) : Int32 := if σ (16 + 8 * c + 0) = 2 ∨ σ (16 + 8 * c + 0) = 4 then 2 else if σ (16 + 8 * c + 0) = 6 then 0 else 1
def s_plain (σ : Nat → Int32) (c : Nat) : Int32 := if σ 1 ≤ 2 * s_thick σ c then 1 else 0
def s_wears (σ : Nat → Int32) (c : Nat) : Int32 := if σ (16 + 8 * c + 0) = 1 ∨ σ (16 + 8 * c + 0) = 3 then 0 else s_plain σ c + (if σ (16 + 8 * c + 0) = 4 then 2 else if σ (16 + 8 * c + 0) = 2 then 1 else 0)
/-- a half, not below 1 -/
theorem s_half (x : Int32) : (if (1 : Int32) < x / 2 then x / 2 else 1) = if 1 < x then x / 2 else 1 := by
  have hd : (x / 2).toInt = x.toInt.tdiv 2 := by
    rw [Int32.toInt_div]
    have e2 : (2 : Int32).toInt = 2 := by decide
    rw [e2]
    have h1 := x.le_toInt
    have h2 := x.toInt_lt
    refine Int.bmod_eq_of_le ?_ ?_ <;> rcases (show x.toInt < 0 ∨ 0 ≤ x.toInt by omega) with h | h
    · have := Int.neg_tdiv x.toInt 2
      have h3 : x.toInt.tdiv 2 = -((-x.toInt).tdiv 2) := by rw [Int.neg_tdiv, Int.neg_neg]
      rw [h3, Int.tdiv_eq_ediv_of_nonneg (by omega)]
      omega
    · rw [Int.tdiv_eq_ediv_of_nonneg h]; omega
    · have h3 : x.toInt.tdiv 2 = -((-x.toInt).tdiv 2) := by rw [Int.neg_tdiv, Int.neg_neg]
      rw [h3, Int.tdiv_eq_ediv_of_nonneg (by omega)]
      omega
    · rw [Int.tdiv_eq_ediv_of_nonneg h]; omega
  have e1 : (1 : Int32).toInt = 1 := by decide
  by_cases h : 1 < x
  · rw [if_pos h]
    by_cases g : 1 < x / 2
    · rw [if_pos g]
    · rw [if_neg g]
      apply Int32.toInt_inj.mp
      rw [Int32.lt_iff_toInt_lt] at h g
      rw [hd, e1] at *
      rw [Int.tdiv_eq_ediv_of_nonneg (by omega)] at *
      omega
  · rw [if_neg h, if_neg]
    intro g
    rw [Int32.lt_iff_toInt_lt] at h g
    rw [hd, e1] at *
    rcases (show x.toInt < 0 ∨ 0 ≤ x.toInt by omega) with q | q
    · have h3 : x.toInt.tdiv 2 = -((-x.toInt).tdiv 2) := by rw [Int.neg_tdiv, Int.neg_neg]
      rw [h3, Int.tdiv_eq_ediv_of_nonneg (by omega)] at g
      omega
    · rw [Int.tdiv_eq_ediv_of_nonneg q] at g
      omega
/-- a coin comes to a place -/
def s_goTo (σ : Nat → Int32) (c : Nat) (pl : Int32) : Nat → Int32 := upd (upd (upd (upd σ (16 + 8 * c + 5) 0) (16 + 8 * c + 6) 0) (16 + 8 * c + 7) (-1)) (16 + 8 * c + 4) pl
def s_near (σ : Nat → Int32) (c : Nat) : Int32 := i_min (σ (16 + 8 * c + 5) + s_goes σ c) 9
/-- a coin's step in the pocket -/
def s_inP (σ : Nat → Int32) (c : Nat) : Nat → Int32 :=
  if s_near σ c < 3 then upd σ (16 + 8 * c + 5) (s_near σ c)
  else if s_thick σ c ≤ σ 1 then upd (upd (upd (upd σ (16 + 8 * c + 5) (s_near σ c)) (16 + 8 * c + 4) 1) (16 + 8 * c + 6) 0) 1 (i_min (σ 1 + s_wears σ c) 99)
  else if σ (16 + 8 * c + 0) = 4 ∧ σ 0 - σ 0 / 4 * 4 = 0 then upd (upd σ (16 + 8 * c + 5) (s_near σ c)) 1 (i_min (σ 1 + 1) 99)
  else upd σ (16 + 8 * c + 5) (s_near σ c)
/-- another coin lies in the lining in coin c's cell -/
def s_comp (σ : Nat → Int32) (c : Nat) : Nat → Bool
  | 0 => false
  | o + 1 => s_comp σ c o || (decide (o ≠ c) && decide (σ (16 + 8 * o + 4) = 1) && decide (σ (16 + 8 * o + 6) = σ (16 + 8 * c + 6)))
/-- a coin's step in the lining, st being the step told -/
def s_inL (σ : Nat → Int32) (N c : Nat) (st : Int32) : Nat → Int32 :=
  if σ (16 + 8 * c + 6) = σ 3 ∧ s_thick σ c ≤ σ 2 ∧ s_comp σ c N = true then upd (upd σ (16 + 8 * c + 4) 2) (16 + 8 * c + 7) st
  else upd σ (16 + 8 * c + 6) (i_min (σ (16 + 8 * c + 6) + s_goes σ c) 7)
def s_pk (σ : Nat → Int32) : Nat → Nat → Int32
  | 0 => σ
  | c + 1 => if s_pk σ c (16 + 8 * c + 4) = 0 then s_inP (s_pk σ c) c else s_pk σ c
def s_ln (σ : Nat → Int32) (N : Nat) (set : Int32) (st : Int32) : Nat → Nat → Int32
  | 0 => σ
  | c + 1 => if s_has set c = true then s_inL (s_ln σ N set st c) N c st else s_ln σ N set st c
/-- a STEP -/
def s_step (σ : Nat → Int32) (N : Nat) : Nat → Int32 := upd (s_ln (s_pk σ N) N (s_lie σ 1 N) (σ 0) N) 0 (σ 0 + 1)
def s_steps (σ : Nat → Int32) (N : Nat) : Nat → Nat → Int32
  | 0 => σ
  | n + 1 => s_step (s_steps σ N n) N
def s_clk1 (σ : Nat → Int32) (c : Nat) : Nat → Int32
  | 0 => 0
  | o + 1 => s_clk1 σ c o + (if σ (16 + 8 * c + 4) = 1 ∧ σ (16 + 8 * o + 4) = 1 ∧ σ (16 + 8 * c + 6) = σ (16 + 8 * o + 6) then 1 else 0)
/-- a new coin -/
def s_come (σ : Nat → Int32) (N : Nat) (k sz wt pc pl : Int32) : Nat → Int32 := s_goTo (upd (upd (upd (upd (upd σ (16 + 8 * N + 0) k) (16 + 8 * N + 1) sz) (16 + 8 * N + 2) wt) (16 + 8 * N + 3) pc) 4 (nI N + 1)) N pl
def s_clk (σ : Nat → Int32) : Nat → Int32
  | 0 => 0
  | c + 1 => s_clk σ c + s_clk1 σ c c
/-! the store, row by row -/
theorem z_upr (D : zD) (r x : Nat) (v : Int32) : (z_up D r x v).1 r = upd (D.1 r) x v := by
  funext i
  by_cases h : i = x
  · simp [z_up, upd, h]
  · simp [z_up, upd, h]
theorem z_upo (D : zD) {r q : Nat} (x : Nat) (v : Int32) (h : q ≠ r) : (z_up D r x v).1 q = D.1 q := by
  funext i
  simp [z_up, h]
theorem z_rowr (D : zD) (r : Nat) (σ : Nat → Int32) : (z_row D r σ).1 r = σ := by simp [z_row]
theorem z_rowo (D : zD) {r q : Nat} (σ : Nat → Int32) (h : q ≠ r) : (z_row D r σ).1 q = D.1 q := by simp [z_row, h]
theorem z_row2 (D : zD) (r : Nat) (σ : Nat → Int32) : (z_row D r σ).2 = D.2 := rfl
theorem z_row_eq (D : zD) (r : Nat) : z_row D r (D.1 r) = D := by
  refine Prod.ext (funext fun q => ?_) rfl
  by_cases h : q = r
  · simp [z_row, h]
  · simp [z_row, h]
theorem z_up_row (D : zD) (r x : Nat) (v : Int32) : z_up D r x v = z_row D r (upd (D.1 r) x v) := by
  refine Prod.ext (funext fun q => funext fun i => ?_) rfl
  by_cases h : q = r
  · subst h
    by_cases g : i = x
    · simp [z_up, z_row, upd, g]
    · simp [z_up, z_row, upd, g]
  · simp [z_up, z_row, h]
theorem z_row_row (D : zD) (r : Nat) (σ τ : Nat → Int32) : z_row (z_row D r σ) r τ = z_row D r τ := by
  refine Prod.ext (funext fun q => ?_) rfl
  by_cases h : q = r
  · simp [z_row, h]
  · simp [z_row, h]
theorem z_row_up (D : zD) (r x : Nat) (σ : Nat → Int32) (v : Int32) : z_up (z_row D r σ) r x v = z_row D r (upd σ x v) := by
  rw [z_up_row, z_row_row, z_rowr]
theorem u_eq (σ : Nat → Int32) (x : Nat) (v : Int32) : upd σ x v x = v := by simp [upd]
theorem u_ne (σ : Nat → Int32) {x y : Nat} (v : Int32) (h : y ≠ x) : upd σ x v y = σ y := by simp [upd, h]
theorem u_cm (σ : Nat → Int32) {x y : Nat} (v w : Int32) (h : y ≠ x) : upd (upd σ x v) y w = upd (upd σ y w) x v := by
  funext i
  unfold upd
  by_cases a : i = x <;> by_cases b : i = y <;> simp [a, b]
  · omega
  · intro q; omega
  · intro q; omega
theorem s_thick_u (σ : Nat → Int32) {c x : Nat} (v : Int32) (h0 : x ≠ 16 + 8 * c + 0) (h1 : x ≠ 16 + 8 * c + 1) : s_thick (upd σ x v) c = s_thick σ c := by
  simp only [s_thick, u_ne σ v (Ne.symm h0), u_ne σ v (Ne.symm h1)]
theorem s_goes_u (σ : Nat → Int32) {c x : Nat} (v : Int32) (h0 : x ≠ 16 + 8 * c + 0) : s_goes (upd σ x v) c = s_goes σ c := by
  simp only [s_goes, u_ne σ v (Ne.symm h0)]
theorem s_wears_u (σ : Nat → Int32) {c x : Nat} (v : Int32) (h0 : x ≠ 16 + 8 * c + 0) (h1 : x ≠ 16 + 8 * c + 1) (h2 : x ≠ 1) : s_wears (upd σ x v) c = s_wears σ c := by
  simp only [s_wears, s_plain, s_thick_u σ v h0 h1, u_ne σ v (Ne.symm h0), u_ne σ v (Ne.symm h2)]

/-- the reference's finding; its row set aside -/
def z_fM (D : zD) (k : Nat) : zD := z_row D 4 (upd (upd (D.1 4) (1 + k) (D.1 4 (1 + k) + 1)) 0 (D.1 4 0 + 1))
def z_as (D : zD) : zD := z_row D 2 (fun k => if k < 96 then D.1 1 k else D.1 2 k)
theorem z_as1 (D : zD) : (z_as D).1 1 = D.1 1 := z_rowo D _ (by decide)
theorem z_as2 (D : zD) : (z_as D).1 2 = fun k => if k < 96 then D.1 1 k else D.1 2 k := z_rowr D _ _
