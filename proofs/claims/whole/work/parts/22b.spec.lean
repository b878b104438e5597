
theorem b_lt_in (c : Int32) {n : Nat} (h : n ≤ 1024) : b_in c 0 (nI n - 1) = (decide (0 ≤ c) && decide (c < nI n)) := by
  unfold b_in
  congr 1
  have e : (nI n - 1).toInt = (n : Int) - 1 := pk_sub_toInt (a := n) (b := 1) (by omega) (by omega)
  have e2 := nI_toInt (n := n) (by omega)
  refine decide_eq_decide.mpr ?_
  rw [Int32.le_iff_toInt_le, Int32.lt_iff_toInt_lt, e, e2]
  omega
theorem b_set_lt (x : Int32) {N : Nat} (h : N ≤ 10) : b_set x N = (decide (0 ≤ x) && decide (x < nI (2 ^ N))) := b_lt_in x (i_pow h)
/-- two coins clink -/
def s_ck (σ : Nat → Int32) (c d : Nat) : Bool := decide (σ (16 + 8 * c + 4) = 1) && decide (σ (16 + 8 * d + 4) = 1) && decide (σ (16 + 8 * c + 6) = σ (16 + 8 * d + 6))
def s_ck1 (σ : Nat → Int32) (c : Nat) : Nat → Int32
  | 0 => 0
  | n + 1 => s_ck1 σ c n + (if s_ck σ c (c + 1 + n) = true then 1 else 0)
/-- the class counts pairs, each coin with those behind it -/
def s_ckX (σ : Nat → Int32) (N : Nat) : Nat → Int32
  | 0 => 0
  | c + 1 => s_ckX σ N c + s_ck1 σ c (N - (c + 1))
/-- a coin stirs -/
def s_nr (σ : Nat → Int32) (c : Nat) : Bool := decide (¬ s_near σ c = σ (16 + 8 * c + 5))
def s_stir (σ : Nat → Int32) (c : Nat) : Bool := if s_near σ c < 3 then s_nr σ c else if s_thick σ c ≤ σ 1 then true else if σ (16 + 8 * c + 0) = 4 then true else s_nr σ c
def s_stirs (σ : Nat → Int32) : Nat → Bool
  | 0 => false
  | c + 1 => s_stirs σ c || (decide (s_pk σ c (16 + 8 * c + 4) = 0) && s_stir (s_pk σ c) c)
def s_goP (σ : Nat → Int32) (N : Nat) : Nat → Int32 := upd (s_pk σ N) 0 (σ 0 + 1)
def s_bec (τ σ : Nat → Int32) (N i : Nat) : Int32 := if i < 16 + 8 * N then τ i else σ i
/-- the lining's part doesn't ask the step -/
theorem s_comp_0 (σ : Nat → Int32) (c : Nat) (x : Int32) : ∀ n, s_comp (upd σ 0 x) c n = s_comp σ c n
  | 0 => rfl
  | n + 1 => by
    rw [s_comp, s_comp, s_comp_0 σ c x n, u_ne _ _ (by omega), u_ne _ _ (by omega), u_ne _ _ (by omega)]
theorem s_inL_0 (σ : Nat → Int32) (N c : Nat) (st x : Int32) : s_inL (upd σ 0 x) N c st = upd (s_inL σ N c st) 0 x := by
  unfold s_inL
  rw [s_comp_0, s_thick_u _ _ (by omega) (by omega), s_goes_u _ _ (by omega), u_ne _ _ (by omega), u_ne _ _ (by decide), u_ne _ _ (by decide)]
  split
  · rw [u_cm _ x 2 (by omega), u_cm _ x st (by omega)]
  · rw [u_cm _ x _ (by omega)]
theorem s_ln_0 (σ : Nat → Int32) (N : Nat) (set st x : Int32) : ∀ c, s_ln (upd σ 0 x) N set st c = upd (s_ln σ N set st c) 0 x
  | 0 => rfl
  | c + 1 => by
    rw [s_ln, s_ln, s_ln_0 σ N set st x c]
    split
    · exact s_inL_0 _ _ _ _ _
    · rfl
