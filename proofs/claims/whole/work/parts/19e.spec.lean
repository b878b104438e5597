
/-! QUESTIONS (the reference's way) -/
theorem z_bT : z_b true = 1 := rfl
theorem z_bF : z_b false = 0 := rfl
def v_till (σ : Nat → Int32) (N c : Nat) (falls : Bool) : Nat := s_till (s_isP c falls) σ N 101 0
def o_till (σ : Nat → Int32) (N : Nat) (c : Int32) (falls : Bool) : oQ := if b_coin c N = true then (if 9899 < σ 0 then .inl 4 else if 100 < v_till σ N (i_n c) falls then .inl 3 else .inr (nI (v_till σ N (i_n c) falls))) else .inl 0
/-- first: the least of the coins in the pocket by their time out of it: (best, least) -/
def s_first (σ : Nat → Int32) (N : Nat) : Nat → Int32 × Nat
  | 0 => (-1, 101)
  | c + 1 => let n := if σ (16 + 8 * c + 4) = 0 then v_till σ N c false else 101
    (if n < (s_first σ N c).2 then nI c else (s_first σ N c).1, if n < (s_first σ N c).2 then n else (s_first σ N c).2)
def o_first (σ : Nat → Int32) (N : Nat) : oQ := if 9899 < σ 0 then .inl 4 else if (s_first σ N N).1 < 0 then .inl 3 else .inr (s_first σ N N).1
def o_cell (σ : Nat → Int32) (N : Nat) (c n : Int32) : oQ := if (b_coin c N && b_in n 0 100) = true then (if 9999 < σ 0 + n then .inl 4 else if s_steps σ N (i_n n) (16 + 8 * i_n c + 4) = 1 then (if s_steps σ N (i_n n) (16 + 8 * i_n c + 6) < 0 then .inl 3 else .inr (s_steps σ N (i_n n) (16 + 8 * i_n c + 6))) else .inl 3) else .inl 0
/-- with HOLE v -/
def s_hole (σ : Nat → Int32) (v : Int32) : Nat → Int32 := upd σ 1 v
/-- the greatest v below k for which it holds, or none -/
def s_down (P : Nat → Bool) : Nat → Option Nat
  | 0 => none
  | k + 1 => if P k = true then some k else s_down P k
def s_bearsP (σ : Nat → Int32) (N c n v : Nat) : Bool := decide (s_steps (s_hole σ (nI v)) N n (16 + 8 * c + 4) = 0)
def q_opt : Option Nat → oQ
  | none => .inl 3
  | some k => .inr (nI k)
def o_bears (σ : Nat → Int32) (N : Nat) (c n : Int32) : oQ := if (b_coin c N && b_in n 1 100) = true then (if ¬ σ (16 + 8 * i_n c + 4) = 0 ∨ 9999 < σ 0 + n then .inl 4 else q_opt (s_down (s_bearsP σ N (i_n c) (i_n n)) 100)) else .inl 0
/-- pence lost from τ on behind n steps, those of the set ground apart -/
def v_lost (τ : Nat → Int32) (N n : Nat) (ground : Int32) : Int32 := s_sum (s_steps τ N n) 3 (s_lie (s_steps τ N n) 2 N &&& (ground ^^^ (-1))) N
def s_latestP (σ : Nat → Int32) (N n : Nat) (p : Int32) (k : Nat) : Bool := decide (v_lost (s_hole (s_steps σ N k) 0) N (n - k) (s_lie σ 2 N) ≤ p)
def o_latest (σ : Nat → Int32) (N : Nat) (n p : Int32) : oQ := if (b_in p 0 9999 && b_in n 1 100) = true then (if 9999 < σ 0 + n then .inl 4 else q_opt (s_down (s_latestP σ N (i_n n) p) (i_n n + 1))) else .inl 0
/-- what a question of steps is refused -/
def s_ref (σ : Nat → Int32) (good : Bool) (n most : Int32) : Option Nat := if (good && b_in n 1 most) = true then (if 9999 < σ 0 + n then some 4 else none) else some 0
theorem s_hole_lo (σ : Nat → Int32) (v : Int32) {i : Nat} (h : i ≠ 1) : s_hole σ v i = σ i := u_ne _ _ h
