
/-! SETS, HOLES, SUMS -/
def i_u (x : Int32) : Nat := x.toUInt32.toNat
theorem i_u_n (x : Int32) : nI (i_u x) = x := by
  apply Int32.toBitVec_inj.mp
  unfold i_u nI
  simp
theorem i_and_u (k : Nat) (x : Int32) : nI k &&& x = nI (k &&& i_u x) := by
  rw [← nx_and, i_u_n]
theorem i_m1 (x : Int32) : x &&& (-1) = x := by
  apply Int32.toBitVec_inj.mp
  simp
def v_cnt (k : Nat) (mask : Int32) : Int32 := nI (p_pop (k &&& i_u mask))
def s_payw (σ : Nat → Int32) (N : Nat) (p mask : Int32) (few : Bool) : Nat → Int32 × Int32
  | 0 => (-1, 0)
  | k + 1 => if s_inAll (nI k) (s_lie σ 0 N) = true ∧ s_sum σ 3 (nI k) N = p ∧ ((s_payw σ N p mask few k).1 < 0 ∨ (if few = true then v_cnt k mask < (s_payw σ N p mask few k).2 else (s_payw σ N p mask few k).2 < v_cnt k mask)) then (nI k, v_cnt k mask) else s_payw σ N p mask few k
def o_payw (σ : Nat → Int32) (N : Nat) (p mask : Int32) (few : Bool) : oQ := if b_in p 0 9999 = true then (if (s_payw σ N p mask few (2 ^ N)).1 < 0 then .inl 3 else .inr (s_payw σ N p mask few (2 ^ N)).1) else .inl 0
def b_set (set : Int32) (N : Nat) : Bool := b_in set 0 (nI (2 ^ N) - 1)
def s_goneH (σ : Nat → Int32) (N n v : Nat) : Int32 := s_lie σ 0 N &&& (s_lie (s_steps (s_hole σ (nI v)) N n) 0 N ^^^ (-1))
def s_goneP (σ : Nat → Int32) (N n : Nat) (set : Int32) (v : Nat) : Bool := decide (s_goneH σ N n v = set)
/-- from 99 down, r holes tried: how many it holds for, the least -/
def s_hm (P : Nat → Bool) : Nat → Nat × Int32
  | 0 => (0, -1)
  | r + 1 => if P (99 - r) = true then ((s_hm P r).1 + 1, nI (99 - r)) else s_hm P r
theorem s_hm_le (P : Nat → Bool) : ∀ r, (s_hm P r).1 ≤ r
  | 0 => Nat.le_refl _
  | r + 1 => by
    have := s_hm_le P r
    rw [s_hm]
    split
    · show _ + 1 ≤ r + 1; omega
    · omega
def o_fits (σ : Nat → Int32) (N : Nat) (set n : Int32) : oQ := if (b_set set N && b_in n 1 60) = true then (if 9999 < σ 0 + n then .inl 4 else .inr (nI (s_hm (s_goneP σ N (i_n n) set) 100).1)) else .inl 0
def o_size (σ : Nat → Int32) (N : Nat) (set n : Int32) : oQ := if (b_set set N && b_in n 1 60) = true then (if 9999 < σ 0 + n then .inl 4 else if (s_hm (s_goneP σ N (i_n n) set) 100).1 = 0 then .inl 3 else .inr (s_hm (s_goneP σ N (i_n n) set) 100).2) else .inl 0
def s_boy (σ : Nat → Int32) (N n : Nat) (set : Int32) : Nat → Int32
  | 0 => 0
  | c + 1 => if (s_hm (s_goneP σ N n (set ^^^ ((1 : Int32) <<< (nI c &&& 31)))) 100).1 = 0 then s_boy σ N n set c else 2
def o_boy (σ : Nat → Int32) (N : Nat) (set n : Int32) : oQ := if (b_set set N && b_in n 1 60) = true then (if 9999 < σ 0 + n then .inl 4 else if (s_hm (s_goneP σ N (i_n n) set) 100).1 = 0 then .inr (s_boy σ N (i_n n) set N) else .inr 1) else .inl 0
def s_gone (σ : Nat → Int32) (N n : Nat) : Int32 := s_lie σ 0 N &&& (s_lie (s_steps σ N n) 0 N ^^^ (-1))
def s_bgn (σ : Nat → Int32) (N : Nat) (set : Int32) : Nat → Int32
  | 0 => 0
  | c + 1 => s_bgn σ N set c ||| (if s_gone σ N (c + 1) = set then (1 : Int32) <<< (nI (c + 1) &&& 31) else 0)
def o_began (σ : Nat → Int32) (N : Nat) (set : Int32) : oQ := if b_set set N = true then (if 9999 < σ 0 + 30 then .inl 4 else .inr (s_bgn σ N set 30)) else .inl 0
def s_lining (σ : Nat → Int32) (N : Nat) (all w : Int32) : Nat → Int32
  | 0 => 0
  | k + 1 => s_lining σ N all w k + (if s_inAll (nI k) all = true ∧ s_sum σ 2 (nI k) N = w then 1 else 0)
def o_lining (σ : Nat → Int32) (N : Nat) (w : Int32) : oQ := if b_in w 0 500 = true then .inr (s_lining σ N (s_lie σ 0 N ||| s_lie σ 1 N ||| s_lie σ 3 N) w (2 ^ N)) else .inl 0
def s_fallen (σ : Nat → Int32) (c : Nat) : Bool := decide (σ (16 + 8 * c + 4) = 2) && decide (0 ≤ σ (16 + 8 * c + 7))
def s_bc (σ : Nat → Int32) (c : Nat) (m : Int32) : Int32 := (σ 0 - 1 - σ (16 + 8 * c + 7)) / m
def o_back (σ : Nat → Int32) (N : Nat) (c m : Int32) : oQ := if (b_coin c N && b_in m 1 100) = true then (if s_fallen σ (i_n c) = true then .inr (s_bc σ (i_n c) m) else .inl 4) else .inl 0
def s_rset (σ : Nat → Int32) (m cell : Int32) : Nat → Int32
  | 0 => 0
  | c + 1 => s_rset σ m cell c ||| (if s_fallen σ c = true ∧ s_bc σ c m = cell then (1 : Int32) <<< (nI c &&& 31) else 0)
def s_rich (σ : Nat → Int32) (N : Nat) (m : Int32) : Nat → Int32 × Int32
  | 0 => (-1, 0)
  | k + 1 => if s_rset σ m (nI k) N ≠ 0 ∧ ((s_rich σ N m k).1 < 0 ∨ (s_rich σ N m k).2 < s_sum σ 3 (s_rset σ m (nI k) N) N) then (nI k, s_sum σ 3 (s_rset σ m (nI k) N) N) else s_rich σ N m k
def o_richest (σ : Nat → Int32) (N : Nat) (m : Int32) : oQ := if b_in m 1 100 = true then (if (s_rich σ N m 30).1 < 0 then .inl 3 else .inr (s_rich σ N m 30).1) else .inl 0
def s_paid (σ : Nat → Int32) (set : Int32) : Nat → (Nat → Int32)
  | 0 => σ
  | c + 1 => if s_has set c = true then s_goTo (s_paid σ set c) c 4 else s_paid σ set c
def o_paid (σ : Nat → Int32) (N : Nat) (set : Int32) : oR := if b_set set N = true then (if set &&& (s_lie σ 0 N ^^^ (-1)) = 0 then .inr (s_sum (s_paid σ set N) 3 set N, s_paid σ set N) else .inl 4) else .inl 0
theorem s_paid_lo (σ : Nat → Int32) (set : Int32) {i : Nat} (h : i < 16) : ∀ c, s_paid σ set c i = σ i
  | 0 => rfl
  | c + 1 => by
    rw [s_paid]
    split
    · rw [s_goTo_lo _ _ h]; exact s_paid_lo σ set h c
    · exact s_paid_lo σ set h c
/-- the sums that some coins in the pocket make -/
def s_sums (σ : Nat → Int32) : Nat → Nat → Bool
  | 0, s => decide (s = 0)
  | c + 1, s => s_sums σ c s || (decide (σ (16 + 8 * c + 4) = 0) && decide (i_n (σ (16 + 8 * c + 3)) ≤ s) && s_sums σ c (s - i_n (σ (16 + 8 * c + 3))))
def p_tally (f : Nat → Bool) : Nat → Nat
  | 0 => 0
  | n + 1 => p_tally f n + (if f n = true then 1 else 0)
