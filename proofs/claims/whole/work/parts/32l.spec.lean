
/-! SUMS AS BITS of a row of longs -/
def lbit (x : Int64) (i : Nat) : Bool := (lu x).testBit i
theorem lbit_hi (x : Int64) {i : Nat} (h : 64 ≤ i) : lbit x i = false := Nat.testBit_lt_two_pow (Nat.lt_of_lt_of_le (lu_lt x) (Nat.pow_le_pow_right (n := 2) (by decide) h))
theorem lbit_or (x y : Int64) (i : Nat) : lbit (x ||| y) i = (lbit x i || lbit y i) := by
  unfold lbit lu
  rw [Int64.toBitVec_or, BitVec.toNat_or, Nat.testBit_or]
theorem s_l64 : ∀ n, n < 64 → (((nI n).toInt64 &&& 63).toBitVec.smod 64).toNat = n := by decide +kernel
theorem s_u64 : ∀ n, n < 64 → ((nI n).toInt64.toUInt64 &&& Int64.toUInt64 63).toNat % 64 = n := by decide +kernel
theorem lbit_shl (x : Int64) {n i : Nat} (hn : n < 64) (hi : i < 64) : lbit (x <<< ((nI n).toInt64 &&& 63)) i = (decide (n ≤ i) && lbit x (i - n)) := by
  show (x <<< ((nI n).toInt64 &&& 63)).toBitVec.getLsbD i = (decide (n ≤ i) && x.toBitVec.getLsbD (i - n))
  rw [Int64.toBitVec_shiftLeft]
  show (x.toBitVec <<< (((nI n).toInt64 &&& 63).toBitVec.smod 64).toNat).getLsbD i = _
  rw [s_l64 n hn, BitVec.getLsbD_shiftLeft]
  rcases Nat.lt_or_ge i n with h | h
  · simp [h, Nat.not_le.mpr h]
  · simp [hi, h, Nat.not_lt.mpr h]
theorem lbit_ushr (x : Int64) {n : Nat} (hn : n < 64) (i : Nat) : lbit (l_us x (nI n)) i = lbit x (i + n) := by
  unfold lbit
  rw [lu_us x (s_u64 n hn), Nat.testBit_div_two_pow]
/-- a sum's mark -/
def lb (M : Nat → Int64) (s : Nat) : Bool := lbit (M (s / 64)) (s % 64)
/-- a word moved by p -/
def s_mv (M : Nat → Int64) (p w : Nat) : Int64 := if 0 < p % 64 ∧ p / 64 < w then M (w - p / 64) <<< ((nI (p % 64)).toInt64 &&& 63) ||| l_us (M (w - p / 64 - 1)) (64 - nI (p % 64)) else M (w - p / 64) <<< ((nI (p % 64)).toInt64 &&& 63)
def s_mk (M : Nat → Int64) (p k j : Nat) : Int64 := if k ≤ j ∧ j < 38 then M j ||| s_mv M p j else M j
theorem s_mk_38 (M : Nat → Int64) (p : Nat) : s_mk M p 38 = M := by
  funext j
  unfold s_mk
  rw [if_neg (by omega)]
theorem s_mk_lo (M : Nat → Int64) (p : Nat) {k j : Nat} (h : j < k) : s_mk M p k j = M j := by
  unfold s_mk
  rw [if_neg (by omega)]
theorem s_mk_up (M : Nat → Int64) (p : Nat) {k : Nat} (h : k < 38) : vp_updL (s_mk M p (k + 1)) k (M k ||| s_mv M p k) = s_mk M p k := by
  funext j
  unfold vp_updL s_mk
  by_cases e : j = k
  · subst e; rw [if_pos rfl, if_pos ⟨Nat.le_refl _, h⟩]
  · rw [if_neg e]
    by_cases g : k + 1 ≤ j ∧ j < 38
    · rw [if_pos g, if_pos ⟨by omega, g.2⟩]
    · rw [if_neg g, if_neg (fun z => g ⟨by omega, z.2⟩)]
theorem lb_mk (M : Nat → Int64) {p s : Nat} (hs : s < 2432) : lb (s_mk M p (p / 64)) s = (lb M s || (decide (p ≤ s) && lb M (s - p))) := by
  have hw : s / 64 < 38 := by omega
  have hb : s % 64 < 64 := by omega
  have hpb : p % 64 < 64 := by omega
  unfold lb s_mk
  by_cases h : p / 64 ≤ s / 64
  · rw [if_pos ⟨h, hw⟩, lbit_or]
    congr 1
    by_cases g : p % 64 ≤ s % 64
    · rw [decide_eq_true (show p ≤ s by omega), Bool.true_and, show (s - p) / 64 = s / 64 - p / 64 by omega, show (s - p) % 64 = s % 64 - p % 64 by omega]
      unfold s_mv
      by_cases z : 0 < p % 64 ∧ p / 64 < s / 64
      · rw [if_pos z, lbit_or, lbit_shl _ hpb hb, decide_eq_true g, Bool.true_and, show (64 : Int32) - nI (p % 64) = nI (64 - p % 64) from pk_sub (a := 64) (by omega), lbit_ushr _ (by omega), lbit_hi _ (i := s % 64 + (64 - p % 64)) (by omega), Bool.or_false]
      · rw [if_neg z, lbit_shl _ hpb hb, decide_eq_true g, Bool.true_and]
    · unfold s_mv
      by_cases z : p / 64 < s / 64
      · rw [if_pos ⟨by omega, z⟩, lbit_or, lbit_shl _ hpb hb, decide_eq_false g, Bool.false_and, Bool.false_or, show (64 : Int32) - nI (p % 64) = nI (64 - p % 64) from pk_sub (a := 64) (by omega), lbit_ushr _ (by omega), decide_eq_true (show p ≤ s by omega), Bool.true_and, show (s - p) / 64 = s / 64 - p / 64 - 1 by omega, show (s - p) % 64 = s % 64 + (64 - p % 64) by omega]
      · rw [if_neg (fun y => z y.2), lbit_shl _ hpb hb, decide_eq_false g, Bool.false_and, decide_eq_false (show ¬ p ≤ s by omega), Bool.false_and]
  · rw [if_neg (fun z => h z.1), decide_eq_false (show ¬ p ≤ s by omega), Bool.false_and, Bool.or_false]
theorem p_tally_blk (M : Nat → Int64) (k : Nat) : ∀ j, j ≤ 64 → p_tally (lb M) (64 * k + j) = p_tally (lb M) (64 * k) + p_cnt (lu (M k)) j
  | 0, _ => rfl
  | j + 1, h => by
    have ih := p_tally_blk M k j (by omega)
    have e : lb M (64 * k + j) = (lu (M k)).testBit j := by
      unfold lb
      rw [show (64 * k + j) / 64 = k by omega, show (64 * k + j) % 64 = j by omega]
      rfl
    rw [show 64 * k + (j + 1) = (64 * k + j) + 1 by omega, p_tally, ih, p_cnt, e]
    cases (lu (M k)).testBit j
    · rfl
    · show _ + 1 = _ + (_ + 1); omega
theorem p_tally_64 (M : Nat → Int64) (k : Nat) : p_tally (lb M) (64 * (k + 1)) = p_tally (lb M) (64 * k) + p_cnt (lu (M k)) 64 := by
  rw [show 64 * (k + 1) = 64 * k + 64 by omega]
  exact p_tally_blk M k 64 (Nat.le_refl _)
theorem p_tally_c {f g : Nat → Bool} : ∀ n, (∀ s, s < n → f s = g s) → p_tally f n = p_tally g n
  | 0, _ => rfl
  | n + 1, h => by rw [p_tally, p_tally, p_tally_c n (fun s hs => h s (by omega)), h n (by omega)]
theorem p_tally_no {f : Nat → Bool} {a : Nat} (h : ∀ s, a ≤ s → f s = false) : ∀ n, p_tally f (a + n) = p_tally f a
  | 0 => rfl
  | n + 1 => by rw [show a + (n + 1) = (a + n) + 1 by omega, p_tally, h (a + n) (by omega), p_tally_no h n]; rfl
theorem s_sums_le {σ : Nat → Int32} {N : Nat} (hpen : ∀ c, c < N → ∃ p, p ≤ 240 ∧ σ (16 + 8 * c + 3) = nI p) : ∀ c, c ≤ N → ∀ s, s_sums σ c s = true → s ≤ 240 * c
  | 0, _, s, h => by
    rw [s_sums, decide_eq_true_eq] at h
    omega
  | c + 1, hc, s, h => by
    obtain ⟨p, hp, e⟩ := hpen c (by omega)
    rw [s_sums, Bool.or_eq_true, e, i_n_n (by omega)] at h
    rcases h with h | h
    · have := s_sums_le hpen c (by omega) s h; omega
    · rw [Bool.and_eq_true, Bool.and_eq_true, decide_eq_true_eq, decide_eq_true_eq] at h
      have := s_sums_le hpen c (by omega) _ h.2
      omega
theorem s_sums_all {σ : Nat → Int32} {N : Nat} (h10 : N ≤ 10) (hpen : ∀ c, c < N → ∃ p, p ≤ 240 ∧ σ (16 + 8 * c + 3) = nI p) {M : Nat → Int64} (h : ∀ s, s < 2432 → lb M s = s_sums σ N s) : p_tally (lb M) (64 * 38) = p_tally (s_sums σ N) 2401 := by
  rw [show 64 * 38 = 2432 from rfl, p_tally_c 2432 h, show 2432 = 2401 + 31 from rfl]
  refine p_tally_no (fun s hs => ?_) 31
  cases g : s_sums σ N s
  · rfl
  · have := s_sums_le hpen N (Nat.le_refl _) s g; omega
theorem lb_0 {M : Nat → Int64} (h0 : M 0 = 1) (h1 : ∀ j, 0 < j → j < 38 → M j = 0) {s : Nat} (hs : s < 2432) : lb M s = decide (s = 0) := by
  unfold lb
  rcases Nat.eq_zero_or_pos (s / 64) with z | z
  · rw [z, h0]
    unfold lbit
    have e : lu 1 = 2 ^ 0 := by decide
    rw [e, Nat.testBit_two_pow]
    refine decide_eq_decide.mpr ?_
    omega
  · rw [h1 _ z (by omega)]
    unfold lbit
    rw [show lu 0 = 0 from by decide, Nat.zero_testBit, decide_eq_false (by omega)]
