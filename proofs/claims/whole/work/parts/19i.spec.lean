
/-! DRAWS, DAYS -/
def s_draw (z : Int32) : Int32 := z * 1103515245 + 12345
def i_sh8 (x : Int32) : Int32 := (x.toUInt32 >>> ((8 : Int32).toUInt32 &&& Int32.toUInt32 31)).toInt32
theorem i_sh8_lt (x : Int32) : i_u (i_sh8 x) < 2 ^ 24 := by
  unfold i_u i_sh8
  rw [show (8 : Int32).toUInt32 &&& Int32.toUInt32 31 = 8 by decide]
  have e : (x.toUInt32 >>> 8).toInt32.toUInt32 = x.toUInt32 >>> 8 := by simp
  rw [e, UInt32.toNat_shiftRight, Nat.shiftRight_eq_div_pow]
  have := x.toUInt32.toNat_lt
  rw [show (8 : UInt32).toNat % 32 = 8 by decide]
  omega
theorem i_sh8_n (x : Int32) : i_sh8 x = nI (i_u (i_sh8 x)) := (i_u_n _).symm
def v_draw (z : Int32) (b : Nat) : Nat := i_u (i_sh8 (s_draw z)) % b
theorem v_draw_eq (z : Int32) {b : Nat} (h0 : 0 < b) (hb : b < 2 ^ 31) : i_sh8 (s_draw z) - i_sh8 (s_draw z) / nI b * nI b = nI (v_draw z b) := by
  have := i_sh8_lt (s_draw z)
  rw [i_sh8_n (s_draw z), pk_rem (by omega) h0 hb]
  rfl
theorem v_draw_lt (z : Int32) {b : Nat} (h0 : 0 < b) : v_draw z b < b := Nat.mod_lt _ h0
/-- a day's draws: behind the first two (the coin, its place) -/
def s_d1 (σ : Nat → Int32) : Nat → Int32 := upd σ 5 (s_draw (σ 5))
def s_dp (σ : Nat → Int32) : Int32 := if v_draw (s_d1 σ 5) 2 = 0 then 0 else 3
def s_d2 (σ : Nat → Int32) (N : Nat) : Nat → Int32 := if s_d1 (s_d1 σ) (16 + 8 * v_draw (σ 5) N + 4) = 0 ∨ s_d1 (s_d1 σ) (16 + 8 * v_draw (σ 5) N + 4) = 3 then s_goTo (s_d1 (s_d1 σ)) (v_draw (σ 5) N) (s_dp σ) else s_d1 (s_d1 σ)
def s_day (σ : Nat → Int32) (N : Nat) : Nat → Int32 := s_steps (s_d1 (s_d2 σ N)) N (v_draw (s_d2 σ N 5) 8)
def s_days (σ : Nat → Int32) (N : Nat) : Nat → (Nat → Int32)
  | 0 => σ
  | k + 1 => s_day (s_days σ N k) N
def o_days (σ : Nat → Int32) (N : Nat) (n : Int32) : oR := if b_in n 1 12 = true then (if 9999 < σ 0 + 7 * n ∨ σ 4 = 0 then .inl 4 else .inr (s_sum (s_days σ N (i_n n)) 3 (s_lie (s_days σ N (i_n n)) 2 N) N, s_days σ N (i_n n))) else .inl 0
theorem s_d1_N {σ : Nat → Int32} {i : Nat} (h : i ≠ 5) : s_d1 σ i = σ i := u_ne _ _ h
theorem s_d2_lo {σ : Nat → Int32} {N i : Nat} (h : i < 16) (h5 : i ≠ 5) : s_d2 σ N i = σ i := by
  unfold s_d2
  split
  · rw [s_goTo_lo _ _ h, s_d1_N h5, s_d1_N h5]
  · rw [s_d1_N h5, s_d1_N h5]
theorem s_days_4 (σ : Nat → Int32) (N : Nat) : ∀ k, s_days σ N k 4 = σ 4
  | 0 => rfl
  | k + 1 => by rw [s_days, s_day, s_steps_lo _ _ (by decide) (by decide) (by decide), s_d1_N (by decide), s_d2_lo (by decide) (by decide)]; exact s_days_4 σ N k
theorem p_cnt_n (m : Nat) : ∀ n, p_cnt m n ≤ n
  | 0 => Nat.le_refl _
  | n + 1 => by
    have := p_cnt_n m n
    rw [p_cnt]
    split <;> omega
theorem p_pop_10 (m : Nat) : p_pop m ≤ 10 := p_cnt_n m 10
theorem s_fell_10 (σ : Nat → Int32) {N : Nat} (h10 : N ≤ 10) (n : Nat) : ∃ f, f ≤ 10 ∧ s_fell σ (s_steps σ N n) N = nI f := ⟨_, Nat.le_trans (Nat.sub_le _ _) (p_pop_10 _), s_fell_n σ h10 n⟩
/-! the sums as a row of bits -/
theorem u_bit (τ : Nat → Int32) (f : Nat → Bool) {j : Nat} (b : Bool) (h : j < 2401) : upd (fun s => if s < 2401 then z_b (f s) else τ s) j (z_b b) = fun s => if s < 2401 then z_b (if s = j then b else f s) else τ s := by
  funext i
  by_cases e : i = j
  · subst e; simp [upd, h]
  · simp [upd, e]
theorem s_sums_out (σ : Nat → Int32) {c : Nat} (h : ¬ σ (16 + 8 * c + 4) = 0) : s_sums σ (c + 1) = s_sums σ c := by
  funext s
  rw [s_sums]
  simp [h]
theorem s_sums_in (σ : Nat → Int32) {c p : Nat} (h : σ (16 + 8 * c + 4) = 0) (hp : σ (16 + 8 * c + 3) = nI p) (h31 : p < 2 ^ 31) (s : Nat) : s_sums σ (c + 1) s = (s_sums σ c s || (decide (p ≤ s) && s_sums σ c (s - p))) := by
  rw [s_sums, hp, i_n_n h31]
  simp [h]
def s_mix (σ : Nat → Int32) (c k s : Nat) : Bool := if k ≤ s then s_sums σ (c + 1) s else s_sums σ c s
def o_sums (σ : Nat → Int32) (N : Nat) : oQ := .inr (nI (p_tally (s_sums σ N) 2401))
theorem p_tally_le (f : Nat → Bool) : ∀ n, p_tally f n ≤ n
  | 0 => Nat.le_refl _
  | n + 1 => by
    have := p_tally_le f n
    rw [p_tally]
    split <;> omega
