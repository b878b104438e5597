
/-! SPOTS, SHEETS, IMAGES, COUNTS, THE TAPE -/
/-- an act over the whole store -/
abbrev oD : Type := Nat ⊕ (Int32 × zD)
def a_ans : oD → Int32
  | .inl k => nF k
  | .inr q => q.1
def a_M (D : zD) : oD → zD
  | .inl k => z_fM D k
  | .inr q => q.2
def a_X (D : zD) : oD → zD
  | .inl k => z_fX D k
  | .inr q => q.2
def z_aM (D : zD) (a : oD) : Int32 → zD → Prop := fun r E => r = a_ans a ∧ z_sm (a_M D a) E
def z_aX (D : zD) (a : oD) : Int32 → zD → Prop := fun r E => r = a_ans a ∧ z_sm (a_X D a) E
def o_hold (σ : Nat → Int32) (N : Nat) (s c : Int32) : oR := if (b_in s 0 9 && (decide (c = -1) || b_coin c N)) = true then .inr (1, upd σ (6 + i_n s) c) else .inl 0
def o_as (σ : Nat → Int32) (s k : Int32) : oQ := if (b_in s 0 9 && b_in k 0 6) = true then (if σ (6 + i_n s) < 0 then .inl 5 else if s_under (σ (16 + 8 * i_n (σ (6 + i_n s)) + 0)) k = true then .inr (σ (6 + i_n s)) else .inl 2) else .inl 0
def b_bits (b : Int32) : Bool := decide (b = 0) || decide (b = 8) || decide (b = 16) || decide (b = 32)
def s_wiped (ν : Nat → Int32) (s n k : Nat) : Int32 := if 40 * s ≤ k ∧ k < 40 * s + n then 0 else ν k
def z_sheet (D : zD) (s : Nat) (bits l : Int32) : zD := z_row (z_up (z_up D 12 s bits) 13 s l) 14 (s_wiped (D.1 14) s 40)
def o_sheet (D : zD) (s b n : Int32) : oD := if (b_in s 0 3 && b_bits b) = true then (if n < 0 then .inl 6 else if 40 < n then .inl 0 else .inr (if b = 0 then 0 else n, z_sheet D (i_n s) b (if b = 0 then 0 else n))) else .inl 0
def i_cut (v b : Int32) : Int32 := if b = 8 then v.toInt8.toInt32 else if b = 16 then v.toInt16.toInt32 else v
def o_write (D : zD) (s i v : Int32) : oD := if b_in s 0 3 = true then (if D.1 12 (i_n s) = 0 then .inl 5 else if b_in i 0 (D.1 13 (i_n s) - 1) = true then .inr (1, z_up D 14 (40 * i_n s + i_n i) (i_cut v (D.1 12 (i_n s)))) else .inl 0) else .inl 0
def b_cpy (a b n sa sb : Int32) : Bool := decide (0 ≤ a) && decide (0 ≤ b) && decide (0 ≤ n) && decide (a.toInt + n.toInt ≤ sa.toInt) && decide (b.toInt + n.toInt ≤ sb.toInt)
def s_copied (ν : Nat → Int32) (x y n k : Nat) : Int32 := if y ≤ k ∧ k < y + n then ν (x + (k - y)) else ν k
def o_copy (D : zD) (s a t b n : Int32) : oD := if (b_in s 0 3 && b_in t 0 3) = true then (if D.1 12 (i_n s) = 0 ∨ D.1 12 (i_n t) = 0 then .inl 5 else if D.1 12 (i_n s) = D.1 12 (i_n t) then (if b_cpy a b n (D.1 13 (i_n s)) (D.1 13 (i_n t)) = true then .inr (n, z_row D 14 (s_copied (D.1 14) (40 * i_n s + i_n a) (40 * i_n t + i_n b) (i_n n))) else .inl 0) else .inl 2) else .inl 0
/-- the first from n on for which it is not so, among f -/
def s_upto (P : Nat → Bool) : Nat → Nat → Nat
  | 0, n => n
  | f + 1, n => if P n = true then s_upto P f (n + 1) else n
def s_ldP (D : zD) (N s k : Nat) : Bool := decide (nI k < D.1 13 s) && decide (k < N) && b_in (D.1 14 (40 * s + k)) 1 40
def s_ldr (σ ν : Nat → Int32) (s : Nat) : Nat → (Nat → Int32)
  | 0 => σ
  | k + 1 => upd (s_ldr σ ν s k) (16 + 8 * k + 1) (ν (40 * s + k))
def o_load (D : zD) (N : Nat) (s : Int32) : oD := if b_in s 0 3 = true then (if D.1 12 (i_n s) = 0 then .inl 5 else .inr (nI (s_upto (s_ldP D N (i_n s)) 11 0), z_row D 1 (s_ldr (D.1 1) (D.1 14) (i_n s) (s_upto (s_ldP D N (i_n s)) 11 0)))) else .inl 0
theorem s_ldr_lo (σ ν : Nat → Int32) (s : Nat) {i : Nat} (h : i < 16) : ∀ k, s_ldr σ ν s k i = σ i
  | 0 => rfl
  | k + 1 => by rw [s_ldr, u_ne _ _ (by omega)]; exact s_ldr_lo σ ν s h k
def s_jgP (D : zD) (N s c k : Nat) : Bool := decide (nI k < D.1 13 s) && decide (s_steps (D.1 1) N (k + 1) (16 + 8 * c + 4) = D.1 14 (40 * s + k))
def o_judge (D : zD) (N : Nat) (s c : Int32) : oQ := if b_in s 0 3 = true then (if D.1 12 (i_n s) = 0 then .inl 5 else if b_coin c N = true then (if 9999 < D.1 1 0 + D.1 13 (i_n s) then .inl 4 else .inr (if nI (s_upto (s_jgP D N (i_n s) (i_n c)) 41 0) = D.1 13 (i_n s) then 0 else 1 + nI (s_upto (s_jgP D N (i_n s) (i_n c)) 41 0))) else .inl 0) else .inl 0
/-- the first 96 places of one row put over another -/
def s_96 (σ τ : Nat → Int32) (k : Nat) : Int32 := if k < 96 then σ k else τ k
def z_image (D : zD) : zD := z_up (z_row D 3 (s_96 (D.1 1) (D.1 3))) 0 3 1
def o_undo (D : zD) : oD := if D.1 0 3 = 0 then .inl 3 else .inr (D.1 3 0, z_row D 1 (s_96 (D.1 3) (D.1 1)))
def s_spots (σ : Nat → Int32) : Nat → Int32
  | 0 => 0
  | k + 1 => s_spots σ k + (if σ (6 + k) < 0 then 0 else 1)
def o_count (D : zD) (N : Nat) (w : Int32) : oQ := if w = 0 then .inr (D.1 1 0) else if w = 1 then .inr (D.1 1 4) else if w = 2 then .inr (D.1 1 1) else if w = 3 then .inr (s_sum (D.1 1) 3 (-1) N) else if w = 4 then .inr (s_clk (D.1 1) N) else if w = 5 then .inr (D.1 0 12) else if w = 6 then .inr (D.1 1 5) else if w = 7 then .inr (s_spots (D.1 1) 10) else .inl 0
def o_status (φ : Nat → Int32) (w : Int32) : oQ := if b_in w (-1) 6 = true then .inr (φ (i_n (w + 1))) else .inl 0
/-- bytes fed -/
def s_byte (b : Int32) (n r : Nat) : Int32 := (b >>> ((8 * nI (n - 1 - r)) &&& 31)) &&& 255
def s_fed (τ : Nat → Int32) (t : Nat) (b : Int32) (n : Nat) : Nat → (Nat → Int32)
  | 0 => τ
  | r + 1 => upd (s_fed τ t b n r) (t + r) (s_byte b n r)
def o_feed (D : zD) (t : Nat) (b n : Int32) : oD := if b_in n 1 4 = true then (if 120 < nI t + n then .inl 1 else .inr (nI (t + i_n n), z_up (z_row D 8 (s_fed (D.1 8) t b (i_n n) (i_n n))) 0 12 (nI (t + i_n n)))) else .inl 0
theorem i_long (x y : Int32) : (x.toInt64 + y.toInt64).toInt = x.toInt + y.toInt := by
  rw [Int64.toInt_add, Int32.toInt_toInt64, Int32.toInt_toInt64]
  have h1 := x.le_toInt
  have h2 := x.toInt_lt
  have h3 := y.le_toInt
  have h4 := y.toInt_lt
  refine Int.bmod_eq_of_le ?_ ?_ <;> omega
theorem i_lsum (x y z : Int32) : (0 < lg_cmp (x.toInt64 + y.toInt64) z.toInt64) ↔ z.toInt < x.toInt + y.toInt := by
  have e := i_long x y
  have ez := Int32.toInt_toInt64 z
  unfold lg_cmp
  by_cases h : x.toInt64 + y.toInt64 > z.toInt64
  · rw [if_pos h]
    rw [gt_iff_lt, Int64.lt_iff_toInt_lt, e, ez] at h
    exact ⟨fun _ => h, fun _ => by decide⟩
  · rw [if_neg h]
    rw [gt_iff_lt, Int64.lt_iff_toInt_lt, e, ez] at h
    by_cases g : x.toInt64 + y.toInt64 = z.toInt64
    · rw [if_pos g]
      exact ⟨fun q => absurd q (by decide), fun q => absurd q h⟩
    · rw [if_neg g]
      exact ⟨fun q => absurd q (by decide), fun q => absurd q h⟩
theorem i_lsum' (x y z : Int32) : (lg_cmp (x.toInt64 + y.toInt64) z.toInt64 ≤ 0) ↔ x.toInt + y.toInt ≤ z.toInt := by
  rw [← Int32.not_lt, i_lsum]
  omega
theorem nI_nonneg {x : Int32} (h : 0 ≤ x) : ∃ j, j < 2 ^ 31 ∧ x = nI j := by
  obtain ⟨j, hj, rfl⟩ := nI_of (x := x) (Int32.not_lt.mpr h)
  exact ⟨j, hj, rfl⟩
