
/-! WHAT IS ASKED OF ROWS THAT AGREE -/
theorem q_if {α : Type} {p : Prop} [Decidable p] {a b c : α} (h : p → a = b) : (if p then a else c) = if p then b else c := by
  by_cases e : p
  · rw [if_pos e, if_pos e, h e]
  · rw [if_neg e, if_neg e]
theorem q_and {a b : Bool} (h : (a && b) = true) : a = true ∧ b = true := by
  rw [Bool.and_eq_true] at h; exact h
theorem i_nn {j : Nat} (h : j < 10) : i_n (nI j) = j := i_n_n (by omega)
theorem o_of_ag {N : Nat} (h10 : N ≤ 10) {σ τ : Nat → Int32} (h : ag N σ τ) (c w : Int32) : o_of σ N c w = o_of τ N c w := by
  unfold o_of
  refine q_if (fun hb => ?_)
  obtain ⟨j, hj, rfl⟩ := b_coin_ex h10 (q_and hb).1
  obtain ⟨k, hk, rfl⟩ := b_in0 10 (by decide) (q_and hb).2
  unfold v_of
  rw [i_nn (by omega), s_thick_ag h hj, s_goes_ag h hj, s_wears_ag h hj]
  by_cases e8 : nI k = 8
  · rw [if_pos e8, if_pos e8]
  · by_cases e9 : nI k = 9
    · rw [if_neg e8, if_neg e8, if_pos e9, if_pos e9]
    · by_cases e10 : nI k = 10
      · rw [if_neg e8, if_neg e8, if_neg e9, if_neg e9, if_pos e10, if_pos e10]
      · rw [if_neg e8, if_neg e8, if_neg e9, if_neg e9, if_neg e10, if_neg e10, i_n_n (by omega)]
        have h8 : k ≠ 8 := fun q => e8 (by rw [q]; rfl)
        have h9 : k ≠ 9 := fun q => e9 (by rw [q]; rfl)
        have h1 : k ≠ 10 := fun q => e10 (by rw [q]; rfl)
        rw [ag_c h hj (show k < 8 by omega)]
theorem o_lie_ag {N : Nat} {σ τ : Nat → Int32} (h : ag N σ τ) (pl : Int32) : o_lie σ N pl = o_lie τ N pl := by
  unfold o_lie
  rw [s_lie_ag h pl N (Nat.le_refl N)]
theorem o_pence_ag {N : Nat} {σ τ : Nat → Int32} (h : ag N σ τ) (pl : Int32) : o_pence σ N pl = o_pence τ N pl := by
  unfold o_pence
  rw [s_lie_ag h pl N (Nat.le_refl N), s_sum_ag h 3 (by decide) _ N (Nat.le_refl N)]
theorem o_now_ag {N : Nat} {σ τ : Nat → Int32} (h : ag N σ τ) (w : Int32) : o_now σ N w = o_now τ N w := by
  unfold o_now
  rw [ag_0 h (show 0 < 16 by decide), ag_0 h (show 1 < 16 by decide), ag_0 h (show 2 < 16 by decide), ag_0 h (show 3 < 16 by decide), s_clk_ag h N (Nat.le_refl N), s_lie_ag h 0 N (Nat.le_refl N), s_lie_ag h 1 N (Nat.le_refl N), s_lie_ag h 3 N (Nat.le_refl N), s_sum_ag h 2 (by decide) _ N (Nat.le_refl N), s_sum_ag h 2 (by decide) _ N (Nat.le_refl N)]
theorem v_ahead_ag1 {N : Nat} {σ τ : Nat → Int32} (h : ag N σ τ) (T : Nat → Int32) (w : Int32) : v_ahead σ T N w = v_ahead τ T N w := by
  unfold v_ahead
  rw [s_lie_ag h 0 N (Nat.le_refl N), s_lie_ag h 2 N (Nat.le_refl N)]
theorem o_ahead_ag {N : Nat} {σ τ : Nat → Int32} (h : ag N σ τ) (n w : Int32) : o_ahead σ N n w = o_ahead τ N n w := by
  unfold o_ahead
  rw [ag_0 h (show 0 < 16 by decide), v_ahead_ag1 h, v_ahead_ag (s_steps_ag h _)]
theorem o_till_ag {N : Nat} (h10 : N ≤ 10) {σ τ : Nat → Int32} (h : ag N σ τ) (c : Int32) (fa : Bool) : o_till σ N c fa = o_till τ N c fa := by
  unfold o_till
  refine q_if (fun hb => ?_)
  obtain ⟨j, hj, rfl⟩ := b_coin_ex h10 hb
  rw [i_nn (by omega), ag_0 h (show 0 < 16 by decide), v_till_ag h hj fa]
theorem s_first_ag {N : Nat} {σ τ : Nat → Int32} (h : ag N σ τ) : ∀ c, c ≤ N → s_first σ N c = s_first τ N c
  | 0, _ => rfl
  | c + 1, hc => by simp only [s_first, s_first_ag h c (by omega), ag_c h (show c < N by omega) (show 4 < 8 by decide), v_till_ag h (show c < N by omega) false]
theorem o_first_ag {N : Nat} {σ τ : Nat → Int32} (h : ag N σ τ) : o_first σ N  = o_first τ N  := by
  unfold o_first
  rw [ag_0 h (show 0 < 16 by decide), s_first_ag h N (Nat.le_refl N)]
theorem o_cell_ag {N : Nat} (h10 : N ≤ 10) {σ τ : Nat → Int32} (h : ag N σ τ) (c n : Int32) : o_cell σ N c n = o_cell τ N c n := by
  unfold o_cell
  refine q_if (fun hb => ?_)
  obtain ⟨j, hj, rfl⟩ := b_coin_ex h10 (q_and hb).1
  rw [i_nn (by omega), ag_0 h (show 0 < 16 by decide), ag_c (s_steps_ag h _) hj (show 4 < 8 by decide), ag_c (s_steps_ag h _) hj (show 6 < 8 by decide)]
theorem s_bearsP_ag {N : Nat} {σ τ : Nat → Int32} (h : ag N σ τ) {c : Nat} (hc : c < N) (n : Nat) : s_bearsP σ N c n = s_bearsP τ N c n := by
  funext v
  unfold s_bearsP s_hole
  rw [ag_c (s_steps_ag (ag_u 1 (nI v) h) n) hc (show 4 < 8 by decide)]
theorem o_bears_ag {N : Nat} (h10 : N ≤ 10) {σ τ : Nat → Int32} (h : ag N σ τ) (c n : Int32) : o_bears σ N c n = o_bears τ N c n := by
  unfold o_bears
  refine q_if (fun hb => ?_)
  obtain ⟨j, hj, rfl⟩ := b_coin_ex h10 (q_and hb).1
  rw [i_nn (by omega), ag_0 h (show 0 < 16 by decide), ag_c h hj (show 4 < 8 by decide), s_bearsP_ag h hj]
theorem s_latestP_ag {N : Nat} {σ τ : Nat → Int32} (h : ag N σ τ) (n : Nat) (p : Int32) : s_latestP σ N n p = s_latestP τ N n p := by
  funext k
  unfold s_latestP s_hole
  rw [v_lost_ag (ag_u 1 0 (s_steps_ag h k)), s_lie_ag h 2 N (Nat.le_refl N)]
theorem o_latest_ag {N : Nat} {σ τ : Nat → Int32} (h : ag N σ τ) (n p : Int32) : o_latest σ N n p = o_latest τ N n p := by
  unfold o_latest
  rw [ag_0 h (show 0 < 16 by decide), s_latestP_ag h]
theorem s_kind_ag {N : Nat} {σ τ : Nat → Int32} (h : ag N σ τ) {c : Nat} (hc : c < N) : ∀ k, s_kind σ N c k = s_kind τ N c k
  | 0 => rfl
  | k + 1 => by simp only [s_kind, s_kind_ag h hc k, v_till_ag (ag_u (16 + 8 * c + 0) (nI k) h) hc false]
theorem o_kindFor_ag {N : Nat} (h10 : N ≤ 10) {σ τ : Nat → Int32} (h : ag N σ τ) (c : Int32) : o_kindFor σ N c = o_kindFor τ N c := by
  unfold o_kindFor
  refine q_if (fun hb => ?_)
  obtain ⟨j, hj, rfl⟩ := b_coin_ex h10 hb
  rw [i_nn (by omega), ag_0 h (show 0 < 16 by decide), ag_c h hj (show 4 < 8 by decide), s_kind_ag h hj]
theorem v_worst_ag {N : Nat} {σ τ : Nat → Int32} (h : ag N σ τ) (n c : Nat) : v_worst σ N n c = v_worst τ N n c := by
  unfold v_worst
  rw [v_lost_ag (s_goTo_ag h c 3), s_lie_ag h 2 N (Nat.le_refl N)]
theorem s_worst_ag {N : Nat} {σ τ : Nat → Int32} (h : ag N σ τ) (n : Nat) : ∀ c, c ≤ N → s_worst σ N n c = s_worst τ N n c
  | 0, _ => rfl
  | c + 1, hc => by rw [s_worst, s_worst, s_worst_ag h n c (by omega), v_worst_ag h, ag_c h (show c < N by omega) (show 4 < 8 by decide)]
theorem o_worst_ag {N : Nat} {σ τ : Nat → Int32} (h : ag N σ τ) (n : Int32) : o_worst σ N n = o_worst τ N n := by
  unfold o_worst
  rw [ag_0 h (show 0 < 16 by decide), s_worst_ag h _ N (Nat.le_refl N)]
theorem v_hem_ag {N : Nat} {σ τ : Nat → Int32} (h : ag N σ τ) (n a : Nat) : v_hem σ N n a = v_hem τ N n a := by
  unfold v_hem
  rw [v_lost_ag (ag_u 3 (nI a) h), s_lie_ag h 2 N (Nat.le_refl N)]
theorem s_hem_ag {N : Nat} {σ τ : Nat → Int32} (h : ag N σ τ) (n : Nat) : ∀ a, s_hem σ N n a = s_hem τ N n a
  | 0 => rfl
  | a + 1 => by rw [s_hem, s_hem, s_hem_ag h n a, v_hem_ag h]
theorem o_hem_ag {N : Nat} {σ τ : Nat → Int32} (h : ag N σ τ) (n : Int32) : o_hem σ N n = o_hem τ N n := by
  unfold o_hem
  rw [ag_0 h (show 0 < 16 by decide), s_hem_ag h]
theorem s_thin_ag {N : Nat} {σ τ : Nat → Int32} (h : ag N σ τ) : ∀ c, c ≤ N → s_thin σ c = s_thin τ c
  | 0, _ => rfl
  | c + 1, hc => by rw [s_thin, s_thin, s_thin_ag h c (by omega), s_thick_ag h (show c < N by omega), ag_0 h (show 1 < 16 by decide)]
theorem s_stays_ag {N : Nat} {σ τ : Nat → Int32} (h : ag N σ τ) (n : Nat) (all set : Int32) : s_stays σ N n all set = s_stays τ N n all set := by
  unfold s_stays
  rw [s_lie_ag (s_steps_ag (s_place_ag h all set N) n) 0 N (Nat.le_refl N)]
theorem s_all_ag {N : Nat} {σ τ : Nat → Int32} (h : ag N σ τ) : s_all σ N = s_all τ N := by
  unfold s_all
  rw [s_lie_ag h 0 N (Nat.le_refl N), s_lie_ag h 3 N (Nat.le_refl N)]
theorem s_carry_ag {N : Nat} {σ τ : Nat → Int32} (h : ag N σ τ) (n : Nat) (all : Int32) : ∀ k, s_carry σ N n all k = s_carry τ N n all k
  | 0 => rfl
  | k + 1 => by rw [s_carry, s_carry, s_carry_ag h n all k, s_stays_ag h, s_sum_ag h 3 (by decide) _ N (Nat.le_refl N)]
theorem o_carry_ag {N : Nat} {σ τ : Nat → Int32} (h : ag N σ τ) (n : Int32) : o_carry σ N n = o_carry τ N n := by
  unfold o_carry
  rw [ag_0 h (show 0 < 16 by decide), s_all_ag h, s_carry_ag h]
theorem o_carried_ag {N : Nat} {σ τ : Nat → Int32} (h : ag N σ τ) (n : Int32) : o_carried σ N n = o_carried τ N n := by
  unfold o_carried
  rw [ag_0 h (show 0 < 16 by decide), s_all_ag h, s_carry_ag h]
theorem s_payw_ag {N : Nat} {σ τ : Nat → Int32} (h : ag N σ τ) (p mask : Int32) (few : Bool) : ∀ k, s_payw σ N p mask few k = s_payw τ N p mask few k
  | 0 => rfl
  | k + 1 => by rw [s_payw, s_payw, s_payw_ag h p mask few k, s_lie_ag h 0 N (Nat.le_refl N), s_sum_ag h 3 (by decide) _ N (Nat.le_refl N)]
theorem o_payw_ag {N : Nat} {σ τ : Nat → Int32} (h : ag N σ τ) (p mask : Int32) (few : Bool) : o_payw σ N p mask few = o_payw τ N p mask few := by
  unfold o_payw
  rw [s_payw_ag h]
theorem s_goneH_ag {N : Nat} {σ τ : Nat → Int32} (h : ag N σ τ) (n v : Nat) : s_goneH σ N n v = s_goneH τ N n v := by
  unfold s_goneH s_hole
  rw [s_lie_ag (s_steps_ag (ag_u 1 (nI v) h) n) 0 N (Nat.le_refl N), s_lie_ag h 0 N (Nat.le_refl N)]
theorem s_goneP_ag {N : Nat} {σ τ : Nat → Int32} (h : ag N σ τ) (n : Nat) (set : Int32) : s_goneP σ N n set = s_goneP τ N n set := by
  funext v
  unfold s_goneP
  rw [s_goneH_ag h]
theorem o_fits_ag {N : Nat} {σ τ : Nat → Int32} (h : ag N σ τ) (set n : Int32) : o_fits σ N set n = o_fits τ N set n := by
  unfold o_fits
  rw [ag_0 h (show 0 < 16 by decide), s_goneP_ag h]
theorem o_size_ag {N : Nat} {σ τ : Nat → Int32} (h : ag N σ τ) (set n : Int32) : o_size σ N set n = o_size τ N set n := by
  unfold o_size
  rw [ag_0 h (show 0 < 16 by decide), s_goneP_ag h]
theorem s_boy_ag {N : Nat} {σ τ : Nat → Int32} (h : ag N σ τ) (n : Nat) (set : Int32) : ∀ c, s_boy σ N n set c = s_boy τ N n set c
  | 0 => rfl
  | c + 1 => by rw [s_boy, s_boy, s_boy_ag h n set c, s_goneP_ag h]
theorem o_boy_ag {N : Nat} {σ τ : Nat → Int32} (h : ag N σ τ) (set n : Int32) : o_boy σ N set n = o_boy τ N set n := by
  unfold o_boy
  rw [ag_0 h (show 0 < 16 by decide), s_goneP_ag h, s_boy_ag h]
theorem s_gone_ag {N : Nat} {σ τ : Nat → Int32} (h : ag N σ τ) (n : Nat) : s_gone σ N n = s_gone τ N n := by
  unfold s_gone
  rw [s_lie_ag (s_steps_ag h n) 0 N (Nat.le_refl N), s_lie_ag h 0 N (Nat.le_refl N)]
theorem s_bgn_ag {N : Nat} {σ τ : Nat → Int32} (h : ag N σ τ) (set : Int32) : ∀ c, s_bgn σ N set c = s_bgn τ N set c
  | 0 => rfl
  | c + 1 => by rw [s_bgn, s_bgn, s_bgn_ag h set c, s_gone_ag h]
theorem o_began_ag {N : Nat} {σ τ : Nat → Int32} (h : ag N σ τ) (set : Int32) : o_began σ N set = o_began τ N set := by
  unfold o_began
  rw [ag_0 h (show 0 < 16 by decide), s_bgn_ag h]
theorem s_lining_ag {N : Nat} {σ τ : Nat → Int32} (h : ag N σ τ) (all w : Int32) : ∀ k, s_lining σ N all w k = s_lining τ N all w k
  | 0 => rfl
  | k + 1 => by rw [s_lining, s_lining, s_lining_ag h all w k, s_sum_ag h 2 (by decide) _ N (Nat.le_refl N)]
theorem o_lining_ag {N : Nat} {σ τ : Nat → Int32} (h : ag N σ τ) (w : Int32) : o_lining σ N w = o_lining τ N w := by
  unfold o_lining
  rw [s_lie_ag h 0 N (Nat.le_refl N), s_lie_ag h 1 N (Nat.le_refl N), s_lie_ag h 3 N (Nat.le_refl N), s_lining_ag h]
theorem s_fallen_ag {N : Nat} {σ τ : Nat → Int32} (h : ag N σ τ) {c : Nat} (hc : c < N) : s_fallen σ c = s_fallen τ c := by
  unfold s_fallen
  rw [ag_c h hc (show 4 < 8 by decide), ag_c h hc (show 7 < 8 by decide)]
theorem s_bc_ag {N : Nat} {σ τ : Nat → Int32} (h : ag N σ τ) {c : Nat} (hc : c < N) (m : Int32) : s_bc σ c m = s_bc τ c m := by
  unfold s_bc
  rw [ag_0 h (show 0 < 16 by decide), ag_c h hc (show 7 < 8 by decide)]
theorem s_rset_ag {N : Nat} {σ τ : Nat → Int32} (h : ag N σ τ) (m cell : Int32) : ∀ c, c ≤ N → s_rset σ m cell c = s_rset τ m cell c
  | 0, _ => rfl
  | c + 1, hc => by rw [s_rset, s_rset, s_rset_ag h m cell c (by omega), s_fallen_ag h (show c < N by omega), s_bc_ag h (show c < N by omega)]
theorem s_rich_ag {N : Nat} {σ τ : Nat → Int32} (h : ag N σ τ) (m : Int32) : ∀ k, s_rich σ N m k = s_rich τ N m k
  | 0 => rfl
  | k + 1 => by rw [s_rich, s_rich, s_rich_ag h m k, s_rset_ag h m (nI k) N (Nat.le_refl N), s_sum_ag h 3 (by decide) _ N (Nat.le_refl N)]
theorem o_back_ag {N : Nat} (h10 : N ≤ 10) {σ τ : Nat → Int32} (h : ag N σ τ) (c m : Int32) : o_back σ N c m = o_back τ N c m := by
  unfold o_back
  refine q_if (fun hb => ?_)
  obtain ⟨j, hj, rfl⟩ := b_coin_ex h10 (q_and hb).1
  rw [i_nn (by omega), s_fallen_ag h hj, s_bc_ag h hj]
theorem o_richest_ag {N : Nat} {σ τ : Nat → Int32} (h : ag N σ τ) (m : Int32) : o_richest σ N m = o_richest τ N m := by
  unfold o_richest
  rw [s_rich_ag h]
theorem s_sums_ag {N : Nat} {σ τ : Nat → Int32} (h : ag N σ τ) : ∀ c, c ≤ N → ∀ s, s_sums σ c s = s_sums τ c s
  | 0, _, _ => rfl
  | c + 1, hc, s => by rw [s_sums, s_sums, s_sums_ag h c (by omega), s_sums_ag h c (by omega), ag_c h (show c < N by omega) (show 4 < 8 by decide), ag_c h (show c < N by omega) (show 3 < 8 by decide)]
theorem o_sums_ag {N : Nat} {σ τ : Nat → Int32} (h : ag N σ τ) : o_sums σ N  = o_sums τ N  := by
  unfold o_sums
  rw [show s_sums σ N = s_sums τ N from funext (s_sums_ag h N (Nat.le_refl N))]
theorem o_as_ag {N : Nat} {σ τ : Nat → Int32} (h : ag N σ τ) (h10 : N ≤ 10) (hsp : ∀ s, s < 10 → σ (6 + s) = -1 ∨ ∃ j, j < N ∧ σ (6 + s) = nI j) (s k : Int32) : o_as σ s k = o_as τ s k := by
  unfold o_as
  refine q_if (fun hb => ?_)
  obtain ⟨x, hx, rfl⟩ := b_in0 9 (by decide) (q_and hb).1
  rw [i_nn (by omega), ← ag_0 h (show 6 + x < 16 by omega)]
  rcases hsp x (by omega) with e | ⟨j, hj, e⟩
  · rw [e, if_pos (by decide), if_pos (by decide)]
  · rw [e, i_nn (by omega), ag_c h hj (show 0 < 8 by decide)]
theorem s_spots_ag {N : Nat} {σ τ : Nat → Int32} (h : ag N σ τ) : ∀ k, k ≤ 10 → s_spots σ k = s_spots τ k
  | 0, _ => rfl
  | k + 1, hk => by rw [s_spots, s_spots, s_spots_ag h k (by omega), ag_0 h (show 6 + k < 16 by omega)]
theorem o_count_ag {N : Nat} {D E : zD} (h : ag N (D.1 1) (E.1 1)) (h0 : D.1 0 12 = E.1 0 12) (w : Int32) : o_count D N w = o_count E N w := by
  unfold o_count
  rw [ag_0 h (show 0 < 16 by decide), ag_0 h (show 4 < 16 by decide), ag_0 h (show 1 < 16 by decide), ag_0 h (show 5 < 16 by decide), s_sum_ag h 3 (by decide) _ N (Nat.le_refl N), s_clk_ag h N (Nat.le_refl N), s_spots_ag h 10 (Nat.le_refl _), h0]
theorem s_jgP_ag {N : Nat} {D E : zD} (h : ag N (D.1 1) (E.1 1)) (h13 : D.1 13 = E.1 13) (h14 : D.1 14 = E.1 14) (s : Nat) {c : Nat} (hc : c < N) : s_jgP D N s c = s_jgP E N s c := by
  funext k
  unfold s_jgP
  rw [h13, h14, ag_c (s_steps_ag h (k + 1)) hc (show 4 < 8 by decide)]
theorem o_judge_ag {N : Nat} (h10 : N ≤ 10) {D E : zD} (h : ag N (D.1 1) (E.1 1)) (h12 : D.1 12 = E.1 12) (h13 : D.1 13 = E.1 13) (h14 : D.1 14 = E.1 14) (s c : Int32) : o_judge D N s c = o_judge E N s c := by
  unfold o_judge
  refine q_if (fun _ => ?_)
  rw [h12]
  by_cases z : E.1 12 (i_n s) = 0
  · rw [if_pos z, if_pos z]
  rw [if_neg z, if_neg z]
  refine q_if (fun hb => ?_)
  obtain ⟨j, hj, rfl⟩ := b_coin_ex h10 hb
  rw [i_nn (by omega), ag_0 h (show 0 < 16 by decide), s_jgP_ag h h13 h14 _ hj, h13]
theorem o_stat_ag {φ ψ : Nat → Int32} (h : ∀ k, k < 7 → φ (1 + k) = ψ (1 + k)) (h0 : ψ 0 = s_told φ 7) (w : Int32) : o_statX φ w = o_status ψ w := by
  unfold o_statX o_status
  refine q_if (fun hb => ?_)
  by_cases e : w = -1
  · rw [if_pos e, e, show i_n (-1 + 1) = 0 from rfl, h0]
  · rw [if_neg e]
    obtain ⟨j, hj, ej⟩ := i_m16 hb
    cases j with
    | zero =>
      refine absurd ?_ e
      have q := congrArg (fun x : Int32 => x - 1) ej
      rw [Int32.add_sub_cancel] at q
      rw [q]; rfl
    | succ k =>
      have q := congrArg (fun x : Int32 => x - 1) ej
      rw [Int32.add_sub_cancel] at q
      have q2 : w = nI k := by rw [q, nI_succ k, Int32.add_sub_cancel]
      rw [q2, ← nI_succ, i_n_n (by omega), i_n_n (by omega), h k (by omega), Nat.add_comm 1 k]
