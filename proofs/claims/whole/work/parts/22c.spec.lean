
/-! ROWS THAT AGREE on the coins there are -/
def ag (N : Nat) (σ τ : Nat → Int32) : Prop := ∀ i, i < 16 + 8 * N → σ i = τ i
theorem ag_r (N : Nat) (σ : Nat → Int32) : ag N σ σ := fun _ _ => rfl
theorem ag_s {N : Nat} {σ τ : Nat → Int32} (h : ag N σ τ) : ag N τ σ := fun i hi => (h i hi).symm
theorem ag_t {N : Nat} {σ τ ρ : Nat → Int32} (h : ag N σ τ) (g : ag N τ ρ) : ag N σ ρ := fun i hi => (h i hi).trans (g i hi)
theorem ag_u {N : Nat} {σ τ : Nat → Int32} (x : Nat) (v : Int32) (h : ag N σ τ) : ag N (upd σ x v) (upd τ x v) := by
  intro i hi
  unfold upd
  split
  · rfl
  · exact h i hi
theorem ag_c {N c f : Nat} {σ τ : Nat → Int32} (h : ag N σ τ) (hc : c < N) (hf : f < 8) : σ (16 + 8 * c + f) = τ (16 + 8 * c + f) := h _ (by omega)
theorem ag_0 {N i : Nat} {σ τ : Nat → Int32} (h : ag N σ τ) (hi : i < 16) : σ i = τ i := h _ (by omega)
theorem s_bec_ag (τ σ : Nat → Int32) (N : Nat) : ag N (s_bec τ σ N) τ := fun i hi => by rw [s_bec, if_pos hi]
section AG
variable {N : Nat} {σ τ : Nat → Int32}
theorem s_lie_ag (h : ag N σ τ) (pl : Int32) : ∀ n, n ≤ N → s_lie σ pl n = s_lie τ pl n
  | 0, _ => rfl
  | n + 1, hn => by rw [s_lie, s_lie, s_lie_ag h pl n (by omega), ag_c h (show n < N by omega) (by decide)]
theorem s_sum_ag (h : ag N σ τ) (f : Nat) (hf : f < 8) (set : Int32) : ∀ n, n ≤ N → s_sum σ f set n = s_sum τ f set n
  | 0, _ => rfl
  | n + 1, hn => by rw [s_sum, s_sum, s_sum_ag h f hf set n (by omega), ag_c h (show n < N by omega) hf]
theorem s_thick_ag (h : ag N σ τ) {c : Nat} (hc : c < N) : s_thick σ c = s_thick τ c := by
  unfold s_thick
  rw [ag_c h hc (show 0 < 8 by decide), ag_c h hc (show 1 < 8 by decide)]
theorem s_goes_ag (h : ag N σ τ) {c : Nat} (hc : c < N) : s_goes σ c = s_goes τ c := by
  unfold s_goes
  rw [ag_c h hc (show 0 < 8 by decide)]
theorem s_wears_ag (h : ag N σ τ) {c : Nat} (hc : c < N) : s_wears σ c = s_wears τ c := by
  unfold s_wears s_plain
  rw [ag_c h hc (show 0 < 8 by decide), s_thick_ag h hc, ag_0 h (show 1 < 16 by decide)]
theorem s_near_ag (h : ag N σ τ) {c : Nat} (hc : c < N) : s_near σ c = s_near τ c := by
  unfold s_near
  rw [ag_c h hc (show 5 < 8 by decide), s_goes_ag h hc]
theorem s_comp_ag (h : ag N σ τ) {c : Nat} (hc : c < N) : ∀ n, n ≤ N → s_comp σ c n = s_comp τ c n
  | 0, _ => rfl
  | n + 1, hn => by rw [s_comp, s_comp, s_comp_ag h hc n (by omega), ag_c h (show n < N by omega) (show 4 < 8 by decide), ag_c h (show n < N by omega) (show 6 < 8 by decide), ag_c h hc (show 6 < 8 by decide)]
theorem s_goTo_ag (h : ag N σ τ) (c : Nat) (pl : Int32) : ag N (s_goTo σ c pl) (s_goTo τ c pl) := ag_u _ _ (ag_u _ _ (ag_u _ _ (ag_u _ _ h)))
theorem s_inP_ag (h : ag N σ τ) {c : Nat} (hc : c < N) : ag N (s_inP σ c) (s_inP τ c) := by
  unfold s_inP
  rw [s_near_ag h hc, s_thick_ag h hc, s_wears_ag h hc, ag_0 h (show 1 < 16 by decide), ag_0 h (show 0 < 16 by decide), ag_c h hc (show 0 < 8 by decide)]
  split
  · exact ag_u _ _ h
  · split
    · exact ag_u _ _ (ag_u _ _ (ag_u _ _ (ag_u _ _ h)))
    · split
      · exact ag_u _ _ (ag_u _ _ h)
      · exact ag_u _ _ h
theorem s_inL_ag (h : ag N σ τ) {c : Nat} (hc : c < N) (st : Int32) : ag N (s_inL σ N c st) (s_inL τ N c st) := by
  unfold s_inL
  rw [s_goes_ag h hc, s_thick_ag h hc, s_comp_ag h hc N (Nat.le_refl _), ag_0 h (show 3 < 16 by decide), ag_0 h (show 2 < 16 by decide), ag_c h hc (show 6 < 8 by decide)]
  split
  · exact ag_u _ _ (ag_u _ _ h)
  · exact ag_u _ _ h
theorem s_pk_ag (h : ag N σ τ) : ∀ n, n ≤ N → ag N (s_pk σ n) (s_pk τ n)
  | 0, _ => h
  | n + 1, hn => by
    have ih := s_pk_ag h n (by omega)
    rw [s_pk, s_pk, ag_c ih (show n < N by omega) (show 4 < 8 by decide)]
    split
    · exact s_inP_ag ih (by omega)
    · exact ih
theorem s_ln_ag (h : ag N σ τ) (set st : Int32) : ∀ n, n ≤ N → ag N (s_ln σ N set st n) (s_ln τ N set st n)
  | 0, _ => h
  | n + 1, hn => by
    have ih := s_ln_ag h set st n (by omega)
    rw [s_ln, s_ln]
    split
    · exact s_inL_ag ih (by omega) st
    · exact ih
theorem s_step_ag (h : ag N σ τ) : ag N (s_step σ N) (s_step τ N) := by
  unfold s_step
  rw [s_lie_ag h 1 N (Nat.le_refl _), ag_0 h (show 0 < 16 by decide)]
  exact ag_u _ _ (s_ln_ag (s_pk_ag h N (Nat.le_refl _)) _ _ N (Nat.le_refl _))
theorem s_steps_ag (h : ag N σ τ) : ∀ n, ag N (s_steps σ N n) (s_steps τ N n)
  | 0 => h
  | n + 1 => s_step_ag (s_steps_ag h n)
theorem s_clk1_ag (h : ag N σ τ) {c : Nat} (hc : c < N) : ∀ n, n ≤ N → s_clk1 σ c n = s_clk1 τ c n
  | 0, _ => rfl
  | n + 1, hn => by rw [s_clk1, s_clk1, s_clk1_ag h hc n (by omega), ag_c h hc (show 4 < 8 by decide), ag_c h (show n < N by omega) (show 4 < 8 by decide), ag_c h hc (show 6 < 8 by decide), ag_c h (show n < N by omega) (show 6 < 8 by decide)]
theorem s_clk_ag (h : ag N σ τ) : ∀ n, n ≤ N → s_clk σ n = s_clk τ n
  | 0, _ => rfl
  | n + 1, hn => by rw [s_clk, s_clk, s_clk_ag h n (by omega), s_clk1_ag h (by omega) n (by omega)]
theorem s_stir_ag (h : ag N σ τ) {c : Nat} (hc : c < N) : s_stir σ c = s_stir τ c := by
  unfold s_stir s_nr
  rw [s_near_ag h hc, s_thick_ag h hc, ag_0 h (show 1 < 16 by decide), ag_c h hc (show 0 < 8 by decide), ag_c h hc (show 5 < 8 by decide)]
theorem s_stirs_ag (h : ag N σ τ) : ∀ n, n ≤ N → s_stirs σ n = s_stirs τ n
  | 0, _ => rfl
  | n + 1, hn => by
    have g := s_pk_ag h n (by omega)
    rw [s_stirs, s_stirs, s_stirs_ag h n (by omega), ag_c g (show n < N by omega) (show 4 < 8 by decide), s_stir_ag g (by omega)]
theorem s_goP_ag (h : ag N σ τ) : ag N (s_goP σ N) (s_goP τ N) := by
  unfold s_goP
  rw [ag_0 h (show 0 < 16 by decide)]
  exact ag_u _ _ (s_pk_ag h N (Nat.le_refl _))
end AG
