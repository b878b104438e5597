
/-! THE TWO STORES SIDE BY SIDE -/
def v_gco (σ : Nat → Int32) (c : Nat) : Prop := b_in (σ (16 + 8 * c + 0)) 0 6 = true ∧ (∃ p, p ≤ 240 ∧ σ (16 + 8 * c + 3) = nI p) ∧ ∃ k, k ≤ 7 ∧ σ (16 + 8 * c + 6) = nI k
def v_gfa (σ : Nat → Int32) (c : Nat) : Prop := σ (16 + 8 * c + 7) = -1 ∨ (σ (16 + 8 * c + 4) = 2 ∧ 0 ≤ σ (16 + 8 * c + 7))
def v_gr (N : Nat) (σ : Nat → Int32) : Prop := (∃ s, s ≤ 9999 ∧ σ 0 = nI s) ∧ (∃ h, h ≤ 99 ∧ σ 1 = nI h) ∧ 0 ≤ σ 2 ∧ 0 ≤ σ 3 ∧ (∀ s, s < 10 → σ (6 + s) = -1 ∨ ∃ j, j < N ∧ σ (6 + s) = nI j) ∧ (∀ c, c < N → v_gco σ c) ∧ ∀ c, c < N → v_gfa σ c
def v_row (σ τ : Nat → Int32) : Prop := ∃ N, N ≤ 10 ∧ σ 4 = nI N ∧ ag N σ τ ∧ v_gr N σ
theorem v_gco_e {σ τ : Nat → Int32} {c : Nat} (h : v_gco σ c) (e0 : τ (16 + 8 * c + 0) = σ (16 + 8 * c + 0)) (e3 : τ (16 + 8 * c + 3) = σ (16 + 8 * c + 3)) (e6 : τ (16 + 8 * c + 6) = σ (16 + 8 * c + 6)) : v_gco τ c := by
  unfold v_gco
  rw [e0, e3, e6]
  exact h
theorem v_gfa_e {σ τ : Nat → Int32} {c : Nat} (h : v_gfa σ c) (e4 : τ (16 + 8 * c + 4) = σ (16 + 8 * c + 4)) (e7 : τ (16 + 8 * c + 7) = σ (16 + 8 * c + 7)) : v_gfa τ c := by
  unfold v_gfa
  rw [e4, e7]
  exact h
theorem v_gr_ag {N : Nat} {σ τ : Nat → Int32} (h : ag N σ τ) (g : v_gr N σ) : v_gr N τ := by
  obtain ⟨⟨s, hs, e⟩, ⟨u, hu, e1⟩, g2, g3, g4, g5, g6⟩ := g
  refine ⟨⟨s, hs, by rw [← ag_0 h (show 0 < 16 by decide)]; exact e⟩, ⟨u, hu, by rw [← ag_0 h (show 1 < 16 by decide)]; exact e1⟩, by rw [← ag_0 h (show 2 < 16 by decide)]; exact g2, by rw [← ag_0 h (show 3 < 16 by decide)]; exact g3, fun s hs => by rw [← ag_0 h (show 6 + s < 16 by omega)]; exact g4 s hs, fun c hc => v_gco_e (g5 c hc) (ag_c h hc (by decide)).symm (ag_c h hc (by decide)).symm (ag_c h hc (by decide)).symm, fun c hc => v_gfa_e (g6 c hc) (ag_c h hc (by decide)).symm (ag_c h hc (by decide)).symm⟩
/-- what the calls leave alike -/
def v_Inv (D E : zD) : Prop := v_row (D.1 1) (E.1 1) ∧ (∃ Nk, Nk ≤ 10 ∧ D.1 3 4 = nI Nk) ∧ (D.1 0 3 = 0 ∨ v_row (D.1 3) (E.1 3)) ∧ D.1 0 3 = E.1 0 3 ∧ (∃ t, t ≤ 120 ∧ D.1 0 12 = nI t ∧ E.1 0 12 = nI t ∧ s_by (D.1 8) t) ∧ D.1 8 = E.1 8 ∧ D.1 12 = E.1 12 ∧ D.1 13 = E.1 13 ∧ D.1 14 = E.1 14 ∧ (∀ s, s < 4 → ∃ k, k ≤ 40 ∧ D.1 13 s = nI k) ∧ (∀ k, k < 7 → D.1 4 (1 + k) = E.1 4 (1 + k)) ∧ E.1 4 0 = s_told (D.1 4) 7 ∧ z_cM E
theorem v_sm {D E D2 E2 : zD} (h : v_Inv D E) (a : z_sm D D2) (b : z_sm E E2) : v_Inv D2 E2 := by
  obtain ⟨h1, h2, h3, h4, h5, h6, h7, h8, h9, h10, h11, h12, h13, h14, h15⟩ := h
  obtain ⟨a1, a3, a4, a5, a6, a8, a10, a12, a13, a14, a03, a012⟩ := a
  obtain ⟨b1, b3, b4, b5, b6, b8, b10, b12, b13, b14, b03, b012⟩ := b
  unfold v_Inv z_cM
  rw [a1, a3, a4, a8, a12, a13, a14, a03, a012, b1, b3, b4, b5, b6, b8, b10, b12, b13, b14, b03, b012]
  exact ⟨h1, h2, h3, h4, h5, h6, h7, h8, h9, h10, h11, h12, h13, h14, h15⟩
theorem s_told_c {φ ψ : Nat → Int32} : ∀ n, (∀ k, k < n → φ (1 + k) = ψ (1 + k)) → s_told φ n = s_told ψ n
  | 0, _ => rfl
  | n + 1, h => by rw [s_told, s_told, s_told_c n (fun k hk => h k (by omega)), h n (by omega)]
theorem s_told_up {φ : Nat → Int32} {k : Nat} : ∀ n, k < n → s_told (upd φ (1 + k) (φ (1 + k) + 1)) n = s_told φ n + 1
  | 0, h => absurd h (by omega)
  | n + 1, h => by
    rw [s_told, s_told]
    by_cases e : k = n
    · subst e
      rw [u_eq, s_told_c k (fun i hi => u_ne _ _ (show 1 + i ≠ 1 + k by omega)), Int32.add_assoc]
    · rw [s_told_up n (by omega), u_ne _ _ (by omega), Int32.add_assoc, Int32.add_comm 1, ← Int32.add_assoc]
theorem v_find {D E : zD} (h : v_Inv D E) {k : Nat} (hk : k < 7) : v_Inv (z_fX D k) (z_fM E k) := by
  obtain ⟨h1, h2, h3, h4, h5, h6, h7, h8, h9, h10, h11, h12, h13⟩ := h
  unfold z_fX z_fM v_Inv z_cM
  have n : ∀ (F : zD) (σ : Nat → Int32) q, q ≠ 4 → (z_row F 4 σ).1 q = F.1 q := fun F σ q hq => z_rowo F σ hq
  rw [n _ _ 1 (by decide), n _ _ 1 (by decide), n _ _ 3 (by decide), n _ _ 3 (by decide), n _ _ 0 (by decide), n _ _ 0 (by decide), n _ _ 8 (by decide), n _ _ 8 (by decide), n _ _ 12 (by decide), n _ _ 12 (by decide), n _ _ 13 (by decide), n _ _ 13 (by decide), n _ _ 14 (by decide), n _ _ 14 (by decide), n _ _ 5 (by decide), n _ _ 6 (by decide), n _ _ 10 (by decide), z_rowr, z_rowr]
  refine ⟨h1, h2, h3, h4, h5, h6, h7, h8, h9, h10, fun i hi => ?_, ?_, h13⟩
  · rw [u_ne (upd (E.1 4) (1 + k) _) _ (show 1 + i ≠ 0 by omega)]
    by_cases e : i = k
    · subst e; rw [u_eq, u_eq, h11 i hk]
    · rw [u_ne _ _ (by omega), u_ne _ _ (by omega), h11 i hi]
  · rw [u_eq, s_told_up 7 hk, h12]
/-- a question -/
theorem v_q {D E D2 E2 : zD} (h : v_Inv D E) {a : oQ} (ha : ∀ k, a = .inl k → k < 7) (h1 : z_sm (q_X D a) D2) (h2 : z_sm (q_M E a) E2) : v_Inv D2 E2 := by
  cases a with
  | inl k => exact v_sm (v_find h (ha k rfl)) h1 h2
  | inr r => exact v_sm h h1 h2
theorem v_row1 {D E : zD} (h : v_Inv D E) {σ τ : Nat → Int32} (hr : v_row σ τ) : v_Inv (z_row D 1 σ) (z_row E 1 τ) := by
  obtain ⟨h1, h2⟩ := h
  unfold v_Inv z_cM
  have n : ∀ (F : zD) (σ : Nat → Int32) q, q ≠ 1 → (z_row F 1 σ).1 q = F.1 q := fun F σ q hq => z_rowo F σ hq
  rw [z_rowr, z_rowr, n _ _ 3 (by decide), n _ _ 3 (by decide), n _ _ 0 (by decide), n _ _ 0 (by decide), n _ _ 8 (by decide), n _ _ 8 (by decide), n _ _ 12 (by decide), n _ _ 12 (by decide), n _ _ 13 (by decide), n _ _ 13 (by decide), n _ _ 14 (by decide), n _ _ 14 (by decide), n _ _ 4 (by decide), n _ _ 4 (by decide), n _ _ 5 (by decide), n _ _ 6 (by decide), n _ _ 10 (by decide)]
  exact ⟨hr, h2⟩
/-- an act: the two answers alike, the rows behind them alike -/
def v_rr (a b : oR) : Prop := (∃ k, k < 7 ∧ a = .inl k ∧ b = .inl k) ∨ ∃ v σ τ, a = .inr (v, σ) ∧ b = .inr (v, τ) ∧ v_row σ τ
theorem v_act {D E : zD} (h : v_Inv D E) {a b : oR} (hr : v_rr a b) : r_ans a = r_ans b ∧ v_Inv (r_X D a) (r_M E b) := by
  rcases hr with ⟨k, hk, rfl, rfl⟩ | ⟨v, σ, τ, rfl, rfl, hr⟩
  · exact ⟨rfl, v_find h hk⟩
  · exact ⟨rfl, v_row1 h hr⟩
/-! steps keep what is good -/
theorem v_wear (σ : Nat → Int32) (c : Nat) : ∃ w, w ≤ 3 ∧ s_wears σ c = nI w := by
  unfold s_wears s_plain
  by_cases a : σ (16 + 8 * c + 0) = 1 ∨ σ (16 + 8 * c + 0) = 3
  · rw [if_pos a]; exact ⟨0, by decide, rfl⟩
  · rw [if_neg a]
    by_cases b : σ 1 ≤ 2 * s_thick σ c
    · rw [if_pos b]
      by_cases d : σ (16 + 8 * c + 0) = 4
      · rw [if_pos d]; exact ⟨3, by decide, rfl⟩
      · rw [if_neg d]
        by_cases e : σ (16 + 8 * c + 0) = 2
        · rw [if_pos e]; exact ⟨2, by decide, rfl⟩
        · rw [if_neg e]; exact ⟨1, by decide, rfl⟩
    · rw [if_neg b]
      by_cases d : σ (16 + 8 * c + 0) = 4
      · rw [if_pos d]; exact ⟨2, by decide, rfl⟩
      · rw [if_neg d]
        by_cases e : σ (16 + 8 * c + 0) = 2
        · rw [if_pos e]; exact ⟨1, by decide, rfl⟩
        · rw [if_neg e]; exact ⟨0, by decide, rfl⟩
theorem v_goes (σ : Nat → Int32) (c : Nat) : ∃ w, w ≤ 2 ∧ s_goes σ c = nI w := by
  unfold s_goes
  by_cases d : σ (16 + 8 * c + 0) = 2 ∨ σ (16 + 8 * c + 0) = 4
  · rw [if_pos d]; exact ⟨2, by decide, rfl⟩
  · rw [if_neg d]
    by_cases e : σ (16 + 8 * c + 0) = 6
    · rw [if_pos e]; exact ⟨0, by decide, rfl⟩
    · rw [if_neg e]; exact ⟨1, by decide, rfl⟩
theorem v_min {a b m : Nat} (ha : a < 10000) (hb : b < 10000) (hm : m < 10000) : ∃ k, k ≤ m ∧ i_min (nI a + nI b) (nI m) = nI k := by
  rw [nI_add, i_min_n _ _ (by omega) (by omega)]
  by_cases h : a + b < m
  · rw [if_pos h]; exact ⟨_, Nat.le_of_lt h, rfl⟩
  · rw [if_neg h]; exact ⟨m, Nat.le_refl _, rfl⟩
theorem v_inP_1 {σ : Nat → Int32} {c : Nat} (h : ∃ u, u ≤ 99 ∧ σ 1 = nI u) : ∃ u, u ≤ 99 ∧ s_inP σ c 1 = nI u := by
  obtain ⟨u, hu, e⟩ := h
  unfold s_inP
  by_cases a : s_near σ c < 3
  · rw [if_pos a, u_ne _ _ (by omega)]; exact ⟨u, hu, e⟩
  · rw [if_neg a]
    by_cases b : s_thick σ c ≤ σ 1
    · rw [if_pos b, u_eq, e]
      obtain ⟨w, hw, ew⟩ := v_wear σ c
      rw [ew]
      exact v_min (m := 99) (by omega) (by omega) (by decide)
    · rw [if_neg b]
      by_cases d : σ (16 + 8 * c + 0) = 4 ∧ σ 0 - σ 0 / 4 * 4 = 0
      · rw [if_pos d, u_eq, e]
        exact v_min (b := 1) (m := 99) (by omega) (by decide) (by decide)
      · rw [if_neg d, u_ne _ _ (by omega)]; exact ⟨u, hu, e⟩
theorem v_pk_1 {σ : Nat → Int32} (h : ∃ u, u ≤ 99 ∧ σ 1 = nI u) : ∀ n, ∃ u, u ≤ 99 ∧ s_pk σ n 1 = nI u
  | 0 => h
  | n + 1 => by
    have ih := v_pk_1 h n
    rw [s_pk]
    by_cases z : s_pk σ n (16 + 8 * n + 4) = 0
    · rw [if_pos z]; exact v_inP_1 ih
    · rw [if_neg z]; exact ih
theorem v_step_1 {σ : Nat → Int32} {N : Nat} (h : ∃ u, u ≤ 99 ∧ σ 1 = nI u) : ∃ u, u ≤ 99 ∧ s_step σ N 1 = nI u := by
  rw [s_step, u_ne _ _ (by decide), s_ln_lo _ _ _ _ (by decide)]
  exact v_pk_1 h N
/-- a coin through a step, by where it lies -/
theorem v_step_pk {σ : Nat → Int32} {N c f : Nat} (h10 : N ≤ 10) (hc : c < N) (hf : f < 8) (h : σ (16 + 8 * c + 4) = 0) : s_step σ N (16 + 8 * c + f) = s_inP (s_pk σ c) c (16 + 8 * c + f) := by
  rw [s_step_ix, s_ln_out _ _ _ _ hf (by rw [s_has_lie _ _ h10 (by omega), h]; simp), s_pk_in σ hf hc h]
theorem v_step_ln {σ : Nat → Int32} {N c f : Nat} (h10 : N ≤ 10) (hc : c < N) (hf : f < 8) (h : σ (16 + 8 * c + 4) = 1) : s_step σ N (16 + 8 * c + f) = s_inL (s_ln (s_pk σ N) N (s_lie σ 1 N) (σ 0) c) N c (σ 0) (16 + 8 * c + f) ∧ ∀ g, g < 8 → s_ln (s_pk σ N) N (s_lie σ 1 N) (σ 0) c (16 + 8 * c + g) = σ (16 + 8 * c + g) := by
  refine ⟨by rw [s_step_ix, s_ln_in _ _ _ _ hf hc (by rw [s_has_lie _ _ h10 (by omega), decide_eq_true hc, decide_eq_true h]; rfl)], fun g hg => ?_⟩
  rw [s_ln_ah _ _ _ _ hg c (Nat.le_refl c), s_pk_out σ hg (by rw [h]; decide)]
theorem v_step_el {σ : Nat → Int32} {N c f : Nat} (h10 : N ≤ 10) (hc : c < N) (hf : f < 8) (h0 : ¬ σ (16 + 8 * c + 4) = 0) (h1 : ¬ σ (16 + 8 * c + 4) = 1) : s_step σ N (16 + 8 * c + f) = σ (16 + 8 * c + f) := by
  rw [s_step_ix, s_ln_out _ _ _ _ hf (by rw [s_has_lie _ _ h10 (by omega), decide_eq_false h1, Bool.and_false]), s_pk_out σ hf h0]
theorem v_inP_f {σ : Nat → Int32} {c f : Nat} (hf : f = 0 ∨ f = 3 ∨ f = 7) : s_inP σ c (16 + 8 * c + f) = σ (16 + 8 * c + f) := by
  unfold s_inP
  repeat' split
  all_goals repeat rw [u_ne _ _ (by omega)]
theorem v_inP_6 {σ : Nat → Int32} {c : Nat} : s_inP σ c (16 + 8 * c + 6) = σ (16 + 8 * c + 6) ∨ s_inP σ c (16 + 8 * c + 6) = 0 := by
  unfold s_inP
  by_cases a : s_near σ c < 3
  · rw [if_pos a, u_ne _ _ (by omega)]; exact Or.inl rfl
  · rw [if_neg a]
    by_cases b : s_thick σ c ≤ σ 1
    · rw [if_pos b, u_ne _ _ (by omega), u_eq]; exact Or.inr rfl
    · rw [if_neg b]
      by_cases d : σ (16 + 8 * c + 0) = 4 ∧ σ 0 - σ 0 / 4 * 4 = 0
      · rw [if_pos d, u_ne _ _ (by omega), u_ne _ _ (by omega)]; exact Or.inl rfl
      · rw [if_neg d, u_ne _ _ (by omega)]; exact Or.inl rfl
theorem v_inL_f {σ : Nat → Int32} {N c f : Nat} {st : Int32} (hf : f = 0 ∨ f = 3) : s_inL σ N c st (16 + 8 * c + f) = σ (16 + 8 * c + f) := by
  unfold s_inL
  split
  · rw [u_ne _ _ (by omega), u_ne _ _ (by omega)]
  · rw [u_ne _ _ (by omega)]
theorem v_step_gco {σ : Nat → Int32} {N : Nat} (h10 : N ≤ 10) (h : ∀ c, c < N → v_gco σ c) : ∀ c, c < N → v_gco (s_step σ N) c := by
  intro c hc
  have g := h c hc
  by_cases h0 : σ (16 + 8 * c + 4) = 0
  · have e : ∀ f, f < 8 → s_pk σ c (16 + 8 * c + f) = σ (16 + 8 * c + f) := fun f hf => s_pk_ah σ hf c (Nat.le_refl c)
    refine ⟨?_, ?_, ?_⟩
    · rw [v_step_pk h10 hc (by decide) h0, v_inP_f (Or.inl rfl), e 0 (by decide)]; exact g.1
    · rw [v_step_pk h10 hc (by decide) h0, v_inP_f (Or.inr (Or.inl rfl)), e 3 (by decide)]; exact g.2.1
    · rw [v_step_pk h10 hc (by decide) h0]
      rcases v_inP_6 (σ := s_pk σ c) (c := c) with z | z
      · rw [z, e 6 (by decide)]; exact g.2.2
      · rw [z]; exact ⟨0, by decide, rfl⟩
  · by_cases h1 : σ (16 + 8 * c + 4) = 1
    · have e := (v_step_ln h10 hc (show 0 < 8 by decide) h1).2
      refine ⟨?_, ?_, ?_⟩
      · rw [(v_step_ln h10 hc (by decide) h1).1, v_inL_f (Or.inl rfl), e 0 (by decide)]; exact g.1
      · rw [(v_step_ln h10 hc (by decide) h1).1, v_inL_f (Or.inr rfl), e 3 (by decide)]; exact g.2.1
      · rw [(v_step_ln h10 hc (by decide) h1).1]
        unfold s_inL
        split
        · rw [u_ne _ _ (by omega), u_ne _ _ (by omega), e 6 (by decide)]; exact g.2.2
        · rw [u_eq, e 6 (by decide)]
          obtain ⟨k, hk, ek⟩ := g.2.2
          obtain ⟨w, hw, ew⟩ := v_goes (s_ln (s_pk σ N) N (s_lie σ 1 N) (σ 0) c) c
          rw [ek, ew]
          exact v_min (m := 7) (by omega) (by omega) (by decide)
    · exact v_gco_e g (v_step_el h10 hc (by decide) h0 h1) (v_step_el h10 hc (by decide) h0 h1) (v_step_el h10 hc (by decide) h0 h1)
theorem v_step_gfa {σ : Nat → Int32} {N : Nat} (h10 : N ≤ 10) (hst : 0 ≤ σ 0) (h : ∀ c, c < N → v_gfa σ c) : ∀ c, c < N → v_gfa (s_step σ N) c := by
  intro c hc
  have g := h c hc
  by_cases h0 : σ (16 + 8 * c + 4) = 0
  · have e : ∀ f, f < 8 → s_pk σ c (16 + 8 * c + f) = σ (16 + 8 * c + f) := fun f hf => s_pk_ah σ hf c (Nat.le_refl c)
    left
    rw [v_step_pk h10 hc (by decide) h0, v_inP_f (Or.inr (Or.inr rfl)), e 7 (by decide)]
    rcases g with z | z
    · exact z
    · rw [h0] at z; exact absurd z.1 (by decide)
  · by_cases h1 : σ (16 + 8 * c + 4) = 1
    · have e := (v_step_ln h10 hc (show 0 < 8 by decide) h1).2
      have e7 : σ (16 + 8 * c + 7) = -1 := by
        rcases g with z | z
        · exact z
        · rw [h1] at z; exact absurd z.1 (by decide)
      unfold v_gfa
      rw [(v_step_ln h10 hc (show 7 < 8 by decide) h1).1, (v_step_ln h10 hc (show 4 < 8 by decide) h1).1]
      unfold s_inL
      split
      · right
        rw [u_ne _ _ (by omega), u_eq, u_eq]
        exact ⟨rfl, hst⟩
      · left
        rw [u_ne _ _ (by omega), e 7 (by decide)]
        exact e7
    · exact v_gfa_e g (v_step_el h10 hc (by decide) h0 h1) (v_step_el h10 hc (by decide) h0 h1)
theorem v_steps_gco {σ : Nat → Int32} {N : Nat} (h10 : N ≤ 10) (h : ∀ c, c < N → v_gco σ c) : ∀ n, ∀ c, c < N → v_gco (s_steps σ N n) c
  | 0 => h
  | n + 1 => v_step_gco h10 (v_steps_gco h10 h n)
theorem v_gr_step {σ : Nat → Int32} {N : Nat} (h10 : N ≤ 10) (h : v_gr N σ) (ht : ∃ s, s + 1 ≤ 9999 ∧ σ 0 = nI s) : v_gr N (s_step σ N) := by
  obtain ⟨⟨s, hs, e⟩, g1, g2, g3, g4, g5, g6⟩ := h
  obtain ⟨s2, hs2, e2⟩ := ht
  refine ⟨⟨s2 + 1, hs2, by rw [s_step_0, e2, nI_succ]⟩, v_step_1 g1, by rw [s_step_lo _ _ (by decide) (by decide) (by decide)]; exact g2, by rw [s_step_lo _ _ (by decide) (by decide) (by decide)]; exact g3, fun i hi => by rw [s_step_lo _ _ (by omega) (by omega) (by omega)]; exact g4 i hi, v_step_gco h10 g5, v_step_gfa h10 (by rw [e]; exact nI_pos' (by omega)) g6⟩
theorem v_steps_0 (σ : Nat → Int32) (N : Nat) {s : Nat} (h : σ 0 = nI s) : ∀ n, s_steps σ N n 0 = nI (s + n)
  | 0 => h
  | n + 1 => by rw [s_steps, s_step_0, v_steps_0 σ N h n, ← Nat.add_assoc, nI_succ]
theorem v_gr_steps {σ : Nat → Int32} {N s : Nat} (h10 : N ≤ 10) (h : v_gr N σ) (hs : σ 0 = nI s) : ∀ n, s + n ≤ 9999 → v_gr N (s_steps σ N n)
  | 0, _ => h
  | n + 1, hn => v_gr_step h10 (v_gr_steps h10 h hs n (by omega)) ⟨s + n, by omega, v_steps_0 σ N hs n⟩
theorem v_room {s n : Nat} {x y : Int32} (hx : x = nI s) (hy : y = nI n) (hs : s ≤ 9999) (hn : n < 100000) (h : ¬ 9999 < x + y) : s + n ≤ 9999 := by
  subst hx
  subst hy
  rw [nI_add] at h
  rcases Nat.lt_or_ge 9999 (s + n) with z | z
  · exact absurd (nI_lt (a := 9999) (b := s + n) z (by omega)) h
  · exact z
