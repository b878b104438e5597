
/-! THE ACTS KEEP WHAT IS GOOD -/
theorem v_gr_mk {N : Nat} {σ τ : Nat → Int32} (g : v_gr N σ) (e : ∀ i, i < 16 → i ≠ 4 → i ≠ 5 → τ i = σ i) (hc : ∀ c, c < N → v_gco τ c ∧ v_gfa τ c) : v_gr N τ := by
  obtain ⟨g0, g1, g2, g3, g4, _, _⟩ := g
  refine ⟨by rw [e 0 (by decide) (by decide) (by decide)]; exact g0, by rw [e 1 (by decide) (by decide) (by decide)]; exact g1, by rw [e 2 (by decide) (by decide) (by decide)]; exact g2, by rw [e 3 (by decide) (by decide) (by decide)]; exact g3, fun s hs => by rw [e (6 + s) (by omega) (by omega) (by omega)]; exact g4 s hs, fun c h => (hc c h).1, fun c h => (hc c h).2⟩
theorem v_co {N : Nat} {σ : Nat → Int32} (g : v_gr N σ) : ∀ c, c < N → v_gco σ c := g.2.2.2.2.2.1
theorem v_fa {N : Nat} {σ : Nat → Int32} (g : v_gr N σ) : ∀ c, c < N → v_gfa σ c := g.2.2.2.2.2.2
theorem s_goTo_u (σ : Nat → Int32) {c i : Nat} (pl : Int32) (h : i ≠ 16 + 8 * c + 4 ∧ i ≠ 16 + 8 * c + 5 ∧ i ≠ 16 + 8 * c + 6 ∧ i ≠ 16 + 8 * c + 7) : s_goTo σ c pl i = σ i := by
  unfold s_goTo
  rw [u_ne _ _ h.1, u_ne _ _ h.2.2.2, u_ne _ _ h.2.2.1, u_ne _ _ h.2.1]
theorem s_goTo_f6 (σ : Nat → Int32) (c : Nat) (pl : Int32) : s_goTo σ c pl (16 + 8 * c + 6) = 0 := by
  unfold s_goTo
  rw [u_ne _ _ (by omega), u_ne _ _ (by omega), u_eq]
theorem s_goTo_f7 (σ : Nat → Int32) (c : Nat) (pl : Int32) : s_goTo σ c pl (16 + 8 * c + 7) = -1 := by
  unfold s_goTo
  rw [u_ne _ _ (by omega), u_eq]
theorem v_goTo_co {σ : Nat → Int32} {c : Nat} (pl : Int32) (h0 : b_in (σ (16 + 8 * c + 0)) 0 6 = true) (h3 : ∃ p, p ≤ 240 ∧ σ (16 + 8 * c + 3) = nI p) : v_gco (s_goTo σ c pl) c ∧ v_gfa (s_goTo σ c pl) c := by
  refine ⟨⟨by rw [s_goTo_u σ pl (by omega)]; exact h0, by rw [s_goTo_u σ pl (by omega)]; exact h3, 0, by decide, s_goTo_f6 _ _ _⟩, Or.inl (s_goTo_f7 _ _ _)⟩
theorem v_goTo {N : Nat} {σ : Nat → Int32} (g : v_gr N σ) (c : Nat) (pl : Int32) : v_gr N (s_goTo σ c pl) := by
  refine v_gr_mk g (fun i hi _ _ => s_goTo_lo σ pl hi) (fun d hd => ?_)
  by_cases e : d = c
  · subst e
    exact v_goTo_co pl (v_co g d hd).1 (v_co g d hd).2.1
  · have q : ∀ f, f < 8 → s_goTo σ c pl (16 + 8 * d + f) = σ (16 + 8 * d + f) := fun f hf => s_goTo_ot σ pl (by omega)
    exact ⟨v_gco_e (v_co g d hd) (q 0 (by decide)) (q 3 (by decide)) (q 6 (by decide)), v_gfa_e (v_fa g d hd) (q 4 (by decide)) (q 7 (by decide))⟩
theorem v_come {N : Nat} {σ : Nat → Int32} (g : v_gr N σ) {k pc : Int32} (sz wt pl : Int32) (hk : b_in k 0 6 = true) (hp : ∃ p, p ≤ 240 ∧ pc = nI p) : v_gr (N + 1) (s_come σ N k sz wt pc pl) := by
  have lo : ∀ i, i < 16 → i ≠ 4 → i ≠ 5 → s_come σ N k sz wt pc pl i = σ i := fun i hi h4 _ => by
    unfold s_come
    rw [s_goTo_lo _ pl hi, u_ne _ _ h4, u_ne _ _ (by omega), u_ne _ _ (by omega), u_ne _ _ (by omega), u_ne _ _ (by omega)]
  have old : ∀ d, d < N → ∀ f, f < 8 → s_come σ N k sz wt pc pl (16 + 8 * d + f) = σ (16 + 8 * d + f) := fun d hd f hf => by
    unfold s_come
    rw [s_goTo_ot _ pl (by omega), u_ne _ _ (by omega), u_ne _ _ (by omega), u_ne _ _ (by omega), u_ne _ _ (by omega), u_ne _ _ (by omega)]
  obtain ⟨g0, g1, g2, g3, g4, g5, g6⟩ := g
  have all : ∀ d, d < N + 1 → v_gco (s_come σ N k sz wt pc pl) d ∧ v_gfa (s_come σ N k sz wt pc pl) d := fun d hd => by
    by_cases e : d = N
    · subst e
      refine v_goTo_co pl ?_ ?_
      · rw [u_ne _ _ (by omega), u_ne _ _ (by omega), u_ne _ _ (by omega), u_ne _ _ (by omega), u_eq]; exact hk
      · rw [u_ne _ _ (by omega), u_eq]; exact hp
    · exact ⟨v_gco_e (g5 d (by omega)) (old d (by omega) 0 (by decide)) (old d (by omega) 3 (by decide)) (old d (by omega) 6 (by decide)), v_gfa_e (g6 d (by omega)) (old d (by omega) 4 (by decide)) (old d (by omega) 7 (by decide))⟩
  refine ⟨by rw [lo 0 (by decide) (by decide) (by decide)]; exact g0, by rw [lo 1 (by decide) (by decide) (by decide)]; exact g1, by rw [lo 2 (by decide) (by decide) (by decide)]; exact g2, by rw [lo 3 (by decide) (by decide) (by decide)]; exact g3, fun s hs => ?_, fun c h => (all c h).1, fun c h => (all c h).2⟩
  rw [lo (6 + s) (by omega) (by omega) (by omega)]
  rcases g4 s hs with z | ⟨j, hj, z⟩
  · exact Or.inl z
  · exact Or.inr ⟨j, by omega, z⟩
theorem v_up_co {N : Nat} {σ : Nat → Int32} (g : v_gr N σ) {x : Nat} {v : Int32} (hx : ∀ i, i < 16 → i ≠ 4 → i ≠ 5 → i ≠ x) (hc : ∀ c, c < N → x ≠ 16 + 8 * c + 0 ∧ x ≠ 16 + 8 * c + 3 ∧ x ≠ 16 + 8 * c + 4 ∧ x ≠ 16 + 8 * c + 6 ∧ x ≠ 16 + 8 * c + 7) : v_gr N (upd σ x v) :=
  v_gr_mk g (fun i hi h4 h5 => u_ne _ _ (hx i hi h4 h5)) (fun c h => ⟨v_gco_e (v_co g c h) (u_ne _ _ (hc c h).1.symm) (u_ne _ _ (hc c h).2.1.symm) (u_ne _ _ (hc c h).2.2.2.1.symm), v_gfa_e (v_fa g c h) (u_ne _ _ (hc c h).2.2.1.symm) (u_ne _ _ (hc c h).2.2.2.2.symm)⟩)
/-! the acts themselves -/
theorem v_in_l {v hi : Int32} (h : b_in v 0 hi = true) : 0 ≤ v := by
  unfold b_in at h
  exact of_decide_eq_true (q_and h).1
theorem v_row_i {N : Nat} {σ τ : Nat → Int32} (h10 : N ≤ 10) (hN : σ 4 = nI N) (h : ag N σ τ) (g : v_gr N σ) : v_row σ τ := ⟨N, h10, hN, h, g⟩
theorem v_rl {k : Nat} (h : k < 7) : v_rr (.inl k) (.inl k) := Or.inl ⟨k, h, rfl, rfl⟩
theorem v_rn {v w : Int32} {σ τ : Nat → Int32} (e : v = w) (h : v_row σ τ) : v_rr (.inr (v, σ)) (.inr (w, τ)) := by
  subst e
  exact Or.inr ⟨v, σ, τ, rfl, rfl, h⟩
variable {N : Nat} {σ τ : Nat → Int32}
theorem a_coin (h10 : N ≤ 10) (hN : σ 4 = nI N) (h : ag N σ τ) (g : v_gr N σ) (k : Int32) : v_rr (o_coin σ N k) (o_coin τ N k) := by
  unfold o_coin
  by_cases b : b_in k 0 6 = true
  · rw [if_pos b, if_pos b]
    by_cases e : N = 10
    · rw [if_pos e, if_pos e]; exact v_rl (by decide)
    · rw [if_neg e, if_neg e]
      exact v_rn rfl (v_row_i (by omega) (s_come_4 _ _ _ _ _ _ _) (s_come_ag h _ _ _ _ _) (v_come g 8 5 0 b ⟨6, by decide, rfl⟩))
  · rw [if_neg b, if_neg b]; exact v_rl (by decide)
theorem a_change (h10 : N ≤ 10) (hN : σ 4 = nI N) (h : ag N σ τ) (g : v_gr N σ) (c w v : Int32) : v_rr (o_change σ N c w v) (o_change τ N c w v) := by
  unfold o_change
  by_cases b : (b_coin c N && b_may w v) = true
  · rw [if_pos b, if_pos b]
    obtain ⟨j, hj, rfl⟩ := b_coin_ex h10 (q_and b).1
    obtain ⟨k, hk, rfl⟩ := b_in0 6 (by decide) (b_may_in (q_and b).2)
    have bm := (q_and b).2
    rw [i_nn (by omega), i_nn (by omega)]
    refine v_rn (ag_c h hj (by omega)) (v_row_i h10 (by rw [u_ne _ _ (by omega)]; exact hN) (ag_u _ _ h) (v_gr_mk g (fun i hi _ _ => u_ne _ _ (by omega)) (fun c hc => ?_)))
    by_cases e : c = j
    · subst e
      have g1 := v_co g c hc
      have g2 := v_fa g c hc
      have k4 : k ≠ 4 := fun q => by
        subst q
        revert bm
        unfold b_may
        rw [if_neg (by decide), if_neg (by decide), if_neg (by decide), if_neg (by decide), if_neg (by decide), if_neg (by decide)]
        exact fun x => nomatch x
      refine ⟨⟨?_, ?_, ?_⟩, v_gfa_e g2 (u_ne _ _ (by omega)) (u_ne _ _ (by omega))⟩
      · by_cases z : k = 0
        · subst z
          rw [u_eq]
          unfold b_may at bm
          rw [if_pos (by decide)] at bm
          exact bm
        · rw [u_ne _ _ (by omega)]; exact g1.1
      · by_cases z : k = 3
        · subst z
          rw [u_eq]
          unfold b_may at bm
          rw [if_neg (by decide), if_neg (by decide), if_neg (by decide), if_pos (by decide)] at bm
          exact b_in0 240 (by decide) bm
        · rw [u_ne _ _ (by omega)]; exact g1.2.1
      · by_cases z : k = 6
        · subst z
          rw [u_eq]
          unfold b_may at bm
          rw [if_neg (by decide), if_neg (by decide), if_neg (by decide), if_neg (by decide), if_neg (by decide), if_pos (by decide)] at bm
          exact b_in0 7 (by decide) bm
        · rw [u_ne _ _ (by omega)]; exact g1.2.2
    · exact ⟨v_gco_e (v_co g c hc) (u_ne _ _ (by omega)) (u_ne _ _ (by omega)) (u_ne _ _ (by omega)), v_gfa_e (v_fa g c hc) (u_ne _ _ (by omega)) (u_ne _ _ (by omega))⟩
  · rw [if_neg b, if_neg b]; exact v_rl (by decide)
theorem a_put (h10 : N ≤ 10) (hN : σ 4 = nI N) (h : ag N σ τ) (g : v_gr N σ) (c pl : Int32) : v_rr (o_put σ N c pl) (o_put τ N c pl) := by
  unfold o_put
  by_cases b : (b_coin c N && b_in pl 0 4) = true
  · rw [if_pos b, if_pos b]
    obtain ⟨j, hj, rfl⟩ := b_coin_ex h10 (q_and b).1
    rw [i_nn (by omega)]
    exact v_rn (ag_c h hj (by decide)) (v_row_i h10 (by rw [s_goTo_lo _ _ (by decide)]; exact hN) (s_goTo_ag h _ _) (v_goTo g _ _))
  · rw [if_neg b, if_neg b]; exact v_rl (by decide)
theorem a_rule (h10 : N ≤ 10) (hN : σ 4 = nI N) (h : ag N σ τ) (g : v_gr N σ) (w v : Int32) : v_rr (o_rule σ w v) (o_rule τ w v) := by
  unfold o_rule
  by_cases b : (b_in w 0 2 && b_in v 0 (if w = 2 then 7 else 99)) = true
  · rw [if_pos b, if_pos b]
    obtain ⟨k, hk, rfl⟩ := b_in0 2 (by decide) (q_and b).1
    have bv := (q_and b).2
    have bp : 0 ≤ v := v_in_l bv
    rw [i_nn (by omega)]
    refine v_rn (ag_0 h (by omega)) (v_row_i h10 (by rw [u_ne _ _ (by omega)]; exact hN) (ag_u _ _ h) ?_)
    obtain ⟨g0, g1, g2, g3, g4, g5, g6⟩ := g
    refine ⟨by rw [u_ne _ _ (by omega)]; exact g0, ?_, ?_, ?_, fun s hs => by rw [u_ne _ _ (by omega)]; exact g4 s hs, fun c hc => v_gco_e (g5 c hc) (u_ne _ _ (by omega)) (u_ne _ _ (by omega)) (u_ne _ _ (by omega)), fun c hc => v_gfa_e (g6 c hc) (u_ne _ _ (by omega)) (u_ne _ _ (by omega))⟩
    · by_cases z : k = 0
      · subst z
        rw [if_neg (by decide)] at bv
        rw [u_eq]
        exact b_in0 99 (by decide) bv
      · rw [u_ne _ _ (by omega)]; exact g1
    · by_cases z : k = 1
      · subst z; rw [u_eq]; exact bp
      · rw [u_ne _ _ (by omega)]; exact g2
    · by_cases z : k = 2
      · subst z; rw [u_eq]; exact bp
      · rw [u_ne _ _ (by omega)]; exact g3
  · rw [if_neg b, if_neg b]; exact v_rl (by decide)
theorem a_sew (h10 : N ≤ 10) (hN : σ 4 = nI N) (h : ag N σ τ) (g : v_gr N σ) : v_row (upd σ 1 0) (upd τ 1 0) := by
  refine v_row_i h10 (by rw [u_ne _ _ (by decide)]; exact hN) (ag_u _ _ h) ?_
  obtain ⟨g0, g1, g2, g3, g4, g5, g6⟩ := g
  exact ⟨by rw [u_ne _ _ (by omega)]; exact g0, ⟨0, by decide, u_eq _ _ _⟩, by rw [u_ne _ _ (by omega)]; exact g2, by rw [u_ne _ _ (by omega)]; exact g3, fun s hs => by rw [u_ne _ _ (by omega)]; exact g4 s hs, fun c hc => v_gco_e (g5 c hc) (u_ne _ _ (by omega)) (u_ne _ _ (by omega)) (u_ne _ _ (by omega)), fun c hc => v_gfa_e (g6 c hc) (u_ne _ _ (by omega)) (u_ne _ _ (by omega))⟩
theorem a_seed (h10 : N ≤ 10) (hN : σ 4 = nI N) (h : ag N σ τ) (g : v_gr N σ) (x : Int32) : v_row (upd σ 5 x) (upd τ 5 x) :=
  v_row_i h10 (by rw [u_ne _ _ (by decide)]; exact hN) (ag_u _ _ h) (v_up_co g (fun i _ _ h5 => h5) (fun c _ => ⟨by omega, by omega, by omega, by omega, by omega⟩))
theorem p_lie_ag (h : ag N σ τ) (pl : Int32) : ∀ c, c ≤ N → p_lie σ pl c = p_lie τ pl c
  | 0, _ => rfl
  | c + 1, hc => by rw [p_lie, p_lie, p_lie_ag h pl c (by omega), ag_c h (show c < N by omega) (show 4 < 8 by decide)]
theorem a_steps (h10 : N ≤ 10) (hN : σ 4 = nI N) (h : ag N σ τ) (g : v_gr N σ) (x : Int32) : v_rr (o_steps σ N x) (o_steps τ N x) := by
  unfold o_steps
  by_cases b : b_in x 1 100 = true
  · rw [if_pos b, if_pos b, ag_0 h (show 0 < 16 by decide)]
    by_cases e : 9999 < τ 0 + x
    · rw [if_pos e, if_pos e]; exact v_rl (by decide)
    · rw [if_neg e, if_neg e]
      obtain ⟨n, _, hn, rfl⟩ := b_in1 100 (by decide) b
      obtain ⟨s, hs, es⟩ := g.1
      rw [← ag_0 h (show 0 < 16 by decide)] at e
      have hr := v_room es rfl hs (show n < 100000 by omega) e
      rw [i_n_n (by omega)]
      refine v_rn ?_ (v_row_i h10 (by rw [s_steps_lo σ N (by decide) (by decide) (by decide)]; exact hN) (s_steps_ag h n) (v_gr_steps h10 g es n hr))
      unfold s_fell
      rw [p_lie_ag (s_steps_ag h n) 2 N (Nat.le_refl N), p_lie_ag h 2 N (Nat.le_refl N)]
  · rw [if_neg b, if_neg b]; exact v_rl (by decide)
theorem s_paid_ag (h : ag N σ τ) (set : Int32) : ∀ c, ag N (s_paid σ set c) (s_paid τ set c)
  | 0 => h
  | c + 1 => by
    rw [s_paid, s_paid]
    split
    · exact s_goTo_ag (s_paid_ag h set c) c 4
    · exact s_paid_ag h set c
theorem v_paid (g : v_gr N σ) (set : Int32) : ∀ c, v_gr N (s_paid σ set c)
  | 0 => g
  | c + 1 => by
    rw [s_paid]
    split
    · exact v_goTo (v_paid g set c) c 4
    · exact v_paid g set c
theorem a_paid (h10 : N ≤ 10) (hN : σ 4 = nI N) (h : ag N σ τ) (g : v_gr N σ) (x : Int32) : v_rr (o_paid σ N x) (o_paid τ N x) := by
  unfold o_paid
  rw [s_lie_ag h 0 N (Nat.le_refl N)]
  by_cases b : b_set x N = true
  · rw [if_pos b, if_pos b]
    by_cases e : x &&& (s_lie τ 0 N ^^^ (-1)) = 0
    · rw [if_pos e, if_pos e]
      exact v_rn (s_sum_ag (s_paid_ag h x N) 3 (by decide) _ N (Nat.le_refl N)) (v_row_i h10 (by rw [s_paid_lo σ x (by decide)]; exact hN) (s_paid_ag h x N) (v_paid g x N))
    · rw [if_neg e, if_neg e]; exact v_rl (by decide)
  · rw [if_neg b, if_neg b]; exact v_rl (by decide)
theorem v_d1 (g : v_gr N σ) : v_gr N (s_d1 σ) := v_up_co g (fun i _ _ h5 => h5) (fun c _ => ⟨by omega, by omega, by omega, by omega, by omega⟩)
theorem s_d1_ag (h : ag N σ τ) : ag N (s_d1 σ) (s_d1 τ) := by
  unfold s_d1
  rw [ag_0 h (show 5 < 16 by decide)]
  exact ag_u _ _ h
theorem v_d2 (g : v_gr N σ) : v_gr N (s_d2 σ N) := by
  unfold s_d2
  split
  · exact v_goTo (v_d1 (v_d1 g)) _ _
  · exact v_d1 (v_d1 g)
theorem s_d2_ag (h0 : 0 < N) (h : ag N σ τ) : ag N (s_d2 σ N) (s_d2 τ N) := by
  unfold s_d2 s_dp
  have h1 := s_d1_ag h
  have h2 := s_d1_ag h1
  rw [ag_0 h (show 5 < 16 by decide), ag_0 h1 (show 5 < 16 by decide), ag_c h2 (v_draw_lt (τ 5) h0) (show 4 < 8 by decide)]
  split
  · exact s_goTo_ag h2 _ _
  · exact h2
theorem s_day_ag (h0 : 0 < N) (h : ag N σ τ) : ag N (s_day σ N) (s_day τ N) := by
  unfold s_day
  have h2 := s_d2_ag h0 h
  rw [ag_0 h2 (show 5 < 16 by decide)]
  exact s_steps_ag (s_d1_ag h2) _
theorem s_days_ag (h0 : 0 < N) (h : ag N σ τ) : ∀ k, ag N (s_days σ N k) (s_days τ N k)
  | 0 => h
  | k + 1 => s_day_ag h0 (s_days_ag h0 h k)
theorem v_day (h10 : N ≤ 10) (g : v_gr N σ) {s : Nat} (hs : σ 0 = nI s) (hr : s + 7 ≤ 9999) : v_gr N (s_day σ N) ∧ ∃ s2, s2 ≤ s + 7 ∧ s_day σ N 0 = nI s2 := by
  unfold s_day
  have e0 : s_d1 (s_d2 σ N) 0 = nI s := by
    unfold s_d1
    rw [u_ne _ _ (by decide), s_d2_lo (by decide) (by decide)]
    exact hs
  have l := v_draw_lt (s_d2 σ N 5) (show 0 < 8 by decide)
  exact ⟨v_gr_steps h10 (v_d1 (v_d2 g)) e0 _ (by omega), _, by omega, v_steps_0 _ N e0 _⟩
theorem v_days (h10 : N ≤ 10) (g : v_gr N σ) {s : Nat} (hs : σ 0 = nI s) : ∀ k, s + 7 * k ≤ 9999 → v_gr N (s_days σ N k) ∧ ∃ s2, s2 ≤ s + 7 * k ∧ s_days σ N k 0 = nI s2
  | 0, _ => ⟨g, s, by omega, hs⟩
  | k + 1, hr => by
    obtain ⟨g1, s1, h1, e1⟩ := v_days h10 g hs k (by omega)
    obtain ⟨g2, s2, h2, e2⟩ := v_day h10 g1 e1 (by omega)
    exact ⟨g2, s2, by omega, e2⟩
theorem a_days (h10 : N ≤ 10) (hN : σ 4 = nI N) (h : ag N σ τ) (g : v_gr N σ) (x : Int32) : v_rr (o_days σ N x) (o_days τ N x) := by
  unfold o_days
  by_cases b : b_in x 1 12 = true
  · rw [if_pos b, if_pos b, ← ag_0 h (show 0 < 16 by decide), ← ag_0 h (show 4 < 16 by decide)]
    by_cases e : 9999 < σ 0 + 7 * x ∨ σ 4 = 0
    · rw [if_pos e, if_pos e]; exact v_rl (by decide)
    · rw [if_neg e, if_neg e]
      obtain ⟨n, _, hn, rfl⟩ := b_in1 12 (by decide) b
      obtain ⟨s, hs, es⟩ := g.1
      have h0 : 0 < N := by
        rcases Nat.eq_zero_or_pos N with z | z
        · exact absurd (Or.inr (by rw [hN, z]; rfl)) e
        · exact z
      have hr := v_room (y := 7 * nI n) es (show (nI 7 : Int32) * nI n = nI (7 * n) from (Int32.ofNat_mul 7 n).symm) hs (show 7 * n < 100000 by omega) (fun q => e (Or.inl q))
      rw [i_n_n (by omega)]
      have ha := s_days_ag h0 h n
      rw [s_lie_ag ha 2 N (Nat.le_refl N), s_sum_ag ha 3 (by decide) _ N (Nat.le_refl N)]
      exact v_rn rfl (v_row_i h10 (by rw [s_days_4]; exact hN) ha (v_days h10 g es n hr).1)
  · rw [if_neg b, if_neg b]; exact v_rl (by decide)
theorem a_hold (h10 : N ≤ 10) (hN : σ 4 = nI N) (h : ag N σ τ) (g : v_gr N σ) (s c : Int32) : v_rr (o_hold σ N s c) (o_hold τ N s c) := by
  unfold o_hold
  by_cases b : (b_in s 0 9 && (decide (c = -1) || b_coin c N)) = true
  · rw [if_pos b, if_pos b]
    obtain ⟨k, hk, rfl⟩ := b_in0 9 (by decide) (q_and b).1
    have bc := (q_and b).2
    rw [i_nn (by omega)]
    refine v_rn rfl (v_row_i h10 (by rw [u_ne _ _ (by omega)]; exact hN) (ag_u _ _ h) ?_)
    obtain ⟨g0, g1, g2, g3, g4, g5, g6⟩ := g
    refine ⟨by rw [u_ne _ _ (by omega)]; exact g0, by rw [u_ne _ _ (by omega)]; exact g1, by rw [u_ne _ _ (by omega)]; exact g2, by rw [u_ne _ _ (by omega)]; exact g3, fun s hs => ?_, fun c hc => v_gco_e (g5 c hc) (u_ne _ _ (by omega)) (u_ne _ _ (by omega)) (u_ne _ _ (by omega)), fun c hc => v_gfa_e (g6 c hc) (u_ne _ _ (by omega)) (u_ne _ _ (by omega))⟩
    by_cases z : s = k
    · subst z
      rw [u_eq]
      rw [Bool.or_eq_true] at bc
      rcases bc with y | y
      · exact Or.inl (of_decide_eq_true y)
      · obtain ⟨j, hj, ej⟩ := b_coin_ex h10 y
        exact Or.inr ⟨j, hj, ej⟩
    · rw [u_ne _ _ (by omega)]; exact g4 s hs
  · rw [if_neg b, if_neg b]; exact v_rl (by decide)
theorem s_ldr_ag (h : ag N σ τ) (ν : Nat → Int32) (s : Nat) : ∀ k, ag N (s_ldr σ ν s k) (s_ldr τ ν s k)
  | 0 => h
  | k + 1 => ag_u _ _ (s_ldr_ag h ν s k)
theorem v_ldr (g : v_gr N σ) (ν : Nat → Int32) (s : Nat) : ∀ k, v_gr N (s_ldr σ ν s k)
  | 0 => g
  | k + 1 => v_up_co (v_ldr g ν s k) (fun i hi _ _ => by omega) (fun c _ => ⟨by omega, by omega, by omega, by omega, by omega⟩)
theorem v_so (h10 : N ≤ 10) (hN : σ 4 = nI N) (g : v_gr N σ) {i : zIt} (hi : i_ok i (nI N)) : ∃ N', N' ≤ 10 ∧ s_so σ i 4 = nI N' ∧ v_gr N' (s_so σ i) ∧ i_then i (nI N) = nI N' := by
  rcases hi with ⟨e, b⟩ | ⟨e, b, b2⟩ | ⟨b, hc, b1, b2, b3, b4⟩
  · unfold s_so i_then
    rw [if_pos e, if_neg (by rw [e]; decide)]
    refine ⟨N, h10, by rw [u_ne _ _ (by decide)]; exact hN, ?_, rfl⟩
    obtain ⟨g0, g1, g2, g3, g4, g5, g6⟩ := g
    exact ⟨by rw [u_ne _ _ (by omega)]; exact g0, by rw [u_eq]; exact b_in0 99 (by decide) b, by rw [u_ne _ _ (by omega)]; exact g2, by rw [u_ne _ _ (by omega)]; exact g3, fun s hs => by rw [u_ne _ _ (by omega)]; exact g4 s hs, fun c hc => v_gco_e (g5 c hc) (u_ne _ _ (by omega)) (u_ne _ _ (by omega)) (u_ne _ _ (by omega)), fun c hc => v_gfa_e (g6 c hc) (u_ne _ _ (by omega)) (u_ne _ _ (by omega))⟩
  · unfold s_so i_then
    rw [if_neg (by rw [e]; decide), if_pos e, if_neg (by rw [e]; decide)]
    refine ⟨N, h10, by rw [u_ne _ _ (by decide), u_ne _ _ (by decide)]; exact hN, ?_, rfl⟩
    obtain ⟨g0, g1, g2, g3, g4, g5, g6⟩ := g
    exact ⟨by rw [u_ne _ _ (by omega), u_ne _ _ (by omega)]; exact g0, by rw [u_ne _ _ (by omega), u_ne _ _ (by omega)]; exact g1, by rw [u_ne _ _ (by omega), u_eq]; exact v_in_l b, by rw [u_eq]; exact v_in_l b2, fun s hs => by rw [u_ne _ _ (by omega), u_ne _ _ (by omega)]; exact g4 s hs, fun c hc => v_gco_e (g5 c hc) (by rw [u_ne _ _ (by omega), u_ne _ _ (by omega)]) (by rw [u_ne _ _ (by omega), u_ne _ _ (by omega)]) (by rw [u_ne _ _ (by omega), u_ne _ _ (by omega)]), fun c hc => v_gfa_e (g6 c hc) (by rw [u_ne _ _ (by omega), u_ne _ _ (by omega)]) (by rw [u_ne _ _ (by omega), u_ne _ _ (by omega)])⟩
  · obtain ⟨k, hk, ek⟩ := b_in0 6 (by decide) b
    have l10 : i.1 < 10 := by rw [ek]; exact nI_lt (a := k) (b := 10) (by omega) (by decide)
    have n10 : i.1 ≠ 10 := fun q => by rw [q] at l10; exact absurd l10 (by decide)
    have n11 : i.1 ≠ 11 := fun q => by rw [q] at l10; exact absurd l10 (by decide)
    have hN10 : N < 10 := by
      rcases Nat.lt_or_ge N 10 with z | z
      · exact z
      · rw [show N = 10 by omega] at hc; exact absurd hc (by decide)
    unfold s_so i_then
    rw [if_neg n10, if_neg n11, if_pos l10, hN, i_nn hN10]
    exact ⟨N + 1, by omega, s_come_4 _ _ _ _ _ _ _, v_come g _ _ _ b (b_in0 240 (by decide) b3), (nI_succ N).symm⟩
theorem v_sos (h10 : N ≤ 10) (hN : σ 4 = nI N) (g : v_gr N σ) (ω : Nat → Int32) : ∀ m, (∀ k, k < m → i_ok (i_at ω k) (i_cnt ω (nI N) k)) → ∃ N', N' ≤ 10 ∧ s_sos σ ω m 4 = nI N' ∧ v_gr N' (s_sos σ ω m) ∧ i_cnt ω (nI N) m = nI N'
  | 0, _ => ⟨N, h10, hN, g, rfl⟩
  | m + 1, h => by
    obtain ⟨N1, a1, a2, a3, a4⟩ := v_sos h10 hN g ω m (fun k hk => h k (by omega))
    have hi := h m (by omega)
    rw [a4] at hi
    obtain ⟨N2, b1, b2, b3, b4⟩ := v_so a1 a2 a3 hi
    exact ⟨N2, b1, b2, b3, by rw [i_cnt, a4]; exact b4⟩
theorem s_sos_ag (h10 : N ≤ 10) (hN : σ 4 = nI N) (h : ag N σ τ) (ω : Nat → Int32) : ∀ m, (∀ k, k < m → i_ok (i_at ω k) (i_cnt ω (nI N) k)) → ∃ N', N' ≤ 10 ∧ s_sos σ ω m 4 = nI N' ∧ ag N' (s_sos σ ω m) (s_sos τ ω m) ∧ i_cnt ω (nI N) m = nI N'
  | 0, _ => ⟨N, h10, hN, h, rfl⟩
  | m + 1, hk => by
    obtain ⟨N1, a1, a2, a3, a4⟩ := s_sos_ag h10 hN h ω m (fun k q => hk k (by omega))
    have hi := hk m (by omega)
    rw [a4] at hi
    obtain ⟨N2, b1, b2, b3, b4⟩ := s_so_ag a1 a3 a2 hi
    exact ⟨N2, b1, b2, b3, by rw [i_cnt, a4]; exact b4⟩
