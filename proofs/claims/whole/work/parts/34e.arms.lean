/-! EVERY CALL, IN BOTH -/
theorem v_hfa {N : Nat} {σ : Nat → Int32} (g : v_gr N σ) : ∀ c, c < N → decide (¬ σ (16 + 8 * c + 7) = -1) = s_fallen σ c := by
  intro c hc
  unfold s_fallen
  rcases v_fa g c hc with e | ⟨e1, e2⟩
  · rw [e, decide_eq_false (fun z => z rfl), show decide ((0 : Int32) ≤ -1) = false by decide, Bool.and_false]
  · have ne : ¬ σ (16 + 8 * c + 7) = -1 := fun q => by rw [q] at e2; exact absurd e2 (by decide)
    rw [decide_eq_true ne, decide_eq_true e1, decide_eq_true e2]; rfl
theorem v_hce {N : Nat} (h10 : N ≤ 10) {σ : Nat → Int32} (g : v_gr N σ) : ∀ n c, c < N → ¬ s_steps σ N n (16 + 8 * c + 6) < 0 := by
  intro n c hc
  obtain ⟨_, _, k, hk, e⟩ := v_steps_gco h10 (v_co g) n c hc
  rw [e]
  exact nI_pos (by omega)
theorem v_h1 {N : Nat} {σ : Nat → Int32} (g : v_gr N σ) : 0 ≤ σ 1 := by
  obtain ⟨u, hu, e⟩ := g.2.1
  rw [e]
  exact nI_pos' (by omega)
theorem v_spn {N : Nat} (h10 : N ≤ 10) {σ : Nat → Int32} (g : v_gr N σ) : ∀ s, s < 10 → σ (6 + s) = -1 ∨ 0 ≤ σ (6 + s) := fun s hs => by
  rcases g.2.2.2.2.1 s hs with e | ⟨j, hj, e⟩
  · exact Or.inl e
  · right; rw [e]; exact nI_pos' (by omega)
theorem v_sp10 {N : Nat} (h10 : N ≤ 10) {σ : Nat → Int32} (g : v_gr N σ) : ∀ s, s < 10 → σ (6 + s) = -1 ∨ ∃ j, j < 10 ∧ σ (6 + s) = nI j := fun s hs => by
  rcases g.2.2.2.2.1 s hs with e | ⟨j, hj, e⟩
  · exact Or.inl e
  · exact Or.inr ⟨j, by omega, e⟩
theorem v_pen {N : Nat} {σ : Nat → Int32} (g : v_gr N σ) : ∀ c, c < N → ∃ p, p ≤ 240 ∧ σ (16 + 8 * c + 3) = nI p := fun c hc => (v_co g c hc).2.1
theorem v_kd {N : Nat} {σ : Nat → Int32} (g : v_gr N σ) : ∀ c, c < N → b_in (σ (16 + 8 * c + 0)) 0 6 = true := fun c hc => (v_co g c hc).1
theorem v2_e2 {r s : Int32} {D E D2 E2 : zD} (e : r = s) (h : v_Inv D2 E2) : v_two (z_eq r D2) (z_eq s E2) := by
  subst e
  exact v2_e (D := D) (E := E) h
theorem v_m_coin {D E : zD} (h : v_Inv D E) (x1 : Int32) : ∃ P Q, z_CI SX zT yX4_coin cX4_coin 2 .int 3 [.ref 0, .int x1] D P ∧ z_CI SM zT yX5_coin cX5_coin 2 .int 3 [.ref 0, .int x1] E Q ∧ v_two P Q := by
  obtain ⟨N, h10, hN, hag, hg⟩ := h.1
  have hN5 : E.1 1 4 = nI N := (ag_0 hag (by decide)).symm.trans hN
  have hg5 : v_gr N (E.1 1) := v_gr_ag hag hg
  obtain ⟨t, ht120, ht, ht5, hby⟩ := v_tp h
  have hsz5 : ∀ s, s < 4 → ∃ k, k ≤ 40 ∧ E.1 13 s = nI k := by rw [← v_e13 h]; exact v_sz h
  exact ⟨_, _, (c4_coin D x1 hN h10), (c5_coin E x1 hN5 h10), v2_r h (a_coin h10 hN hag hg x1)⟩
theorem v_m_of {D E : zD} (h : v_Inv D E) (x1 x2 : Int32) : ∃ P Q, z_CI SX zT yX4_of cX4_of 3 .int 3 [.ref 0, .int x1, .int x2] D P ∧ z_CI SM zT yX5_of cX5_of 3 .int 4 [.ref 0, .int x1, .int x2] E Q ∧ v_two P Q := by
  obtain ⟨N, h10, hN, hag, hg⟩ := h.1
  have hN5 : E.1 1 4 = nI N := (ag_0 hag (by decide)).symm.trans hN
  have hg5 : v_gr N (E.1 1) := v_gr_ag hag hg
  obtain ⟨t, ht120, ht, ht5, hby⟩ := v_tp h
  have hsz5 : ∀ s, s < 4 → ∃ k, k ≤ 40 ∧ E.1 13 s = nI k := by rw [← v_e13 h]; exact v_sz h
  exact ⟨_, _, (c4_of D x1 x2 hN h10), (c5_of E x1 x2 hN5 h10), v2_x h (o_of_ag h10 hag x1 x2) (by intro k hk; unfold o_of at hk; (repeat' split at hk) <;> first | (cases hk; done) | (cases hk; decide))⟩
theorem v_m_change {D E : zD} (h : v_Inv D E) (x1 x2 x3 : Int32) : ∃ P Q, z_CI SX zT yX4_change cX4_change 6 .int 3 [.ref 0, .int x1, .int x2, .int x3] D P ∧ z_CI SM zT yX5_change cX5_change 5 .int 2 [.ref 0, .int x1, .int x2, .int x3] E Q ∧ v_two P Q := by
  obtain ⟨N, h10, hN, hag, hg⟩ := h.1
  have hN5 : E.1 1 4 = nI N := (ag_0 hag (by decide)).symm.trans hN
  have hg5 : v_gr N (E.1 1) := v_gr_ag hag hg
  obtain ⟨t, ht120, ht, ht5, hby⟩ := v_tp h
  have hsz5 : ∀ s, s < 4 → ∃ k, k ≤ 40 ∧ E.1 13 s = nI k := by rw [← v_e13 h]; exact v_sz h
  exact ⟨_, _, (c4_change D x1 x2 x3 hN h10), (c5_change E x1 x2 x3 hN5 h10 (v_cm h)), v2_r h (a_change h10 hN hag hg x1 x2 x3)⟩
theorem v_m_put {D E : zD} (h : v_Inv D E) (x1 x2 : Int32) : ∃ P Q, z_CI SX zT yX4_put cX4_put 4 .int 2 [.ref 0, .int x1, .int x2] D P ∧ z_CI SM zT yX5_put cX5_put 3 .int 2 [.ref 0, .int x1, .int x2] E Q ∧ v_two P Q := by
  obtain ⟨N, h10, hN, hag, hg⟩ := h.1
  have hN5 : E.1 1 4 = nI N := (ag_0 hag (by decide)).symm.trans hN
  have hg5 : v_gr N (E.1 1) := v_gr_ag hag hg
  obtain ⟨t, ht120, ht, ht5, hby⟩ := v_tp h
  have hsz5 : ∀ s, s < 4 → ∃ k, k ≤ 40 ∧ E.1 13 s = nI k := by rw [← v_e13 h]; exact v_sz h
  exact ⟨_, _, (c4_put D x1 x2 hN h10), (c5_put E x1 x2 hN5 h10), v2_r h (a_put h10 hN hag hg x1 x2)⟩
theorem v_m_rule {D E : zD} (h : v_Inv D E) (x1 x2 : Int32) : ∃ P Q, z_CI SX zT yX4_rule cX4_rule 4 .int 2 [.ref 0, .int x1, .int x2] D P ∧ z_CI SM zT yX5_rule cX5_rule 4 .int 2 [.ref 0, .int x1, .int x2] E Q ∧ v_two P Q := by
  obtain ⟨N, h10, hN, hag, hg⟩ := h.1
  have hN5 : E.1 1 4 = nI N := (ag_0 hag (by decide)).symm.trans hN
  have hg5 : v_gr N (E.1 1) := v_gr_ag hag hg
  obtain ⟨t, ht120, ht, ht5, hby⟩ := v_tp h
  have hsz5 : ∀ s, s < 4 → ∃ k, k ≤ 40 ∧ E.1 13 s = nI k := by rw [← v_e13 h]; exact v_sz h
  exact ⟨_, _, (c4_rule D x1 x2), (c5_rule E x1 x2), v2_r h (a_rule h10 hN hag hg x1 x2)⟩
theorem v_m_sew {D E : zD} (h : v_Inv D E) : ∃ P Q, z_CI SX zT yX4_sew cX4_sew 2 .int 0 [.ref 0] D P ∧ z_CI SM zT yX5_sew cX5_sew 1 .int 1 [.ref 0] E Q ∧ v_two P Q := by
  obtain ⟨N, h10, hN, hag, hg⟩ := h.1
  have hN5 : E.1 1 4 = nI N := (ag_0 hag (by decide)).symm.trans hN
  have hg5 : v_gr N (E.1 1) := v_gr_ag hag hg
  obtain ⟨t, ht120, ht, ht5, hby⟩ := v_tp h
  have hsz5 : ∀ s, s < 4 → ∃ k, k ≤ 40 ∧ E.1 13 s = nI k := by rw [← v_e13 h]; exact v_sz h
  exact ⟨_, _, (c4_sew D), (c5_sew E), v2_e2 (D := D) (E := E) (ag_0 hag (by decide)) (v_row1 h (a_sew h10 hN hag hg))⟩
theorem v_m_lie {D E : zD} (h : v_Inv D E) (x1 : Int32) : ∃ P Q, z_CI SX zT yX4_lie cX4_lie 2 .int 2 [.ref 0, .int x1] D P ∧ z_CI SM zT yX5_lie cX5_lie 2 .int 4 [.ref 0, .int x1] E Q ∧ v_two P Q := by
  obtain ⟨N, h10, hN, hag, hg⟩ := h.1
  have hN5 : E.1 1 4 = nI N := (ag_0 hag (by decide)).symm.trans hN
  have hg5 : v_gr N (E.1 1) := v_gr_ag hag hg
  obtain ⟨t, ht120, ht, ht5, hby⟩ := v_tp h
  have hsz5 : ∀ s, s < 4 → ∃ k, k ≤ 40 ∧ E.1 13 s = nI k := by rw [← v_e13 h]; exact v_sz h
  exact ⟨_, _, (c4_lie D x1 hN h10), (c5_lie E x1 hN5 h10), v2_x h (o_lie_ag hag x1) (by intro k hk; unfold o_lie at hk; (repeat' split at hk) <;> first | (cases hk; done) | (cases hk; decide))⟩
theorem v_m_pence {D E : zD} (h : v_Inv D E) (x1 : Int32) : ∃ P Q, z_CI SX zT yX4_pence cX4_pence 2 .int 2 [.ref 0, .int x1] D P ∧ z_CI SM zT yX5_pence cX5_pence 2 .int 4 [.ref 0, .int x1] E Q ∧ v_two P Q := by
  obtain ⟨N, h10, hN, hag, hg⟩ := h.1
  have hN5 : E.1 1 4 = nI N := (ag_0 hag (by decide)).symm.trans hN
  have hg5 : v_gr N (E.1 1) := v_gr_ag hag hg
  obtain ⟨t, ht120, ht, ht5, hby⟩ := v_tp h
  have hsz5 : ∀ s, s < 4 → ∃ k, k ≤ 40 ∧ E.1 13 s = nI k := by rw [← v_e13 h]; exact v_sz h
  exact ⟨_, _, (c4_pence D x1 hN h10), (c5_pence E x1 hN5 h10), v2_x h (o_pence_ag hag x1) (by intro k hk; unfold o_pence at hk; (repeat' split at hk) <;> first | (cases hk; done) | (cases hk; decide))⟩
theorem v_m_steps {D E : zD} (h : v_Inv D E) (x1 : Int32) : ∃ P Q, z_CI SX zT yX4_steps cX4_steps 3 .int 5 [.ref 0, .int x1] D P ∧ z_CI SM zT yX5_steps cX5_steps 2 .int 6 [.ref 0, .int x1] E Q ∧ v_two P Q := by
  obtain ⟨N, h10, hN, hag, hg⟩ := h.1
  have hN5 : E.1 1 4 = nI N := (ag_0 hag (by decide)).symm.trans hN
  have hg5 : v_gr N (E.1 1) := v_gr_ag hag hg
  obtain ⟨t, ht120, ht, ht5, hby⟩ := v_tp h
  have hsz5 : ∀ s, s < 4 → ∃ k, k ≤ 40 ∧ E.1 13 s = nI k := by rw [← v_e13 h]; exact v_sz h
  exact ⟨_, _, (c4_steps D x1 hN h10), (c5_steps E x1 hN5 h10), v2_r h (a_steps h10 hN hag hg x1)⟩
theorem v_m_now {D E : zD} (h : v_Inv D E) (x1 : Int32) : ∃ P Q, z_CI SX zT yX4_now cX4_now 2 .int 2 [.ref 0, .int x1] D P ∧ z_CI SM zT yX5_now cX5_now 2 .int 4 [.ref 0, .int x1] E Q ∧ v_two P Q := by
  obtain ⟨N, h10, hN, hag, hg⟩ := h.1
  have hN5 : E.1 1 4 = nI N := (ag_0 hag (by decide)).symm.trans hN
  have hg5 : v_gr N (E.1 1) := v_gr_ag hag hg
  obtain ⟨t, ht120, ht, ht5, hby⟩ := v_tp h
  have hsz5 : ∀ s, s < 4 → ∃ k, k ≤ 40 ∧ E.1 13 s = nI k := by rw [← v_e13 h]; exact v_sz h
  exact ⟨_, _, (c4_now D x1 hN h10), (c5_now E x1 hN5 h10), v2_x h (o_now_ag hag x1) (by intro k hk; unfold o_now at hk; (repeat' split at hk) <;> first | (cases hk; done) | (cases hk; decide))⟩
theorem v_m_ahead {D E : zD} (h : v_Inv D E) (x1 x2 : Int32) : ∃ P Q, z_CI SX zT yX4_ahead cX4_ahead 3 .int 5 [.ref 0, .int x1, .int x2] D P ∧ z_CI SM zT yX5_ahead cX5_ahead 6 .int 6 [.ref 0, .int x1, .int x2] E Q ∧ v_two P Q := by
  obtain ⟨N, h10, hN, hag, hg⟩ := h.1
  have hN5 : E.1 1 4 = nI N := (ag_0 hag (by decide)).symm.trans hN
  have hg5 : v_gr N (E.1 1) := v_gr_ag hag hg
  obtain ⟨t, ht120, ht, ht5, hby⟩ := v_tp h
  have hsz5 : ∀ s, s < 4 → ∃ k, k ≤ 40 ∧ E.1 13 s = nI k := by rw [← v_e13 h]; exact v_sz h
  exact ⟨_, _, (c4_ahead D x1 x2 hN h10), (c5_ahead E x1 x2 hN5 h10), v2_q h (o_ahead_ag hag x1 x2) (by intro k hk; unfold o_ahead at hk; (repeat' split at hk) <;> first | (cases hk; done) | (cases hk; decide))⟩
theorem v_m_when {D E : zD} (h : v_Inv D E) (x1 : Int32) : ∃ P Q, z_CI SX zT yX4_when cX4_when 3 .int 5 [.ref 0, .int x1] D P ∧ z_CI SM zT yX5_when cX5_when 2 .int 8 [.ref 0, .int x1] E Q ∧ v_two P Q := by
  obtain ⟨N, h10, hN, hag, hg⟩ := h.1
  have hN5 : E.1 1 4 = nI N := (ag_0 hag (by decide)).symm.trans hN
  have hg5 : v_gr N (E.1 1) := v_gr_ag hag hg
  obtain ⟨t, ht120, ht, ht5, hby⟩ := v_tp h
  have hsz5 : ∀ s, s < 4 → ∃ k, k ≤ 40 ∧ E.1 13 s = nI k := by rw [← v_e13 h]; exact v_sz h
  exact ⟨_, _, (c4_when D x1 hN h10 hg.1), (c5_when E x1 hN5 h10), v2_q h (o_till_ag h10 hag x1 false) (by intro k hk; unfold o_till at hk; (repeat' split at hk) <;> first | (cases hk; done) | (cases hk; decide))⟩
theorem v_m_falls {D E : zD} (h : v_Inv D E) (x1 : Int32) : ∃ P Q, z_CI SX zT yX4_falls cX4_falls 3 .int 5 [.ref 0, .int x1] D P ∧ z_CI SM zT yX5_falls cX5_falls 2 .int 8 [.ref 0, .int x1] E Q ∧ v_two P Q := by
  obtain ⟨N, h10, hN, hag, hg⟩ := h.1
  have hN5 : E.1 1 4 = nI N := (ag_0 hag (by decide)).symm.trans hN
  have hg5 : v_gr N (E.1 1) := v_gr_ag hag hg
  obtain ⟨t, ht120, ht, ht5, hby⟩ := v_tp h
  have hsz5 : ∀ s, s < 4 → ∃ k, k ≤ 40 ∧ E.1 13 s = nI k := by rw [← v_e13 h]; exact v_sz h
  exact ⟨_, _, (c4_falls D x1 hN h10 hg.1), (c5_falls E x1 hN5 h10), v2_q h (o_till_ag h10 hag x1 true) (by intro k hk; unfold o_till at hk; (repeat' split at hk) <;> first | (cases hk; done) | (cases hk; decide))⟩
theorem v_m_first {D E : zD} (h : v_Inv D E) : ∃ P Q, z_CI SX zT yX4_first cX4_first 4 .int 5 [.ref 0] D P ∧ z_CI SM zT yX5_first cX5_first 5 .int 7 [.ref 0] E Q ∧ v_two P Q := by
  obtain ⟨N, h10, hN, hag, hg⟩ := h.1
  have hN5 : E.1 1 4 = nI N := (ag_0 hag (by decide)).symm.trans hN
  have hg5 : v_gr N (E.1 1) := v_gr_ag hag hg
  obtain ⟨t, ht120, ht, ht5, hby⟩ := v_tp h
  have hsz5 : ∀ s, s < 4 → ∃ k, k ≤ 40 ∧ E.1 13 s = nI k := by rw [← v_e13 h]; exact v_sz h
  exact ⟨_, _, (c4_first D hN h10 hg.1), (c5_first E hN5 h10), v2_q h (o_first_ag hag) (by intro k hk; unfold o_first at hk; (repeat' split at hk) <;> first | (cases hk; done) | (cases hk; decide))⟩
theorem v_m_cell {D E : zD} (h : v_Inv D E) (x1 x2 : Int32) : ∃ P Q, z_CI SX zT yX4_cell cX4_cell 4 .int 5 [.ref 0, .int x1, .int x2] D P ∧ z_CI SM zT yX5_cell cX5_cell 5 .int 6 [.ref 0, .int x1, .int x2] E Q ∧ v_two P Q := by
  obtain ⟨N, h10, hN, hag, hg⟩ := h.1
  have hN5 : E.1 1 4 = nI N := (ag_0 hag (by decide)).symm.trans hN
  have hg5 : v_gr N (E.1 1) := v_gr_ag hag hg
  obtain ⟨t, ht120, ht, ht5, hby⟩ := v_tp h
  have hsz5 : ∀ s, s < 4 → ∃ k, k ≤ 40 ∧ E.1 13 s = nI k := by rw [← v_e13 h]; exact v_sz h
  exact ⟨_, _, (c4_cell D x1 x2 hN h10 (v_hce h10 hg)), (c5_cell E x1 x2 hN5 h10), v2_q h (o_cell_ag h10 hag x1 x2) (by intro k hk; unfold o_cell at hk; (repeat' split at hk) <;> first | (cases hk; done) | (cases hk; decide))⟩
theorem v_m_bears {D E : zD} (h : v_Inv D E) (x1 x2 : Int32) : ∃ P Q, z_CI SX zT yX4_bears cX4_bears 4 .int 6 [.ref 0, .int x1, .int x2] D P ∧ z_CI SM zT yX5_bears cX5_bears 6 .int 6 [.ref 0, .int x1, .int x2] E Q ∧ v_two P Q := by
  obtain ⟨N, h10, hN, hag, hg⟩ := h.1
  have hN5 : E.1 1 4 = nI N := (ag_0 hag (by decide)).symm.trans hN
  have hg5 : v_gr N (E.1 1) := v_gr_ag hag hg
  obtain ⟨t, ht120, ht, ht5, hby⟩ := v_tp h
  have hsz5 : ∀ s, s < 4 → ∃ k, k ≤ 40 ∧ E.1 13 s = nI k := by rw [← v_e13 h]; exact v_sz h
  exact ⟨_, _, (c4_bears D x1 x2 hN h10), (c5_bears E x1 x2 hN5 h10), v2_q h (o_bears_ag h10 hag x1 x2) (by intro k hk; unfold o_bears q_opt at hk; (repeat' split at hk) <;> first | (cases hk; done) | (cases hk; decide))⟩
theorem v_m_latest {D E : zD} (h : v_Inv D E) (x1 x2 : Int32) : ∃ P Q, z_CI SX zT yX4_latest cX4_latest 4 .int 6 [.ref 0, .int x1, .int x2] D P ∧ z_CI SM zT yX5_latest cX5_latest 8 .int 7 [.ref 0, .int x1, .int x2] E Q ∧ v_two P Q := by
  obtain ⟨N, h10, hN, hag, hg⟩ := h.1
  have hN5 : E.1 1 4 = nI N := (ag_0 hag (by decide)).symm.trans hN
  have hg5 : v_gr N (E.1 1) := v_gr_ag hag hg
  obtain ⟨t, ht120, ht, ht5, hby⟩ := v_tp h
  have hsz5 : ∀ s, s < 4 → ∃ k, k ≤ 40 ∧ E.1 13 s = nI k := by rw [← v_e13 h]; exact v_sz h
  exact ⟨_, _, (c4_latest D x1 x2 hN h10), (c5_latest E x1 x2 hN5 h10), v2_q h (o_latest_ag hag x1 x2) (by intro k hk; unfold o_latest q_opt at hk; (repeat' split at hk) <;> first | (cases hk; done) | (cases hk; decide))⟩
theorem v_m_carry {D E : zD} (h : v_Inv D E) (x1 : Int32) : ∃ P Q, z_CI SX zT yX4_carry cX4_carry 2 .int 7 [.ref 0, .int x1] D P ∧ z_CI SM zT yX5_carry cX5_carry 3 .int 8 [.ref 0, .int x1] E Q ∧ v_two P Q := by
  obtain ⟨N, h10, hN, hag, hg⟩ := h.1
  have hN5 : E.1 1 4 = nI N := (ag_0 hag (by decide)).symm.trans hN
  have hg5 : v_gr N (E.1 1) := v_gr_ag hag hg
  obtain ⟨t, ht120, ht, ht5, hby⟩ := v_tp h
  have hsz5 : ∀ s, s < 4 → ∃ k, k ≤ 40 ∧ E.1 13 s = nI k := by rw [← v_e13 h]; exact v_sz h
  exact ⟨_, _, (c4_carry D x1 hN h10), (c5_carry E x1 hN5 h10), v2_q h (o_carry_ag hag x1) (by intro k hk; unfold o_carry at hk; (repeat' split at hk) <;> first | (cases hk; done) | (cases hk; decide))⟩
theorem v_m_carried {D E : zD} (h : v_Inv D E) (x1 : Int32) : ∃ P Q, z_CI SX zT yX4_carried cX4_carried 2 .int 7 [.ref 0, .int x1] D P ∧ z_CI SM zT yX5_carried cX5_carried 3 .int 8 [.ref 0, .int x1] E Q ∧ v_two P Q := by
  obtain ⟨N, h10, hN, hag, hg⟩ := h.1
  have hN5 : E.1 1 4 = nI N := (ag_0 hag (by decide)).symm.trans hN
  have hg5 : v_gr N (E.1 1) := v_gr_ag hag hg
  obtain ⟨t, ht120, ht, ht5, hby⟩ := v_tp h
  have hsz5 : ∀ s, s < 4 → ∃ k, k ≤ 40 ∧ E.1 13 s = nI k := by rw [← v_e13 h]; exact v_sz h
  exact ⟨_, _, (c4_carried D x1 hN h10), (c5_carried E x1 hN5 h10), v2_q h (o_carried_ag hag x1) (by intro k hk; unfold o_carried at hk; (repeat' split at hk) <;> first | (cases hk; done) | (cases hk; decide))⟩
theorem v_m_kindFor {D E : zD} (h : v_Inv D E) (x1 : Int32) : ∃ P Q, z_CI SX zT yX4_kindFor cX4_kindFor 6 .int 5 [.ref 0, .int x1] D P ∧ z_CI SM zT yX5_kindFor cX5_kindFor 7 .int 7 [.ref 0, .int x1] E Q ∧ v_two P Q := by
  obtain ⟨N, h10, hN, hag, hg⟩ := h.1
  have hN5 : E.1 1 4 = nI N := (ag_0 hag (by decide)).symm.trans hN
  have hg5 : v_gr N (E.1 1) := v_gr_ag hag hg
  obtain ⟨t, ht120, ht, ht5, hby⟩ := v_tp h
  have hsz5 : ∀ s, s < 4 → ∃ k, k ≤ 40 ∧ E.1 13 s = nI k := by rw [← v_e13 h]; exact v_sz h
  exact ⟨_, _, (c4_kindFor D x1 hN h10 hg.1), (c5_kindFor E x1 hN5 h10), v2_q h (o_kindFor_ag h10 hag x1) (by intro k hk; unfold o_kindFor at hk; (repeat' split at hk) <;> first | (cases hk; done) | (cases hk; decide))⟩
theorem v_m_worst {D E : zD} (h : v_Inv D E) (x1 : Int32) : ∃ P Q, z_CI SX zT yX4_worst cX4_worst 6 .int 6 [.ref 0, .int x1] D P ∧ z_CI SM zT yX5_worst cX5_worst 9 .int 7 [.ref 0, .int x1] E Q ∧ v_two P Q := by
  obtain ⟨N, h10, hN, hag, hg⟩ := h.1
  have hN5 : E.1 1 4 = nI N := (ag_0 hag (by decide)).symm.trans hN
  have hg5 : v_gr N (E.1 1) := v_gr_ag hag hg
  obtain ⟨t, ht120, ht, ht5, hby⟩ := v_tp h
  have hsz5 : ∀ s, s < 4 → ∃ k, k ≤ 40 ∧ E.1 13 s = nI k := by rw [← v_e13 h]; exact v_sz h
  exact ⟨_, _, (c4_worst D x1 hN h10), (c5_worst E x1 hN5 h10), v2_q h (o_worst_ag hag x1) (by intro k hk; unfold o_worst at hk; (repeat' split at hk) <;> first | (cases hk; done) | (cases hk; decide))⟩
theorem v_m_hem {D E : zD} (h : v_Inv D E) (x1 : Int32) : ∃ P Q, z_CI SX zT yX4_hem cX4_hem 6 .int 6 [.ref 0, .int x1] D P ∧ z_CI SM zT yX5_hem cX5_hem 8 .int 7 [.ref 0, .int x1] E Q ∧ v_two P Q := by
  obtain ⟨N, h10, hN, hag, hg⟩ := h.1
  have hN5 : E.1 1 4 = nI N := (ag_0 hag (by decide)).symm.trans hN
  have hg5 : v_gr N (E.1 1) := v_gr_ag hag hg
  obtain ⟨t, ht120, ht, ht5, hby⟩ := v_tp h
  have hsz5 : ∀ s, s < 4 → ∃ k, k ≤ 40 ∧ E.1 13 s = nI k := by rw [← v_e13 h]; exact v_sz h
  exact ⟨_, _, (c4_hem D x1 hN h10), (c5_hem E x1 hN5 h10), v2_q h (o_hem_ag hag x1) (by intro k hk; unfold o_hem at hk; (repeat' split at hk) <;> first | (cases hk; done) | (cases hk; decide))⟩
theorem v_m_pay {D E : zD} (h : v_Inv D E) (x1 : Int32) : ∃ P Q, z_CI SX zT yX4_pay cX4_pay 7 .int 3 [.ref 0, .int x1] D P ∧ z_CI SM zT yX5_pay cX5_pay 3 .int 6 [.ref 0, .int x1] E Q ∧ v_two P Q := by
  obtain ⟨N, h10, hN, hag, hg⟩ := h.1
  have hN5 : E.1 1 4 = nI N := (ag_0 hag (by decide)).symm.trans hN
  have hg5 : v_gr N (E.1 1) := v_gr_ag hag hg
  obtain ⟨t, ht120, ht, ht5, hby⟩ := v_tp h
  have hsz5 : ∀ s, s < 4 → ∃ k, k ≤ 40 ∧ E.1 13 s = nI k := by rw [← v_e13 h]; exact v_sz h
  exact ⟨_, _, (c4_pay D x1 hN h10), (c5_pay E x1 hN5 h10), v2_x h (o_payw_ag hag x1 (-1) true) (by intro k hk; unfold o_payw at hk; (repeat' split at hk) <;> first | (cases hk; done) | (cases hk; decide))⟩
theorem v_m_small {D E : zD} (h : v_Inv D E) (x1 : Int32) : ∃ P Q, z_CI SX zT yX4_small cX4_small 8 .int 3 [.ref 0, .int x1] D P ∧ z_CI SM zT yX5_small cX5_small 3 .int 6 [.ref 0, .int x1] E Q ∧ v_two P Q := by
  obtain ⟨N, h10, hN, hag, hg⟩ := h.1
  have hN5 : E.1 1 4 = nI N := (ag_0 hag (by decide)).symm.trans hN
  have hg5 : v_gr N (E.1 1) := v_gr_ag hag hg
  obtain ⟨t, ht120, ht, ht5, hby⟩ := v_tp h
  have hsz5 : ∀ s, s < 4 → ∃ k, k ≤ 40 ∧ E.1 13 s = nI k := by rw [← v_e13 h]; exact v_sz h
  exact ⟨_, _, (c4_small D x1 hN h10), (c5_small E x1 hN5 h10), v2_x h (by rw [s_thin_ag hag N (Nat.le_refl N), o_payw_ag hag]) (by intro k hk; unfold o_payw at hk; (repeat' split at hk) <;> first | (cases hk; done) | (cases hk; decide))⟩
theorem v_m_paid {D E : zD} (h : v_Inv D E) (x1 : Int32) : ∃ P Q, z_CI SX zT yX4_paid cX4_paid 3 .int 3 [.ref 0, .int x1] D P ∧ z_CI SM zT yX5_paid cX5_paid 4 .int 4 [.ref 0, .int x1] E Q ∧ v_two P Q := by
  obtain ⟨N, h10, hN, hag, hg⟩ := h.1
  have hN5 : E.1 1 4 = nI N := (ag_0 hag (by decide)).symm.trans hN
  have hg5 : v_gr N (E.1 1) := v_gr_ag hag hg
  obtain ⟨t, ht120, ht, ht5, hby⟩ := v_tp h
  have hsz5 : ∀ s, s < 4 → ∃ k, k ≤ 40 ∧ E.1 13 s = nI k := by rw [← v_e13 h]; exact v_sz h
  exact ⟨_, _, (c4_paid D x1 hN h10), (c5_paid E x1 hN5 h10), v2_r h (a_paid h10 hN hag hg x1)⟩
theorem v_m_sums {D E : zD} (h : v_Inv D E) : ∃ P Q, z_CI SX zT yX4_sums cX4_sums 3 .int 1 [.ref 0] D P ∧ z_CI SM zT yX5_sums cX5_sums 4 .int 4 [.ref 0] E Q ∧ v_two P Q := by
  obtain ⟨N, h10, hN, hag, hg⟩ := h.1
  have hN5 : E.1 1 4 = nI N := (ag_0 hag (by decide)).symm.trans hN
  have hg5 : v_gr N (E.1 1) := v_gr_ag hag hg
  obtain ⟨t, ht120, ht, ht5, hby⟩ := v_tp h
  have hsz5 : ∀ s, s < 4 → ∃ k, k ≤ 40 ∧ E.1 13 s = nI k := by rw [← v_e13 h]; exact v_sz h
  exact ⟨_, _, (c4_sums D hN h10 (v_pen hg)), (c5_sums E hN5 h10 (v_pen hg5)), v2_q h (o_sums_ag hag) (by intro k hk; unfold o_sums at hk; (repeat' split at hk) <;> first | (cases hk; done) | (cases hk; decide))⟩
theorem v_m_fits {D E : zD} (h : v_Inv D E) (x1 x2 : Int32) : ∃ P Q, z_CI SX zT yX4_fits cX4_fits 5 .int 6 [.ref 0, .int x1, .int x2] D P ∧ z_CI SM zT yX5_fits cX5_fits 4 .int 8 [.ref 0, .int x1, .int x2] E Q ∧ v_two P Q := by
  obtain ⟨N, h10, hN, hag, hg⟩ := h.1
  have hN5 : E.1 1 4 = nI N := (ag_0 hag (by decide)).symm.trans hN
  have hg5 : v_gr N (E.1 1) := v_gr_ag hag hg
  obtain ⟨t, ht120, ht, ht5, hby⟩ := v_tp h
  have hsz5 : ∀ s, s < 4 → ∃ k, k ≤ 40 ∧ E.1 13 s = nI k := by rw [← v_e13 h]; exact v_sz h
  exact ⟨_, _, (c4_fits D x1 x2 hN h10), (c5_fits E x1 x2 hN5 h10), v2_q h (o_fits_ag hag x1 x2) (by intro k hk; unfold o_fits at hk; (repeat' split at hk) <;> first | (cases hk; done) | (cases hk; decide))⟩
theorem v_m_size {D E : zD} (h : v_Inv D E) (x1 x2 : Int32) : ∃ P Q, z_CI SX zT yX4_size cX4_size 4 .int 6 [.ref 0, .int x1, .int x2] D P ∧ z_CI SM zT yX5_size cX5_size 4 .int 8 [.ref 0, .int x1, .int x2] E Q ∧ v_two P Q := by
  obtain ⟨N, h10, hN, hag, hg⟩ := h.1
  have hN5 : E.1 1 4 = nI N := (ag_0 hag (by decide)).symm.trans hN
  have hg5 : v_gr N (E.1 1) := v_gr_ag hag hg
  obtain ⟨t, ht120, ht, ht5, hby⟩ := v_tp h
  have hsz5 : ∀ s, s < 4 → ∃ k, k ≤ 40 ∧ E.1 13 s = nI k := by rw [← v_e13 h]; exact v_sz h
  exact ⟨_, _, (c4_size D x1 x2 hN h10), (c5_size E x1 x2 hN5 h10), v2_q h (o_size_ag hag x1 x2) (by intro k hk; unfold o_size at hk; (repeat' split at hk) <;> first | (cases hk; done) | (cases hk; decide))⟩
theorem v_m_began {D E : zD} (h : v_Inv D E) (x1 : Int32) : ∃ P Q, z_CI SX zT yX4_began cX4_began 4 .int 5 [.ref 0, .int x1] D P ∧ z_CI SM zT yX5_began cX5_began 6 .int 7 [.ref 0, .int x1] E Q ∧ v_two P Q := by
  obtain ⟨N, h10, hN, hag, hg⟩ := h.1
  have hN5 : E.1 1 4 = nI N := (ag_0 hag (by decide)).symm.trans hN
  have hg5 : v_gr N (E.1 1) := v_gr_ag hag hg
  obtain ⟨t, ht120, ht, ht5, hby⟩ := v_tp h
  have hsz5 : ∀ s, s < 4 → ∃ k, k ≤ 40 ∧ E.1 13 s = nI k := by rw [← v_e13 h]; exact v_sz h
  exact ⟨_, _, (c4_began D x1 hN h10), (c5_began E x1 hN5 h10), v2_q h (o_began_ag hag x1) (by intro k hk; unfold o_began at hk; (repeat' split at hk) <;> first | (cases hk; done) | (cases hk; decide))⟩
theorem v_m_boy {D E : zD} (h : v_Inv D E) (x1 x2 : Int32) : ∃ P Q, z_CI SX zT yX4_boy cX4_boy 6 .int 6 [.ref 0, .int x1, .int x2] D P ∧ z_CI SM zT yX5_boy cX5_boy 6 .int 8 [.ref 0, .int x1, .int x2] E Q ∧ v_two P Q := by
  obtain ⟨N, h10, hN, hag, hg⟩ := h.1
  have hN5 : E.1 1 4 = nI N := (ag_0 hag (by decide)).symm.trans hN
  have hg5 : v_gr N (E.1 1) := v_gr_ag hag hg
  obtain ⟨t, ht120, ht, ht5, hby⟩ := v_tp h
  have hsz5 : ∀ s, s < 4 → ∃ k, k ≤ 40 ∧ E.1 13 s = nI k := by rw [← v_e13 h]; exact v_sz h
  exact ⟨_, _, (c4_boy D x1 x2 hN h10), (c5_boy E x1 x2 hN5 h10), v2_q h (o_boy_ag hag x1 x2) (by intro k hk; unfold o_boy at hk; (repeat' split at hk) <;> first | (cases hk; done) | (cases hk; decide))⟩
theorem v_m_lining {D E : zD} (h : v_Inv D E) (x1 : Int32) : ∃ P Q, z_CI SX zT yX4_lining cX4_lining 5 .int 3 [.ref 0, .int x1] D P ∧ z_CI SM zT yX5_lining cX5_lining 5 .int 5 [.ref 0, .int x1] E Q ∧ v_two P Q := by
  obtain ⟨N, h10, hN, hag, hg⟩ := h.1
  have hN5 : E.1 1 4 = nI N := (ag_0 hag (by decide)).symm.trans hN
  have hg5 : v_gr N (E.1 1) := v_gr_ag hag hg
  obtain ⟨t, ht120, ht, ht5, hby⟩ := v_tp h
  have hsz5 : ∀ s, s < 4 → ∃ k, k ≤ 40 ∧ E.1 13 s = nI k := by rw [← v_e13 h]; exact v_sz h
  exact ⟨_, _, (c4_lining D x1 hN h10), (c5_lining E x1 hN5 h10), v2_x h (o_lining_ag hag x1) (by intro k hk; unfold o_lining at hk; (repeat' split at hk) <;> first | (cases hk; done) | (cases hk; decide))⟩
theorem v_m_back {D E : zD} (h : v_Inv D E) (x1 x2 : Int32) : ∃ P Q, z_CI SX zT yX4_back cX4_back 3 .int 2 [.ref 0, .int x1, .int x2] D P ∧ z_CI SM zT yX5_back cX5_back 3 .int 6 [.ref 0, .int x1, .int x2] E Q ∧ v_two P Q := by
  obtain ⟨N, h10, hN, hag, hg⟩ := h.1
  have hN5 : E.1 1 4 = nI N := (ag_0 hag (by decide)).symm.trans hN
  have hg5 : v_gr N (E.1 1) := v_gr_ag hag hg
  obtain ⟨t, ht120, ht, ht5, hby⟩ := v_tp h
  have hsz5 : ∀ s, s < 4 → ∃ k, k ≤ 40 ∧ E.1 13 s = nI k := by rw [← v_e13 h]; exact v_sz h
  exact ⟨_, _, (c4_back D x1 x2 hN h10 (v_hfa hg)), (c5_back_ E x1 x2 hN5 h10), v2_x h (o_back_ag h10 hag x1 x2) (by intro k hk; unfold o_back at hk; (repeat' split at hk) <;> first | (cases hk; done) | (cases hk; decide))⟩
theorem v_m_richest {D E : zD} (h : v_Inv D E) (x1 : Int32) : ∃ P Q, z_CI SX zT yX4_richest cX4_richest 4 .int 3 [.ref 0, .int x1] D P ∧ z_CI SM zT yX5_richest cX5_richest 7 .int 6 [.ref 0, .int x1] E Q ∧ v_two P Q := by
  obtain ⟨N, h10, hN, hag, hg⟩ := h.1
  have hN5 : E.1 1 4 = nI N := (ag_0 hag (by decide)).symm.trans hN
  have hg5 : v_gr N (E.1 1) := v_gr_ag hag hg
  obtain ⟨t, ht120, ht, ht5, hby⟩ := v_tp h
  have hsz5 : ∀ s, s < 4 → ∃ k, k ≤ 40 ∧ E.1 13 s = nI k := by rw [← v_e13 h]; exact v_sz h
  exact ⟨_, _, (c4_richest D x1 hN h10 (v_hfa hg) (v_pen hg)), (c5_richest E x1 hN5 h10), v2_q h (o_richest_ag hag x1) (by intro k hk; unfold o_richest at hk; (repeat' split at hk) <;> first | (cases hk; done) | (cases hk; decide))⟩
theorem v_m_days {D E : zD} (h : v_Inv D E) (x1 : Int32) : ∃ P Q, z_CI SX zT yX4_days cX4_days 5 .int 6 [.ref 0, .int x1] D P ∧ z_CI SM zT yX5_days cX5_days 6 .int 7 [.ref 0, .int x1] E Q ∧ v_two P Q := by
  obtain ⟨N, h10, hN, hag, hg⟩ := h.1
  have hN5 : E.1 1 4 = nI N := (ag_0 hag (by decide)).symm.trans hN
  have hg5 : v_gr N (E.1 1) := v_gr_ag hag hg
  obtain ⟨t, ht120, ht, ht5, hby⟩ := v_tp h
  have hsz5 : ∀ s, s < 4 → ∃ k, k ≤ 40 ∧ E.1 13 s = nI k := by rw [← v_e13 h]; exact v_sz h
  exact ⟨_, _, (c4_days D x1 hN h10), (c5_days E x1 hN5 h10), v2_r h (a_days h10 hN hag hg x1)⟩
theorem v_m_seed {D E : zD} (h : v_Inv D E) (x1 : Int32) : ∃ P Q, z_CI SX zT yX4_seed cX4_seed 3 .int 0 [.ref 0, .int x1] D P ∧ z_CI SM zT yX5_seed cX5_seed 2 .int 1 [.ref 0, .int x1] E Q ∧ v_two P Q := by
  obtain ⟨N, h10, hN, hag, hg⟩ := h.1
  have hN5 : E.1 1 4 = nI N := (ag_0 hag (by decide)).symm.trans hN
  have hg5 : v_gr N (E.1 1) := v_gr_ag hag hg
  obtain ⟨t, ht120, ht, ht5, hby⟩ := v_tp h
  have hsz5 : ∀ s, s < 4 → ∃ k, k ≤ 40 ∧ E.1 13 s = nI k := by rw [← v_e13 h]; exact v_sz h
  exact ⟨_, _, (c4_seed D x1), (c5_seed E x1), v2_e2 (D := D) (E := E) (ag_0 hag (by decide)) (v_row1 h (a_seed h10 hN hag hg x1))⟩
theorem v_m_feed {D E : zD} (h : v_Inv D E) (x1 x2 : Int32) : ∃ P Q, z_CI SX zT yX4_feed cX4_feed 4 .int 2 [.ref 0, .int x1, .int x2] D P ∧ z_CI SM zT yX5_feed cX5_feed 4 .int 2 [.ref 0, .int x1, .int x2] E Q ∧ v_two P Q := by
  obtain ⟨N, h10, hN, hag, hg⟩ := h.1
  have hN5 : E.1 1 4 = nI N := (ag_0 hag (by decide)).symm.trans hN
  have hg5 : v_gr N (E.1 1) := v_gr_ag hag hg
  obtain ⟨t, ht120, ht, ht5, hby⟩ := v_tp h
  have hsz5 : ∀ s, s < 4 → ∃ k, k ≤ 40 ∧ E.1 13 s = nI k := by rw [← v_e13 h]; exact v_sz h
  exact ⟨_, _, (c4_feed D x1 x2 ht ht120), (c5_feed E x1 x2 ht5 ht120), v2_a h (a_feed h ht120 hby x1 x2)⟩
theorem v_m_wipe {D E : zD} (h : v_Inv D E) : ∃ P Q, z_CI SX zT yX4_wipe cX4_wipe 2 .int 0 [.ref 0] D P ∧ z_CI SM zT yX5_wipe cX5_wipe 2 .int 1 [.ref 0] E Q ∧ v_two P Q := by
  obtain ⟨N, h10, hN, hag, hg⟩ := h.1
  have hN5 : E.1 1 4 = nI N := (ag_0 hag (by decide)).symm.trans hN
  have hg5 : v_gr N (E.1 1) := v_gr_ag hag hg
  obtain ⟨t, ht120, ht, ht5, hby⟩ := v_tp h
  have hsz5 : ∀ s, s < 4 → ∃ k, k ≤ 40 ∧ E.1 13 s = nI k := by rw [← v_e13 h]; exact v_sz h
  exact ⟨_, _, (c4_wipe D), (c5_wipe E), v2_e2 (D := D) (E := E) (ht.trans ht5.symm) (v_wipe h)⟩
theorem v_m_text {D E : zD} (h : v_Inv D E) : ∃ P Q, z_CI SX zT yX4_text cX4_text 2 .int 9 [.ref 0] D P ∧ z_CI SM zT yX5_text cX5_text 3 .int 7 [.ref 0] E Q ∧ v_two P Q := by
  obtain ⟨N, h10, hN, hag, hg⟩ := h.1
  have hN5 : E.1 1 4 = nI N := (ag_0 hag (by decide)).symm.trans hN
  have hg5 : v_gr N (E.1 1) := v_gr_ag hag hg
  obtain ⟨t, ht120, ht, ht5, hby⟩ := v_tp h
  have hsz5 : ∀ s, s < 4 → ∃ k, k ≤ 40 ∧ E.1 13 s = nI k := by rw [← v_e13 h]; exact v_sz h
  exact ⟨_, _, (c4_text D hN h10 ht ht120 hby (E.1 11)), (c5_text E hN5 h10 ht5 ht120 (v_cm h).2.2 (v_h1 hg5) hg5.2.2.1 hg5.2.2.2.1), v_text h h10 hN hN5 hag hg (E.1 11) rfl⟩
theorem v_m_hold {D E : zD} (h : v_Inv D E) (x1 x2 : Int32) : ∃ P Q, z_CI SX zT yX4_hold cX4_hold 3 .int 2 [.ref 0, .int x1, .int x2] D P ∧ z_CI SM zT yX5_hold cX5_hold 3 .int 2 [.ref 0, .int x1, .int x2] E Q ∧ v_two P Q := by
  obtain ⟨N, h10, hN, hag, hg⟩ := h.1
  have hN5 : E.1 1 4 = nI N := (ag_0 hag (by decide)).symm.trans hN
  have hg5 : v_gr N (E.1 1) := v_gr_ag hag hg
  obtain ⟨t, ht120, ht, ht5, hby⟩ := v_tp h
  have hsz5 : ∀ s, s < 4 → ∃ k, k ≤ 40 ∧ E.1 13 s = nI k := by rw [← v_e13 h]; exact v_sz h
  exact ⟨_, _, (c4_hold D x1 x2 hN h10), (c5_hold E x1 x2 hN5 h10), v2_r h (a_hold h10 hN hag hg x1 x2)⟩
theorem v_m_as {D E : zD} (h : v_Inv D E) (x1 x2 : Int32) : ∃ P Q, z_CI SX zT yX4_as cX4_as 4 .int 2 [.ref 0, .int x1, .int x2] D P ∧ z_CI SM zT yX5_as cX5_as 4 .int 2 [.ref 0, .int x1, .int x2] E Q ∧ v_two P Q := by
  obtain ⟨N, h10, hN, hag, hg⟩ := h.1
  have hN5 : E.1 1 4 = nI N := (ag_0 hag (by decide)).symm.trans hN
  have hg5 : v_gr N (E.1 1) := v_gr_ag hag hg
  obtain ⟨t, ht120, ht, ht5, hby⟩ := v_tp h
  have hsz5 : ∀ s, s < 4 → ∃ k, k ≤ 40 ∧ E.1 13 s = nI k := by rw [← v_e13 h]; exact v_sz h
  exact ⟨_, _, (c4_as D x1 x2 hN h10 hg.2.2.2.2.1 (v_kd hg)), (c5_as E x1 x2 (v_sp10 h10 hg5)), v2_xx h (o_as_ag hag h10 hg.2.2.2.2.1 x1 x2) (by intro k hk; unfold o_as at hk; (repeat' split at hk) <;> first | (cases hk; done) | (cases hk; decide))⟩
theorem v_m_sheet {D E : zD} (h : v_Inv D E) (x1 x2 x3 : Int32) : ∃ P Q, z_CI SX zT yX4_sheet cX4_sheet 4 .int 2 [.ref 0, .int x1, .int x2, .int x3] D P ∧ z_CI SM zT yX5_sheet cX5_sheet 5 .int 2 [.ref 0, .int x1, .int x2, .int x3] E Q ∧ v_two P Q := by
  obtain ⟨N, h10, hN, hag, hg⟩ := h.1
  have hN5 : E.1 1 4 = nI N := (ag_0 hag (by decide)).symm.trans hN
  have hg5 : v_gr N (E.1 1) := v_gr_ag hag hg
  obtain ⟨t, ht120, ht, ht5, hby⟩ := v_tp h
  have hsz5 : ∀ s, s < 4 → ∃ k, k ≤ 40 ∧ E.1 13 s = nI k := by rw [← v_e13 h]; exact v_sz h
  exact ⟨_, _, (c4_sheet D x1 x2 x3), (c5_sheet E x1 x2 x3), v2_a h (a_sheet h x1 x2 x3)⟩
theorem v_m_write {D E : zD} (h : v_Inv D E) (x1 x2 x3 : Int32) : ∃ P Q, z_CI SX zT yX4_write cX4_write 4 .int 2 [.ref 0, .int x1, .int x2, .int x3] D P ∧ z_CI SM zT yX5_write cX5_write 4 .int 2 [.ref 0, .int x1, .int x2, .int x3] E Q ∧ v_two P Q := by
  obtain ⟨N, h10, hN, hag, hg⟩ := h.1
  have hN5 : E.1 1 4 = nI N := (ag_0 hag (by decide)).symm.trans hN
  have hg5 : v_gr N (E.1 1) := v_gr_ag hag hg
  obtain ⟨t, ht120, ht, ht5, hby⟩ := v_tp h
  have hsz5 : ∀ s, s < 4 → ∃ k, k ≤ 40 ∧ E.1 13 s = nI k := by rw [← v_e13 h]; exact v_sz h
  exact ⟨_, _, (c4_write D x1 x2 x3 (v_sz h)), (c5_write E x1 x2 x3 hsz5), v2_a h (a_write h x1 x2 x3)⟩
theorem v_m_copy {D E : zD} (h : v_Inv D E) (x1 x2 x3 x4 x5 : Int32) : ∃ P Q, z_CI SX zT yX4_copy cX4_copy 8 .int 2 [.ref 0, .int x1, .int x2, .int x3, .int x4, .int x5] D P ∧ z_CI SM zT yX5_copy cX5_copy 7 .int 2 [.ref 0, .int x1, .int x2, .int x3, .int x4, .int x5] E Q ∧ v_two P Q := by
  obtain ⟨N, h10, hN, hag, hg⟩ := h.1
  have hN5 : E.1 1 4 = nI N := (ag_0 hag (by decide)).symm.trans hN
  have hg5 : v_gr N (E.1 1) := v_gr_ag hag hg
  obtain ⟨t, ht120, ht, ht5, hby⟩ := v_tp h
  have hsz5 : ∀ s, s < 4 → ∃ k, k ≤ 40 ∧ E.1 13 s = nI k := by rw [← v_e13 h]; exact v_sz h
  exact ⟨_, _, (c4_copy D x1 x2 x3 x4 x5 (v_sz h)), (c5_copy E x1 x2 x3 x4 x5 hsz5), v2_aM h (a_copy h x1 x2 x3 x4 x5)⟩
theorem v_m_load {D E : zD} (h : v_Inv D E) (x1 : Int32) : ∃ P Q, z_CI SX zT yX4_load cX4_load 4 .int 2 [.ref 0, .int x1] D P ∧ z_CI SM zT yX5_load cX5_load 3 .int 4 [.ref 0, .int x1] E Q ∧ v_two P Q := by
  obtain ⟨N, h10, hN, hag, hg⟩ := h.1
  have hN5 : E.1 1 4 = nI N := (ag_0 hag (by decide)).symm.trans hN
  have hg5 : v_gr N (E.1 1) := v_gr_ag hag hg
  obtain ⟨t, ht120, ht, ht5, hby⟩ := v_tp h
  have hsz5 : ∀ s, s < 4 → ∃ k, k ≤ 40 ∧ E.1 13 s = nI k := by rw [← v_e13 h]; exact v_sz h
  exact ⟨_, _, (c4_load D x1 hN h10 (v_sz h)), (c5_load E x1 hN5 h10 hsz5), v2_a h (a_load h h10 hN hag hg x1)⟩
theorem v_m_judge {D E : zD} (h : v_Inv D E) (x1 x2 : Int32) : ∃ P Q, z_CI SX zT yX4_judge cX4_judge 5 .int 6 [.ref 0, .int x1, .int x2] D P ∧ z_CI SM zT yX5_judge cX5_judge 4 .int 6 [.ref 0, .int x1, .int x2] E Q ∧ v_two P Q := by
  obtain ⟨N, h10, hN, hag, hg⟩ := h.1
  have hN5 : E.1 1 4 = nI N := (ag_0 hag (by decide)).symm.trans hN
  have hg5 : v_gr N (E.1 1) := v_gr_ag hag hg
  obtain ⟨t, ht120, ht, ht5, hby⟩ := v_tp h
  have hsz5 : ∀ s, s < 4 → ∃ k, k ≤ 40 ∧ E.1 13 s = nI k := by rw [← v_e13 h]; exact v_sz h
  exact ⟨_, _, (c4_judge D x1 x2 hN h10 (v_sz h)), (c5_judge E x1 x2 hN5 h10 hsz5), v2_q h (o_judge_ag h10 hag (v_e12 h) (v_e13 h) (v_e14 h) x1 x2) (by intro k hk; unfold o_judge at hk; (repeat' split at hk) <;> first | (cases hk; done) | (cases hk; decide))⟩
theorem v_m_image {D E : zD} (h : v_Inv D E) : ∃ P Q, z_CI SX zT yX4_image cX4_image 1 .int 3 [.ref 0] D P ∧ z_CI SM zT yX5_image cX5_image 1 .int 1 [.ref 0] E Q ∧ v_two P Q := by
  obtain ⟨N, h10, hN, hag, hg⟩ := h.1
  have hN5 : E.1 1 4 = nI N := (ag_0 hag (by decide)).symm.trans hN
  have hg5 : v_gr N (E.1 1) := v_gr_ag hag hg
  obtain ⟨t, ht120, ht, ht5, hby⟩ := v_tp h
  have hsz5 : ∀ s, s < 4 → ∃ k, k ≤ 40 ∧ E.1 13 s = nI k := by rw [← v_e13 h]; exact v_sz h
  exact ⟨_, _, (c4_image D hN h10), (c5_image E), v2_e2 (D := D) (E := E) rfl (v_image h h10 hN hag hg)⟩
theorem v_m_undo {D E : zD} (h : v_Inv D E) : ∃ P Q, z_CI SX zT yX4_undo cX4_undo 1 .int 3 [.ref 0] D P ∧ z_CI SM zT yX5_undo cX5_undo 1 .int 1 [.ref 0] E Q ∧ v_two P Q := by
  obtain ⟨N, h10, hN, hag, hg⟩ := h.1
  have hN5 : E.1 1 4 = nI N := (ag_0 hag (by decide)).symm.trans hN
  have hg5 : v_gr N (E.1 1) := v_gr_ag hag hg
  obtain ⟨t, ht120, ht, ht5, hby⟩ := v_tp h
  have hsz5 : ∀ s, s < 4 → ∃ k, k ≤ 40 ∧ E.1 13 s = nI k := by rw [← v_e13 h]; exact v_sz h
  obtain ⟨Nk, hNk, hN3⟩ := h.2.1
  have hf := h.2.2.2.1
  by_cases z : D.1 0 3 = 0
  · refine ⟨_, _, c4_undo D hN3 hNk, c5_undo E, ?_⟩
    unfold o_undo
    rw [← hf, if_pos z, if_pos z, if_pos z]
    exact v2_e (D := D) (E := E) (v_find h (by decide))
  · rcases h.2.2.1 with y | ⟨N2, g1, g2, g3, g4⟩
    · exact absurd y z
    refine ⟨_, _, c4_undo D g2 g1, c5_undo E, ?_⟩
    unfold o_undo
    rw [← hf, if_neg z, if_neg z, if_neg z]
    have a := s_bec_ag (D.1 3) (D.1 1) N2
    refine v2_e2 (D := D) (E := E) (ag_0 g3 (by decide)) (v_row1 h (v_row_i g1 ((ag_0 a (by decide)).trans g2) (ag_t a (ag_t g3 (fun i hi => ?_))) (v_gr_ag (ag_s a) g4)))
    rw [s_96, if_pos (by omega)]
theorem v_m_tear {D E : zD} (h : v_Inv D E) : ∃ P Q, z_CI SX zT yX4_tear cX4_tear 2 .int 0 [.ref 0] D P ∧ z_CI SM zT yX5_tear cX5_tear 2 .int 1 [.ref 0] E Q ∧ v_two P Q := by
  obtain ⟨N, h10, hN, hag, hg⟩ := h.1
  have hN5 : E.1 1 4 = nI N := (ag_0 hag (by decide)).symm.trans hN
  have hg5 : v_gr N (E.1 1) := v_gr_ag hag hg
  obtain ⟨t, ht120, ht, ht5, hby⟩ := v_tp h
  have hsz5 : ∀ s, s < 4 → ∃ k, k ≤ 40 ∧ E.1 13 s = nI k := by rw [← v_e13 h]; exact v_sz h
  exact ⟨_, _, (c4_tear D), (c5_tear E), v2_e2 (D := D) (E := E) (by rw [h.2.2.2.1]) (v_tear h)⟩
theorem v_m_count {D E : zD} (h : v_Inv D E) (x1 : Int32) : ∃ P Q, z_CI SX zT yX4_count cX4_count 2 .int 3 [.ref 0, .int x1] D P ∧ z_CI SM zT yX5_count cX5_count 4 .int 4 [.ref 0, .int x1] E Q ∧ v_two P Q := by
  obtain ⟨N, h10, hN, hag, hg⟩ := h.1
  have hN5 : E.1 1 4 = nI N := (ag_0 hag (by decide)).symm.trans hN
  have hg5 : v_gr N (E.1 1) := v_gr_ag hag hg
  obtain ⟨t, ht120, ht, ht5, hby⟩ := v_tp h
  have hsz5 : ∀ s, s < 4 → ∃ k, k ≤ 40 ∧ E.1 13 s = nI k := by rw [← v_e13 h]; exact v_sz h
  exact ⟨_, _, (c4_count D x1 hN h10 (v_spn h10 hg)), (c5_count E x1 hN5 h10), v2_q h (o_count_ag hag (ht.trans ht5.symm) x1) (by intro k hk; unfold o_count at hk; (repeat' split at hk) <;> first | (cases hk; done) | (cases hk; decide))⟩
theorem v_m_status {D E : zD} (h : v_Inv D E) (x1 : Int32) : ∃ P Q, z_CI SX zT yX4_status cX4_status 4 .int 1 [.ref 0, .int x1] D P ∧ z_CI SM zT yX5_status cX5_status 2 .int 1 [.ref 0, .int x1] E Q ∧ v_two P Q := by
  obtain ⟨N, h10, hN, hag, hg⟩ := h.1
  have hN5 : E.1 1 4 = nI N := (ag_0 hag (by decide)).symm.trans hN
  have hg5 : v_gr N (E.1 1) := v_gr_ag hag hg
  obtain ⟨t, ht120, ht, ht5, hby⟩ := v_tp h
  have hsz5 : ∀ s, s < 4 → ∃ k, k ≤ 40 ∧ E.1 13 s = nI k := by rw [← v_e13 h]; exact v_sz h
  exact ⟨_, _, (c4_status D x1), (c5_status E x1), v2_xx h (o_stat_ag (v_fo h).1 (v_fo h).2 x1) (by intro k hk; unfold o_status at hk; (repeat' split at hk) <;> first | (cases hk; done) | (cases hk; decide))⟩
