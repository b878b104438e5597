
/-! ACTS: what an act answers (a finding, or a number and the row behind it); what a question answers (a finding or a number) -/
abbrev oR : Type := Nat ⊕ (Int32 × (Nat → Int32))
abbrev oQ : Type := Nat ⊕ Int32
def r_ans : oR → Int32
  | .inl k => nF k
  | .inr q => q.1
def q_ans : oQ → Int32
  | .inl k => nF k
  | .inr q => q
/-- the class's finding -/
def z_fX (D : zD) (k : Nat) : zD := z_row D 4 (upd (D.1 4) (1 + k) (D.1 4 (1 + k) + 1))
def r_M (D : zD) : oR → zD
  | .inl k => z_fM D k
  | .inr q => z_row D 1 q.2
def r_X (D : zD) : oR → zD
  | .inl k => z_fX D k
  | .inr q => z_row D 1 q.2
/-- all that lasts is as it was -/
def z_sm (D E : zD) : Prop := E.1 1 = D.1 1 ∧ E.1 3 = D.1 3 ∧ E.1 4 = D.1 4 ∧ E.1 5 = D.1 5 ∧ E.1 6 = D.1 6 ∧ E.1 8 = D.1 8 ∧ E.1 10 = D.1 10 ∧ E.1 12 = D.1 12 ∧ E.1 13 = D.1 13 ∧ E.1 14 = D.1 14 ∧ E.1 0 3 = D.1 0 3 ∧ E.1 0 12 = D.1 0 12
theorem z_sm_r (D : zD) : z_sm D D := ⟨rfl, rfl, rfl, rfl, rfl, rfl, rfl, rfl, rfl, rfl, rfl, rfl⟩
theorem z_sm_t {D E G : zD} (h : z_sm D E) (g : z_sm E G) : z_sm D G := by
  obtain ⟨h1, h2, h3, h4, h5, h6, h7, h8, h9, h10, h11, h12⟩ := h
  obtain ⟨g1, g2, g3, g4, g5, g6, g7, g8, g9, g10, g11, g12⟩ := g
  exact ⟨g1.trans h1, g2.trans h2, g3.trans h3, g4.trans h4, g5.trans h5, g6.trans h6, g7.trans h7, g8.trans h8, g9.trans h9, g10.trans h10, g11.trans h11, g12.trans h12⟩
theorem z_sm_row (D : zD) {q : Nat} (σ : Nat → Int32) (h : q = 2 ∨ q = 7 ∨ q = 11 ∨ q = 15 ∨ q = 16) : z_sm D (z_row D q σ) := by
  have n : ∀ k, k ≠ q → (z_row D q σ).1 k = D.1 k := fun k hk => z_rowo D σ hk
  refine ⟨n _ (by omega), n _ (by omega), n _ (by omega), n _ (by omega), n _ (by omega), n _ (by omega), n _ (by omega), n _ (by omega), n _ (by omega), n _ (by omega), by rw [n _ (by omega)], by rw [n _ (by omega)]⟩
theorem z_sm_0 (D : zD) {x : Nat} (v : Int32) (h3 : x ≠ 3) (h12 : x ≠ 12) : z_sm D (z_up D 0 x v) := by
  have n : ∀ k, k ≠ 0 → (z_up D 0 x v).1 k = D.1 k := fun k hk => z_upo D x v hk
  refine ⟨n _ (by decide), n _ (by decide), n _ (by decide), n _ (by decide), n _ (by decide), n _ (by decide), n _ (by decide), n _ (by decide), n _ (by decide), n _ (by decide), ?_, ?_⟩
  · rw [z_upr, u_ne _ _ (Ne.symm h3)]
  · rw [z_upr, u_ne _ _ (Ne.symm h12)]
theorem z_sm_as (D : zD) : z_sm D (z_as D) := z_sm_row D _ (Or.inl rfl)
theorem z_sm_L (D : zD) (x : Nat) (v : Int64) : z_sm D (z_upL D x v) := z_sm_r D
theorem z_sm_4 {D E : zD} (σ : Nat → Int32) (h : z_sm D E) : z_sm (z_row D 4 σ) (z_row E 4 σ) := by
  obtain ⟨h1, h2, h3, h4, h5, h6, h7, h8, h9, h10, h11, h12⟩ := h
  have n : ∀ (F : zD) k, k ≠ 4 → (z_row F 4 σ).1 k = F.1 k := fun F k hk => z_rowo F σ hk
  refine ⟨?_, ?_, by rw [z_rowr, z_rowr], ?_, ?_, ?_, ?_, ?_, ?_, ?_, ?_, ?_⟩ <;> rw [n _ _ (by decide), n _ _ (by decide)] <;> assumption
theorem z_sm_fM {D E : zD} (k : Nat) (h : z_sm D E) : z_sm (z_fM D k) (z_fM E k) := by
  unfold z_fM
  rw [h.2.2.1]
  exact z_sm_4 _ h
theorem z_sm_fX {D E : zD} (k : Nat) (h : z_sm D E) : z_sm (z_fX D k) (z_fX E k) := by
  unfold z_fX
  rw [h.2.2.1]
  exact z_sm_4 _ h
/-- what a question leaves -/
def q_M (D : zD) : oQ → zD
  | .inl k => z_fM D k
  | .inr _ => D
def q_X (D : zD) : oQ → zD
  | .inl k => z_fX D k
  | .inr _ => D
def z_qM (D : zD) (a : oQ) : Int32 → zD → Prop := fun r E => r = q_ans a ∧ z_sm (q_M D a) E
def z_qX (D : zD) (a : oQ) : Int32 → zD → Prop := fun r E => r = q_ans a ∧ z_sm (q_X D a) E
/-! the acts, by the rows -/
def o_coin (σ : Nat → Int32) (N : Nat) (k : Int32) : oR := if b_in k 0 6 = true then (if N = 10 then .inl 1 else .inr (nI N, s_come σ N k 8 5 6 0)) else .inl 0
def v_of (σ : Nat → Int32) (c w : Int32) : Int32 := if w = 8 then s_thick σ (i_n c) else if w = 9 then s_goes σ (i_n c) else if w = 10 then s_wears σ (i_n c) else σ (16 + 8 * i_n c + i_n w)
def o_of (σ : Nat → Int32) (N : Nat) (c w : Int32) : oQ := if (b_coin c N && b_in w 0 10) = true then .inr (v_of σ c w) else .inl 0
def b_may (w v : Int32) : Bool := if w = 0 then b_in v 0 6 else if w = 1 then b_in v 1 40 else if w = 2 then b_in v 1 50 else if w = 3 then b_in v 0 240 else if w = 5 then b_in v 0 9 else if w = 6 then b_in v 0 7 else false
def o_change (σ : Nat → Int32) (N : Nat) (c w v : Int32) : oR := if (b_coin c N && b_may w v) = true then .inr (σ (16 + 8 * i_n c + i_n w), upd σ (16 + 8 * i_n c + i_n w) v) else .inl 0
def o_put (σ : Nat → Int32) (N : Nat) (c pl : Int32) : oR := if (b_coin c N && b_in pl 0 4) = true then .inr (σ (16 + 8 * i_n c + 4), s_goTo σ (i_n c) pl) else .inl 0
def o_rule (σ : Nat → Int32) (w v : Int32) : oR := if (b_in w 0 2 && b_in v 0 (if w = 2 then 7 else 99)) = true then .inr (σ (1 + i_n w), upd σ (1 + i_n w) v) else .inl 0
def o_lie (σ : Nat → Int32) (N : Nat) (pl : Int32) : oQ := if b_in pl 0 4 = true then .inr (s_lie σ pl N) else .inl 0
def o_pence (σ : Nat → Int32) (N : Nat) (pl : Int32) : oQ := if b_in pl 0 4 = true then .inr (s_sum σ 3 (s_lie σ pl N) N) else .inl 0
def o_steps (σ : Nat → Int32) (N : Nat) (n : Int32) : oR := if b_in n 1 100 = true then (if 9999 < σ 0 + n then .inl 4 else .inr (s_fell σ (s_steps σ N (i_n n)) N, s_steps σ N (i_n n))) else .inl 0
def o_now (σ : Nat → Int32) (N : Nat) (w : Int32) : oQ := if w = 0 then .inr (σ 0) else if w = 1 then .inr (σ 1) else if w = 2 then .inr (σ 2) else if w = 3 then .inr (σ 3) else if w = 4 then .inr (s_clk σ N) else if w = 5 then .inr (s_sum σ 2 (s_lie σ 0 N ||| s_lie σ 1 N) N) else if w = 6 then .inr (s_sum σ 2 (s_lie σ 3 N) N) else .inl 0
def v_ahead (σ τ : Nat → Int32) (N : Nat) (w : Int32) : Int32 := if w = 0 then s_lie σ 0 N &&& (s_lie τ 0 N ^^^ (-1)) else if w = 1 then s_lie τ 2 N &&& (s_lie σ 2 N ^^^ (-1)) else if w = 2 then τ 1 else if w = 3 then s_clk τ N else if w = 4 then s_sum τ 3 (s_lie τ 2 N) N else s_lie τ 1 N
def o_ahead (σ : Nat → Int32) (N : Nat) (n w : Int32) : oQ := if (b_in n 0 100 && b_in w 0 5) = true then (if 9999 < σ 0 + n then .inl 4 else .inr (v_ahead σ (s_steps σ N (i_n n)) N w)) else .inl 0
theorem z_out06 {x : Int32} (h : x.toInt < 0 ∨ 6 < x.toInt) : x ≠ 0 ∧ x ≠ 1 ∧ x ≠ 2 ∧ x ≠ 3 ∧ x ≠ 4 ∧ x ≠ 5 ∧ x ≠ 6 := by
  refine ⟨?_, ?_, ?_, ?_, ?_, ?_, ?_⟩ <;> intro e <;> subst e <;> exact absurd h (by decide)
theorem z_out07 {x : Int32} (h : x.toInt < 0 ∨ 7 < x.toInt) : x ≠ 0 ∧ x ≠ 1 ∧ x ≠ 2 ∧ x ≠ 3 ∧ x ≠ 4 ∧ x ≠ 5 ∧ x ≠ 6 ∧ x ≠ 7 := by
  refine ⟨?_, ?_, ?_, ?_, ?_, ?_, ?_, ?_⟩ <;> intro e <;> subst e <;> exact absurd h (by decide)
theorem z_out04 {x : Int32} (h : x.toInt < 0 ∨ 4 < x.toInt) : x ≠ 0 ∧ x ≠ 1 ∧ x ≠ 2 ∧ x ≠ 3 ∧ x ≠ 4 := by
  refine ⟨?_, ?_, ?_, ?_, ?_⟩ <;> intro e <;> subst e <;> exact absurd h (by decide)
theorem nF_0 : nF 0 = -1000001 := by decide
theorem nF_1 : nF 1 = -1000002 := by decide
theorem nF_2 : nF 2 = -1000003 := by decide
theorem nF_3 : nF 3 = -1000004 := by decide
theorem nF_4 : nF 4 = -1000005 := by decide
theorem nF_5 : nF 5 = -1000006 := by decide
theorem nF_6 : nF 6 = -1000007 := by decide
/-- the reference's constant rows -/
def z_cM (D : zD) : Prop := (∀ k, k < 7 → D.1 5 k = [0, 1, 1, 0, 1, 0, 0].getD k 0) ∧ (∀ k, k < 7 → D.1 6 k = [6, 40, 50, 240, 0, 9, 7].getD k 0) ∧ ∀ k, k < 7 → D.1 10 k = [0, 1, 2, 5, 3, 4, 6].getD k 0
theorem z_cM_may {D : zD} (h : z_cM D) : ∀ k, k ≤ 6 → ∀ v, b_in v (D.1 5 k) (D.1 6 k) = b_may (nI k) v := by
  intro k hk v
  rw [h.1 k (by omega), h.2.1 k (by omega)]
  rcases (show k = 0 ∨ k = 1 ∨ k = 2 ∨ k = 3 ∨ k = 4 ∨ k = 5 ∨ k = 6 by omega) with rfl | rfl | rfl | rfl | rfl | rfl | rfl
  all_goals first | rfl | skip
  show b_in v 1 0 = false
  unfold b_in
  by_cases q : 1 ≤ v
  · have n : ¬ v ≤ 0 := by
      rw [Int32.le_iff_toInt_le] at q ⊢
      have e1 : (1 : Int32).toInt = 1 := by decide
      have e0 : (0 : Int32).toInt = 0 := by decide
      omega
    simp [n]
  · simp [q]
theorem b_may_in {w v : Int32} (h : b_may w v = true) : b_in w 0 6 = true := by
  unfold b_may at h
  by_cases h0 : w = 0
  · subst h0; decide
  by_cases h1 : w = 1
  · subst h1; decide
  by_cases h2 : w = 2
  · subst h2; decide
  by_cases h3 : w = 3
  · subst h3; decide
  by_cases h5 : w = 5
  · subst h5; decide
  by_cases h6 : w = 6
  · subst h6; decide
  simp [h0, h1, h2, h3, h5, h6] at h
