
/-! TWO ANSWERS ALIKE, AND THE STORES BEHIND THEM -/
def v_two (P Q : Int32 → zD → Prop) : Prop := ∀ r E r' E', P r E → Q r' E' → r = r' ∧ v_Inv E E'
theorem v2_q {D E : zD} (h : v_Inv D E) {a b : oQ} (e : a = b) (ha : ∀ k, b = .inl k → k < 7) : v_two (z_qX D a) (z_qM E b) := by
  subst e
  rintro r E1 r' E2 ⟨e1, s1⟩ ⟨e2, s2⟩
  exact ⟨e1.trans e2.symm, v_q h ha s1 s2⟩
theorem z_eqX {D : zD} {a : oQ} {r : Int32} {E : zD} (h : z_eq (q_ans a) (q_X D a) r E) : z_qX D a r E := by
  obtain ⟨e1, e2⟩ := h
  subst e2
  exact ⟨e1, z_sm_r _⟩
theorem z_eqM {D : zD} {a : oQ} {r : Int32} {E : zD} (h : z_eq (q_ans a) (q_M D a) r E) : z_qM D a r E := by
  obtain ⟨e1, e2⟩ := h
  subst e2
  exact ⟨e1, z_sm_r _⟩
theorem v2_x {D E : zD} (h : v_Inv D E) {a b : oQ} (e : a = b) (ha : ∀ k, b = .inl k → k < 7) : v_two (z_eq (q_ans a) (q_X D a)) (z_qM E b) := fun _ _ _ _ p q => v2_q h e ha _ _ _ _ (z_eqX p) q
theorem v2_xx {D E : zD} (h : v_Inv D E) {a b : oQ} (e : a = b) (ha : ∀ k, b = .inl k → k < 7) : v_two (z_eq (q_ans a) (q_X D a)) (z_eq (q_ans b) (q_M E b)) := fun _ _ _ _ p q => v2_q h e ha _ _ _ _ (z_eqX p) (z_eqM q)
theorem v2_r {D E : zD} (h : v_Inv D E) {a b : oR} (hr : v_rr a b) : v_two (z_eq (r_ans a) (r_X D a)) (z_eq (r_ans b) (r_M E b)) := by
  rintro r E1 r' E2 ⟨e1, s1⟩ ⟨e2, s2⟩
  subst e1 e2 s1 s2
  exact v_act h hr
theorem v2_e {r : Int32} {D E D2 E2 : zD} (h : v_Inv D2 E2) : v_two (z_eq r D2) (z_eq r E2) := by
  rintro r1 E1 r' E3 ⟨e1, s1⟩ ⟨e2, s2⟩
  subst e1 e2 s1 s2
  exact ⟨rfl, h⟩
/-- an act on the whole store -/
def v_ra (a b : oD) : Prop := (∃ k, k < 7 ∧ a = .inl k ∧ b = .inl k) ∨ ∃ v D2 E2, a = .inr (v, D2) ∧ b = .inr (v, E2) ∧ v_Inv D2 E2
theorem v2_a {D E : zD} (h : v_Inv D E) {a b : oD} (hr : v_ra a b) : v_two (z_eq (a_ans a) (a_X D a)) (z_eq (a_ans b) (a_M E b)) := by
  rintro r E1 r' E2 ⟨e1, s1⟩ ⟨e2, s2⟩
  subst e1 e2 s1 s2
  rcases hr with ⟨k, hk, rfl, rfl⟩ | ⟨v, D2, E2, rfl, rfl, hi⟩
  · exact ⟨rfl, v_find h hk⟩
  · exact ⟨rfl, hi⟩
theorem v2_aM {D E : zD} (h : v_Inv D E) {a b : oD} (hr : v_ra a b) : v_two (z_eq (a_ans a) (a_X D a)) (z_aM E b) := by
  rintro r E1 r' E2 ⟨e1, s1⟩ ⟨e2, s2⟩
  obtain ⟨q1, q2⟩ := v2_a h hr _ _ _ _ ⟨e1, s1⟩ ⟨rfl, rfl⟩
  exact ⟨q1.trans e2.symm, v_sm q2 (z_sm_r _) s2⟩
theorem v_al {k : Nat} (h : k < 7) : v_ra (.inl k) (.inl k) := Or.inl ⟨k, h, rfl, rfl⟩
theorem v_an {v w : Int32} {D E : zD} (e : v = w) (h : v_Inv D E) : v_ra (.inr (v, D)) (.inr (w, E)) := by
  subst e
  exact Or.inr ⟨v, D, E, rfl, rfl, h⟩
/-- the sheets, the rest as it was -/
theorem v_mk {D E D2 E2 : zD} (h : v_Inv D E) (a1 : D2.1 1 = D.1 1) (b1 : E2.1 1 = E.1 1) (a3 : D2.1 3 = D.1 3) (b3 : E2.1 3 = E.1 3) (a4 : D2.1 4 = D.1 4) (b4 : E2.1 4 = E.1 4) (b5 : E2.1 5 = E.1 5) (b6 : E2.1 6 = E.1 6) (b10 : E2.1 10 = E.1 10) (a8 : D2.1 8 = D.1 8) (b8 : E2.1 8 = E.1 8) (a03 : D2.1 0 3 = D.1 0 3) (b03 : E2.1 0 3 = E.1 0 3) (a012 : D2.1 0 12 = D.1 0 12) (b012 : E2.1 0 12 = E.1 0 12) (e12 : D2.1 12 = E2.1 12) (e13 : D2.1 13 = E2.1 13) (e14 : D2.1 14 = E2.1 14) (sz : ∀ s, s < 4 → ∃ k, k ≤ 40 ∧ D2.1 13 s = nI k) : v_Inv D2 E2 := by
  obtain ⟨h1, h2, h3, h4, h5, h6, h7, h8, h9, h10, h11, h12, h13, h14, h15⟩ := h
  unfold v_Inv z_cM
  rw [a1, b1, a3, b3, a4, b4, b5, b6, b10, a8, b8, a03, b03, a012, b012]
  exact ⟨h1, h2, h3, h4, h5, h6, e12, e13, e14, sz, h11, h12, h13, h14, h15⟩
theorem v_e12 {D E : zD} (h : v_Inv D E) : D.1 12 = E.1 12 := h.2.2.2.2.2.2.1
theorem v_e13 {D E : zD} (h : v_Inv D E) : D.1 13 = E.1 13 := h.2.2.2.2.2.2.2.1
theorem v_e14 {D E : zD} (h : v_Inv D E) : D.1 14 = E.1 14 := h.2.2.2.2.2.2.2.2.1
theorem v_e8 {D E : zD} (h : v_Inv D E) : D.1 8 = E.1 8 := h.2.2.2.2.2.1
theorem v_sz {D E : zD} (h : v_Inv D E) : ∀ s, s < 4 → ∃ k, k ≤ 40 ∧ D.1 13 s = nI k := h.2.2.2.2.2.2.2.2.2.1
theorem v_tp {D E : zD} (h : v_Inv D E) : ∃ t, t ≤ 120 ∧ D.1 0 12 = nI t ∧ E.1 0 12 = nI t ∧ s_by (D.1 8) t := h.2.2.2.2.1
theorem v_fo {D E : zD} (h : v_Inv D E) : (∀ k, k < 7 → D.1 4 (1 + k) = E.1 4 (1 + k)) ∧ E.1 4 0 = s_told (D.1 4) 7 := ⟨h.2.2.2.2.2.2.2.2.2.2.1, h.2.2.2.2.2.2.2.2.2.2.2.1⟩
theorem v_cm {D E : zD} (h : v_Inv D E) : z_cM E := h.2.2.2.2.2.2.2.2.2.2.2.2
theorem v_r14 {D E : zD} (h : v_Inv D E) (σ τ : Nat → Int32) (e : σ = τ) : v_Inv (z_row D 14 σ) (z_row E 14 τ) := by
  have n : ∀ (F : zD) (σ : Nat → Int32) q, q ≠ 14 → (z_row F 14 σ).1 q = F.1 q := fun F σ q hq => z_rowo F σ hq
  refine v_mk h (n _ _ _ (by decide)) (n _ _ _ (by decide)) (n _ _ _ (by decide)) (n _ _ _ (by decide)) (n _ _ _ (by decide)) (n _ _ _ (by decide)) (n _ _ _ (by decide)) (n _ _ _ (by decide)) (n _ _ _ (by decide)) (n _ _ _ (by decide)) (n _ _ _ (by decide)) (by rw [n _ _ _ (by decide)]) (by rw [n _ _ _ (by decide)]) (by rw [n _ _ _ (by decide)]) (by rw [n _ _ _ (by decide)]) ?_ ?_ ?_ ?_
  · rw [n _ _ _ (by decide), n _ _ _ (by decide)]; exact v_e12 h
  · rw [n _ _ _ (by decide), n _ _ _ (by decide)]; exact v_e13 h
  · rw [z_rowr, z_rowr]; exact e
  · rw [n _ _ _ (by decide)]; exact v_sz h
theorem v_sheet {D E : zD} (h : v_Inv D E) (s : Nat) (b l : Int32) (hl : ∃ k, k ≤ 40 ∧ l = nI k) : v_Inv (z_sheet D s b l) (z_sheet E s b l) := by
  unfold z_sheet
  have n : ∀ (F : zD) (σ : Nat → Int32) q, q ≠ 14 → (z_row F 14 σ).1 q = F.1 q := fun F σ q hq => z_rowo F σ hq
  have m : ∀ (F : zD) q, q ≠ 14 → q ≠ 13 → q ≠ 12 → ∀ σ, (z_row (z_up (z_up F 12 s b) 13 s l) 14 σ).1 q = F.1 q := fun F q q1 q2 q3 σ => by rw [n _ _ _ q1, z_upo _ _ _ q2, z_upo _ _ _ q3]
  refine v_mk h (m _ _ (by decide) (by decide) (by decide) _) (m _ _ (by decide) (by decide) (by decide) _) (m _ _ (by decide) (by decide) (by decide) _) (m _ _ (by decide) (by decide) (by decide) _) (m _ _ (by decide) (by decide) (by decide) _) (m _ _ (by decide) (by decide) (by decide) _) (m _ _ (by decide) (by decide) (by decide) _) (m _ _ (by decide) (by decide) (by decide) _) (m _ _ (by decide) (by decide) (by decide) _) (m _ _ (by decide) (by decide) (by decide) _) (m _ _ (by decide) (by decide) (by decide) _) (by rw [m _ _ (by decide) (by decide) (by decide) _]) (by rw [m _ _ (by decide) (by decide) (by decide) _]) (by rw [m _ _ (by decide) (by decide) (by decide) _]) (by rw [m _ _ (by decide) (by decide) (by decide) _]) ?_ ?_ ?_ ?_
  · rw [n _ _ _ (by decide), n _ _ _ (by decide), z_upo (z_up D 12 s b) s l (show 12 ≠ 13 by decide), z_upo (z_up E 12 s b) s l (show 12 ≠ 13 by decide), z_upr, z_upr, v_e12 h]
  · rw [n _ _ _ (by decide), n _ _ _ (by decide), z_upr, z_upr, z_upo _ _ _ (by decide), z_upo _ _ _ (by decide), v_e13 h]
  · rw [z_rowr, z_rowr, v_e14 h]
  · intro i hi
    rw [n _ _ _ (by decide), z_upr, z_upo _ _ _ (by decide)]
    by_cases e : i = s
    · subst e; rw [u_eq]; exact hl
    · rw [u_ne _ _ e]; exact v_sz h i hi
theorem a_sheet {D E : zD} (h : v_Inv D E) (s b n : Int32) : v_ra (o_sheet D s b n) (o_sheet E s b n) := by
  unfold o_sheet
  by_cases q : (b_in s 0 3 && b_bits b) = true
  · rw [if_pos q, if_pos q]
    by_cases z : n < 0
    · rw [if_pos z, if_pos z]; exact v_al (by decide)
    · rw [if_neg z, if_neg z]
      by_cases y : 40 < n
      · rw [if_pos y, if_pos y]; exact v_al (by decide)
      · rw [if_neg y, if_neg y]
        refine v_an rfl (v_sheet h _ _ _ ?_)
        by_cases w : b = 0
        · rw [if_pos w]; exact ⟨0, by decide, rfl⟩
        · rw [if_neg w]
          obtain ⟨j, hj, rfl⟩ := nI_of z
          rcases Nat.lt_or_ge 40 j with x | x
          · exact absurd (nI_lt (a := 40) x hj) y
          · exact ⟨j, x, rfl⟩
  · rw [if_neg q, if_neg q]; exact v_al (by decide)
theorem z_up14 (D : zD) (r x : Nat) (v : Int32) : z_up D r x v = z_row D r (upd (D.1 r) x v) := by
  conv => lhs; rw [← z_row_eq D r]
  rw [z_row_up]
theorem a_write {D E : zD} (h : v_Inv D E) (s i v : Int32) : v_ra (o_write D s i v) (o_write E s i v) := by
  unfold o_write
  rw [v_e12 h, v_e13 h]
  by_cases q : b_in s 0 3 = true
  · rw [if_pos q, if_pos q]
    by_cases z : E.1 12 (i_n s) = 0
    · rw [if_pos z, if_pos z]; exact v_al (by decide)
    · rw [if_neg z, if_neg z]
      by_cases y : b_in i 0 (E.1 13 (i_n s) - 1) = true
      · rw [if_pos y, if_pos y, z_up14, z_up14]
        exact v_an rfl (v_r14 h _ _ (by rw [v_e14 h]))
      · rw [if_neg y, if_neg y]; exact v_al (by decide)
  · rw [if_neg q, if_neg q]; exact v_al (by decide)
theorem a_copy {D E : zD} (h : v_Inv D E) (s a t b n : Int32) : v_ra (o_copy D s a t b n) (o_copy E s a t b n) := by
  unfold o_copy
  rw [v_e12 h, v_e13 h]
  by_cases q : (b_in s 0 3 && b_in t 0 3) = true
  · rw [if_pos q, if_pos q]
    by_cases z : E.1 12 (i_n s) = 0 ∨ E.1 12 (i_n t) = 0
    · rw [if_pos z, if_pos z]; exact v_al (by decide)
    · rw [if_neg z, if_neg z]
      by_cases y : E.1 12 (i_n s) = E.1 12 (i_n t)
      · rw [if_pos y, if_pos y]
        by_cases x : b_cpy a b n (E.1 13 (i_n s)) (E.1 13 (i_n t)) = true
        · rw [if_pos x, if_pos x]
          exact v_an rfl (v_r14 h _ _ (by rw [v_e14 h]))
        · rw [if_neg x, if_neg x]; exact v_al (by decide)
      · rw [if_neg y, if_neg y]; exact v_al (by decide)
  · rw [if_neg q, if_neg q]; exact v_al (by decide)
theorem a_load {D E : zD} (h : v_Inv D E) {N : Nat} (h10 : N ≤ 10) (hN : D.1 1 4 = nI N) (hag : ag N (D.1 1) (E.1 1)) (g : v_gr N (D.1 1)) (s : Int32) : v_ra (o_load D N s) (o_load E N s) := by
  unfold o_load
  have e : s_ldP D N (i_n s) = s_ldP E N (i_n s) := by
    funext k
    unfold s_ldP
    rw [v_e13 h, v_e14 h]
  rw [v_e12 h, e, v_e14 h]
  by_cases q : b_in s 0 3 = true
  · rw [if_pos q, if_pos q]
    by_cases z : E.1 12 (i_n s) = 0
    · rw [if_pos z, if_pos z]; exact v_al (by decide)
    · rw [if_neg z, if_neg z]
      exact v_an rfl (v_row1 h (v_row_i h10 (by rw [s_ldr_lo _ _ _ (by decide)]; exact hN) (s_ldr_ag hag _ _ _) (v_ldr g _ _ _)))
  · rw [if_neg q, if_neg q]; exact v_al (by decide)
/-! the tape -/
theorem v_tape {D E : zD} (h : v_Inv D E) (β γ : Nat → Int32) (e : β = γ) (t : Nat) (ht : t ≤ 120) (hb : s_by β t) : v_Inv (z_up (z_row D 8 β) 0 12 (nI t)) (z_up (z_row E 8 γ) 0 12 (nI t)) := by
  obtain ⟨h1, h2, h3, h4, h5, h6, h7⟩ := h
  unfold v_Inv z_cM
  have n : ∀ (F : zD) (σ : Nat → Int32) q, q ≠ 0 → q ≠ 8 → (z_up (z_row F 8 σ) 0 12 (nI t)).1 q = F.1 q := fun F σ q q0 q8 => by rw [z_upo _ _ _ q0, z_rowo F σ q8]
  rw [n _ _ 1 (by decide) (by decide), n _ _ 1 (by decide) (by decide), n _ _ 3 (by decide) (by decide), n _ _ 3 (by decide) (by decide), n _ _ 12 (by decide) (by decide), n _ _ 12 (by decide) (by decide), n _ _ 13 (by decide) (by decide), n _ _ 13 (by decide) (by decide), n _ _ 14 (by decide) (by decide), n _ _ 14 (by decide) (by decide), n _ _ 4 (by decide) (by decide), n _ _ 4 (by decide) (by decide), n _ _ 5 (by decide) (by decide), n _ _ 6 (by decide) (by decide), n _ _ 10 (by decide) (by decide), z_upr, z_upr, z_upo _ _ _ (by decide), z_upo _ _ _ (by decide), z_rowr, z_rowr, u_eq, u_eq, u_ne _ _ (by decide), u_ne _ _ (by decide), z_rowo _ _ (by decide), z_rowo _ _ (by decide)]
  exact ⟨h1, h2, h3, h4, ⟨t, ht, rfl, rfl, hb⟩, e, h7⟩
theorem v_wipe {D E : zD} (h : v_Inv D E) : v_Inv (z_up D 0 12 0) (z_up E 0 12 0) := by
  have q := v_tape h (D.1 8) (E.1 8) (v_e8 h) 0 (by decide) (fun j hj => absurd hj (by omega))
  rw [z_row_eq, z_row_eq] at q
  exact q
theorem s_byte_nn (b : Int32) (n r : Nat) : 0 ≤ s_byte b n r := by
  unfold s_byte
  generalize b >>> ((8 * nI (n - 1 - r)) &&& 31) = x
  rw [Int32.le_iff_toInt_le, show (255 : Int32) = nI 255 from rfl]
  have : (x &&& nI 255).toBitVec.msb = false := by
    rw [Int32.toBitVec_and, BitVec.msb_and, show (nI 255 : Int32).toBitVec.msb = false from rfl, Bool.and_false]
  have q : (x &&& nI 255).toInt = (x &&& nI 255).toBitVec.toInt := rfl
  rw [q, BitVec.toInt_eq_toNat_of_msb this]
  exact Int.natCast_nonneg _
theorem s_fed_by {τ : Nat → Int32} {t : Nat} (b : Int32) (n : Nat) (h : s_by τ t) : ∀ r, s_by (s_fed τ t b n r) (t + r)
  | 0 => h
  | r + 1 => fun j hj => by
    rw [s_fed]
    by_cases e : j = t + r
    · subst e; rw [u_eq]; exact s_byte_nn _ _ _
    · rw [u_ne _ _ e]; exact s_fed_by b n h r j (by omega)
theorem a_feed {D E : zD} (h : v_Inv D E) {t : Nat} (ht : t ≤ 120) (hb : s_by (D.1 8) t) (b n : Int32) : v_ra (o_feed D t b n) (o_feed E t b n) := by
  unfold o_feed
  by_cases q : b_in n 1 4 = true
  · rw [if_pos q, if_pos q]
    by_cases z : 120 < nI t + n
    · rw [if_pos z, if_pos z]; exact v_al (by decide)
    · rw [if_neg z, if_neg z]
      obtain ⟨k, _, hk, rfl⟩ := b_in1 4 (by decide) q
      rw [i_n_n (by omega)]
      have hr : t + k ≤ 120 := by
        rcases Nat.lt_or_ge 120 (t + k) with y | y
        · exact absurd (by rw [nI_add]; exact nI_lt (a := 120) y (by omega)) z
        · exact y
      exact v_an rfl (v_tape h _ _ (by rw [v_e8 h]) _ hr (s_fed_by _ _ hb _))
  · rw [if_neg q, if_neg q]; exact v_al (by decide)
theorem v_tear {D E : zD} (h : v_Inv D E) : v_Inv (z_up D 0 3 0) (z_up E 0 3 0) := by
  obtain ⟨h1, h2, h3, h4, h5, h7⟩ := h
  unfold v_Inv z_cM
  have n : ∀ (F : zD) q, q ≠ 0 → (z_up F 0 3 0).1 q = F.1 q := fun F q q0 => z_upo _ _ _ q0
  rw [n _ 1 (by decide), n _ 1 (by decide), n _ 3 (by decide), n _ 3 (by decide), n _ 12 (by decide), n _ 12 (by decide), n _ 13 (by decide), n _ 13 (by decide), n _ 14 (by decide), n _ 14 (by decide), n _ 4 (by decide), n _ 4 (by decide), n _ 5 (by decide), n _ 6 (by decide), n _ 8 (by decide), n _ 8 (by decide), n _ 10 (by decide), z_upr, z_upr, u_eq, u_eq, u_ne _ _ (by decide), u_ne _ _ (by decide)]
  exact ⟨h1, h2, Or.inl rfl, rfl, h5, h7⟩
theorem v_image {D E : zD} (h : v_Inv D E) {N : Nat} (h10 : N ≤ 10) (hN : D.1 1 4 = nI N) (hag : ag N (D.1 1) (E.1 1)) (g : v_gr N (D.1 1)) : v_Inv (z_up (z_row D 3 (s_bec (D.1 1) (D.1 3) N)) 0 3 1) (z_image E) := by
  have hr : v_row (s_bec (D.1 1) (D.1 3) N) (s_96 (E.1 1) (E.1 3)) := by
    have a := s_bec_ag (D.1 1) (D.1 3) N
    refine v_row_i h10 ((ag_0 a (by decide)).trans hN) (ag_t a (ag_t hag (fun i hi => ?_))) (v_gr_ag (ag_s a) g)
    rw [s_96, if_pos (by omega)]
  have hk : ∃ Nk, Nk ≤ 10 ∧ s_bec (D.1 1) (D.1 3) N 4 = nI Nk := ⟨N, h10, (ag_0 (s_bec_ag (D.1 1) (D.1 3) N) (by decide)).trans hN⟩
  obtain ⟨h1, h2, h3, h4, h5, h7⟩ := h
  unfold z_image v_Inv z_cM
  have n : ∀ (F : zD) (σ : Nat → Int32) q, q ≠ 0 → q ≠ 3 → (z_up (z_row F 3 σ) 0 3 1).1 q = F.1 q := fun F σ q q0 q8 => by rw [z_upo _ _ _ q0, z_rowo F σ q8]
  rw [n _ _ 1 (by decide) (by decide), n _ _ 1 (by decide) (by decide), n _ _ 12 (by decide) (by decide), n _ _ 12 (by decide) (by decide), n _ _ 13 (by decide) (by decide), n _ _ 13 (by decide) (by decide), n _ _ 14 (by decide) (by decide), n _ _ 14 (by decide) (by decide), n _ _ 4 (by decide) (by decide), n _ _ 4 (by decide) (by decide), n _ _ 5 (by decide) (by decide), n _ _ 6 (by decide) (by decide), n _ _ 8 (by decide) (by decide), n _ _ 8 (by decide) (by decide), n _ _ 10 (by decide) (by decide), z_upo _ _ _ (show 3 ≠ 0 by decide), z_upo _ _ _ (show 3 ≠ 0 by decide), z_rowr, z_rowr, z_upr, z_upr, u_eq, u_eq, u_ne _ _ (by decide), u_ne _ _ (by decide), z_rowo _ _ (by decide), z_rowo _ _ (by decide)]
  exact ⟨h1, hk, Or.inr hr, rfl, h5, h7⟩
/-! the text -/
theorem v_text {D E : zD} (h : v_Inv D E) {N t : Nat} (h10 : N ≤ 10) (hN : D.1 1 4 = nI N) (hN5 : E.1 1 4 = nI N) (hag : ag N (D.1 1) (E.1 1)) (g : v_gr N (D.1 1)) (ω : Nat → Int32) (hω : ω = E.1 11) : v_two (fun r F => r = (if (m_must (D.1 8) t (m_all (D.1 8) t (nI N) ω).1 (decide ((m_all (D.1 8) t (nI N) ω).1.1.2.2.1 = 0))).2 = true then -1 - nI (m_must (D.1 8) t (m_all (D.1 8) t (nI N) ω).1 (decide ((m_all (D.1 8) t (nI N) ω).1.1.2.2.1 = 0))).1.1 else nI (m_all (D.1 8) t (nI N) ω).2.2.2) ∧ ((m_must (D.1 8) t (m_all (D.1 8) t (nI N) ω).1 (decide ((m_all (D.1 8) t (nI N) ω).1.1.2.2.1 = 0))).2 = true → z_sm (z_up D 0 12 0) F) ∧ ((m_must (D.1 8) t (m_all (D.1 8) t (nI N) ω).1 (decide ((m_all (D.1 8) t (nI N) ω).1.1.2.2.1 = 0))).2 = false → ∃ R N2, N2 ≤ 10 ∧ R 4 = nI N2 ∧ ag N2 R (s_sos (D.1 1) (m_all (D.1 8) t (nI N) ω).2.2.1 (m_all (D.1 8) t (nI N) ω).2.2.2) ∧ z_sm (z_row (z_up D 0 12 0) 1 R) F)) (z_aM E (o_text E t)) := by
  subst hω
  rintro r F r' F' ⟨e1, y1, n1⟩ ⟨e2, s2⟩
  unfold o_text at e2 s2
  unfold m_end at e2 s2
  rw [← v_e8 h, hN5] at e2 s2
  have hi := m_all_inv (D.1 8) t (nI N) (E.1 11)
  generalize hA : m_all (D.1 8) t (nI N) (E.1 11) = A at *
  by_cases w : (m_must (D.1 8) t A.1 (decide (A.1.1.2.2.1 = 0))).2 = true
  · rw [if_pos w] at e1 e2 s2
    exact ⟨e1.trans e2.symm, v_sm (v_wipe h) (y1 w) s2⟩
  · rw [if_neg w] at e1 e2 s2
    have w2 : (m_must (D.1 8) t A.1 (decide (A.1.1.2.2.1 = 0))).2 = false := Bool.eq_false_iff.mpr w
    obtain ⟨R, N2, g1, g2, g3, g4⟩ := n1 w2
    have nA : A.1.2 = false := by
      unfold m_must at w2
      by_cases z : (A.1.2 || !decide (A.1.1.2.2.1 = 0)) = true
      · rw [if_pos z] at w2; exact nomatch w2
      · rw [Bool.or_eq_true] at z
        exact Bool.eq_false_iff.mpr (fun q => z (Or.inl q))
    obtain ⟨_, hs, _⟩ := hi.2 nA
    obtain ⟨N3, a1, a2, a3, a4⟩ := v_sos h10 hN g A.2.2.1 A.2.2.2 hs
    obtain ⟨N4, b1, b2, b3, b4⟩ := s_sos_ag h10 hN hag A.2.2.1 A.2.2.2 hs
    have e34 : N4 = N3 := (nI_eq (by omega) (by omega)).1 (b4.symm.trans a4)
    have e23 : N2 = N3 := (nI_eq (by omega) (by omega)).1 (g2.symm.trans ((ag_0 g3 (by decide)).trans a2))
    subst e34 e23
    exact ⟨e1.trans e2.symm, v_sm (v_row1 (v_wipe h) (v_row_i g1 g2 (ag_t g3 b3) (v_gr_ag (ag_s g3) a3))) g4 s2⟩
