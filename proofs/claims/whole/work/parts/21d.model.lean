theorem z_p12 (D : zD) (ρ : Nat → Int32) (k : zTk) (w : Bool) (m : Nat) (c v : Int32) : z_up (z_row D 0 (s_r0 ρ k w m c)) 0 12 v = z_row D 0 (s_r0 (upd ρ 12 v) k w m c) := by
  rw [z_row_up]
  congr 1
  funext i
  unfold upd s_r0
  by_cases h : i = 12
  · subst h; rfl
  · simp only [h, if_false]
theorem z_r0_in (D : zD) (c : Int32) : z_up (z_up (z_up (z_up D 0 14 0) 0 17 0) 0 21 0) 0 22 c = z_row D 0 (s_r0 (D.1 0) (i_u (D.1 0 13), 0, D.1 0 15, D.1 0 16) false 0 c) := by
  rw [z_up_row D, z_row_up, z_row_up, z_row_up]
  congr 1
  funext i
  unfold s_r0
  by_cases h22 : i = 22
  · subst h22; rw [u_eq]; rfl
  by_cases h21 : i = 21
  · subst h21; rw [u_ne _ _ (by decide), u_eq]; rfl
  by_cases h17 : i = 17
  · subst h17; rw [u_ne _ _ (by decide), u_ne _ _ (by decide), u_eq]; rfl
  by_cases h14 : i = 14
  · subst h14; rw [u_ne _ _ (by decide), u_ne _ _ (by decide), u_ne _ _ (by decide), u_eq]; rfl
  rw [u_ne _ _ h22, u_ne _ _ h21, u_ne _ _ h17, u_ne _ _ h14]
  simp only [h22, h21, h17, h14, if_false]
  by_cases h13 : i = 13
  · subst h13; simp [i_u_n]
  by_cases h15 : i = 15
  · subst h15; simp
  by_cases h16 : i = 16
  · subst h16; simp
  simp only [h13, h15, h16, if_false]
theorem z_sm_read (D : zD) (ω : Nat → Int32) (k : zTk) (w : Bool) (m : Nat) (c : Int32) : z_sm (z_up D 0 12 0) (z_row (z_row D 11 ω) 0 (s_r0 (upd (D.1 0) 12 0) k w m c)) := by
  have n : ∀ r, r ≠ 0 → r ≠ 11 → (z_row (z_row D 11 ω) 0 (s_r0 (upd (D.1 0) 12 0) k w m c)).1 r = (z_up D 0 12 0).1 r := fun r h h2 => by rw [z_rowo _ _ h, z_rowo _ _ h2, z_upo _ _ _ h]
  refine ⟨n _ (by decide) (by decide), n _ (by decide) (by decide), n _ (by decide) (by decide), n _ (by decide) (by decide), n _ (by decide) (by decide), n _ (by decide) (by decide), n _ (by decide) (by decide), n _ (by decide) (by decide), n _ (by decide) (by decide), n _ (by decide) (by decide), ?_, ?_⟩
  · rw [z_rRo _ _ _ _ _ _ (by decide), z_upr]
  · rw [z_rRo _ _ _ _ _ _ (by decide), z_upr]
theorem z_sm_row1 {D E : zD} (σ : Nat → Int32) (h : z_sm D E) : z_sm (z_row D 1 σ) (z_row E 1 σ) := by
  obtain ⟨h1, h2, h3, h4, h5, h6, h7, h8, h9, h10, h11, h12⟩ := h
  have n : ∀ (F : zD) k, k ≠ 1 → (z_row F 1 σ).1 k = F.1 k := fun F k hk => z_rowo F σ hk
  refine ⟨by rw [z_rowr, z_rowr], ?_, ?_, ?_, ?_, ?_, ?_, ?_, ?_, ?_, ?_, ?_⟩ <;> rw [n _ _ (by decide), n _ _ (by decide)] <;> assumption
theorem s_so_P {σ : Nat → Int32} {i : zIt} {c : Int32} (h : i_ok i c) (h1 : 0 ≤ σ 1) (h2 : 0 ≤ σ 2) (h3 : 0 ≤ σ 3) : 0 ≤ s_so σ i 1 ∧ 0 ≤ s_so σ i 2 ∧ 0 ≤ s_so σ i 3 := by
  unfold s_so
  rcases h with ⟨e, a⟩ | ⟨e, a, b⟩ | ⟨e, -⟩
  · rw [if_pos e, u_eq, u_ne _ _ (by decide), u_ne _ _ (by decide)]
    obtain ⟨j, hj, ej⟩ := b_in0 99 (by decide) a
    exact ⟨by rw [ej]; exact nI_pos' (by omega), h2, h3⟩
  · rw [if_neg (by rw [e]; decide), if_pos e, u_ne _ _ (by decide), u_ne _ _ (by decide), u_ne _ _ (by decide), u_eq, u_eq]
    obtain ⟨j, hj, ej⟩ := b_in0 99 (by decide) a
    obtain ⟨k, hk, ek⟩ := b_in0 7 (by decide) b
    exact ⟨h1, by rw [ej]; exact nI_pos' (by omega), by rw [ek]; exact nI_pos' (by omega)⟩
  · have l := b_in06_lt e
    rw [if_neg (fun q => by rw [q] at l; exact absurd l (by decide)), if_neg (fun q => by rw [q] at l; exact absurd l (by decide))]
    unfold s_come
    rw [s_goTo_lo _ _ (by decide), s_goTo_lo _ _ (by decide), s_goTo_lo _ _ (by decide)]
    rw [u_ne _ _ (by decide), u_ne _ _ (by omega), u_ne _ _ (by omega), u_ne _ _ (by omega), u_ne _ _ (by omega), u_ne _ _ (by decide), u_ne _ _ (by omega), u_ne _ _ (by omega), u_ne _ _ (by omega), u_ne _ _ (by omega), u_ne _ _ (by decide), u_ne _ _ (by omega), u_ne _ _ (by omega), u_ne _ _ (by omega), u_ne _ _ (by omega)]
    exact ⟨h1, h2, h3⟩
theorem s_so_4 {σ : Nat → Int32} {i : zIt} {N : Nat} (h : i_ok i (nI N)) (hN : σ 4 = nI N) (h10 : N ≤ 10) : ∃ N', N' ≤ 10 ∧ s_so σ i 4 = nI N' ∧ i_then i (nI N) = nI N' := by
  unfold s_so i_then
  rcases h with ⟨e, a⟩ | ⟨e, a, b⟩ | ⟨e, hc, -⟩
  · exact ⟨N, h10, by rw [if_pos e, u_ne _ _ (by decide)]; exact hN, by rw [if_neg (by rw [e]; decide)]⟩
  · exact ⟨N, h10, by rw [if_neg (by rw [e]; decide), if_pos e, u_ne _ _ (by decide), u_ne _ _ (by decide)]; exact hN, by rw [if_neg (by rw [e]; decide)]⟩
  · have l := b_in06_lt e
    have hlt : N < 10 := (nI_ltI (a := N) (b := 10) (by omega) (by decide)).mp hc
    refine ⟨N + 1, hlt, ?_, by rw [if_pos l, nI_succ]⟩
    rw [if_neg (fun q => by rw [q] at l; exact absurd l (by decide)), if_neg (fun q => by rw [q] at l; exact absurd l (by decide)), hN, i_n_n (by omega)]
    unfold s_come
    rw [s_goTo_lo _ _ (by decide), u_eq, nI_succ]
theorem i_min_0 {a b : Int32} (h : 0 ≤ a) (g : 0 ≤ b) : 0 ≤ i_min a b := by
  unfold i_min
  split <;> assumption
set_option maxHeartbeats 1000000 in
set_option maxRecDepth 20000 in
theorem c5_isSo (D : zD) (k : Nat) (hk : k < 120) {N : Nat} (hN : D.1 1 4 = nI N) (hi : ((i_at (D.1 11) k).1 = 10 ∧ 0 ≤ D.1 1 1) ∨ ((i_at (D.1 11) k).1 = 11 ∧ 0 ≤ D.1 1 2 ∧ 0 ≤ D.1 1 3) ∨ (b_in (i_at (D.1 11) k).1 0 6 = true ∧ N < 10)) : z_CI SM zT yX5_isSo cX5_isSo 4 .int 4 [.ref 0, .int (nI (5 * k))] D (fun r E => 0 ≤ r ∧ E = z_row D 1 (s_so (D.1 1) (i_at (D.1 11) k))) := by
  refine z_startI SM_ok (by decide +kernel) (fun v hv => by simp at hv; rcases hv with rfl | rfl <;> rfl) (Nat.le_of_ble_eq_true rfl) (fun X F hR => ?_)
  show z_J X SM 0 [some (.ref 0), some (.int (nI (5 * k))), none, none] [] D
  refine z_aload0 F dX5_isSo_0 ?_
  refine z_getR F M_items fX5_58 dX5_isSo_1 ?_
  refine z_iload1 F dX5_isSo_4 ?_
  refine z_iconst F 1 dX5_isSo_5 zv_i_1 ?_
  refine z_iadd F dX5_isSo_6 ?_
  refine z_iald F aM_items ((5 * k + 1)) (nI_add _ _) (by omega) dX5_isSo_7 ?_
  refine z_istore2 F dX5_isSo_8 rfl ?_
  refine z_aload0 F dX5_isSo_9 ?_
  refine z_getR F M_items fX5_58 dX5_isSo_10 ?_
  refine z_iload1 F dX5_isSo_13 ?_
  refine z_iconst F 2 dX5_isSo_14 zv_i_2 ?_
  refine z_iadd F dX5_isSo_15 ?_
  refine z_iald F aM_items ((5 * k + 2)) (nI_add _ _) (by omega) dX5_isSo_16 ?_
  refine z_istore3 F dX5_isSo_17 rfl ?_
  refine z_aload0 F dX5_isSo_18 ?_
  refine z_getR F M_items fX5_58 dX5_isSo_19 ?_
  refine z_iload1 F dX5_isSo_22 ?_
  refine z_iald F aM_items (5 * k) rfl (by omega) dX5_isSo_23 ?_
  rcases hi with ⟨e, p1⟩ | ⟨e, p2, p3⟩ | ⟨e, hlt⟩
  · have e0 : D.1 11 (5 * k) = 10 := e
    refine z_lookup F 52 dX5_isSo_24 (by decide) (off := 28) (by rw [e0]; decide) (by decide) ?_
    refine z_aload0 F dX5_isSo_52 ?_
    refine z_iconst F 1 dX5_isSo_53 zv_i_1 ?_
    refine z_iload2 F dX5_isSo_54 ?_
    refine z_callVI2 F (c5_become _ 1 _ (by decide)) kX5_129 (by decide) ocM (Nat.le_of_ble_eq_true rfl) rfl dX5_isSo_55 ?_
    refine hR _ _ _ _ dX5_isSo_58 rfl ?_
    exact ⟨p1, by rw [s_so, if_pos e]; rfl⟩
  · have e0 : D.1 11 (5 * k) = 11 := e
    refine z_lookup F 59 dX5_isSo_24 (by decide) (off := 35) (by rw [e0]; decide) (by decide) ?_
    refine z_aload0 F dX5_isSo_59 ?_
    refine z_iconst F 2 dX5_isSo_60 zv_i_2 ?_
    refine z_iload2 F dX5_isSo_61 ?_
    refine z_callVI2 F (c5_become _ 2 _ (by decide)) kX5_129 (by decide) ocM (Nat.le_of_ble_eq_true rfl) rfl dX5_isSo_62 ?_
    refine z_aload0 F dX5_isSo_65 ?_
    refine z_iconst F 3 dX5_isSo_66 zv_i_3 ?_
    refine z_iload3 F dX5_isSo_67 ?_
    refine z_callVI2 F (c5_become _ 3 _ (by decide)) kX5_129 (by decide) ocM (Nat.le_of_ble_eq_true rfl) rfl dX5_isSo_68 ?_
    refine z_min F zw_820 (by decide) rfl (Nat.le_of_ble_eq_true rfl) dX5_isSo_71 ?_
    refine hR _ _ _ _ dX5_isSo_74 rfl ?_
    exact ⟨i_min_0 (by first | exact p3 | (rw [z_rowr, u_ne _ _ (by decide)]; exact p3)) p2, by rw [s_so, if_neg (by rw [e]; decide), if_pos e, z_row_row, z_rowr]; rfl⟩
  · have e0 : b_in (D.1 11 (5 * k)) 0 6 = true := e
    have l := b_in06_lt e0
    have n10 : ¬ D.1 11 (5 * k) = 10 := fun q => by rw [q] at l; exact absurd l (by decide)
    have n11 : ¬ D.1 11 (5 * k) = 11 := fun q => by rw [q] at l; exact absurd l (by decide)
    obtain ⟨j, hj, ej⟩ := b_in0 6 (by decide) e0
    refine z_lookup F 75 dX5_isSo_24 (by decide) (off := 51) (by rw [ej]; rcases (show j = 0 ∨ j = 1 ∨ j = 2 ∨ j = 3 ∨ j = 4 ∨ j = 5 ∨ j = 6 by omega) with rfl | rfl | rfl | rfl | rfl | rfl | rfl <;> decide) (by decide) ?_
    refine z_aload0 F dX5_isSo_75 ?_
    refine z_aload0 F dX5_isSo_76 ?_
    refine z_getR F M_items fX5_58 dX5_isSo_77 ?_
    refine z_iload1 F dX5_isSo_80 ?_
    refine z_iald F aM_items (5 * k) rfl (by omega) dX5_isSo_81 ?_
    refine z_iload2 F dX5_isSo_82 ?_
    refine z_iload3 F dX5_isSo_83 ?_
    refine z_aload0 F dX5_isSo_84 ?_
    refine z_getR F M_items fX5_58 dX5_isSo_85 ?_
    refine z_iload1 F dX5_isSo_88 ?_
    refine z_iconst F 3 dX5_isSo_89 zv_i_3 ?_
    refine z_iadd F dX5_isSo_90 ?_
    refine z_iald F aM_items ((5 * k + 3)) (nI_add _ _) (by omega) dX5_isSo_91 ?_
    refine z_aload0 F dX5_isSo_92 ?_
    refine z_getR F M_items fX5_58 dX5_isSo_93 ?_
    refine z_iload1 F dX5_isSo_96 ?_
    refine z_iconst F 4 dX5_isSo_97 zv_i_4 ?_
    refine z_iadd F dX5_isSo_98 ?_
    refine z_iald F aM_items ((5 * k + 4)) (nI_add _ _) (by omega) dX5_isSo_99 ?_
    refine z_callVI5 F (c5_comes D _ _ _ _ _ hN hlt) kX5_98 (by decide) ocM (Nat.le_of_ble_eq_true rfl) rfl dX5_isSo_100 ?_
    refine hR _ _ _ _ dX5_isSo_103 rfl ?_
    exact ⟨nI_pos' (by omega), by rw [s_so, if_neg (show ¬ (i_at (D.1 11) k).1 = 10 from n10), if_neg (show ¬ (i_at (D.1 11) k).1 = 11 from n11), hN, i_n_n (by omega)]; rfl⟩
