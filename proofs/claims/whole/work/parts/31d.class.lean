theorem v_ahead_ag {N : Nat} {σ T τ : Nat → Int32} (h : ag N T τ) (w : Int32) : v_ahead σ T N w = v_ahead σ τ N w := by
  unfold v_ahead
  rw [s_lie_ag h 0 N (Nat.le_refl _), s_lie_ag h 2 N (Nat.le_refl _), s_lie_ag h 1 N (Nat.le_refl _), ag_0 h (show 1 < 16 by decide), s_clk_ag h N (Nat.le_refl _), s_sum_ag h 3 (by decide) _ N (Nat.le_refl _)]
theorem c4_tgo (D : zD) (T : Nat → Int32) {N : Nat} (hT : T 4 = nI N) (h10 : N ≤ 10) (n : Nat) (hn : n < 2 ^ 31) : z_CV SX zT yX0_go cX0_go 5 4 [.ref 2, .int (nI n)] (z_row D 2 T) (z_eqV (z_row D 2 (s_steps T N n))) := by
  have h := c0_go (z_row D 2 T) z_r2 (N := N) (by rw [z_rowr]; exact hT) h10 n hn
  rw [z_rowr, z_row_row] at h
  exact h
theorem c4_tbec (D : zD) {N : Nat} (hN : D.1 1 4 = nI N) (h10 : N ≤ 10) : z_CV SX zT yX0_become cX0_become 3 2 [.ref 2, .ref 1] D (z_eqV (z_row D 2 (s_bec (D.1 1) (D.1 2) N))) := c0_become D z_r2 z_r1 (by decide) hN h10
theorem s_bec_4 (τ σ : Nat → Int32) (N : Nat) : s_bec τ σ N 4 = τ 4 := by rw [s_bec, if_pos (by omega)]
set_option maxHeartbeats 1000000 in
set_option maxRecDepth 20000 in
theorem c4_ahead (D : zD) (x y : Int32) {N : Nat} (hN : D.1 1 4 = nI N) (h10 : N ≤ 10) : z_CI SX zT yX4_ahead cX4_ahead 3 .int 5 [.ref 0, .int x, .int y] D (z_qX D (o_ahead (D.1 1) N x y)) := by
  refine z_startI SX_ok (by decide +kernel) (fun v hv => by simp at hv; rcases hv with rfl | rfl | rfl <;> rfl) (Nat.le_of_ble_eq_true rfl) (fun X F hR => ?_)
  show z_J X SX 0 [some (.ref 0), some (.int x), some (.int y)] [] D
  refine z_iload1 F dX4_ahead_0 ?_
  refine z_iconst F 0 dX4_ahead_1 zv_i_0 ?_
  refine z_bipush F 100 dX4_ahead_2 zv_b_100 ?_
  refine z_callSI3 F (c4_isWithin _ _ _ _) kX4_51 (by decide) (Nat.le_of_ble_eq_true rfl) rfl dX4_ahead_4 ?_
  refine z_ifb_eq F 19 dX4_ahead_7 (by decide) (fun h7 => ?_) (fun h7 => ?_)
  · refine z_aload0 F dX4_ahead_19 ?_
    refine z_iconst F 0 dX4_ahead_20 zv_i_0 ?_
    refine z_callVI1 F (c4_finding _ 0 (by decide)) kX4_55 (by decide) ocPH (Nat.le_of_ble_eq_true rfl) rfl dX4_ahead_21 ?_
    refine hR _ _ _ _ dX4_ahead_24 rfl ?_
    simp only [o_ahead, h7, Bool.false_eq_true, if_true, if_false, Bool.and_true, Bool.true_and, Bool.and_false, Bool.false_and, Bool.and_self, and_self]; first | exact ⟨rfl, rfl⟩ | exact ⟨by decide, rfl⟩ | exact ⟨by decide, z_sm_r _⟩ | exact ⟨rfl, z_sm_r _⟩
  · refine z_iload2 F dX4_ahead_10 ?_
    refine z_iconst F 0 dX4_ahead_11 zv_i_0 ?_
    refine z_iconst F 5 dX4_ahead_12 zv_i_5 ?_
    refine z_callSI3 F (c4_isWithin _ _ _ _) kX4_51 (by decide) (Nat.le_of_ble_eq_true rfl) rfl dX4_ahead_13 ?_
    refine z_ifb_ne F 25 dX4_ahead_16 (by decide) (fun h16 => ?_) (fun h16 => ?_)
    · refine z_aload0 F dX4_ahead_25 ?_
      refine z_iload1 F dX4_ahead_26 ?_
      refine z_callVI1 F (c4_isTooFar _ _) kX4_114 (by decide) ocPH (Nat.le_of_ble_eq_true rfl) rfl dX4_ahead_27 ?_
      refine z_ifb_eq F 39 dX4_ahead_30 (by decide) (fun h30 => ?_) (fun h30 => ?_)
      · simp only [decide_eq_false_iff_not] at h30
        obtain ⟨q, hq, rfl⟩ := b_in0 100 (by decide) h7
        have hqn := i_n_n (j := q) (by omega)
        refine z_aload0 F dX4_ahead_39 ?_
        refine z_getR F PH_trial fX4_16 dX4_ahead_40 ?_
        refine z_aload0 F dX4_ahead_43 ?_
        refine z_getR F PH_coat fX4_10 dX4_ahead_44 ?_
        refine z_callVV1 F (c4_tbec D hN h10) kX4_135 (by decide) (ocC z_r2) (Nat.le_of_ble_eq_true rfl) rfl dX4_ahead_47 ?_
        refine z_aload0 F dX4_ahead_50 ?_
        refine z_getR F PH_trial fX4_16 dX4_ahead_51 ?_
        refine z_iload1 F dX4_ahead_54 ?_
        refine z_callVV1 F (c4_tgo D (s_bec (D.1 1) (D.1 2) N) (by rw [s_bec_4]; exact hN) h10 q (by omega)) kX4_117 (by decide) (ocC z_r2) (Nat.le_of_ble_eq_true rfl) rfl dX4_ahead_55 ?_
        obtain ⟨T, eT⟩ : ∃ T, T = s_steps (s_bec (D.1 1) (D.1 2) N) N q := ⟨_, rfl⟩
        rw [← eT]
        have hTa : ag N T (s_steps (D.1 1) N q) := by rw [eT]; exact s_steps_ag (s_bec_ag _ _ _) q
        have hT4 : T 4 = nI N := by rw [eT]; exact s_steps_N (by rw [s_bec_4]; exact hN) q
        refine z_iload2 F dX4_ahead_58 ?_
        refine z_tsw_0_4 rfl (fun h59 => ?_) (fun h59 => ?_) (fun h59 => ?_) (fun h59 => ?_) (fun h59 => ?_) (fun h59 => ?_)
        · refine z_tabIn F 92 dX4_ahead_59 (by rw [h59]; decide) (by rw [h59]; decide) (by rw [h59]; rfl) (by decide) ?_
          refine z_aload0 F dX4_ahead_92 ?_
          refine z_callVI0 F (by have h := c4_gone (z_row D 2 T) (N := N) (by rw [z_rowo _ _ (by decide)]; exact hN) (by rw [z_rowr]; exact hT4) h10; rw [z_rowr, z_rowo _ _ (by decide)] at h; exact h) kX4_139 (by decide) ocPH (Nat.le_of_ble_eq_true rfl) rfl dX4_ahead_93 ?_
          refine hR _ _ _ _ dX4_ahead_96 rfl ?_
          simp only [o_ahead, h7, h16, h30, hqn, Bool.false_eq_true, if_true, if_false, Bool.and_true, Bool.true_and, Bool.and_false, Bool.false_and, Bool.and_self, and_self]
          refine ⟨?_, z_sm_row D _ (Or.inl rfl)⟩
          show _ = v_ahead _ _ _ _
          rw [← v_ahead_ag hTa, h59]
          rfl
        · refine z_tabIn F 97 dX4_ahead_59 (by rw [h59]; decide) (by rw [h59]; decide) (by rw [h59]; rfl) (by decide) ?_
          refine z_aload0 F dX4_ahead_97 ?_
          refine z_callVI0 F (by have h := c4_lost (z_row D 2 T) (N := N) (by rw [z_rowo _ _ (by decide)]; exact hN) (by rw [z_rowr]; exact hT4) h10; rw [z_rowr, z_rowo _ _ (by decide)] at h; exact h) kX4_142 (by decide) ocPH (Nat.le_of_ble_eq_true rfl) rfl dX4_ahead_98 ?_
          refine hR _ _ _ _ dX4_ahead_101 rfl ?_
          simp only [o_ahead, h7, h16, h30, hqn, Bool.false_eq_true, if_true, if_false, Bool.and_true, Bool.true_and, Bool.and_false, Bool.false_and, Bool.and_self, and_self]
          refine ⟨?_, z_sm_row D _ (Or.inl rfl)⟩
          show _ = v_ahead _ _ _ _
          rw [← v_ahead_ag hTa, h59]
          rfl
        · refine z_tabIn F 102 dX4_ahead_59 (by rw [h59]; decide) (by rw [h59]; decide) (by rw [h59]; rfl) (by decide) ?_
          refine z_aload0 F dX4_ahead_102 ?_
          refine z_getR F PH_trial fX4_16 dX4_ahead_103 ?_
          refine z_getI F (C_hole z_r2) fX4_75 dX4_ahead_106 ?_
          refine hR _ _ _ _ dX4_ahead_109 rfl ?_
          simp only [o_ahead, h7, h16, h30, hqn, Bool.false_eq_true, if_true, if_false, Bool.and_true, Bool.true_and, Bool.and_false, Bool.false_and, Bool.and_self, and_self]
          refine ⟨?_, z_sm_row D _ (Or.inl rfl)⟩
          show _ = v_ahead _ _ _ _
          rw [← v_ahead_ag hTa, h59, z_rowr]
          rfl
        · refine z_tabIn F 110 dX4_ahead_59 (by rw [h59]; decide) (by rw [h59]; decide) (by rw [h59]; rfl) (by decide) ?_
          refine z_aload0 F dX4_ahead_110 ?_
          refine z_getR F PH_trial fX4_16 dX4_ahead_111 ?_
          refine z_callVI0 F (by have h := c0_clinks (z_row D 2 T) z_r2 (N := N) (by rw [z_rowr]; exact hT4) h10; rw [z_rowr] at h; exact h) kX4_128 (by decide) (ocC z_r2) (Nat.le_of_ble_eq_true rfl) rfl dX4_ahead_114 ?_
          refine hR _ _ _ _ dX4_ahead_117 rfl ?_
          simp only [o_ahead, h7, h16, h30, hqn, Bool.false_eq_true, if_true, if_false, Bool.and_true, Bool.true_and, Bool.and_false, Bool.false_and, Bool.and_self, and_self]
          refine ⟨?_, z_sm_row D _ (Or.inl rfl)⟩
          show _ = v_ahead _ _ _ _
          rw [← v_ahead_ag hTa, h59]
          rfl
        · refine z_tabIn F 118 dX4_ahead_59 (by rw [h59]; decide) (by rw [h59]; decide) (by rw [h59]; rfl) (by decide) ?_
          refine z_aload0 F dX4_ahead_118 ?_
          refine z_getR F PH_trial fX4_16 dX4_ahead_119 ?_
          refine z_iconst F 2 dX4_ahead_122 zv_i_2 ?_
          refine z_callVI1 F (by have h := c0_penceIn (z_row D 2 T) z_r2 (N := N) (by rw [z_rowr]; exact hT4) h10 2; rw [z_rowr] at h; exact h) kX4_111 (by decide) (ocC z_r2) (Nat.le_of_ble_eq_true rfl) rfl dX4_ahead_123 ?_
          refine hR _ _ _ _ dX4_ahead_126 rfl ?_
          simp only [o_ahead, h7, h16, h30, hqn, Bool.false_eq_true, if_true, if_false, Bool.and_true, Bool.true_and, Bool.and_false, Bool.false_and, Bool.and_self, and_self]
          refine ⟨?_, z_sm_row D _ (Or.inl rfl)⟩
          show _ = v_ahead _ _ _ _
          rw [← v_ahead_ag hTa, h59]
          rfl
        · refine z_tabOut F 127 dX4_ahead_59 h59 (by decide) ?_
          refine z_aload0 F dX4_ahead_127 ?_
          refine z_getR F PH_trial fX4_16 dX4_ahead_128 ?_
          refine z_iconst F 1 dX4_ahead_131 zv_i_1 ?_
          refine z_callVI1 F (by have h := c0_in (z_row D 2 T) z_r2 (N := N) (by rw [z_rowr]; exact hT4) h10 1; rw [z_rowr] at h; exact h) kX4_108 (by decide) (ocC z_r2) (Nat.le_of_ble_eq_true rfl) rfl dX4_ahead_132 ?_
          refine hR _ _ _ _ dX4_ahead_135 rfl ?_
          simp only [o_ahead, h7, h16, h30, hqn, Bool.false_eq_true, if_true, if_false, Bool.and_true, Bool.true_and, Bool.and_false, Bool.false_and, Bool.and_self, and_self]
          refine ⟨?_, z_sm_row D _ (Or.inl rfl)⟩
          show _ = v_ahead _ _ _ _
          rw [← v_ahead_ag hTa]
          obtain ⟨n0, n1, n2, n3, n4⟩ := z_out04 h59
          simp only [v_ahead, n0, n1, n2, n3, n4, if_false]
      · simp only [decide_eq_true_eq] at h30
        refine z_aload0 F dX4_ahead_33 ?_
        refine z_iconst F 4 dX4_ahead_34 zv_i_4 ?_
        refine z_callVI1 F (c4_finding _ 4 (by decide)) kX4_55 (by decide) ocPH (Nat.le_of_ble_eq_true rfl) rfl dX4_ahead_35 ?_
        refine hR _ _ _ _ dX4_ahead_38 rfl ?_
        simp only [o_ahead, h7, h16, h30, Bool.false_eq_true, if_true, if_false, Bool.and_true, Bool.true_and, Bool.and_false, Bool.false_and, Bool.and_self, and_self]; first | exact ⟨rfl, rfl⟩ | exact ⟨by decide, rfl⟩ | exact ⟨by decide, z_sm_r _⟩ | exact ⟨rfl, z_sm_r _⟩
    · refine z_aload0 F dX4_ahead_19 ?_
      refine z_iconst F 0 dX4_ahead_20 zv_i_0 ?_
      refine z_callVI1 F (c4_finding _ 0 (by decide)) kX4_55 (by decide) ocPH (Nat.le_of_ble_eq_true rfl) rfl dX4_ahead_21 ?_
      refine hR _ _ _ _ dX4_ahead_24 rfl ?_
      simp only [o_ahead, h7, h16, Bool.false_eq_true, if_true, if_false, Bool.and_true, Bool.true_and, Bool.and_false, Bool.false_and, Bool.and_self, and_self]; first | exact ⟨rfl, rfl⟩ | exact ⟨by decide, rfl⟩ | exact ⟨by decide, z_sm_r _⟩ | exact ⟨rfl, z_sm_r _⟩
set_option maxHeartbeats 1000000 in
set_option maxRecDepth 20000 in
theorem c4_cell (D : zD) (x y : Int32) {N : Nat} (hN : D.1 1 4 = nI N) (h10 : N ≤ 10) (hce : ∀ n c, c < N → ¬ s_steps (D.1 1) N n (16 + 8 * c + 6) < 0) : z_CI SX zT yX4_cell cX4_cell 4 .int 5 [.ref 0, .int x, .int y] D (z_qX D (o_cell (D.1 1) N x y)) := by
  refine z_startI SX_ok (by decide +kernel) (fun v hv => by simp at hv; rcases hv with rfl | rfl | rfl <;> rfl) (Nat.le_of_ble_eq_true rfl) (fun X F hR => ?_)
  show z_J X SX 0 [some (.ref 0), some (.int x), some (.int y), none] [] D
  refine z_aload0 F dX4_cell_0 ?_
  refine z_getR F PH_coat fX4_10 dX4_cell_1 ?_
  refine z_iload1 F dX4_cell_4 ?_
  refine z_callVI1 F (c0_has _ z_r1 hN h10 _) kX4_67 (by decide) (ocC z_r1) (Nat.le_of_ble_eq_true rfl) rfl dX4_cell_5 ?_
  refine z_ifb_eq F 21 dX4_cell_8 (by decide) (fun h8 => ?_) (fun h8 => ?_)
  · refine z_aload0 F dX4_cell_21 ?_
    refine z_iconst F 0 dX4_cell_22 zv_i_0 ?_
    refine z_callVI1 F (c4_finding _ 0 (by decide)) kX4_55 (by decide) ocPH (Nat.le_of_ble_eq_true rfl) rfl dX4_cell_23 ?_
    refine hR _ _ _ _ dX4_cell_26 rfl ?_
    simp only [o_cell, h8, Bool.false_eq_true, if_true, if_false, Bool.and_true, Bool.true_and, Bool.and_false, Bool.false_and, Bool.and_self, and_self]; first | exact ⟨rfl, rfl⟩ | exact ⟨by decide, rfl⟩ | exact ⟨by decide, z_sm_r _⟩ | exact ⟨rfl, z_sm_r _⟩
  · refine z_iload2 F dX4_cell_11 ?_
    refine z_iconst F 0 dX4_cell_12 zv_i_0 ?_
    refine z_bipush F 100 dX4_cell_13 zv_b_100 ?_
    refine z_callSI3 F (c4_isWithin _ _ _ _) kX4_51 (by decide) (Nat.le_of_ble_eq_true rfl) rfl dX4_cell_15 ?_
    refine z_ifb_ne F 27 dX4_cell_18 (by decide) (fun h18 => ?_) (fun h18 => ?_)
    · obtain ⟨j, hj, rfl⟩ := b_coin_ex h10 h8
      obtain ⟨q, hq, rfl⟩ := b_in0 100 (by decide) h18
      have hjn := i_n_n (j := j) (by omega)
      have hqn := i_n_n (j := q) (by omega)
      refine z_aload0 F dX4_cell_27 ?_
      refine z_iload2 F dX4_cell_28 ?_
      refine z_callVI1 F (c4_isTooFar _ _) kX4_114 (by decide) ocPH (Nat.le_of_ble_eq_true rfl) rfl dX4_cell_29 ?_
      refine z_ifb_eq F 41 dX4_cell_32 (by decide) (fun h32 => ?_) (fun h32 => ?_)
      · simp only [decide_eq_false_iff_not] at h32
        refine z_aload0 F dX4_cell_41 ?_
        refine z_getR F PH_trial fX4_16 dX4_cell_42 ?_
        refine z_aload0 F dX4_cell_45 ?_
        refine z_getR F PH_coat fX4_10 dX4_cell_46 ?_
        refine z_callVV1 F (c4_tbec D hN h10) kX4_135 (by decide) (ocC z_r2) (Nat.le_of_ble_eq_true rfl) rfl dX4_cell_49 ?_
        refine z_aload0 F dX4_cell_52 ?_
        refine z_getR F PH_trial fX4_16 dX4_cell_53 ?_
        refine z_iload2 F dX4_cell_56 ?_
        refine z_callVV1 F (c4_tgo D (s_bec (D.1 1) (D.1 2) N) (by rw [s_bec_4]; exact hN) h10 q (by omega)) kX4_117 (by decide) (ocC z_r2) (Nat.le_of_ble_eq_true rfl) rfl dX4_cell_57 ?_
        obtain ⟨T, eT⟩ : ∃ T, T = s_steps (s_bec (D.1 1) (D.1 2) N) N q := ⟨_, rfl⟩
        rw [← eT]
        have hTa : ag N T (s_steps (D.1 1) N q) := by rw [eT]; exact s_steps_ag (s_bec_ag _ _ _) q
        have hT4 : T 4 = nI N := by rw [eT]; exact s_steps_N (by rw [s_bec_4]; exact hN) q
        refine z_aload0 F dX4_cell_60 ?_
        refine z_getR F PH_trial fX4_16 dX4_cell_61 ?_
        refine z_getR F (C_row z_r2) fX4_71 dX4_cell_64 ?_
        refine z_iload1 F dX4_cell_67 ?_
        refine z_aald F (aRow z_r2) (Or.inl rfl) (j) rfl (show j < 10 by omega) dX4_cell_68 ?_
        refine z_astore3 F dX4_cell_69 rfl ?_
        refine z_aload3 F dX4_cell_70 ?_
        refine z_getI F (K_f z_r2 (show j < 10 by omega) 4 (by decide)) fX4_95 dX4_cell_71 ?_
        rw [z_rowr, ag_c hTa hj (show 4 < 8 by decide)]
        refine z_iconst F 1 dX4_cell_74 zv_i_1 ?_
        refine z_ic_ne F 85 dX4_cell_75 (by decide) (fun h75 => ?_) (fun h75 => ?_)
        · refine z_aload0 F dX4_cell_85 ?_
          refine z_iconst F 3 dX4_cell_86 zv_i_3 ?_
          refine z_callVI1 F (c4_finding _ 3 (by decide)) kX4_55 (by decide) ocPH (Nat.le_of_ble_eq_true rfl) rfl dX4_cell_87 ?_
          refine hR _ _ _ _ dX4_cell_90 rfl ?_
          simp only [o_cell, h8, h18, h32, hjn, hqn, h75, Bool.false_eq_true, if_true, if_false, Bool.and_true, Bool.true_and, Bool.and_false, Bool.false_and, Bool.and_self, and_self]
          exact ⟨rfl, z_sm_fX _ (z_sm_row D _ (Or.inl rfl))⟩
        · refine z_aload3 F dX4_cell_78 ?_
          refine z_getI F (K_f z_r2 (show j < 10 by omega) 6 (by decide)) fX4_155 dX4_cell_79 ?_
          rw [z_rowr, ag_c hTa hj (show 6 < 8 by decide)]
          refine z_goto F 90 dX4_cell_82 (by decide) ?_
          refine hR _ _ _ _ dX4_cell_90 rfl ?_
          simp only [o_cell, h8, h18, h32, hjn, hqn, h75, hce q j hj, Bool.false_eq_true, if_true, if_false, Bool.and_true, Bool.true_and, Bool.and_false, Bool.false_and, Bool.and_self, and_self]
          exact ⟨rfl, z_sm_row D _ (Or.inl rfl)⟩
      · simp only [decide_eq_true_eq] at h32
        refine z_aload0 F dX4_cell_35 ?_
        refine z_iconst F 4 dX4_cell_36 zv_i_4 ?_
        refine z_callVI1 F (c4_finding _ 4 (by decide)) kX4_55 (by decide) ocPH (Nat.le_of_ble_eq_true rfl) rfl dX4_cell_37 ?_
        refine hR _ _ _ _ dX4_cell_40 rfl ?_
        simp only [o_cell, h8, h18, h32, Bool.false_eq_true, if_true, if_false, Bool.and_true, Bool.true_and, Bool.and_false, Bool.false_and, Bool.and_self, and_self]; first | exact ⟨rfl, rfl⟩ | exact ⟨by decide, rfl⟩ | exact ⟨by decide, z_sm_r _⟩ | exact ⟨rfl, z_sm_r _⟩
    · refine z_aload0 F dX4_cell_21 ?_
      refine z_iconst F 0 dX4_cell_22 zv_i_0 ?_
      refine z_callVI1 F (c4_finding _ 0 (by decide)) kX4_55 (by decide) ocPH (Nat.le_of_ble_eq_true rfl) rfl dX4_cell_23 ?_
      refine hR _ _ _ _ dX4_cell_26 rfl ?_
      simp only [o_cell, h8, h18, Bool.false_eq_true, if_true, if_false, Bool.and_true, Bool.true_and, Bool.and_false, Bool.false_and, Bool.and_self, and_self]; first | exact ⟨rfl, rfl⟩ | exact ⟨by decide, rfl⟩ | exact ⟨by decide, z_sm_r _⟩ | exact ⟨rfl, z_sm_r _⟩
