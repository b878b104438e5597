set_option maxHeartbeats 4000000 in
set_option maxRecDepth 20000 in
theorem c5_bears (D : zD) (c x : Int32) {N : Nat} (hN : D.1 1 4 = nI N) (h10 : N ≤ 10) : z_CI SM zT yX5_bears cX5_bears 6 .int 6 [.ref 0, .int c, .int x] D (z_qM D (o_bears (D.1 1) N c x)) := by
  refine z_startI SM_ok (by decide +kernel) (fun v hv => by simp at hv; rcases hv with rfl | rfl | rfl <;> rfl) (Nat.le_of_ble_eq_true rfl) (fun X F hR => ?_)
  show z_J X SM 0 [some (.ref 0), some (.int c), some (.int x), none, none, none] [] D
  refine z_aload0 F dX5_bears_0 ?_
  refine z_iload1 F dX5_bears_1 ?_
  refine z_callVI1 F (c5_isCoin _ _ hN h10) kX5_120 (by decide) ocM (Nat.le_of_ble_eq_true rfl) rfl dX5_bears_2 ?_
  refine z_ifb_eq F 18 dX5_bears_5 (by decide) (fun h5 => ?_) (fun h5 => ?_)
  · refine z_aload0 F dX5_bears_18 ?_
    refine z_ldc F (-1000001) dX5_bears_19 zw_721 ?_
    refine z_callVI1 F (c5_finding _ _ 0 (by decide) (by decide)) kX5_93 (by decide) ocM (Nat.le_of_ble_eq_true rfl) rfl dX5_bears_21 ?_
    refine hR _ _ _ _ dX5_bears_24 rfl ?_
    simp only [o_bears, h5, Bool.false_eq_true, if_true, if_false, Bool.and_true, Bool.true_and, Bool.and_false, Bool.false_and, Bool.and_self, and_self]; first | exact ⟨rfl, rfl⟩ | exact ⟨by decide, rfl⟩ | exact ⟨by decide, z_sm_r _⟩ | exact ⟨rfl, z_sm_r _⟩ | exact ⟨rfl, z_sm_as _⟩ | exact ⟨by decide, z_sm_fM _ (z_sm_as _)⟩
  · refine z_iload2 F dX5_bears_8 ?_
    refine z_iconst F 1 dX5_bears_9 zv_i_1 ?_
    refine z_bipush F 100 dX5_bears_10 zv_b_100 ?_
    refine z_callSI3 F (c5_within _ _ _ _) kX5_78 (by decide) (Nat.le_of_ble_eq_true rfl) rfl dX5_bears_12 ?_
    refine z_ifb_ne F 25 dX5_bears_15 (by decide) (fun h15 => ?_) (fun h15 => ?_)
    · have h15 : (b_coin c N && b_in x 1 100) = true := by rw [h5, h15]; rfl
      obtain ⟨j, hj, rfl⟩ := b_coin_ex h10 h5
      obtain ⟨q, hq1, hq, rfl⟩ := b_in1 100 (by decide) (b_and_2 h15).2
      have hjn := i_n_n (j := j) (by omega)
      have hqn := i_n_n (j := q) (by omega)
      refine z_aload0 F dX5_bears_25 ?_
      refine z_iload1 F dX5_bears_26 ?_
      refine z_iconst F 0 dX5_bears_27 zv_i_0 ?_
      refine z_callVI2 F (c5_isIn _ (j) _ (by omega)) kX5_135 (by decide) ocM (Nat.le_of_ble_eq_true rfl) rfl dX5_bears_28 ?_
      refine z_ifb_eq F 42 dX5_bears_31 (by decide) (fun h31 => ?_) (fun h31 => ?_)
      · simp only [decide_eq_false_iff_not] at h31
        refine z_aload0 F dX5_bears_42 ?_
        refine z_ldc F (-1000005) dX5_bears_43 zw_810 ?_
        refine z_callVI1 F (c5_finding _ _ 4 (by decide) (by decide)) kX5_93 (by decide) ocM (Nat.le_of_ble_eq_true rfl) rfl dX5_bears_45 ?_
        refine hR _ _ _ _ dX5_bears_48 rfl ?_
        simp only [o_bears, h15, hjn, h31, not_false_eq_true, true_or, Bool.false_eq_true, if_true, if_false, Bool.and_true, Bool.true_and, Bool.and_false, Bool.false_and, Bool.and_self, and_self]; first | exact ⟨rfl, rfl⟩ | exact ⟨by decide, rfl⟩ | exact ⟨by decide, z_sm_r _⟩ | exact ⟨rfl, z_sm_r _⟩ | exact ⟨rfl, z_sm_as _⟩ | exact ⟨by decide, z_sm_fM _ (z_sm_as _)⟩
      · simp only [decide_eq_true_eq] at h31
        refine z_aload0 F dX5_bears_34 ?_
        refine z_iload2 F dX5_bears_35 ?_
        refine z_callVI1 F (c5_isTooLate _ _) kX5_166 (by decide) ocM (Nat.le_of_ble_eq_true rfl) rfl dX5_bears_36 ?_
        refine z_ifb_eq F 49 dX5_bears_39 (by decide) (fun h39 => ?_) (fun h39 => ?_)
        · simp only [decide_eq_false_iff_not] at h39
          refine z_aload0 F dX5_bears_49 ?_
          refine z_getR F M_now fX5_9 dX5_bears_50 ?_
          refine z_aload0 F dX5_bears_53 ?_
          refine z_getR F M_aside fX5_16 dX5_bears_54 ?_
          refine z_callSV2 F (c5_aside D) kX5_74 (by decide) (Nat.le_of_ble_eq_true rfl) rfl dX5_bears_57 ?_
          refine z_iconst F (-1) dX5_bears_60 zv_i_m1 ?_
          refine z_istore3 F dX5_bears_61 rfl ?_
          refine z_bipush F 99 dX5_bears_62 zv_b_99 ?_
          refine z_istore4 F dX5_bears_64 rfl ?_
          have loop : ∀ k, k ≤ 100 → s_down (s_bearsP (D.1 1) N j q) k = s_down (s_bearsP (D.1 1) N j q) 100 → ∀ (a5 : Option Value), z_J X SM 66 [some (.ref 0), some (.int (nI j)), some (.int (nI q)), some (.int (-1)), some (.int (nI k + (-1))), a5] [] (z_as D) := by
            intro k
            induction k with
            | zero =>
              intro hk he a5
              refine z_iload4 F dX5_bears_66 ?_
              refine z_if_lt F 128 dX5_bears_68 (by decide) (fun h68 => ?_) (fun h68 => ?_)
              · refine z_iload3 F dX5_bears_128 ?_
                refine z_if_ge F 141 dX5_bears_129 (by decide) (fun h129 => ?_) (fun h129 => ?_)
                · exact absurd h129 (by decide)
                · refine z_aload0 F dX5_bears_132 ?_
                  refine z_ldc F (-1000004) dX5_bears_133 zw_860 ?_
                  refine z_callVI1 F (c5_finding _ _ 3 (by decide) (by decide)) kX5_93 (by decide) ocM (Nat.le_of_ble_eq_true rfl) rfl dX5_bears_135 ?_
                  refine z_goto F 142 dX5_bears_138 (by decide) ?_
                  refine hR _ _ _ _ dX5_bears_142 rfl ?_
                  simp only [o_bears, h15, hjn, hqn, h31, h39, not_true, or_self, false_or, Bool.false_eq_true, if_true, if_false, Bool.and_true, Bool.true_and, Bool.and_false, Bool.false_and, Bool.and_self, and_self]
                  rw [← he]
                  exact ⟨nF_3.symm, z_sm_fM _ (z_sm_as _)⟩
              · exact absurd (by decide) h68
            | succ k ih =>
              intro hk he a5
              rw [pk_m1]
              refine z_iload4 F dX5_bears_66 ?_
              refine z_if_lt F 128 dX5_bears_68 (by decide) (fun h68 => ?_) (fun h68 => ?_)
              · exact absurd h68 (Int32.not_lt.mpr (nI_pos' (by omega)))
              · refine z_iload3 F dX5_bears_71 ?_
                refine z_if_ge F 128 dX5_bears_72 (by decide) (fun h72 => ?_) (fun h72 => ?_)
                · exact absurd h72 (by decide)
                · refine z_aload0 F dX5_bears_75 ?_
                  refine z_getR F M_now fX5_9 dX5_bears_76 ?_
                  refine z_iconst F 1 dX5_bears_79 zv_i_1 ?_
                  refine z_iload4 F dX5_bears_80 ?_
                  refine z_iast F aM_now (1) rfl (by omega) dX5_bears_82 ?_
                  rw [z_up_row, z_as1, show upd (D.1 1) 1 (nI k) = s_hole (D.1 1) (nI k) from rfl]
                  refine z_aload0 F dX5_bears_83 ?_
                  refine z_iload2 F dX5_bears_84 ?_
                  refine z_callVI1 F (c5_stepsA D _ q (s_hole_N hN _) h10 (by omega)) kX5_170 (by decide) ocM (Nat.le_of_ble_eq_true rfl) rfl dX5_bears_85 ?_
                  refine z_istore5 F dX5_bears_88 rfl ?_
                  refine z_iload5 F dX5_bears_90 ?_
                  refine z_if_lt F 109 dX5_bears_92 (by decide) (fun h92 => ?_) (fun h92 => ?_)
                  · exact absurd h92 (s_fell_nn _ h10 q)
                  · refine z_aload0 F dX5_bears_95 ?_
                    refine z_iload1 F dX5_bears_96 ?_
                    refine z_iconst F 0 dX5_bears_97 zv_i_0 ?_
                    refine z_callVI2 F (c5_isInA _ _ j _ (by omega)) kX5_135 (by decide) ocM (Nat.le_of_ble_eq_true rfl) rfl dX5_bears_98 ?_
                    refine z_ifb_eq F 109 dX5_bears_101 (by decide) (fun h101 => ?_) (fun h101 => ?_)
                    · have hp : s_bearsP (D.1 1) N j q k = false := h101
                      refine z_iconst F (-1) dX5_bears_109 zv_i_m1 ?_
                      refine z_istore3 F dX5_bears_110 rfl ?_
                      refine z_aload0 F dX5_bears_111 ?_
                      refine z_getR F M_aside fX5_16 dX5_bears_112 ?_
                      refine z_aload0 F dX5_bears_115 ?_
                      refine z_getR F M_now fX5_9 dX5_bears_116 ?_
                      refine z_callSV2 F (c5_back D _ (fun i hi => by rw [s_steps_hi _ h10 hi q]; exact s_hole_lo _ _ (by omega))) kX5_74 (by decide) (Nat.le_of_ble_eq_true rfl) rfl dX5_bears_119 ?_
                      refine z_iinc4 F (-1) dX5_bears_122 rfl zv_i_m1 ?_
                      refine z_goto F 66 dX5_bears_125 (by decide) ?_
                      exact ih (by omega) (by rw [← he, s_down, if_neg (by rw [hp]; decide)]) _
                    · have hp : s_bearsP (D.1 1) N j q k = true := h101
                      refine z_iload4 F dX5_bears_104 ?_
                      refine z_goto F 110 dX5_bears_106 (by decide) ?_
                      refine z_istore3 F dX5_bears_110 rfl ?_
                      refine z_aload0 F dX5_bears_111 ?_
                      refine z_getR F M_aside fX5_16 dX5_bears_112 ?_
                      refine z_aload0 F dX5_bears_115 ?_
                      refine z_getR F M_now fX5_9 dX5_bears_116 ?_
                      refine z_callSV2 F (c5_back D _ (fun i hi => by rw [s_steps_hi _ h10 hi q]; exact s_hole_lo _ _ (by omega))) kX5_74 (by decide) (Nat.le_of_ble_eq_true rfl) rfl dX5_bears_119 ?_
                      refine z_iinc4 F (-1) dX5_bears_122 rfl zv_i_m1 ?_
                      refine z_goto F 66 dX5_bears_125 (by decide) ?_
                      refine z_iload4 F dX5_bears_66 ?_
                      refine z_if_lt F 128 dX5_bears_68 (by decide) (fun h68 => ?_) (fun h68 => ?_)
                      · refine z_iload3 F dX5_bears_128 ?_
                        refine z_if_ge F 141 dX5_bears_129 (by decide) (fun h129 => ?_) (fun h129 => ?_)
                        · refine z_iload3 F dX5_bears_141 ?_
                          refine hR _ _ _ _ dX5_bears_142 rfl ?_
                          simp only [o_bears, h15, hjn, hqn, h31, h39, not_true, or_self, false_or, Bool.false_eq_true, if_true, if_false, Bool.and_true, Bool.true_and, Bool.and_false, Bool.false_and, Bool.and_self, and_self]
                          rw [← he, s_down, if_pos hp]
                          exact ⟨rfl, z_sm_as _⟩
                        · exact absurd (nI_pos' (by omega)) h129
                      · refine z_iload3 F dX5_bears_71 ?_
                        refine z_if_ge F 128 dX5_bears_72 (by decide) (fun h72 => ?_) (fun h72 => ?_)
                        · refine z_iload3 F dX5_bears_128 ?_
                          refine z_if_ge F 141 dX5_bears_129 (by decide) (fun h129 => ?_) (fun h129 => ?_)
                          · refine z_iload3 F dX5_bears_141 ?_
                            refine hR _ _ _ _ dX5_bears_142 rfl ?_
                            simp only [o_bears, h15, hjn, hqn, h31, h39, not_true, or_self, false_or, Bool.false_eq_true, if_true, if_false, Bool.and_true, Bool.true_and, Bool.and_false, Bool.false_and, Bool.and_self, and_self]
                            rw [← he, s_down, if_pos hp]
                            exact ⟨rfl, z_sm_as _⟩
                          · exact absurd (nI_pos' (by omega)) h129
                        · exact absurd (nI_pos' (by omega)) h72
          have h := loop 100 (Nat.le_refl _) rfl none
          rw [show nI 100 + (-1) = 99 by decide] at h
          exact h
        · simp only [decide_eq_true_eq] at h39
          refine z_aload0 F dX5_bears_42 ?_
          refine z_ldc F (-1000005) dX5_bears_43 zw_810 ?_
          refine z_callVI1 F (c5_finding _ _ 4 (by decide) (by decide)) kX5_93 (by decide) ocM (Nat.le_of_ble_eq_true rfl) rfl dX5_bears_45 ?_
          refine hR _ _ _ _ dX5_bears_48 rfl ?_
          simp only [o_bears, h15, hjn, h31, h39, or_true, Bool.false_eq_true, if_true, if_false, Bool.and_true, Bool.true_and, Bool.and_false, Bool.false_and, Bool.and_self, and_self]; first | exact ⟨rfl, rfl⟩ | exact ⟨by decide, rfl⟩ | exact ⟨by decide, z_sm_r _⟩ | exact ⟨rfl, z_sm_r _⟩ | exact ⟨rfl, z_sm_as _⟩ | exact ⟨by decide, z_sm_fM _ (z_sm_as _)⟩
    · refine z_aload0 F dX5_bears_18 ?_
      refine z_ldc F (-1000001) dX5_bears_19 zw_721 ?_
      refine z_callVI1 F (c5_finding _ _ 0 (by decide) (by decide)) kX5_93 (by decide) ocM (Nat.le_of_ble_eq_true rfl) rfl dX5_bears_21 ?_
      refine hR _ _ _ _ dX5_bears_24 rfl ?_
      simp only [o_bears, h5, h15, Bool.false_eq_true, if_true, if_false, Bool.and_true, Bool.true_and, Bool.and_false, Bool.false_and, Bool.and_self, and_self]; first | exact ⟨rfl, rfl⟩ | exact ⟨by decide, rfl⟩ | exact ⟨by decide, z_sm_r _⟩ | exact ⟨rfl, z_sm_r _⟩ | exact ⟨rfl, z_sm_as _⟩ | exact ⟨by decide, z_sm_fM _ (z_sm_as _)⟩
set_option maxHeartbeats 4000000 in
set_option maxRecDepth 20000 in
theorem c5_lostThen (D : zD) (τ : Nat → Int32) (n : Nat) (gr : Int32) {N : Nat} (hN : τ 4 = nI N) (h10 : N ≤ 10) (hn : n < 2 ^ 31) (h96 : ∀ i, 96 ≤ i → τ i = D.1 1 i) : z_CI SM zT yX5_lostThen cX5_lostThen 5 .int 6 [.ref 0, .int (nI n), .int gr] (z_row (z_as D) 1 τ) (z_eq (v_lost τ N n gr) (z_as D)) := by
  refine z_startI SM_ok (by decide +kernel) (fun v hv => by simp at hv; rcases hv with rfl | rfl | rfl <;> rfl) (Nat.le_of_ble_eq_true rfl) (fun X F hR => ?_)
  show z_J X SM 0 [some (.ref 0), some (.int (nI n)), some (.int gr), none, none] [] (z_row (z_as D) 1 τ)
  refine z_aload0 F dX5_lostThen_0 ?_
  refine z_iload1 F dX5_lostThen_1 ?_
  refine z_callVI1 F (c5_stepsA D τ n hN h10 hn) kX5_170 (by decide) ocM (Nat.le_of_ble_eq_true rfl) rfl dX5_lostThen_2 ?_
  refine z_istore3 F dX5_lostThen_5 rfl ?_
  refine z_iload3 F dX5_lostThen_6 ?_
  refine z_if_ge F 14 dX5_lostThen_7 (by decide) (fun h7 => ?_) (fun h7 => ?_)
  · refine z_aload0 F dX5_lostThen_14 ?_
    refine z_aload0 F dX5_lostThen_15 ?_
    refine z_iconst F 2 dX5_lostThen_16 zv_i_2 ?_
    refine z_callVI1 F (c5_lieA _ _ _ (s_steps_N hN _) h10) kX5_141 (by decide) ocM (Nat.le_of_ble_eq_true rfl) rfl dX5_lostThen_17 ?_
    refine z_iload2 F dX5_lostThen_20 ?_
    refine z_iconst F (-1) dX5_lostThen_21 zv_i_m1 ?_
    refine z_ixor F dX5_lostThen_22 ?_
    refine z_iand F dX5_lostThen_23 ?_
    refine z_iconst F 3 dX5_lostThen_24 zv_i_3 ?_
    refine z_callVI2 F (c5_sumA _ _ 3 _ (s_steps_N hN _) h10 (by decide)) kX5_144 (by decide) ocM (Nat.le_of_ble_eq_true rfl) rfl dX5_lostThen_25 ?_
    refine z_istore4 F dX5_lostThen_28 rfl ?_
    refine z_aload0 F dX5_lostThen_30 ?_
    refine z_getR F M_aside fX5_16 dX5_lostThen_31 ?_
    refine z_aload0 F dX5_lostThen_34 ?_
    refine z_getR F M_now fX5_9 dX5_lostThen_35 ?_
    refine z_callSV2 F (c5_back D _ (fun i hi => by rw [s_steps_hi _ h10 hi n]; exact h96 i hi)) kX5_74 (by decide) (Nat.le_of_ble_eq_true rfl) rfl dX5_lostThen_38 ?_
    refine z_iload4 F dX5_lostThen_41 ?_
    refine hR _ _ _ _ dX5_lostThen_43 rfl ?_
    exact ⟨rfl, rfl⟩
  · exact absurd (s_fell_nn' τ h10 n) h7
set_option maxHeartbeats 4000000 in
set_option maxRecDepth 20000 in
theorem c5_latest (D : zD) (x y : Int32) {N : Nat} (hN : D.1 1 4 = nI N) (h10 : N ≤ 10) : z_CI SM zT yX5_latest cX5_latest 8 .int 7 [.ref 0, .int x, .int y] D (z_qM D (o_latest (D.1 1) N x y)) := by
  refine z_startI SM_ok (by decide +kernel) (fun v hv => by simp at hv; rcases hv with rfl | rfl | rfl <;> rfl) (Nat.le_of_ble_eq_true rfl) (fun X F hR => ?_)
  show z_J X SM 0 [some (.ref 0), some (.int x), some (.int y), none, none, none, none, none] [] D
  refine z_aload0 F dX5_latest_0 ?_
  refine z_iload2 F dX5_latest_1 ?_
  refine z_iconst F 0 dX5_latest_2 zv_i_0 ?_
  refine z_sipush F 9999 dX5_latest_3 zv_s_9999 ?_
  refine z_callSI3 F (c5_within _ _ _ _) kX5_78 (by decide) (Nat.le_of_ble_eq_true rfl) rfl dX5_latest_6 ?_
  refine z_iload1 F dX5_latest_9 ?_
  refine z_bipush F 100 dX5_latest_10 zv_b_100 ?_
  by_cases hb : (b_in y 0 9999 && b_in x 1 100) = true
  · by_cases hl : 9999 < D.1 1 0 + x
    · refine z_callVI3 F (c5_refL D (b_in y 0 9999) x 100 hb hl) kX5_192 (by decide) ocM (Nat.le_of_ble_eq_true rfl) rfl dX5_latest_12 ?_
      refine z_istore3 F dX5_latest_15 rfl ?_
      refine z_iload3 F dX5_latest_16 ?_
      refine z_if_eq F 26 dX5_latest_17 (by decide) (fun h17 => ?_) (fun h17 => ?_)
      · exact absurd h17 (by decide)
      · refine z_aload0 F dX5_latest_20 ?_
        refine z_iload3 F dX5_latest_21 ?_
        refine z_callVI1 F (c5_finding _ _ 4 (by decide) (by decide)) kX5_93 (by decide) ocM (Nat.le_of_ble_eq_true rfl) rfl dX5_latest_22 ?_
        refine hR _ _ _ _ dX5_latest_25 rfl ?_
        simp only [o_latest, hb, hl, Bool.false_eq_true, if_true, if_false, Bool.and_true, Bool.true_and, Bool.and_false, Bool.false_and, Bool.and_self, and_self]; first | exact ⟨rfl, rfl⟩ | exact ⟨by decide, rfl⟩ | exact ⟨by decide, z_sm_r _⟩ | exact ⟨rfl, z_sm_r _⟩ | exact ⟨rfl, z_sm_as _⟩ | exact ⟨by decide, z_sm_fM _ (z_sm_as _)⟩
    · refine z_callVI3 F (c5_refO D (b_in y 0 9999) x 100 hb hl) kX5_192 (by decide) ocM (Nat.le_of_ble_eq_true rfl) rfl dX5_latest_12 ?_
      refine z_istore3 F dX5_latest_15 rfl ?_
      refine z_iload3 F dX5_latest_16 ?_
      obtain ⟨q, hq1, hq, rfl⟩ := b_in1 100 (by decide) (b_and_2 hb).2
      have hqn := i_n_n (j := q) (by omega)
      refine z_if_eq F 26 dX5_latest_17 (by decide) (fun h17 => ?_) (fun h17 => ?_)
      · refine z_aload0 F dX5_latest_26 ?_
        refine z_getR F M_now fX5_9 dX5_latest_27 ?_
        refine z_aload0 F dX5_latest_30 ?_
        refine z_getR F M_aside fX5_16 dX5_latest_31 ?_
        refine z_callSV2 F (c5_aside D) kX5_74 (by decide) (Nat.le_of_ble_eq_true rfl) rfl dX5_latest_34 ?_
        refine z_aload0 F dX5_latest_37 ?_
        refine z_iconst F 2 dX5_latest_38 zv_i_2 ?_
        refine z_callVI1 F (by have h := c5_lieIn (z_as D) 2 (by rw [z_as1]; exact hN) h10; rw [z_as1] at h; exact h) kX5_141 (by decide) ocM (Nat.le_of_ble_eq_true rfl) rfl dX5_latest_39 ?_
        refine z_istore4 F dX5_latest_42 rfl ?_
        refine z_iconst F (-1) dX5_latest_44 zv_i_m1 ?_
        refine z_istore5 F dX5_latest_45 rfl ?_
        refine z_iload1 F dX5_latest_47 ?_
        refine z_istore6 F dX5_latest_48 rfl ?_
        have loop : ∀ k, k ≤ q + 1 → s_down (s_latestP (D.1 1) N q y) k = s_down (s_latestP (D.1 1) N q y) (q + 1) → ∀ (a7 : Option Value), z_J X SM 50 [some (.ref 0), some (.int (nI q)), some (.int y), some (.int 0), some (.int (s_lie (D.1 1) 2 N)), some (.int (-1)), some (.int (nI k + (-1))), a7] [] (z_as D) := by
          intro k
          induction k with
          | zero =>
            intro hk he a7
            refine z_iload6 F dX5_latest_50 ?_
            refine z_if_lt F 108 dX5_latest_52 (by decide) (fun h52 => ?_) (fun h52 => ?_)
            · refine z_iload5 F dX5_latest_108 ?_
              refine z_if_ge F 122 dX5_latest_110 (by decide) (fun h110 => ?_) (fun h110 => ?_)
              · exact absurd h110 (by decide)
              · refine z_aload0 F dX5_latest_113 ?_
                refine z_ldc F (-1000004) dX5_latest_114 zw_860 ?_
                refine z_callVI1 F (c5_finding _ _ 3 (by decide) (by decide)) kX5_93 (by decide) ocM (Nat.le_of_ble_eq_true rfl) rfl dX5_latest_116 ?_
                refine z_goto F 124 dX5_latest_119 (by decide) ?_
                refine hR _ _ _ _ dX5_latest_124 rfl ?_
                simp only [o_latest, hb, hl, hqn, Bool.false_eq_true, if_true, if_false, Bool.and_true, Bool.true_and, Bool.and_false, Bool.false_and, Bool.and_self, and_self]
                rw [← he]
                exact ⟨nF_3.symm, z_sm_fM _ (z_sm_as _)⟩
            · exact absurd (by decide) h52
          | succ k ih =>
            intro hk he a7
            rw [pk_m1]
            refine z_iload6 F dX5_latest_50 ?_
            refine z_if_lt F 108 dX5_latest_52 (by decide) (fun h52 => ?_) (fun h52 => ?_)
            · exact absurd h52 (Int32.not_lt.mpr (nI_pos' (by omega)))
            · refine z_iload5 F dX5_latest_55 ?_
              refine z_if_ge F 108 dX5_latest_57 (by decide) (fun h57 => ?_) (fun h57 => ?_)
              · exact absurd h57 (by decide)
              · refine z_aload0 F dX5_latest_60 ?_
                refine z_iload6 F dX5_latest_61 ?_
                rw [z_as_row D]
                refine z_callVI1 F (c5_stepsA D (D.1 1) k hN h10 (by omega)) kX5_170 (by decide) ocM (Nat.le_of_ble_eq_true rfl) rfl dX5_latest_63 ?_
                refine z_istore7 F dX5_latest_66 rfl ?_
                refine z_aload0 F dX5_latest_68 ?_
                refine z_getR F M_now fX5_9 dX5_latest_69 ?_
                refine z_iconst F 1 dX5_latest_72 zv_i_1 ?_
                refine z_iconst F 0 dX5_latest_73 zv_i_0 ?_
                refine z_iast F aM_now (1) rfl (by omega) dX5_latest_74 ?_
                rw [z_row_up, show upd (s_steps (D.1 1) N k) 1 0 = s_hole (s_steps (D.1 1) N k) 0 from rfl]
                refine z_iload7 F dX5_latest_75 ?_
                refine z_if_lt F 99 dX5_latest_77 (by decide) (fun h77 => ?_) (fun h77 => ?_)
                · exact absurd h77 (s_fell_nn _ h10 k)
                · refine z_aload0 F dX5_latest_80 ?_
                  refine z_iload1 F dX5_latest_81 ?_
                  refine z_iload6 F dX5_latest_82 ?_
                  refine z_isub F dX5_latest_84 ?_
                  refine z_iload4 F dX5_latest_85 ?_
                  rw [pk_sub (show k ≤ q by omega)]
                  refine z_callVI2 F (c5_lostThen D _ (q - k) _ (s_hole_N (s_steps_N hN _) _) h10 (by omega) (fun i hi => by rw [s_hole_lo _ _ (by omega)]; exact s_steps_hi _ h10 hi k)) kX5_196 (by decide) ocM (Nat.le_of_ble_eq_true rfl) rfl dX5_latest_87 ?_
                  refine z_iload2 F dX5_latest_90 ?_
                  refine z_ic_gt F 99 dX5_latest_91 (by decide) (fun h91 => ?_) (fun h91 => ?_)
                  · have hp : s_latestP (D.1 1) N q y k = false := by
                      simp only [s_latestP, decide_eq_false_iff_not]
                      exact Int32.not_le.mpr h91
                    refine z_iconst F (-1) dX5_latest_99 zv_i_m1 ?_
                    refine z_istore5 F dX5_latest_100 rfl ?_
                    refine z_iinc6 F (-1) dX5_latest_102 rfl zv_i_m1 ?_
                    refine z_goto F 50 dX5_latest_105 (by decide) ?_
                    exact ih (by omega) (by rw [← he, s_down, if_neg (by rw [hp]; decide)]) _
                  · have hp : s_latestP (D.1 1) N q y k = true := by
                      simp only [s_latestP, decide_eq_true_eq]
                      exact Int32.not_lt.mp h91
                    refine z_iload6 F dX5_latest_94 ?_
                    refine z_goto F 100 dX5_latest_96 (by decide) ?_
                    refine z_istore5 F dX5_latest_100 rfl ?_
                    refine z_iinc6 F (-1) dX5_latest_102 rfl zv_i_m1 ?_
                    refine z_goto F 50 dX5_latest_105 (by decide) ?_
                    refine z_iload6 F dX5_latest_50 ?_
                    refine z_if_lt F 108 dX5_latest_52 (by decide) (fun h52 => ?_) (fun h52 => ?_)
                    · refine z_iload5 F dX5_latest_108 ?_
                      refine z_if_ge F 122 dX5_latest_110 (by decide) (fun h110 => ?_) (fun h110 => ?_)
                      · refine z_iload5 F dX5_latest_122 ?_
                        refine hR _ _ _ _ dX5_latest_124 rfl ?_
                        simp only [o_latest, hb, hl, hqn, Bool.false_eq_true, if_true, if_false, Bool.and_true, Bool.true_and, Bool.and_false, Bool.false_and, Bool.and_self, and_self]
                        rw [← he, s_down, if_pos hp]
                        exact ⟨rfl, z_sm_as _⟩
                      · exact absurd (nI_pos' (by omega)) h110
                    · refine z_iload5 F dX5_latest_55 ?_
                      refine z_if_ge F 108 dX5_latest_57 (by decide) (fun h57 => ?_) (fun h57 => ?_)
                      · refine z_iload5 F dX5_latest_108 ?_
                        refine z_if_ge F 122 dX5_latest_110 (by decide) (fun h110 => ?_) (fun h110 => ?_)
                        · refine z_iload5 F dX5_latest_122 ?_
                          refine hR _ _ _ _ dX5_latest_124 rfl ?_
                          simp only [o_latest, hb, hl, hqn, Bool.false_eq_true, if_true, if_false, Bool.and_true, Bool.true_and, Bool.and_false, Bool.false_and, Bool.and_self, and_self]
                          rw [← he, s_down, if_pos hp]
                          exact ⟨rfl, z_sm_as _⟩
                        · exact absurd (nI_pos' (by omega)) h110
                      · exact absurd (nI_pos' (by omega)) h57
        have h := loop (q + 1) (Nat.le_refl _) rfl none
        rw [pk_m1] at h
        exact h
      · exact absurd h17 (by decide)
  · refine z_callVI3 F (c5_refB D (b_in y 0 9999) x 100 (by exact hb)) kX5_192 (by decide) ocM (Nat.le_of_ble_eq_true rfl) rfl dX5_latest_12 ?_
    refine z_istore3 F dX5_latest_15 rfl ?_
    refine z_iload3 F dX5_latest_16 ?_
    refine z_if_eq F 26 dX5_latest_17 (by decide) (fun h17 => ?_) (fun h17 => ?_)
    · exact absurd h17 (by decide)
    · refine z_aload0 F dX5_latest_20 ?_
      refine z_iload3 F dX5_latest_21 ?_
      refine z_callVI1 F (c5_finding _ _ 0 (by decide) (by decide)) kX5_93 (by decide) ocM (Nat.le_of_ble_eq_true rfl) rfl dX5_latest_22 ?_
      refine hR _ _ _ _ dX5_latest_25 rfl ?_
      simp only [o_latest, hb, Bool.false_eq_true, if_true, if_false, Bool.and_true, Bool.true_and, Bool.and_false, Bool.false_and, Bool.and_self, and_self]; first | exact ⟨rfl, rfl⟩ | exact ⟨by decide, rfl⟩ | exact ⟨by decide, z_sm_r _⟩ | exact ⟨rfl, z_sm_r _⟩ | exact ⟨rfl, z_sm_as _⟩ | exact ⟨by decide, z_sm_fM _ (z_sm_as _)⟩
