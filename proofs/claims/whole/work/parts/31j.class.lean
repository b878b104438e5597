set_option maxHeartbeats 1000000 in
set_option maxRecDepth 20000 in
theorem c4_judge (D : zD) (x y : Int32) {N : Nat} (hN : D.1 1 4 = nI N) (h10 : N ≤ 10) (hsz : ∀ s, s < 4 → ∃ k, k ≤ 40 ∧ D.1 13 s = nI k) : z_CI SX zT yX4_judge cX4_judge 5 .int 6 [.ref 0, .int x, .int y] D (z_qX D (o_judge D N x y)) := by
  refine z_startI SX_ok (by decide +kernel) (fun v hv => by simp at hv; rcases hv with rfl | rfl | rfl <;> rfl) (Nat.le_of_ble_eq_true rfl) (fun X F hR => ?_)
  show z_J X SX 0 [some (.ref 0), some (.int x), some (.int y), none, none] [] D
  refine z_iload1 F dX4_judge_0 ?_
  refine z_callSI1 F (c4_isSheet _ _) kX4_226 (by decide) (Nat.le_of_ble_eq_true rfl) rfl dX4_judge_1 ?_
  refine z_ifb_ne F 13 dX4_judge_4 (by decide) (fun h4 => ?_) (fun h4 => ?_)
  · obtain ⟨j, hj, rfl⟩ := b_in0 3 (by decide) h4
    have hjn := i_n_n (j := j) (by omega)
    refine z_aload0 F dX4_judge_13 ?_
    refine z_getR F PH_sheets fX4_35 dX4_judge_14 ?_
    refine z_iload1 F dX4_judge_17 ?_
    refine z_aald F aSheets (Or.inr (Or.inl rfl)) (j) rfl (show j < 4 by omega) dX4_judge_18 ?_
    refine z_astore3 F dX4_judge_19 rfl ?_
    refine z_aload3 F dX4_judge_20 ?_
    refine z_callVI0 F (c2_miss _ (show j < 4 by omega)) kX4_233 (by decide) (ocS (show j < 4 by omega)) (Nat.le_of_ble_eq_true rfl) rfl dX4_judge_21 ?_
    refine z_ifb_eq F 33 dX4_judge_24 (by decide) (fun h24 => ?_) (fun h24 => ?_)
    · have h24 := of_decide_eq_false h24
      refine z_aload0 F dX4_judge_33 ?_
      refine z_getR F PH_coat fX4_10 dX4_judge_34 ?_
      refine z_iload2 F dX4_judge_37 ?_
      refine z_callVI1 F (c0_has _ z_r1 hN h10 _) kX4_67 (by decide) (ocC z_r1) (Nat.le_of_ble_eq_true rfl) rfl dX4_judge_38 ?_
      refine z_ifb_ne F 50 dX4_judge_41 (by decide) (fun h41 => ?_) (fun h41 => ?_)
      · obtain ⟨i, hi, rfl⟩ := b_coin_ex h10 h41
        have hin := i_n_n (j := i) (by omega)
        obtain ⟨ks, hks, eks⟩ := hsz j (by omega)
        refine z_aload0 F dX4_judge_50 ?_
        refine z_aload3 F dX4_judge_51 ?_
        refine z_getI F (S_length (show j < 4 by omega)) fX4_232 dX4_judge_52 ?_
        refine z_callVI1 F (c4_isTooFar _ _) kX4_114 (by decide) ocPH (Nat.le_of_ble_eq_true rfl) rfl dX4_judge_55 ?_
        refine z_ifb_eq F 67 dX4_judge_58 (by decide) (fun h58 => ?_) (fun h58 => ?_)
        · simp only [decide_eq_false_iff_not] at h58
          have hl := h58
          refine z_aload0 F dX4_judge_67 ?_
          refine z_getR F PH_trial fX4_16 dX4_judge_68 ?_
          refine z_aload0 F dX4_judge_71 ?_
          refine z_getR F PH_coat fX4_10 dX4_judge_72 ?_
          refine z_callVV1 F (by have h := c4_tbec2 D (D.1 2) hN h10; rw [z_row_eq] at h; exact h) kX4_135 (by decide) (ocC z_r2) (Nat.le_of_ble_eq_true rfl) rfl dX4_judge_75 ?_
          refine z_iconst F 0 dX4_judge_78 zv_i_0 ?_
          refine z_istore4 F dX4_judge_79 rfl ?_
          have loop : ∀ f c, c + f = 41 → c ≤ ks → s_upto (s_jgP D N j i) f c = s_upto (s_jgP D N j i) 41 0 → ∀ (T : Nat → Int32), ag N T (s_steps (D.1 1) N c) → T 4 = nI N → z_J X SX 81 [some (.ref 0), some (.int (nI j)), some (.int (nI i)), some (.ref (43 + j)), some (.int (nI c))] [] (z_row D 2 T) := by
            intro f
            induction f with
            | zero =>
              intro c hn hcs he T hT hT4
              exact absurd hn (by omega)
            | succ f ih =>
              intro c hn hcs he T hT hT4
              refine z_iload4 F dX4_judge_81 ?_
              refine z_aload3 F dX4_judge_83 ?_
              refine z_getI F (S_length (show j < 4 by omega)) fX4_232 dX4_judge_84 ?_
              rw [z_rowo _ _ (by decide), eks]
              refine z_ic_ge F 131 dX4_judge_87 (by decide) (fun h87 => ?_) (fun h87 => ?_)
              · have hck2 : ks ≤ c := (nI_leI (by omega) (by omega)).mp h87
                have hp : (s_jgP D N j i) c = false := by
                  simp only [s_jgP, decide_eq_false (show ¬ nI c < D.1 13 j by rw [eks]; exact Int32.not_lt.mpr h87), Bool.false_and, Bool.and_false]
                have e : s_upto (s_jgP D N j i) 41 0 = c := by
                  rw [← he]
                  first
                    | rfl
                    | (rw [s_upto, if_neg (by rw [hp]; decide)])
                refine z_iconst F 0 dX4_judge_131 zv_i_0 ?_
                refine hR _ _ _ _ dX4_judge_132 rfl ?_
                simp only [o_judge, h4, hjn, h24, h41, hin, hl, Bool.false_eq_true, if_true, if_false, Bool.and_true, Bool.true_and, Bool.and_false, Bool.false_and, Bool.and_self, and_self, e]
                rw [if_pos (show nI c = D.1 13 j by rw [eks, show c = ks by omega])]
                exact ⟨rfl, z_sm_row D _ (Or.inl rfl)⟩
              · refine z_aload0 F dX4_judge_90 ?_
                refine z_getR F PH_trial fX4_16 dX4_judge_91 ?_
                refine z_iconst F 1 dX4_judge_94 zv_i_1 ?_
                refine z_callVV1 F (c4_tgo D T hT4 h10 1 (by decide)) kX4_117 (by decide) (ocC z_r2) (Nat.le_of_ble_eq_true rfl) rfl dX4_judge_95 ?_
                have hT1 : ag N (s_steps T N 1) (s_steps (D.1 1) N (c + 1)) := s_steps_ag hT 1
                have hlt : c < ks := by
                  have := Int32.not_le.mp h87
                  exact (nI_ltI (by omega) (by omega)).mp this
                refine z_aload0 F dX4_judge_98 ?_
                refine z_getR F PH_trial fX4_16 dX4_judge_99 ?_
                refine z_getR F (C_row z_r2) fX4_71 dX4_judge_102 ?_
                refine z_iload2 F dX4_judge_105 ?_
                refine z_aald F (aRow z_r2) (Or.inl rfl) (i) rfl (show i < 10 by omega) dX4_judge_106 ?_
                refine z_getI F (K_f z_r2 (show i < 10 by omega) 4 (by decide)) fX4_95 dX4_judge_107 ?_
                rw [z_rowr, ag_c hT1 hi (show 4 < 8 by decide)]
                refine z_aload3 F dX4_judge_110 ?_
                refine z_getR F (S_numbers (show j < 4 by omega)) fX4_243 dX4_judge_111 ?_
                refine z_iload4 F dX4_judge_114 ?_
                refine z_iald F (aNums (show j < 4 by omega)) (c) rfl (by omega) dX4_judge_116 ?_
                rw [z_rowo _ _ (by decide)]
                refine z_ic_eq F 125 dX4_judge_117 (by decide) (fun h117 => ?_) (fun h117 => ?_)
                · refine z_iinc4 F 1 dX4_judge_125 rfl zv_i_1 ?_
                  refine z_goto F 81 dX4_judge_128 (by decide) ?_
                  have hp : (s_jgP D N j i) c = true := by
                    simp only [s_jgP, decide_eq_true (show nI c < D.1 13 j by rw [eks]; exact Int32.not_le.mp h87), decide_eq_true h117]
                    rfl
                  have h := ih (c + 1) (by omega) (by omega) (by rw [← he, s_upto, if_pos hp]) (s_steps T N 1) hT1 (s_steps_N hT4 1)
                  rw [show nI (c + 1) = nI c + 1 from nI_succ c] at h
                  exact h
                · have hp : (s_jgP D N j i) c = false := by
                    simp only [s_jgP, decide_eq_false h117, Bool.false_and, Bool.and_false]
                  have e : s_upto (s_jgP D N j i) 41 0 = c := by
                    rw [← he]
                    first
                      | rfl
                      | (rw [s_upto, if_neg (by rw [hp]; decide)])
                  refine z_iconst F 1 dX4_judge_120 zv_i_1 ?_
                  refine z_iload4 F dX4_judge_121 ?_
                  refine z_iadd F dX4_judge_123 ?_
                  refine hR _ _ _ _ dX4_judge_124 rfl ?_
                  simp only [o_judge, h4, hjn, h24, h41, hin, hl, Bool.false_eq_true, if_true, if_false, Bool.and_true, Bool.true_and, Bool.and_false, Bool.false_and, Bool.and_self, and_self, e]
                  rw [if_neg (show ¬ nI c = D.1 13 j by rw [eks]; intro z; have := (nI_eq (by omega) (by omega)).mp z; omega)]
                  exact ⟨rfl, z_sm_row D _ (Or.inl rfl)⟩
          exact loop 41 0 rfl (Nat.zero_le _) rfl _ (s_bec_ag _ _ _) (by rw [s_bec_4]; exact hN)
        · simp only [decide_eq_true_eq] at h58
          refine z_aload0 F dX4_judge_61 ?_
          refine z_iconst F 4 dX4_judge_62 zv_i_4 ?_
          refine z_callVI1 F (c4_finding _ 4 (by decide)) kX4_55 (by decide) ocPH (Nat.le_of_ble_eq_true rfl) rfl dX4_judge_63 ?_
          refine hR _ _ _ _ dX4_judge_66 rfl ?_
          simp only [o_judge, h4, hjn, h24, h41, h58, Bool.false_eq_true, if_true, if_false, Bool.and_true, Bool.true_and, Bool.and_false, Bool.false_and, Bool.and_self, and_self]; first | exact ⟨rfl, rfl⟩ | exact ⟨by decide, rfl⟩ | exact ⟨by decide, z_sm_r _⟩ | exact ⟨rfl, z_sm_r _⟩
      · refine z_aload0 F dX4_judge_44 ?_
        refine z_iconst F 0 dX4_judge_45 zv_i_0 ?_
        refine z_callVI1 F (c4_finding _ 0 (by decide)) kX4_55 (by decide) ocPH (Nat.le_of_ble_eq_true rfl) rfl dX4_judge_46 ?_
        refine hR _ _ _ _ dX4_judge_49 rfl ?_
        simp only [o_judge, h4, hjn, h24, h41, Bool.false_eq_true, if_true, if_false, Bool.and_true, Bool.true_and, Bool.and_false, Bool.false_and, Bool.and_self, and_self]; first | exact ⟨rfl, rfl⟩ | exact ⟨by decide, rfl⟩ | exact ⟨by decide, z_sm_r _⟩ | exact ⟨rfl, z_sm_r _⟩
    · have h24 := of_decide_eq_true h24
      refine z_aload0 F dX4_judge_27 ?_
      refine z_iconst F 5 dX4_judge_28 zv_i_5 ?_
      refine z_callVI1 F (c4_finding _ 5 (by decide)) kX4_55 (by decide) ocPH (Nat.le_of_ble_eq_true rfl) rfl dX4_judge_29 ?_
      refine hR _ _ _ _ dX4_judge_32 rfl ?_
      simp only [o_judge, h4, hjn, h24, Bool.false_eq_true, if_true, if_false, Bool.and_true, Bool.true_and, Bool.and_false, Bool.false_and, Bool.and_self, and_self]; first | exact ⟨rfl, rfl⟩ | exact ⟨by decide, rfl⟩ | exact ⟨by decide, z_sm_r _⟩ | exact ⟨rfl, z_sm_r _⟩
  · refine z_aload0 F dX4_judge_7 ?_
    refine z_iconst F 0 dX4_judge_8 zv_i_0 ?_
    refine z_callVI1 F (c4_finding _ 0 (by decide)) kX4_55 (by decide) ocPH (Nat.le_of_ble_eq_true rfl) rfl dX4_judge_9 ?_
    refine hR _ _ _ _ dX4_judge_12 rfl ?_
    simp only [o_judge, h4, Bool.false_eq_true, if_true, if_false, Bool.and_true, Bool.true_and, Bool.and_false, Bool.false_and, Bool.and_self, and_self]; first | exact ⟨rfl, rfl⟩ | exact ⟨by decide, rfl⟩ | exact ⟨by decide, z_sm_r _⟩ | exact ⟨rfl, z_sm_r _⟩
