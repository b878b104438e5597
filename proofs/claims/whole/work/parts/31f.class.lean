set_option maxHeartbeats 1000000 in
set_option maxRecDepth 20000 in
theorem c4_latest (D : zD) (x y : Int32) {N : Nat} (hN : D.1 1 4 = nI N) (h10 : N ≤ 10) : z_CI SX zT yX4_latest cX4_latest 4 .int 6 [.ref 0, .int x, .int y] D (z_qX D (o_latest (D.1 1) N x y)) := by
  refine z_startI SX_ok (by decide +kernel) (fun v hv => by simp at hv; rcases hv with rfl | rfl | rfl <;> rfl) (Nat.le_of_ble_eq_true rfl) (fun X F hR => ?_)
  show z_J X SX 0 [some (.ref 0), some (.int x), some (.int y), none] [] D
  refine z_iload1 F dX4_latest_0 ?_
  refine z_iconst F 1 dX4_latest_1 zv_i_1 ?_
  refine z_bipush F 100 dX4_latest_2 zv_b_100 ?_
  refine z_callSI3 F (c4_isWithin _ _ _ _) kX4_51 (by decide) (Nat.le_of_ble_eq_true rfl) rfl dX4_latest_4 ?_
  refine z_ifb_eq F 21 dX4_latest_7 (by decide) (fun h7 => ?_) (fun h7 => ?_)
  · refine z_aload0 F dX4_latest_21 ?_
    refine z_iconst F 0 dX4_latest_22 zv_i_0 ?_
    refine z_callVI1 F (c4_finding _ 0 (by decide)) kX4_55 (by decide) ocPH (Nat.le_of_ble_eq_true rfl) rfl dX4_latest_23 ?_
    refine hR _ _ _ _ dX4_latest_26 rfl ?_
    simp only [o_latest, h7, Bool.false_eq_true, if_true, if_false, Bool.and_true, Bool.true_and, Bool.and_false, Bool.false_and, Bool.and_self, and_self]; first | exact ⟨rfl, rfl⟩ | exact ⟨by decide, rfl⟩ | exact ⟨by decide, z_sm_r _⟩ | exact ⟨rfl, z_sm_r _⟩
  · refine z_iload2 F dX4_latest_10 ?_
    refine z_iconst F 0 dX4_latest_11 zv_i_0 ?_
    refine z_sipush F 9999 dX4_latest_12 zv_s_9999 ?_
    refine z_callSI3 F (c4_isWithin _ _ _ _) kX4_51 (by decide) (Nat.le_of_ble_eq_true rfl) rfl dX4_latest_15 ?_
    refine z_ifb_ne F 27 dX4_latest_18 (by decide) (fun h18 => ?_) (fun h18 => ?_)
    · refine z_aload0 F dX4_latest_27 ?_
      refine z_iload1 F dX4_latest_28 ?_
      refine z_callVI1 F (c4_isTooFar _ _) kX4_114 (by decide) ocPH (Nat.le_of_ble_eq_true rfl) rfl dX4_latest_29 ?_
      refine z_ifb_eq F 41 dX4_latest_32 (by decide) (fun h32 => ?_) (fun h32 => ?_)
      · simp only [decide_eq_false_iff_not] at h32
        obtain ⟨q, hq1, hq, rfl⟩ := b_in1 100 (by decide) h7
        have hqn := i_n_n (j := q) (by omega)
        refine z_iload1 F dX4_latest_41 ?_
        refine z_istore3 F dX4_latest_42 rfl ?_
        have loop : ∀ k, k ≤ q + 1 → s_down (s_latestP (D.1 1) N q y) k = s_down (s_latestP (D.1 1) N q y) (q + 1) → ∀ (T : Nat → Int32), z_J X SX 43 [some (.ref 0), some (.int (nI q)), some (.int y), some (.int (nI k + (-1)))] [] (z_row D 2 T) := by
          intro k
          induction k with
          | zero =>
            intro hk he T
            refine z_iload3 F dX4_latest_43 ?_
            refine z_if_lt F 93 dX4_latest_44 (by decide) (fun h44 => ?_) (fun h44 => ?_)
            · refine z_aload0 F dX4_latest_93 ?_
              refine z_iconst F 3 dX4_latest_94 zv_i_3 ?_
              refine z_callVI1 F (c4_finding _ 3 (by decide)) kX4_55 (by decide) ocPH (Nat.le_of_ble_eq_true rfl) rfl dX4_latest_95 ?_
              refine hR _ _ _ _ dX4_latest_98 rfl ?_
              simp only [o_latest, h7, h18, h32, hqn, Bool.false_eq_true, if_true, if_false, Bool.and_true, Bool.true_and, Bool.and_false, Bool.false_and, Bool.and_self, and_self]
              rw [← he]
              exact ⟨rfl, z_sm_fX _ (z_sm_row D _ (Or.inl rfl))⟩
            · exact absurd (by decide) h44
          | succ k ih =>
            intro hk he T
            rw [pk_m1]
            refine z_iload3 F dX4_latest_43 ?_
            refine z_if_lt F 93 dX4_latest_44 (by decide) (fun h44 => ?_) (fun h44 => ?_)
            · exact absurd h44 (Int32.not_lt.mpr (nI_pos' (by omega)))
            · refine z_aload0 F dX4_latest_47 ?_
              refine z_getR F PH_trial fX4_16 dX4_latest_48 ?_
              refine z_aload0 F dX4_latest_51 ?_
              refine z_getR F PH_coat fX4_10 dX4_latest_52 ?_
              refine z_callVV1 F (c4_tbec2 D T hN h10) kX4_135 (by decide) (ocC z_r2) (Nat.le_of_ble_eq_true rfl) rfl dX4_latest_55 ?_
              refine z_aload0 F dX4_latest_58 ?_
              refine z_getR F PH_trial fX4_16 dX4_latest_59 ?_
              refine z_iload3 F dX4_latest_62 ?_
              refine z_callVV1 F (c4_tgo D (s_bec (D.1 1) T N) (by rw [s_bec_4]; exact hN) h10 k (by omega)) kX4_117 (by decide) (ocC z_r2) (Nat.le_of_ble_eq_true rfl) rfl dX4_latest_63 ?_
              refine z_aload0 F dX4_latest_66 ?_
              refine z_getR F PH_trial fX4_16 dX4_latest_67 ?_
              refine z_iconst F 0 dX4_latest_70 zv_i_0 ?_
              refine z_putI F (C_hole z_r2) fX4_75 rfl rfl dX4_latest_71 ?_
              rw [z_row_up, show upd (s_steps (s_bec (D.1 1) T N) N k) 1 0 = (s_hole (s_steps (s_bec (D.1 1) T N) N k) 0) from rfl]
              refine z_aload0 F dX4_latest_74 ?_
              refine z_iload1 F dX4_latest_75 ?_
              refine z_iload3 F dX4_latest_76 ?_
              refine z_isub F dX4_latest_77 ?_
              rw [pk_sub (show k ≤ q by omega)]
              refine z_callVI1 F (by have h := c4_lostB D (s_hole (s_steps (s_bec (D.1 1) T N) N k) 0) hN (by rw [s_hole_lo _ _ (by decide)]; exact s_steps_N (by rw [s_bec_4]; exact hN) k) h10 (q - k) (by omega); rw [v_lost_ag (T := (s_hole (s_steps (s_bec (D.1 1) T N) N k) 0)) (τ := s_hole (s_steps (D.1 1) N k) 0) (ag_u 1 0 (s_steps_ag (s_bec_ag (D.1 1) T N) k))] at h; exact h) kX4_161 (by decide) ocPH (Nat.le_of_ble_eq_true rfl) rfl dX4_latest_78 ?_
              refine z_iload2 F dX4_latest_81 ?_
              refine z_ic_gt F 87 dX4_latest_82 (by decide) (fun h82 => ?_) (fun h82 => ?_)
              · have hp : s_latestP (D.1 1) N q y k = false := by
                  simp only [s_latestP, decide_eq_false_iff_not]
                  exact Int32.not_le.mpr h82
                refine z_iinc3 F (-1) dX4_latest_87 rfl zv_i_m1 ?_
                refine z_goto F 43 dX4_latest_90 (by decide) ?_
                exact ih (by omega) (by rw [← he, s_down, if_neg (by rw [hp]; decide)]) _
              · have hp : s_latestP (D.1 1) N q y k = true := by
                  simp only [s_latestP, decide_eq_true_eq]
                  exact Int32.not_lt.mp h82
                refine z_iload3 F dX4_latest_85 ?_
                refine hR _ _ _ _ dX4_latest_86 rfl ?_
                simp only [o_latest, h7, h18, h32, hqn, Bool.false_eq_true, if_true, if_false, Bool.and_true, Bool.true_and, Bool.and_false, Bool.false_and, Bool.and_self, and_self]
                rw [← he, s_down, if_pos hp]
                exact ⟨rfl, z_sm_row D _ (Or.inl rfl)⟩
        have h := loop (q + 1) (Nat.le_refl _) rfl (D.1 2)
        rw [pk_m1, z_row_eq] at h
        exact h
      · simp only [decide_eq_true_eq] at h32
        refine z_aload0 F dX4_latest_35 ?_
        refine z_iconst F 4 dX4_latest_36 zv_i_4 ?_
        refine z_callVI1 F (c4_finding _ 4 (by decide)) kX4_55 (by decide) ocPH (Nat.le_of_ble_eq_true rfl) rfl dX4_latest_37 ?_
        refine hR _ _ _ _ dX4_latest_40 rfl ?_
        simp only [o_latest, h7, h18, h32, Bool.false_eq_true, if_true, if_false, Bool.and_true, Bool.true_and, Bool.and_false, Bool.false_and, Bool.and_self, and_self]; first | exact ⟨rfl, rfl⟩ | exact ⟨by decide, rfl⟩ | exact ⟨by decide, z_sm_r _⟩ | exact ⟨rfl, z_sm_r _⟩
    · refine z_aload0 F dX4_latest_21 ?_
      refine z_iconst F 0 dX4_latest_22 zv_i_0 ?_
      refine z_callVI1 F (c4_finding _ 0 (by decide)) kX4_55 (by decide) ocPH (Nat.le_of_ble_eq_true rfl) rfl dX4_latest_23 ?_
      refine hR _ _ _ _ dX4_latest_26 rfl ?_
      simp only [o_latest, h7, h18, Bool.false_eq_true, if_true, if_false, Bool.and_true, Bool.true_and, Bool.and_false, Bool.false_and, Bool.and_self, and_self]; first | exact ⟨rfl, rfl⟩ | exact ⟨by decide, rfl⟩ | exact ⟨by decide, z_sm_r _⟩ | exact ⟨rfl, z_sm_r _⟩
theorem i_late {x : Int32} (h : ∃ s, s ≤ 9999 ∧ x = nI s) : (9999 < x + 100) ↔ 9899 < x := by
  obtain ⟨s, hs, rfl⟩ := h
  rw [show (100 : Int32) = nI 100 from rfl, nI_add, show (9999 : Int32) = nI 9999 from rfl, show (9899 : Int32) = nI 9899 from rfl, nI_ltI (by omega) (by omega), nI_ltI (by omega) (by omega)]
  omega
set_option maxHeartbeats 1000000 in
set_option maxRecDepth 20000 in
theorem c4_falls (D : zD) (c : Int32) {N : Nat} (hN : D.1 1 4 = nI N) (h10 : N ≤ 10) (hst : ∃ s, s ≤ 9999 ∧ D.1 1 0 = nI s) : z_CI SX zT yX4_falls cX4_falls 3 .int 5 [.ref 0, .int c] D (z_qX D (o_till (D.1 1) N c true)) := by
  refine z_startI SX_ok (by decide +kernel) (fun v hv => by simp at hv; rcases hv with rfl | rfl <;> rfl) (Nat.le_of_ble_eq_true rfl) (fun X F hR => ?_)
  show z_J X SX 0 [some (.ref 0), some (.int c), none] [] D
  refine z_aload0 F dX4_falls_0 ?_
  refine z_getR F PH_coat fX4_10 dX4_falls_1 ?_
  refine z_iload1 F dX4_falls_4 ?_
  refine z_callVI1 F (c0_has _ z_r1 hN h10 _) kX4_67 (by decide) (ocC z_r1) (Nat.le_of_ble_eq_true rfl) rfl dX4_falls_5 ?_
  refine z_ifb_ne F 17 dX4_falls_8 (by decide) (fun h8 => ?_) (fun h8 => ?_)
  · refine z_aload0 F dX4_falls_17 ?_
    refine z_bipush F 100 dX4_falls_18 zv_b_100 ?_
    refine z_callVI1 F (c4_isTooFar _ _) kX4_114 (by decide) ocPH (Nat.le_of_ble_eq_true rfl) rfl dX4_falls_20 ?_
    refine z_ifb_eq F 32 dX4_falls_23 (by decide) (fun h23 => ?_) (fun h23 => ?_)
    · simp only [decide_eq_false_iff_not, i_late hst] at h23
      obtain ⟨j, hj, rfl⟩ := b_coin_ex h10 h8
      have hjn := i_n_n (j := j) (by omega)
      refine z_aload0 F dX4_falls_32 ?_
      refine z_getR F PH_trial fX4_16 dX4_falls_33 ?_
      refine z_aload0 F dX4_falls_36 ?_
      refine z_getR F PH_coat fX4_10 dX4_falls_37 ?_
      refine z_callVV1 F (by have h := c4_tbec2 D (D.1 2) hN h10; rw [z_row_eq] at h; exact h) kX4_135 (by decide) (ocC z_r2) (Nat.le_of_ble_eq_true rfl) rfl dX4_falls_40 ?_
      refine z_iconst F 0 dX4_falls_43 zv_i_0 ?_
      refine z_istore2 F dX4_falls_44 rfl ?_
      have loop : ∀ f n, n + f = 101 → s_till (s_isP j true) (D.1 1) N f n = v_till (D.1 1) N j true → ∀ (T : Nat → Int32), ag N T (s_steps (D.1 1) N n) → T 4 = nI N → z_J X SX 45 [some (.ref 0), some (.int (nI j)), some (.int (nI n))] [] (z_row D 2 T) := by
        intro f
        induction f with
        | zero =>
          intro n hn he T hT hT4
          refine z_iload2 F dX4_falls_45 ?_
          refine z_bipush F 100 dX4_falls_46 zv_b_100 ?_
          refine z_ic_gt F 83 dX4_falls_48 (by decide) (fun h48 => ?_) (fun h48 => ?_)
          · refine z_aload0 F dX4_falls_83 ?_
            refine z_iconst F 3 dX4_falls_84 zv_i_3 ?_
            refine z_callVI1 F (c4_finding _ 3 (by decide)) kX4_55 (by decide) ocPH (Nat.le_of_ble_eq_true rfl) rfl dX4_falls_85 ?_
            refine hR _ _ _ _ dX4_falls_88 rfl ?_
            simp only [o_till, h8, h23, hjn, Bool.false_eq_true, if_true, if_false, Bool.and_true, Bool.true_and, Bool.and_false, Bool.false_and, Bool.and_self, and_self]
            rw [if_pos (show 100 < v_till (D.1 1) N j true by rw [← he, s_till]; omega)]
            exact ⟨rfl, z_sm_fX _ (z_sm_row D _ (Or.inl rfl))⟩
          · exact absurd (nI_lt (a := 100) (b := n) (by omega) (by omega)) h48
        | succ f ih =>
          intro n hn he T hT hT4
          refine z_iload2 F dX4_falls_45 ?_
          refine z_bipush F 100 dX4_falls_46 zv_b_100 ?_
          refine z_ic_gt F 83 dX4_falls_48 (by decide) (fun h48 => ?_) (fun h48 => ?_)
          · exact absurd h48 (nI_nlt (a := 100) (b := n) (by omega) (by omega))
          · refine z_aload0 F dX4_falls_51 ?_
            refine z_getR F PH_trial fX4_16 dX4_falls_52 ?_
            refine z_getR F (C_row z_r2) fX4_71 dX4_falls_55 ?_
            refine z_iload1 F dX4_falls_58 ?_
            refine z_aald F (aRow z_r2) (Or.inl rfl) (j) rfl (show j < 10 by omega) dX4_falls_59 ?_
            refine z_getI F (K_f z_r2 (show j < 10 by omega) 4 (by decide)) fX4_95 dX4_falls_60 ?_
            rw [z_rowr, ag_c hT hj (show 4 < 8 by decide)]
            refine z_iconst F 2 dX4_falls_63 zv_i_2 ?_
            refine z_ic_ne F 69 dX4_falls_64 (by decide) (fun h64 => ?_) (fun h64 => ?_)
            · have hp : s_isP j true (s_steps (D.1 1) N n) = false := by rw [s_isP, if_pos rfl, decide_eq_false h64]
              refine z_aload0 F dX4_falls_69 ?_
              refine z_getR F PH_trial fX4_16 dX4_falls_70 ?_
              refine z_iconst F 1 dX4_falls_73 zv_i_1 ?_
              refine z_callVV1 F (c4_tgo D T hT4 h10 1 (by decide)) kX4_117 (by decide) (ocC z_r2) (Nat.le_of_ble_eq_true rfl) rfl dX4_falls_74 ?_
              refine z_iinc2 F 1 dX4_falls_77 rfl zv_i_1 ?_
              refine z_goto F 45 dX4_falls_80 (by decide) ?_
              have h := ih (n + 1) (by omega) (by rw [← he, s_till, if_neg (by rw [hp]; decide)]) (s_steps T N 1) (s_steps_ag hT 1) (s_steps_N hT4 1)
              rw [show nI (n + 1) = nI n + 1 from nI_succ n] at h
              exact h
            · have hp : s_isP j true (s_steps (D.1 1) N n) = true := by rw [s_isP, if_pos rfl, decide_eq_true h64]
              have e : v_till (D.1 1) N j true = n := by rw [← he, s_till, if_pos hp]
              refine z_iload2 F dX4_falls_67 ?_
              refine hR _ _ _ _ dX4_falls_68 rfl ?_
              simp only [o_till, h8, h23, hjn, Bool.false_eq_true, if_true, if_false, Bool.and_true, Bool.true_and, Bool.and_false, Bool.false_and, Bool.and_self, and_self]
              rw [if_neg (show ¬ 100 < v_till (D.1 1) N j true by rw [e]; omega), e]
              exact ⟨rfl, z_sm_row D _ (Or.inl rfl)⟩
      exact loop 101 0 rfl rfl _ (s_bec_ag _ _ _) (by rw [s_bec_4]; exact hN)
    · simp only [decide_eq_true_eq, i_late hst] at h23
      refine z_aload0 F dX4_falls_26 ?_
      refine z_iconst F 4 dX4_falls_27 zv_i_4 ?_
      refine z_callVI1 F (c4_finding _ 4 (by decide)) kX4_55 (by decide) ocPH (Nat.le_of_ble_eq_true rfl) rfl dX4_falls_28 ?_
      refine hR _ _ _ _ dX4_falls_31 rfl ?_
      simp only [o_till, h8, h23, Bool.false_eq_true, if_true, if_false, Bool.and_true, Bool.true_and, Bool.and_false, Bool.false_and, Bool.and_self, and_self]; first | exact ⟨rfl, rfl⟩ | exact ⟨by decide, rfl⟩ | exact ⟨by decide, z_sm_r _⟩ | exact ⟨rfl, z_sm_r _⟩
  · refine z_aload0 F dX4_falls_11 ?_
    refine z_iconst F 0 dX4_falls_12 zv_i_0 ?_
    refine z_callVI1 F (c4_finding _ 0 (by decide)) kX4_55 (by decide) ocPH (Nat.le_of_ble_eq_true rfl) rfl dX4_falls_13 ?_
    refine hR _ _ _ _ dX4_falls_16 rfl ?_
    simp only [o_till, h8, Bool.false_eq_true, if_true, if_false, Bool.and_true, Bool.true_and, Bool.and_false, Bool.false_and, Bool.and_self, and_self]; first | exact ⟨rfl, rfl⟩ | exact ⟨by decide, rfl⟩ | exact ⟨by decide, z_sm_r _⟩ | exact ⟨rfl, z_sm_r _⟩
