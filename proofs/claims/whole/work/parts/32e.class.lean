set_option maxHeartbeats 1000000 in
set_option maxRecDepth 20000 in
theorem c4_fits (D : zD) (x y : Int32) {N : Nat} (hN : D.1 1 4 = nI N) (h10 : N ≤ 10) : z_CI SX zT yX4_fits cX4_fits 5 .int 6 [.ref 0, .int x, .int y] D (z_qX D (o_fits (D.1 1) N x y)) := by
  refine z_startI SX_ok (by decide +kernel) (fun v hv => by simp at hv; rcases hv with rfl | rfl | rfl <;> rfl) (Nat.le_of_ble_eq_true rfl) (fun X F hR => ?_)
  show z_J X SX 0 [some (.ref 0), some (.int x), some (.int y), none, none] [] D
  refine z_aload0 F dX4_fits_0 ?_
  refine z_getR F PH_coat fX4_10 dX4_fits_1 ?_
  refine z_iload1 F dX4_fits_4 ?_
  refine z_callVI1 F (c0_isSet _ z_r1 hN h10 _) kX4_179 (by decide) (ocC z_r1) (Nat.le_of_ble_eq_true rfl) rfl dX4_fits_5 ?_
  refine z_ifb_eq F 21 dX4_fits_8 (by decide) (fun h8 => ?_) (fun h8 => ?_)
  · refine z_aload0 F dX4_fits_21 ?_
    refine z_iconst F 0 dX4_fits_22 zv_i_0 ?_
    refine z_callVI1 F (c4_finding _ 0 (by decide)) kX4_55 (by decide) ocPH (Nat.le_of_ble_eq_true rfl) rfl dX4_fits_23 ?_
    refine hR _ _ _ _ dX4_fits_26 rfl ?_
    simp only [o_fits, h8, Bool.false_eq_true, if_true, if_false, Bool.and_true, Bool.true_and, Bool.and_false, Bool.false_and, Bool.and_self, and_self]; first | exact ⟨rfl, rfl⟩ | exact ⟨by decide, rfl⟩ | exact ⟨by decide, z_sm_r _⟩ | exact ⟨rfl, z_sm_r _⟩
  · refine z_iload2 F dX4_fits_11 ?_
    refine z_iconst F 1 dX4_fits_12 zv_i_1 ?_
    refine z_bipush F 60 dX4_fits_13 zv_b_60 ?_
    refine z_callSI3 F (c4_isWithin _ _ _ _) kX4_51 (by decide) (Nat.le_of_ble_eq_true rfl) rfl dX4_fits_15 ?_
    refine z_ifb_ne F 27 dX4_fits_18 (by decide) (fun h18 => ?_) (fun h18 => ?_)
    · obtain ⟨q, hq1, hq, rfl⟩ := b_in1 60 (by decide) h18
      have hqn := i_n_n (j := q) (by omega)
      refine z_aload0 F dX4_fits_27 ?_
      refine z_iload2 F dX4_fits_28 ?_
      refine z_callVI1 F (c4_isTooFar _ _) kX4_114 (by decide) ocPH (Nat.le_of_ble_eq_true rfl) rfl dX4_fits_29 ?_
      refine z_ifb_eq F 41 dX4_fits_32 (by decide) (fun h32 => ?_) (fun h32 => ?_)
      · simp only [decide_eq_false_iff_not] at h32
        refine z_iconst F 0 dX4_fits_41 zv_i_0 ?_
        refine z_istore3 F dX4_fits_42 rfl ?_
        refine z_iconst F 0 dX4_fits_43 zv_i_0 ?_
        refine z_istore4 F dX4_fits_44 rfl ?_
        have loop : ∀ (n k : Nat), k + n = 100 → ∀ (T : Nat → Int32), z_J X SX 46 [some (.ref 0), some (.int x), some (.int (nI q)), some (.int (nI (p_tally (s_goneP (D.1 1) N q x) k))), some (.int (nI k))] [] (z_row D 2 T) := by
          intro n
          induction n with
          | zero =>
            intro k hn T
            refine z_iload4 F dX4_fits_46 ?_
            refine z_bipush F 99 dX4_fits_48 zv_b_99 ?_
            refine z_ic_gt F 73 dX4_fits_50 (by decide) (fun h50 => ?_) (fun h50 => ?_)
            · refine z_iload3 F dX4_fits_73 ?_
              refine hR _ _ _ _ dX4_fits_74 rfl ?_
              simp only [o_fits, h8, h18, h32, hqn, Bool.false_eq_true, if_true, if_false, Bool.and_true, Bool.true_and, Bool.and_false, Bool.false_and, Bool.and_self, and_self]
              rw [s_hm_all, show k = 100 by omega]
              exact ⟨rfl, z_sm_row D _ (Or.inl rfl)⟩
            · exact absurd (nI_lt (a := 99) (b := k) (by omega) (by omega)) h50
          | succ n ih =>
            intro k hn T
            refine z_iload4 F dX4_fits_46 ?_
            refine z_bipush F 99 dX4_fits_48 zv_b_99 ?_
            refine z_ic_gt F 73 dX4_fits_50 (by decide) (fun h50 => ?_) (fun h50 => ?_)
            · exact absurd h50 (nI_nlt (a := 99) (b := k) (by omega) (by omega))
            · refine z_aload0 F dX4_fits_53 ?_
              refine z_iload4 F dX4_fits_54 ?_
              refine z_iload2 F dX4_fits_56 ?_
              refine z_callVI2p F (c4_goneH D T hN h10 k q (by omega)) kX4_158 (by decide) ocPH (Nat.le_of_ble_eq_true rfl) rfl dX4_fits_57 (fun r E hr => ?_)
              obtain ⟨rfl, T1, rfl⟩ := hr
              refine z_iload1 F dX4_fits_60 ?_
              refine z_ic_ne F 67 dX4_fits_61 (by decide) (fun h61 => ?_) (fun h61 => ?_)
              · refine z_iinc4 F 1 dX4_fits_67 rfl zv_i_1 ?_
                refine z_goto F 46 dX4_fits_70 (by decide) ?_
                have h := ih (k + 1) (by omega) T1
                rw [show nI (k + 1) = nI k + 1 from nI_succ k, p_tally, if_neg (show ¬ (s_goneP (D.1 1) N q x) k = true from fun z => h61 (of_decide_eq_true z)), Nat.add_zero] at h
                exact h
              · refine z_iinc3 F 1 dX4_fits_64 rfl zv_i_1 ?_
                refine z_iinc4 F 1 dX4_fits_67 rfl zv_i_1 ?_
                refine z_goto F 46 dX4_fits_70 (by decide) ?_
                have h := ih (k + 1) (by omega) T1
                rw [show nI (k + 1) = nI k + 1 from nI_succ k, p_tally, if_pos (show (s_goneP (D.1 1) N q x) k = true from decide_eq_true h61), nI_succ] at h
                exact h
        have h := loop 100 0 (by omega) (D.1 2)
        rw [z_row_eq] at h
        exact h
      · simp only [decide_eq_true_eq] at h32
        refine z_aload0 F dX4_fits_35 ?_
        refine z_iconst F 4 dX4_fits_36 zv_i_4 ?_
        refine z_callVI1 F (c4_finding _ 4 (by decide)) kX4_55 (by decide) ocPH (Nat.le_of_ble_eq_true rfl) rfl dX4_fits_37 ?_
        refine hR _ _ _ _ dX4_fits_40 rfl ?_
        simp only [o_fits, h8, h18, h32, hqn, Bool.false_eq_true, if_true, if_false, Bool.and_true, Bool.true_and, Bool.and_false, Bool.false_and, Bool.and_self, and_self]; first | exact ⟨rfl, rfl⟩ | exact ⟨by decide, rfl⟩ | exact ⟨by decide, z_sm_r _⟩ | exact ⟨rfl, z_sm_r _⟩
    · refine z_aload0 F dX4_fits_21 ?_
      refine z_iconst F 0 dX4_fits_22 zv_i_0 ?_
      refine z_callVI1 F (c4_finding _ 0 (by decide)) kX4_55 (by decide) ocPH (Nat.le_of_ble_eq_true rfl) rfl dX4_fits_23 ?_
      refine hR _ _ _ _ dX4_fits_26 rfl ?_
      simp only [o_fits, h8, h18, Bool.false_eq_true, if_true, if_false, Bool.and_true, Bool.true_and, Bool.and_false, Bool.false_and, Bool.and_self, and_self]; first | exact ⟨rfl, rfl⟩ | exact ⟨by decide, rfl⟩ | exact ⟨by decide, z_sm_r _⟩ | exact ⟨rfl, z_sm_r _⟩
set_option maxHeartbeats 1000000 in
set_option maxRecDepth 20000 in
theorem c4_size (D : zD) (x y : Int32) {N : Nat} (hN : D.1 1 4 = nI N) (h10 : N ≤ 10) : z_CI SX zT yX4_size cX4_size 4 .int 6 [.ref 0, .int x, .int y] D (z_qX D (o_size (D.1 1) N x y)) := by
  refine z_startI SX_ok (by decide +kernel) (fun v hv => by simp at hv; rcases hv with rfl | rfl | rfl <;> rfl) (Nat.le_of_ble_eq_true rfl) (fun X F hR => ?_)
  show z_J X SX 0 [some (.ref 0), some (.int x), some (.int y), none] [] D
  refine z_aload0 F dX4_size_0 ?_
  refine z_getR F PH_coat fX4_10 dX4_size_1 ?_
  refine z_iload1 F dX4_size_4 ?_
  refine z_callVI1 F (c0_isSet _ z_r1 hN h10 _) kX4_179 (by decide) (ocC z_r1) (Nat.le_of_ble_eq_true rfl) rfl dX4_size_5 ?_
  refine z_ifb_eq F 21 dX4_size_8 (by decide) (fun h8 => ?_) (fun h8 => ?_)
  · refine z_aload0 F dX4_size_21 ?_
    refine z_iconst F 0 dX4_size_22 zv_i_0 ?_
    refine z_callVI1 F (c4_finding _ 0 (by decide)) kX4_55 (by decide) ocPH (Nat.le_of_ble_eq_true rfl) rfl dX4_size_23 ?_
    refine hR _ _ _ _ dX4_size_26 rfl ?_
    simp only [o_size, h8, Bool.false_eq_true, if_true, if_false, Bool.and_true, Bool.true_and, Bool.and_false, Bool.false_and, Bool.and_self, and_self]; first | exact ⟨rfl, rfl⟩ | exact ⟨by decide, rfl⟩ | exact ⟨by decide, z_sm_r _⟩ | exact ⟨rfl, z_sm_r _⟩
  · refine z_iload2 F dX4_size_11 ?_
    refine z_iconst F 1 dX4_size_12 zv_i_1 ?_
    refine z_bipush F 60 dX4_size_13 zv_b_60 ?_
    refine z_callSI3 F (c4_isWithin _ _ _ _) kX4_51 (by decide) (Nat.le_of_ble_eq_true rfl) rfl dX4_size_15 ?_
    refine z_ifb_ne F 27 dX4_size_18 (by decide) (fun h18 => ?_) (fun h18 => ?_)
    · obtain ⟨q, hq1, hq, rfl⟩ := b_in1 60 (by decide) h18
      have hqn := i_n_n (j := q) (by omega)
      refine z_aload0 F dX4_size_27 ?_
      refine z_iload2 F dX4_size_28 ?_
      refine z_callVI1 F (c4_isTooFar _ _) kX4_114 (by decide) ocPH (Nat.le_of_ble_eq_true rfl) rfl dX4_size_29 ?_
      refine z_ifb_eq F 41 dX4_size_32 (by decide) (fun h32 => ?_) (fun h32 => ?_)
      · simp only [decide_eq_false_iff_not] at h32
        refine z_iconst F 0 dX4_size_41 zv_i_0 ?_
        refine z_istore3 F dX4_size_42 rfl ?_
        have loop : ∀ (n k : Nat), k + n = 100 → ∀ (T : Nat → Int32), (∀ i, i < k → (s_goneP (D.1 1) N q x) i = false) → z_J X SX 43 [some (.ref 0), some (.int x), some (.int (nI q)), some (.int (nI k))] [] (z_row D 2 T) := by
          intro n
          induction n with
          | zero =>
            intro k hn T hb
            refine z_iload3 F dX4_size_43 ?_
            refine z_bipush F 99 dX4_size_44 zv_b_99 ?_
            refine z_ic_gt F 67 dX4_size_46 (by decide) (fun h46 => ?_) (fun h46 => ?_)
            · refine z_aload0 F dX4_size_67 ?_
              refine z_iconst F 3 dX4_size_68 zv_i_3 ?_
              refine z_callVI1 F (c4_finding _ 3 (by decide)) kX4_55 (by decide) ocPH (Nat.le_of_ble_eq_true rfl) rfl dX4_size_69 ?_
              refine hR _ _ _ _ dX4_size_72 rfl ?_
              have e1 := s_hm_0 100 (Nat.le_refl _) (fun i _ hi => hb i (by omega))
              simp only [o_size, h8, h18, h32, hqn, e1, Bool.false_eq_true, if_true, if_false, Bool.and_true, Bool.true_and, Bool.and_false, Bool.false_and, Bool.and_self, and_self]
              exact ⟨rfl, z_sm_fX _ (z_sm_row D _ (Or.inl rfl))⟩
            · exact absurd (nI_lt (a := 99) (b := k) (by omega) (by omega)) h46
          | succ n ih =>
            intro k hn T hb
            refine z_iload3 F dX4_size_43 ?_
            refine z_bipush F 99 dX4_size_44 zv_b_99 ?_
            refine z_ic_gt F 67 dX4_size_46 (by decide) (fun h46 => ?_) (fun h46 => ?_)
            · exact absurd h46 (nI_nlt (a := 99) (b := k) (by omega) (by omega))
            · refine z_aload0 F dX4_size_49 ?_
              refine z_iload3 F dX4_size_50 ?_
              refine z_iload2 F dX4_size_51 ?_
              refine z_callVI2p F (c4_goneH D T hN h10 k q (by omega)) kX4_158 (by decide) ocPH (Nat.le_of_ble_eq_true rfl) rfl dX4_size_52 (fun r E hr => ?_)
              obtain ⟨rfl, T1, rfl⟩ := hr
              refine z_iload1 F dX4_size_55 ?_
              refine z_ic_ne F 61 dX4_size_56 (by decide) (fun h56 => ?_) (fun h56 => ?_)
              · have hp : (s_goneP (D.1 1) N q x) k = false := decide_eq_false h56
                refine z_iinc3 F 1 dX4_size_61 rfl zv_i_1 ?_
                refine z_goto F 43 dX4_size_64 (by decide) ?_
                have h := ih (k + 1) (by omega) T1 (fun i hi => by
                  rcases Nat.lt_or_ge i k with z | z
                  · exact hb i z
                  · rw [show i = k by omega]; exact hp)
                rw [show nI (k + 1) = nI k + 1 from nI_succ k] at h
                exact h
              · have hp : (s_goneP (D.1 1) N q x) k = true := decide_eq_true h56
                obtain ⟨e1, e2⟩ := s_hm_k (by omega) hp hb 100 (Nat.le_refl _) (by omega)
                refine z_iload3 F dX4_size_59 ?_
                refine hR _ _ _ _ dX4_size_60 rfl ?_
                simp only [o_size, h8, h18, h32, hqn, e1, e2, Bool.false_eq_true, if_true, if_false, Bool.and_true, Bool.true_and, Bool.and_false, Bool.false_and, Bool.and_self, and_self]
                exact ⟨rfl, z_sm_row D _ (Or.inl rfl)⟩
        have h := loop 100 0 (by omega) (D.1 2) (fun i hi => absurd hi (by omega))
        rw [z_row_eq] at h
        exact h
      · simp only [decide_eq_true_eq] at h32
        refine z_aload0 F dX4_size_35 ?_
        refine z_iconst F 4 dX4_size_36 zv_i_4 ?_
        refine z_callVI1 F (c4_finding _ 4 (by decide)) kX4_55 (by decide) ocPH (Nat.le_of_ble_eq_true rfl) rfl dX4_size_37 ?_
        refine hR _ _ _ _ dX4_size_40 rfl ?_
        simp only [o_size, h8, h18, h32, hqn, Bool.false_eq_true, if_true, if_false, Bool.and_true, Bool.true_and, Bool.and_false, Bool.false_and, Bool.and_self, and_self]; first | exact ⟨rfl, rfl⟩ | exact ⟨by decide, rfl⟩ | exact ⟨by decide, z_sm_r _⟩ | exact ⟨rfl, z_sm_r _⟩
    · refine z_aload0 F dX4_size_21 ?_
      refine z_iconst F 0 dX4_size_22 zv_i_0 ?_
      refine z_callVI1 F (c4_finding _ 0 (by decide)) kX4_55 (by decide) ocPH (Nat.le_of_ble_eq_true rfl) rfl dX4_size_23 ?_
      refine hR _ _ _ _ dX4_size_26 rfl ?_
      simp only [o_size, h8, h18, Bool.false_eq_true, if_true, if_false, Bool.and_true, Bool.true_and, Bool.and_false, Bool.false_and, Bool.and_self, and_self]; first | exact ⟨rfl, rfl⟩ | exact ⟨by decide, rfl⟩ | exact ⟨by decide, z_sm_r _⟩ | exact ⟨rfl, z_sm_r _⟩
set_option maxHeartbeats 1000000 in
set_option maxRecDepth 20000 in
theorem c4_began (D : zD) (x : Int32) {N : Nat} (hN : D.1 1 4 = nI N) (h10 : N ≤ 10) : z_CI SX zT yX4_began cX4_began 4 .int 5 [.ref 0, .int x] D (z_qX D (o_began (D.1 1) N x)) := by
  refine z_startI SX_ok (by decide +kernel) (fun v hv => by simp at hv; rcases hv with rfl | rfl <;> rfl) (Nat.le_of_ble_eq_true rfl) (fun X F hR => ?_)
  show z_J X SX 0 [some (.ref 0), some (.int x), none, none] [] D
  refine z_aload0 F dX4_began_0 ?_
  refine z_getR F PH_coat fX4_10 dX4_began_1 ?_
  refine z_iload1 F dX4_began_4 ?_
  refine z_callVI1 F (c0_isSet _ z_r1 hN h10 _) kX4_179 (by decide) (ocC z_r1) (Nat.le_of_ble_eq_true rfl) rfl dX4_began_5 ?_
  refine z_ifb_ne F 17 dX4_began_8 (by decide) (fun h8 => ?_) (fun h8 => ?_)
  · refine z_aload0 F dX4_began_17 ?_
    refine z_bipush F 30 dX4_began_18 zv_b_30 ?_
    refine z_callVI1 F (c4_isTooFar _ _) kX4_114 (by decide) ocPH (Nat.le_of_ble_eq_true rfl) rfl dX4_began_20 ?_
    refine z_ifb_eq F 32 dX4_began_23 (by decide) (fun h23 => ?_) (fun h23 => ?_)
    · simp only [decide_eq_false_iff_not] at h23
      refine z_iconst F 0 dX4_began_32 zv_i_0 ?_
      refine z_istore2 F dX4_began_33 rfl ?_
      refine z_aload0 F dX4_began_34 ?_
      refine z_getR F PH_trial fX4_16 dX4_began_35 ?_
      refine z_aload0 F dX4_began_38 ?_
      refine z_getR F PH_coat fX4_10 dX4_began_39 ?_
      refine z_callVV1 F (by have h := c4_tbec2 D (D.1 2) hN h10; rw [z_row_eq] at h; exact h) kX4_135 (by decide) (ocC z_r2) (Nat.le_of_ble_eq_true rfl) rfl dX4_began_42 ?_
      refine z_iconst F 1 dX4_began_45 zv_i_1 ?_
      refine z_istore3 F dX4_began_46 rfl ?_
      have loop : ∀ (n c : Nat), c + n = 30 → ∀ (T : Nat → Int32), T 4 = nI N → ag N T (s_goPs (D.1 1) N c) → z_J X SX 47 [some (.ref 0), some (.int x), some (.int (s_bgn (D.1 1) N x c)), some (.int (nI (c + 1)))] [] (z_row D 2 T) := by
        intro n
        induction n with
        | zero =>
          intro c hn T hT4 hT
          refine z_iload3 F dX4_began_47 ?_
          refine z_bipush F 30 dX4_began_48 zv_b_30 ?_
          refine z_ic_gt F 81 dX4_began_50 (by decide) (fun h50 => ?_) (fun h50 => ?_)
          · refine z_iload2 F dX4_began_81 ?_
            refine hR _ _ _ _ dX4_began_82 rfl ?_
            simp only [o_began, h8, h23, Bool.false_eq_true, if_true, if_false, Bool.and_true, Bool.true_and, Bool.and_false, Bool.false_and, Bool.and_self, and_self]
            rw [show c = 30 by omega]
            exact ⟨rfl, z_sm_row D _ (Or.inl rfl)⟩
          · exact absurd (nI_lt (a := 30) (b := c + 1) (by omega) (by omega)) h50
        | succ n ih =>
          intro c hn T hT4 hT
          refine z_iload3 F dX4_began_47 ?_
          refine z_bipush F 30 dX4_began_48 zv_b_30 ?_
          refine z_ic_gt F 81 dX4_began_50 (by decide) (fun h50 => ?_) (fun h50 => ?_)
          · exact absurd h50 (nI_nlt (a := 30) (b := c + 1) (by omega) (by omega))
          · refine z_aload0 F dX4_began_53 ?_
            refine z_getR F PH_trial fX4_16 dX4_began_54 ?_
            refine z_callVI0 F (c4_tgoP D T hT4 h10) kX4_148 (by decide) (ocC z_r2) (Nat.le_of_ble_eq_true rfl) rfl dX4_began_57 ?_
            refine z_pop F dX4_began_60 rfl ?_
            refine z_aload0 F dX4_began_61 ?_
            refine z_callVI0 F (c4_tgone D (s_goP T N) hN (s_goP_4 hT4) h10) kX4_139 (by decide) ocPH (Nat.le_of_ble_eq_true rfl) rfl dX4_began_62 ?_
            have hT1 : ag N (s_goP T N) (s_goPs (D.1 1) N (c + 1)) := s_goP_ag hT
            rw [show s_lie (D.1 1) 0 N &&& (s_lie (s_goP T N) 0 N ^^^ (-1)) = s_gone (D.1 1) N (c + 1) by rw [s_lie_ag hT1 0 N (Nat.le_refl _), s_lie_go (D.1 1) h10]; rfl]
            refine z_iload1 F dX4_began_65 ?_
            refine z_ic_ne F 75 dX4_began_66 (by decide) (fun h66 => ?_) (fun h66 => ?_)
            · refine z_iinc3 F 1 dX4_began_75 rfl zv_i_1 ?_
              refine z_goto F 47 dX4_began_78 (by decide) ?_
              have h := ih (c + 1) (by omega) (s_goP T N) (s_goP_4 hT4) hT1
              rw [show nI (c + 1 + 1) = nI (c + 1) + 1 from nI_succ (c + 1), s_bgn, if_neg h66, i_or0] at h
              exact h
            · refine z_iload2 F dX4_began_69 ?_
              refine z_iconst F 1 dX4_began_70 zv_i_1 ?_
              refine z_iload3 F dX4_began_71 ?_
              refine z_ishl F dX4_began_72 ?_
              refine z_ior F dX4_began_73 ?_
              refine z_istore2 F dX4_began_74 rfl ?_
              refine z_iinc3 F 1 dX4_began_75 rfl zv_i_1 ?_
              refine z_goto F 47 dX4_began_78 (by decide) ?_
              have h := ih (c + 1) (by omega) (s_goP T N) (s_goP_4 hT4) hT1
              rw [show nI (c + 1 + 1) = nI (c + 1) + 1 from nI_succ (c + 1), s_bgn, if_pos h66] at h
              exact h
      exact loop 30 0 (by omega) (s_bec (D.1 1) (D.1 2) N) (by rw [s_bec_4]; exact hN) (s_bec_ag _ _ _)
    · simp only [decide_eq_true_eq] at h23
      refine z_aload0 F dX4_began_26 ?_
      refine z_iconst F 4 dX4_began_27 zv_i_4 ?_
      refine z_callVI1 F (c4_finding _ 4 (by decide)) kX4_55 (by decide) ocPH (Nat.le_of_ble_eq_true rfl) rfl dX4_began_28 ?_
      refine hR _ _ _ _ dX4_began_31 rfl ?_
      simp only [o_began, h8, h23, Bool.false_eq_true, if_true, if_false, Bool.and_true, Bool.true_and, Bool.and_false, Bool.false_and, Bool.and_self, and_self]; first | exact ⟨rfl, rfl⟩ | exact ⟨by decide, rfl⟩ | exact ⟨by decide, z_sm_r _⟩ | exact ⟨rfl, z_sm_r _⟩
  · refine z_aload0 F dX4_began_11 ?_
    refine z_iconst F 0 dX4_began_12 zv_i_0 ?_
    refine z_callVI1 F (c4_finding _ 0 (by decide)) kX4_55 (by decide) ocPH (Nat.le_of_ble_eq_true rfl) rfl dX4_began_13 ?_
    refine hR _ _ _ _ dX4_began_16 rfl ?_
    simp only [o_began, h8, Bool.false_eq_true, if_true, if_false, Bool.and_true, Bool.true_and, Bool.and_false, Bool.false_and, Bool.and_self, and_self]; first | exact ⟨rfl, rfl⟩ | exact ⟨by decide, rfl⟩ | exact ⟨by decide, z_sm_r _⟩ | exact ⟨rfl, z_sm_r _⟩
theorem b_set_ex {x : Int32} {N : Nat} (h10 : N ≤ 10) (h : b_set x N = true) : ∃ s, s < 2 ^ N ∧ x = nI s := by
  have hp := i_pow h10
  rw [b_set_lt x h10, Bool.and_eq_true, decide_eq_true_eq, decide_eq_true_eq] at h
  obtain ⟨j, hj, rfl⟩ := nI_of (x := x) (Int32.not_lt.mpr h.1)
  exact ⟨j, (nI_ltI hj (by omega)).mp h.2, rfl⟩
/-- a hole for which the gone ones are unlike by just one -/
def s_un (σ : Nat → Int32) (N n : Nat) (set : Int32) (k : Nat) : Prop := ∃ d, d < N ∧ s_goneP σ N n (set ^^^ ((1 : Int32) <<< (nI d &&& 31))) k = true
set_option maxHeartbeats 1000000 in
set_option maxRecDepth 20000 in
theorem c4_boy (D : zD) (x y : Int32) {N : Nat} (hN : D.1 1 4 = nI N) (h10 : N ≤ 10) : z_CI SX zT yX4_boy cX4_boy 6 .int 6 [.ref 0, .int x, .int y] D (z_qX D (o_boy (D.1 1) N x y)) := by
  refine z_startI SX_ok (by decide +kernel) (fun v hv => by simp at hv; rcases hv with rfl | rfl | rfl <;> rfl) (Nat.le_of_ble_eq_true rfl) (fun X F hR => ?_)
  show z_J X SX 0 [some (.ref 0), some (.int x), some (.int y), none, none, none] [] D
  refine z_aload0 F dX4_boy_0 ?_
  refine z_getR F PH_coat fX4_10 dX4_boy_1 ?_
  refine z_iload1 F dX4_boy_4 ?_
  refine z_callVI1 F (c0_isSet _ z_r1 hN h10 _) kX4_179 (by decide) (ocC z_r1) (Nat.le_of_ble_eq_true rfl) rfl dX4_boy_5 ?_
  refine z_ifb_eq F 21 dX4_boy_8 (by decide) (fun h8 => ?_) (fun h8 => ?_)
  · refine z_aload0 F dX4_boy_21 ?_
    refine z_iconst F 0 dX4_boy_22 zv_i_0 ?_
    refine z_callVI1 F (c4_finding _ 0 (by decide)) kX4_55 (by decide) ocPH (Nat.le_of_ble_eq_true rfl) rfl dX4_boy_23 ?_
    refine hR _ _ _ _ dX4_boy_26 rfl ?_
    simp only [o_boy, h8, Bool.false_eq_true, if_true, if_false, Bool.and_true, Bool.true_and, Bool.and_false, Bool.false_and, Bool.and_self, and_self]; first | exact ⟨rfl, rfl⟩ | exact ⟨by decide, rfl⟩ | exact ⟨by decide, z_sm_r _⟩ | exact ⟨rfl, z_sm_r _⟩
  · refine z_iload2 F dX4_boy_11 ?_
    refine z_iconst F 1 dX4_boy_12 zv_i_1 ?_
    refine z_bipush F 60 dX4_boy_13 zv_b_60 ?_
    refine z_callSI3 F (c4_isWithin _ _ _ _) kX4_51 (by decide) (Nat.le_of_ble_eq_true rfl) rfl dX4_boy_15 ?_
    refine z_ifb_ne F 27 dX4_boy_18 (by decide) (fun h18 => ?_) (fun h18 => ?_)
    · obtain ⟨q, hq1, hq, rfl⟩ := b_in1 60 (by decide) h18
      have hqn := i_n_n (j := q) (by omega)
      obtain ⟨s, hs, rfl⟩ := b_set_ex h10 h8
      have hp2 := i_pow h10
      refine z_aload0 F dX4_boy_27 ?_
      refine z_iload2 F dX4_boy_28 ?_
      refine z_callVI1 F (c4_isTooFar _ _) kX4_114 (by decide) ocPH (Nat.le_of_ble_eq_true rfl) rfl dX4_boy_29 ?_
      refine z_ifb_eq F 41 dX4_boy_32 (by decide) (fun h32 => ?_) (fun h32 => ?_)
      · simp only [decide_eq_false_iff_not] at h32
        refine z_iconst F 0 dX4_boy_41 zv_i_0 ?_
        refine z_istore3 F dX4_boy_42 rfl ?_
        refine z_iconst F 0 dX4_boy_43 zv_i_0 ?_
        refine z_istore4 F dX4_boy_44 rfl ?_
        have loop : ∀ (n k : Nat), k + n = 100 → ∀ (T : Nat → Int32) (a : Int32) (a5 : Option Value), (∀ i, i < k → (s_goneP (D.1 1) N q (nI s)) i = false) → ((a = 0 ∧ ∀ i, i < k → ¬ s_un (D.1 1) N q (nI s) i) ∨ (a = 2 ∧ ∃ i, i < k ∧ s_un (D.1 1) N q (nI s) i)) → z_J X SX 46 [some (.ref 0), some (.int (nI s)), some (.int (nI q)), some (.int a), some (.int (nI k)), a5] [] (z_row D 2 T) := by
          intro n
          induction n with
          | zero =>
            intro k hn T a a5 hb ha
            refine z_iload4 F dX4_boy_46 ?_
            refine z_bipush F 99 dX4_boy_48 zv_b_99 ?_
            refine z_ic_gt F 88 dX4_boy_50 (by decide) (fun h50 => ?_) (fun h50 => ?_)
            · refine z_iload3 F dX4_boy_88 ?_
              refine hR _ _ _ _ dX4_boy_89 rfl ?_
              have e1 := s_hm_0 100 (Nat.le_refl _) (fun i _ hi => hb i (by omega))
              simp only [o_boy, h8, h18, h32, hqn, e1, Bool.false_eq_true, if_true, if_false, Bool.and_true, Bool.true_and, Bool.and_false, Bool.false_and, Bool.and_self, and_self]
              refine ⟨?_, z_sm_row D _ (Or.inl rfl)⟩
              rcases ha with ⟨rfl, hn1⟩ | ⟨rfl, i, hi, d, hd, hn1⟩
              · exact (s_boy_0 N (fun d hd i hi => by
                  cases z : s_goneP (D.1 1) N q (nI s ^^^ ((1 : Int32) <<< (nI d &&& 31))) i
                  · rfl
                  · exact absurd ⟨d, hd, z⟩ (hn1 i (by omega)))).symm
              · exact (s_boy_2 (by omega) hn1 N hd).symm
            · exact absurd (nI_lt (a := 99) (b := k) (by omega) (by omega)) h50
          | succ n ih =>
            intro k hn T a a5 hb ha
            refine z_iload4 F dX4_boy_46 ?_
            refine z_bipush F 99 dX4_boy_48 zv_b_99 ?_
            refine z_ic_gt F 88 dX4_boy_50 (by decide) (fun h50 => ?_) (fun h50 => ?_)
            · exact absurd h50 (nI_nlt (a := 99) (b := k) (by omega) (by omega))
            · refine z_aload0 F dX4_boy_53 ?_
              refine z_iload4 F dX4_boy_54 ?_
              refine z_iload2 F dX4_boy_56 ?_
              refine z_callVI2p F (c4_goneH D T hN h10 k q (by omega)) kX4_158 (by decide) ocPH (Nat.le_of_ble_eq_true rfl) rfl dX4_boy_57 (fun r E hr => ?_)
              obtain ⟨rfl, T1, rfl⟩ := hr
              obtain ⟨u, hu1, hu2, hu3, hu4, hu5⟩ := s_un1 (σ := D.1 1) (n := q) (k := k) h10 hs
              refine z_iload1 F dX4_boy_60 ?_
              refine z_ixor F dX4_boy_61 ?_
              rw [hu2]
              refine z_callSI1 F (cj_bits _ u (by have := i_pow h10; omega)) kX4_120 (by decide) (Nat.le_of_ble_eq_true rfl) rfl dX4_boy_62 ?_
              refine z_istore5 F dX4_boy_65 rfl ?_
              refine z_iload5 F dX4_boy_67 ?_
              have hu10 := p_pop_le u
              refine z_if_ne F 74 dX4_boy_69 (by decide) (fun h69 => ?_) (fun h69 => ?_)
              · have hpk : (s_goneP (D.1 1) N q (nI s)) k = false := by
                  cases z : (s_goneP (D.1 1) N q (nI s)) k
                  · rfl
                  · exact absurd (by rw [hu3.mpr z]; rfl) h69
                refine z_iload5 F dX4_boy_74 ?_
                refine z_iconst F 1 dX4_boy_76 zv_i_1 ?_
                refine z_ic_ne F 82 dX4_boy_77 (by decide) (fun h77 => ?_) (fun h77 => ?_)
                · have hun : ¬ s_un (D.1 1) N q (nI s) k := fun ⟨d, hd, z⟩ => h77 (by rw [hu5 d hd z]; rfl)
                  refine z_iinc4 F 1 dX4_boy_82 rfl zv_i_1 ?_
                  refine z_goto F 46 dX4_boy_85 (by decide) ?_
                  have h := ih (k + 1) (by omega) T1 a (some (.int (nI (p_pop u)))) (fun i hi => by
                    rcases Nat.lt_or_ge i k with z | z
                    · exact hb i z
                    · rw [show i = k by omega]; exact hpk) (ha.elim (fun z => Or.inl ⟨z.1, fun i hi => by
                    rcases Nat.lt_or_ge i k with y | y
                    · exact z.2 i y
                    · rw [show i = k by omega]; exact hun⟩) (fun ⟨z, i, hi, y⟩ => Or.inr ⟨z, i, by omega, y⟩))
                  rw [show nI (k + 1) = nI k + 1 from nI_succ k] at h
                  exact h
                · have hun : s_un (D.1 1) N q (nI s) k := hu4 ((nI_eq (a := p_pop u) (b := 1) (by omega) (by decide)).mp h77)
                  refine z_iconst F 2 dX4_boy_80 zv_i_2 ?_
                  refine z_istore3 F dX4_boy_81 rfl ?_
                  refine z_iinc4 F 1 dX4_boy_82 rfl zv_i_1 ?_
                  refine z_goto F 46 dX4_boy_85 (by decide) ?_
                  have h := ih (k + 1) (by omega) T1 2 (some (.int (nI (p_pop u)))) (fun i hi => by
                    rcases Nat.lt_or_ge i k with z | z
                    · exact hb i z
                    · rw [show i = k by omega]; exact hpk) (Or.inr ⟨rfl, k, Nat.lt_succ_self k, hun⟩)
                  rw [show nI (k + 1) = nI k + 1 from nI_succ k] at h
                  exact h
              · have hpk : (s_goneP (D.1 1) N q (nI s)) k = true := hu3.mp ((nI_eq (a := p_pop u) (b := 0) (by omega) (by decide)).mp h69)
                obtain ⟨e1, e2⟩ := s_hm_k (by omega) hpk hb 100 (Nat.le_refl _) (by omega)
                refine z_iconst F 1 dX4_boy_72 zv_i_1 ?_
                refine hR _ _ _ _ dX4_boy_73 rfl ?_
                simp only [o_boy, h8, h18, h32, hqn, e1, Bool.false_eq_true, if_true, if_false, Bool.and_true, Bool.true_and, Bool.and_false, Bool.false_and, Bool.and_self, and_self]
                exact ⟨rfl, z_sm_row D _ (Or.inl rfl)⟩
        have h := loop 100 0 (by omega) (D.1 2) 0 none (fun i hi => absurd hi (by omega)) (Or.inl ⟨rfl, fun i hi => absurd hi (by omega)⟩)
        rw [z_row_eq] at h
        exact h
      · simp only [decide_eq_true_eq] at h32
        refine z_aload0 F dX4_boy_35 ?_
        refine z_iconst F 4 dX4_boy_36 zv_i_4 ?_
        refine z_callVI1 F (c4_finding _ 4 (by decide)) kX4_55 (by decide) ocPH (Nat.le_of_ble_eq_true rfl) rfl dX4_boy_37 ?_
        refine hR _ _ _ _ dX4_boy_40 rfl ?_
        simp only [o_boy, h8, h18, h32, hqn, Bool.false_eq_true, if_true, if_false, Bool.and_true, Bool.true_and, Bool.and_false, Bool.false_and, Bool.and_self, and_self]; first | exact ⟨rfl, rfl⟩ | exact ⟨by decide, rfl⟩ | exact ⟨by decide, z_sm_r _⟩ | exact ⟨rfl, z_sm_r _⟩
    · refine z_aload0 F dX4_boy_21 ?_
      refine z_iconst F 0 dX4_boy_22 zv_i_0 ?_
      refine z_callVI1 F (c4_finding _ 0 (by decide)) kX4_55 (by decide) ocPH (Nat.le_of_ble_eq_true rfl) rfl dX4_boy_23 ?_
      refine hR _ _ _ _ dX4_boy_26 rfl ?_
      simp only [o_boy, h8, h18, Bool.false_eq_true, if_true, if_false, Bool.and_true, Bool.true_and, Bool.and_false, Bool.false_and, Bool.and_self, and_self]; first | exact ⟨rfl, rfl⟩ | exact ⟨by decide, rfl⟩ | exact ⟨by decide, z_sm_r _⟩ | exact ⟨rfl, z_sm_r _⟩
