set_option maxHeartbeats 1000000 in
set_option maxRecDepth 20000 in
theorem c4_least (D : zD) (x : Int32) (c : Nat) (hc : c < 10) (h : s_has x c = true) (hb : ∀ d, d < c → s_has x d = false) : z_CI SX zT yX4_leastOf cX4_leastOf 2 .int 0 [.int x] D (z_eq (nI c) D) := by
  refine z_startI SX_ok (by decide +kernel) (fun v hv => by simp at hv; subst hv; rfl) (Nat.le_of_ble_eq_true rfl) (fun X F hR => ?_)
  show z_J X SX 0 [some (.int x), none] [] D
  refine z_iconst F 0 dX4_leastOf_0 zv_i_0 ?_
  refine z_istore1 F dX4_leastOf_1 rfl ?_
  have loop : ∀ (n i : Nat), i + n = c → z_J X SX 2 [some (.int x), some (.int (nI i))] [] D := by
    intro n
    induction n with
    | zero =>
      intro i hn 
      refine z_iload1 F dX4_leastOf_2 ?_
      refine z_bipush F 9 dX4_leastOf_3 zv_b_9 ?_
      refine z_ic_ge F 22 dX4_leastOf_5 (by decide) (fun h5 => ?_) (fun h5 => ?_)
      · refine z_iload1 F dX4_leastOf_22 ?_
        refine hR _ _ _ _ dX4_leastOf_23 rfl ?_
        rw [show i = c by omega]
        exact ⟨rfl, rfl⟩
      · refine z_iload0 F dX4_leastOf_8 ?_
        refine z_iload1 F dX4_leastOf_9 ?_
        refine z_ishr F dX4_leastOf_10 ?_
        refine z_iconst F 1 dX4_leastOf_11 zv_i_1 ?_
        refine z_iand F dX4_leastOf_12 ?_
        refine z_if_ne F 22 dX4_leastOf_13 (by decide) (fun h13 => ?_) (fun h13 => ?_)
        · refine z_iload1 F dX4_leastOf_22 ?_
          refine hR _ _ _ _ dX4_leastOf_23 rfl ?_
          rw [show i = c by omega]
          exact ⟨rfl, rfl⟩
        · exact absurd h (by rw [← show i = c by omega, s_has_z h13]; decide)
    | succ n ih =>
      intro i hn 
      refine z_iload1 F dX4_leastOf_2 ?_
      refine z_bipush F 9 dX4_leastOf_3 zv_b_9 ?_
      refine z_ic_ge F 22 dX4_leastOf_5 (by decide) (fun h5 => ?_) (fun h5 => ?_)
      · exact absurd h5 (nI_ge (a := i) (b := 9) (by omega) (by omega))
      · refine z_iload0 F dX4_leastOf_8 ?_
        refine z_iload1 F dX4_leastOf_9 ?_
        refine z_ishr F dX4_leastOf_10 ?_
        refine z_iconst F 1 dX4_leastOf_11 zv_i_1 ?_
        refine z_iand F dX4_leastOf_12 ?_
        refine z_if_ne F 22 dX4_leastOf_13 (by decide) (fun h13 => ?_) (fun h13 => ?_)
        · exact absurd (s_has_nz h13) (by rw [hb i (by omega)]; decide)
        · refine z_iinc1 F 1 dX4_leastOf_16 rfl zv_i_1 ?_
          refine z_goto F 2 dX4_leastOf_19 (by decide) ?_
          have h := ih (i + 1) (by omega)
          rw [show nI (i + 1) = nI i + 1 from nI_succ i] at h
          exact h
  exact loop c 0 (by omega)
set_option maxHeartbeats 1000000 in
set_option maxRecDepth 20000 in
theorem c4_first (D : zD) {N : Nat} (hN : D.1 1 4 = nI N) (h10 : N ≤ 10) (hst : ∃ s, s ≤ 9999 ∧ D.1 1 0 = nI s) : z_CI SX zT yX4_first cX4_first 4 .int 5 [.ref 0] D (z_qX D (o_first (D.1 1) N)) := by
  refine z_startI SX_ok (by decide +kernel) (fun v hv => by simp at hv; subst hv; rfl) (Nat.le_of_ble_eq_true rfl) (fun X F hR => ?_)
  show z_J X SX 0 [some (.ref 0), none, none, none] [] D
  refine z_aload0 F dX4_first_0 ?_
  refine z_bipush F 100 dX4_first_1 zv_b_100 ?_
  refine z_callVI1 F (c4_isTooFar _ _) kX4_114 (by decide) ocPH (Nat.le_of_ble_eq_true rfl) rfl dX4_first_3 ?_
  refine z_ifb_eq F 15 dX4_first_6 (by decide) (fun h6 => ?_) (fun h6 => ?_)
  · simp only [decide_eq_false_iff_not, i_late hst] at h6
    refine z_aload0 F dX4_first_15 ?_
    refine z_getR F PH_trial fX4_16 dX4_first_16 ?_
    refine z_aload0 F dX4_first_19 ?_
    refine z_getR F PH_coat fX4_10 dX4_first_20 ?_
    refine z_callVV1 F (by have h := c4_tbec2 D (D.1 2) hN h10; rw [z_row_eq] at h; exact h) kX4_135 (by decide) (ocC z_r2) (Nat.le_of_ble_eq_true rfl) rfl dX4_first_23 ?_
    refine z_iconst F 1 dX4_first_26 zv_i_1 ?_
    refine z_istore1 F dX4_first_27 rfl ?_
    refine z_iconst F 0 dX4_first_28 zv_i_0 ?_
    refine z_istore2 F dX4_first_29 rfl ?_
    have loop : ∀ f c, c + f = 100 → ∀ (b : Bool) (T : Nat → Int32) (a3 : Option Value), T 4 = nI N → (∀ k, k ≤ c → t_no (D.1 1) N k) → (b = true → ag N T (s_goPs (D.1 1) N c)) → (b = false → ∀ k, t_no (D.1 1) N k) → z_J X SX 30 [some (.ref 0), some (.int (z_b b)), some (.int (nI c)), a3] [] (z_row D 2 T) := by
      intro f
      induction f with
      | zero =>
        intro c hn b T a3 hT4 hno hbt hbf
        refine z_iload2 F dX4_first_30 ?_
        refine z_bipush F 100 dX4_first_31 zv_b_100 ?_
        refine z_ic_ge F 68 dX4_first_33 (by decide) (fun h33 => ?_) (fun h33 => ?_)
        · have hall : ∀ k, k ≤ 100 → t_no (D.1 1) N k := fun k hk => hno k (by omega)
          refine z_aload0 F dX4_first_68 ?_
          refine z_iconst F 3 dX4_first_69 zv_i_3 ?_
          refine z_callVI1 F (c4_finding _ 3 (by decide)) kX4_55 (by decide) ocPH (Nat.le_of_ble_eq_true rfl) rfl dX4_first_70 ?_
          refine hR _ _ _ _ dX4_first_73 rfl ?_
          have ef : s_first (D.1 1) N N = (-1, 101) := s_first_no N (fun d hd => t_of_lo (m := 100) (by decide) hd hall)
          simp only [o_first, h6, ef, Bool.false_eq_true, if_true, if_false, Bool.and_true, Bool.true_and, Bool.and_false, Bool.false_and, Bool.and_self, and_self]
          rw [if_pos (show (-1 : Int32) < 0 by decide)]
          exact ⟨rfl, z_sm_fX _ (z_sm_row D _ (Or.inl rfl))⟩
        · exact absurd (nI_le (a := 100) (b := c) (by omega) (by omega)) h33
      | succ f ih =>
        intro c hn b T a3 hT4 hno hbt hbf
        refine z_iload2 F dX4_first_30 ?_
        refine z_bipush F 100 dX4_first_31 zv_b_100 ?_
        refine z_ic_ge F 68 dX4_first_33 (by decide) (fun h33 => ?_) (fun h33 => ?_)
        · exact absurd h33 (nI_ge (a := c) (b := 100) (by omega) (by omega))
        · refine z_iload1 F dX4_first_36 ?_
          refine z_ifb_eq F 68 dX4_first_37 (by decide) (fun h37 => ?_) (fun h37 => ?_)
          · have hall : ∀ k, k ≤ 100 → t_no (D.1 1) N k := fun k _ => hbf h37 k
            refine z_aload0 F dX4_first_68 ?_
            refine z_iconst F 3 dX4_first_69 zv_i_3 ?_
            refine z_callVI1 F (c4_finding _ 3 (by decide)) kX4_55 (by decide) ocPH (Nat.le_of_ble_eq_true rfl) rfl dX4_first_70 ?_
            refine hR _ _ _ _ dX4_first_73 rfl ?_
            have ef : s_first (D.1 1) N N = (-1, 101) := s_first_no N (fun d hd => t_of_lo (m := 100) (by decide) hd hall)
            simp only [o_first, h6, ef, Bool.false_eq_true, if_true, if_false, Bool.and_true, Bool.true_and, Bool.and_false, Bool.false_and, Bool.and_self, and_self]
            rw [if_pos (show (-1 : Int32) < 0 by decide)]
            exact ⟨rfl, z_sm_fX _ (z_sm_row D _ (Or.inl rfl))⟩
          · have hT := hbt h37
            refine z_aload0 F dX4_first_40 ?_
            refine z_getR F PH_trial fX4_16 dX4_first_41 ?_
            refine z_callVI0 F (c4_tgoP D T hT4 h10) kX4_148 (by decide) (ocC z_r2) (Nat.le_of_ble_eq_true rfl) rfl dX4_first_44 ?_
            refine z_istore1 F dX4_first_47 rfl ?_
            refine z_aload0 F dX4_first_48 ?_
            refine z_callVI0 F (c4_tgone D (s_goP T N) hN (s_goP_4 hT4) h10) kX4_139 (by decide) ocPH (Nat.le_of_ble_eq_true rfl) rfl dX4_first_49 ?_
            obtain ⟨g, hg1, hg2, hg3⟩ := p_gone (D.1 1) (s_goP T N) h10
            have hp := i_pow h10
            rw [hg2]
            have hT1 : ag N (s_goP T N) (s_goPs (D.1 1) N (c + 1)) := s_goP_ag hT
            have hbit : ∀ d, d < N → (g.testBit d = true ↔ (D.1 1 (16 + 8 * d + 4) = 0 ∧ ¬ s_steps (D.1 1) N (c + 1) (16 + 8 * d + 4) = 0)) := by
              intro d hd
              rw [hg3, decide_eq_true hd, ag_c hT1 hd (show 4 < 8 by decide), ← s_in_go (D.1 1) h10 hd (c + 1)]
              simp
            refine z_istore3 F dX4_first_52 rfl ?_
            refine z_iload3 F dX4_first_53 ?_
            refine z_if_eq F 62 dX4_first_54 (by decide) (fun h54 => ?_) (fun h54 => ?_)
            · have h0 : g = 0 := (nI_eq (a := g) (b := 0) (by omega) (by decide)).mp h54
              have hno1 : t_no (D.1 1) N (c + 1) := by
                intro d hd z
                by_cases y : s_steps (D.1 1) N (c + 1) (16 + 8 * d + 4) = 0
                · exact y
                · have := (hbit d hd).mpr ⟨z, y⟩
                  rw [h0, Nat.zero_testBit] at this
                  cases this
              have hno2 : ∀ k, k ≤ c + 1 → t_no (D.1 1) N k := by
                intro k hk
                rcases Nat.lt_or_ge k (c + 1) with z | z
                · exact hno k (by omega)
                · rw [show k = c + 1 by omega]; exact hno1
              refine z_iinc2 F 1 dX4_first_62 rfl zv_i_1 ?_
              refine z_goto F 30 dX4_first_65 (by decide) ?_
              have h := ih (c + 1) (by omega) (s_stirs T N) (s_goP T N) (some (.int (nI g))) (s_goP_4 hT4) hno2 (fun _ => hT1) (fun z k => by
                rw [s_stirs_ag hT N (Nat.le_refl _)] at z
                rcases Nat.lt_or_ge k c with y | y
                · exact hno k (by omega)
                · intro d hd hz
                  have e1 := (s_in_go (D.1 1) h10 hd c).mpr (hno c (Nat.le_refl _) d hd hz)
                  exact (s_in_go (D.1 1) h10 hd k).mp (by rw [s_goPs_fix z y (by omega)]; exact e1))
              rw [show nI (c + 1) = nI c + 1 from nI_succ c] at h
              exact h
            · have h0 : g ≠ 0 := fun e => h54 (by rw [e]; rfl)
              obtain ⟨d, hd, hdb, hdl⟩ := p_least N (p_nz hg1 h0)
              have ht : t_of (D.1 1) N d = c + 1 := t_of_at (by omega) hd hno ((hbit d hd).mp hdb).1 ((hbit d hd).mp hdb).2
              have ef : s_first (D.1 1) N N = (nI d, c + 1) := s_first_at (by omega) ht (fun i hi => t_of_up (by omega) (by omega) hno (fun z => by
                by_cases y : s_steps (D.1 1) N (c + 1) (16 + 8 * i + 4) = 0
                · exact y
                · have := (hbit i (by omega)).mpr ⟨z, y⟩
                  rw [hdl i hi] at this
                  cases this)) N hd (fun i hi => t_of_lo (by omega) hi hno)
              refine z_iload3 F dX4_first_57 ?_
              refine z_callSI1 F (c4_least _ _ d (by omega) (by rw [s_has_n (by omega) (by omega)]; exact hdb) (fun i hi => by rw [s_has_n (by omega) (by omega)]; exact hdl i hi)) kX4_152 (by decide) (Nat.le_of_ble_eq_true rfl) rfl dX4_first_58 ?_
              refine hR _ _ _ _ dX4_first_61 rfl ?_
              simp only [o_first, h6, ef, Bool.false_eq_true, if_true, if_false, Bool.and_true, Bool.true_and, Bool.and_false, Bool.false_and, Bool.and_self, and_self]
              rw [if_neg (Int32.not_lt.mpr (nI_pos' (by omega)))]
              exact ⟨rfl, z_sm_row D _ (Or.inl rfl)⟩
    exact loop 100 0 rfl true (s_bec (D.1 1) (D.1 2) N) none (by rw [s_bec_4]; exact hN) (fun k hk d hd z => by rw [show k = 0 by omega]; exact z) (fun _ => s_bec_ag _ _ _) (fun z => by cases z)
  · simp only [decide_eq_true_eq, i_late hst] at h6
    refine z_aload0 F dX4_first_9 ?_
    refine z_iconst F 4 dX4_first_10 zv_i_4 ?_
    refine z_callVI1 F (c4_finding _ 4 (by decide)) kX4_55 (by decide) ocPH (Nat.le_of_ble_eq_true rfl) rfl dX4_first_11 ?_
    refine hR _ _ _ _ dX4_first_14 rfl ?_
    simp only [o_first, h6, Bool.false_eq_true, if_true, if_false, Bool.and_true, Bool.true_and, Bool.and_false, Bool.false_and, Bool.and_self, and_self]; first | exact ⟨rfl, rfl⟩ | exact ⟨by decide, rfl⟩ | exact ⟨by decide, z_sm_r _⟩ | exact ⟨rfl, z_sm_r _⟩
set_option maxHeartbeats 1000000 in
set_option maxRecDepth 20000 in
theorem c4_bears (D : zD) (x y : Int32) {N : Nat} (hN : D.1 1 4 = nI N) (h10 : N ≤ 10) : z_CI SX zT yX4_bears cX4_bears 4 .int 6 [.ref 0, .int x, .int y] D (z_qX D (o_bears (D.1 1) N x y)) := by
  refine z_startI SX_ok (by decide +kernel) (fun v hv => by simp at hv; rcases hv with rfl | rfl | rfl <;> rfl) (Nat.le_of_ble_eq_true rfl) (fun X F hR => ?_)
  show z_J X SX 0 [some (.ref 0), some (.int x), some (.int y), none] [] D
  refine z_aload0 F dX4_bears_0 ?_
  refine z_getR F PH_coat fX4_10 dX4_bears_1 ?_
  refine z_iload1 F dX4_bears_4 ?_
  refine z_callVI1 F (c0_has _ z_r1 hN h10 _) kX4_67 (by decide) (ocC z_r1) (Nat.le_of_ble_eq_true rfl) rfl dX4_bears_5 ?_
  refine z_ifb_eq F 21 dX4_bears_8 (by decide) (fun h8 => ?_) (fun h8 => ?_)
  · refine z_aload0 F dX4_bears_21 ?_
    refine z_iconst F 0 dX4_bears_22 zv_i_0 ?_
    refine z_callVI1 F (c4_finding _ 0 (by decide)) kX4_55 (by decide) ocPH (Nat.le_of_ble_eq_true rfl) rfl dX4_bears_23 ?_
    refine hR _ _ _ _ dX4_bears_26 rfl ?_
    simp only [o_bears, h8, Bool.false_eq_true, if_true, if_false, Bool.and_true, Bool.true_and, Bool.and_false, Bool.false_and, Bool.and_self, and_self]; first | exact ⟨rfl, rfl⟩ | exact ⟨by decide, rfl⟩ | exact ⟨by decide, z_sm_r _⟩ | exact ⟨rfl, z_sm_r _⟩
  · refine z_iload2 F dX4_bears_11 ?_
    refine z_iconst F 1 dX4_bears_12 zv_i_1 ?_
    refine z_bipush F 100 dX4_bears_13 zv_b_100 ?_
    refine z_callSI3 F (c4_isWithin _ _ _ _) kX4_51 (by decide) (Nat.le_of_ble_eq_true rfl) rfl dX4_bears_15 ?_
    refine z_ifb_ne F 27 dX4_bears_18 (by decide) (fun h18 => ?_) (fun h18 => ?_)
    · obtain ⟨q, hq1, hq, rfl⟩ := b_in1 100 (by decide) h18
      have hqn := i_n_n (j := q) (by omega)
      obtain ⟨j, hj, rfl⟩ := b_coin_ex h10 h8
      have hjn := i_n_n (j := j) (by omega)
      refine z_aload0 F dX4_bears_27 ?_
      refine z_getR F PH_coat fX4_10 dX4_bears_28 ?_
      refine z_getR F (C_row z_r1) fX4_71 dX4_bears_31 ?_
      refine z_iload1 F dX4_bears_34 ?_
      refine z_aald F (aRow z_r1) (Or.inl rfl) (j) rfl (show j < 10 by omega) dX4_bears_35 ?_
      refine z_getI F (K_f z_r1 (show j < 10 by omega) 4 (by decide)) fX4_95 dX4_bears_36 ?_
      refine z_if_ne F 50 dX4_bears_39 (by decide) (fun h39 => ?_) (fun h39 => ?_)
      · refine z_aload0 F dX4_bears_50 ?_
        refine z_iconst F 4 dX4_bears_51 zv_i_4 ?_
        refine z_callVI1 F (c4_finding _ 4 (by decide)) kX4_55 (by decide) ocPH (Nat.le_of_ble_eq_true rfl) rfl dX4_bears_52 ?_
        refine hR _ _ _ _ dX4_bears_55 rfl ?_
        simp only [o_bears, h8, h18, hqn, hjn, Bool.false_eq_true, if_true, if_false, Bool.and_true, Bool.true_and, Bool.and_false, Bool.false_and, Bool.and_self, and_self]
        rw [if_pos (Or.inl h39)]
        exact ⟨by decide, z_sm_r _⟩
      · refine z_aload0 F dX4_bears_42 ?_
        refine z_iload2 F dX4_bears_43 ?_
        refine z_callVI1 F (c4_isTooFar _ _) kX4_114 (by decide) ocPH (Nat.le_of_ble_eq_true rfl) rfl dX4_bears_44 ?_
        refine z_ifb_eq F 56 dX4_bears_47 (by decide) (fun h47 => ?_) (fun h47 => ?_)
        · simp only [decide_eq_false_iff_not] at h47
          have h39 : D.1 1 (16 + 8 * j + 4) = 0 := by
            by_cases z : D.1 1 (16 + 8 * j + 4) = 0
            · exact z
            · exact absurd h39 (by simp [z])
          refine z_bipush F 99 dX4_bears_56 zv_b_99 ?_
          refine z_istore3 F dX4_bears_58 rfl ?_
          have loop : ∀ k, k ≤ 100 → s_down (s_bearsP (D.1 1) N j q) k = s_down (s_bearsP (D.1 1) N j q) 100 → ∀ (T : Nat → Int32), z_J X SX 59 [some (.ref 0), some (.int (nI j)), some (.int (nI q)), some (.int (nI k + (-1)))] [] (z_row D 2 T) := by
            intro k
            induction k with
            | zero =>
              intro hk he T
              refine z_iload3 F dX4_bears_59 ?_
              refine z_if_lt F 84 dX4_bears_60 (by decide) (fun h60 => ?_) (fun h60 => ?_)
              · refine z_aload0 F dX4_bears_84 ?_
                refine z_iconst F 3 dX4_bears_85 zv_i_3 ?_
                refine z_callVI1 F (c4_finding _ 3 (by decide)) kX4_55 (by decide) ocPH (Nat.le_of_ble_eq_true rfl) rfl dX4_bears_86 ?_
                refine hR _ _ _ _ dX4_bears_89 rfl ?_
                simp only [o_bears, h8, h18, h39, h47, hqn, hjn, Bool.false_eq_true, if_true, if_false, Bool.and_true, Bool.true_and, Bool.and_false, Bool.false_and, Bool.and_self, and_self]
                rw [← he]
                exact ⟨rfl, z_sm_fX _ (z_sm_row D _ (Or.inl rfl))⟩
              · exact absurd (by decide) h60
            | succ k ih =>
              intro hk he T
              rw [pk_m1]
              refine z_iload3 F dX4_bears_59 ?_
              refine z_if_lt F 84 dX4_bears_60 (by decide) (fun h60 => ?_) (fun h60 => ?_)
              · exact absurd h60 (Int32.not_lt.mpr (nI_pos' (by omega)))
              · refine z_aload0 F dX4_bears_63 ?_
                refine z_iload3 F dX4_bears_64 ?_
                refine z_iload2 F dX4_bears_65 ?_
                refine z_callVI2p F (c4_goneH D T hN h10 k q (by omega)) kX4_158 (by decide) ocPH (Nat.le_of_ble_eq_true rfl) rfl dX4_bears_66 (fun r E hr => ?_)
                obtain ⟨rfl, T1, rfl⟩ := hr
                refine z_iload1 F dX4_bears_69 ?_
                refine z_ishr F dX4_bears_70 ?_
                refine z_iconst F 1 dX4_bears_71 zv_i_1 ?_
                refine z_iand F dX4_bears_72 ?_
                refine z_if_ne F 78 dX4_bears_73 (by decide) (fun h73 => ?_) (fun h73 => ?_)
                · have hp : s_bearsP (D.1 1) N j q k = false := by
                    have := s_has_nz h73
                    rw [s_goneH_b h10 hj h39] at this
                    simpa using this
                  refine z_iinc3 F (-1) dX4_bears_78 rfl zv_i_m1 ?_
                  refine z_goto F 59 dX4_bears_81 (by decide) ?_
                  exact ih (by omega) (by rw [← he, s_down, if_neg (by rw [hp]; decide)]) _
                · have hp : s_bearsP (D.1 1) N j q k = true := by
                    have := s_has_z h73
                    rw [s_goneH_b h10 hj h39] at this
                    simpa using this
                  refine z_iload3 F dX4_bears_76 ?_
                  refine hR _ _ _ _ dX4_bears_77 rfl ?_
                  simp only [o_bears, h8, h18, h39, h47, hqn, hjn, Bool.false_eq_true, if_true, if_false, Bool.and_true, Bool.true_and, Bool.and_false, Bool.false_and, Bool.and_self, and_self]
                  rw [← he, s_down, if_pos hp]
                  exact ⟨rfl, z_sm_row D _ (Or.inl rfl)⟩
          have h := loop 100 (Nat.le_refl _) rfl (D.1 2)
          rw [show nI 100 + (-1) = 99 by decide, z_row_eq] at h
          exact h
        · simp only [decide_eq_true_eq] at h47
          refine z_aload0 F dX4_bears_50 ?_
          refine z_iconst F 4 dX4_bears_51 zv_i_4 ?_
          refine z_callVI1 F (c4_finding _ 4 (by decide)) kX4_55 (by decide) ocPH (Nat.le_of_ble_eq_true rfl) rfl dX4_bears_52 ?_
          refine hR _ _ _ _ dX4_bears_55 rfl ?_
          simp only [o_bears, h8, h18, hqn, hjn, Bool.false_eq_true, if_true, if_false, Bool.and_true, Bool.true_and, Bool.and_false, Bool.false_and, Bool.and_self, and_self]
          rw [if_pos (Or.inr h47)]
          exact ⟨by decide, z_sm_r _⟩
    · refine z_aload0 F dX4_bears_21 ?_
      refine z_iconst F 0 dX4_bears_22 zv_i_0 ?_
      refine z_callVI1 F (c4_finding _ 0 (by decide)) kX4_55 (by decide) ocPH (Nat.le_of_ble_eq_true rfl) rfl dX4_bears_23 ?_
      refine hR _ _ _ _ dX4_bears_26 rfl ?_
      simp only [o_bears, h8, h18, Bool.false_eq_true, if_true, if_false, Bool.and_true, Bool.true_and, Bool.and_false, Bool.false_and, Bool.and_self, and_self]; first | exact ⟨rfl, rfl⟩ | exact ⟨by decide, rfl⟩ | exact ⟨by decide, z_sm_r _⟩ | exact ⟨rfl, z_sm_r _⟩
set_option maxHeartbeats 1000000 in
set_option maxRecDepth 20000 in
theorem c4_kindFor (D : zD) (x : Int32) {N : Nat} (hN : D.1 1 4 = nI N) (h10 : N ≤ 10) (hst : ∃ s, s ≤ 9999 ∧ D.1 1 0 = nI s) : z_CI SX zT yX4_kindFor cX4_kindFor 6 .int 5 [.ref 0, .int x] D (z_qX D (o_kindFor (D.1 1) N x)) := by
  refine z_startI SX_ok (by decide +kernel) (fun v hv => by simp at hv; rcases hv with rfl | rfl <;> rfl) (Nat.le_of_ble_eq_true rfl) (fun X F hR => ?_)
  show z_J X SX 0 [some (.ref 0), some (.int x), none, none, none, none] [] D
  refine z_aload0 F dX4_kindFor_0 ?_
  refine z_getR F PH_coat fX4_10 dX4_kindFor_1 ?_
  refine z_iload1 F dX4_kindFor_4 ?_
  refine z_callVI1 F (c0_has _ z_r1 hN h10 _) kX4_67 (by decide) (ocC z_r1) (Nat.le_of_ble_eq_true rfl) rfl dX4_kindFor_5 ?_
  refine z_ifb_ne F 17 dX4_kindFor_8 (by decide) (fun h8 => ?_) (fun h8 => ?_)
  · obtain ⟨j, hj, rfl⟩ := b_coin_ex h10 h8
    have hjn := i_n_n (j := j) (by omega)
    refine z_aload0 F dX4_kindFor_17 ?_
    refine z_getR F PH_coat fX4_10 dX4_kindFor_18 ?_
    refine z_getR F (C_row z_r1) fX4_71 dX4_kindFor_21 ?_
    refine z_iload1 F dX4_kindFor_24 ?_
    refine z_aald F (aRow z_r1) (Or.inl rfl) (j) rfl (show j < 10 by omega) dX4_kindFor_25 ?_
    refine z_getI F (K_f z_r1 (show j < 10 by omega) 4 (by decide)) fX4_95 dX4_kindFor_26 ?_
    refine z_if_ne F 41 dX4_kindFor_29 (by decide) (fun h29 => ?_) (fun h29 => ?_)
    · refine z_aload0 F dX4_kindFor_41 ?_
      refine z_iconst F 4 dX4_kindFor_42 zv_i_4 ?_
      refine z_callVI1 F (c4_finding _ 4 (by decide)) kX4_55 (by decide) ocPH (Nat.le_of_ble_eq_true rfl) rfl dX4_kindFor_43 ?_
      refine hR _ _ _ _ dX4_kindFor_46 rfl ?_
      simp only [o_kindFor, h8, hjn, Bool.false_eq_true, if_true, if_false, Bool.and_true, Bool.true_and, Bool.and_false, Bool.false_and, Bool.and_self, and_self]
      rw [if_pos (Or.inl h29)]
      exact ⟨by decide, z_sm_r _⟩
    · refine z_aload0 F dX4_kindFor_32 ?_
      refine z_bipush F 100 dX4_kindFor_33 zv_b_100 ?_
      refine z_callVI1 F (c4_isTooFar _ _) kX4_114 (by decide) ocPH (Nat.le_of_ble_eq_true rfl) rfl dX4_kindFor_35 ?_
      refine z_ifb_eq F 47 dX4_kindFor_38 (by decide) (fun h38 => ?_) (fun h38 => ?_)
      · simp only [decide_eq_false_iff_not, i_late hst] at h38
        have h29 : D.1 1 (16 + 8 * j + 4) = 0 := by
          by_cases z : D.1 1 (16 + 8 * j + 4) = 0
          · exact z
          · exact absurd h29 (by simp [z])
        refine z_iconst F 0 dX4_kindFor_47 zv_i_0 ?_
        refine z_istore2 F dX4_kindFor_48 rfl ?_
        refine z_iconst F (-1) dX4_kindFor_49 zv_i_m1 ?_
        refine z_istore3 F dX4_kindFor_50 rfl ?_
        refine z_iconst F 0 dX4_kindFor_51 zv_i_0 ?_
        refine z_istore4 F dX4_kindFor_52 rfl ?_
        have loop : ∀ (n c : Nat), c + n = 7 → ∀ (T : Nat → Int32) (u : Int32) (a5 : Option Value), (c ≠ 0 → u = (s_kind (D.1 1) N j c).1) → z_J X SX 54 [some (.ref 0), some (.int (nI j)), some (.int u), some (.int (s_kind (D.1 1) N j c).2), some (.int (nI c)), a5] [] (z_row D 2 T) := by
          intro n
          induction n with
          | zero =>
            intro c hn T u a5 hu
            refine z_iload4 F dX4_kindFor_54 ?_
            refine z_bipush F 6 dX4_kindFor_56 zv_b_6 ?_
            refine z_ic_gt F 111 dX4_kindFor_58 (by decide) (fun h58 => ?_) (fun h58 => ?_)
            · refine z_iload2 F dX4_kindFor_111 ?_
              refine hR _ _ _ _ dX4_kindFor_112 rfl ?_
              simp only [o_kindFor, h8, hjn, Bool.false_eq_true, if_true, if_false, Bool.and_true, Bool.true_and, Bool.and_false, Bool.false_and, Bool.and_self, and_self]
              rw [if_neg (fun z => z.elim (fun z => z h29) h38), hu (by omega), show c = 7 by omega]
              exact ⟨rfl, z_sm_row D _ (Or.inl rfl)⟩
            · exact absurd (nI_lt (a := 6) (b := c) (by omega) (by omega)) h58
          | succ n ih =>
            intro c hn T u a5 hu
            refine z_iload4 F dX4_kindFor_54 ?_
            refine z_bipush F 6 dX4_kindFor_56 zv_b_6 ?_
            refine z_ic_gt F 111 dX4_kindFor_58 (by decide) (fun h58 => ?_) (fun h58 => ?_)
            · exact absurd h58 (nI_nlt (a := 6) (b := c) (by omega) (by omega))
            · refine z_aload0 F dX4_kindFor_61 ?_
              refine z_getR F PH_trial fX4_16 dX4_kindFor_62 ?_
              refine z_aload0 F dX4_kindFor_65 ?_
              refine z_getR F PH_coat fX4_10 dX4_kindFor_66 ?_
              refine z_callVV1 F (c4_tbec2 D T hN h10) kX4_135 (by decide) (ocC z_r2) (Nat.le_of_ble_eq_true rfl) rfl dX4_kindFor_69 ?_
              refine z_aload0 F dX4_kindFor_72 ?_
              refine z_getR F PH_trial fX4_16 dX4_kindFor_73 ?_
              refine z_getR F (C_row z_r2) fX4_71 dX4_kindFor_76 ?_
              refine z_iload1 F dX4_kindFor_79 ?_
              refine z_aald F (aRow z_r2) (Or.inl rfl) (j) rfl (show j < 10 by omega) dX4_kindFor_80 ?_
              refine z_iload4 F dX4_kindFor_81 ?_
              refine z_putI F (K_f z_r2 (show j < 10 by omega) 0 (by decide)) fX4_170 rfl rfl dX4_kindFor_83 ?_
              rw [z_row_up]
              refine z_aload0 F dX4_kindFor_86 ?_
              refine z_iload1 F dX4_kindFor_87 ?_
              refine z_callVI1p F (c4_stay D (upd (s_bec (D.1 1) T N) (16 + 8 * j + 0) (nI c)) (by rw [u_ne _ _ (by omega), s_bec_4]; exact hN) h10 j hj) kX4_145 (by decide) ocPH (Nat.le_of_ble_eq_true rfl) rfl dX4_kindFor_88 (fun r E hr => ?_)
              obtain ⟨rfl, T2, rfl⟩ := hr
              rw [v_till_ag (ag_u (16 + 8 * j + 0) (nI c) (s_bec_ag (D.1 1) T N)) hj]
              have hle := v_till_101 (upd (D.1 1) (16 + 8 * j + 0) (nI c)) N j false
              refine z_istore5 F dX4_kindFor_91 rfl ?_
              refine z_iload5 F dX4_kindFor_93 ?_
              refine z_iload3 F dX4_kindFor_95 ?_
              refine z_ic_le F 105 dX4_kindFor_96 (by decide) (fun h96 => ?_) (fun h96 => ?_)
              · have hz0 : c = 0 → False := by
                  intro e
                  rw [e] at h96
                  exact Int32.not_lt.mpr h96 (i_lneg _ (by rw [e] at hle; omega))
                have hn6 : ¬ (s_kind (D.1 1) N j c).2 < nI (v_till (upd (D.1 1) (16 + 8 * j + 0) (nI c)) N j false) := Int32.not_lt.mpr h96
                refine z_iinc4 F 1 dX4_kindFor_105 rfl zv_i_1 ?_
                refine z_goto F 54 dX4_kindFor_108 (by decide) ?_
                have h := ih (c + 1) (by omega) T2 (u) (some (.int (nI (v_till (upd (D.1 1) (16 + 8 * j + 0) (nI c)) N j false)))) (fun _ => by rw [s_kind, if_neg hn6, if_neg hn6]; exact hu (fun z => hz0 z))
                rw [show nI (c + 1) = nI c + 1 from nI_succ c, s_kind, if_neg hn6, if_neg hn6] at h
                exact h
              · have hn6 : (s_kind (D.1 1) N j c).2 < nI (v_till (upd (D.1 1) (16 + 8 * j + 0) (nI c)) N j false) := Int32.not_le.mp h96
                refine z_iload5 F dX4_kindFor_99 ?_
                refine z_istore3 F dX4_kindFor_101 rfl ?_
                refine z_iload4 F dX4_kindFor_102 ?_
                refine z_istore2 F dX4_kindFor_104 rfl ?_
                refine z_iinc4 F 1 dX4_kindFor_105 rfl zv_i_1 ?_
                refine z_goto F 54 dX4_kindFor_108 (by decide) ?_
                have h := ih (c + 1) (by omega) T2 (nI c) (some (.int (nI (v_till (upd (D.1 1) (16 + 8 * j + 0) (nI c)) N j false)))) (fun _ => by rw [s_kind, if_pos hn6, if_pos hn6])
                rw [show nI (c + 1) = nI c + 1 from nI_succ c, s_kind, if_pos hn6, if_pos hn6] at h
                exact h
        have h := loop 7 0 (by omega) (D.1 2) 0 none (fun z => absurd rfl z)
        rw [z_row_eq] at h
        exact h
      · simp only [decide_eq_true_eq, i_late hst] at h38
        refine z_aload0 F dX4_kindFor_41 ?_
        refine z_iconst F 4 dX4_kindFor_42 zv_i_4 ?_
        refine z_callVI1 F (c4_finding _ 4 (by decide)) kX4_55 (by decide) ocPH (Nat.le_of_ble_eq_true rfl) rfl dX4_kindFor_43 ?_
        refine hR _ _ _ _ dX4_kindFor_46 rfl ?_
        simp only [o_kindFor, h8, hjn, Bool.false_eq_true, if_true, if_false, Bool.and_true, Bool.true_and, Bool.and_false, Bool.false_and, Bool.and_self, and_self]
        rw [if_pos (Or.inr h38)]
        exact ⟨by decide, z_sm_r _⟩
  · refine z_aload0 F dX4_kindFor_11 ?_
    refine z_iconst F 0 dX4_kindFor_12 zv_i_0 ?_
    refine z_callVI1 F (c4_finding _ 0 (by decide)) kX4_55 (by decide) ocPH (Nat.le_of_ble_eq_true rfl) rfl dX4_kindFor_13 ?_
    refine hR _ _ _ _ dX4_kindFor_16 rfl ?_
    simp only [o_kindFor, h8, Bool.false_eq_true, if_true, if_false, Bool.and_true, Bool.true_and, Bool.and_false, Bool.false_and, Bool.and_self, and_self]; first | exact ⟨rfl, rfl⟩ | exact ⟨by decide, rfl⟩ | exact ⟨by decide, z_sm_r _⟩ | exact ⟨rfl, z_sm_r _⟩
