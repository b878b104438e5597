theorem v_lost_ag {N : Nat} {T τ : Nat → Int32} (h : ag N T τ) (n : Nat) (g : Int32) : v_lost T N n g = v_lost τ N n g := by
  unfold v_lost
  have hs := s_steps_ag h n
  rw [s_lie_ag hs 2 N (Nat.le_refl _), s_sum_ag hs 3 (by decide) _ N (Nat.le_refl _)]
theorem c4_tbec2 (D : zD) (T : Nat → Int32) {N : Nat} (hN : D.1 1 4 = nI N) (h10 : N ≤ 10) : z_CV SX zT yX0_become cX0_become 3 2 [.ref 2, .ref 1] (z_row D 2 T) (z_eqV (z_row D 2 (s_bec (D.1 1) T N))) := by
  have h := c0_become (z_row D 2 T) z_r2 z_r1 (by decide) (N := N) (by rw [z_rowo _ _ (by decide)]; exact hN) h10
  rw [z_rowr, z_rowo _ _ (by decide), z_row_row] at h
  exact h
theorem s_hem_1 (σ : Nat → Int32) (N n : Nat) : ∀ a, (s_hem σ N n a).1 = -1 ∨ ∃ j, j < a ∧ (s_hem σ N n a).1 = nI j
  | 0 => Or.inl rfl
  | a + 1 => by
    rw [s_hem]
    split
    · exact Or.inr ⟨a, Nat.lt_succ_self _, rfl⟩
    · exact (s_hem_1 σ N n a).elim Or.inl (fun ⟨j, hj, e⟩ => Or.inr ⟨j, by omega, e⟩)
theorem s_worst_1 (σ : Nat → Int32) (N n : Nat) : ∀ a, (s_worst σ N n a).1 = -1 ∨ ∃ j, j < a ∧ (s_worst σ N n a).1 = nI j
  | 0 => Or.inl rfl
  | a + 1 => by
    rw [s_worst]
    split
    · exact Or.inr ⟨a, Nat.lt_succ_self _, rfl⟩
    · exact (s_worst_1 σ N n a).elim Or.inl (fun ⟨j, hj, e⟩ => Or.inr ⟨j, by omega, e⟩)
theorem i_neg1 {x : Int32} {a : Nat} (ha : a < 2 ^ 31) (h : x = -1 ∨ ∃ j, j < a ∧ x = nI j) : x < 0 ↔ x = -1 := by
  rcases h with e | ⟨j, hj, e⟩
  · rw [e]; decide
  · rw [e]
    constructor
    · intro g; exact absurd g (Int32.not_lt.mpr (nI_pos' (by omega)))
    · intro g; exact absurd (g ▸ nI_pos' (by omega) : (0 : Int32) ≤ -1) (by decide)
set_option maxHeartbeats 1000000 in
set_option maxRecDepth 20000 in
theorem c4_lostB (D : zD) (T : Nat → Int32) {N : Nat} (hN : D.1 1 4 = nI N) (hT : T 4 = nI N) (h10 : N ≤ 10) (n : Nat) (hn : n < 2 ^ 31) : z_CI SX zT yX4_lostBehind cX4_lostBehind 2 .int 5 [.ref 0, .int (nI n)] (z_row D 2 T) (z_eq (v_lost T N n (s_lie (D.1 1) 2 N)) (z_row D 2 (s_steps T N n))) := by
  refine z_startI SX_ok (by decide +kernel) (fun v hv => by simp at hv; rcases hv with rfl | rfl <;> rfl) (Nat.le_of_ble_eq_true rfl) (fun X F hR => ?_)
  show z_J X SX 0 [some (.ref 0), some (.int (nI n))] [] (z_row D 2 T)
  refine z_aload0 F dX4_lostBehind_0 ?_
  refine z_getR F PH_trial fX4_16 dX4_lostBehind_1 ?_
  refine z_iload1 F dX4_lostBehind_4 ?_
  refine z_callVV1 F (c4_tgo D T hT h10 n hn) kX4_117 (by decide) (ocC z_r2) (Nat.le_of_ble_eq_true rfl) rfl dX4_lostBehind_5 ?_
  refine z_aload0 F dX4_lostBehind_8 ?_
  refine z_getR F PH_trial fX4_16 dX4_lostBehind_9 ?_
  refine z_aload0 F dX4_lostBehind_12 ?_
  refine z_callVI0 F (by have h := c4_lost (z_row D 2 (s_steps T N n)) (N := N) (by rw [z_rowo _ _ (by decide)]; exact hN) (by rw [z_rowr]; exact s_steps_N hT n) h10; rw [z_rowr, z_rowo _ _ (by decide)] at h; exact h) kX4_142 (by decide) ocPH (Nat.le_of_ble_eq_true rfl) rfl dX4_lostBehind_13 ?_
  refine z_callVI1 F (by have h := c0_penceOf (z_row D 2 (s_steps T N n)) z_r2 (N := N) (by rw [z_rowr]; exact s_steps_N hT n) h10 (s_lie (s_steps T N n) 2 N &&& (s_lie (D.1 1) 2 N ^^^ (-1))); rw [z_rowr] at h; exact h) kX4_167 (by decide) (ocC z_r2) (Nat.le_of_ble_eq_true rfl) rfl dX4_lostBehind_16 ?_
  refine hR _ _ _ _ dX4_lostBehind_19 rfl ?_
  exact ⟨rfl, rfl⟩
set_option maxHeartbeats 1000000 in
set_option maxRecDepth 20000 in
theorem c4_hem (D : zD) (x : Int32) {N : Nat} (hN : D.1 1 4 = nI N) (h10 : N ≤ 10) : z_CI SX zT yX4_hem cX4_hem 6 .int 6 [.ref 0, .int x] D (z_qX D (o_hem (D.1 1) N x)) := by
  refine z_startI SX_ok (by decide +kernel) (fun v hv => by simp at hv; rcases hv with rfl | rfl <;> rfl) (Nat.le_of_ble_eq_true rfl) (fun X F hR => ?_)
  show z_J X SX 0 [some (.ref 0), some (.int x), none, none, none, none] [] D
  refine z_iload1 F dX4_hem_0 ?_
  refine z_iconst F 1 dX4_hem_1 zv_i_1 ?_
  refine z_bipush F 100 dX4_hem_2 zv_b_100 ?_
  refine z_callSI3 F (c4_isWithin _ _ _ _) kX4_51 (by decide) (Nat.le_of_ble_eq_true rfl) rfl dX4_hem_4 ?_
  refine z_ifb_ne F 16 dX4_hem_7 (by decide) (fun h7 => ?_) (fun h7 => ?_)
  · refine z_aload0 F dX4_hem_16 ?_
    refine z_iload1 F dX4_hem_17 ?_
    refine z_callVI1 F (c4_isTooFar _ _) kX4_114 (by decide) ocPH (Nat.le_of_ble_eq_true rfl) rfl dX4_hem_18 ?_
    refine z_ifb_eq F 30 dX4_hem_21 (by decide) (fun h21 => ?_) (fun h21 => ?_)
    · simp only [decide_eq_false_iff_not] at h21
      obtain ⟨q, hq1, hq, rfl⟩ := b_in1 100 (by decide) h7
      have hqn := i_n_n (j := q) (by omega)
      refine z_iconst F (-1) dX4_hem_30 zv_i_m1 ?_
      refine z_istore2 F dX4_hem_31 rfl ?_
      refine z_iconst F 0 dX4_hem_32 zv_i_0 ?_
      refine z_istore3 F dX4_hem_33 rfl ?_
      refine z_iconst F 0 dX4_hem_34 zv_i_0 ?_
      refine z_istore4 F dX4_hem_35 rfl ?_
      have loop : ∀ (n c : Nat), c + n = 8 → ∀ (T : Nat → Int32) (a5 : Option Value), z_J X SX 37 [some (.ref 0), some (.int (nI q)), some (.int (s_hem (D.1 1) N q c).1), some (.int (s_hem (D.1 1) N q c).2), some (.int (nI c)), a5] [] (z_row D 2 T) := by
        intro n
        induction n with
        | zero =>
          intro c hn T a5
          refine z_iload4 F dX4_hem_37 ?_
          refine z_bipush F 7 dX4_hem_39 zv_b_7 ?_
          refine z_ic_gt F 94 dX4_hem_41 (by decide) (fun h41 => ?_) (fun h41 => ?_)
          · refine z_iload2 F dX4_hem_94 ?_
            refine hR _ _ _ _ dX4_hem_95 rfl ?_
            simp only [o_hem, h7, h21, hqn, Bool.false_eq_true, if_true, if_false, Bool.and_true, Bool.true_and, Bool.and_false, Bool.false_and, Bool.and_self, and_self]
            rw [show c = 8 by omega]
            exact ⟨rfl, z_sm_row D _ (Or.inl rfl)⟩
          · exact absurd (nI_lt (a := 7) (b := c) (by omega) (by omega)) h41
        | succ n ih =>
          intro c hn T a5
          refine z_iload4 F dX4_hem_37 ?_
          refine z_bipush F 7 dX4_hem_39 zv_b_7 ?_
          refine z_ic_gt F 94 dX4_hem_41 (by decide) (fun h41 => ?_) (fun h41 => ?_)
          · exact absurd h41 (nI_nlt (a := 7) (b := c) (by omega) (by omega))
          · refine z_aload0 F dX4_hem_44 ?_
            refine z_getR F PH_trial fX4_16 dX4_hem_45 ?_
            refine z_aload0 F dX4_hem_48 ?_
            refine z_getR F PH_coat fX4_10 dX4_hem_49 ?_
            refine z_callVV1 F (c4_tbec2 D T hN h10) kX4_135 (by decide) (ocC z_r2) (Nat.le_of_ble_eq_true rfl) rfl dX4_hem_52 ?_
            refine z_aload0 F dX4_hem_55 ?_
            refine z_getR F PH_trial fX4_16 dX4_hem_56 ?_
            refine z_iload4 F dX4_hem_59 ?_
            refine z_putI F (C_at z_r2) fX4_105 rfl rfl dX4_hem_61 ?_
            rw [z_row_up]
            refine z_aload0 F dX4_hem_64 ?_
            refine z_iload1 F dX4_hem_65 ?_
            refine z_callVI1 F (by have h := c4_lostB D (upd (s_bec (D.1 1) T N) 3 (nI c)) hN (by rw [u_ne _ _ (by decide), s_bec_4]; exact hN) h10 q (by omega); rw [v_lost_ag (ag_u 3 (nI c) (s_bec_ag (D.1 1) T N))] at h; exact h) kX4_161 (by decide) ocPH (Nat.le_of_ble_eq_true rfl) rfl dX4_hem_66 ?_
            refine z_istore5 F dX4_hem_69 rfl ?_
            refine z_iload2 F dX4_hem_71 ?_
            refine z_iconst F (-1) dX4_hem_72 zv_i_m1 ?_
            refine z_ic_eq F 82 dX4_hem_73 (by decide) (fun h73 => ?_) (fun h73 => ?_)
            · refine z_iload4 F dX4_hem_82 ?_
              refine z_istore2 F dX4_hem_84 rfl ?_
              refine z_iload5 F dX4_hem_85 ?_
              refine z_istore3 F dX4_hem_87 rfl ?_
              refine z_iinc4 F 1 dX4_hem_88 rfl zv_i_1 ?_
              refine z_goto F 37 dX4_hem_91 (by decide) ?_
              have h := ih (c + 1) (by omega) (s_steps (upd (s_bec (D.1 1) T N) 3 (nI c)) N q) (some (.int (v_hem (D.1 1) N q c)))
              rw [show nI (c + 1) = nI c + 1 from nI_succ c, s_hem, if_pos (Or.inl ((i_neg1 (a := c) (by omega) (s_hem_1 (D.1 1) N q c)).mpr h73))] at h
              exact h
            · refine z_iload5 F dX4_hem_76 ?_
              refine z_iload3 F dX4_hem_78 ?_
              refine z_ic_ge F 88 dX4_hem_79 (by decide) (fun h79 => ?_) (fun h79 => ?_)
              · refine z_iinc4 F 1 dX4_hem_88 rfl zv_i_1 ?_
                refine z_goto F 37 dX4_hem_91 (by decide) ?_
                have h := ih (c + 1) (by omega) (s_steps (upd (s_bec (D.1 1) T N) 3 (nI c)) N q) (some (.int (v_hem (D.1 1) N q c)))
                rw [show nI (c + 1) = nI c + 1 from nI_succ c, s_hem, if_neg (fun z => z.elim (fun z => h73 ((i_neg1 (a := c) (by omega) (s_hem_1 (D.1 1) N q c)).mp z)) (fun (z : v_hem (D.1 1) N q c < (s_hem (D.1 1) N q c).2) => Int32.not_lt.mpr h79 z))] at h
                exact h
              · refine z_iload4 F dX4_hem_82 ?_
                refine z_istore2 F dX4_hem_84 rfl ?_
                refine z_iload5 F dX4_hem_85 ?_
                refine z_istore3 F dX4_hem_87 rfl ?_
                refine z_iinc4 F 1 dX4_hem_88 rfl zv_i_1 ?_
                refine z_goto F 37 dX4_hem_91 (by decide) ?_
                have h := ih (c + 1) (by omega) (s_steps (upd (s_bec (D.1 1) T N) 3 (nI c)) N q) (some (.int (v_hem (D.1 1) N q c)))
                rw [show nI (c + 1) = nI c + 1 from nI_succ c, s_hem, if_pos (Or.inr (show v_hem (D.1 1) N q c < (s_hem (D.1 1) N q c).2 from Int32.not_le.mp h79))] at h
                exact h
      have h := loop 8 0 (by omega) (D.1 2) none
      rw [z_row_eq] at h
      exact h
    · simp only [decide_eq_true_eq] at h21
      refine z_aload0 F dX4_hem_24 ?_
      refine z_iconst F 4 dX4_hem_25 zv_i_4 ?_
      refine z_callVI1 F (c4_finding _ 4 (by decide)) kX4_55 (by decide) ocPH (Nat.le_of_ble_eq_true rfl) rfl dX4_hem_26 ?_
      refine hR _ _ _ _ dX4_hem_29 rfl ?_
      simp only [o_hem, h7, h21, Bool.false_eq_true, if_true, if_false, Bool.and_true, Bool.true_and, Bool.and_false, Bool.false_and, Bool.and_self, and_self]; first | exact ⟨rfl, rfl⟩ | exact ⟨by decide, rfl⟩ | exact ⟨by decide, z_sm_r _⟩ | exact ⟨rfl, z_sm_r _⟩
  · refine z_aload0 F dX4_hem_10 ?_
    refine z_iconst F 0 dX4_hem_11 zv_i_0 ?_
    refine z_callVI1 F (c4_finding _ 0 (by decide)) kX4_55 (by decide) ocPH (Nat.le_of_ble_eq_true rfl) rfl dX4_hem_12 ?_
    refine hR _ _ _ _ dX4_hem_15 rfl ?_
    simp only [o_hem, h7, Bool.false_eq_true, if_true, if_false, Bool.and_true, Bool.true_and, Bool.and_false, Bool.false_and, Bool.and_self, and_self]; first | exact ⟨rfl, rfl⟩ | exact ⟨by decide, rfl⟩ | exact ⟨by decide, z_sm_r _⟩ | exact ⟨rfl, z_sm_r _⟩
set_option maxHeartbeats 1000000 in
set_option maxRecDepth 20000 in
theorem c4_worst (D : zD) (x : Int32) {N : Nat} (hN : D.1 1 4 = nI N) (h10 : N ≤ 10) : z_CI SX zT yX4_worst cX4_worst 6 .int 6 [.ref 0, .int x] D (z_qX D (o_worst (D.1 1) N x)) := by
  refine z_startI SX_ok (by decide +kernel) (fun v hv => by simp at hv; rcases hv with rfl | rfl <;> rfl) (Nat.le_of_ble_eq_true rfl) (fun X F hR => ?_)
  show z_J X SX 0 [some (.ref 0), some (.int x), none, none, none, none] [] D
  refine z_iload1 F dX4_worst_0 ?_
  refine z_iconst F 1 dX4_worst_1 zv_i_1 ?_
  refine z_bipush F 100 dX4_worst_2 zv_b_100 ?_
  refine z_callSI3 F (c4_isWithin _ _ _ _) kX4_51 (by decide) (Nat.le_of_ble_eq_true rfl) rfl dX4_worst_4 ?_
  refine z_ifb_ne F 16 dX4_worst_7 (by decide) (fun h7 => ?_) (fun h7 => ?_)
  · refine z_aload0 F dX4_worst_16 ?_
    refine z_iload1 F dX4_worst_17 ?_
    refine z_callVI1 F (c4_isTooFar _ _) kX4_114 (by decide) ocPH (Nat.le_of_ble_eq_true rfl) rfl dX4_worst_18 ?_
    refine z_ifb_eq F 30 dX4_worst_21 (by decide) (fun h21 => ?_) (fun h21 => ?_)
    · simp only [decide_eq_false_iff_not] at h21
      obtain ⟨q, hq1, hq, rfl⟩ := b_in1 100 (by decide) h7
      have hqn := i_n_n (j := q) (by omega)
      refine z_iconst F (-1) dX4_worst_30 zv_i_m1 ?_
      refine z_istore2 F dX4_worst_31 rfl ?_
      refine z_iconst F 0 dX4_worst_32 zv_i_0 ?_
      refine z_istore3 F dX4_worst_33 rfl ?_
      refine z_iconst F 0 dX4_worst_34 zv_i_0 ?_
      refine z_istore4 F dX4_worst_35 rfl ?_
      have loop : ∀ (n c : Nat), c + n = N → ∀ (T : Nat → Int32) (a5 : Option Value), z_J X SX 37 [some (.ref 0), some (.int (nI q)), some (.int (s_worst (D.1 1) N q c).1), some (.int (s_worst (D.1 1) N q c).2), some (.int (nI c)), a5] [] (z_row D 2 T) := by
        intro n
        induction n with
        | zero =>
          intro c hn T a5
          refine z_iload4 F dX4_worst_37 ?_
          refine z_aload0 F dX4_worst_39 ?_
          refine z_getR F PH_coat fX4_10 dX4_worst_40 ?_
          refine z_getI F (C_coins z_r1) fX4_59 dX4_worst_43 ?_
          refine z_ic_ge F 120 dX4_worst_46 (by decide) (fun h46 => ?_) (fun h46 => ?_)
          · have ec : c = N := by omega
            subst ec
            refine z_iload2 F dX4_worst_120 ?_
            refine z_iconst F (-1) dX4_worst_121 zv_i_m1 ?_
            refine z_ic_ne F 133 dX4_worst_122 (by decide) (fun h122 => ?_) (fun h122 => ?_)
            · have hw : ¬ (s_worst (D.1 1) c q c).1 < 0 := fun z => h122 ((i_neg1 (a := c) (by omega) (s_worst_1 (D.1 1) c q c)).mp z)
              refine z_iload2 F dX4_worst_133 ?_
              refine hR _ _ _ _ dX4_worst_134 rfl ?_
              simp only [o_worst, h7, h21, hqn, hw, Bool.false_eq_true, if_true, if_false, Bool.and_true, Bool.true_and, Bool.and_false, Bool.false_and, Bool.and_self, and_self]
              exact ⟨rfl, z_sm_row D _ (Or.inl rfl)⟩
            · have hw : (s_worst (D.1 1) c q c).1 < 0 := (i_neg1 (a := c) (by omega) (s_worst_1 (D.1 1) c q c)).mpr h122
              refine z_aload0 F dX4_worst_125 ?_
              refine z_iconst F 3 dX4_worst_126 zv_i_3 ?_
              refine z_callVI1 F (c4_finding _ 3 (by decide)) kX4_55 (by decide) ocPH (Nat.le_of_ble_eq_true rfl) rfl dX4_worst_127 ?_
              refine z_goto F 134 dX4_worst_130 (by decide) ?_
              refine hR _ _ _ _ dX4_worst_134 rfl ?_
              simp only [o_worst, h7, h21, hqn, hw, Bool.false_eq_true, if_true, if_false, Bool.and_true, Bool.true_and, Bool.and_false, Bool.false_and, Bool.and_self, and_self]
              exact ⟨rfl, z_sm_fX _ (z_sm_row D _ (Or.inl rfl))⟩
          · exact absurd (by rw [z_rowo _ _ (by decide), hN]; exact nI_le (by omega) (by omega)) h46
        | succ n ih =>
          intro c hn T a5
          refine z_iload4 F dX4_worst_37 ?_
          refine z_aload0 F dX4_worst_39 ?_
          refine z_getR F PH_coat fX4_10 dX4_worst_40 ?_
          refine z_getI F (C_coins z_r1) fX4_59 dX4_worst_43 ?_
          refine z_ic_ge F 120 dX4_worst_46 (by decide) (fun h46 => ?_) (fun h46 => ?_)
          · exact absurd h46 (by rw [z_rowo _ _ (by decide), hN]; exact nI_ge (by omega) (by omega))
          · refine z_aload0 F dX4_worst_49 ?_
            refine z_getR F PH_coat fX4_10 dX4_worst_50 ?_
            refine z_getR F (C_row z_r1) fX4_71 dX4_worst_53 ?_
            refine z_iload4 F dX4_worst_56 ?_
            refine z_aald F (aRow z_r1) (Or.inl rfl) (c) rfl (show c < 10 by omega) dX4_worst_58 ?_
            refine z_getI F (K_f z_r1 (show c < 10 by omega) 4 (by decide)) fX4_95 dX4_worst_59 ?_
            rw [z_rowo _ _ (by decide)]
            refine z_if_ne F 114 dX4_worst_62 (by decide) (fun h62 => ?_) (fun h62 => ?_)
            · refine z_iinc4 F 1 dX4_worst_114 rfl zv_i_1 ?_
              refine z_goto F 37 dX4_worst_117 (by decide) ?_
              have h := ih (c + 1) (by omega) T a5
              rw [show nI (c + 1) = nI c + 1 from nI_succ c, s_worst, if_neg (fun z => h62 z.1)] at h
              exact h
            · refine z_aload0 F dX4_worst_65 ?_
              refine z_getR F PH_trial fX4_16 dX4_worst_66 ?_
              refine z_aload0 F dX4_worst_69 ?_
              refine z_getR F PH_coat fX4_10 dX4_worst_70 ?_
              refine z_callVV1 F (c4_tbec2 D T hN h10) kX4_135 (by decide) (ocC z_r2) (Nat.le_of_ble_eq_true rfl) rfl dX4_worst_73 ?_
              refine z_aload0 F dX4_worst_76 ?_
              refine z_getR F PH_trial fX4_16 dX4_worst_77 ?_
              refine z_getR F (C_row z_r2) fX4_71 dX4_worst_80 ?_
              refine z_iload4 F dX4_worst_83 ?_
              refine z_aald F (aRow z_r2) (Or.inl rfl) (c) rfl (show c < 10 by omega) dX4_worst_85 ?_
              refine z_iconst F 3 dX4_worst_86 zv_i_3 ?_
              refine z_callVV1 F (by have h := c1_moveTo (z_row D 2 (s_bec (D.1 1) T N)) z_r2 c (by omega) 3; rw [z_rowr, z_row_row] at h; exact h) kX4_98 (by decide) (ocK z_r2 (show c < 10 by omega)) (Nat.le_of_ble_eq_true rfl) rfl dX4_worst_87 ?_
              refine z_aload0 F dX4_worst_90 ?_
              refine z_iload1 F dX4_worst_91 ?_
              refine z_callVI1 F (by have h := c4_lostB D (s_goTo (s_bec (D.1 1) T N) c 3) hN (by rw [s_goTo_lo _ _ (by decide), s_bec_4]; exact hN) h10 q (by omega); rw [v_lost_ag (s_goTo_ag (s_bec_ag (D.1 1) T N) c 3)] at h; exact h) kX4_161 (by decide) ocPH (Nat.le_of_ble_eq_true rfl) rfl dX4_worst_92 ?_
              refine z_istore5 F dX4_worst_95 rfl ?_
              refine z_iload2 F dX4_worst_97 ?_
              refine z_iconst F (-1) dX4_worst_98 zv_i_m1 ?_
              refine z_ic_eq F 108 dX4_worst_99 (by decide) (fun h99 => ?_) (fun h99 => ?_)
              · refine z_iload4 F dX4_worst_108 ?_
                refine z_istore2 F dX4_worst_110 rfl ?_
                refine z_iload5 F dX4_worst_111 ?_
                refine z_istore3 F dX4_worst_113 rfl ?_
                refine z_iinc4 F 1 dX4_worst_114 rfl zv_i_1 ?_
                refine z_goto F 37 dX4_worst_117 (by decide) ?_
                have h := ih (c + 1) (by omega) (s_steps (s_goTo (s_bec (D.1 1) T N) c 3) N q) (some (.int (v_worst (D.1 1) N q c)))
                rw [show nI (c + 1) = nI c + 1 from nI_succ c, s_worst, if_pos ⟨h62, Or.inl ((i_neg1 (a := c) (by omega) (s_worst_1 (D.1 1) N q c)).mpr h99)⟩] at h
                exact h
              · refine z_iload5 F dX4_worst_102 ?_
                refine z_iload3 F dX4_worst_104 ?_
                refine z_ic_ge F 114 dX4_worst_105 (by decide) (fun h105 => ?_) (fun h105 => ?_)
                · refine z_iinc4 F 1 dX4_worst_114 rfl zv_i_1 ?_
                  refine z_goto F 37 dX4_worst_117 (by decide) ?_
                  have h := ih (c + 1) (by omega) (s_steps (s_goTo (s_bec (D.1 1) T N) c 3) N q) (some (.int (v_worst (D.1 1) N q c)))
                  rw [show nI (c + 1) = nI c + 1 from nI_succ c, s_worst, if_neg (fun z => z.2.elim (fun z => h99 ((i_neg1 (a := c) (by omega) (s_worst_1 (D.1 1) N q c)).mp z)) (fun (z : v_worst (D.1 1) N q c < (s_worst (D.1 1) N q c).2) => Int32.not_lt.mpr h105 z))] at h
                  exact h
                · refine z_iload4 F dX4_worst_108 ?_
                  refine z_istore2 F dX4_worst_110 rfl ?_
                  refine z_iload5 F dX4_worst_111 ?_
                  refine z_istore3 F dX4_worst_113 rfl ?_
                  refine z_iinc4 F 1 dX4_worst_114 rfl zv_i_1 ?_
                  refine z_goto F 37 dX4_worst_117 (by decide) ?_
                  have h := ih (c + 1) (by omega) (s_steps (s_goTo (s_bec (D.1 1) T N) c 3) N q) (some (.int (v_worst (D.1 1) N q c)))
                  rw [show nI (c + 1) = nI c + 1 from nI_succ c, s_worst, if_pos ⟨h62, Or.inr (show v_worst (D.1 1) N q c < (s_worst (D.1 1) N q c).2 from Int32.not_le.mp h105)⟩] at h
                  exact h
      have h := loop N 0 (by omega) (D.1 2) none
      rw [z_row_eq] at h
      exact h
    · simp only [decide_eq_true_eq] at h21
      refine z_aload0 F dX4_worst_24 ?_
      refine z_iconst F 4 dX4_worst_25 zv_i_4 ?_
      refine z_callVI1 F (c4_finding _ 4 (by decide)) kX4_55 (by decide) ocPH (Nat.le_of_ble_eq_true rfl) rfl dX4_worst_26 ?_
      refine hR _ _ _ _ dX4_worst_29 rfl ?_
      simp only [o_worst, h7, h21, Bool.false_eq_true, if_true, if_false, Bool.and_true, Bool.true_and, Bool.and_false, Bool.false_and, Bool.and_self, and_self]; first | exact ⟨rfl, rfl⟩ | exact ⟨by decide, rfl⟩ | exact ⟨by decide, z_sm_r _⟩ | exact ⟨rfl, z_sm_r _⟩
  · refine z_aload0 F dX4_worst_10 ?_
    refine z_iconst F 0 dX4_worst_11 zv_i_0 ?_
    refine z_callVI1 F (c4_finding _ 0 (by decide)) kX4_55 (by decide) ocPH (Nat.le_of_ble_eq_true rfl) rfl dX4_worst_12 ?_
    refine hR _ _ _ _ dX4_worst_15 rfl ?_
    simp only [o_worst, h7, Bool.false_eq_true, if_true, if_false, Bool.and_true, Bool.true_and, Bool.and_false, Bool.false_and, Bool.and_self, and_self]; first | exact ⟨rfl, rfl⟩ | exact ⟨by decide, rfl⟩ | exact ⟨by decide, z_sm_r _⟩ | exact ⟨rfl, z_sm_r _⟩
