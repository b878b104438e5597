set_option maxHeartbeats 1000000 in
set_option maxRecDepth 20000 in
theorem c4_days (D : zD) (x : Int32) {N : Nat} (hN : D.1 1 4 = nI N) (h10 : N ≤ 10) : z_CI SX zT yX4_days cX4_days 5 .int 6 [.ref 0, .int x] D (z_eq (r_ans (o_days (D.1 1) N x)) (r_X D (o_days (D.1 1) N x))) := by
  refine z_startI SX_ok (by decide +kernel) (fun v hv => by simp at hv; rcases hv with rfl | rfl <;> rfl) (Nat.le_of_ble_eq_true rfl) (fun X F hR => ?_)
  show z_J X SX 0 [some (.ref 0), some (.int x), none, none, none] [] D
  refine z_iload1 F dX4_days_0 ?_
  refine z_iconst F 1 dX4_days_1 zv_i_1 ?_
  refine z_bipush F 12 dX4_days_2 zv_b_12 ?_
  refine z_callSI3 F (c4_isWithin _ _ _ _) kX4_51 (by decide) (Nat.le_of_ble_eq_true rfl) rfl dX4_days_4 ?_
  refine z_ifb_ne F 16 dX4_days_7 (by decide) (fun h7 => ?_) (fun h7 => ?_)
  · refine z_aload0 F dX4_days_16 ?_
    refine z_bipush F 7 dX4_days_17 zv_b_7 ?_
    refine z_iload1 F dX4_days_19 ?_
    refine z_imul F dX4_days_20 ?_
    refine z_callVI1 F (c4_isTooFar _ _) kX4_114 (by decide) ocPH (Nat.le_of_ble_eq_true rfl) rfl dX4_days_21 ?_
    refine z_ifb_ne F 37 dX4_days_24 (by decide) (fun h24 => ?_) (fun h24 => ?_)
    · simp only [decide_eq_true_eq] at h24
      refine z_aload0 F dX4_days_37 ?_
      refine z_iconst F 4 dX4_days_38 zv_i_4 ?_
      refine z_callVI1 F (c4_finding _ 4 (by decide)) kX4_55 (by decide) ocPH (Nat.le_of_ble_eq_true rfl) rfl dX4_days_39 ?_
      refine hR _ _ _ _ dX4_days_42 rfl ?_
      simp only [o_days, h7, if_pos (show 9999 < D.1 1 0 + 7 * x ∨ D.1 1 4 = 0 from Or.inl h24), Bool.false_eq_true, if_true, if_false, Bool.and_true, Bool.true_and, Bool.and_false, Bool.false_and, Bool.and_self, and_self]; exact ⟨rfl, rfl⟩
    · simp only [decide_eq_false_iff_not] at h24
      refine z_aload0 F dX4_days_27 ?_
      refine z_getR F PH_coat fX4_10 dX4_days_28 ?_
      refine z_getI F (C_coins z_r1) fX4_59 dX4_days_31 ?_
      refine z_if_ne F 43 dX4_days_34 (by decide) (fun h34 => ?_) (fun h34 => ?_)
      · have hs4 : ¬ (9999 < D.1 1 0 + 7 * x ∨ D.1 1 4 = 0) := fun z => z.elim (fun e => h24 e) (fun e => h34 e)
        have h0 : 0 < N := by
          rcases Nat.eq_zero_or_pos N with e | e
          · exact absurd (by rw [hN, e]; rfl) h34
          · exact e
        obtain ⟨q, hq1, hq, rfl⟩ := b_in1 12 (by decide) h7
        have hqn := i_n_n (j := q) (by omega)
        refine z_iconst F 0 dX4_days_43 zv_i_0 ?_
        refine z_istore2 F dX4_days_44 rfl ?_
        have loop : ∀ (n c : Nat), c + n = q → ∀ (a3 a4 : Option Value), z_J X SX 45 [some (.ref 0), some (.int (nI q)), some (.int (nI c)), a3, a4] [] (z_row D 1 (s_days (D.1 1) N c)) := by
          intro n
          induction n with
          | zero =>
            intro c hn a3 a4
            refine z_iload2 F dX4_days_45 ?_
            refine z_iload1 F dX4_days_46 ?_
            refine z_ic_ge F 137 dX4_days_47 (by decide) (fun h47 => ?_) (fun h47 => ?_)
            · refine z_aload0 F dX4_days_137 ?_
              refine z_getR F PH_coat fX4_10 dX4_days_138 ?_
              refine z_iconst F 2 dX4_days_141 zv_i_2 ?_
              refine z_callVI1 F (by have h := c0_penceIn (z_row D 1 (s_days (D.1 1) N c)) z_r1 (N := N) (by rw [z_rowr, s_days_4]; exact hN) h10 2; rw [z_rowr] at h; exact h) kX4_111 (by decide) (ocC z_r1) (Nat.le_of_ble_eq_true rfl) rfl dX4_days_142 ?_
              refine hR _ _ _ _ dX4_days_145 rfl ?_
              simp only [o_days, h7, hs4, hqn, Bool.false_eq_true, if_true, if_false, Bool.and_true, Bool.true_and, Bool.and_false, Bool.false_and, Bool.and_self, and_self]
              rw [show c = q by omega]
              exact ⟨rfl, rfl⟩
            · exact absurd (nI_le (by omega) (by omega)) h47
          | succ n ih =>
            intro c hn a3 a4
            refine z_iload2 F dX4_days_45 ?_
            refine z_iload1 F dX4_days_46 ?_
            refine z_ic_ge F 137 dX4_days_47 (by decide) (fun h47 => ?_) (fun h47 => ?_)
            · exact absurd h47 (nI_ge (by omega) (by omega))
            · obtain ⟨τ, hτ⟩ : ∃ τ, τ = s_days (D.1 1) N c := ⟨_, rfl⟩
              rw [← hτ]
              have hτ4 : τ 4 = nI N := by rw [hτ, s_days_4]; exact hN
              have hv := v_draw_lt (τ 5) h0
              have hv10 : v_draw (τ 5) N < 10 := by omega
              have tl : ∀ (a3 a4 : Option Value), z_J X SX 114 [some (.ref 0), some (.int (nI q)), some (.int (nI c)), a3, a4] [] (z_row D 1 (s_d2 τ N)) := by
                intro a3 a4
                refine z_aload0 F dX4_days_114 ?_
                refine z_getR F PH_coat fX4_10 dX4_days_115 ?_
                refine z_aload0 F dX4_days_118 ?_
                refine z_getR F PH_coat fX4_10 dX4_days_119 ?_
                refine z_callVI0 F (by have h := c0_draw (z_row D 1 (s_d2 τ N)) z_r1; rw [z_rowr, z_row_row] at h; exact h) kX4_204 (by decide) (ocC z_r1) (Nat.le_of_ble_eq_true rfl) rfl dX4_days_122 ?_
                refine z_bipush F 8 dX4_days_125 zv_b_8 ?_
                refine z_irem F dX4_days_127 (fun e => by have := (nI_eq (a := 8) (b := 0) (by omega) (by decide)).mp e; omega) ?_
                rw [show (8 : Int32) = nI 8 from rfl, v_draw_eq _ (by decide) (by decide)]
                refine z_callVV1 F (by have h := c0_go (z_row D 1 (s_d1 (s_d2 τ N))) z_r1 (N := N) (by rw [z_rowr, s_d1_N (by decide), s_d2_lo (by decide) (by decide)]; exact hτ4) h10 (v_draw ((s_d2 τ N) 5) 8) (by have := v_draw_lt ((s_d2 τ N) 5) (b := 8) (by decide); omega); rw [z_rowr, z_row_row] at h; exact h) kX4_117 (by decide) (ocC z_r1) (Nat.le_of_ble_eq_true rfl) rfl dX4_days_128 ?_
                refine z_iinc2 F 1 dX4_days_131 rfl zv_i_1 ?_
                refine z_goto F 45 dX4_days_134 (by decide) ?_
                have h := ih (c + 1) (by omega) a3 a4
                rw [show nI (c + 1) = nI c + 1 from nI_succ c, s_days, ← hτ] at h
                exact h
              refine z_aload0 F dX4_days_50 ?_
              refine z_getR F PH_coat fX4_10 dX4_days_51 ?_
              refine z_getR F (C_row z_r1) fX4_71 dX4_days_54 ?_
              refine z_aload0 F dX4_days_57 ?_
              refine z_getR F PH_coat fX4_10 dX4_days_58 ?_
              refine z_callVI0 F (by have h := c0_draw (z_row D 1 τ) z_r1; rw [z_rowr, z_row_row] at h; exact h) kX4_204 (by decide) (ocC z_r1) (Nat.le_of_ble_eq_true rfl) rfl dX4_days_61 ?_
              refine z_aload0 F dX4_days_64 ?_
              refine z_getR F PH_coat fX4_10 dX4_days_65 ?_
              refine z_getI F (C_coins z_r1) fX4_59 dX4_days_68 ?_
              rw [z_rowr, s_d1_N (by decide), hτ4]
              refine z_irem F dX4_days_71 (fun e => by have := (nI_eq (a := N) (b := 0) (by omega) (by decide)).mp e; omega) ?_
              rw [v_draw_eq _ h0 (by omega)]
              refine z_aald F (aRow z_r1) (Or.inl rfl) ((v_draw (τ 5) N)) rfl (show v_draw (τ 5) N < 10 by omega) dX4_days_72 ?_
              refine z_astore3 F dX4_days_73 rfl ?_
              refine z_aload0 F dX4_days_74 ?_
              refine z_getR F PH_coat fX4_10 dX4_days_75 ?_
              refine z_callVI0 F (by have h := c0_draw (z_row D 1 (s_d1 τ)) z_r1; rw [z_rowr, z_row_row] at h; exact h) kX4_204 (by decide) (ocC z_r1) (Nat.le_of_ble_eq_true rfl) rfl dX4_days_78 ?_
              refine z_iconst F 2 dX4_days_81 zv_i_2 ?_
              refine z_irem F dX4_days_82 (fun e => by have := (nI_eq (a := 2) (b := 0) (by omega) (by decide)).mp e; omega) ?_
              rw [show (2 : Int32) = nI 2 from rfl, v_draw_eq _ (by decide) (by decide)]
              have hd2 := v_draw_lt (s_d1 τ 5) (b := 2) (by decide)
              refine z_if_ne F 90 dX4_days_83 (by decide) (fun h83 => ?_) (fun h83 => ?_)
              · have edp : s_dp τ = 3 := by
                  unfold s_dp
                  rw [if_neg (fun z => h83 (by rw [z]; rfl))]
                refine z_iconst F 3 dX4_days_90 zv_i_3 ?_
                refine z_istore4 F dX4_days_91 rfl ?_
                refine z_aload3 F dX4_days_93 ?_
                refine z_getI F (K_f z_r1 hv10 4 (by decide)) fX4_95 dX4_days_94 ?_
                rw [z_rowr]
                refine z_if_eq F 108 dX4_days_97 (by decide) (fun h97 => ?_) (fun h97 => ?_)
                · have e2 : (s_d2 τ N) = s_goTo (s_d1 (s_d1 τ)) (v_draw (τ 5) N) 3 := by
                    unfold s_d2
                    rw [if_pos (Or.inl h97), edp]
                  refine z_aload3 F dX4_days_108 ?_
                  refine z_iload4 F dX4_days_109 ?_
                  refine z_callVV1 F (by have h := c1_moveTo (z_row D 1 (s_d1 (s_d1 τ))) z_r1 (v_draw (τ 5) N) hv10 3; rw [z_rowr, z_row_row, ← e2] at h; exact h) kX4_98 (by decide) (ocK z_r1 hv10) (Nat.le_of_ble_eq_true rfl) rfl dX4_days_111 ?_
                  exact tl _ _
                · refine z_aload3 F dX4_days_100 ?_
                  refine z_getI F (K_f z_r1 hv10 4 (by decide)) fX4_95 dX4_days_101 ?_
                  refine z_iconst F 3 dX4_days_104 zv_i_3 ?_
                  rw [z_rowr]
                  refine z_ic_ne F 114 dX4_days_105 (by decide) (fun h105 => ?_) (fun h105 => ?_)
                  · have e2 : (s_d2 τ N) = (s_d1 (s_d1 τ)) := by
                      unfold s_d2
                      rw [if_neg (fun z => z.elim h97 h105)]
                    rw [← e2]
                    exact tl _ _
                  · have e2 : (s_d2 τ N) = s_goTo (s_d1 (s_d1 τ)) (v_draw (τ 5) N) 3 := by
                      unfold s_d2
                      rw [if_pos (Or.inr h105), edp]
                    refine z_aload3 F dX4_days_108 ?_
                    refine z_iload4 F dX4_days_109 ?_
                    refine z_callVV1 F (by have h := c1_moveTo (z_row D 1 (s_d1 (s_d1 τ))) z_r1 (v_draw (τ 5) N) hv10 3; rw [z_rowr, z_row_row, ← e2] at h; exact h) kX4_98 (by decide) (ocK z_r1 hv10) (Nat.le_of_ble_eq_true rfl) rfl dX4_days_111 ?_
                    exact tl _ _
              · have edp : s_dp τ = 0 := by
                  unfold s_dp
                  rw [if_pos ((nI_eq (a := v_draw (s_d1 τ 5) 2) (b := 0) (by omega) (by decide)).mp h83)]
                refine z_iconst F 0 dX4_days_86 zv_i_0 ?_
                refine z_goto F 91 dX4_days_87 (by decide) ?_
                refine z_istore4 F dX4_days_91 rfl ?_
                refine z_aload3 F dX4_days_93 ?_
                refine z_getI F (K_f z_r1 hv10 4 (by decide)) fX4_95 dX4_days_94 ?_
                rw [z_rowr]
                refine z_if_eq F 108 dX4_days_97 (by decide) (fun h97 => ?_) (fun h97 => ?_)
                · have e2 : (s_d2 τ N) = s_goTo (s_d1 (s_d1 τ)) (v_draw (τ 5) N) 0 := by
                    unfold s_d2
                    rw [if_pos (Or.inl h97), edp]
                  refine z_aload3 F dX4_days_108 ?_
                  refine z_iload4 F dX4_days_109 ?_
                  refine z_callVV1 F (by have h := c1_moveTo (z_row D 1 (s_d1 (s_d1 τ))) z_r1 (v_draw (τ 5) N) hv10 0; rw [z_rowr, z_row_row, ← e2] at h; exact h) kX4_98 (by decide) (ocK z_r1 hv10) (Nat.le_of_ble_eq_true rfl) rfl dX4_days_111 ?_
                  exact tl _ _
                · refine z_aload3 F dX4_days_100 ?_
                  refine z_getI F (K_f z_r1 hv10 4 (by decide)) fX4_95 dX4_days_101 ?_
                  refine z_iconst F 3 dX4_days_104 zv_i_3 ?_
                  rw [z_rowr]
                  refine z_ic_ne F 114 dX4_days_105 (by decide) (fun h105 => ?_) (fun h105 => ?_)
                  · have e2 : (s_d2 τ N) = (s_d1 (s_d1 τ)) := by
                      unfold s_d2
                      rw [if_neg (fun z => z.elim h97 h105)]
                    rw [← e2]
                    exact tl _ _
                  · have e2 : (s_d2 τ N) = s_goTo (s_d1 (s_d1 τ)) (v_draw (τ 5) N) 0 := by
                      unfold s_d2
                      rw [if_pos (Or.inr h105), edp]
                    refine z_aload3 F dX4_days_108 ?_
                    refine z_iload4 F dX4_days_109 ?_
                    refine z_callVV1 F (by have h := c1_moveTo (z_row D 1 (s_d1 (s_d1 τ))) z_r1 (v_draw (τ 5) N) hv10 0; rw [z_rowr, z_row_row, ← e2] at h; exact h) kX4_98 (by decide) (ocK z_r1 hv10) (Nat.le_of_ble_eq_true rfl) rfl dX4_days_111 ?_
                    exact tl _ _
        have h := loop q 0 (by omega) none none
        rw [s_days, z_row_eq] at h
        exact h
      · refine z_aload0 F dX4_days_37 ?_
        refine z_iconst F 4 dX4_days_38 zv_i_4 ?_
        refine z_callVI1 F (c4_finding _ 4 (by decide)) kX4_55 (by decide) ocPH (Nat.le_of_ble_eq_true rfl) rfl dX4_days_39 ?_
        refine hR _ _ _ _ dX4_days_42 rfl ?_
        simp only [o_days, h7, if_pos (show 9999 < D.1 1 0 + 7 * x ∨ D.1 1 4 = 0 from Or.inr h34), Bool.false_eq_true, if_true, if_false, Bool.and_true, Bool.true_and, Bool.and_false, Bool.false_and, Bool.and_self, and_self]; exact ⟨rfl, rfl⟩
  · refine z_aload0 F dX4_days_10 ?_
    refine z_iconst F 0 dX4_days_11 zv_i_0 ?_
    refine z_callVI1 F (c4_finding _ 0 (by decide)) kX4_55 (by decide) ocPH (Nat.le_of_ble_eq_true rfl) rfl dX4_days_12 ?_
    refine hR _ _ _ _ dX4_days_15 rfl ?_
    simp only [o_days, h7, Bool.false_eq_true, if_true, if_false, Bool.and_true, Bool.true_and, Bool.and_false, Bool.false_and, Bool.and_self, and_self]; first | exact ⟨rfl, rfl⟩ | exact ⟨by decide, rfl⟩ | exact ⟨by decide, z_sm_r _⟩ | exact ⟨rfl, z_sm_r _⟩
set_option maxHeartbeats 1000000 in
set_option maxRecDepth 20000 in
theorem c3_add (D : zD) (A : Nat → Int32) (t : Nat) (ht : t < 120) (v : Int32) : z_CV SX zT yX3_add cX3_add 2 0 [.ref 40, .int v] (z_up (z_row D 8 A) 0 12 (nI t)) (z_eqV (z_up (z_row D 8 (upd A t v)) 0 12 (nI (t + 1)))) := by
  refine z_startV SX_ok (by decide +kernel) (fun v hv => by simp at hv; rcases hv with rfl | rfl <;> rfl) (Nat.le_of_ble_eq_true rfl) (fun X F hR => ?_)
  show z_J X SX 0 [some (.ref 40), some (.int v)] [] (z_up (z_row D 8 A) 0 12 (nI t))
  refine z_aload0 F dX3_add_0 ?_
  refine z_getR F T_bytes fX3_9 dX3_add_1 ?_
  refine z_aload0 F dX3_add_4 ?_
  refine z_getI F T_length fX3_15 dX3_add_5 ?_
  rw [z_upr, u_eq]
  refine z_iload1 F dX3_add_8 ?_
  refine z_iast F aBytes (t) rfl ht dX3_add_9 ?_
  rw [z_fd1]
  refine z_aload0 F dX3_add_10 ?_
  refine z_dup F dX3_add_11 rfl ?_
  refine z_getI F T_length fX3_15 dX3_add_12 ?_
  rw [z_upr, u_eq]
  refine z_iconst F 1 dX3_add_15 zv_i_1 ?_
  refine z_iadd F dX3_add_16 ?_
  refine z_putI F T_length fX3_15 rfl rfl dX3_add_17 ?_
  refine hR _ _ _ dX3_add_20 ?_
  show _ = _
  rw [z_up_up, nI_succ]
set_option maxHeartbeats 1000000 in
set_option maxRecDepth 20000 in
theorem c4_feed (D : zD) (x y : Int32) {t : Nat} (ht : D.1 0 12 = nI t) (ht120 : t ≤ 120) : z_CI SX zT yX4_feed cX4_feed 4 .int 2 [.ref 0, .int x, .int y] D (z_eq (a_ans (o_feed D t x y)) (a_X D (o_feed D t x y))) := by
  refine z_startI SX_ok (by decide +kernel) (fun v hv => by simp at hv; rcases hv with rfl | rfl | rfl <;> rfl) (Nat.le_of_ble_eq_true rfl) (fun X F hR => ?_)
  show z_J X SX 0 [some (.ref 0), some (.int x), some (.int y), none] [] D
  refine z_iload2 F dX4_feed_0 ?_
  refine z_iconst F 1 dX4_feed_1 zv_i_1 ?_
  refine z_iconst F 4 dX4_feed_2 zv_i_4 ?_
  refine z_callSI3 F (c4_isWithin _ _ _ _) kX4_51 (by decide) (Nat.le_of_ble_eq_true rfl) rfl dX4_feed_3 ?_
  refine z_ifb_ne F 15 dX4_feed_6 (by decide) (fun h6 => ?_) (fun h6 => ?_)
  · refine z_aload0 F dX4_feed_15 ?_
    refine z_getR F PH_tape fX4_29 dX4_feed_16 ?_
    refine z_getI F T_length fX4_210 dX4_feed_19 ?_
    rw [ht]
    refine z_iload2 F dX4_feed_22 ?_
    refine z_iadd F dX4_feed_23 ?_
    refine z_bipush F 120 dX4_feed_24 zv_b_120 ?_
    refine z_ic_le F 35 dX4_feed_26 (by decide) (fun h26 => ?_) (fun h26 => ?_)
    · have hl : ¬ 120 < nI t + y := Int32.not_lt.mpr h26
      obtain ⟨q, hq1, hq, rfl⟩ := b_in1 4 (by decide) h6
      have hqn := i_n_n (j := q) (by omega)
      have htq : t + q ≤ 120 := by
        rw [nI_add] at h26
        exact (nI_leI (a := t + q) (b := 120) (by omega) (by decide)).mp h26
      refine z_iload2 F dX4_feed_35 ?_
      refine z_iconst F 1 dX4_feed_36 zv_i_1 ?_
      refine z_isub F dX4_feed_37 ?_
      refine z_istore3 F dX4_feed_38 rfl ?_
      have loop : ∀ (n c : Nat), c + n = q → z_J X SX 39 [some (.ref 0), some (.int x), some (.int (nI q)), some (.int (nI n + (-1)))] [] (z_up (z_row D 8 (s_fed (D.1 8) t x q c)) 0 12 (nI (t + c))) := by
        intro n
        induction n with
        | zero =>
          intro c hn 
          refine z_iload3 F dX4_feed_39 ?_
          refine z_if_lt F 66 dX4_feed_40 (by decide) (fun h40 => ?_) (fun h40 => ?_)
          · refine z_aload0 F dX4_feed_66 ?_
            refine z_getR F PH_tape fX4_29 dX4_feed_67 ?_
            refine z_getI F T_length fX4_210 dX4_feed_70 ?_
            rw [z_upr, u_eq]
            refine hR _ _ _ _ dX4_feed_73 rfl ?_
            rw [show c = q by omega]
            simp only [o_feed, h6, hl, hqn, Bool.false_eq_true, if_true, if_false, Bool.and_true, Bool.true_and, Bool.and_false, Bool.false_and, Bool.and_self, and_self]
            exact ⟨rfl, rfl⟩
          · exact absurd (by decide) h40
        | succ n ih =>
          intro c hn 
          rw [pk_m1]
          refine z_iload3 F dX4_feed_39 ?_
          refine z_if_lt F 66 dX4_feed_40 (by decide) (fun h40 => ?_) (fun h40 => ?_)
          · exact absurd h40 (Int32.not_lt.mpr (nI_pos' (by omega)))
          · refine z_aload0 F dX4_feed_43 ?_
            refine z_getR F PH_tape fX4_29 dX4_feed_44 ?_
            refine z_iload1 F dX4_feed_47 ?_
            refine z_bipush F 8 dX4_feed_48 zv_b_8 ?_
            refine z_iload3 F dX4_feed_50 ?_
            refine z_imul F dX4_feed_51 ?_
            refine z_iushr F dX4_feed_52 ?_
            refine z_sipush F 255 dX4_feed_53 zv_s_255 ?_
            refine z_iand F dX4_feed_56 ?_
            rw [i_ush x (show n < 4 by omega)]
            refine z_callVV1 F (c3_add D (s_fed (D.1 8) t x q c) (t + c) (by omega) _) kX4_213 (by decide) ocT (Nat.le_of_ble_eq_true rfl) rfl dX4_feed_57 ?_
            refine z_iinc3 F (-1) dX4_feed_60 rfl zv_i_m1 ?_
            refine z_goto F 39 dX4_feed_63 (by decide) ?_
            have h := ih (c + 1) (by omega)
            rw [s_fed, s_byte, show q - 1 - c = n by omega, show t + (c + 1) = t + c + 1 by omega] at h
            exact h
      have h := loop q 0 (by omega)
      rw [s_fed, z_row_eq, show nI (t + 0) = D.1 0 12 from ht.symm, z_up_self] at h
      rw [Int32.sub_eq_add_neg]
      exact h
    · have hl : 120 < nI t + y := Int32.not_le.mp h26
      refine z_aload0 F dX4_feed_29 ?_
      refine z_iconst F 1 dX4_feed_30 zv_i_1 ?_
      refine z_callVI1 F (c4_finding _ 1 (by decide)) kX4_55 (by decide) ocPH (Nat.le_of_ble_eq_true rfl) rfl dX4_feed_31 ?_
      refine hR _ _ _ _ dX4_feed_34 rfl ?_
      simp only [o_feed, h6, hl, Bool.false_eq_true, if_true, if_false, Bool.and_true, Bool.true_and, Bool.and_false, Bool.false_and, Bool.and_self, and_self]; first | exact ⟨rfl, rfl⟩ | exact ⟨by decide, rfl⟩ | exact ⟨by decide, z_sm_r _⟩ | exact ⟨rfl, z_sm_r _⟩
  · refine z_aload0 F dX4_feed_9 ?_
    refine z_iconst F 0 dX4_feed_10 zv_i_0 ?_
    refine z_callVI1 F (c4_finding _ 0 (by decide)) kX4_55 (by decide) ocPH (Nat.le_of_ble_eq_true rfl) rfl dX4_feed_11 ?_
    refine hR _ _ _ _ dX4_feed_14 rfl ?_
    simp only [o_feed, h6, Bool.false_eq_true, if_true, if_false, Bool.and_true, Bool.true_and, Bool.and_false, Bool.false_and, Bool.and_self, and_self]; first | exact ⟨rfl, rfl⟩ | exact ⟨by decide, rfl⟩ | exact ⟨by decide, z_sm_r _⟩ | exact ⟨rfl, z_sm_r _⟩
def b_rng (a n l : Int32) : Bool := decide (0 ≤ a) && decide (0 ≤ n) && decide (n ≤ l - a)
theorem b_rng_cpy (a b n : Int32) {k1 k2 : Nat} (h1 : k1 ≤ 40) (h2 : k2 ≤ 40) : b_cpy a b n (nI k1) (nI k2) = (b_rng a n (nI k1) && b_rng b n (nI k2)) := by
  have key : ∀ (a : Int32) (k : Nat), k ≤ 40 → 0 ≤ a → (n ≤ nI k - a ↔ a.toInt + n.toInt ≤ (nI k).toInt) := by
    intro a k hk ha
    have e1 := nI_toInt (n := k) (by omega)
    rw [Int32.le_iff_toInt_le, show (0 : Int32).toInt = 0 by decide] at ha
    have h3 := a.toInt_lt
    have e2 : (nI k - a).toInt = (k : Int) - a.toInt := by
      rw [Int32.toInt_sub, e1]
      refine Int.bmod_eq_of_le ?_ ?_ <;> omega
    rw [Int32.le_iff_toInt_le, e2, e1]
    omega
  unfold b_cpy b_rng
  by_cases ha : 0 ≤ a
  · by_cases hb : 0 ≤ b
    · have q1 : decide (n ≤ nI k1 - a) = decide (a.toInt + n.toInt ≤ (nI k1).toInt) := decide_eq_decide.mpr (key a k1 h1 ha)
      have q2 : decide (n ≤ nI k2 - b) = decide (b.toInt + n.toInt ≤ (nI k2).toInt) := decide_eq_decide.mpr (key b k2 h2 hb)
      rw [decide_eq_true ha, decide_eq_true hb, q1, q2]
      cases decide (0 ≤ n) <;> simp
    · rw [decide_eq_false hb]; simp
  · rw [decide_eq_false ha]; simp
set_option maxHeartbeats 1000000 in
set_option maxRecDepth 20000 in
theorem c2_rng (D : zD) {s : Nat} (hs : s < 4) (a n : Int32) : z_CI SX zT yX2_hasRange cX2_hasRange 3 .boolean 0 [.ref (43 + s), .int a, .int n] D (z_eq (z_b (b_rng a n (D.1 13 s))) D) := by
  refine z_startI SX_ok (by decide +kernel) (fun v hv => by simp at hv; rcases hv with rfl | rfl | rfl <;> rfl) (Nat.le_of_ble_eq_true rfl) (fun X F hR => ?_)
  show z_J X SX 0 [some (.ref (43 + s)), some (.int a), some (.int n)] [] D
  refine z_iload1 F dX2_hasRange_0 ?_
  refine z_if_lt F 22 dX2_hasRange_1 (by decide) (fun h1 => ?_) (fun h1 => ?_)
  · refine z_iconst F 0 dX2_hasRange_22 zv_i_0 ?_
    refine hR _ _ _ _ dX2_hasRange_23 rfl ?_
    exact ⟨by rw [b_rng, decide_eq_false (Int32.not_le.mpr h1)]; simp [z_b], rfl⟩
  · refine z_iload2 F dX2_hasRange_4 ?_
    refine z_if_lt F 22 dX2_hasRange_5 (by decide) (fun h5 => ?_) (fun h5 => ?_)
    · refine z_iconst F 0 dX2_hasRange_22 zv_i_0 ?_
      refine hR _ _ _ _ dX2_hasRange_23 rfl ?_
      exact ⟨by rw [b_rng, decide_eq_false (Int32.not_le.mpr h5)]; simp [z_b], rfl⟩
    · refine z_iload2 F dX2_hasRange_8 ?_
      refine z_aload0 F dX2_hasRange_9 ?_
      refine z_getI F (S_length hs) fX2_15 dX2_hasRange_10 ?_
      refine z_iload1 F dX2_hasRange_13 ?_
      refine z_isub F dX2_hasRange_14 ?_
      refine z_ic_gt F 22 dX2_hasRange_15 (by decide) (fun h15 => ?_) (fun h15 => ?_)
      · refine z_iconst F 0 dX2_hasRange_22 zv_i_0 ?_
        refine hR _ _ _ _ dX2_hasRange_23 rfl ?_
        exact ⟨by rw [b_rng, decide_eq_false (Int32.not_le.mpr h15)]; simp [z_b], rfl⟩
      · refine z_iconst F 1 dX2_hasRange_18 zv_i_1 ?_
        refine z_goto F 23 dX2_hasRange_19 (by decide) ?_
        refine hR _ _ _ _ dX2_hasRange_23 rfl ?_
        exact ⟨by rw [b_rng, decide_eq_true (Int32.not_lt.mp h1), decide_eq_true (Int32.not_lt.mp h5), decide_eq_true (Int32.not_lt.mp h15)]; rfl, rfl⟩
set_option maxHeartbeats 1000000 in
set_option maxRecDepth 20000 in
theorem c4_copy (D : zD) (x1 x2 x3 x4 x5 : Int32) (hsz : ∀ s, s < 4 → ∃ k, k ≤ 40 ∧ D.1 13 s = nI k) : z_CI SX zT yX4_copy cX4_copy 8 .int 2 [.ref 0, .int x1, .int x2, .int x3, .int x4, .int x5] D (z_eq (a_ans (o_copy D x1 x2 x3 x4 x5)) (a_X D (o_copy D x1 x2 x3 x4 x5))) := by
  refine z_startI SX_ok (by decide +kernel) (fun v hv => by simp at hv; rcases hv with rfl | rfl | rfl | rfl | rfl | rfl <;> rfl) (Nat.le_of_ble_eq_true rfl) (fun X F hR => ?_)
  show z_J X SX 0 [some (.ref 0), some (.int x1), some (.int x2), some (.int x3), some (.int x4), some (.int x5), none, none] [] D
  refine z_iload1 F dX4_copy_0 ?_
  refine z_callSI1 F (c4_isSheet _ _) kX4_226 (by decide) (Nat.le_of_ble_eq_true rfl) rfl dX4_copy_1 ?_
  refine z_ifb_eq F 14 dX4_copy_4 (by decide) (fun h4 => ?_) (fun h4 => ?_)
  · refine z_aload0 F dX4_copy_14 ?_
    refine z_iconst F 0 dX4_copy_15 zv_i_0 ?_
    refine z_callVI1 F (c4_finding _ 0 (by decide)) kX4_55 (by decide) ocPH (Nat.le_of_ble_eq_true rfl) rfl dX4_copy_16 ?_
    refine hR _ _ _ _ dX4_copy_19 rfl ?_
    simp only [o_copy, h4, Bool.false_eq_true, if_true, if_false, Bool.and_true, Bool.true_and, Bool.and_false, Bool.false_and, Bool.and_self, and_self]; first | exact ⟨rfl, rfl⟩ | exact ⟨by decide, rfl⟩ | exact ⟨by decide, z_sm_r _⟩ | exact ⟨rfl, z_sm_r _⟩
  · refine z_iload3 F dX4_copy_7 ?_
    refine z_callSI1 F (c4_isSheet _ _) kX4_226 (by decide) (Nat.le_of_ble_eq_true rfl) rfl dX4_copy_8 ?_
    refine z_ifb_ne F 20 dX4_copy_11 (by decide) (fun h11 => ?_) (fun h11 => ?_)
    · obtain ⟨j, hj, rfl⟩ := b_in0 3 (by decide) h4
      have hjn := i_n_n (j := j) (by omega)
      obtain ⟨t, ht, rfl⟩ := b_in0 3 (by decide) h11
      have htn := i_n_n (j := t) (by omega)
      obtain ⟨kj, hkj, ej⟩ := hsz j (by omega)
      obtain ⟨kt, hkt, et⟩ := hsz t (by omega)
      refine z_aload0 F dX4_copy_20 ?_
      refine z_getR F PH_sheets fX4_35 dX4_copy_21 ?_
      refine z_iload1 F dX4_copy_24 ?_
      refine z_aald F aSheets (Or.inr (Or.inl rfl)) (j) rfl (show j < 4 by omega) dX4_copy_25 ?_
      refine z_astore6 F dX4_copy_26 rfl ?_
      refine z_aload0 F dX4_copy_28 ?_
      refine z_getR F PH_sheets fX4_35 dX4_copy_29 ?_
      refine z_iload3 F dX4_copy_32 ?_
      refine z_aald F aSheets (Or.inr (Or.inl rfl)) (t) rfl (show t < 4 by omega) dX4_copy_33 ?_
      refine z_astore7 F dX4_copy_34 rfl ?_
      refine z_aload6 F dX4_copy_36 ?_
      refine z_callVI0 F (c2_miss _ (show j < 4 by omega)) kX4_233 (by decide) (ocS (show j < 4 by omega)) (Nat.le_of_ble_eq_true rfl) rfl dX4_copy_38 ?_
      refine z_ifb_ne F 52 dX4_copy_41 (by decide) (fun h41 => ?_) (fun h41 => ?_)
      · refine z_aload0 F dX4_copy_52 ?_
        refine z_iconst F 5 dX4_copy_53 zv_i_5 ?_
        refine z_callVI1 F (c4_finding _ 5 (by decide)) kX4_55 (by decide) ocPH (Nat.le_of_ble_eq_true rfl) rfl dX4_copy_54 ?_
        refine hR _ _ _ _ dX4_copy_57 rfl ?_
        simp only [o_copy, h4, h11, hjn, htn, if_pos (show D.1 12 j = 0 ∨ D.1 12 t = 0 from Or.inl (of_decide_eq_true h41)), Bool.false_eq_true, if_true, if_false, Bool.and_true, Bool.true_and, Bool.and_false, Bool.false_and, Bool.and_self, and_self]; exact ⟨by decide, rfl⟩
      · refine z_aload7 F dX4_copy_44 ?_
        refine z_callVI0 F (c2_miss _ (show t < 4 by omega)) kX4_233 (by decide) (ocS (show t < 4 by omega)) (Nat.le_of_ble_eq_true rfl) rfl dX4_copy_46 ?_
        refine z_ifb_eq F 58 dX4_copy_49 (by decide) (fun h49 => ?_) (fun h49 => ?_)
        · have hm1 := of_decide_eq_false h41
          have hm2 := of_decide_eq_false h49
          refine z_aload6 F dX4_copy_58 ?_
          refine z_getI F (S_bits (show j < 4 by omega)) fX4_237 dX4_copy_60 ?_
          refine z_aload7 F dX4_copy_63 ?_
          refine z_getI F (S_bits (show t < 4 by omega)) fX4_237 dX4_copy_65 ?_
          refine z_ic_eq F 77 dX4_copy_68 (by decide) (fun h68 => ?_) (fun h68 => ?_)
          · refine z_aload6 F dX4_copy_77 ?_
            refine z_iload2 F dX4_copy_79 ?_
            refine z_iload5 F dX4_copy_80 ?_
            refine z_callVI2 F (c2_rng D (show j < 4 by omega) x2 x5) kX4_240 (by decide) (ocS (show j < 4 by omega)) (Nat.le_of_ble_eq_true rfl) rfl dX4_copy_82 ?_
            refine z_ifb_eq F 100 dX4_copy_85 (by decide) (fun h85 => ?_) (fun h85 => ?_)
            · have hc : b_cpy x2 x4 x5 (D.1 13 j) (D.1 13 t) = false := by rw [ej, et, b_rng_cpy _ _ _ hkj hkt, ← ej, ← et, h85]; rfl
              refine z_aload0 F dX4_copy_100 ?_
              refine z_iconst F 0 dX4_copy_101 zv_i_0 ?_
              refine z_callVI1 F (c4_finding _ 0 (by decide)) kX4_55 (by decide) ocPH (Nat.le_of_ble_eq_true rfl) rfl dX4_copy_102 ?_
              refine hR _ _ _ _ dX4_copy_105 rfl ?_
              simp only [o_copy, h4, h11, hjn, htn, if_neg (show ¬ (D.1 12 j = 0 ∨ D.1 12 t = 0) from fun z => z.elim hm1 hm2), if_pos h68, hc, Bool.false_eq_true, if_true, if_false, Bool.and_true, Bool.true_and, Bool.and_false, Bool.false_and, Bool.and_self, and_self]; exact ⟨rfl, rfl⟩
            · refine z_aload7 F dX4_copy_88 ?_
              refine z_iload4 F dX4_copy_90 ?_
              refine z_iload5 F dX4_copy_92 ?_
              refine z_callVI2 F (c2_rng D (show t < 4 by omega) x4 x5) kX4_240 (by decide) (ocS (show t < 4 by omega)) (Nat.le_of_ble_eq_true rfl) rfl dX4_copy_94 ?_
              refine z_ifb_ne F 106 dX4_copy_97 (by decide) (fun h97 => ?_) (fun h97 => ?_)
              · have hc : b_cpy x2 x4 x5 (D.1 13 j) (D.1 13 t) = true := by rw [ej, et, b_rng_cpy _ _ _ hkj hkt, ← ej, ← et, h85, h97]; rfl
                have hc2 := hc
                unfold b_cpy at hc2
                simp only [Bool.and_eq_true, decide_eq_true_eq] at hc2
                obtain ⟨⟨⟨⟨c1, c2⟩, c3⟩, c4⟩, c5⟩ := hc2
                obtain ⟨a, ha, rfl⟩ := nI_nonneg c1
                obtain ⟨b, hb, rfl⟩ := nI_nonneg c2
                obtain ⟨n, hn, rfl⟩ := nI_nonneg c3
                rw [ej, nI_toInt ha, nI_toInt hn, nI_toInt (show kj < 2 ^ 31 by omega)] at c4
                rw [et, nI_toInt hb, nI_toInt hn, nI_toInt (show kt < 2 ^ 31 by omega)] at c5
                have han := i_n_n ha
                have hbn := i_n_n hb
                have hnn := i_n_n hn
                refine z_aload6 F dX4_copy_106 ?_
                refine z_getR F (S_numbers (show j < 4 by omega)) fX4_243 dX4_copy_108 ?_
                refine z_iload2 F dX4_copy_111 ?_
                refine z_aload7 F dX4_copy_112 ?_
                refine z_getR F (S_numbers (show t < 4 by omega)) fX4_243 dX4_copy_114 ?_
                refine z_iload4 F dX4_copy_117 ?_
                refine z_iload5 F dX4_copy_119 ?_
                refine z_acopy F (aNums (show j < 4 by omega)) (aNums (show t < 4 by omega)) a b n (by omega) (by omega) zw_616 (by decide) rfl (Nat.le_of_ble_eq_true rfl) dX4_copy_121 ?_
                refine z_iload5 F dX4_copy_124 ?_
                refine hR _ _ _ _ dX4_copy_126 rfl ?_
                simp only [o_copy, h4, h11, hjn, htn, if_neg (show ¬ (D.1 12 j = 0 ∨ D.1 12 t = 0) from fun z => z.elim hm1 hm2), if_pos h68, hc, han, hbn, hnn, Bool.false_eq_true, if_true, if_false, Bool.and_true, Bool.true_and, Bool.and_false, Bool.false_and, Bool.and_self, and_self]; exact ⟨rfl, rfl⟩
              · have hc : b_cpy x2 x4 x5 (D.1 13 j) (D.1 13 t) = false := by rw [ej, et, b_rng_cpy _ _ _ hkj hkt, ← ej, ← et, h85, h97]; rfl
                refine z_aload0 F dX4_copy_100 ?_
                refine z_iconst F 0 dX4_copy_101 zv_i_0 ?_
                refine z_callVI1 F (c4_finding _ 0 (by decide)) kX4_55 (by decide) ocPH (Nat.le_of_ble_eq_true rfl) rfl dX4_copy_102 ?_
                refine hR _ _ _ _ dX4_copy_105 rfl ?_
                simp only [o_copy, h4, h11, hjn, htn, if_neg (show ¬ (D.1 12 j = 0 ∨ D.1 12 t = 0) from fun z => z.elim hm1 hm2), if_pos h68, hc, Bool.false_eq_true, if_true, if_false, Bool.and_true, Bool.true_and, Bool.and_false, Bool.false_and, Bool.and_self, and_self]; exact ⟨rfl, rfl⟩
          · refine z_aload0 F dX4_copy_71 ?_
            refine z_iconst F 2 dX4_copy_72 zv_i_2 ?_
            refine z_callVI1 F (c4_finding _ 2 (by decide)) kX4_55 (by decide) ocPH (Nat.le_of_ble_eq_true rfl) rfl dX4_copy_73 ?_
            refine hR _ _ _ _ dX4_copy_76 rfl ?_
            simp only [o_copy, h4, h11, hjn, htn, if_neg (show ¬ (D.1 12 j = 0 ∨ D.1 12 t = 0) from fun z => z.elim hm1 hm2), if_neg h68, Bool.false_eq_true, if_true, if_false, Bool.and_true, Bool.true_and, Bool.and_false, Bool.false_and, Bool.and_self, and_self]; exact ⟨rfl, rfl⟩
        · refine z_aload0 F dX4_copy_52 ?_
          refine z_iconst F 5 dX4_copy_53 zv_i_5 ?_
          refine z_callVI1 F (c4_finding _ 5 (by decide)) kX4_55 (by decide) ocPH (Nat.le_of_ble_eq_true rfl) rfl dX4_copy_54 ?_
          refine hR _ _ _ _ dX4_copy_57 rfl ?_
          simp only [o_copy, h4, h11, hjn, htn, if_pos (show D.1 12 j = 0 ∨ D.1 12 t = 0 from Or.inr (of_decide_eq_true h49)), Bool.false_eq_true, if_true, if_false, Bool.and_true, Bool.true_and, Bool.and_false, Bool.false_and, Bool.and_self, and_self]; exact ⟨by decide, rfl⟩
    · refine z_aload0 F dX4_copy_14 ?_
      refine z_iconst F 0 dX4_copy_15 zv_i_0 ?_
      refine z_callVI1 F (c4_finding _ 0 (by decide)) kX4_55 (by decide) ocPH (Nat.le_of_ble_eq_true rfl) rfl dX4_copy_16 ?_
      refine hR _ _ _ _ dX4_copy_19 rfl ?_
      simp only [o_copy, h4, h11, Bool.false_eq_true, if_true, if_false, Bool.and_true, Bool.true_and, Bool.and_false, Bool.false_and, Bool.and_self, and_self]; first | exact ⟨rfl, rfl⟩ | exact ⟨by decide, rfl⟩ | exact ⟨by decide, z_sm_r _⟩ | exact ⟨rfl, z_sm_r _⟩
set_option maxHeartbeats 1000000 in
set_option maxRecDepth 20000 in
theorem c4_load (D : zD) (x : Int32) {N : Nat} (hN : D.1 1 4 = nI N) (h10 : N ≤ 10) (hsz : ∀ s, s < 4 → ∃ k, k ≤ 40 ∧ D.1 13 s = nI k) : z_CI SX zT yX4_load cX4_load 4 .int 2 [.ref 0, .int x] D (z_eq (a_ans (o_load D N x)) (a_X D (o_load D N x))) := by
  refine z_startI SX_ok (by decide +kernel) (fun v hv => by simp at hv; rcases hv with rfl | rfl <;> rfl) (Nat.le_of_ble_eq_true rfl) (fun X F hR => ?_)
  show z_J X SX 0 [some (.ref 0), some (.int x), none, none] [] D
  refine z_iload1 F dX4_load_0 ?_
  refine z_callSI1 F (c4_isSheet _ _) kX4_226 (by decide) (Nat.le_of_ble_eq_true rfl) rfl dX4_load_1 ?_
  refine z_ifb_ne F 13 dX4_load_4 (by decide) (fun h4 => ?_) (fun h4 => ?_)
  · obtain ⟨j, hj, rfl⟩ := b_in0 3 (by decide) h4
    have hjn := i_n_n (j := j) (by omega)
    obtain ⟨kj, hkj, ej⟩ := hsz j (by omega)
    refine z_aload0 F dX4_load_13 ?_
    refine z_getR F PH_sheets fX4_35 dX4_load_14 ?_
    refine z_iload1 F dX4_load_17 ?_
    refine z_aald F aSheets (Or.inr (Or.inl rfl)) (j) rfl (show j < 4 by omega) dX4_load_18 ?_
    refine z_astore2 F dX4_load_19 rfl ?_
    refine z_aload2 F dX4_load_20 ?_
    refine z_callVI0 F (c2_miss _ (show j < 4 by omega)) kX4_233 (by decide) (ocS (show j < 4 by omega)) (Nat.le_of_ble_eq_true rfl) rfl dX4_load_21 ?_
    refine z_ifb_eq F 33 dX4_load_24 (by decide) (fun h24 => ?_) (fun h24 => ?_)
    · have h24 := of_decide_eq_false h24
      refine z_iconst F 0 dX4_load_33 zv_i_0 ?_
      refine z_istore3 F dX4_load_34 rfl ?_
      have loop : ∀ f c, c + f = 11 → s_upto (s_ldP D N j) f c = s_upto (s_ldP D N j) 11 0 → z_J X SX 35 [some (.ref 0), some (.int (nI j)), some (.ref (43 + j)), some (.int (nI c))] [] (z_row D 1 (s_ldr (D.1 1) (D.1 14) j c)) := by
        intro f
        induction f with
        | zero =>
          intro c hn he
          have hc11 : c = 11 := by omega
          refine z_iload3 F dX4_load_35 ?_
          refine z_aload2 F dX4_load_36 ?_
          refine z_getI F (S_length (show j < 4 by omega)) fX4_232 dX4_load_37 ?_
          rw [z_rowo _ _ (by decide)]
          refine z_ic_ge F 91 dX4_load_40 (by decide) (fun h40 => ?_) (fun h40 => ?_)
          · have hp : (s_ldP D N j) c = false := by
              simp only [s_ldP, decide_eq_false (Int32.not_lt.mpr h40), Bool.false_and, Bool.and_false]
            refine z_iload3 F dX4_load_91 ?_
            refine hR _ _ _ _ dX4_load_92 rfl ?_
            have e : s_upto (s_ldP D N j) 11 0 = c := by
              rw [← he]
              first
                | rfl
                | (rw [s_upto, if_neg (by rw [hp]; decide)])
            simp only [o_load, h4, hjn, h24, Bool.false_eq_true, if_true, if_false, Bool.and_true, Bool.true_and, Bool.and_false, Bool.false_and, Bool.and_self, and_self, e]
            exact ⟨rfl, rfl⟩
          · have hck : c < kj := (nI_ltI (by omega) (by omega)).mp (by rw [← ej]; exact Int32.not_le.mp h40)
            refine z_aload0 F dX4_load_43 ?_
            refine z_getR F PH_coat fX4_10 dX4_load_44 ?_
            refine z_iload3 F dX4_load_47 ?_
            refine z_callVI1 F (by have h := c0_has (z_row D 1 (s_ldr (D.1 1) (D.1 14) j c)) z_r1 (N := N) (by rw [z_rowr, s_ldr_lo _ _ _ (by decide)]; exact hN) h10 (nI c); exact h) kX4_67 (by decide) (ocC z_r1) (Nat.le_of_ble_eq_true rfl) rfl dX4_load_48 ?_
            rw [i_coin h10 (by omega)]
            refine z_ifb_eq F 91 dX4_load_51 (by decide) (fun h51 => ?_) (fun h51 => ?_)
            · have hp : (s_ldP D N j) c = false := by
                simp only [s_ldP, h51, Bool.false_and, Bool.and_false]
              refine z_iload3 F dX4_load_91 ?_
              refine hR _ _ _ _ dX4_load_92 rfl ?_
              have e : s_upto (s_ldP D N j) 11 0 = c := by
                rw [← he]
                first
                  | rfl
                  | (rw [s_upto, if_neg (by rw [hp]; decide)])
              simp only [o_load, h4, hjn, h24, Bool.false_eq_true, if_true, if_false, Bool.and_true, Bool.true_and, Bool.and_false, Bool.false_and, Bool.and_self, and_self, e]
              exact ⟨rfl, rfl⟩
            · exact absurd (of_decide_eq_true h51) (by omega)
        | succ f ih =>
          intro c hn he
          refine z_iload3 F dX4_load_35 ?_
          refine z_aload2 F dX4_load_36 ?_
          refine z_getI F (S_length (show j < 4 by omega)) fX4_232 dX4_load_37 ?_
          rw [z_rowo _ _ (by decide)]
          refine z_ic_ge F 91 dX4_load_40 (by decide) (fun h40 => ?_) (fun h40 => ?_)
          · have hp : (s_ldP D N j) c = false := by
              simp only [s_ldP, decide_eq_false (Int32.not_lt.mpr h40), Bool.false_and, Bool.and_false]
            refine z_iload3 F dX4_load_91 ?_
            refine hR _ _ _ _ dX4_load_92 rfl ?_
            have e : s_upto (s_ldP D N j) 11 0 = c := by
              rw [← he]
              first
                | rfl
                | (rw [s_upto, if_neg (by rw [hp]; decide)])
            simp only [o_load, h4, hjn, h24, Bool.false_eq_true, if_true, if_false, Bool.and_true, Bool.true_and, Bool.and_false, Bool.false_and, Bool.and_self, and_self, e]
            exact ⟨rfl, rfl⟩
          · have hck : c < kj := (nI_ltI (by omega) (by omega)).mp (by rw [← ej]; exact Int32.not_le.mp h40)
            refine z_aload0 F dX4_load_43 ?_
            refine z_getR F PH_coat fX4_10 dX4_load_44 ?_
            refine z_iload3 F dX4_load_47 ?_
            refine z_callVI1 F (by have h := c0_has (z_row D 1 (s_ldr (D.1 1) (D.1 14) j c)) z_r1 (N := N) (by rw [z_rowr, s_ldr_lo _ _ _ (by decide)]; exact hN) h10 (nI c); exact h) kX4_67 (by decide) (ocC z_r1) (Nat.le_of_ble_eq_true rfl) rfl dX4_load_48 ?_
            rw [i_coin h10 (by omega)]
            refine z_ifb_eq F 91 dX4_load_51 (by decide) (fun h51 => ?_) (fun h51 => ?_)
            · have hp : (s_ldP D N j) c = false := by
                simp only [s_ldP, h51, Bool.false_and, Bool.and_false]
              refine z_iload3 F dX4_load_91 ?_
              refine hR _ _ _ _ dX4_load_92 rfl ?_
              have e : s_upto (s_ldP D N j) 11 0 = c := by
                rw [← he]
                first
                  | rfl
                  | (rw [s_upto, if_neg (by rw [hp]; decide)])
              simp only [o_load, h4, hjn, h24, Bool.false_eq_true, if_true, if_false, Bool.and_true, Bool.true_and, Bool.and_false, Bool.false_and, Bool.and_self, and_self, e]
              exact ⟨rfl, rfl⟩
            · have hcN := of_decide_eq_true h51
              refine z_iconst F 1 dX4_load_54 zv_i_1 ?_
              refine z_aload2 F dX4_load_55 ?_
              refine z_getR F (S_numbers (show j < 4 by omega)) fX4_243 dX4_load_56 ?_
              refine z_iload3 F dX4_load_59 ?_
              refine z_iald F (aNums (show j < 4 by omega)) (c) rfl (by omega) dX4_load_60 ?_
              rw [z_rowo _ _ (by decide)]
              refine z_callSI2 F (c4_mayBecome _ _ _) kX4_84 (by decide) (Nat.le_of_ble_eq_true rfl) rfl dX4_load_61 ?_
              rw [show ∀ v, b_may 1 v = b_in v 1 40 from fun _ => rfl]
              refine z_ifb_eq F 91 dX4_load_64 (by decide) (fun h64 => ?_) (fun h64 => ?_)
              · have hp : (s_ldP D N j) c = false := by
                  simp only [s_ldP, h64, Bool.false_and, Bool.and_false]
                refine z_iload3 F dX4_load_91 ?_
                refine hR _ _ _ _ dX4_load_92 rfl ?_
                have e : s_upto (s_ldP D N j) 11 0 = c := by
                  rw [← he]
                  first
                    | rfl
                    | (rw [s_upto, if_neg (by rw [hp]; decide)])
                simp only [o_load, h4, hjn, h24, Bool.false_eq_true, if_true, if_false, Bool.and_true, Bool.true_and, Bool.and_false, Bool.false_and, Bool.and_self, and_self, e]
                exact ⟨rfl, rfl⟩
              · refine z_aload0 F dX4_load_67 ?_
                refine z_getR F PH_coat fX4_10 dX4_load_68 ?_
                refine z_getR F (C_row z_r1) fX4_71 dX4_load_71 ?_
                refine z_iload3 F dX4_load_74 ?_
                refine z_aald F (aRow z_r1) (Or.inl rfl) (c) rfl (show c < 10 by omega) dX4_load_75 ?_
                refine z_aload2 F dX4_load_76 ?_
                refine z_getR F (S_numbers (show j < 4 by omega)) fX4_243 dX4_load_77 ?_
                refine z_iload3 F dX4_load_80 ?_
                refine z_iald F (aNums (show j < 4 by omega)) (c) rfl (by omega) dX4_load_81 ?_
                rw [z_rowo _ _ (by decide)]
                refine z_putI F (K_f z_r1 (show c < 10 by omega) 1 (by decide)) fX4_252 rfl rfl dX4_load_82 ?_
                refine z_iinc3 F 1 dX4_load_85 rfl zv_i_1 ?_
                refine z_goto F 35 dX4_load_88 (by decide) ?_
                have hp : (s_ldP D N j) c = true := by
                  simp only [s_ldP, decide_eq_true (Int32.not_le.mp h40), decide_eq_true hcN, h64]
                  rfl
                have h := ih (c + 1) (by omega) (by rw [← he, s_upto, if_pos hp])
                rw [s_ldr, show nI (c + 1) = nI c + 1 from nI_succ c] at h
                rw [z_row_up]
                exact h
      have h := loop 11 0 rfl rfl
      rw [s_ldr, z_row_eq] at h
      exact h
    · have h24 := of_decide_eq_true h24
      refine z_aload0 F dX4_load_27 ?_
      refine z_iconst F 5 dX4_load_28 zv_i_5 ?_
      refine z_callVI1 F (c4_finding _ 5 (by decide)) kX4_55 (by decide) ocPH (Nat.le_of_ble_eq_true rfl) rfl dX4_load_29 ?_
      refine hR _ _ _ _ dX4_load_32 rfl ?_
      simp only [o_load, h4, hjn, h24, Bool.false_eq_true, if_true, if_false, Bool.and_true, Bool.true_and, Bool.and_false, Bool.false_and, Bool.and_self, and_self]; first | exact ⟨rfl, rfl⟩ | exact ⟨by decide, rfl⟩ | exact ⟨by decide, z_sm_r _⟩ | exact ⟨rfl, z_sm_r _⟩
  · refine z_aload0 F dX4_load_7 ?_
    refine z_iconst F 0 dX4_load_8 zv_i_0 ?_
    refine z_callVI1 F (c4_finding _ 0 (by decide)) kX4_55 (by decide) ocPH (Nat.le_of_ble_eq_true rfl) rfl dX4_load_9 ?_
    refine hR _ _ _ _ dX4_load_12 rfl ?_
    simp only [o_load, h4, Bool.false_eq_true, if_true, if_false, Bool.and_true, Bool.true_and, Bool.and_false, Bool.false_and, Bool.and_self, and_self]; first | exact ⟨rfl, rfl⟩ | exact ⟨by decide, rfl⟩ | exact ⟨by decide, z_sm_r _⟩ | exact ⟨rfl, z_sm_r _⟩
