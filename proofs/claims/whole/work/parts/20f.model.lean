theorem c5_aside (D : zD) : z_CV SM zT yX5_copyRow cX5_copyRow 3 0 [.ref 1, .ref 2] D (z_eqV (z_as D)) := c5_copyRow D 1 2 aM_now aM_aside (by decide)
/-- all is put back: a row that differs from the one set aside below place 96 alone -/
theorem c5_back (D : zD) (τ : Nat → Int32) (h : ∀ i, 96 ≤ i → τ i = D.1 1 i) : z_CV SM zT yX5_copyRow cX5_copyRow 3 0 [.ref 2, .ref 1] (z_row (z_as D) 1 τ) (z_eqV (z_as D)) := by
  have := c5_copyRow (z_row (z_as D) 1 τ) 2 1 aM_aside aM_now (by decide)
  rw [z_back D τ h] at this
  exact this
theorem c5_putBackS (D : zD) (τ : Nat → Int32) (v : Int32) (h : ∀ i, 96 ≤ i → τ i = D.1 1 i) : z_CI SM zT yX5_putBack cX5_putBack 2 .int 1 [.ref 0, .int v] (z_row (z_as D) 1 τ) (z_eq v (z_as D)) := by
  have := c5_putBack (z_row (z_as D) 1 τ) v
  rw [z_back D τ h] at this
  exact this
/-- steps over what was set aside -/
theorem c5_stepsA (D : zD) (τ : Nat → Int32) (n : Nat) {N : Nat} (hN : τ 4 = nI N) (h10 : N ≤ 10) (hn31 : n < 2 ^ 31) : z_CI SM zT yX5_stepsGo cX5_stepsGo 6 .int 5 [.ref 0, .int (nI n)] (z_row (z_as D) 1 τ) (z_eq (s_fell τ (s_steps τ N n) N) (z_row (z_as D) 1 (s_steps τ N n))) := by
  have := c5_stepsGo (z_row (z_as D) 1 τ) n (by rw [z_rowr]; exact hN) h10 hn31
  rw [z_rowr, z_row_row] at this
  exact this
theorem c5_lieA (D : zD) (τ : Nat → Int32) (pl : Int32) {N : Nat} (hN : τ 4 = nI N) (h10 : N ≤ 10) : z_CI SM zT yX5_lieIn cX5_lieIn 4 .int 3 [.ref 0, .int pl] (z_row D 1 τ) (z_eq (s_lie τ pl N) (z_row D 1 τ)) := by
  have h := c5_lieIn (z_row D 1 τ) pl (by rw [z_rowr]; exact hN) h10
  rw [z_rowr] at h
  exact h
theorem c5_sumA (D : zD) (τ : Nat → Int32) (f : Nat) (set : Int32) {N : Nat} (hN : τ 4 = nI N) (h10 : N ≤ 10) (hf : f < 8) : z_CI SM zT yX5_sumOf cX5_sumOf 5 .int 2 [.ref 0, .int set, .int (nI f)] (z_row D 1 τ) (z_eq (s_sum τ f set N) (z_row D 1 τ)) := by
  have h := c5_sumOf (z_row D 1 τ) f set (by rw [z_rowr]; exact hN) h10 hf
  rw [z_rowr] at h
  exact h
theorem c5_clkA (D : zD) (τ : Nat → Int32) {N : Nat} (hN : τ 4 = nI N) (h10 : N ≤ 10) : z_CI SM zT yX5_clinks cX5_clinks 4 .int 3 [.ref 0] (z_row D 1 τ) (z_eq (s_clk τ N) (z_row D 1 τ)) := by
  have h := c5_clinks (z_row D 1 τ) (by rw [z_rowr]; exact hN) h10
  rw [z_rowr] at h
  exact h
theorem c5_isInA (D : zD) (τ : Nat → Int32) (c : Nat) (pl : Int32) (hc : c < 10) : z_CI SM zT yX5_isIn cX5_isIn 3 .boolean 2 [.ref 0, .int (nI c), .int pl] (z_row D 1 τ) (z_eq (z_b (decide (τ (16 + 8 * c + 4) = pl))) (z_row D 1 τ)) := by
  have h := c5_isIn (z_row D 1 τ) c pl hc
  rw [z_rowr] at h
  exact h
theorem c5_coinIsA (D : zD) (τ : Nat → Int32) (c f : Nat) (hc : c < 10) (hf : f < 8) : z_CI SM zT yX5_coinIs cX5_coinIs 3 .int 1 [.ref 0, .int (nI c), .int (nI f)] (z_row D 1 τ) (z_eq (τ (16 + 8 * c + f)) (z_row D 1 τ)) := by
  have h := c5_coinIs (z_row D 1 τ) c f hc hf
  rw [z_rowr] at h
  exact h
theorem s_steps_N {σ : Nat → Int32} {N : Nat} (hN : σ 4 = nI N) (n : Nat) : s_steps σ N n 4 = nI N := by rw [s_steps_lo _ _ (by decide) (by decide) (by decide)]; exact hN
theorem s_hole_N {σ : Nat → Int32} {N : Nat} (hN : σ 4 = nI N) (v : Int32) : s_hole σ v 4 = nI N := by rw [s_hole_lo _ _ (by decide)]; exact hN
theorem z_as_row (D : zD) : z_as D = z_row (z_as D) 1 (D.1 1) := by rw [← z_as1 D, z_row_eq]
set_option maxHeartbeats 4000000 in
set_option maxRecDepth 20000 in
theorem c5_ahead (D : zD) (x y : Int32) {N : Nat} (hN : D.1 1 4 = nI N) (h10 : N ≤ 10) : z_CI SM zT yX5_ahead cX5_ahead 6 .int 6 [.ref 0, .int x, .int y] D (z_qM D (o_ahead (D.1 1) N x y)) := by
  refine z_startI SM_ok (by decide +kernel) (fun v hv => by simp at hv; rcases hv with rfl | rfl | rfl <;> rfl) (Nat.le_of_ble_eq_true rfl) (fun X F hR => ?_)
  show z_J X SM 0 [some (.ref 0), some (.int x), some (.int y), none, none, none] [] D
  refine z_iload1 F dX5_ahead_0 ?_
  refine z_iconst F 0 dX5_ahead_1 zv_i_0 ?_
  refine z_bipush F 100 dX5_ahead_2 zv_b_100 ?_
  refine z_callSI3 F (c5_within _ _ _ _) kX5_78 (by decide) (Nat.le_of_ble_eq_true rfl) rfl dX5_ahead_4 ?_
  refine z_ifb_eq F 19 dX5_ahead_7 (by decide) (fun h7 => ?_) (fun h7 => ?_)
  · refine z_aload0 F dX5_ahead_19 ?_
    refine z_ldc F (-1000001) dX5_ahead_20 zw_721 ?_
    refine z_callVI1 F (c5_finding _ _ 0 (by decide) (by decide)) kX5_93 (by decide) ocM (Nat.le_of_ble_eq_true rfl) rfl dX5_ahead_22 ?_
    refine hR _ _ _ _ dX5_ahead_25 rfl ?_
    simp only [o_ahead, h7, Bool.false_eq_true, if_true, if_false, Bool.and_true, Bool.true_and, Bool.and_false, Bool.false_and, Bool.and_self, and_self]; first | exact ⟨rfl, rfl⟩ | exact ⟨by decide, rfl⟩ | exact ⟨by decide, z_sm_r _⟩ | exact ⟨rfl, z_sm_r _⟩ | exact ⟨rfl, z_sm_as _⟩ | exact ⟨by decide, z_sm_fM _ (z_sm_as _)⟩
  · refine z_iload2 F dX5_ahead_10 ?_
    refine z_iconst F 0 dX5_ahead_11 zv_i_0 ?_
    refine z_iconst F 5 dX5_ahead_12 zv_i_5 ?_
    refine z_callSI3 F (c5_within _ _ _ _) kX5_78 (by decide) (Nat.le_of_ble_eq_true rfl) rfl dX5_ahead_13 ?_
    refine z_ifb_ne F 26 dX5_ahead_16 (by decide) (fun h16 => ?_) (fun h16 => ?_)
    · refine z_aload0 F dX5_ahead_26 ?_
      refine z_iload1 F dX5_ahead_27 ?_
      refine z_callVI1 F (c5_isTooLate _ _) kX5_166 (by decide) ocM (Nat.le_of_ble_eq_true rfl) rfl dX5_ahead_28 ?_
      refine z_ifb_eq F 41 dX5_ahead_31 (by decide) (fun h31 => ?_) (fun h31 => ?_)
      · obtain ⟨q, hq, rfl⟩ := b_in0 100 (by decide) h7
        have hqn := i_n_n (j := q) (by omega)
        simp only [decide_eq_false_iff_not] at h31
        refine z_aload0 F dX5_ahead_41 ?_
        refine z_getR F M_now fX5_9 dX5_ahead_42 ?_
        refine z_aload0 F dX5_ahead_45 ?_
        refine z_getR F M_aside fX5_16 dX5_ahead_46 ?_
        refine z_callSV2 F (c5_aside D) kX5_74 (by decide) (Nat.le_of_ble_eq_true rfl) rfl dX5_ahead_49 ?_
        refine z_aload0 F dX5_ahead_52 ?_
        refine z_iconst F 0 dX5_ahead_53 zv_i_0 ?_
        refine z_callVI1 F (by have h := c5_lieIn (z_as D) 0 (by rw [z_as1]; exact hN) h10; rw [z_as1] at h; exact h) kX5_141 (by decide) ocM (Nat.le_of_ble_eq_true rfl) rfl dX5_ahead_54 ?_
        refine z_istore3 F dX5_ahead_57 rfl ?_
        refine z_aload0 F dX5_ahead_58 ?_
        refine z_iconst F 2 dX5_ahead_59 zv_i_2 ?_
        refine z_callVI1 F (by have h := c5_lieIn (z_as D) 2 (by rw [z_as1]; exact hN) h10; rw [z_as1] at h; exact h) kX5_141 (by decide) ocM (Nat.le_of_ble_eq_true rfl) rfl dX5_ahead_60 ?_
        refine z_istore4 F dX5_ahead_63 rfl ?_
        rw [z_as_row D]
        refine z_aload0 F dX5_ahead_65 ?_
        refine z_iload1 F dX5_ahead_66 ?_
        refine z_callVI1 F (c5_stepsA D (D.1 1) q hN h10 (by omega)) kX5_170 (by decide) ocM (Nat.le_of_ble_eq_true rfl) rfl dX5_ahead_67 ?_
        refine z_istore5 F dX5_ahead_70 rfl ?_
        refine z_iload2 F dX5_ahead_72 ?_
        refine z_tsw_0_4 rfl (fun h73 => ?_) (fun h73 => ?_) (fun h73 => ?_) (fun h73 => ?_) (fun h73 => ?_) (fun h73 => ?_)
        · refine z_tabIn F 108 dX5_ahead_73 (by rw [h73]; decide) (by rw [h73]; decide) (by rw [h73]; rfl) (by decide) ?_
          refine z_aload0 F dX5_ahead_108 ?_
          refine z_iload3 F dX5_ahead_109 ?_
          refine z_aload0 F dX5_ahead_110 ?_
          refine z_iconst F 0 dX5_ahead_111 zv_i_0 ?_
          refine z_callVI1 F (c5_lieA _ _ _ (s_steps_N hN _) h10) kX5_141 (by decide) ocM (Nat.le_of_ble_eq_true rfl) rfl dX5_ahead_112 ?_
          refine z_iconst F (-1) dX5_ahead_115 zv_i_m1 ?_
          refine z_ixor F dX5_ahead_116 ?_
          refine z_iand F dX5_ahead_117 ?_
          refine z_callVI1 F (c5_putBackS D (s_steps (D.1 1) N q) _ (fun i hi => s_steps_hi _ h10 hi q)) kX5_177 (by decide) ocM (Nat.le_of_ble_eq_true rfl) rfl dX5_ahead_118 ?_
          refine hR _ _ _ _ dX5_ahead_121 rfl ?_
          simp only [o_ahead, h7, h16, h31, hqn, Bool.false_eq_true, if_true, if_false, Bool.and_true, Bool.true_and, Bool.and_false, Bool.false_and, Bool.and_self, and_self]
          refine ⟨?_, z_sm_as _⟩
          rw [h73]
          rfl
        · refine z_tabIn F 122 dX5_ahead_73 (by rw [h73]; decide) (by rw [h73]; decide) (by rw [h73]; rfl) (by decide) ?_
          refine z_aload0 F dX5_ahead_122 ?_
          refine z_iload5 F dX5_ahead_123 ?_
          refine z_if_ne F 132 dX5_ahead_125 (by decide) (fun h125 => ?_) (fun h125 => ?_)
          · refine z_aload0 F dX5_ahead_132 ?_
            refine z_iconst F 2 dX5_ahead_133 zv_i_2 ?_
            refine z_callVI1 F (c5_lieA _ _ _ (s_steps_N hN _) h10) kX5_141 (by decide) ocM (Nat.le_of_ble_eq_true rfl) rfl dX5_ahead_134 ?_
            refine z_iload4 F dX5_ahead_137 ?_
            refine z_iconst F (-1) dX5_ahead_139 zv_i_m1 ?_
            refine z_ixor F dX5_ahead_140 ?_
            refine z_iand F dX5_ahead_141 ?_
            refine z_callVI1 F (c5_putBackS D (s_steps (D.1 1) N q) _ (fun i hi => s_steps_hi _ h10 hi q)) kX5_177 (by decide) ocM (Nat.le_of_ble_eq_true rfl) rfl dX5_ahead_142 ?_
            refine hR _ _ _ _ dX5_ahead_145 rfl ?_
            simp only [o_ahead, h7, h16, h31, hqn, Bool.false_eq_true, if_true, if_false, Bool.and_true, Bool.true_and, Bool.and_false, Bool.false_and, Bool.and_self, and_self]
            refine ⟨?_, z_sm_as _⟩
            rw [h73]
            first
              | (have e := s_fell_0 (D.1 1) h10 q h125
                 simp only [v_ahead, q_ans]
                 rw [e]; rfl)
              | rfl
          · refine z_iconst F 0 dX5_ahead_128 zv_i_0 ?_
            refine z_goto F 142 dX5_ahead_129 (by decide) ?_
            refine z_callVI1 F (c5_putBackS D (s_steps (D.1 1) N q) _ (fun i hi => s_steps_hi _ h10 hi q)) kX5_177 (by decide) ocM (Nat.le_of_ble_eq_true rfl) rfl dX5_ahead_142 ?_
            refine hR _ _ _ _ dX5_ahead_145 rfl ?_
            simp only [o_ahead, h7, h16, h31, hqn, Bool.false_eq_true, if_true, if_false, Bool.and_true, Bool.true_and, Bool.and_false, Bool.false_and, Bool.and_self, and_self]
            refine ⟨?_, z_sm_as _⟩
            rw [h73]
            first
              | (have e := s_fell_0 (D.1 1) h10 q h125
                 simp only [v_ahead, q_ans]
                 rw [e]; rfl)
              | rfl
        · refine z_tabIn F 146 dX5_ahead_73 (by rw [h73]; decide) (by rw [h73]; decide) (by rw [h73]; rfl) (by decide) ?_
          refine z_aload0 F dX5_ahead_146 ?_
          refine z_aload0 F dX5_ahead_147 ?_
          refine z_getR F M_now fX5_9 dX5_ahead_148 ?_
          refine z_iconst F 1 dX5_ahead_151 zv_i_1 ?_
          refine z_iald F aM_now (1) rfl (by omega) dX5_ahead_152 ?_
          refine z_callVI1 F (c5_putBackS D (s_steps (D.1 1) N q) _ (fun i hi => s_steps_hi _ h10 hi q)) kX5_177 (by decide) ocM (Nat.le_of_ble_eq_true rfl) rfl dX5_ahead_153 ?_
          refine hR _ _ _ _ dX5_ahead_156 rfl ?_
          simp only [o_ahead, h7, h16, h31, hqn, Bool.false_eq_true, if_true, if_false, Bool.and_true, Bool.true_and, Bool.and_false, Bool.false_and, Bool.and_self, and_self]
          refine ⟨?_, z_sm_as _⟩
          rw [h73]
          rw [z_rowr]; rfl
        · refine z_tabIn F 157 dX5_ahead_73 (by rw [h73]; decide) (by rw [h73]; decide) (by rw [h73]; rfl) (by decide) ?_
          refine z_aload0 F dX5_ahead_157 ?_
          refine z_aload0 F dX5_ahead_158 ?_
          refine z_callVI0 F (c5_clkA _ _ (s_steps_N hN _) h10) kX5_173 (by decide) ocM (Nat.le_of_ble_eq_true rfl) rfl dX5_ahead_159 ?_
          refine z_callVI1 F (c5_putBackS D (s_steps (D.1 1) N q) _ (fun i hi => s_steps_hi _ h10 hi q)) kX5_177 (by decide) ocM (Nat.le_of_ble_eq_true rfl) rfl dX5_ahead_162 ?_
          refine hR _ _ _ _ dX5_ahead_165 rfl ?_
          simp only [o_ahead, h7, h16, h31, hqn, Bool.false_eq_true, if_true, if_false, Bool.and_true, Bool.true_and, Bool.and_false, Bool.false_and, Bool.and_self, and_self]
          refine ⟨?_, z_sm_as _⟩
          rw [h73]
          rfl
        · refine z_tabIn F 166 dX5_ahead_73 (by rw [h73]; decide) (by rw [h73]; decide) (by rw [h73]; rfl) (by decide) ?_
          refine z_aload0 F dX5_ahead_166 ?_
          refine z_aload0 F dX5_ahead_167 ?_
          refine z_aload0 F dX5_ahead_168 ?_
          refine z_iconst F 2 dX5_ahead_169 zv_i_2 ?_
          refine z_callVI1 F (c5_lieA _ _ _ (s_steps_N hN _) h10) kX5_141 (by decide) ocM (Nat.le_of_ble_eq_true rfl) rfl dX5_ahead_170 ?_
          refine z_iconst F 3 dX5_ahead_173 zv_i_3 ?_
          refine z_callVI2 F (c5_sumA _ _ 3 _ (s_steps_N hN _) h10 (by decide)) kX5_144 (by decide) ocM (Nat.le_of_ble_eq_true rfl) rfl dX5_ahead_174 ?_
          refine z_callVI1 F (c5_putBackS D (s_steps (D.1 1) N q) _ (fun i hi => s_steps_hi _ h10 hi q)) kX5_177 (by decide) ocM (Nat.le_of_ble_eq_true rfl) rfl dX5_ahead_177 ?_
          refine hR _ _ _ _ dX5_ahead_180 rfl ?_
          simp only [o_ahead, h7, h16, h31, hqn, Bool.false_eq_true, if_true, if_false, Bool.and_true, Bool.true_and, Bool.and_false, Bool.false_and, Bool.and_self, and_self]
          refine ⟨?_, z_sm_as _⟩
          rw [h73]
          rfl
        · refine z_tabOut F 181 dX5_ahead_73 h73 (by decide) ?_
          refine z_aload0 F dX5_ahead_181 ?_
          refine z_aload0 F dX5_ahead_182 ?_
          refine z_iconst F 1 dX5_ahead_183 zv_i_1 ?_
          refine z_callVI1 F (c5_lieA _ _ _ (s_steps_N hN _) h10) kX5_141 (by decide) ocM (Nat.le_of_ble_eq_true rfl) rfl dX5_ahead_184 ?_
          refine z_callVI1 F (c5_putBackS D (s_steps (D.1 1) N q) _ (fun i hi => s_steps_hi _ h10 hi q)) kX5_177 (by decide) ocM (Nat.le_of_ble_eq_true rfl) rfl dX5_ahead_187 ?_
          refine hR _ _ _ _ dX5_ahead_190 rfl ?_
          obtain ⟨n0, n1, n2, n3, n4⟩ := z_out04 h73
          simp only [o_ahead, h7, h16, h31, hqn, Bool.false_eq_true, if_true, if_false, Bool.and_true, Bool.true_and, Bool.and_false, Bool.false_and, Bool.and_self, and_self]
          refine ⟨?_, z_sm_as _⟩
          simp only [q_ans, v_ahead, n0, n1, n2, n3, n4, if_false]
      · simp only [decide_eq_true_eq] at h31
        refine z_aload0 F dX5_ahead_34 ?_
        refine z_ldc F (-1000005) dX5_ahead_35 zw_810 ?_
        refine z_callVI1 F (c5_finding _ _ 4 (by decide) (by decide)) kX5_93 (by decide) ocM (Nat.le_of_ble_eq_true rfl) rfl dX5_ahead_37 ?_
        refine hR _ _ _ _ dX5_ahead_40 rfl ?_
        simp only [o_ahead, h7, h16, h31, Bool.false_eq_true, if_true, if_false, Bool.and_true, Bool.true_and, Bool.and_false, Bool.false_and, Bool.and_self, and_self]; first | exact ⟨rfl, rfl⟩ | exact ⟨by decide, rfl⟩ | exact ⟨by decide, z_sm_r _⟩ | exact ⟨rfl, z_sm_r _⟩ | exact ⟨rfl, z_sm_as _⟩ | exact ⟨by decide, z_sm_fM _ (z_sm_as _)⟩
    · refine z_aload0 F dX5_ahead_19 ?_
      refine z_ldc F (-1000001) dX5_ahead_20 zw_721 ?_
      refine z_callVI1 F (c5_finding _ _ 0 (by decide) (by decide)) kX5_93 (by decide) ocM (Nat.le_of_ble_eq_true rfl) rfl dX5_ahead_22 ?_
      refine hR _ _ _ _ dX5_ahead_25 rfl ?_
      simp only [o_ahead, h7, h16, Bool.false_eq_true, if_true, if_false, Bool.and_true, Bool.true_and, Bool.and_false, Bool.false_and, Bool.and_self, and_self]; first | exact ⟨rfl, rfl⟩ | exact ⟨by decide, rfl⟩ | exact ⟨by decide, z_sm_r _⟩ | exact ⟨rfl, z_sm_r _⟩ | exact ⟨rfl, z_sm_as _⟩ | exact ⟨by decide, z_sm_fM _ (z_sm_as _)⟩
set_option maxHeartbeats 4000000 in
set_option maxRecDepth 20000 in
theorem c5_till (D : zD) (c : Nat) (fa : Bool) {N : Nat} (hN : D.1 1 4 = nI N) (h10 : N ≤ 10) (hc : c < 10) : z_CI SM zT yX5_till cX5_till 6 .int 6 [.ref 0, .int (nI c), .int (z_b fa)] D (z_eq (nI (v_till (D.1 1) N c fa)) (z_as D)) := by
  refine z_startI SM_ok (by decide +kernel) (fun v hv => by simp at hv; rcases hv with rfl | rfl | rfl <;> rfl) (Nat.le_of_ble_eq_true rfl) (fun X F hR => ?_)
  show z_J X SM 0 [some (.ref 0), some (.int (nI c)), some (.int (z_b fa)), none, none, none] [] D
  have fnd : ∀ (n : Nat), n ≤ 101 → v_till (D.1 1) N c fa = n → ∀ (a5 : Option Value), z_c1 a5 = true → z_J X SM 16 [some (.ref 0), some (.int (nI c)), some (.int (z_b fa)), some (.int (nI n)), some (.int 1), a5] [] (z_row (z_as D) 1 (s_steps (D.1 1) N n)) := by
    intro n hn he a5 h5
    refine z_iload3 F dX5_till_16 ?_
    refine z_bipush F 100 dX5_till_17 zv_b_100 ?_
    refine z_ic_gt F 93 dX5_till_19 (by decide) (fun h19 => ?_) (fun h19 => ?_)
    · refine z_aload0 F dX5_till_93 ?_
      refine z_iload3 F dX5_till_94 ?_
      refine z_callVI1 F (c5_putBackS D _ _ (fun i hi => s_steps_hi _ h10 hi n)) kX5_177 (by decide) ocM (Nat.le_of_ble_eq_true rfl) rfl dX5_till_95 ?_
      refine hR _ _ _ _ dX5_till_98 rfl ?_
      exact ⟨by rw [he], rfl⟩
    · refine z_iload4 F dX5_till_22 ?_
      refine z_if_ne F 93 dX5_till_24 (by decide) (fun h24 => ?_) (fun h24 => ?_)
      · refine z_aload0 F dX5_till_93 ?_
        refine z_iload3 F dX5_till_94 ?_
        refine z_callVI1 F (c5_putBackS D _ _ (fun i hi => s_steps_hi _ h10 hi n)) kX5_177 (by decide) ocM (Nat.le_of_ble_eq_true rfl) rfl dX5_till_95 ?_
        refine hR _ _ _ _ dX5_till_98 rfl ?_
        exact ⟨by rw [he], rfl⟩
      · exact absurd h24 (by decide)
  have loop : ∀ (f n : Nat), f + n = 101 → s_till (s_isP c fa) (D.1 1) N f n = v_till (D.1 1) N c fa → ∀ (a5 : Option Value), z_c1 a5 = true → z_J X SM 16 [some (.ref 0), some (.int (nI c)), some (.int (z_b fa)), some (.int (nI n)), some (.int 0), a5] [] (z_row (z_as D) 1 (s_steps (D.1 1) N n)) := by
    intro f
    induction f with
    | zero =>
      intro n hn he a5 h5
      refine z_iload3 F dX5_till_16 ?_
      refine z_bipush F 100 dX5_till_17 zv_b_100 ?_
      refine z_ic_gt F 93 dX5_till_19 (by decide) (fun h19 => ?_) (fun h19 => ?_)
      · refine z_aload0 F dX5_till_93 ?_
        refine z_iload3 F dX5_till_94 ?_
        refine z_callVI1 F (c5_putBackS D _ _ (fun i hi => s_steps_hi _ h10 hi n)) kX5_177 (by decide) ocM (Nat.le_of_ble_eq_true rfl) rfl dX5_till_95 ?_
        refine hR _ _ _ _ dX5_till_98 rfl ?_
        exact ⟨by rw [← he]; rfl, rfl⟩
      · exact absurd (by rw [show (100 : Int32) = nI 100 from rfl]; exact nI_lt (by omega) (by omega)) h19
    | succ f ih =>
      intro n hn he a5 h5
      refine z_iload3 F dX5_till_16 ?_
      refine z_bipush F 100 dX5_till_17 zv_b_100 ?_
      refine z_ic_gt F 93 dX5_till_19 (by decide) (fun h19 => ?_) (fun h19 => ?_)
      · exact absurd h19 (by rw [show (100 : Int32) = nI 100 from rfl]; exact nI_nlt (by omega) (by omega))
      · refine z_iload4 F dX5_till_22 ?_
        refine z_if_ne F 93 dX5_till_24 (by decide) (fun h24 => ?_) (fun h24 => ?_)
        · exact absurd h24 (by decide)
        · refine z_iload2 F dX5_till_27 ?_
          refine z_ifb_eq F 40 dX5_till_28 (by decide) (fun h28 => ?_) (fun h28 => ?_)
          · refine z_aload0 F dX5_till_40 ?_
            refine z_iload1 F dX5_till_41 ?_
            refine z_iconst F 0 dX5_till_42 zv_i_0 ?_
            refine z_callVI2 F (c5_isInA _ _ c _ hc) kX5_135 (by decide) ocM (Nat.le_of_ble_eq_true rfl) rfl dX5_till_43 ?_
            refine z_ifb_ne F 53 dX5_till_46 (by decide) (fun h46 => ?_) (fun h46 => ?_)
            · refine z_iconst F 0 dX5_till_53 zv_i_0 ?_
              refine z_istore4 F dX5_till_54 rfl ?_
              refine z_iload4 F dX5_till_56 ?_
              refine z_if_eq F 65 dX5_till_58 (by decide) (fun h58 => ?_) (fun h58 => ?_)
              · have hp : s_isP c fa (s_steps (D.1 1) N n) = false := by
                  simp only [s_isP, h28, if_true, if_false, Bool.false_eq_true]
                  first | exact h58 | (rw [h46]; rfl)
                try simp only [h58, z_bF]
                refine z_aload0 F dX5_till_65 ?_
                refine z_iconst F 1 dX5_till_66 zv_i_1 ?_
                refine z_callVI1 F (c5_stepsA D _ 1 (s_steps_N hN n) h10 (by decide)) kX5_170 (by decide) ocM (Nat.le_of_ble_eq_true rfl) rfl dX5_till_67 ?_
                refine z_istore5 F dX5_till_70 rfl ?_
                refine z_iload3 F dX5_till_72 ?_
                refine z_iload4 F dX5_till_73 ?_
                refine z_if_ne F 83 dX5_till_75 (by decide) (fun h75 => ?_) (fun h75 => ?_)
                · exact absurd h75 (by decide)
                · refine z_iload5 F dX5_till_78 ?_
                  refine z_if_ge F 87 dX5_till_80 (by decide) (fun h80 => ?_) (fun h80 => ?_)
                  · refine z_iconst F 1 dX5_till_87 zv_i_1 ?_
                    refine z_iadd F dX5_till_88 ?_
                    refine z_istore3 F dX5_till_89 rfl ?_
                    refine z_goto F 16 dX5_till_90 (by decide) ?_
                    first
                      | (rw [s_till, if_pos hp] at he
                         rw [i_add0]
                         exact fnd n (by omega) he.symm _ rfl)
                      | (rw [s_till, if_neg (by rw [hp]; decide)] at he
                         have h := ih (n + 1) (by omega) he (some (.int (s_fell (s_steps (D.1 1) N n) (s_steps (s_steps (D.1 1) N n) N 1) N))) rfl
                         rw [nI_succ] at h
                         exact h)
                  · exact absurd (s_fell_nn' _ h10 1) h80
              · exact absurd h58 (by decide)
            · refine z_iconst F 1 dX5_till_49 zv_i_1 ?_
              refine z_goto F 54 dX5_till_50 (by decide) ?_
              refine z_istore4 F dX5_till_54 rfl ?_
              refine z_iload4 F dX5_till_56 ?_
              refine z_if_eq F 65 dX5_till_58 (by decide) (fun h58 => ?_) (fun h58 => ?_)
              · exact absurd h58 (by decide)
              · have hp : s_isP c fa (s_steps (D.1 1) N n) = true := by
                  simp only [s_isP, h28, if_true, if_false, Bool.false_eq_true]
                  first | exact h58 | (rw [h46]; rfl)
                try simp only [h58, z_bT]
                refine z_iconst F 0 dX5_till_61 zv_i_0 ?_
                refine z_goto F 70 dX5_till_62 (by decide) ?_
                refine z_istore5 F dX5_till_70 rfl ?_
                refine z_iload3 F dX5_till_72 ?_
                refine z_iload4 F dX5_till_73 ?_
                refine z_if_ne F 83 dX5_till_75 (by decide) (fun h75 => ?_) (fun h75 => ?_)
                · refine z_iconst F 0 dX5_till_83 zv_i_0 ?_
                  refine z_goto F 88 dX5_till_84 (by decide) ?_
                  refine z_iadd F dX5_till_88 ?_
                  refine z_istore3 F dX5_till_89 rfl ?_
                  refine z_goto F 16 dX5_till_90 (by decide) ?_
                  first
                    | (rw [s_till, if_pos hp] at he
                       rw [i_add0]
                       exact fnd n (by omega) he.symm _ rfl)
                    | (rw [s_till, if_neg (by rw [hp]; decide)] at he
                       have h := ih (n + 1) (by omega) he (some (.int (s_fell (s_steps (D.1 1) N n) (s_steps (s_steps (D.1 1) N n) N 1) N))) rfl
                       rw [nI_succ] at h
                       exact h)
                · exact absurd h75 (by decide)
          · refine z_aload0 F dX5_till_31 ?_
            refine z_iload1 F dX5_till_32 ?_
            refine z_iconst F 2 dX5_till_33 zv_i_2 ?_
            refine z_callVI2 F (c5_isInA _ _ c _ hc) kX5_135 (by decide) ocM (Nat.le_of_ble_eq_true rfl) rfl dX5_till_34 ?_
            refine z_goto F 54 dX5_till_37 (by decide) ?_
            refine z_istore4 F dX5_till_54 rfl ?_
            refine z_iload4 F dX5_till_56 ?_
            refine z_ifb_eq F 65 dX5_till_58 (by decide) (fun h58 => ?_) (fun h58 => ?_)
            · have hp : s_isP c fa (s_steps (D.1 1) N n) = false := by
                simp only [s_isP, h28, if_true, if_false, Bool.false_eq_true]
                first | exact h58 | (rw [h46]; rfl)
              try simp only [h58, z_bF]
              refine z_aload0 F dX5_till_65 ?_
              refine z_iconst F 1 dX5_till_66 zv_i_1 ?_
              refine z_callVI1 F (c5_stepsA D _ 1 (s_steps_N hN n) h10 (by decide)) kX5_170 (by decide) ocM (Nat.le_of_ble_eq_true rfl) rfl dX5_till_67 ?_
              refine z_istore5 F dX5_till_70 rfl ?_
              refine z_iload3 F dX5_till_72 ?_
              refine z_iload4 F dX5_till_73 ?_
              refine z_if_ne F 83 dX5_till_75 (by decide) (fun h75 => ?_) (fun h75 => ?_)
              · exact absurd h75 (by decide)
              · refine z_iload5 F dX5_till_78 ?_
                refine z_if_ge F 87 dX5_till_80 (by decide) (fun h80 => ?_) (fun h80 => ?_)
                · refine z_iconst F 1 dX5_till_87 zv_i_1 ?_
                  refine z_iadd F dX5_till_88 ?_
                  refine z_istore3 F dX5_till_89 rfl ?_
                  refine z_goto F 16 dX5_till_90 (by decide) ?_
                  first
                    | (rw [s_till, if_pos hp] at he
                       rw [i_add0]
                       exact fnd n (by omega) he.symm _ rfl)
                    | (rw [s_till, if_neg (by rw [hp]; decide)] at he
                       have h := ih (n + 1) (by omega) he (some (.int (s_fell (s_steps (D.1 1) N n) (s_steps (s_steps (D.1 1) N n) N 1) N))) rfl
                       rw [nI_succ] at h
                       exact h)
                · exact absurd (s_fell_nn' _ h10 1) h80
            · have hp : s_isP c fa (s_steps (D.1 1) N n) = true := by
                simp only [s_isP, h28, if_true, if_false, Bool.false_eq_true]
                first | exact h58 | (rw [h46]; rfl)
              try simp only [h58, z_bT]
              refine z_iconst F 0 dX5_till_61 zv_i_0 ?_
              refine z_goto F 70 dX5_till_62 (by decide) ?_
              refine z_istore5 F dX5_till_70 rfl ?_
              refine z_iload3 F dX5_till_72 ?_
              refine z_iload4 F dX5_till_73 ?_
              refine z_if_ne F 83 dX5_till_75 (by decide) (fun h75 => ?_) (fun h75 => ?_)
              · refine z_iconst F 0 dX5_till_83 zv_i_0 ?_
                refine z_goto F 88 dX5_till_84 (by decide) ?_
                refine z_iadd F dX5_till_88 ?_
                refine z_istore3 F dX5_till_89 rfl ?_
                refine z_goto F 16 dX5_till_90 (by decide) ?_
                first
                  | (rw [s_till, if_pos hp] at he
                     rw [i_add0]
                     exact fnd n (by omega) he.symm _ rfl)
                  | (rw [s_till, if_neg (by rw [hp]; decide)] at he
                     have h := ih (n + 1) (by omega) he (some (.int (s_fell (s_steps (D.1 1) N n) (s_steps (s_steps (D.1 1) N n) N 1) N))) rfl
                     rw [nI_succ] at h
                     exact h)
              · exact absurd h75 (by decide)
  refine z_aload0 F dX5_till_0 ?_
  refine z_getR F M_now fX5_9 dX5_till_1 ?_
  refine z_aload0 F dX5_till_4 ?_
  refine z_getR F M_aside fX5_16 dX5_till_5 ?_
  refine z_callSV2 F (c5_aside D) kX5_74 (by decide) (Nat.le_of_ble_eq_true rfl) rfl dX5_till_8 ?_
  refine z_iconst F 0 dX5_till_11 zv_i_0 ?_
  refine z_istore3 F dX5_till_12 rfl ?_
  refine z_iconst F 0 dX5_till_13 zv_i_0 ?_
  refine z_istore4 F dX5_till_14 rfl ?_
  have h := loop 101 0 rfl rfl none rfl
  rw [s_steps, ← z_as_row] at h
  exact h
