set_option maxHeartbeats 4000000 in
set_option maxRecDepth 20000 in
theorem c5_at (D : zD) (c f : Nat) : z_CI SM zT yX5_at cX5_at 2 .int 0 [.int (nI c), .int (nI f)] D (z_eq (nI (16 + 8 * c + f)) D) := by
  refine z_startI SM_ok (by decide +kernel) (fun v hv => by simp at hv; rcases hv with rfl | rfl <;> rfl) (Nat.le_of_ble_eq_true rfl) (fun X F hR => ?_)
  show z_J X SM 0 [some (.int (nI c)), some (.int (nI f))] [] D
  refine z_bipush F 16 dX5_at_0 zv_b_16 ?_
  refine z_bipush F 8 dX5_at_2 zv_b_8 ?_
  refine z_iload0 F dX5_at_4 ?_
  refine z_imul F dX5_at_5 ?_
  refine z_iadd F dX5_at_6 ?_
  refine z_iload1 F dX5_at_7 ?_
  refine z_iadd F dX5_at_8 ?_
  refine hR _ _ _ _ dX5_at_9 rfl ?_
  exact ⟨by show nI 16 + nI 8 * nI c + nI f = _; rw [pk_mul, nI_add, nI_add], rfl⟩
set_option maxHeartbeats 4000000 in
set_option maxRecDepth 20000 in
theorem c5_coinIs (D : zD) (c f : Nat) (hc : c < 10) (hf : f < 8) : z_CI SM zT yX5_coinIs cX5_coinIs 3 .int 1 [.ref 0, .int (nI c), .int (nI f)] D (z_eq (D.1 1 (16 + 8 * c + f)) D) := by
  refine z_startI SM_ok (by decide +kernel) (fun v hv => by simp at hv; rcases hv with rfl | rfl | rfl <;> rfl) (Nat.le_of_ble_eq_true rfl) (fun X F hR => ?_)
  show z_J X SM 0 [some (.ref 0), some (.int (nI c)), some (.int (nI f))] [] D
  refine z_aload0 F dX5_coinIs_0 ?_
  refine z_getR F M_now fX5_9 dX5_coinIs_1 ?_
  refine z_iload1 F dX5_coinIs_4 ?_
  refine z_iload2 F dX5_coinIs_5 ?_
  refine z_callSI2 F (c5_at _ (c) f) kX5_82 (by decide) (Nat.le_of_ble_eq_true rfl) rfl dX5_coinIs_6 ?_
  refine z_iald F aM_now (16 + 8 * c + f) rfl (by omega) dX5_coinIs_9 ?_
  refine hR _ _ _ _ dX5_coinIs_10 rfl ?_
  exact ⟨rfl, rfl⟩
set_option maxHeartbeats 4000000 in
set_option maxRecDepth 20000 in
theorem c5_isIn (D : zD) (c : Nat) (pl : Int32) (hc : c < 10) : z_CI SM zT yX5_isIn cX5_isIn 3 .boolean 2 [.ref 0, .int (nI c), .int pl] D (z_eq (z_b (decide (D.1 1 (16 + 8 * c + 4) = pl))) D) := by
  refine z_startI SM_ok (by decide +kernel) (fun v hv => by simp at hv; rcases hv with rfl | rfl | rfl <;> rfl) (Nat.le_of_ble_eq_true rfl) (fun X F hR => ?_)
  show z_J X SM 0 [some (.ref 0), some (.int (nI c)), some (.int pl)] [] D
  refine z_aload0 F dX5_isIn_0 ?_
  refine z_iload1 F dX5_isIn_1 ?_
  refine z_iconst F 4 dX5_isIn_2 zv_i_4 ?_
  refine z_callVI2 F (c5_coinIs _ (c) 4 (by omega) (by decide)) kX5_105 (by decide) ocM (Nat.le_of_ble_eq_true rfl) rfl dX5_isIn_3 ?_
  refine z_iload2 F dX5_isIn_6 ?_
  refine z_ic_ne F 14 dX5_isIn_7 (by decide) (fun h7 => ?_) (fun h7 => ?_)
  · refine z_iconst F 0 dX5_isIn_14 zv_i_0 ?_
    refine hR _ _ _ _ dX5_isIn_15 rfl ?_
    exact ⟨by simp [z_b, h7], rfl⟩
  · refine z_iconst F 1 dX5_isIn_10 zv_i_1 ?_
    refine z_goto F 15 dX5_isIn_11 (by decide) ?_
    refine hR _ _ _ _ dX5_isIn_15 rfl ?_
    exact ⟨by simp [z_b, h7], rfl⟩
set_option maxHeartbeats 4000000 in
set_option maxRecDepth 20000 in
theorem c5_within (D : zD) (v lo hi : Int32) : z_CI SM zT yX5_within cX5_within 3 .boolean 0 [.int v, .int lo, .int hi] D (z_eq (z_b (b_in v lo hi)) D) := by
  refine z_startI SM_ok (by decide +kernel) (fun v hv => by simp at hv; rcases hv with rfl | rfl | rfl <;> rfl) (Nat.le_of_ble_eq_true rfl) (fun X F hR => ?_)
  show z_J X SM 0 [some (.int v), some (.int lo), some (.int hi)] [] D
  refine z_iload0 F dX5_within_0 ?_
  refine z_iload1 F dX5_within_1 ?_
  refine z_ic_lt F 14 dX5_within_2 (by decide) (fun h2 => ?_) (fun h2 => ?_)
  · refine z_iconst F 0 dX5_within_14 zv_i_0 ?_
    refine hR _ _ _ _ dX5_within_15 rfl ?_
    exact ⟨by simp only [b_in, ← Int32.not_lt]; simp [z_b, *], rfl⟩
  · refine z_iload0 F dX5_within_5 ?_
    refine z_iload2 F dX5_within_6 ?_
    refine z_ic_gt F 14 dX5_within_7 (by decide) (fun h7 => ?_) (fun h7 => ?_)
    · refine z_iconst F 0 dX5_within_14 zv_i_0 ?_
      refine hR _ _ _ _ dX5_within_15 rfl ?_
      exact ⟨by simp only [b_in, ← Int32.not_lt]; simp [z_b, *], rfl⟩
    · refine z_iconst F 1 dX5_within_10 zv_i_1 ?_
      refine z_goto F 15 dX5_within_11 (by decide) ?_
      refine hR _ _ _ _ dX5_within_15 rfl ?_
      exact ⟨by simp only [b_in, ← Int32.not_lt]; simp [z_b, *], rfl⟩
set_option maxHeartbeats 4000000 in
set_option maxRecDepth 20000 in
theorem c5_has (D : zD) (set : Int32) (c : Nat) : z_CI SM zT yX5_has cX5_has 2 .boolean 0 [.int set, .int (nI c)] D (z_eq (z_b (s_has set c)) D) := by
  refine z_startI SM_ok (by decide +kernel) (fun v hv => by simp at hv; rcases hv with rfl | rfl <;> rfl) (Nat.le_of_ble_eq_true rfl) (fun X F hR => ?_)
  show z_J X SM 0 [some (.int set), some (.int (nI c))] [] D
  refine z_iload0 F dX5_has_0 ?_
  refine z_iload1 F dX5_has_1 ?_
  refine z_ishr F dX5_has_2 ?_
  refine z_iconst F 1 dX5_has_3 zv_i_1 ?_
  refine z_iand F dX5_has_4 ?_
  refine z_iconst F 1 dX5_has_5 zv_i_1 ?_
  refine z_ic_ne F 13 dX5_has_6 (by decide) (fun h6 => ?_) (fun h6 => ?_)
  · refine z_iconst F 0 dX5_has_13 zv_i_0 ?_
    refine hR _ _ _ _ dX5_has_14 rfl ?_
    exact ⟨by simp [z_b, s_has, h6], rfl⟩
  · refine z_iconst F 1 dX5_has_9 zv_i_1 ?_
    refine z_goto F 14 dX5_has_10 (by decide) ?_
    refine hR _ _ _ _ dX5_has_14 rfl ?_
    exact ⟨by simp [z_b, s_has, h6], rfl⟩
set_option maxHeartbeats 4000000 in
set_option maxRecDepth 20000 in
theorem c5_become (D : zD) (j : Nat) (v : Int32) (hj : j < 96) : z_CI SM zT yX5_become cX5_become 4 .int 0 [.ref 0, .int (nI j), .int v] D (z_eq (D.1 1 j) (z_row D 1 (upd (D.1 1) j v))) := by
  refine z_startI SM_ok (by decide +kernel) (fun v hv => by simp at hv; rcases hv with rfl | rfl | rfl <;> rfl) (Nat.le_of_ble_eq_true rfl) (fun X F hR => ?_)
  show z_J X SM 0 [some (.ref 0), some (.int (nI j)), some (.int v), none] [] D
  refine z_aload0 F dX5_become_0 ?_
  refine z_getR F M_now fX5_9 dX5_become_1 ?_
  refine z_iload1 F dX5_become_4 ?_
  refine z_iald F aM_now (j) rfl (by omega) dX5_become_5 ?_
  refine z_istore3 F dX5_become_6 rfl ?_
  refine z_aload0 F dX5_become_7 ?_
  refine z_getR F M_now fX5_9 dX5_become_8 ?_
  refine z_iload1 F dX5_become_11 ?_
  refine z_iload2 F dX5_become_12 ?_
  refine z_iast F aM_now (j) rfl (by omega) dX5_become_13 ?_
  refine z_iload3 F dX5_become_14 ?_
  refine hR _ _ _ _ dX5_become_15 rfl ?_
  exact ⟨rfl, z_up_row _ _ _ _⟩
set_option maxHeartbeats 4000000 in
set_option maxRecDepth 20000 in
theorem c5_above (D : zD) (k : Int32) : z_CI SM zT yX5_above cX5_above 1 .int 0 [.int k] D (z_eq (s_above k) D) := by
  refine z_startI SM_ok (by decide +kernel) (fun v hv => by simp at hv; subst hv; rfl) (Nat.le_of_ble_eq_true rfl) (fun X F hR => ?_)
  show z_J X SM 0 [some (.int k)] [] D
  refine z_iload0 F dX5_above_0 ?_
  refine z_if_ne F 8 dX5_above_1 (by decide) (fun h1 => ?_) (fun h1 => ?_)
  · refine z_iload0 F dX5_above_8 ?_
    refine z_iconst F 3 dX5_above_9 zv_i_3 ?_
    refine z_ic_ne F 17 dX5_above_10 (by decide) (fun h10 => ?_) (fun h10 => ?_)
    · refine z_iload0 F dX5_above_17 ?_
      refine z_iconst F 4 dX5_above_18 zv_i_4 ?_
      refine z_ic_ne F 26 dX5_above_19 (by decide) (fun h19 => ?_) (fun h19 => ?_)
      · refine z_iload0 F dX5_above_26 ?_
        refine z_bipush F 6 dX5_above_27 zv_b_6 ?_
        refine z_ic_ne F 36 dX5_above_29 (by decide) (fun h29 => ?_) (fun h29 => ?_)
        · refine z_iconst F 0 dX5_above_36 zv_i_0 ?_
          refine hR _ _ _ _ dX5_above_37 rfl ?_
          exact ⟨by simp [s_above, *], rfl⟩
        · refine z_iconst F 5 dX5_above_32 zv_i_5 ?_
          refine z_goto F 37 dX5_above_33 (by decide) ?_
          refine hR _ _ _ _ dX5_above_37 rfl ?_
          exact ⟨by simp [s_above, *], rfl⟩
      · refine z_iconst F 2 dX5_above_22 zv_i_2 ?_
        refine z_goto F 37 dX5_above_23 (by decide) ?_
        refine hR _ _ _ _ dX5_above_37 rfl ?_
        exact ⟨by simp [s_above, *], rfl⟩
    · refine z_iconst F 1 dX5_above_13 zv_i_1 ?_
      refine z_goto F 37 dX5_above_14 (by decide) ?_
      refine hR _ _ _ _ dX5_above_37 rfl ?_
      exact ⟨by simp [s_above, *], rfl⟩
  · refine z_iconst F (-1) dX5_above_4 zv_i_m1 ?_
    refine z_goto F 37 dX5_above_5 (by decide) ?_
    refine hR _ _ _ _ dX5_above_37 rfl ?_
    exact ⟨by simp [s_above, *], rfl⟩
set_option maxHeartbeats 4000000 in
set_option maxRecDepth 20000 in
theorem c5_isUnder (D : zD) (k q : Int32) : z_CI SM zT yX5_isUnder cX5_isUnder 3 .boolean 1 [.int k, .int q] D (z_eq (z_b (s_under k q)) D) := by
  refine z_startI SM_ok (by decide +kernel) (fun v hv => by simp at hv; rcases hv with rfl | rfl <;> rfl) (Nat.le_of_ble_eq_true rfl) (fun X F hR => ?_)
  show z_J X SM 0 [some (.int k), some (.int q), none] [] D
  have loop : ∀ (n : Nat) (x : Int32), s_rk x ≤ n → s_und n x q = s_und 3 k q → z_J X SM 2 [some (.int k), some (.int q), some (.int x)] [] D := by
    intro n
    induction n with
    | zero =>
      intro x hx he
      have hneg : x < 0 := by
        by_cases h : x < 0
        · exact h
        · have := s_rk_above h
          omega
      refine z_iload2 F dX5_isUnder_2 ?_
      refine z_if_lt F 19 dX5_isUnder_3 (by decide) (fun h3 => ?_) (fun h3 => ?_)
      · refine z_iload2 F dX5_isUnder_19 ?_
        refine z_if_lt F 27 dX5_isUnder_20 (by decide) (fun h20 => ?_) (fun h20 => ?_)
        · refine z_iconst F 0 dX5_isUnder_27 zv_i_0 ?_
          refine hR _ _ _ _ dX5_isUnder_28 rfl ?_
          exact ⟨by rw [s_under, ← he]; simp [z_b, s_und, hneg], rfl⟩
        · exact absurd hneg h20
      · exact absurd hneg h3
    | succ n ih =>
      intro x hx he
      refine z_iload2 F dX5_isUnder_2 ?_
      refine z_if_lt F 19 dX5_isUnder_3 (by decide) (fun h3 => ?_) (fun h3 => ?_)
      · refine z_iload2 F dX5_isUnder_19 ?_
        refine z_if_lt F 27 dX5_isUnder_20 (by decide) (fun h20 => ?_) (fun h20 => ?_)
        · refine z_iconst F 0 dX5_isUnder_27 zv_i_0 ?_
          refine hR _ _ _ _ dX5_isUnder_28 rfl ?_
          first | exact absurd h20 h3 | exact absurd h3 h20 | (refine ⟨?_, rfl⟩; rw [s_under, ← he, s_und, if_pos h3]; simp [z_b, h3]) | (refine ⟨?_, rfl⟩; rw [s_under, ← he, s_und, if_neg h3, if_pos h8]; simp [z_b, h3])
        · refine z_iconst F 1 dX5_isUnder_23 zv_i_1 ?_
          refine z_goto F 28 dX5_isUnder_24 (by decide) ?_
          refine hR _ _ _ _ dX5_isUnder_28 rfl ?_
          first | exact absurd h20 h3 | exact absurd h3 h20 | (refine ⟨?_, rfl⟩; rw [s_under, ← he, s_und, if_pos h3]; simp [z_b, h3]) | (refine ⟨?_, rfl⟩; rw [s_under, ← he, s_und, if_neg h3, if_pos h8]; simp [z_b, h3])
      · refine z_iload2 F dX5_isUnder_6 ?_
        refine z_iload1 F dX5_isUnder_7 ?_
        refine z_ic_eq F 19 dX5_isUnder_8 (by decide) (fun h8 => ?_) (fun h8 => ?_)
        · refine z_iload2 F dX5_isUnder_19 ?_
          refine z_if_lt F 27 dX5_isUnder_20 (by decide) (fun h20 => ?_) (fun h20 => ?_)
          · refine z_iconst F 0 dX5_isUnder_27 zv_i_0 ?_
            refine hR _ _ _ _ dX5_isUnder_28 rfl ?_
            first | exact absurd h20 h3 | exact absurd h3 h20 | (refine ⟨?_, rfl⟩; rw [s_under, ← he, s_und, if_pos h3]; simp [z_b, h3]) | (refine ⟨?_, rfl⟩; rw [s_under, ← he, s_und, if_neg h3, if_pos h8]; simp [z_b, h3])
          · refine z_iconst F 1 dX5_isUnder_23 zv_i_1 ?_
            refine z_goto F 28 dX5_isUnder_24 (by decide) ?_
            refine hR _ _ _ _ dX5_isUnder_28 rfl ?_
            first | exact absurd h20 h3 | exact absurd h3 h20 | (refine ⟨?_, rfl⟩; rw [s_under, ← he, s_und, if_pos h3]; simp [z_b, h3]) | (refine ⟨?_, rfl⟩; rw [s_under, ← he, s_und, if_neg h3, if_pos h8]; simp [z_b, h3])
        · refine z_iload2 F dX5_isUnder_11 ?_
          refine z_callSI1 F (c5_above _ _) kX5_102 (by decide) (Nat.le_of_ble_eq_true rfl) rfl dX5_isUnder_12 ?_
          refine z_istore2 F dX5_isUnder_15 rfl ?_
          refine z_goto F 2 dX5_isUnder_16 (by decide) ?_
          refine ih (s_above x) (by have := s_rk_above h3; omega) ?_
          rw [← he]
          simp only [s_und, if_neg h3, if_neg h8]
  refine z_iload0 F dX5_isUnder_0 ?_
  refine z_istore2 F dX5_isUnder_1 rfl ?_
  exact loop 3 k (s_rk_le k) rfl
theorem c5_isUnder1 (D : zD) (k : Int32) : z_CI SM zT yX5_isUnder cX5_isUnder 3 .boolean 1 [.int k, .int 1] D (z_eq (z_b (decide (k = 1 ∨ k = 3))) D) := by
  rw [← s_under_1]; exact c5_isUnder D k 1
theorem c5_isUnder5 (D : zD) (k : Int32) : z_CI SM zT yX5_isUnder cX5_isUnder 3 .boolean 1 [.int k, .int 5] D (z_eq (z_b (decide (k = 5 ∨ k = 6))) D) := by
  rw [← s_under_5]; exact c5_isUnder D k 5
theorem c5_isUnder2 (D : zD) (k : Int32) : z_CI SM zT yX5_isUnder cX5_isUnder 3 .boolean 1 [.int k, .int 2] D (z_eq (z_b (decide (k = 2 ∨ k = 4))) D) := by
  rw [← s_under_2]; exact c5_isUnder D k 2
set_option maxHeartbeats 4000000 in
set_option maxRecDepth 20000 in
theorem c5_thick (D : zD) (c : Nat) (hc : c < 10) : z_CI SM zT yX5_thick cX5_thick 4 .int 2 [.ref 0, .int (nI c)] D (z_eq (s_thick (D.1 1) c) D) := by
  refine z_startI SM_ok (by decide +kernel) (fun v hv => by simp at hv; rcases hv with rfl | rfl <;> rfl) (Nat.le_of_ble_eq_true rfl) (fun X F hR => ?_)
  show z_J X SM 0 [some (.ref 0), some (.int (nI c)), none, none] [] D
  refine z_aload0 F dX5_thick_0 ?_
  refine z_iload1 F dX5_thick_1 ?_
  refine z_iconst F 0 dX5_thick_2 zv_i_0 ?_
  refine z_callVI2 F (c5_coinIs _ (c) 0 (by omega) (by decide)) kX5_105 (by decide) ocM (Nat.le_of_ble_eq_true rfl) rfl dX5_thick_3 ?_
  refine z_istore2 F dX5_thick_6 rfl ?_
  refine z_aload0 F dX5_thick_7 ?_
  refine z_iload1 F dX5_thick_8 ?_
  refine z_iconst F 1 dX5_thick_9 zv_i_1 ?_
  refine z_callVI2 F (c5_coinIs _ (c) 1 (by omega) (by decide)) kX5_105 (by decide) ocM (Nat.le_of_ble_eq_true rfl) rfl dX5_thick_10 ?_
  refine z_istore3 F dX5_thick_13 rfl ?_
  refine z_iload2 F dX5_thick_14 ?_
  refine z_iconst F 1 dX5_thick_15 zv_i_1 ?_
  refine z_callSI2 F (c5_isUnder1 _ _) kX5_108 (by decide) (Nat.le_of_ble_eq_true rfl) rfl dX5_thick_16 ?_
  refine z_ifb_eq F 37 dX5_thick_19 (by decide) (fun h19 => ?_) (fun h19 => ?_)
  · refine z_iload2 F dX5_thick_37 ?_
    refine z_iconst F 5 dX5_thick_38 zv_i_5 ?_
    refine z_callSI2 F (c5_isUnder5 _ _) kX5_108 (by decide) (Nat.le_of_ble_eq_true rfl) rfl dX5_thick_39 ?_
    refine z_ifb_eq F 55 dX5_thick_42 (by decide) (fun h42 => ?_) (fun h42 => ?_)
    · refine z_iload3 F dX5_thick_55 ?_
      refine hR _ _ _ _ dX5_thick_56 rfl ?_
      refine ⟨?_, rfl⟩
      simp only [decide_eq_true_eq, decide_eq_false_iff_not, not_or] at h19 h42
      try simp only [Nat.add_zero] at *
      first | (rcases h42 with h | h <;> simp [s_thick, h, i_max, s_half]; done) | simp [s_thick, h19, h42]
    · refine z_iconst F 1 dX5_thick_45 zv_i_1 ?_
      refine z_iload3 F dX5_thick_46 ?_
      refine z_iconst F 2 dX5_thick_47 zv_i_2 ?_
      refine z_idiv F dX5_thick_48 (by decide) ?_
      refine z_max F zw_757 (by decide) rfl (Nat.le_of_ble_eq_true rfl) dX5_thick_49 ?_
      refine z_goto F 56 dX5_thick_52 (by decide) ?_
      refine hR _ _ _ _ dX5_thick_56 rfl ?_
      refine ⟨?_, rfl⟩
      simp only [decide_eq_true_eq, decide_eq_false_iff_not, not_or] at h19 h42
      try simp only [Nat.add_zero] at *
      first | (rcases h42 with h | h <;> simp [s_thick, h, i_max, s_half]; done) | simp [s_thick, h19, h42]
  · refine z_iconst F 2 dX5_thick_22 zv_i_2 ?_
    refine z_iload3 F dX5_thick_23 ?_
    refine z_imul F dX5_thick_24 ?_
    refine z_iload2 F dX5_thick_25 ?_
    refine z_iconst F 3 dX5_thick_26 zv_i_3 ?_
    refine z_ic_ne F 34 dX5_thick_27 (by decide) (fun h27 => ?_) (fun h27 => ?_)
    · refine z_iconst F 0 dX5_thick_34 zv_i_0 ?_
      refine z_iadd F dX5_thick_35 ?_
      refine hR _ _ _ _ dX5_thick_36 rfl ?_
      refine ⟨?_, rfl⟩
      simp only [decide_eq_true_eq] at h19
      try simp only [Nat.add_zero] at *
      rcases h19 with h | h <;> simp_all [s_thick]
    · refine z_iconst F 3 dX5_thick_30 zv_i_3 ?_
      refine z_goto F 35 dX5_thick_31 (by decide) ?_
      refine z_iadd F dX5_thick_35 ?_
      refine hR _ _ _ _ dX5_thick_36 rfl ?_
      refine ⟨?_, rfl⟩
      simp only [decide_eq_true_eq] at h19
      try simp only [Nat.add_zero] at *
      rcases h19 with h | h <;> simp_all [s_thick]
set_option maxHeartbeats 4000000 in
set_option maxRecDepth 20000 in
theorem c5_goes (D : zD) (c : Nat) (hc : c < 10) : z_CI SM zT yX5_goes cX5_goes 3 .int 2 [.ref 0, .int (nI c)] D (z_eq (s_goes (D.1 1) c) D) := by
  refine z_startI SM_ok (by decide +kernel) (fun v hv => by simp at hv; rcases hv with rfl | rfl <;> rfl) (Nat.le_of_ble_eq_true rfl) (fun X F hR => ?_)
  show z_J X SM 0 [some (.ref 0), some (.int (nI c)), none] [] D
  refine z_aload0 F dX5_goes_0 ?_
  refine z_iload1 F dX5_goes_1 ?_
  refine z_iconst F 0 dX5_goes_2 zv_i_0 ?_
  refine z_callVI2 F (c5_coinIs _ (c) 0 (by omega) (by decide)) kX5_105 (by decide) ocM (Nat.le_of_ble_eq_true rfl) rfl dX5_goes_3 ?_
  refine z_istore2 F dX5_goes_6 rfl ?_
  refine z_iload2 F dX5_goes_7 ?_
  refine z_iconst F 2 dX5_goes_8 zv_i_2 ?_
  refine z_callSI2 F (c5_isUnder2 _ _) kX5_108 (by decide) (Nat.le_of_ble_eq_true rfl) rfl dX5_goes_9 ?_
  refine z_ifb_eq F 19 dX5_goes_12 (by decide) (fun h12 => ?_) (fun h12 => ?_)
  · refine z_iload2 F dX5_goes_19 ?_
    refine z_bipush F 6 dX5_goes_20 zv_b_6 ?_
    refine z_ic_ne F 29 dX5_goes_22 (by decide) (fun h22 => ?_) (fun h22 => ?_)
    · refine z_iconst F 1 dX5_goes_29 zv_i_1 ?_
      refine hR _ _ _ _ dX5_goes_30 rfl ?_
      refine ⟨?_, rfl⟩
      simp only [decide_eq_true_eq, decide_eq_false_iff_not, not_or] at h12
      try simp only [Nat.add_zero] at *
      first | (rcases h12 with h | h <;> simp [s_goes, h]; done) | simp [s_goes, h12, h22]
    · refine z_iconst F 0 dX5_goes_25 zv_i_0 ?_
      refine z_goto F 30 dX5_goes_26 (by decide) ?_
      refine hR _ _ _ _ dX5_goes_30 rfl ?_
      refine ⟨?_, rfl⟩
      simp only [decide_eq_true_eq, decide_eq_false_iff_not, not_or] at h12
      try simp only [Nat.add_zero] at *
      first | (rcases h12 with h | h <;> simp [s_goes, h]; done) | simp [s_goes, h12, h22]
  · refine z_iconst F 2 dX5_goes_15 zv_i_2 ?_
    refine z_goto F 30 dX5_goes_16 (by decide) ?_
    refine hR _ _ _ _ dX5_goes_30 rfl ?_
    refine ⟨?_, rfl⟩
    simp only [decide_eq_true_eq, decide_eq_false_iff_not, not_or] at h12
    try simp only [Nat.add_zero] at *
    first | (rcases h12 with h | h <;> simp [s_goes, h]; done) | simp [s_goes, h12, h22]
set_option maxHeartbeats 4000000 in
set_option maxRecDepth 20000 in
theorem c5_wears (D : zD) (c : Nat) (hc : c < 10) : z_CI SM zT yX5_wears cX5_wears 3 .int 3 [.ref 0, .int (nI c)] D (z_eq (s_wears (D.1 1) c) D) := by
  refine z_startI SM_ok (by decide +kernel) (fun v hv => by simp at hv; rcases hv with rfl | rfl <;> rfl) (Nat.le_of_ble_eq_true rfl) (fun X F hR => ?_)
  show z_J X SM 0 [some (.ref 0), some (.int (nI c)), none] [] D
  refine z_aload0 F dX5_wears_0 ?_
  refine z_iload1 F dX5_wears_1 ?_
  refine z_iconst F 0 dX5_wears_2 zv_i_0 ?_
  refine z_callVI2 F (c5_coinIs _ (c) 0 (by omega) (by decide)) kX5_105 (by decide) ocM (Nat.le_of_ble_eq_true rfl) rfl dX5_wears_3 ?_
  refine z_istore2 F dX5_wears_6 rfl ?_
  refine z_iload2 F dX5_wears_7 ?_
  refine z_iconst F 1 dX5_wears_8 zv_i_1 ?_
  refine z_callSI2 F (c5_isUnder1 _ _) kX5_108 (by decide) (Nat.le_of_ble_eq_true rfl) rfl dX5_wears_9 ?_
  refine z_ifb_eq F 17 dX5_wears_12 (by decide) (fun h12 => ?_) (fun h12 => ?_)
  · refine z_iconst F 2 dX5_wears_17 zv_i_2 ?_
    refine z_aload0 F dX5_wears_18 ?_
    refine z_iload1 F dX5_wears_19 ?_
    refine z_callVI1 F (c5_thick _ (c) (by omega)) kX5_117 (by decide) ocM (Nat.le_of_ble_eq_true rfl) rfl dX5_wears_20 ?_
    refine z_imul F dX5_wears_23 ?_
    refine z_aload0 F dX5_wears_24 ?_
    refine z_getR F M_now fX5_9 dX5_wears_25 ?_
    refine z_iconst F 1 dX5_wears_28 zv_i_1 ?_
    refine z_iald F aM_now (1) rfl (by omega) dX5_wears_29 ?_
    refine z_ic_lt F 37 dX5_wears_30 (by decide) (fun h30 => ?_) (fun h30 => ?_)
    · refine z_iconst F 0 dX5_wears_37 zv_i_0 ?_
      refine z_iload2 F dX5_wears_38 ?_
      refine z_iconst F 4 dX5_wears_39 zv_i_4 ?_
      refine z_ic_ne F 47 dX5_wears_40 (by decide) (fun h40 => ?_) (fun h40 => ?_)
      · refine z_iload2 F dX5_wears_47 ?_
        refine z_iconst F 2 dX5_wears_48 zv_i_2 ?_
        refine z_ic_ne F 56 dX5_wears_49 (by decide) (fun h49 => ?_) (fun h49 => ?_)
        · refine z_iconst F 0 dX5_wears_56 zv_i_0 ?_
          refine z_iadd F dX5_wears_57 ?_
          refine hR _ _ _ _ dX5_wears_58 rfl ?_
          refine ⟨?_, rfl⟩
          simp only [decide_eq_true_eq, decide_eq_false_iff_not, not_or] at h12
          try simp only [Nat.add_zero] at *
          simp only [s_wears, s_plain, ← Int32.not_lt]
          first | (simp [h12, h30, h40]; done) | simp [h12, h30, h40, h49]
        · refine z_iconst F 1 dX5_wears_52 zv_i_1 ?_
          refine z_goto F 57 dX5_wears_53 (by decide) ?_
          refine z_iadd F dX5_wears_57 ?_
          refine hR _ _ _ _ dX5_wears_58 rfl ?_
          refine ⟨?_, rfl⟩
          simp only [decide_eq_true_eq, decide_eq_false_iff_not, not_or] at h12
          try simp only [Nat.add_zero] at *
          simp only [s_wears, s_plain, ← Int32.not_lt]
          first | (simp [h12, h30, h40]; done) | simp [h12, h30, h40, h49]
      · refine z_iconst F 2 dX5_wears_43 zv_i_2 ?_
        refine z_goto F 57 dX5_wears_44 (by decide) ?_
        refine z_iadd F dX5_wears_57 ?_
        refine hR _ _ _ _ dX5_wears_58 rfl ?_
        refine ⟨?_, rfl⟩
        simp only [decide_eq_true_eq, decide_eq_false_iff_not, not_or] at h12
        try simp only [Nat.add_zero] at *
        simp only [s_wears, s_plain, ← Int32.not_lt]
        first | (simp [h12, h30, h40]; done) | simp [h12, h30, h40, h49]
    · refine z_iconst F 1 dX5_wears_33 zv_i_1 ?_
      refine z_goto F 38 dX5_wears_34 (by decide) ?_
      refine z_iload2 F dX5_wears_38 ?_
      refine z_iconst F 4 dX5_wears_39 zv_i_4 ?_
      refine z_ic_ne F 47 dX5_wears_40 (by decide) (fun h40 => ?_) (fun h40 => ?_)
      · refine z_iload2 F dX5_wears_47 ?_
        refine z_iconst F 2 dX5_wears_48 zv_i_2 ?_
        refine z_ic_ne F 56 dX5_wears_49 (by decide) (fun h49 => ?_) (fun h49 => ?_)
        · refine z_iconst F 0 dX5_wears_56 zv_i_0 ?_
          refine z_iadd F dX5_wears_57 ?_
          refine hR _ _ _ _ dX5_wears_58 rfl ?_
          refine ⟨?_, rfl⟩
          simp only [decide_eq_true_eq, decide_eq_false_iff_not, not_or] at h12
          try simp only [Nat.add_zero] at *
          simp only [s_wears, s_plain, ← Int32.not_lt]
          first | (simp [h12, h30, h40]; done) | simp [h12, h30, h40, h49]
        · refine z_iconst F 1 dX5_wears_52 zv_i_1 ?_
          refine z_goto F 57 dX5_wears_53 (by decide) ?_
          refine z_iadd F dX5_wears_57 ?_
          refine hR _ _ _ _ dX5_wears_58 rfl ?_
          refine ⟨?_, rfl⟩
          simp only [decide_eq_true_eq, decide_eq_false_iff_not, not_or] at h12
          try simp only [Nat.add_zero] at *
          simp only [s_wears, s_plain, ← Int32.not_lt]
          first | (simp [h12, h30, h40]; done) | simp [h12, h30, h40, h49]
      · refine z_iconst F 2 dX5_wears_43 zv_i_2 ?_
        refine z_goto F 57 dX5_wears_44 (by decide) ?_
        refine z_iadd F dX5_wears_57 ?_
        refine hR _ _ _ _ dX5_wears_58 rfl ?_
        refine ⟨?_, rfl⟩
        simp only [decide_eq_true_eq, decide_eq_false_iff_not, not_or] at h12
        try simp only [Nat.add_zero] at *
        simp only [s_wears, s_plain, ← Int32.not_lt]
        first | (simp [h12, h30, h40]; done) | simp [h12, h30, h40, h49]
  · refine z_iconst F 0 dX5_wears_15 zv_i_0 ?_
    refine hR _ _ _ _ dX5_wears_16 rfl ?_
    refine ⟨?_, rfl⟩
    simp only [decide_eq_true_eq] at h12
    try simp only [Nat.add_zero] at *
    rcases h12 with h | h <;> simp [s_wears, h]
set_option maxHeartbeats 4000000 in
set_option maxRecDepth 20000 in
theorem c5_goesTo (D : zD) (c : Nat) (pl : Int32) (hc : c < 10) : z_CI SM zT yX5_goesTo cX5_goesTo 3 .int 1 [.ref 0, .int (nI c), .int pl] D (z_eq (D.1 1 (16 + 8 * c + 4)) (z_row D 1 (s_goTo (D.1 1) c pl))) := by
  refine z_startI SM_ok (by decide +kernel) (fun v hv => by simp at hv; rcases hv with rfl | rfl | rfl <;> rfl) (Nat.le_of_ble_eq_true rfl) (fun X F hR => ?_)
  show z_J X SM 0 [some (.ref 0), some (.int (nI c)), some (.int pl)] [] D
  refine z_aload0 F dX5_goesTo_0 ?_
  refine z_getR F M_now fX5_9 dX5_goesTo_1 ?_
  refine z_iload1 F dX5_goesTo_4 ?_
  refine z_iconst F 5 dX5_goesTo_5 zv_i_5 ?_
  refine z_callSI2 F (c5_at _ (c) 5) kX5_82 (by decide) (Nat.le_of_ble_eq_true rfl) rfl dX5_goesTo_6 ?_
  refine z_iconst F 0 dX5_goesTo_9 zv_i_0 ?_
  refine z_iast F aM_now (16 + 8 * c + 5) rfl (by omega) dX5_goesTo_10 ?_
  refine z_aload0 F dX5_goesTo_11 ?_
  refine z_getR F M_now fX5_9 dX5_goesTo_12 ?_
  refine z_iload1 F dX5_goesTo_15 ?_
  refine z_bipush F 6 dX5_goesTo_16 zv_b_6 ?_
  refine z_callSI2 F (c5_at _ (c) 6) kX5_82 (by decide) (Nat.le_of_ble_eq_true rfl) rfl dX5_goesTo_18 ?_
  refine z_iconst F 0 dX5_goesTo_21 zv_i_0 ?_
  refine z_iast F aM_now (16 + 8 * c + 6) rfl (by omega) dX5_goesTo_22 ?_
  refine z_aload0 F dX5_goesTo_23 ?_
  refine z_getR F M_now fX5_9 dX5_goesTo_24 ?_
  refine z_iload1 F dX5_goesTo_27 ?_
  refine z_bipush F 7 dX5_goesTo_28 zv_b_7 ?_
  refine z_callSI2 F (c5_at _ (c) 7) kX5_82 (by decide) (Nat.le_of_ble_eq_true rfl) rfl dX5_goesTo_30 ?_
  refine z_iconst F (-1) dX5_goesTo_33 zv_i_m1 ?_
  refine z_iast F aM_now (16 + 8 * c + 7) rfl (by omega) dX5_goesTo_34 ?_
  refine z_aload0 F dX5_goesTo_35 ?_
  refine z_iload1 F dX5_goesTo_36 ?_
  refine z_iconst F 4 dX5_goesTo_37 zv_i_4 ?_
  refine z_callSI2 F (c5_at _ (c) 4) kX5_82 (by decide) (Nat.le_of_ble_eq_true rfl) rfl dX5_goesTo_38 ?_
  refine z_iload2 F dX5_goesTo_41 ?_
  refine z_callVI2 F (c5_become _ (16 + 8 * c + 4) _ (by omega)) kX5_129 (by decide) ocM (Nat.le_of_ble_eq_true rfl) rfl dX5_goesTo_42 ?_
  refine hR _ _ _ _ dX5_goesTo_45 rfl ?_
  refine ⟨?_, ?_⟩
  · simp only [z_upr, u_ne _ _ (show 16 + 8 * c + 4 ≠ 16 + 8 * c + 5 by omega), u_ne _ _ (show 16 + 8 * c + 4 ≠ 16 + 8 * c + 6 by omega), u_ne _ _ (show 16 + 8 * c + 4 ≠ 16 + 8 * c + 7 by omega)]
  · simp only [s_goTo, z_up_row, z_row_row, z_rowr]
set_option maxHeartbeats 4000000 in
set_option maxRecDepth 20000 in
theorem c5_wider (D : zD) (v : Int32) : z_CV SM zT yX5_wider cX5_wider 2 1 [.ref 0, .int v] D (z_eqV (z_row D 1 (upd (D.1 1) 1 (i_min (D.1 1 1 + v) 99)))) := by
  refine z_startV SM_ok (by decide +kernel) (fun v hv => by simp at hv; rcases hv with rfl | rfl <;> rfl) (Nat.le_of_ble_eq_true rfl) (fun X F hR => ?_)
  show z_J X SM 0 [some (.ref 0), some (.int v)] [] D
  refine z_aload0 F dX5_wider_0 ?_
  refine z_getR F M_now fX5_9 dX5_wider_1 ?_
  refine z_iconst F 1 dX5_wider_4 zv_i_1 ?_
  refine z_bipush F 99 dX5_wider_5 zv_b_99 ?_
  refine z_aload0 F dX5_wider_7 ?_
  refine z_getR F M_now fX5_9 dX5_wider_8 ?_
  refine z_iconst F 1 dX5_wider_11 zv_i_1 ?_
  refine z_iald F aM_now (1) rfl (by omega) dX5_wider_12 ?_
  refine z_iload1 F dX5_wider_13 ?_
  refine z_iadd F dX5_wider_14 ?_
  refine z_min F zw_820 (by decide) rfl (Nat.le_of_ble_eq_true rfl) dX5_wider_15 ?_
  refine z_iast F aM_now (1) rfl (by omega) dX5_wider_18 ?_
  refine hR _ _ _ dX5_wider_19 ?_
  exact z_up_row _ _ _ _
