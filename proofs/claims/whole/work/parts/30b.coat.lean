set_option maxHeartbeats 1000000 in
set_option maxRecDepth 20000 in
theorem c0_has (D : zD) {r : Nat} (hr : z_R3 r) {N : Nat} (hN : D.1 r 4 = nI N) (h10 : N ≤ 10) (x : Int32) : z_CI SX zT yX0_has cX0_has 2 .boolean 0 [.ref r, .int x] D (z_eq (z_b (b_coin x N)) D) := by
  refine z_startI SX_ok (by decide +kernel) (fun v hv => by simp at hv; rcases hv with rfl | rfl <;> rfl) (Nat.le_of_ble_eq_true rfl) (fun X F hR => ?_)
  show z_J X SX 0 [some (.ref r), some (.int x)] [] D
  refine z_iload1 F dX0_has_0 ?_
  refine z_if_lt F 16 dX0_has_1 (by decide) (fun h1 => ?_) (fun h1 => ?_)
  · refine z_iconst F 0 dX0_has_16 zv_i_0 ?_
    refine hR _ _ _ _ dX0_has_17 rfl ?_
    exact ⟨by rw [b_coin, decide_eq_false (Int32.not_le.mpr h1)]; rfl, rfl⟩
  · refine z_iload1 F dX0_has_4 ?_
    refine z_aload0 F dX0_has_5 ?_
    refine z_getI F (C_coins hr) fX0_27 dX0_has_6 ?_
    rw [hN]
    refine z_ic_ge F 16 dX0_has_9 (by decide) (fun h9 => ?_) (fun h9 => ?_)
    · refine z_iconst F 0 dX0_has_16 zv_i_0 ?_
      refine hR _ _ _ _ dX0_has_17 rfl ?_
      exact ⟨by rw [b_coin, decide_eq_false (Int32.not_lt.mpr h9), Bool.and_false]; rfl, rfl⟩
    · refine z_iconst F 1 dX0_has_12 zv_i_1 ?_
      refine z_goto F 17 dX0_has_13 (by decide) ?_
      refine hR _ _ _ _ dX0_has_17 rfl ?_
      exact ⟨by rw [b_coin, decide_eq_true (Int32.not_lt.mp h1), decide_eq_true (Int32.not_le.mp h9)]; rfl, rfl⟩
set_option maxHeartbeats 1000000 in
set_option maxRecDepth 20000 in
theorem c0_sets (D : zD) {r : Nat} (hr : z_R3 r) {N : Nat} (hN : D.1 r 4 = nI N) (h10 : N ≤ 10) : z_CI SX zT yX0_sets cX0_sets 1 .int 0 [.ref r] D (z_eq (nI (2 ^ N)) D) := by
  refine z_startI SX_ok (by decide +kernel) (fun v hv => by simp at hv; subst hv; rfl) (Nat.le_of_ble_eq_true rfl) (fun X F hR => ?_)
  show z_J X SX 0 [some (.ref r)] [] D
  refine z_iconst F 1 dX0_sets_0 zv_i_1 ?_
  refine z_aload0 F dX0_sets_1 ?_
  refine z_getI F (C_coins hr) fX0_27 dX0_sets_2 ?_
  refine z_ishl F dX0_sets_5 ?_
  refine hR _ _ _ _ dX0_sets_6 rfl ?_
  exact ⟨by rw [hN, i_p2 h10], rfl⟩
set_option maxHeartbeats 1000000 in
set_option maxRecDepth 20000 in
theorem c0_isSet (D : zD) {r : Nat} (hr : z_R3 r) {N : Nat} (hN : D.1 r 4 = nI N) (h10 : N ≤ 10) (x : Int32) : z_CI SX zT yX0_isSet cX0_isSet 2 .boolean 1 [.ref r, .int x] D (z_eq (z_b (b_set x N)) D) := by
  refine z_startI SX_ok (by decide +kernel) (fun v hv => by simp at hv; rcases hv with rfl | rfl <;> rfl) (Nat.le_of_ble_eq_true rfl) (fun X F hR => ?_)
  show z_J X SX 0 [some (.ref r), some (.int x)] [] D
  refine z_iload1 F dX0_isSet_0 ?_
  refine z_if_lt F 16 dX0_isSet_1 (by decide) (fun h1 => ?_) (fun h1 => ?_)
  · refine z_iconst F 0 dX0_isSet_16 zv_i_0 ?_
    refine hR _ _ _ _ dX0_isSet_17 rfl ?_
    exact ⟨by rw [b_set_lt x h10, decide_eq_false (Int32.not_le.mpr h1)]; rfl, rfl⟩
  · refine z_iload1 F dX0_isSet_4 ?_
    refine z_aload0 F dX0_isSet_5 ?_
    refine z_callVI0 F (c0_sets D hr hN h10) kX0_55 (by decide) (ocC hr) (Nat.le_of_ble_eq_true rfl) rfl dX0_isSet_6 ?_
    refine z_ic_ge F 16 dX0_isSet_9 (by decide) (fun h9 => ?_) (fun h9 => ?_)
    · refine z_iconst F 0 dX0_isSet_16 zv_i_0 ?_
      refine hR _ _ _ _ dX0_isSet_17 rfl ?_
      exact ⟨by rw [b_set_lt x h10, decide_eq_false (Int32.not_lt.mpr h9), Bool.and_false]; rfl, rfl⟩
    · refine z_iconst F 1 dX0_isSet_12 zv_i_1 ?_
      refine z_goto F 17 dX0_isSet_13 (by decide) ?_
      refine hR _ _ _ _ dX0_isSet_17 rfl ?_
      exact ⟨by rw [b_set_lt x h10, decide_eq_true (Int32.not_lt.mp h1), decide_eq_true (Int32.not_le.mp h9)]; rfl, rfl⟩
set_option maxHeartbeats 1000000 in
set_option maxRecDepth 20000 in
theorem c0_in (D : zD) {r : Nat} (hr : z_R3 r) {N : Nat} (hN : D.1 r 4 = nI N) (h10 : N ≤ 10) (pl : Int32) : z_CI SX zT yX0_in cX0_in 4 .int 0 [.ref r, .int pl] D (z_eq (s_lie (D.1 r) pl N) D) := by
  refine z_startI SX_ok (by decide +kernel) (fun v hv => by simp at hv; rcases hv with rfl | rfl <;> rfl) (Nat.le_of_ble_eq_true rfl) (fun X F hR => ?_)
  show z_J X SX 0 [some (.ref r), some (.int pl), none, none] [] D
  refine z_iconst F 0 dX0_in_0 zv_i_0 ?_
  refine z_istore2 F dX0_in_1 rfl ?_
  refine z_iconst F 0 dX0_in_2 zv_i_0 ?_
  refine z_istore3 F dX0_in_3 rfl ?_
  have loop : ∀ (n c : Nat), c + n = N → z_J X SX 4 [some (.ref r), some (.int pl), some (.int (s_lie (D.1 r) pl c)), some (.int (nI c))] [] D := by
    intro n
    induction n with
    | zero =>
      intro c hn 
      refine z_iload3 F dX0_in_4 ?_
      refine z_aload0 F dX0_in_5 ?_
      refine z_getI F (C_coins hr) fX0_27 dX0_in_6 ?_
      refine z_ic_ge F 37 dX0_in_9 (by decide) (fun h9 => ?_) (fun h9 => ?_)
      · refine z_iload2 F dX0_in_37 ?_
        refine hR _ _ _ _ dX0_in_38 rfl ?_
        exact ⟨by rw [show c = N by omega], rfl⟩
      · exact absurd (by rw [hN]; exact nI_le (by omega) (by omega)) h9
    | succ n ih =>
      intro c hn 
      refine z_iload3 F dX0_in_4 ?_
      refine z_aload0 F dX0_in_5 ?_
      refine z_getI F (C_coins hr) fX0_27 dX0_in_6 ?_
      refine z_ic_ge F 37 dX0_in_9 (by decide) (fun h9 => ?_) (fun h9 => ?_)
      · exact absurd h9 (by rw [hN]; exact nI_ge (by omega) (by omega))
      · refine z_aload0 F dX0_in_12 ?_
        refine z_getR F (C_row hr) fX0_32 dX0_in_13 ?_
        refine z_iload3 F dX0_in_16 ?_
        refine z_aald F (aRow hr) (Or.inl rfl) (c) rfl (show c < 10 by omega) dX0_in_17 ?_
        refine z_getI F (K_f hr (show c < 10 by omega) 4 (by decide)) fX0_59 dX0_in_18 ?_
        refine z_iload1 F dX0_in_21 ?_
        refine z_ic_ne F 31 dX0_in_22 (by decide) (fun h22 => ?_) (fun h22 => ?_)
        · refine z_iinc3 F 1 dX0_in_31 rfl zv_i_1 ?_
          refine z_goto F 4 dX0_in_34 (by decide) ?_
          have h := ih (c + 1) (by omega)
          rw [show nI (c + 1) = nI c + 1 from nI_succ c, s_lie] at h
          first
            | (rw [if_pos h22] at h; exact h)
            | (rw [if_neg h22] at h; exact h)
        · refine z_iload2 F dX0_in_25 ?_
          refine z_iconst F 1 dX0_in_26 zv_i_1 ?_
          refine z_iload3 F dX0_in_27 ?_
          refine z_ishl F dX0_in_28 ?_
          refine z_ior F dX0_in_29 ?_
          refine z_istore2 F dX0_in_30 rfl ?_
          refine z_iinc3 F 1 dX0_in_31 rfl zv_i_1 ?_
          refine z_goto F 4 dX0_in_34 (by decide) ?_
          have h := ih (c + 1) (by omega)
          rw [show nI (c + 1) = nI c + 1 from nI_succ c, s_lie] at h
          first
            | (rw [if_pos h22] at h; exact h)
            | (rw [if_neg h22] at h; exact h)
  exact loop N 0 (by omega)
set_option maxHeartbeats 1000000 in
set_option maxRecDepth 20000 in
theorem c0_thin (D : zD) {r : Nat} (hr : z_R3 r) {N : Nat} (hN : D.1 r 4 = nI N) (h10 : N ≤ 10) : z_CI SX zT yX0_thinOnes cX0_thinOnes 3 .int 1 [.ref r] D (z_eq (s_thin (D.1 r) N) D) := by
  refine z_startI SX_ok (by decide +kernel) (fun v hv => by simp at hv; subst hv; rfl) (Nat.le_of_ble_eq_true rfl) (fun X F hR => ?_)
  show z_J X SX 0 [some (.ref r), none, none] [] D
  refine z_iconst F 0 dX0_thinOnes_0 zv_i_0 ?_
  refine z_istore1 F dX0_thinOnes_1 rfl ?_
  refine z_iconst F 0 dX0_thinOnes_2 zv_i_0 ?_
  refine z_istore2 F dX0_thinOnes_3 rfl ?_
  have loop : ∀ (n c : Nat), c + n = N → z_J X SX 4 [some (.ref r), some (.int (s_thin (D.1 r) c)), some (.int (nI c))] [] D := by
    intro n
    induction n with
    | zero =>
      intro c hn 
      refine z_iload2 F dX0_thinOnes_4 ?_
      refine z_aload0 F dX0_thinOnes_5 ?_
      refine z_getI F (C_coins hr) fX0_27 dX0_thinOnes_6 ?_
      refine z_ic_ge F 40 dX0_thinOnes_9 (by decide) (fun h9 => ?_) (fun h9 => ?_)
      · refine z_iload1 F dX0_thinOnes_40 ?_
        refine hR _ _ _ _ dX0_thinOnes_41 rfl ?_
        exact ⟨by rw [show c = N by omega], rfl⟩
      · exact absurd (by rw [hN]; exact nI_le (by omega) (by omega)) h9
    | succ n ih =>
      intro c hn 
      refine z_iload2 F dX0_thinOnes_4 ?_
      refine z_aload0 F dX0_thinOnes_5 ?_
      refine z_getI F (C_coins hr) fX0_27 dX0_thinOnes_6 ?_
      refine z_ic_ge F 40 dX0_thinOnes_9 (by decide) (fun h9 => ?_) (fun h9 => ?_)
      · exact absurd h9 (by rw [hN]; exact nI_ge (by omega) (by omega))
      · refine z_aload0 F dX0_thinOnes_12 ?_
        refine z_getR F (C_row hr) fX0_32 dX0_thinOnes_13 ?_
        refine z_iload2 F dX0_thinOnes_16 ?_
        refine z_aald F (aRow hr) (Or.inl rfl) (c) rfl (show c < 10 by omega) dX0_thinOnes_17 ?_
        refine z_callVI0 F (c1_thick _ hr c (show c < 10 by omega)) kX0_62 (by decide) (ocK hr (show c < 10 by omega)) (Nat.le_of_ble_eq_true rfl) rfl dX0_thinOnes_18 ?_
        refine z_aload0 F dX0_thinOnes_21 ?_
        refine z_getI F (C_hole hr) fX0_9 dX0_thinOnes_22 ?_
        refine z_ic_gt F 34 dX0_thinOnes_25 (by decide) (fun h25 => ?_) (fun h25 => ?_)
        · refine z_iinc2 F 1 dX0_thinOnes_34 rfl zv_i_1 ?_
          refine z_goto F 4 dX0_thinOnes_37 (by decide) ?_
          have h := ih (c + 1) (by omega)
          rw [show nI (c + 1) = nI c + 1 from nI_succ c, s_thin] at h
          first
            | (rw [if_neg (Int32.not_le.mpr h25)] at h; exact h)
            | (rw [if_pos (Int32.not_lt.mp h25)] at h; exact h)
        · refine z_iload1 F dX0_thinOnes_28 ?_
          refine z_iconst F 1 dX0_thinOnes_29 zv_i_1 ?_
          refine z_iload2 F dX0_thinOnes_30 ?_
          refine z_ishl F dX0_thinOnes_31 ?_
          refine z_ior F dX0_thinOnes_32 ?_
          refine z_istore1 F dX0_thinOnes_33 rfl ?_
          refine z_iinc2 F 1 dX0_thinOnes_34 rfl zv_i_1 ?_
          refine z_goto F 4 dX0_thinOnes_37 (by decide) ?_
          have h := ih (c + 1) (by omega)
          rw [show nI (c + 1) = nI c + 1 from nI_succ c, s_thin] at h
          first
            | (rw [if_neg (Int32.not_le.mpr h25)] at h; exact h)
            | (rw [if_pos (Int32.not_lt.mp h25)] at h; exact h)
  exact loop N 0 (by omega)
set_option maxHeartbeats 1000000 in
set_option maxRecDepth 20000 in
theorem c0_penceOf (D : zD) {r : Nat} (hr : z_R3 r) {N : Nat} (hN : D.1 r 4 = nI N) (h10 : N ≤ 10) (set : Int32) : z_CI SX zT yX0_penceOf cX0_penceOf 4 .int 0 [.ref r, .int set] D (z_eq (s_sum (D.1 r) 3 set N) D) := by
  refine z_startI SX_ok (by decide +kernel) (fun v hv => by simp at hv; rcases hv with rfl | rfl <;> rfl) (Nat.le_of_ble_eq_true rfl) (fun X F hR => ?_)
  show z_J X SX 0 [some (.ref r), some (.int set), none, none] [] D
  refine z_iconst F 0 dX0_penceOf_0 zv_i_0 ?_
  refine z_istore2 F dX0_penceOf_1 rfl ?_
  refine z_iconst F 0 dX0_penceOf_2 zv_i_0 ?_
  refine z_istore3 F dX0_penceOf_3 rfl ?_
  have loop : ∀ (n c : Nat), c + n = N → z_J X SX 4 [some (.ref r), some (.int set), some (.int (s_sum (D.1 r) 3 set c)), some (.int (nI c))] [] D := by
    intro n
    induction n with
    | zero =>
      intro c hn 
      refine z_iload3 F dX0_penceOf_4 ?_
      refine z_aload0 F dX0_penceOf_5 ?_
      refine z_getI F (C_coins hr) fX0_27 dX0_penceOf_6 ?_
      refine z_ic_ge F 39 dX0_penceOf_9 (by decide) (fun h9 => ?_) (fun h9 => ?_)
      · refine z_iload2 F dX0_penceOf_39 ?_
        refine hR _ _ _ _ dX0_penceOf_40 rfl ?_
        exact ⟨by rw [show c = N by omega], rfl⟩
      · exact absurd (by rw [hN]; exact nI_le (by omega) (by omega)) h9
    | succ n ih =>
      intro c hn 
      refine z_iload3 F dX0_penceOf_4 ?_
      refine z_aload0 F dX0_penceOf_5 ?_
      refine z_getI F (C_coins hr) fX0_27 dX0_penceOf_6 ?_
      refine z_ic_ge F 39 dX0_penceOf_9 (by decide) (fun h9 => ?_) (fun h9 => ?_)
      · exact absurd h9 (by rw [hN]; exact nI_ge (by omega) (by omega))
      · refine z_iload1 F dX0_penceOf_12 ?_
        refine z_iload3 F dX0_penceOf_13 ?_
        refine z_ishr F dX0_penceOf_14 ?_
        refine z_iconst F 1 dX0_penceOf_15 zv_i_1 ?_
        refine z_iand F dX0_penceOf_16 ?_
        refine z_iconst F 1 dX0_penceOf_17 zv_i_1 ?_
        refine z_ic_ne F 33 dX0_penceOf_18 (by decide) (fun h18 => ?_) (fun h18 => ?_)
        · refine z_iinc3 F 1 dX0_penceOf_33 rfl zv_i_1 ?_
          refine z_goto F 4 dX0_penceOf_36 (by decide) ?_
          have h := ih (c + 1) (by omega)
          rw [show nI (c + 1) = nI c + 1 from nI_succ c, s_sum] at h
          first
            | (rw [if_pos (show s_has set c = true from decide_eq_true h18)] at h; exact h)
            | (rw [if_neg (show ¬ s_has set c = true from fun e => h18 (of_decide_eq_true e))] at h; exact h)
        · refine z_iload2 F dX0_penceOf_21 ?_
          refine z_aload0 F dX0_penceOf_22 ?_
          refine z_getR F (C_row hr) fX0_32 dX0_penceOf_23 ?_
          refine z_iload3 F dX0_penceOf_26 ?_
          refine z_aald F (aRow hr) (Or.inl rfl) (c) rfl (show c < 10 by omega) dX0_penceOf_27 ?_
          refine z_getI F (K_f hr (show c < 10 by omega) 3 (by decide)) fX0_65 dX0_penceOf_28 ?_
          refine z_iadd F dX0_penceOf_31 ?_
          refine z_istore2 F dX0_penceOf_32 rfl ?_
          refine z_iinc3 F 1 dX0_penceOf_33 rfl zv_i_1 ?_
          refine z_goto F 4 dX0_penceOf_36 (by decide) ?_
          have h := ih (c + 1) (by omega)
          rw [show nI (c + 1) = nI c + 1 from nI_succ c, s_sum] at h
          first
            | (rw [if_pos (show s_has set c = true from decide_eq_true h18)] at h; exact h)
            | (rw [if_neg (show ¬ s_has set c = true from fun e => h18 (of_decide_eq_true e))] at h; exact h)
  exact loop N 0 (by omega)
set_option maxHeartbeats 1000000 in
set_option maxRecDepth 20000 in
theorem c0_weightOf (D : zD) {r : Nat} (hr : z_R3 r) {N : Nat} (hN : D.1 r 4 = nI N) (h10 : N ≤ 10) (set : Int32) : z_CI SX zT yX0_weightOf cX0_weightOf 4 .int 0 [.ref r, .int set] D (z_eq (s_sum (D.1 r) 2 set N) D) := by
  refine z_startI SX_ok (by decide +kernel) (fun v hv => by simp at hv; rcases hv with rfl | rfl <;> rfl) (Nat.le_of_ble_eq_true rfl) (fun X F hR => ?_)
  show z_J X SX 0 [some (.ref r), some (.int set), none, none] [] D
  refine z_iconst F 0 dX0_weightOf_0 zv_i_0 ?_
  refine z_istore2 F dX0_weightOf_1 rfl ?_
  refine z_iconst F 0 dX0_weightOf_2 zv_i_0 ?_
  refine z_istore3 F dX0_weightOf_3 rfl ?_
  have loop : ∀ (n c : Nat), c + n = N → z_J X SX 4 [some (.ref r), some (.int set), some (.int (s_sum (D.1 r) 2 set c)), some (.int (nI c))] [] D := by
    intro n
    induction n with
    | zero =>
      intro c hn 
      refine z_iload3 F dX0_weightOf_4 ?_
      refine z_aload0 F dX0_weightOf_5 ?_
      refine z_getI F (C_coins hr) fX0_27 dX0_weightOf_6 ?_
      refine z_ic_ge F 39 dX0_weightOf_9 (by decide) (fun h9 => ?_) (fun h9 => ?_)
      · refine z_iload2 F dX0_weightOf_39 ?_
        refine hR _ _ _ _ dX0_weightOf_40 rfl ?_
        exact ⟨by rw [show c = N by omega], rfl⟩
      · exact absurd (by rw [hN]; exact nI_le (by omega) (by omega)) h9
    | succ n ih =>
      intro c hn 
      refine z_iload3 F dX0_weightOf_4 ?_
      refine z_aload0 F dX0_weightOf_5 ?_
      refine z_getI F (C_coins hr) fX0_27 dX0_weightOf_6 ?_
      refine z_ic_ge F 39 dX0_weightOf_9 (by decide) (fun h9 => ?_) (fun h9 => ?_)
      · exact absurd h9 (by rw [hN]; exact nI_ge (by omega) (by omega))
      · refine z_iload1 F dX0_weightOf_12 ?_
        refine z_iload3 F dX0_weightOf_13 ?_
        refine z_ishr F dX0_weightOf_14 ?_
        refine z_iconst F 1 dX0_weightOf_15 zv_i_1 ?_
        refine z_iand F dX0_weightOf_16 ?_
        refine z_iconst F 1 dX0_weightOf_17 zv_i_1 ?_
        refine z_ic_ne F 33 dX0_weightOf_18 (by decide) (fun h18 => ?_) (fun h18 => ?_)
        · refine z_iinc3 F 1 dX0_weightOf_33 rfl zv_i_1 ?_
          refine z_goto F 4 dX0_weightOf_36 (by decide) ?_
          have h := ih (c + 1) (by omega)
          rw [show nI (c + 1) = nI c + 1 from nI_succ c, s_sum] at h
          first
            | (rw [if_pos (show s_has set c = true from decide_eq_true h18)] at h; exact h)
            | (rw [if_neg (show ¬ s_has set c = true from fun e => h18 (of_decide_eq_true e))] at h; exact h)
        · refine z_iload2 F dX0_weightOf_21 ?_
          refine z_aload0 F dX0_weightOf_22 ?_
          refine z_getR F (C_row hr) fX0_32 dX0_weightOf_23 ?_
          refine z_iload3 F dX0_weightOf_26 ?_
          refine z_aald F (aRow hr) (Or.inl rfl) (c) rfl (show c < 10 by omega) dX0_weightOf_27 ?_
          refine z_getI F (K_f hr (show c < 10 by omega) 2 (by decide)) fX0_75 dX0_weightOf_28 ?_
          refine z_iadd F dX0_weightOf_31 ?_
          refine z_istore2 F dX0_weightOf_32 rfl ?_
          refine z_iinc3 F 1 dX0_weightOf_33 rfl zv_i_1 ?_
          refine z_goto F 4 dX0_weightOf_36 (by decide) ?_
          have h := ih (c + 1) (by omega)
          rw [show nI (c + 1) = nI c + 1 from nI_succ c, s_sum] at h
          first
            | (rw [if_pos (show s_has set c = true from decide_eq_true h18)] at h; exact h)
            | (rw [if_neg (show ¬ s_has set c = true from fun e => h18 (of_decide_eq_true e))] at h; exact h)
  exact loop N 0 (by omega)
set_option maxHeartbeats 1000000 in
set_option maxRecDepth 20000 in
theorem c0_penceIn (D : zD) {r : Nat} (hr : z_R3 r) {N : Nat} (hN : D.1 r 4 = nI N) (h10 : N ≤ 10) (pl : Int32) : z_CI SX zT yX0_penceIn cX0_penceIn 2 .int 1 [.ref r, .int pl] D (z_eq (s_sum (D.1 r) 3 (s_lie (D.1 r) pl N) N) D) := by
  refine z_startI SX_ok (by decide +kernel) (fun v hv => by simp at hv; rcases hv with rfl | rfl <;> rfl) (Nat.le_of_ble_eq_true rfl) (fun X F hR => ?_)
  show z_J X SX 0 [some (.ref r), some (.int pl)] [] D
  refine z_aload0 F dX0_penceIn_0 ?_
  refine z_aload0 F dX0_penceIn_1 ?_
  refine z_iload1 F dX0_penceIn_2 ?_
  refine z_callVI1 F (c0_in D hr hN h10 pl) kX0_68 (by decide) (ocC hr) (Nat.le_of_ble_eq_true rfl) rfl dX0_penceIn_3 ?_
  refine z_callVI1 F (c0_penceOf D hr hN h10 _) kX0_72 (by decide) (ocC hr) (Nat.le_of_ble_eq_true rfl) rfl dX0_penceIn_6 ?_
  refine hR _ _ _ _ dX0_penceIn_9 rfl ?_
  exact ⟨rfl, rfl⟩
set_option maxHeartbeats 1000000 in
set_option maxRecDepth 20000 in
theorem c0_clink (D : zD) {r : Nat} (hr : z_R3 r) {N : Nat} (hN : D.1 r 4 = nI N) (h10 : N ≤ 10) (c d : Nat) (hc : c < 10) (hd : d < 10) : z_CI SX zT yX0_clink cX0_clink 3 .boolean 0 [.ref r, .int (nI c), .int (nI d)] D (z_eq (z_b (s_ck (D.1 r) c d)) D) := by
  refine z_startI SX_ok (by decide +kernel) (fun v hv => by simp at hv; rcases hv with rfl | rfl | rfl <;> rfl) (Nat.le_of_ble_eq_true rfl) (fun X F hR => ?_)
  show z_J X SX 0 [some (.ref r), some (.int (nI c)), some (.int (nI d))] [] D
  refine z_aload0 F dX0_clink_0 ?_
  refine z_getR F (C_row hr) fX0_32 dX0_clink_1 ?_
  refine z_iload1 F dX0_clink_4 ?_
  refine z_aald F (aRow hr) (Or.inl rfl) (c) rfl (show c < 10 by omega) dX0_clink_5 ?_
  refine z_getI F (K_f hr (show c < 10 by omega) 4 (by decide)) fX0_59 dX0_clink_6 ?_
  refine z_iconst F 1 dX0_clink_9 zv_i_1 ?_
  refine z_ic_ne F 51 dX0_clink_10 (by decide) (fun h10 => ?_) (fun h10 => ?_)
  · refine z_iconst F 0 dX0_clink_51 zv_i_0 ?_
    refine hR _ _ _ _ dX0_clink_52 rfl ?_
    exact ⟨by rw [s_ck, decide_eq_false h10]; rfl, rfl⟩
  · refine z_aload0 F dX0_clink_13 ?_
    refine z_getR F (C_row hr) fX0_32 dX0_clink_14 ?_
    refine z_iload2 F dX0_clink_17 ?_
    refine z_aald F (aRow hr) (Or.inl rfl) (d) rfl (show d < 10 by omega) dX0_clink_18 ?_
    refine z_getI F (K_f hr (show d < 10 by omega) 4 (by decide)) fX0_59 dX0_clink_19 ?_
    refine z_iconst F 1 dX0_clink_22 zv_i_1 ?_
    refine z_ic_ne F 51 dX0_clink_23 (by decide) (fun h23 => ?_) (fun h23 => ?_)
    · refine z_iconst F 0 dX0_clink_51 zv_i_0 ?_
      refine hR _ _ _ _ dX0_clink_52 rfl ?_
      exact ⟨by rw [s_ck, decide_eq_false h23, Bool.and_false]; rfl, rfl⟩
    · refine z_aload0 F dX0_clink_26 ?_
      refine z_getR F (C_row hr) fX0_32 dX0_clink_27 ?_
      refine z_iload1 F dX0_clink_30 ?_
      refine z_aald F (aRow hr) (Or.inl rfl) (c) rfl (show c < 10 by omega) dX0_clink_31 ?_
      refine z_getI F (K_f hr (show c < 10 by omega) 6 (by decide)) fX0_78 dX0_clink_32 ?_
      refine z_aload0 F dX0_clink_35 ?_
      refine z_getR F (C_row hr) fX0_32 dX0_clink_36 ?_
      refine z_iload2 F dX0_clink_39 ?_
      refine z_aald F (aRow hr) (Or.inl rfl) (d) rfl (show d < 10 by omega) dX0_clink_40 ?_
      refine z_getI F (K_f hr (show d < 10 by omega) 6 (by decide)) fX0_78 dX0_clink_41 ?_
      refine z_ic_ne F 51 dX0_clink_44 (by decide) (fun h44 => ?_) (fun h44 => ?_)
      · refine z_iconst F 0 dX0_clink_51 zv_i_0 ?_
        refine hR _ _ _ _ dX0_clink_52 rfl ?_
        exact ⟨by rw [s_ck, decide_eq_false h44, Bool.and_false]; rfl, rfl⟩
      · refine z_iconst F 1 dX0_clink_47 zv_i_1 ?_
        refine z_goto F 52 dX0_clink_48 (by decide) ?_
        refine hR _ _ _ _ dX0_clink_52 rfl ?_
        exact ⟨by rw [s_ck, decide_eq_true h10, decide_eq_true h23, decide_eq_true h44]; rfl, rfl⟩
theorem s_comp_t (σ : Nat → Int32) (c : Nat) : ∀ N o, o < N → s_comp σ c (o + 1) = true → s_comp σ c N = true
  | 0, o, h, _ => absurd h (Nat.not_lt_zero o)
  | N + 1, o, h, e => by
    by_cases g : o = N
    · rw [← g]; exact e
    · rw [s_comp, s_comp_t σ c N o (by omega) e]; rfl
set_option maxHeartbeats 1000000 in
set_option maxRecDepth 20000 in
theorem c0_clinksNow (D : zD) {r : Nat} (hr : z_R3 r) {N : Nat} (hN : D.1 r 4 = nI N) (h10 : N ≤ 10) (c : Nat) (hc : c < 10) (hpl : D.1 r (16 + 8 * c + 4) = 1) : z_CI SX zT yX0_clinksNow cX0_clinksNow 3 .boolean 1 [.ref r, .int (nI c)] D (z_eq (z_b (s_comp (D.1 r) c N)) D) := by
  refine z_startI SX_ok (by decide +kernel) (fun v hv => by simp at hv; rcases hv with rfl | rfl <;> rfl) (Nat.le_of_ble_eq_true rfl) (fun X F hR => ?_)
  show z_J X SX 0 [some (.ref r), some (.int (nI c)), none] [] D
  refine z_iconst F 0 dX0_clinksNow_0 zv_i_0 ?_
  refine z_istore2 F dX0_clinksNow_1 rfl ?_
  have loop : ∀ (n o : Nat), o + n = N → s_comp (D.1 r) c o = false → z_J X SX 2 [some (.ref r), some (.int (nI c)), some (.int (nI o))] [] D := by
    intro n
    induction n with
    | zero =>
      intro o hn hq
      refine z_iload2 F dX0_clinksNow_2 ?_
      refine z_aload0 F dX0_clinksNow_3 ?_
      refine z_getI F (C_coins hr) fX0_27 dX0_clinksNow_4 ?_
      refine z_ic_ge F 32 dX0_clinksNow_7 (by decide) (fun h7 => ?_) (fun h7 => ?_)
      · refine z_iconst F 0 dX0_clinksNow_32 zv_i_0 ?_
        refine hR _ _ _ _ dX0_clinksNow_33 rfl ?_
        exact ⟨by rw [show N = o by omega, hq]; rfl, rfl⟩
      · exact absurd (by rw [hN]; exact nI_le (by omega) (by omega)) h7
    | succ n ih =>
      intro o hn hq
      refine z_iload2 F dX0_clinksNow_2 ?_
      refine z_aload0 F dX0_clinksNow_3 ?_
      refine z_getI F (C_coins hr) fX0_27 dX0_clinksNow_4 ?_
      refine z_ic_ge F 32 dX0_clinksNow_7 (by decide) (fun h7 => ?_) (fun h7 => ?_)
      · exact absurd h7 (by rw [hN]; exact nI_ge (by omega) (by omega))
      · refine z_iload2 F dX0_clinksNow_10 ?_
        refine z_iload1 F dX0_clinksNow_11 ?_
        refine z_ic_eq F 26 dX0_clinksNow_12 (by decide) (fun h12 => ?_) (fun h12 => ?_)
        · have e : o = c := (nI_eq (by omega) (by omega)).mp h12
          refine z_iinc2 F 1 dX0_clinksNow_26 rfl zv_i_1 ?_
          refine z_goto F 2 dX0_clinksNow_29 (by decide) ?_
          have h := ih (o + 1) (by omega) (by rw [s_comp, hq, e]; simp)
          rw [nI_succ] at h
          exact h
        · refine z_aload0 F dX0_clinksNow_15 ?_
          refine z_iload1 F dX0_clinksNow_16 ?_
          refine z_iload2 F dX0_clinksNow_17 ?_
          refine z_callVI2 F (c0_clink D hr hN h10 c o hc (by omega)) kX0_81 (by decide) (ocC hr) (Nat.le_of_ble_eq_true rfl) rfl dX0_clinksNow_18 ?_
          refine z_ifb_eq F 26 dX0_clinksNow_21 (by decide) (fun h21 => ?_) (fun h21 => ?_)
          · have e : ¬ o = c := fun e => h12 (by rw [e])
            rw [s_ck, hpl, decide_eq_true rfl, Bool.true_and] at h21
            refine z_iinc2 F 1 dX0_clinksNow_26 rfl zv_i_1 ?_
            refine z_goto F 2 dX0_clinksNow_29 (by decide) ?_
            have h := ih (o + 1) (by omega) (by rw [s_comp, hq, Bool.false_or, Bool.and_assoc]; rw [show decide (D.1 r (16 + 8 * o + 6) = D.1 r (16 + 8 * c + 6)) = decide (D.1 r (16 + 8 * c + 6) = D.1 r (16 + 8 * o + 6)) from decide_eq_decide.mpr eq_comm, h21, Bool.and_false])
            rw [nI_succ] at h
            exact h
          · have e : ¬ o = c := fun e => h12 (by rw [e])
            rw [s_ck, hpl, decide_eq_true rfl, Bool.true_and] at h21
            refine z_iconst F 1 dX0_clinksNow_24 zv_i_1 ?_
            refine hR _ _ _ _ dX0_clinksNow_25 rfl ?_
            exact ⟨by rw [s_comp_t (D.1 r) c N o (by omega) (by rw [s_comp, Bool.and_assoc, show decide (D.1 r (16 + 8 * o + 6) = D.1 r (16 + 8 * c + 6)) = decide (D.1 r (16 + 8 * c + 6) = D.1 r (16 + 8 * o + 6)) from decide_eq_decide.mpr eq_comm, h21]; simp [e])]; rfl, rfl⟩
  exact loop N 0 (by omega) rfl
set_option maxHeartbeats 1000000 in
set_option maxRecDepth 20000 in
theorem c0_hasFallen (D : zD) {r : Nat} (hr : z_R3 r) (c : Nat) (hc : c < 10) : z_CI SX zT yX0_hasFallen cX0_hasFallen 2 .boolean 0 [.ref r, .int (nI c)] D (z_eq (z_b (decide (¬ D.1 r (16 + 8 * c + 7) = -1))) D) := by
  refine z_startI SX_ok (by decide +kernel) (fun v hv => by simp at hv; rcases hv with rfl | rfl <;> rfl) (Nat.le_of_ble_eq_true rfl) (fun X F hR => ?_)
  show z_J X SX 0 [some (.ref r), some (.int (nI c))] [] D
  refine z_aload0 F dX0_hasFallen_0 ?_
  refine z_getR F (C_row hr) fX0_32 dX0_hasFallen_1 ?_
  refine z_iload1 F dX0_hasFallen_4 ?_
  refine z_aald F (aRow hr) (Or.inl rfl) (c) rfl (show c < 10 by omega) dX0_hasFallen_5 ?_
  refine z_getI F (K_f hr (show c < 10 by omega) 7 (by decide)) fX0_85 dX0_hasFallen_6 ?_
  refine z_iconst F (-1) dX0_hasFallen_9 zv_i_m1 ?_
  refine z_ic_eq F 17 dX0_hasFallen_10 (by decide) (fun h10 => ?_) (fun h10 => ?_)
  · refine z_iconst F 0 dX0_hasFallen_17 zv_i_0 ?_
    refine hR _ _ _ _ dX0_hasFallen_18 rfl ?_
    exact ⟨by simp [z_b, h10], rfl⟩
  · refine z_iconst F 1 dX0_hasFallen_13 zv_i_1 ?_
    refine z_goto F 18 dX0_hasFallen_14 (by decide) ?_
    refine hR _ _ _ _ dX0_hasFallen_18 rfl ?_
    exact ⟨by simp [z_b, h10], rfl⟩
set_option maxHeartbeats 1000000 in
set_option maxRecDepth 20000 in
theorem c0_wayCell (D : zD) {r : Nat} (hr : z_R3 r) (c : Nat) (hc : c < 10) (y : Int32) (hy : ¬ y = 0) : z_CI SX zT yX0_wayCell cX0_wayCell 3 .int 0 [.ref r, .int (nI c), .int y] D (z_eq (s_bc (D.1 r) c y) D) := by
  refine z_startI SX_ok (by decide +kernel) (fun v hv => by simp at hv; rcases hv with rfl | rfl | rfl <;> rfl) (Nat.le_of_ble_eq_true rfl) (fun X F hR => ?_)
  show z_J X SX 0 [some (.ref r), some (.int (nI c)), some (.int y)] [] D
  refine z_aload0 F dX0_wayCell_0 ?_
  refine z_getI F (C_step hr) fX0_21 dX0_wayCell_1 ?_
  refine z_iconst F 1 dX0_wayCell_4 zv_i_1 ?_
  refine z_isub F dX0_wayCell_5 ?_
  refine z_aload0 F dX0_wayCell_6 ?_
  refine z_getR F (C_row hr) fX0_32 dX0_wayCell_7 ?_
  refine z_iload1 F dX0_wayCell_10 ?_
  refine z_aald F (aRow hr) (Or.inl rfl) (c) rfl (show c < 10 by omega) dX0_wayCell_11 ?_
  refine z_getI F (K_f hr (show c < 10 by omega) 7 (by decide)) fX0_85 dX0_wayCell_12 ?_
  refine z_isub F dX0_wayCell_15 ?_
  refine z_iload2 F dX0_wayCell_16 ?_
  refine z_idiv F dX0_wayCell_17 hy ?_
  refine hR _ _ _ _ dX0_wayCell_18 rfl ?_
  exact ⟨rfl, rfl⟩
set_option maxHeartbeats 1000000 in
set_option maxRecDepth 20000 in
theorem c0_draw (D : zD) {r : Nat} (hr : z_R3 r) : z_CI SX zT yX0_draw cX0_draw 1 .int 0 [.ref r] D (z_eq (i_sh8 (s_draw (D.1 r 5))) (z_row D r (s_d1 (D.1 r)))) := by
  refine z_startI SX_ok (by decide +kernel) (fun v hv => by simp at hv; subst hv; rfl) (Nat.le_of_ble_eq_true rfl) (fun X F hR => ?_)
  show z_J X SX 0 [some (.ref r)] [] D
  refine z_aload0 F dX0_draw_0 ?_
  refine z_aload0 F dX0_draw_1 ?_
  refine z_getI F (C_z hr) fX0_24 dX0_draw_2 ?_
  refine z_ldc F 1103515245 dX0_draw_5 zw_463 ?_
  refine z_imul F dX0_draw_7 ?_
  refine z_sipush F 12345 dX0_draw_8 zv_s_12345 ?_
  refine z_iadd F dX0_draw_11 ?_
  refine z_putI F (C_z hr) fX0_24 rfl rfl dX0_draw_12 ?_
  refine z_aload0 F dX0_draw_15 ?_
  refine z_getI F (C_z hr) fX0_24 dX0_draw_16 ?_
  refine z_bipush F 8 dX0_draw_19 zv_b_8 ?_
  refine z_iushr F dX0_draw_21 ?_
  refine hR _ _ _ _ dX0_draw_22 rfl ?_
  exact ⟨by rw [z_upr, u_eq]; rfl, z_up_row _ _ _ _⟩
set_option maxHeartbeats 1000000 in
set_option maxRecDepth 20000 in
theorem c0_spots (D : zD) {r : Nat} (hr : z_R3 r) (hsp : ∀ s, s < 10 → D.1 r (6 + s) = -1 ∨ 0 ≤ D.1 r (6 + s)) : z_CI SX zT yX0_spotsInUse cX0_spotsInUse 3 .int 0 [.ref r] D (z_eq (s_spots (D.1 r) 10) D) := by
  refine z_startI SX_ok (by decide +kernel) (fun v hv => by simp at hv; subst hv; rfl) (Nat.le_of_ble_eq_true rfl) (fun X F hR => ?_)
  show z_J X SX 0 [some (.ref r), none, none] [] D
  refine z_iconst F 0 dX0_spotsInUse_0 zv_i_0 ?_
  refine z_istore1 F dX0_spotsInUse_1 rfl ?_
  refine z_iconst F 0 dX0_spotsInUse_2 zv_i_0 ?_
  refine z_istore2 F dX0_spotsInUse_3 rfl ?_
  have loop : ∀ (n c : Nat), c + n = 10 → z_J X SX 4 [some (.ref r), some (.int (s_spots (D.1 r) c)), some (.int (nI c))] [] D := by
    intro n
    induction n with
    | zero =>
      intro c hn 
      refine z_iload2 F dX0_spotsInUse_4 ?_
      refine z_bipush F 10 dX0_spotsInUse_5 zv_b_10 ?_
      refine z_ic_ge F 29 dX0_spotsInUse_7 (by decide) (fun h7 => ?_) (fun h7 => ?_)
      · refine z_iload1 F dX0_spotsInUse_29 ?_
        refine hR _ _ _ _ dX0_spotsInUse_30 rfl ?_
        exact ⟨by rw [show c = 10 by omega], rfl⟩
      · exact absurd (nI_le (a := 10) (b := c) (by omega) (by omega)) h7
    | succ n ih =>
      intro c hn 
      refine z_iload2 F dX0_spotsInUse_4 ?_
      refine z_bipush F 10 dX0_spotsInUse_5 zv_b_10 ?_
      refine z_ic_ge F 29 dX0_spotsInUse_7 (by decide) (fun h7 => ?_) (fun h7 => ?_)
      · exact absurd h7 (nI_ge (a := c) (b := 10) (by omega) (by omega))
      · refine z_aload0 F dX0_spotsInUse_10 ?_
        refine z_getR F (C_spots hr) fX0_36 dX0_spotsInUse_11 ?_
        refine z_iload2 F dX0_spotsInUse_14 ?_
        refine z_iald F (aSpots hr) (c) rfl (by omega) dX0_spotsInUse_15 ?_
        refine z_iconst F (-1) dX0_spotsInUse_16 zv_i_m1 ?_
        have hs := hsp c (by omega)
        refine z_ic_eq F 23 dX0_spotsInUse_17 (by decide) (fun h17 => ?_) (fun h17 => ?_)
        · refine z_iinc2 F 1 dX0_spotsInUse_23 rfl zv_i_1 ?_
          refine z_goto F 4 dX0_spotsInUse_26 (by decide) ?_
          have h := ih (c + 1) (by omega)
          rw [show nI (c + 1) = nI c + 1 from nI_succ c, s_spots] at h
          first
            | (rw [if_pos (by rw [h17]; decide), i_add0] at h; exact h)
            | (rw [if_neg (fun z => hs.elim (fun e => h17 e) (fun e => Int32.not_lt.mpr e z))] at h; exact h)
        · refine z_iinc1 F 1 dX0_spotsInUse_20 rfl zv_i_1 ?_
          refine z_iinc2 F 1 dX0_spotsInUse_23 rfl zv_i_1 ?_
          refine z_goto F 4 dX0_spotsInUse_26 (by decide) ?_
          have h := ih (c + 1) (by omega)
          rw [show nI (c + 1) = nI c + 1 from nI_succ c, s_spots] at h
          first
            | (rw [if_pos (by rw [h17]; decide), i_add0] at h; exact h)
            | (rw [if_neg (fun z => hs.elim (fun e => h17 e) (fun e => Int32.not_lt.mpr e z))] at h; exact h)
  exact loop 10 0 (by omega)
