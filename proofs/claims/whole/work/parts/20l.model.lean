set_option maxHeartbeats 1000000 in
set_option maxRecDepth 20000 in
theorem c5_lining (D : zD) (x : Int32) {N : Nat} (hN : D.1 1 4 = nI N) (h10 : N ≤ 10) : z_CI SM zT yX5_lining cX5_lining 5 .int 5 [.ref 0, .int x] D (z_qM D (o_lining (D.1 1) N x)) := by
  refine z_startI SM_ok (by decide +kernel) (fun v hv => by simp at hv; rcases hv with rfl | rfl <;> rfl) (Nat.le_of_ble_eq_true rfl) (fun X F hR => ?_)
  show z_J X SM 0 [some (.ref 0), some (.int x), none, none, none] [] D
  have hP := i_pow h10
  refine z_iload1 F dX5_lining_0 ?_
  refine z_iconst F 0 dX5_lining_1 zv_i_0 ?_
  refine z_sipush F 500 dX5_lining_2 zv_s_500 ?_
  refine z_callSI3 F (c5_within _ _ _ _) kX5_78 (by decide) (Nat.le_of_ble_eq_true rfl) rfl dX5_lining_5 ?_
  refine z_ifb_ne F 18 dX5_lining_8 (by decide) (fun h8 => ?_) (fun h8 => ?_)
  · refine z_aload0 F dX5_lining_18 ?_
    refine z_iconst F 0 dX5_lining_19 zv_i_0 ?_
    refine z_callVI1 F (c5_lieIn _ _ hN h10) kX5_141 (by decide) ocM (Nat.le_of_ble_eq_true rfl) rfl dX5_lining_20 ?_
    refine z_aload0 F dX5_lining_23 ?_
    refine z_iconst F 1 dX5_lining_24 zv_i_1 ?_
    refine z_callVI1 F (c5_lieIn _ _ hN h10) kX5_141 (by decide) ocM (Nat.le_of_ble_eq_true rfl) rfl dX5_lining_25 ?_
    refine z_ior F dX5_lining_28 ?_
    refine z_aload0 F dX5_lining_29 ?_
    refine z_iconst F 3 dX5_lining_30 zv_i_3 ?_
    refine z_callVI1 F (c5_lieIn _ _ hN h10) kX5_141 (by decide) ocM (Nat.le_of_ble_eq_true rfl) rfl dX5_lining_31 ?_
    refine z_ior F dX5_lining_34 ?_
    refine z_istore2 F dX5_lining_35 rfl ?_
    refine z_iconst F 0 dX5_lining_36 zv_i_0 ?_
    refine z_istore3 F dX5_lining_37 rfl ?_
    refine z_iconst F 0 dX5_lining_38 zv_i_0 ?_
    refine z_istore4 F dX5_lining_39 rfl ?_
    have loop : ∀ (n k : Nat), k + n = 2 ^ N → z_J X SM 41 [some (.ref 0), some (.int x), some (.int (s_lie (D.1 1) 0 N ||| s_lie (D.1 1) 1 N ||| s_lie (D.1 1) 3 N)), some (.int (s_lining (D.1 1) N (s_lie (D.1 1) 0 N ||| s_lie (D.1 1) 1 N ||| s_lie (D.1 1) 3 N) x k)), some (.int (nI k))] [] D := by
      intro n
      induction n with
      | zero =>
        intro k hn 
        refine z_iload4 F dX5_lining_41 ?_
        refine z_iconst F 1 dX5_lining_43 zv_i_1 ?_
        refine z_aload0 F dX5_lining_44 ?_
        refine z_getR F M_now fX5_9 dX5_lining_45 ?_
        refine z_iconst F 4 dX5_lining_48 zv_i_4 ?_
        refine z_iald F aM_now (4) rfl (by omega) dX5_lining_49 ?_
        refine z_ishl F dX5_lining_50 ?_
        refine z_ic_ge F 88 dX5_lining_51 (by decide) (fun h51 => ?_) (fun h51 => ?_)
        · refine z_iload3 F dX5_lining_88 ?_
          refine hR _ _ _ _ dX5_lining_89 rfl ?_
          simp only [o_lining, h8, Bool.false_eq_true, if_true, if_false, Bool.and_true, Bool.true_and, Bool.and_false, Bool.false_and, Bool.and_self, and_self]
          rw [show k = 2 ^ N by omega]
          exact ⟨rfl, z_sm_r _⟩
        · exact absurd (by rw [hN, i_p2 h10]; exact nI_le (by omega) (by omega)) h51
      | succ n ih =>
        intro k hn 
        refine z_iload4 F dX5_lining_41 ?_
        refine z_iconst F 1 dX5_lining_43 zv_i_1 ?_
        refine z_aload0 F dX5_lining_44 ?_
        refine z_getR F M_now fX5_9 dX5_lining_45 ?_
        refine z_iconst F 4 dX5_lining_48 zv_i_4 ?_
        refine z_iald F aM_now (4) rfl (by omega) dX5_lining_49 ?_
        refine z_ishl F dX5_lining_50 ?_
        refine z_ic_ge F 88 dX5_lining_51 (by decide) (fun h51 => ?_) (fun h51 => ?_)
        · exact absurd h51 (by rw [hN, i_p2 h10]; exact nI_ge (by omega) (by omega))
        · refine z_iload3 F dX5_lining_54 ?_
          refine z_iload4 F dX5_lining_55 ?_
          refine z_iload2 F dX5_lining_57 ?_
          refine z_iconst F (-1) dX5_lining_58 zv_i_m1 ?_
          refine z_ixor F dX5_lining_59 ?_
          refine z_iand F dX5_lining_60 ?_
          refine z_if_ne F 79 dX5_lining_61 (by decide) (fun h61 => ?_) (fun h61 => ?_)
          · have hal : ¬ s_inAll (nI k) (s_lie (D.1 1) 0 N ||| s_lie (D.1 1) 1 N ||| s_lie (D.1 1) 3 N) = true := by
              simp only [s_inAll, decide_eq_true_eq]
              exact h61
            refine z_iconst F 0 dX5_lining_79 zv_i_0 ?_
            refine z_iadd F dX5_lining_80 ?_
            refine z_istore3 F dX5_lining_81 rfl ?_
            refine z_iinc4 F 1 dX5_lining_82 rfl zv_i_1 ?_
            refine z_goto F 41 dX5_lining_85 (by decide) ?_
            have h := ih (k + 1) (by omega)
            rw [show nI (k + 1) = nI k + 1 from nI_succ k, s_lining, if_neg (fun z => hal z.1)] at h
            exact h
          · have hal : s_inAll (nI k) (s_lie (D.1 1) 0 N ||| s_lie (D.1 1) 1 N ||| s_lie (D.1 1) 3 N) = true := by
              simp only [s_inAll, decide_eq_true_eq]
              exact h61
            refine z_aload0 F dX5_lining_64 ?_
            refine z_iload4 F dX5_lining_65 ?_
            refine z_iconst F 2 dX5_lining_67 zv_i_2 ?_
            refine z_callVI2 F (c5_sumOf _ 2 _ hN h10 (by decide)) kX5_144 (by decide) ocM (Nat.le_of_ble_eq_true rfl) rfl dX5_lining_68 ?_
            refine z_iload1 F dX5_lining_71 ?_
            refine z_ic_ne F 79 dX5_lining_72 (by decide) (fun h72 => ?_) (fun h72 => ?_)
            · refine z_iconst F 0 dX5_lining_79 zv_i_0 ?_
              refine z_iadd F dX5_lining_80 ?_
              refine z_istore3 F dX5_lining_81 rfl ?_
              refine z_iinc4 F 1 dX5_lining_82 rfl zv_i_1 ?_
              refine z_goto F 41 dX5_lining_85 (by decide) ?_
              have h := ih (k + 1) (by omega)
              rw [show nI (k + 1) = nI k + 1 from nI_succ k, s_lining, if_neg (fun z => h72 z.2)] at h
              exact h
            · refine z_iconst F 1 dX5_lining_75 zv_i_1 ?_
              refine z_goto F 80 dX5_lining_76 (by decide) ?_
              refine z_iadd F dX5_lining_80 ?_
              refine z_istore3 F dX5_lining_81 rfl ?_
              refine z_iinc4 F 1 dX5_lining_82 rfl zv_i_1 ?_
              refine z_goto F 41 dX5_lining_85 (by decide) ?_
              have h := ih (k + 1) (by omega)
              rw [show nI (k + 1) = nI k + 1 from nI_succ k, s_lining, if_pos ⟨hal, h72⟩] at h
              exact h
    exact loop (2 ^ N) 0 (by omega)
  · refine z_aload0 F dX5_lining_11 ?_
    refine z_ldc F (-1000001) dX5_lining_12 zw_721 ?_
    refine z_callVI1 F (c5_finding _ _ 0 (by decide) (by decide)) kX5_93 (by decide) ocM (Nat.le_of_ble_eq_true rfl) rfl dX5_lining_14 ?_
    refine hR _ _ _ _ dX5_lining_17 rfl ?_
    simp only [o_lining, h8, Bool.false_eq_true, if_true, if_false, Bool.and_true, Bool.true_and, Bool.and_false, Bool.false_and, Bool.and_self, and_self]; first | exact ⟨rfl, rfl⟩ | exact ⟨by decide, rfl⟩ | exact ⟨by decide, z_sm_r _⟩ | exact ⟨rfl, z_sm_r _⟩ | exact ⟨rfl, z_sm_as _⟩ | exact ⟨by decide, z_sm_fM _ (z_sm_as _)⟩
set_option maxHeartbeats 1000000 in
set_option maxRecDepth 20000 in
theorem c5_hasFallen (D : zD) (c : Nat) (hc : c < 10) : z_CI SM zT yX5_hasFallen cX5_hasFallen 2 .boolean 4 [.ref 0, .int (nI c)] D (z_eq (z_b (s_fallen (D.1 1) c)) D) := by
  refine z_startI SM_ok (by decide +kernel) (fun v hv => by simp at hv; rcases hv with rfl | rfl <;> rfl) (Nat.le_of_ble_eq_true rfl) (fun X F hR => ?_)
  show z_J X SM 0 [some (.ref 0), some (.int (nI c))] [] D
  refine z_aload0 F dX5_hasFallen_0 ?_
  refine z_iload1 F dX5_hasFallen_1 ?_
  refine z_iconst F 2 dX5_hasFallen_2 zv_i_2 ?_
  refine z_callVI2 F (c5_isIn _ (c) _ (by omega)) kX5_135 (by decide) ocM (Nat.le_of_ble_eq_true rfl) rfl dX5_hasFallen_3 ?_
  refine z_ifb_eq F 23 dX5_hasFallen_6 (by decide) (fun h6 => ?_) (fun h6 => ?_)
  · refine z_iconst F 0 dX5_hasFallen_23 zv_i_0 ?_
    refine hR _ _ _ _ dX5_hasFallen_24 rfl ?_
    exact ⟨by simp only [s_fallen, h6]; rfl, rfl⟩
  · refine z_aload0 F dX5_hasFallen_9 ?_
    refine z_iload1 F dX5_hasFallen_10 ?_
    refine z_bipush F 7 dX5_hasFallen_11 zv_b_7 ?_
    refine z_callVI2 F (c5_coinIs _ (c) 7 (by omega) (by decide)) kX5_105 (by decide) ocM (Nat.le_of_ble_eq_true rfl) rfl dX5_hasFallen_13 ?_
    refine z_if_lt F 23 dX5_hasFallen_16 (by decide) (fun h16 => ?_) (fun h16 => ?_)
    · refine z_iconst F 0 dX5_hasFallen_23 zv_i_0 ?_
      refine hR _ _ _ _ dX5_hasFallen_24 rfl ?_
      exact ⟨by simp only [s_fallen, h6, decide_eq_false (Int32.not_le.mpr h16)]; rfl, rfl⟩
    · refine z_iconst F 1 dX5_hasFallen_19 zv_i_1 ?_
      refine z_goto F 24 dX5_hasFallen_20 (by decide) ?_
      refine hR _ _ _ _ dX5_hasFallen_24 rfl ?_
      exact ⟨by simp only [s_fallen, h6, decide_eq_true (Int32.not_lt.mp h16)]; rfl, rfl⟩
set_option maxHeartbeats 1000000 in
set_option maxRecDepth 20000 in
theorem c5_backCell (D : zD) (c : Nat) (y : Int32) (hy : ¬ y = 0) (hc : c < 10) : z_CI SM zT yX5_backCell cX5_backCell 3 .int 2 [.ref 0, .int (nI c), .int y] D (z_eq (s_bc (D.1 1) c y) D) := by
  refine z_startI SM_ok (by decide +kernel) (fun v hv => by simp at hv; rcases hv with rfl | rfl | rfl <;> rfl) (Nat.le_of_ble_eq_true rfl) (fun X F hR => ?_)
  show z_J X SM 0 [some (.ref 0), some (.int (nI c)), some (.int y)] [] D
  refine z_aload0 F dX5_backCell_0 ?_
  refine z_getR F M_now fX5_9 dX5_backCell_1 ?_
  refine z_iconst F 0 dX5_backCell_4 zv_i_0 ?_
  refine z_iald F aM_now (0) rfl (by omega) dX5_backCell_5 ?_
  refine z_iconst F 1 dX5_backCell_6 zv_i_1 ?_
  refine z_isub F dX5_backCell_7 ?_
  refine z_aload0 F dX5_backCell_8 ?_
  refine z_iload1 F dX5_backCell_9 ?_
  refine z_bipush F 7 dX5_backCell_10 zv_b_7 ?_
  refine z_callVI2 F (c5_coinIs _ (c) 7 (by omega) (by decide)) kX5_105 (by decide) ocM (Nat.le_of_ble_eq_true rfl) rfl dX5_backCell_12 ?_
  refine z_isub F dX5_backCell_15 ?_
  refine z_iload2 F dX5_backCell_16 ?_
  refine z_idiv F dX5_backCell_17 hy ?_
  refine hR _ _ _ _ dX5_backCell_18 rfl ?_
  exact ⟨rfl, rfl⟩
set_option maxHeartbeats 1000000 in
set_option maxRecDepth 20000 in
theorem c5_back_ (D : zD) (c y : Int32) {N : Nat} (hN : D.1 1 4 = nI N) (h10 : N ≤ 10) : z_CI SM zT yX5_back cX5_back 3 .int 6 [.ref 0, .int c, .int y] D (z_qM D (o_back (D.1 1) N c y)) := by
  refine z_startI SM_ok (by decide +kernel) (fun v hv => by simp at hv; rcases hv with rfl | rfl | rfl <;> rfl) (Nat.le_of_ble_eq_true rfl) (fun X F hR => ?_)
  show z_J X SM 0 [some (.ref 0), some (.int c), some (.int y)] [] D
  refine z_aload0 F dX5_back_0 ?_
  refine z_iload1 F dX5_back_1 ?_
  refine z_callVI1 F (c5_isCoin _ _ hN h10) kX5_120 (by decide) ocM (Nat.le_of_ble_eq_true rfl) rfl dX5_back_2 ?_
  refine z_ifb_eq F 18 dX5_back_5 (by decide) (fun h5 => ?_) (fun h5 => ?_)
  · refine z_aload0 F dX5_back_18 ?_
    refine z_ldc F (-1000001) dX5_back_19 zw_721 ?_
    refine z_callVI1 F (c5_finding _ _ 0 (by decide) (by decide)) kX5_93 (by decide) ocM (Nat.le_of_ble_eq_true rfl) rfl dX5_back_21 ?_
    refine hR _ _ _ _ dX5_back_24 rfl ?_
    simp only [o_back, h5, Bool.false_eq_true, if_true, if_false, Bool.and_true, Bool.true_and, Bool.and_false, Bool.false_and, Bool.and_self, and_self]; first | exact ⟨rfl, rfl⟩ | exact ⟨by decide, rfl⟩ | exact ⟨by decide, z_sm_r _⟩ | exact ⟨rfl, z_sm_r _⟩ | exact ⟨rfl, z_sm_as _⟩ | exact ⟨by decide, z_sm_fM _ (z_sm_as _)⟩
  · refine z_iload2 F dX5_back_8 ?_
    refine z_iconst F 1 dX5_back_9 zv_i_1 ?_
    refine z_bipush F 100 dX5_back_10 zv_b_100 ?_
    refine z_callSI3 F (c5_within _ _ _ _) kX5_78 (by decide) (Nat.le_of_ble_eq_true rfl) rfl dX5_back_12 ?_
    refine z_ifb_ne F 25 dX5_back_15 (by decide) (fun h15 => ?_) (fun h15 => ?_)
    · obtain ⟨j, hj, rfl⟩ := b_coin_ex h10 h5
      have hjn := i_n_n (j := j) (by omega)
      have hy : ¬ y = 0 := by
        obtain ⟨u, hu, hu2, rfl⟩ := b_in1 100 (by decide) h15
        exact fun e => by have := (nI_eq (a := u) (b := 0) (by omega) (by decide)).mp e; omega
      refine z_aload0 F dX5_back_25 ?_
      refine z_iload1 F dX5_back_26 ?_
      refine z_callVI1 F (c5_hasFallen _ (j) (by omega)) kX5_225 (by decide) ocM (Nat.le_of_ble_eq_true rfl) rfl dX5_back_27 ?_
      refine z_ifb_eq F 42 dX5_back_30 (by decide) (fun h30 => ?_) (fun h30 => ?_)
      · refine z_aload0 F dX5_back_42 ?_
        refine z_ldc F (-1000005) dX5_back_43 zw_810 ?_
        refine z_callVI1 F (c5_finding _ _ 4 (by decide) (by decide)) kX5_93 (by decide) ocM (Nat.le_of_ble_eq_true rfl) rfl dX5_back_45 ?_
        refine hR _ _ _ _ dX5_back_48 rfl ?_
        simp only [o_back, h5, h15, hjn, h30, Bool.false_eq_true, if_true, if_false, Bool.and_true, Bool.true_and, Bool.and_false, Bool.false_and, Bool.and_self, and_self]; first | exact ⟨rfl, rfl⟩ | exact ⟨by decide, rfl⟩ | exact ⟨by decide, z_sm_r _⟩ | exact ⟨rfl, z_sm_r _⟩ | exact ⟨rfl, z_sm_as _⟩ | exact ⟨by decide, z_sm_fM _ (z_sm_as _)⟩
      · refine z_aload0 F dX5_back_33 ?_
        refine z_iload1 F dX5_back_34 ?_
        refine z_iload2 F dX5_back_35 ?_
        refine z_callVI2 F (c5_backCell _ j y hy (by omega)) kX5_228 (by decide) ocM (Nat.le_of_ble_eq_true rfl) rfl dX5_back_36 ?_
        refine z_goto F 48 dX5_back_39 (by decide) ?_
        refine hR _ _ _ _ dX5_back_48 rfl ?_
        simp only [o_back, h5, h15, hjn, h30, Bool.false_eq_true, if_true, if_false, Bool.and_true, Bool.true_and, Bool.and_false, Bool.false_and, Bool.and_self, and_self]; first | exact ⟨rfl, rfl⟩ | exact ⟨by decide, rfl⟩ | exact ⟨by decide, z_sm_r _⟩ | exact ⟨rfl, z_sm_r _⟩ | exact ⟨rfl, z_sm_as _⟩ | exact ⟨by decide, z_sm_fM _ (z_sm_as _)⟩
    · refine z_aload0 F dX5_back_18 ?_
      refine z_ldc F (-1000001) dX5_back_19 zw_721 ?_
      refine z_callVI1 F (c5_finding _ _ 0 (by decide) (by decide)) kX5_93 (by decide) ocM (Nat.le_of_ble_eq_true rfl) rfl dX5_back_21 ?_
      refine hR _ _ _ _ dX5_back_24 rfl ?_
      simp only [o_back, h5, h15, Bool.false_eq_true, if_true, if_false, Bool.and_true, Bool.true_and, Bool.and_false, Bool.false_and, Bool.and_self, and_self]; first | exact ⟨rfl, rfl⟩ | exact ⟨by decide, rfl⟩ | exact ⟨by decide, z_sm_r _⟩ | exact ⟨rfl, z_sm_r _⟩ | exact ⟨rfl, z_sm_as _⟩ | exact ⟨by decide, z_sm_fM _ (z_sm_as _)⟩
set_option maxHeartbeats 1000000 in
set_option maxRecDepth 20000 in
theorem c5_richest (D : zD) (y : Int32) {N : Nat} (hN : D.1 1 4 = nI N) (h10 : N ≤ 10) : z_CI SM zT yX5_richest cX5_richest 7 .int 6 [.ref 0, .int y] D (z_qM D (o_richest (D.1 1) N y)) := by
  refine z_startI SM_ok (by decide +kernel) (fun v hv => by simp at hv; rcases hv with rfl | rfl <;> rfl) (Nat.le_of_ble_eq_true rfl) (fun X F hR => ?_)
  show z_J X SM 0 [some (.ref 0), some (.int y), none, none, none, none, none] [] D
  refine z_iload1 F dX5_richest_0 ?_
  refine z_iconst F 1 dX5_richest_1 zv_i_1 ?_
  refine z_bipush F 100 dX5_richest_2 zv_b_100 ?_
  refine z_callSI3 F (c5_within _ _ _ _) kX5_78 (by decide) (Nat.le_of_ble_eq_true rfl) rfl dX5_richest_4 ?_
  refine z_ifb_ne F 17 dX5_richest_7 (by decide) (fun h7 => ?_) (fun h7 => ?_)
  · have hy : ¬ y = 0 := by
      obtain ⟨u, hu, hu2, rfl⟩ := b_in1 100 (by decide) h7
      exact fun e => by have := (nI_eq (a := u) (b := 0) (by omega) (by decide)).mp e; omega
    refine z_iconst F (-1) dX5_richest_17 zv_i_m1 ?_
    refine z_istore2 F dX5_richest_18 rfl ?_
    refine z_iconst F 0 dX5_richest_19 zv_i_0 ?_
    refine z_istore3 F dX5_richest_20 rfl ?_
    refine z_iconst F 0 dX5_richest_21 zv_i_0 ?_
    refine z_istore4 F dX5_richest_22 rfl ?_
    have loop : ∀ (n k : Nat), k + n = 30 → ∀ (a5 a6 : Option Value), z_J X SM 24 [some (.ref 0), some (.int y), some (.int (s_rich (D.1 1) N y k).1), some (.int (s_rich (D.1 1) N y k).2), some (.int (nI k)), a5, a6] [] D := by
      intro n
      induction n with
      | zero =>
        intro k hn a5 a6
        refine z_iload4 F dX5_richest_24 ?_
        refine z_bipush F 30 dX5_richest_26 zv_b_30 ?_
        refine z_ic_ge F 124 dX5_richest_28 (by decide) (fun h28 => ?_) (fun h28 => ?_)
        · have ek : k = 30 := by omega
          subst ek
          refine z_iload2 F dX5_richest_124 ?_
          refine z_if_ge F 137 dX5_richest_125 (by decide) (fun h125 => ?_) (fun h125 => ?_)
          · have h125 := Int32.not_lt.mpr h125
            refine z_iload2 F dX5_richest_137 ?_
            refine hR _ _ _ _ dX5_richest_138 rfl ?_
            simp only [o_richest, h7, h125, Bool.false_eq_true, if_true, if_false, Bool.and_true, Bool.true_and, Bool.and_false, Bool.false_and, Bool.and_self, and_self]; exact ⟨rfl, z_sm_r _⟩
          · have h125 := Int32.not_le.mp h125
            refine z_aload0 F dX5_richest_128 ?_
            refine z_ldc F (-1000004) dX5_richest_129 zw_860 ?_
            refine z_callVI1 F (c5_finding _ _ 3 (by decide) (by decide)) kX5_93 (by decide) ocM (Nat.le_of_ble_eq_true rfl) rfl dX5_richest_131 ?_
            refine z_goto F 138 dX5_richest_134 (by decide) ?_
            refine hR _ _ _ _ dX5_richest_138 rfl ?_
            simp only [o_richest, h7, h125, Bool.false_eq_true, if_true, if_false, Bool.and_true, Bool.true_and, Bool.and_false, Bool.false_and, Bool.and_self, and_self]; exact ⟨nF_3.symm, z_sm_r _⟩
        · exact absurd (nI_le (a := 30) (b := k) (by omega) (by omega)) h28
      | succ n ih =>
        intro k hn a5 a6
        refine z_iload4 F dX5_richest_24 ?_
        refine z_bipush F 30 dX5_richest_26 zv_b_30 ?_
        refine z_ic_ge F 124 dX5_richest_28 (by decide) (fun h28 => ?_) (fun h28 => ?_)
        · exact absurd h28 (nI_ge (a := k) (b := 30) (by omega) (by omega))
        · refine z_iconst F 0 dX5_richest_31 zv_i_0 ?_
          refine z_istore5 F dX5_richest_32 rfl ?_
          refine z_iconst F 0 dX5_richest_34 zv_i_0 ?_
          refine z_istore6 F dX5_richest_35 rfl ?_
          have ih2 := ih
          have aft : ∀ (a6 : Option Value), z_J X SM 88 [some (.ref 0), some (.int y), some (.int (s_rich (D.1 1) N y k).1), some (.int (s_rich (D.1 1) N y k).2), some (.int (nI k)), some (.int (s_rset (D.1 1) y (nI k) N)), a6] [] D := by
            intro a6
            refine z_aload0 F dX5_richest_88 ?_
            refine z_iload5 F dX5_richest_89 ?_
            refine z_iconst F 3 dX5_richest_91 zv_i_3 ?_
            refine z_callVI2 F (c5_sumOf _ 3 _ hN h10 (by decide)) kX5_144 (by decide) ocM (Nat.le_of_ble_eq_true rfl) rfl dX5_richest_92 ?_
            refine z_istore6 F dX5_richest_95 rfl ?_
            refine z_iload5 F dX5_richest_97 ?_
            refine z_if_eq F 118 dX5_richest_99 (by decide) (fun h99 => ?_) (fun h99 => ?_)
            · refine z_iinc4 F 1 dX5_richest_118 rfl zv_i_1 ?_
              refine z_goto F 24 dX5_richest_121 (by decide) ?_
              have h := ih2 (k + 1) (by omega)
              rw [show nI (k + 1) = nI k + 1 from nI_succ k, s_rich, if_neg (fun z => z.1 h99)] at h
              exact h _ _
            · refine z_iload2 F dX5_richest_102 ?_
              refine z_if_lt F 112 dX5_richest_103 (by decide) (fun h103 => ?_) (fun h103 => ?_)
              · refine z_iload4 F dX5_richest_112 ?_
                refine z_istore2 F dX5_richest_114 rfl ?_
                refine z_iload6 F dX5_richest_115 ?_
                refine z_istore3 F dX5_richest_117 rfl ?_
                refine z_iinc4 F 1 dX5_richest_118 rfl zv_i_1 ?_
                refine z_goto F 24 dX5_richest_121 (by decide) ?_
                have h := ih2 (k + 1) (by omega)
                rw [show nI (k + 1) = nI k + 1 from nI_succ k, s_rich, if_pos ⟨h99, Or.inl h103⟩] at h
                exact h _ _
              · refine z_iload6 F dX5_richest_106 ?_
                refine z_iload3 F dX5_richest_108 ?_
                refine z_ic_le F 118 dX5_richest_109 (by decide) (fun h109 => ?_) (fun h109 => ?_)
                · refine z_iinc4 F 1 dX5_richest_118 rfl zv_i_1 ?_
                  refine z_goto F 24 dX5_richest_121 (by decide) ?_
                  have h := ih2 (k + 1) (by omega)
                  rw [show nI (k + 1) = nI k + 1 from nI_succ k, s_rich, if_neg (fun z => z.2.elim (fun e => h103 e) (fun e => Int32.not_lt.mpr h109 e))] at h
                  exact h _ _
                · refine z_iload4 F dX5_richest_112 ?_
                  refine z_istore2 F dX5_richest_114 rfl ?_
                  refine z_iload6 F dX5_richest_115 ?_
                  refine z_istore3 F dX5_richest_117 rfl ?_
                  refine z_iinc4 F 1 dX5_richest_118 rfl zv_i_1 ?_
                  refine z_goto F 24 dX5_richest_121 (by decide) ?_
                  have h := ih2 (k + 1) (by omega)
                  rw [show nI (k + 1) = nI k + 1 from nI_succ k, s_rich, if_pos ⟨h99, Or.inr (Int32.not_le.mp h109)⟩] at h
                  exact h _ _
          have inner : ∀ (n c : Nat), c + n = N → z_J X SM 37 [some (.ref 0), some (.int y), some (.int (s_rich (D.1 1) N y k).1), some (.int (s_rich (D.1 1) N y k).2), some (.int (nI k)), some (.int (s_rset (D.1 1) y (nI k) c)), some (.int (nI c))] [] D := by
            intro n
            induction n with
            | zero =>
              intro c hn 
              refine z_iload6 F dX5_richest_37 ?_
              refine z_aload0 F dX5_richest_39 ?_
              refine z_getR F M_now fX5_9 dX5_richest_40 ?_
              refine z_iconst F 4 dX5_richest_43 zv_i_4 ?_
              refine z_iald F aM_now (4) rfl (by omega) dX5_richest_44 ?_
              refine z_ic_ge F 88 dX5_richest_45 (by decide) (fun h45 => ?_) (fun h45 => ?_)
              · rw [show c = N by omega]
                exact aft _
              · exact absurd (by rw [hN]; exact nI_le (by omega) (by omega)) h45
            | succ n ih =>
              intro c hn 
              refine z_iload6 F dX5_richest_37 ?_
              refine z_aload0 F dX5_richest_39 ?_
              refine z_getR F M_now fX5_9 dX5_richest_40 ?_
              refine z_iconst F 4 dX5_richest_43 zv_i_4 ?_
              refine z_iald F aM_now (4) rfl (by omega) dX5_richest_44 ?_
              refine z_ic_ge F 88 dX5_richest_45 (by decide) (fun h45 => ?_) (fun h45 => ?_)
              · exact absurd h45 (by rw [hN]; exact nI_ge (by omega) (by omega))
              · refine z_iload5 F dX5_richest_48 ?_
                refine z_aload0 F dX5_richest_50 ?_
                refine z_iload6 F dX5_richest_51 ?_
                refine z_callVI1 F (c5_hasFallen _ (c) (by omega)) kX5_225 (by decide) ocM (Nat.le_of_ble_eq_true rfl) rfl dX5_richest_53 ?_
                refine z_ifb_eq F 78 dX5_richest_56 (by decide) (fun h56 => ?_) (fun h56 => ?_)
                · refine z_iconst F 0 dX5_richest_78 zv_i_0 ?_
                  refine z_ior F dX5_richest_79 ?_
                  refine z_istore5 F dX5_richest_80 rfl ?_
                  refine z_iinc6 F 1 dX5_richest_82 rfl zv_i_1 ?_
                  refine z_goto F 37 dX5_richest_85 (by decide) ?_
                  have h := ih (c + 1) (by omega)
                  rw [show nI (c + 1) = nI c + 1 from nI_succ c, s_rset, if_neg (fun z => absurd z.1 (by rw [h56]; decide))] at h
                  exact h
                · refine z_aload0 F dX5_richest_59 ?_
                  refine z_iload6 F dX5_richest_60 ?_
                  refine z_iload1 F dX5_richest_62 ?_
                  refine z_callVI2 F (c5_backCell _ c y hy (by omega)) kX5_228 (by decide) ocM (Nat.le_of_ble_eq_true rfl) rfl dX5_richest_63 ?_
                  refine z_iload4 F dX5_richest_66 ?_
                  refine z_ic_ne F 78 dX5_richest_68 (by decide) (fun h68 => ?_) (fun h68 => ?_)
                  · refine z_iconst F 0 dX5_richest_78 zv_i_0 ?_
                    refine z_ior F dX5_richest_79 ?_
                    refine z_istore5 F dX5_richest_80 rfl ?_
                    refine z_iinc6 F 1 dX5_richest_82 rfl zv_i_1 ?_
                    refine z_goto F 37 dX5_richest_85 (by decide) ?_
                    have h := ih (c + 1) (by omega)
                    rw [show nI (c + 1) = nI c + 1 from nI_succ c, s_rset, if_neg (fun z => h68 z.2)] at h
                    exact h
                  · refine z_iconst F 1 dX5_richest_71 zv_i_1 ?_
                    refine z_iload6 F dX5_richest_72 ?_
                    refine z_ishl F dX5_richest_74 ?_
                    refine z_goto F 79 dX5_richest_75 (by decide) ?_
                    refine z_ior F dX5_richest_79 ?_
                    refine z_istore5 F dX5_richest_80 rfl ?_
                    refine z_iinc6 F 1 dX5_richest_82 rfl zv_i_1 ?_
                    refine z_goto F 37 dX5_richest_85 (by decide) ?_
                    have h := ih (c + 1) (by omega)
                    rw [show nI (c + 1) = nI c + 1 from nI_succ c, s_rset, if_pos ⟨h56, h68⟩] at h
                    exact h
          exact inner N 0 (by omega)
    exact loop 30 0 (by omega) none none
  · refine z_aload0 F dX5_richest_10 ?_
    refine z_ldc F (-1000001) dX5_richest_11 zw_721 ?_
    refine z_callVI1 F (c5_finding _ _ 0 (by decide) (by decide)) kX5_93 (by decide) ocM (Nat.le_of_ble_eq_true rfl) rfl dX5_richest_13 ?_
    refine hR _ _ _ _ dX5_richest_16 rfl ?_
    simp only [o_richest, h7, Bool.false_eq_true, if_true, if_false, Bool.and_true, Bool.true_and, Bool.and_false, Bool.false_and, Bool.and_self, and_self]; first | exact ⟨rfl, rfl⟩ | exact ⟨by decide, rfl⟩ | exact ⟨by decide, z_sm_r _⟩ | exact ⟨rfl, z_sm_r _⟩ | exact ⟨rfl, z_sm_as _⟩ | exact ⟨by decide, z_sm_fM _ (z_sm_as _)⟩
set_option maxHeartbeats 1000000 in
set_option maxRecDepth 20000 in
theorem c5_drawn (D : zD) (b : Nat) (h0 : 0 < b) (hb : b < 2 ^ 31) : z_CI SM zT yX5_drawn cX5_drawn 2 .int 0 [.ref 0, .int (nI b)] D (z_eq (nI (v_draw (D.1 1 5) b)) (z_row D 1 (s_d1 (D.1 1)))) := by
  refine z_startI SM_ok (by decide +kernel) (fun v hv => by simp at hv; rcases hv with rfl | rfl <;> rfl) (Nat.le_of_ble_eq_true rfl) (fun X F hR => ?_)
  show z_J X SM 0 [some (.ref 0), some (.int (nI b))] [] D
  refine z_aload0 F dX5_drawn_0 ?_
  refine z_getR F M_now fX5_9 dX5_drawn_1 ?_
  refine z_iconst F 5 dX5_drawn_4 zv_i_5 ?_
  refine z_aload0 F dX5_drawn_5 ?_
  refine z_getR F M_now fX5_9 dX5_drawn_6 ?_
  refine z_iconst F 5 dX5_drawn_9 zv_i_5 ?_
  refine z_iald F aM_now (5) rfl (by omega) dX5_drawn_10 ?_
  refine z_ldc F 1103515245 dX5_drawn_11 zw_979 ?_
  refine z_imul F dX5_drawn_13 ?_
  refine z_sipush F 12345 dX5_drawn_14 zv_s_12345 ?_
  refine z_iadd F dX5_drawn_17 ?_
  refine z_iast F aM_now (5) rfl (by omega) dX5_drawn_18 ?_
  refine z_aload0 F dX5_drawn_19 ?_
  refine z_getR F M_now fX5_9 dX5_drawn_20 ?_
  refine z_iconst F 5 dX5_drawn_23 zv_i_5 ?_
  refine z_iald F aM_now (5) rfl (by omega) dX5_drawn_24 ?_
  refine z_bipush F 8 dX5_drawn_25 zv_b_8 ?_
  refine z_iushr F dX5_drawn_27 ?_
  refine z_iload1 F dX5_drawn_28 ?_
  refine z_irem F dX5_drawn_29 (fun e => by have := (nI_eq (a := b) (b := 0) hb (by decide)).mp e; omega) ?_
  refine hR _ _ _ _ dX5_drawn_30 rfl ?_
  exact ⟨by rw [z_upr, u_eq]; exact v_draw_eq _ h0 hb, z_up_row _ _ _ _⟩
set_option maxHeartbeats 1000000 in
set_option maxRecDepth 20000 in
theorem c5_seed (D : zD) (x : Int32) : z_CI SM zT yX5_seed cX5_seed 2 .int 1 [.ref 0, .int x] D (z_eq (D.1 1 5) (z_row D 1 (upd (D.1 1) 5 x))) := by
  refine z_startI SM_ok (by decide +kernel) (fun v hv => by simp at hv; rcases hv with rfl | rfl <;> rfl) (Nat.le_of_ble_eq_true rfl) (fun X F hR => ?_)
  show z_J X SM 0 [some (.ref 0), some (.int x)] [] D
  refine z_aload0 F dX5_seed_0 ?_
  refine z_iconst F 5 dX5_seed_1 zv_i_5 ?_
  refine z_iload1 F dX5_seed_2 ?_
  refine z_callVI2 F (c5_become _ 5 _ (by decide)) kX5_129 (by decide) ocM (Nat.le_of_ble_eq_true rfl) rfl dX5_seed_3 ?_
  refine hR _ _ _ _ dX5_seed_6 rfl ?_
  exact ⟨rfl, rfl⟩
set_option maxHeartbeats 1000000 in
set_option maxRecDepth 20000 in
theorem c5_days (D : zD) (x : Int32) {N : Nat} (hN : D.1 1 4 = nI N) (h10 : N ≤ 10) : z_CI SM zT yX5_days cX5_days 6 .int 7 [.ref 0, .int x] D (z_eq (r_ans (o_days (D.1 1) N x)) (r_M D (o_days (D.1 1) N x))) := by
  refine z_startI SM_ok (by decide +kernel) (fun v hv => by simp at hv; rcases hv with rfl | rfl <;> rfl) (Nat.le_of_ble_eq_true rfl) (fun X F hR => ?_)
  show z_J X SM 0 [some (.ref 0), some (.int x), none, none, none, none] [] D
  refine z_iload1 F dX5_days_0 ?_
  refine z_iconst F 1 dX5_days_1 zv_i_1 ?_
  refine z_bipush F 12 dX5_days_2 zv_b_12 ?_
  refine z_callSI3 F (c5_within _ _ _ _) kX5_78 (by decide) (Nat.le_of_ble_eq_true rfl) rfl dX5_days_4 ?_
  refine z_ifb_ne F 17 dX5_days_7 (by decide) (fun h7 => ?_) (fun h7 => ?_)
  · refine z_aload0 F dX5_days_17 ?_
    refine z_bipush F 7 dX5_days_18 zv_b_7 ?_
    refine z_iload1 F dX5_days_20 ?_
    refine z_imul F dX5_days_21 ?_
    refine z_callVI1 F (c5_isTooLate _ _) kX5_166 (by decide) ocM (Nat.le_of_ble_eq_true rfl) rfl dX5_days_22 ?_
    refine z_ifb_ne F 37 dX5_days_25 (by decide) (fun h25 => ?_) (fun h25 => ?_)
    · simp only [decide_eq_true_eq] at h25
      refine z_aload0 F dX5_days_37 ?_
      refine z_ldc F (-1000005) dX5_days_38 zw_810 ?_
      refine z_callVI1 F (c5_finding _ _ 4 (by decide) (by decide)) kX5_93 (by decide) ocM (Nat.le_of_ble_eq_true rfl) rfl dX5_days_40 ?_
      refine hR _ _ _ _ dX5_days_43 rfl ?_
      simp only [o_days, h7, if_pos (show 9999 < D.1 1 0 + 7 * x ∨ D.1 1 4 = 0 from Or.inl h25), Bool.false_eq_true, if_true, if_false, Bool.and_true, Bool.true_and, Bool.and_false, Bool.false_and, Bool.and_self, and_self]; exact ⟨nF_4.symm, rfl⟩
    · simp only [decide_eq_false_iff_not] at h25
      refine z_aload0 F dX5_days_28 ?_
      refine z_getR F M_now fX5_9 dX5_days_29 ?_
      refine z_iconst F 4 dX5_days_32 zv_i_4 ?_
      refine z_iald F aM_now (4) rfl (by omega) dX5_days_33 ?_
      refine z_if_ne F 44 dX5_days_34 (by decide) (fun h34 => ?_) (fun h34 => ?_)
      · have hs4 : ¬ (9999 < D.1 1 0 + 7 * x ∨ D.1 1 4 = 0) := fun z => z.elim (fun e => h25 e) (fun e => h34 e)
        have h0 : 0 < N := by
          rcases Nat.eq_zero_or_pos N with e | e
          · exact absurd (by rw [hN, e]; rfl) h34
          · exact e
        obtain ⟨q, hq1, hq, rfl⟩ := b_in1 12 (by decide) h7
        have hqn := i_n_n (j := q) (by omega)
        refine z_iconst F 0 dX5_days_44 zv_i_0 ?_
        refine z_istore2 F dX5_days_45 rfl ?_
        refine z_iconst F 0 dX5_days_46 zv_i_0 ?_
        refine z_istore3 F dX5_days_47 rfl ?_
        have loop : ∀ (n c : Nat), c + n = q → ∀ f, f ≤ 10 * c → ∀ (a4 a5 : Option Value), z_J X SM 48 [some (.ref 0), some (.int (nI q)), some (.int (nI f)), some (.int (nI c)), a4, a5] [] (z_row D 1 (s_days (D.1 1) N c)) := by
          intro n
          induction n with
          | zero =>
            intro c hn f hf a4 a5
            refine z_iload3 F dX5_days_48 ?_
            refine z_iload1 F dX5_days_49 ?_
            refine z_ic_ge F 134 dX5_days_50 (by decide) (fun h50 => ?_) (fun h50 => ?_)
            · have ec : c = q := by omega
              subst ec
              refine z_iload2 F dX5_days_134 ?_
              refine z_if_ge F 142 dX5_days_135 (by decide) (fun h135 => ?_) (fun h135 => ?_)
              · refine z_aload0 F dX5_days_142 ?_
                refine z_aload0 F dX5_days_143 ?_
                refine z_iconst F 2 dX5_days_144 zv_i_2 ?_
                refine z_callVI1 F (c5_lieA _ (s_days (D.1 1) N c) 2 (by rw [s_days_4]; exact hN) h10) kX5_141 (by decide) ocM (Nat.le_of_ble_eq_true rfl) rfl dX5_days_145 ?_
                refine z_iconst F 3 dX5_days_148 zv_i_3 ?_
                refine z_callVI2 F (c5_sumA _ (s_days (D.1 1) N c) 3 _ (by rw [s_days_4]; exact hN) h10 (by decide)) kX5_144 (by decide) ocM (Nat.le_of_ble_eq_true rfl) rfl dX5_days_149 ?_
                refine hR _ _ _ _ dX5_days_152 rfl ?_
                simp only [o_days, h7, hs4, hqn, Bool.false_eq_true, if_true, if_false, Bool.and_true, Bool.true_and, Bool.and_false, Bool.false_and, Bool.and_self, and_self]
                exact ⟨rfl, rfl⟩
              · exact absurd (nI_pos' (by omega)) h135
            · exact absurd (nI_le (by omega) (by omega)) h50
          | succ n ih =>
            intro c hn f hf a4 a5
            refine z_iload3 F dX5_days_48 ?_
            refine z_iload1 F dX5_days_49 ?_
            refine z_ic_ge F 134 dX5_days_50 (by decide) (fun h50 => ?_) (fun h50 => ?_)
            · exact absurd h50 (nI_ge (by omega) (by omega))
            · obtain ⟨τ, hτ⟩ : ∃ τ, τ = s_days (D.1 1) N c := ⟨_, rfl⟩
              rw [← hτ]
              have hτ4 : τ 4 = nI N := by rw [hτ, s_days_4]; exact hN
              have hv := v_draw_lt (τ 5) h0
              have tl : ∀ (a6 : Option Value), z_J X SM 80 [some (.ref 0), some (.int (nI q)), some (.int (nI f)), some (.int (nI c)), some (.int (nI (v_draw (τ 5) N))), some (.int (s_dp τ))] [] (z_row D 1 (s_d1 (s_d1 τ))) := by
                intro _
                refine z_aload0 F dX5_days_80 ?_
                refine z_iload4 F dX5_days_81 ?_
                refine z_iconst F 0 dX5_days_83 zv_i_0 ?_
                refine z_callVI2 F (c5_isInA D (s_d1 (s_d1 τ)) (v_draw (τ 5) N) 0 (by omega)) kX5_135 (by decide) ocM (Nat.le_of_ble_eq_true rfl) rfl dX5_days_84 ?_
                refine z_ifb_ne F 100 dX5_days_87 (by decide) (fun h87 => ?_) (fun h87 => ?_)
                · have hpl : (s_d1 (s_d1 τ)) (16 + 8 * (v_draw (τ 5) N) + 4) = 0 ∨ (s_d1 (s_d1 τ)) (16 + 8 * (v_draw (τ 5) N) + 4) = 3 := Or.inl (of_decide_eq_true h87)
                  refine z_iload2 F dX5_days_100 ?_
                  refine z_iconst F 0 dX5_days_101 zv_i_0 ?_
                  refine z_aload0 F dX5_days_102 ?_
                  refine z_iload4 F dX5_days_103 ?_
                  refine z_iload5 F dX5_days_105 ?_
                  refine z_callVI2 F (by have h := c5_goesTo (z_row D 1 (s_d1 (s_d1 τ))) (v_draw (τ 5) N) (s_dp τ) (by omega); rw [z_rowr, z_row_row] at h; exact h) kX5_86 (by decide) ocM (Nat.le_of_ble_eq_true rfl) rfl dX5_days_107 ?_
                  refine z_min F zw_820 (by decide) rfl (Nat.le_of_ble_eq_true rfl) dX5_days_110 ?_
                  rw [show i_min ((s_d1 (s_d1 τ)) (16 + 8 * (v_draw (τ 5) N) + 4)) 0 = 0 by rcases hpl with e | e <;> rw [e] <;> decide]
                  refine z_iadd F dX5_days_113 ?_
                  rw [i_add0]
                  refine z_istore2 F dX5_days_114 rfl ?_
                  have e2 : s_d2 τ N = s_goTo (s_d1 (s_d1 τ)) (v_draw (τ 5) N) (s_dp τ) := by
                    unfold s_d2
                    rw [if_pos hpl]
                  rw [← e2]
                  obtain ⟨f3, hf3, e3⟩ := s_fell_10 (s_d1 (s_d2 τ N)) h10 (v_draw (s_d2 τ N 5) 8)
                  refine z_iload2 F dX5_days_115 ?_
                  refine z_aload0 F dX5_days_116 ?_
                  refine z_aload0 F dX5_days_117 ?_
                  refine z_bipush F 8 dX5_days_118 zv_b_8 ?_
                  refine z_callVI1 F (by have h := c5_drawn (z_row D 1 (s_d2 τ N)) 8 (by decide) (by omega); rw [z_rowr, z_row_row] at h; exact h) kX5_232 (by decide) ocM (Nat.le_of_ble_eq_true rfl) rfl dX5_days_120 ?_
                  refine z_callVI1 F (by have h := c5_stepsGo (z_row D 1 (s_d1 (s_d2 τ N))) (v_draw (s_d2 τ N 5) 8) (by rw [z_rowr, s_d1_N (by decide), s_d2_lo (by decide) (by decide)]; exact hτ4) h10 (by have := v_draw_lt (s_d2 τ N 5) (b := 8) (by decide); omega); rw [z_rowr, z_row_row, e3] at h; exact h) kX5_170 (by decide) ocM (Nat.le_of_ble_eq_true rfl) rfl dX5_days_123 ?_
                  refine z_iadd F dX5_days_126 ?_
                  rw [nI_add]
                  refine z_istore2 F dX5_days_127 rfl ?_
                  refine z_iinc3 F 1 dX5_days_128 rfl zv_i_1 ?_
                  refine z_goto F 48 dX5_days_131 (by decide) ?_
                  have h := ih (c + 1) (by omega) (f + f3) (by omega) (some (.int (nI (v_draw (τ 5) N)))) (some (.int (s_dp τ)))
                  rw [show nI (c + 1) = nI c + 1 from nI_succ c, s_days, ← hτ] at h
                  exact h
                · refine z_aload0 F dX5_days_90 ?_
                  refine z_iload4 F dX5_days_91 ?_
                  refine z_iconst F 3 dX5_days_93 zv_i_3 ?_
                  refine z_callVI2 F (c5_isInA D (s_d1 (s_d1 τ)) (v_draw (τ 5) N) 3 (by omega)) kX5_135 (by decide) ocM (Nat.le_of_ble_eq_true rfl) rfl dX5_days_94 ?_
                  refine z_ifb_eq F 115 dX5_days_97 (by decide) (fun h97 => ?_) (fun h97 => ?_)
                  · have e2 : s_d2 τ N = (s_d1 (s_d1 τ)) := by
                      unfold s_d2
                      rw [if_neg (fun z => z.elim (fun z => of_decide_eq_false h87 z) (fun z => of_decide_eq_false h97 z))]
                    rw [← e2]
                    obtain ⟨f3, hf3, e3⟩ := s_fell_10 (s_d1 (s_d2 τ N)) h10 (v_draw (s_d2 τ N 5) 8)
                    refine z_iload2 F dX5_days_115 ?_
                    refine z_aload0 F dX5_days_116 ?_
                    refine z_aload0 F dX5_days_117 ?_
                    refine z_bipush F 8 dX5_days_118 zv_b_8 ?_
                    refine z_callVI1 F (by have h := c5_drawn (z_row D 1 (s_d2 τ N)) 8 (by decide) (by omega); rw [z_rowr, z_row_row] at h; exact h) kX5_232 (by decide) ocM (Nat.le_of_ble_eq_true rfl) rfl dX5_days_120 ?_
                    refine z_callVI1 F (by have h := c5_stepsGo (z_row D 1 (s_d1 (s_d2 τ N))) (v_draw (s_d2 τ N 5) 8) (by rw [z_rowr, s_d1_N (by decide), s_d2_lo (by decide) (by decide)]; exact hτ4) h10 (by have := v_draw_lt (s_d2 τ N 5) (b := 8) (by decide); omega); rw [z_rowr, z_row_row, e3] at h; exact h) kX5_170 (by decide) ocM (Nat.le_of_ble_eq_true rfl) rfl dX5_days_123 ?_
                    refine z_iadd F dX5_days_126 ?_
                    rw [nI_add]
                    refine z_istore2 F dX5_days_127 rfl ?_
                    refine z_iinc3 F 1 dX5_days_128 rfl zv_i_1 ?_
                    refine z_goto F 48 dX5_days_131 (by decide) ?_
                    have h := ih (c + 1) (by omega) (f + f3) (by omega) (some (.int (nI (v_draw (τ 5) N)))) (some (.int (s_dp τ)))
                    rw [show nI (c + 1) = nI c + 1 from nI_succ c, s_days, ← hτ] at h
                    exact h
                  · have hpl : (s_d1 (s_d1 τ)) (16 + 8 * (v_draw (τ 5) N) + 4) = 0 ∨ (s_d1 (s_d1 τ)) (16 + 8 * (v_draw (τ 5) N) + 4) = 3 := Or.inr (of_decide_eq_true h97)
                    refine z_iload2 F dX5_days_100 ?_
                    refine z_iconst F 0 dX5_days_101 zv_i_0 ?_
                    refine z_aload0 F dX5_days_102 ?_
                    refine z_iload4 F dX5_days_103 ?_
                    refine z_iload5 F dX5_days_105 ?_
                    refine z_callVI2 F (by have h := c5_goesTo (z_row D 1 (s_d1 (s_d1 τ))) (v_draw (τ 5) N) (s_dp τ) (by omega); rw [z_rowr, z_row_row] at h; exact h) kX5_86 (by decide) ocM (Nat.le_of_ble_eq_true rfl) rfl dX5_days_107 ?_
                    refine z_min F zw_820 (by decide) rfl (Nat.le_of_ble_eq_true rfl) dX5_days_110 ?_
                    rw [show i_min ((s_d1 (s_d1 τ)) (16 + 8 * (v_draw (τ 5) N) + 4)) 0 = 0 by rcases hpl with e | e <;> rw [e] <;> decide]
                    refine z_iadd F dX5_days_113 ?_
                    rw [i_add0]
                    refine z_istore2 F dX5_days_114 rfl ?_
                    have e2 : s_d2 τ N = s_goTo (s_d1 (s_d1 τ)) (v_draw (τ 5) N) (s_dp τ) := by
                      unfold s_d2
                      rw [if_pos hpl]
                    rw [← e2]
                    obtain ⟨f3, hf3, e3⟩ := s_fell_10 (s_d1 (s_d2 τ N)) h10 (v_draw (s_d2 τ N 5) 8)
                    refine z_iload2 F dX5_days_115 ?_
                    refine z_aload0 F dX5_days_116 ?_
                    refine z_aload0 F dX5_days_117 ?_
                    refine z_bipush F 8 dX5_days_118 zv_b_8 ?_
                    refine z_callVI1 F (by have h := c5_drawn (z_row D 1 (s_d2 τ N)) 8 (by decide) (by omega); rw [z_rowr, z_row_row] at h; exact h) kX5_232 (by decide) ocM (Nat.le_of_ble_eq_true rfl) rfl dX5_days_120 ?_
                    refine z_callVI1 F (by have h := c5_stepsGo (z_row D 1 (s_d1 (s_d2 τ N))) (v_draw (s_d2 τ N 5) 8) (by rw [z_rowr, s_d1_N (by decide), s_d2_lo (by decide) (by decide)]; exact hτ4) h10 (by have := v_draw_lt (s_d2 τ N 5) (b := 8) (by decide); omega); rw [z_rowr, z_row_row, e3] at h; exact h) kX5_170 (by decide) ocM (Nat.le_of_ble_eq_true rfl) rfl dX5_days_123 ?_
                    refine z_iadd F dX5_days_126 ?_
                    rw [nI_add]
                    refine z_istore2 F dX5_days_127 rfl ?_
                    refine z_iinc3 F 1 dX5_days_128 rfl zv_i_1 ?_
                    refine z_goto F 48 dX5_days_131 (by decide) ?_
                    have h := ih (c + 1) (by omega) (f + f3) (by omega) (some (.int (nI (v_draw (τ 5) N)))) (some (.int (s_dp τ)))
                    rw [show nI (c + 1) = nI c + 1 from nI_succ c, s_days, ← hτ] at h
                    exact h
              refine z_aload0 F dX5_days_53 ?_
              refine z_aload0 F dX5_days_54 ?_
              refine z_getR F M_now fX5_9 dX5_days_55 ?_
              refine z_iconst F 4 dX5_days_58 zv_i_4 ?_
              refine z_iald F aM_now (4) rfl (by omega) dX5_days_59 ?_
              rw [z_rowr, hτ4]
              refine z_callVI1 F (by have h := c5_drawn (z_row D 1 τ) N h0 (by omega); rw [z_rowr, z_row_row] at h; exact h) kX5_232 (by decide) ocM (Nat.le_of_ble_eq_true rfl) rfl dX5_days_60 ?_
              refine z_istore4 F dX5_days_63 rfl ?_
              refine z_aload0 F dX5_days_65 ?_
              refine z_iconst F 2 dX5_days_66 zv_i_2 ?_
              refine z_callVI1 F (by have h := c5_drawn (z_row D 1 (s_d1 τ)) 2 (by decide) (by omega); rw [z_rowr, z_row_row] at h; exact h) kX5_232 (by decide) ocM (Nat.le_of_ble_eq_true rfl) rfl dX5_days_67 ?_
              refine z_if_ne F 77 dX5_days_70 (by decide) (fun h70 => ?_) (fun h70 => ?_)
              · have e5 : s_dp τ = 3 := by
                  unfold s_dp
                  rw [if_neg (fun z => h70 (by rw [z]; rfl))]
                refine z_iconst F 3 dX5_days_77 zv_i_3 ?_
                refine z_istore5 F dX5_days_78 rfl ?_
                rw [← e5]
                exact tl none
              · have e5 : s_dp τ = 0 := by
                  unfold s_dp
                  rw [if_pos ((nI_eq (a := v_draw (s_d1 τ 5) 2) (b := 0) (by have := v_draw_lt (s_d1 τ 5) (b := 2) (by decide); omega) (by decide)).mp h70)]
                refine z_iconst F 0 dX5_days_73 zv_i_0 ?_
                refine z_goto F 78 dX5_days_74 (by decide) ?_
                refine z_istore5 F dX5_days_78 rfl ?_
                rw [← e5]
                exact tl none
        have h := loop q 0 (by omega) 0 (by omega) none none
        rw [s_days, z_row_eq] at h
        exact h
      · refine z_aload0 F dX5_days_37 ?_
        refine z_ldc F (-1000005) dX5_days_38 zw_810 ?_
        refine z_callVI1 F (c5_finding _ _ 4 (by decide) (by decide)) kX5_93 (by decide) ocM (Nat.le_of_ble_eq_true rfl) rfl dX5_days_40 ?_
        refine hR _ _ _ _ dX5_days_43 rfl ?_
        simp only [o_days, h7, if_pos (show 9999 < D.1 1 0 + 7 * x ∨ D.1 1 4 = 0 from Or.inr h34), Bool.false_eq_true, if_true, if_false, Bool.and_true, Bool.true_and, Bool.and_false, Bool.false_and, Bool.and_self, and_self]; exact ⟨nF_4.symm, rfl⟩
  · refine z_aload0 F dX5_days_10 ?_
    refine z_ldc F (-1000001) dX5_days_11 zw_721 ?_
    refine z_callVI1 F (c5_finding _ _ 0 (by decide) (by decide)) kX5_93 (by decide) ocM (Nat.le_of_ble_eq_true rfl) rfl dX5_days_13 ?_
    refine hR _ _ _ _ dX5_days_16 rfl ?_
    simp only [o_days, h7, Bool.false_eq_true, if_true, if_false, Bool.and_true, Bool.true_and, Bool.and_false, Bool.false_and, Bool.and_self, and_self]; first | exact ⟨rfl, rfl⟩ | exact ⟨by decide, rfl⟩ | exact ⟨by decide, z_sm_r _⟩ | exact ⟨rfl, z_sm_r _⟩ | exact ⟨rfl, z_sm_as _⟩ | exact ⟨by decide, z_sm_fM _ (z_sm_as _)⟩
