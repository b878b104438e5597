theorem v_of_may (σ : Nat → Int32) (j : Nat) {w v : Int32} (h : b_may w v = true) : v_of σ (nI j) w = σ (16 + 8 * i_n (nI j) + i_n w) := by
  obtain ⟨a, ha, rfl⟩ := b_in0 6 (by decide) (b_may_in h)
  unfold v_of
  rw [if_neg (fun e => by have := (nI_eq (a := a) (b := 8) (by omega) (by decide)).mp e; omega), if_neg (fun e => by have := (nI_eq (a := a) (b := 9) (by omega) (by decide)).mp e; omega), if_neg (fun e => by have := (nI_eq (a := a) (b := 10) (by omega) (by decide)).mp e; omega)]
set_option maxHeartbeats 1000000 in
set_option maxRecDepth 20000 in
theorem c4_isWithin (D : zD) (v lo hi : Int32) : z_CI SX zT yX4_isWithin cX4_isWithin 3 .boolean 0 [.int v, .int lo, .int hi] D (z_eq (z_b (b_in v lo hi)) D) := by
  refine z_startI SX_ok (by decide +kernel) (fun v hv => by simp at hv; rcases hv with rfl | rfl | rfl <;> rfl) (Nat.le_of_ble_eq_true rfl) (fun X F hR => ?_)
  show z_J X SX 0 [some (.int v), some (.int lo), some (.int hi)] [] D
  refine z_iload0 F dX4_isWithin_0 ?_
  refine z_iload1 F dX4_isWithin_1 ?_
  refine z_ic_lt F 14 dX4_isWithin_2 (by decide) (fun h2 => ?_) (fun h2 => ?_)
  · refine z_iconst F 0 dX4_isWithin_14 zv_i_0 ?_
    refine hR _ _ _ _ dX4_isWithin_15 rfl ?_
    exact ⟨by rw [b_in, decide_eq_false (Int32.not_le.mpr h2)]; rfl, rfl⟩
  · refine z_iload0 F dX4_isWithin_5 ?_
    refine z_iload2 F dX4_isWithin_6 ?_
    refine z_ic_gt F 14 dX4_isWithin_7 (by decide) (fun h7 => ?_) (fun h7 => ?_)
    · refine z_iconst F 0 dX4_isWithin_14 zv_i_0 ?_
      refine hR _ _ _ _ dX4_isWithin_15 rfl ?_
      exact ⟨by rw [b_in, decide_eq_false (Int32.not_le.mpr h7), Bool.and_false]; rfl, rfl⟩
    · refine z_iconst F 1 dX4_isWithin_10 zv_i_1 ?_
      refine z_goto F 15 dX4_isWithin_11 (by decide) ?_
      refine hR _ _ _ _ dX4_isWithin_15 rfl ?_
      exact ⟨by rw [b_in, decide_eq_true (Int32.not_lt.mp h2), decide_eq_true (Int32.not_lt.mp h7)]; rfl, rfl⟩
set_option maxHeartbeats 1000000 in
set_option maxRecDepth 20000 in
theorem c4_isPlace (D : zD) (k : Int32) : z_CI SX zT yX4_isPlace cX4_isPlace 1 .boolean 1 [.int k] D (z_eq (z_b (b_in k 0 4)) D) := by
  refine z_startI SX_ok (by decide +kernel) (fun v hv => by simp at hv; subst hv; rfl) (Nat.le_of_ble_eq_true rfl) (fun X F hR => ?_)
  show z_J X SX 0 [some (.int k)] [] D
  refine z_iload0 F dX4_isPlace_0 ?_
  refine z_iconst F 0 dX4_isPlace_1 zv_i_0 ?_
  refine z_iconst F 4 dX4_isPlace_2 zv_i_4 ?_
  refine z_callSI3 F (c4_isWithin _ _ _ _) kX4_51 (by decide) (Nat.le_of_ble_eq_true rfl) rfl dX4_isPlace_3 ?_
  refine hR _ _ _ _ dX4_isPlace_6 (z_narB _) ?_
  exact ⟨rfl, rfl⟩
set_option maxHeartbeats 1000000 in
set_option maxRecDepth 20000 in
theorem c4_isSheet (D : zD) (k : Int32) : z_CI SX zT yX4_isSheet cX4_isSheet 1 .boolean 1 [.int k] D (z_eq (z_b (b_in k 0 3)) D) := by
  refine z_startI SX_ok (by decide +kernel) (fun v hv => by simp at hv; subst hv; rfl) (Nat.le_of_ble_eq_true rfl) (fun X F hR => ?_)
  show z_J X SX 0 [some (.int k)] [] D
  refine z_iload0 F dX4_isSheet_0 ?_
  refine z_iconst F 0 dX4_isSheet_1 zv_i_0 ?_
  refine z_iconst F 3 dX4_isSheet_2 zv_i_3 ?_
  refine z_callSI3 F (c4_isWithin _ _ _ _) kX4_51 (by decide) (Nat.le_of_ble_eq_true rfl) rfl dX4_isSheet_3 ?_
  refine hR _ _ _ _ dX4_isSheet_6 (z_narB _) ?_
  exact ⟨rfl, rfl⟩
set_option maxHeartbeats 1000000 in
set_option maxRecDepth 20000 in
theorem c4_mayBecome (D : zD) (x v : Int32) : z_CI SX zT yX4_mayBecome cX4_mayBecome 2 .boolean 1 [.int x, .int v] D (z_eq (z_b (b_may x v)) D) := by
  refine z_startI SX_ok (by decide +kernel) (fun v hv => by simp at hv; rcases hv with rfl | rfl <;> rfl) (Nat.le_of_ble_eq_true rfl) (fun X F hR => ?_)
  show z_J X SX 0 [some (.int x), some (.int v)] [] D
  refine z_iload0 F dX4_mayBecome_0 ?_
  refine z_tsw_0_6 rfl (fun h1 => ?_) (fun h1 => ?_) (fun h1 => ?_) (fun h1 => ?_) (fun h1 => ?_) (fun h1 => ?_) (fun h1 => ?_) (fun h1 => ?_)
  · refine z_tabIn F 44 dX4_mayBecome_1 (by rw [h1]; decide) (by rw [h1]; decide) (by rw [h1]; rfl) (by decide) ?_
    refine z_iload1 F dX4_mayBecome_44 ?_
    refine z_iconst F 0 dX4_mayBecome_45 zv_i_0 ?_
    refine z_bipush F 6 dX4_mayBecome_46 zv_b_6 ?_
    refine z_callSI3 F (c4_isWithin _ _ _ _) kX4_51 (by decide) (Nat.le_of_ble_eq_true rfl) rfl dX4_mayBecome_48 ?_
    refine hR _ _ _ _ dX4_mayBecome_51 (z_narB _) ?_
    refine ⟨?_, rfl⟩
    first
      | (subst h1; rfl)
      | (obtain ⟨n0, n1, n2, n3, n4, n5, n6⟩ := z_out06 h1; simp only [b_may, n0, n1, n2, n3, n5, n6, if_false]; rfl)
  · refine z_tabIn F 52 dX4_mayBecome_1 (by rw [h1]; decide) (by rw [h1]; decide) (by rw [h1]; rfl) (by decide) ?_
    refine z_iload1 F dX4_mayBecome_52 ?_
    refine z_iconst F 1 dX4_mayBecome_53 zv_i_1 ?_
    refine z_bipush F 40 dX4_mayBecome_54 zv_b_40 ?_
    refine z_callSI3 F (c4_isWithin _ _ _ _) kX4_51 (by decide) (Nat.le_of_ble_eq_true rfl) rfl dX4_mayBecome_56 ?_
    refine hR _ _ _ _ dX4_mayBecome_59 (z_narB _) ?_
    refine ⟨?_, rfl⟩
    first
      | (subst h1; rfl)
      | (obtain ⟨n0, n1, n2, n3, n4, n5, n6⟩ := z_out06 h1; simp only [b_may, n0, n1, n2, n3, n5, n6, if_false]; rfl)
  · refine z_tabIn F 60 dX4_mayBecome_1 (by rw [h1]; decide) (by rw [h1]; decide) (by rw [h1]; rfl) (by decide) ?_
    refine z_iload1 F dX4_mayBecome_60 ?_
    refine z_iconst F 1 dX4_mayBecome_61 zv_i_1 ?_
    refine z_bipush F 50 dX4_mayBecome_62 zv_b_50 ?_
    refine z_callSI3 F (c4_isWithin _ _ _ _) kX4_51 (by decide) (Nat.le_of_ble_eq_true rfl) rfl dX4_mayBecome_64 ?_
    refine hR _ _ _ _ dX4_mayBecome_67 (z_narB _) ?_
    refine ⟨?_, rfl⟩
    first
      | (subst h1; rfl)
      | (obtain ⟨n0, n1, n2, n3, n4, n5, n6⟩ := z_out06 h1; simp only [b_may, n0, n1, n2, n3, n5, n6, if_false]; rfl)
  · refine z_tabIn F 68 dX4_mayBecome_1 (by rw [h1]; decide) (by rw [h1]; decide) (by rw [h1]; rfl) (by decide) ?_
    refine z_iload1 F dX4_mayBecome_68 ?_
    refine z_iconst F 0 dX4_mayBecome_69 zv_i_0 ?_
    refine z_sipush F 240 dX4_mayBecome_70 zv_s_240 ?_
    refine z_callSI3 F (c4_isWithin _ _ _ _) kX4_51 (by decide) (Nat.le_of_ble_eq_true rfl) rfl dX4_mayBecome_73 ?_
    refine hR _ _ _ _ dX4_mayBecome_76 (z_narB _) ?_
    refine ⟨?_, rfl⟩
    first
      | (subst h1; rfl)
      | (obtain ⟨n0, n1, n2, n3, n4, n5, n6⟩ := z_out06 h1; simp only [b_may, n0, n1, n2, n3, n5, n6, if_false]; rfl)
  · refine z_tabIn F 93 dX4_mayBecome_1 (by rw [h1]; decide) (by rw [h1]; decide) (by rw [h1]; rfl) (by decide) ?_
    refine z_iconst F 0 dX4_mayBecome_93 zv_i_0 ?_
    refine hR _ _ _ _ dX4_mayBecome_94 rfl ?_
    refine ⟨?_, rfl⟩
    first
      | (subst h1; rfl)
      | (obtain ⟨n0, n1, n2, n3, n4, n5, n6⟩ := z_out06 h1; simp only [b_may, n0, n1, n2, n3, n5, n6, if_false]; rfl)
  · refine z_tabIn F 77 dX4_mayBecome_1 (by rw [h1]; decide) (by rw [h1]; decide) (by rw [h1]; rfl) (by decide) ?_
    refine z_iload1 F dX4_mayBecome_77 ?_
    refine z_iconst F 0 dX4_mayBecome_78 zv_i_0 ?_
    refine z_bipush F 9 dX4_mayBecome_79 zv_b_9 ?_
    refine z_callSI3 F (c4_isWithin _ _ _ _) kX4_51 (by decide) (Nat.le_of_ble_eq_true rfl) rfl dX4_mayBecome_81 ?_
    refine hR _ _ _ _ dX4_mayBecome_84 (z_narB _) ?_
    refine ⟨?_, rfl⟩
    first
      | (subst h1; rfl)
      | (obtain ⟨n0, n1, n2, n3, n4, n5, n6⟩ := z_out06 h1; simp only [b_may, n0, n1, n2, n3, n5, n6, if_false]; rfl)
  · refine z_tabIn F 85 dX4_mayBecome_1 (by rw [h1]; decide) (by rw [h1]; decide) (by rw [h1]; rfl) (by decide) ?_
    refine z_iload1 F dX4_mayBecome_85 ?_
    refine z_iconst F 0 dX4_mayBecome_86 zv_i_0 ?_
    refine z_bipush F 7 dX4_mayBecome_87 zv_b_7 ?_
    refine z_callSI3 F (c4_isWithin _ _ _ _) kX4_51 (by decide) (Nat.le_of_ble_eq_true rfl) rfl dX4_mayBecome_89 ?_
    refine hR _ _ _ _ dX4_mayBecome_92 (z_narB _) ?_
    refine ⟨?_, rfl⟩
    first
      | (subst h1; rfl)
      | (obtain ⟨n0, n1, n2, n3, n4, n5, n6⟩ := z_out06 h1; simp only [b_may, n0, n1, n2, n3, n5, n6, if_false]; rfl)
  · refine z_tabOut F 93 dX4_mayBecome_1 h1 (by decide) ?_
    refine z_iconst F 0 dX4_mayBecome_93 zv_i_0 ?_
    refine hR _ _ _ _ dX4_mayBecome_94 rfl ?_
    refine ⟨?_, rfl⟩
    first
      | (subst h1; rfl)
      | (obtain ⟨n0, n1, n2, n3, n4, n5, n6⟩ := z_out06 h1; simp only [b_may, n0, n1, n2, n3, n5, n6, if_false]; rfl)
set_option maxHeartbeats 1000000 in
set_option maxRecDepth 20000 in
theorem c4_isTooFar (D : zD) (x : Int32) : z_CI SX zT yX4_isTooFar cX4_isTooFar 2 .boolean 0 [.ref 0, .int x] D (z_eq (z_b (decide (9999 < D.1 1 0 + x))) D) := by
  refine z_startI SX_ok (by decide +kernel) (fun v hv => by simp at hv; rcases hv with rfl | rfl <;> rfl) (Nat.le_of_ble_eq_true rfl) (fun X F hR => ?_)
  show z_J X SX 0 [some (.ref 0), some (.int x)] [] D
  refine z_aload0 F dX4_isTooFar_0 ?_
  refine z_getR F PH_coat fX4_10 dX4_isTooFar_1 ?_
  refine z_getI F (C_step z_r1) fX4_125 dX4_isTooFar_4 ?_
  refine z_iload1 F dX4_isTooFar_7 ?_
  refine z_iadd F dX4_isTooFar_8 ?_
  refine z_sipush F 9999 dX4_isTooFar_9 zv_s_9999 ?_
  refine z_ic_le F 19 dX4_isTooFar_12 (by decide) (fun h12 => ?_) (fun h12 => ?_)
  · refine z_iconst F 0 dX4_isTooFar_19 zv_i_0 ?_
    refine hR _ _ _ _ dX4_isTooFar_20 rfl ?_
    exact ⟨by rw [decide_eq_false (Int32.not_lt.mpr h12)]; rfl, rfl⟩
  · refine z_iconst F 1 dX4_isTooFar_15 zv_i_1 ?_
    refine z_goto F 20 dX4_isTooFar_16 (by decide) ?_
    refine hR _ _ _ _ dX4_isTooFar_20 rfl ?_
    exact ⟨by rw [decide_eq_true (Int32.not_le.mp h12)]; rfl, rfl⟩
set_option maxHeartbeats 1000000 in
set_option maxRecDepth 20000 in
theorem c4_finding (D : zD) (k : Nat) (hk : k < 7) : z_CI SX zT yX4_finding cX4_finding 2 .int 0 [.ref 0, .int (nI k)] D (z_eq (nF k) (z_fX D k)) := by
  refine z_startI SX_ok (by decide +kernel) (fun v hv => by simp at hv; rcases hv with rfl | rfl <;> rfl) (Nat.le_of_ble_eq_true rfl) (fun X F hR => ?_)
  show z_J X SX 0 [some (.ref 0), some (.int (nI k))] [] D
  refine z_aload0 F dX4_finding_0 ?_
  refine z_getR F PH_findingsTold fX4_39 dX4_finding_1 ?_
  refine z_iload1 F dX4_finding_4 ?_
  refine z_dup2 F dX4_finding_5 rfl rfl ?_
  refine z_iald F aFound (k) rfl (by omega) dX4_finding_6 ?_
  refine z_iconst F 1 dX4_finding_7 zv_i_1 ?_
  refine z_iadd F dX4_finding_8 ?_
  refine z_iast F aFound (k) rfl (by omega) dX4_finding_9 ?_
  refine z_ldcw F (-1000001) dX4_finding_10 zw_155 ?_
  refine z_iload1 F dX4_finding_13 ?_
  refine z_isub F dX4_finding_14 ?_
  refine hR _ _ _ _ dX4_finding_15 rfl ?_
  exact ⟨rfl, z_up_row _ _ _ _⟩
set_option maxHeartbeats 1000000 in
set_option maxRecDepth 20000 in
theorem c4_coin (D : zD) (x : Int32) {N : Nat} (hN : D.1 1 4 = nI N) (h10 : N ≤ 10) : z_CI SX zT yX4_coin cX4_coin 2 .int 3 [.ref 0, .int x] D (z_eq (r_ans (o_coin (D.1 1) N x)) (r_X D (o_coin (D.1 1) N x))) := by
  refine z_startI SX_ok (by decide +kernel) (fun v hv => by simp at hv; rcases hv with rfl | rfl <;> rfl) (Nat.le_of_ble_eq_true rfl) (fun X F hR => ?_)
  show z_J X SX 0 [some (.ref 0), some (.int x)] [] D
  refine z_iload1 F dX4_coin_0 ?_
  refine z_iconst F 0 dX4_coin_1 zv_i_0 ?_
  refine z_bipush F 6 dX4_coin_2 zv_b_6 ?_
  refine z_callSI3 F (c4_isWithin _ _ _ _) kX4_51 (by decide) (Nat.le_of_ble_eq_true rfl) rfl dX4_coin_4 ?_
  refine z_ifb_ne F 16 dX4_coin_7 (by decide) (fun h7 => ?_) (fun h7 => ?_)
  · refine z_aload0 F dX4_coin_16 ?_
    refine z_getR F PH_coat fX4_10 dX4_coin_17 ?_
    refine z_getI F (C_coins z_r1) fX4_59 dX4_coin_20 ?_
    refine z_bipush F 10 dX4_coin_23 zv_b_10 ?_
    rw [hN]
    refine z_ic_lt F 34 dX4_coin_25 (by decide) (fun h25 => ?_) (fun h25 => ?_)
    · have hlt : N < 10 := (nI_ltI (a := N) (b := 10) (by omega) (by decide)).mp h25
      have ne : ¬ N = 10 := by omega
      refine z_aload0 F dX4_coin_34 ?_
      refine z_getR F PH_coat fX4_10 dX4_coin_35 ?_
      refine z_iload1 F dX4_coin_38 ?_
      refine z_callVR1 F (c0_newCoin D z_r1 hN hlt x) kX4_63 (by decide) (ocC z_r1) (Nat.le_of_ble_eq_true rfl) rfl dX4_coin_39 ?_
      refine z_pop F dX4_coin_42 rfl ?_
      refine z_aload0 F dX4_coin_43 ?_
      refine z_getR F PH_coat fX4_10 dX4_coin_44 ?_
      refine z_getI F (C_coins z_r1) fX4_59 dX4_coin_47 ?_
      refine z_iconst F 1 dX4_coin_50 zv_i_1 ?_
      refine z_isub F dX4_coin_51 ?_
      refine hR _ _ _ _ dX4_coin_52 rfl ?_
      simp only [o_coin, h7, ne, Bool.false_eq_true, if_true, if_false, Bool.and_true, Bool.true_and, Bool.and_false, Bool.false_and, Bool.and_self, and_self]
      refine ⟨?_, rfl⟩
      rw [z_rowr, s_come, s_goTo_lo _ _ (by decide), u_eq]
      show nI N + 1 - 1 = nI N
      have h := pk_sub (show 1 ≤ N + 1 by omega)
      rw [nI_succ N, Nat.add_sub_cancel] at h
      exact h
    · have e : N = 10 := by
        have := (nI_leI (a := 10) (b := N) (by decide) (by omega)).mp (Int32.not_lt.mp h25)
        omega
      refine z_aload0 F dX4_coin_28 ?_
      refine z_iconst F 1 dX4_coin_29 zv_i_1 ?_
      refine z_callVI1 F (c4_finding _ 1 (by decide)) kX4_55 (by decide) ocPH (Nat.le_of_ble_eq_true rfl) rfl dX4_coin_30 ?_
      refine hR _ _ _ _ dX4_coin_33 rfl ?_
      simp only [o_coin, h7, e, Bool.false_eq_true, if_true, if_false, Bool.and_true, Bool.true_and, Bool.and_false, Bool.false_and, Bool.and_self, and_self]; first | exact ⟨rfl, rfl⟩ | exact ⟨by decide, rfl⟩ | exact ⟨by decide, z_sm_r _⟩ | exact ⟨rfl, z_sm_r _⟩
  · refine z_aload0 F dX4_coin_10 ?_
    refine z_iconst F 0 dX4_coin_11 zv_i_0 ?_
    refine z_callVI1 F (c4_finding _ 0 (by decide)) kX4_55 (by decide) ocPH (Nat.le_of_ble_eq_true rfl) rfl dX4_coin_12 ?_
    refine hR _ _ _ _ dX4_coin_15 rfl ?_
    simp only [o_coin, h7, Bool.false_eq_true, if_true, if_false, Bool.and_true, Bool.true_and, Bool.and_false, Bool.false_and, Bool.and_self, and_self]; first | exact ⟨rfl, rfl⟩ | exact ⟨by decide, rfl⟩ | exact ⟨by decide, z_sm_r _⟩ | exact ⟨rfl, z_sm_r _⟩
set_option maxHeartbeats 1000000 in
set_option maxRecDepth 20000 in
theorem c4_of (D : zD) (x y : Int32) {N : Nat} (hN : D.1 1 4 = nI N) (h10 : N ≤ 10) : z_CI SX zT yX4_of cX4_of 3 .int 3 [.ref 0, .int x, .int y] D (z_eq (q_ans (o_of (D.1 1) N x y)) (q_X D (o_of (D.1 1) N x y))) := by
  refine z_startI SX_ok (by decide +kernel) (fun v hv => by simp at hv; rcases hv with rfl | rfl | rfl <;> rfl) (Nat.le_of_ble_eq_true rfl) (fun X F hR => ?_)
  show z_J X SX 0 [some (.ref 0), some (.int x), some (.int y)] [] D
  refine z_aload0 F dX4_of_0 ?_
  refine z_getR F PH_coat fX4_10 dX4_of_1 ?_
  refine z_iload1 F dX4_of_4 ?_
  refine z_callVI1 F (c0_has _ z_r1 hN h10 _) kX4_67 (by decide) (ocC z_r1) (Nat.le_of_ble_eq_true rfl) rfl dX4_of_5 ?_
  refine z_ifb_eq F 21 dX4_of_8 (by decide) (fun h8 => ?_) (fun h8 => ?_)
  · refine z_aload0 F dX4_of_21 ?_
    refine z_iconst F 0 dX4_of_22 zv_i_0 ?_
    refine z_callVI1 F (c4_finding _ 0 (by decide)) kX4_55 (by decide) ocPH (Nat.le_of_ble_eq_true rfl) rfl dX4_of_23 ?_
    refine hR _ _ _ _ dX4_of_26 rfl ?_
    simp only [o_of, h8, Bool.false_eq_true, if_true, if_false, Bool.and_true, Bool.true_and, Bool.and_false, Bool.false_and, Bool.and_self, and_self]; first | exact ⟨rfl, rfl⟩ | exact ⟨by decide, rfl⟩ | exact ⟨by decide, z_sm_r _⟩ | exact ⟨rfl, z_sm_r _⟩
  · refine z_iload2 F dX4_of_11 ?_
    refine z_iconst F 0 dX4_of_12 zv_i_0 ?_
    refine z_bipush F 10 dX4_of_13 zv_b_10 ?_
    refine z_callSI3 F (c4_isWithin _ _ _ _) kX4_51 (by decide) (Nat.le_of_ble_eq_true rfl) rfl dX4_of_15 ?_
    refine z_ifb_ne F 27 dX4_of_18 (by decide) (fun h18 => ?_) (fun h18 => ?_)
    · obtain ⟨j, hj, rfl⟩ := b_coin_ex h10 h8
      have hjn := i_n_n (j := j) (by omega)
      refine z_aload0 F dX4_of_27 ?_
      refine z_getR F PH_coat fX4_10 dX4_of_28 ?_
      refine z_getR F (C_row z_r1) fX4_71 dX4_of_31 ?_
      refine z_iload1 F dX4_of_34 ?_
      refine z_aald F (aRow z_r1) (Or.inl rfl) (j) rfl (show j < 10 by omega) dX4_of_35 ?_
      refine z_iload2 F dX4_of_36 ?_
      refine z_aload0 F dX4_of_37 ?_
      refine z_getR F PH_coat fX4_10 dX4_of_38 ?_
      refine z_getI F (C_hole z_r1) fX4_75 dX4_of_41 ?_
      refine z_callVI2 F (c1_told D z_r1 j (by omega) y h18) kX4_78 (by decide) (ocK z_r1 (show j < 10 by omega)) (Nat.le_of_ble_eq_true rfl) rfl dX4_of_44 ?_
      refine hR _ _ _ _ dX4_of_47 rfl ?_
      simp only [o_of, h8, h18, Bool.false_eq_true, if_true, if_false, Bool.and_true, Bool.true_and, Bool.and_false, Bool.false_and, Bool.and_self, and_self]; first | exact ⟨rfl, rfl⟩ | exact ⟨by decide, rfl⟩ | exact ⟨by decide, z_sm_r _⟩ | exact ⟨rfl, z_sm_r _⟩
    · refine z_aload0 F dX4_of_21 ?_
      refine z_iconst F 0 dX4_of_22 zv_i_0 ?_
      refine z_callVI1 F (c4_finding _ 0 (by decide)) kX4_55 (by decide) ocPH (Nat.le_of_ble_eq_true rfl) rfl dX4_of_23 ?_
      refine hR _ _ _ _ dX4_of_26 rfl ?_
      simp only [o_of, h8, h18, Bool.false_eq_true, if_true, if_false, Bool.and_true, Bool.true_and, Bool.and_false, Bool.false_and, Bool.and_self, and_self]; first | exact ⟨rfl, rfl⟩ | exact ⟨by decide, rfl⟩ | exact ⟨by decide, z_sm_r _⟩ | exact ⟨rfl, z_sm_r _⟩
set_option maxHeartbeats 1000000 in
set_option maxRecDepth 20000 in
theorem c4_change (D : zD) (x y v : Int32) {N : Nat} (hN : D.1 1 4 = nI N) (h10 : N ≤ 10) : z_CI SX zT yX4_change cX4_change 6 .int 3 [.ref 0, .int x, .int y, .int v] D (z_eq (r_ans (o_change (D.1 1) N x y v)) (r_X D (o_change (D.1 1) N x y v))) := by
  refine z_startI SX_ok (by decide +kernel) (fun v hv => by simp at hv; rcases hv with rfl | rfl | rfl | rfl <;> rfl) (Nat.le_of_ble_eq_true rfl) (fun X F hR => ?_)
  show z_J X SX 0 [some (.ref 0), some (.int x), some (.int y), some (.int v), none, none] [] D
  refine z_aload0 F dX4_change_0 ?_
  refine z_getR F PH_coat fX4_10 dX4_change_1 ?_
  refine z_iload1 F dX4_change_4 ?_
  refine z_callVI1 F (c0_has _ z_r1 hN h10 _) kX4_67 (by decide) (ocC z_r1) (Nat.le_of_ble_eq_true rfl) rfl dX4_change_5 ?_
  refine z_ifb_eq F 19 dX4_change_8 (by decide) (fun h8 => ?_) (fun h8 => ?_)
  · refine z_aload0 F dX4_change_19 ?_
    refine z_iconst F 0 dX4_change_20 zv_i_0 ?_
    refine z_callVI1 F (c4_finding _ 0 (by decide)) kX4_55 (by decide) ocPH (Nat.le_of_ble_eq_true rfl) rfl dX4_change_21 ?_
    refine hR _ _ _ _ dX4_change_24 rfl ?_
    simp only [o_change, h8, Bool.false_eq_true, if_true, if_false, Bool.and_true, Bool.true_and, Bool.and_false, Bool.false_and, Bool.and_self, and_self]; first | exact ⟨rfl, rfl⟩ | exact ⟨by decide, rfl⟩ | exact ⟨by decide, z_sm_r _⟩ | exact ⟨rfl, z_sm_r _⟩
  · refine z_iload2 F dX4_change_11 ?_
    refine z_iload3 F dX4_change_12 ?_
    refine z_callSI2 F (c4_mayBecome _ _ _) kX4_84 (by decide) (Nat.le_of_ble_eq_true rfl) rfl dX4_change_13 ?_
    refine z_ifb_ne F 25 dX4_change_16 (by decide) (fun h16 => ?_) (fun h16 => ?_)
    · obtain ⟨j, hj, rfl⟩ := b_coin_ex h10 h8
      have hjn := i_n_n (j := j) (by omega)
      refine z_aload0 F dX4_change_25 ?_
      refine z_getR F PH_coat fX4_10 dX4_change_26 ?_
      refine z_getR F (C_row z_r1) fX4_71 dX4_change_29 ?_
      refine z_iload1 F dX4_change_32 ?_
      refine z_aald F (aRow z_r1) (Or.inl rfl) (j) rfl (show j < 10 by omega) dX4_change_33 ?_
      refine z_astore4 F dX4_change_34 rfl ?_
      refine z_aload4 F dX4_change_36 ?_
      refine z_iload2 F dX4_change_38 ?_
      refine z_aload0 F dX4_change_39 ?_
      refine z_getR F PH_coat fX4_10 dX4_change_40 ?_
      refine z_getI F (C_hole z_r1) fX4_75 dX4_change_43 ?_
      refine z_callVI2 F (c1_told D z_r1 j (by omega) y (by obtain ⟨a, ha, rfl⟩ := b_in0 6 (by decide) (b_may_in h16); unfold b_in; rw [decide_eq_true (nI_pos' (by omega)), decide_eq_true (show nI a ≤ 10 from nI_le (a := a) (b := 10) (by omega) (by decide))]; rfl)) kX4_78 (by decide) (ocK z_r1 (show j < 10 by omega)) (Nat.le_of_ble_eq_true rfl) rfl dX4_change_46 ?_
      refine z_istore5 F dX4_change_49 rfl ?_
      refine z_aload4 F dX4_change_51 ?_
      refine z_iload2 F dX4_change_53 ?_
      refine z_iload3 F dX4_change_54 ?_
      refine z_callVV2 F (c1_set D z_r1 j (by omega) y v h16) kX4_88 (by decide) (ocK z_r1 (show j < 10 by omega)) (Nat.le_of_ble_eq_true rfl) rfl dX4_change_55 ?_
      refine z_iload5 F dX4_change_58 ?_
      refine hR _ _ _ _ dX4_change_60 rfl ?_
      simp only [o_change, h8, h16, hjn, Bool.false_eq_true, if_true, if_false, Bool.and_true, Bool.true_and, Bool.and_false, Bool.false_and, Bool.and_self, and_self]
      refine ⟨?_, rfl⟩
      exact (v_of_may _ _ h16).trans (by rw [hjn]; rfl)
    · refine z_aload0 F dX4_change_19 ?_
      refine z_iconst F 0 dX4_change_20 zv_i_0 ?_
      refine z_callVI1 F (c4_finding _ 0 (by decide)) kX4_55 (by decide) ocPH (Nat.le_of_ble_eq_true rfl) rfl dX4_change_21 ?_
      refine hR _ _ _ _ dX4_change_24 rfl ?_
      simp only [o_change, h8, h16, Bool.false_eq_true, if_true, if_false, Bool.and_true, Bool.true_and, Bool.and_false, Bool.false_and, Bool.and_self, and_self]; first | exact ⟨rfl, rfl⟩ | exact ⟨by decide, rfl⟩ | exact ⟨by decide, z_sm_r _⟩ | exact ⟨rfl, z_sm_r _⟩
set_option maxHeartbeats 1000000 in
set_option maxRecDepth 20000 in
theorem c4_put (D : zD) (x y : Int32) {N : Nat} (hN : D.1 1 4 = nI N) (h10 : N ≤ 10) : z_CI SX zT yX4_put cX4_put 4 .int 2 [.ref 0, .int x, .int y] D (z_eq (r_ans (o_put (D.1 1) N x y)) (r_X D (o_put (D.1 1) N x y))) := by
  refine z_startI SX_ok (by decide +kernel) (fun v hv => by simp at hv; rcases hv with rfl | rfl | rfl <;> rfl) (Nat.le_of_ble_eq_true rfl) (fun X F hR => ?_)
  show z_J X SX 0 [some (.ref 0), some (.int x), some (.int y), none] [] D
  refine z_aload0 F dX4_put_0 ?_
  refine z_getR F PH_coat fX4_10 dX4_put_1 ?_
  refine z_iload1 F dX4_put_4 ?_
  refine z_callVI1 F (c0_has _ z_r1 hN h10 _) kX4_67 (by decide) (ocC z_r1) (Nat.le_of_ble_eq_true rfl) rfl dX4_put_5 ?_
  refine z_ifb_eq F 18 dX4_put_8 (by decide) (fun h8 => ?_) (fun h8 => ?_)
  · refine z_aload0 F dX4_put_18 ?_
    refine z_iconst F 0 dX4_put_19 zv_i_0 ?_
    refine z_callVI1 F (c4_finding _ 0 (by decide)) kX4_55 (by decide) ocPH (Nat.le_of_ble_eq_true rfl) rfl dX4_put_20 ?_
    refine hR _ _ _ _ dX4_put_23 rfl ?_
    simp only [o_put, h8, Bool.false_eq_true, if_true, if_false, Bool.and_true, Bool.true_and, Bool.and_false, Bool.false_and, Bool.and_self, and_self]; first | exact ⟨rfl, rfl⟩ | exact ⟨by decide, rfl⟩ | exact ⟨by decide, z_sm_r _⟩ | exact ⟨rfl, z_sm_r _⟩
  · refine z_iload2 F dX4_put_11 ?_
    refine z_callSI1 F (c4_isPlace _ _) kX4_92 (by decide) (Nat.le_of_ble_eq_true rfl) rfl dX4_put_12 ?_
    refine z_ifb_ne F 24 dX4_put_15 (by decide) (fun h15 => ?_) (fun h15 => ?_)
    · obtain ⟨j, hj, rfl⟩ := b_coin_ex h10 h8
      have hjn := i_n_n (j := j) (by omega)
      refine z_aload0 F dX4_put_24 ?_
      refine z_getR F PH_coat fX4_10 dX4_put_25 ?_
      refine z_getR F (C_row z_r1) fX4_71 dX4_put_28 ?_
      refine z_iload1 F dX4_put_31 ?_
      refine z_aald F (aRow z_r1) (Or.inl rfl) (j) rfl (show j < 10 by omega) dX4_put_32 ?_
      refine z_getI F (K_f z_r1 (show j < 10 by omega) 4 (by decide)) fX4_95 dX4_put_33 ?_
      refine z_istore3 F dX4_put_36 rfl ?_
      refine z_aload0 F dX4_put_37 ?_
      refine z_getR F PH_coat fX4_10 dX4_put_38 ?_
      refine z_getR F (C_row z_r1) fX4_71 dX4_put_41 ?_
      refine z_iload1 F dX4_put_44 ?_
      refine z_aald F (aRow z_r1) (Or.inl rfl) (j) rfl (show j < 10 by omega) dX4_put_45 ?_
      refine z_iload2 F dX4_put_46 ?_
      refine z_callVV1 F (c1_moveTo D z_r1 j (by omega) y) kX4_98 (by decide) (ocK z_r1 (show j < 10 by omega)) (Nat.le_of_ble_eq_true rfl) rfl dX4_put_47 ?_
      refine z_iload3 F dX4_put_50 ?_
      refine hR _ _ _ _ dX4_put_51 rfl ?_
      simp only [o_put, h8, h15, hjn, Bool.false_eq_true, if_true, if_false, Bool.and_true, Bool.true_and, Bool.and_false, Bool.false_and, Bool.and_self, and_self]; first | exact ⟨rfl, rfl⟩ | exact ⟨by decide, rfl⟩ | exact ⟨by decide, z_sm_r _⟩ | exact ⟨rfl, z_sm_r _⟩
    · refine z_aload0 F dX4_put_18 ?_
      refine z_iconst F 0 dX4_put_19 zv_i_0 ?_
      refine z_callVI1 F (c4_finding _ 0 (by decide)) kX4_55 (by decide) ocPH (Nat.le_of_ble_eq_true rfl) rfl dX4_put_20 ?_
      refine hR _ _ _ _ dX4_put_23 rfl ?_
      simp only [o_put, h8, h15, Bool.false_eq_true, if_true, if_false, Bool.and_true, Bool.true_and, Bool.and_false, Bool.false_and, Bool.and_self, and_self]; first | exact ⟨rfl, rfl⟩ | exact ⟨by decide, rfl⟩ | exact ⟨by decide, z_sm_r _⟩ | exact ⟨rfl, z_sm_r _⟩
set_option maxHeartbeats 1000000 in
set_option maxRecDepth 20000 in
theorem c4_sew (D : zD) : z_CI SX zT yX4_sew cX4_sew 2 .int 0 [.ref 0] D (z_eq (D.1 1 1) (z_row D 1 (upd (D.1 1) 1 0))) := by
  refine z_startI SX_ok (by decide +kernel) (fun v hv => by simp at hv; subst hv; rfl) (Nat.le_of_ble_eq_true rfl) (fun X F hR => ?_)
  show z_J X SX 0 [some (.ref 0), none] [] D
  refine z_aload0 F dX4_sew_0 ?_
  refine z_getR F PH_coat fX4_10 dX4_sew_1 ?_
  refine z_getI F (C_hole z_r1) fX4_75 dX4_sew_4 ?_
  refine z_istore1 F dX4_sew_7 rfl ?_
  refine z_aload0 F dX4_sew_8 ?_
  refine z_getR F PH_coat fX4_10 dX4_sew_9 ?_
  refine z_iconst F 0 dX4_sew_12 zv_i_0 ?_
  refine z_putI F (C_hole z_r1) fX4_75 rfl rfl dX4_sew_13 ?_
  refine z_iload1 F dX4_sew_16 ?_
  refine hR _ _ _ _ dX4_sew_17 rfl ?_
  exact ⟨rfl, z_up_row _ _ _ _⟩
set_option maxHeartbeats 1000000 in
set_option maxRecDepth 20000 in
theorem c4_seed (D : zD) (x : Int32) : z_CI SX zT yX4_seed cX4_seed 3 .int 0 [.ref 0, .int x] D (z_eq (D.1 1 5) (z_row D 1 (upd (D.1 1) 5 x))) := by
  refine z_startI SX_ok (by decide +kernel) (fun v hv => by simp at hv; rcases hv with rfl | rfl <;> rfl) (Nat.le_of_ble_eq_true rfl) (fun X F hR => ?_)
  show z_J X SX 0 [some (.ref 0), some (.int x), none] [] D
  refine z_aload0 F dX4_seed_0 ?_
  refine z_getR F PH_coat fX4_10 dX4_seed_1 ?_
  refine z_getI F (C_z z_r1) fX4_207 dX4_seed_4 ?_
  refine z_istore2 F dX4_seed_7 rfl ?_
  refine z_aload0 F dX4_seed_8 ?_
  refine z_getR F PH_coat fX4_10 dX4_seed_9 ?_
  refine z_iload1 F dX4_seed_12 ?_
  refine z_putI F (C_z z_r1) fX4_207 rfl rfl dX4_seed_13 ?_
  refine z_iload2 F dX4_seed_16 ?_
  refine hR _ _ _ _ dX4_seed_17 rfl ?_
  exact ⟨rfl, z_up_row _ _ _ _⟩
set_option maxHeartbeats 1000000 in
set_option maxRecDepth 20000 in
theorem c4_wipe (D : zD) : z_CI SX zT yX4_wipe cX4_wipe 2 .int 0 [.ref 0] D (z_eq (D.1 0 12) (z_up D 0 12 0)) := by
  refine z_startI SX_ok (by decide +kernel) (fun v hv => by simp at hv; subst hv; rfl) (Nat.le_of_ble_eq_true rfl) (fun X F hR => ?_)
  show z_J X SX 0 [some (.ref 0), none] [] D
  refine z_aload0 F dX4_wipe_0 ?_
  refine z_getR F PH_tape fX4_29 dX4_wipe_1 ?_
  refine z_getI F T_length fX4_210 dX4_wipe_4 ?_
  refine z_istore1 F dX4_wipe_7 rfl ?_
  refine z_aload0 F dX4_wipe_8 ?_
  refine z_getR F PH_tape fX4_29 dX4_wipe_9 ?_
  refine z_iconst F 0 dX4_wipe_12 zv_i_0 ?_
  refine z_putI F T_length fX4_210 rfl rfl dX4_wipe_13 ?_
  refine z_iload1 F dX4_wipe_16 ?_
  refine hR _ _ _ _ dX4_wipe_17 rfl ?_
  exact ⟨rfl, rfl⟩
set_option maxHeartbeats 1000000 in
set_option maxRecDepth 20000 in
theorem c4_tear (D : zD) : z_CI SX zT yX4_tear cX4_tear 2 .int 0 [.ref 0] D (z_eq (if D.1 0 3 = 0 then 0 else 1) (z_up D 0 3 0)) := by
  refine z_startI SX_ok (by decide +kernel) (fun v hv => by simp at hv; subst hv; rfl) (Nat.le_of_ble_eq_true rfl) (fun X F hR => ?_)
  show z_J X SX 0 [some (.ref 0), none] [] D
  refine z_aload0 F dX4_tear_0 ?_
  refine z_getI F PH_isKept fX4_22 dX4_tear_1 ?_
  refine z_if_eq F 11 dX4_tear_4 (by decide) (fun h4 => ?_) (fun h4 => ?_)
  · refine z_iconst F 0 dX4_tear_11 zv_i_0 ?_
    refine z_istore1 F dX4_tear_12 rfl ?_
    refine z_aload0 F dX4_tear_13 ?_
    refine z_iconst F 0 dX4_tear_14 zv_i_0 ?_
    refine z_putI F PH_isKept fX4_22 rfl rfl dX4_tear_15 ?_
    refine z_iload1 F dX4_tear_18 ?_
    refine hR _ _ _ _ dX4_tear_19 rfl ?_
    exact ⟨by simp [h4], rfl⟩
  · refine z_iconst F 1 dX4_tear_7 zv_i_1 ?_
    refine z_goto F 12 dX4_tear_8 (by decide) ?_
    refine z_istore1 F dX4_tear_12 rfl ?_
    refine z_aload0 F dX4_tear_13 ?_
    refine z_iconst F 0 dX4_tear_14 zv_i_0 ?_
    refine z_putI F PH_isKept fX4_22 rfl rfl dX4_tear_15 ?_
    refine z_iload1 F dX4_tear_18 ?_
    refine hR _ _ _ _ dX4_tear_19 rfl ?_
    exact ⟨by simp [h4], rfl⟩
set_option maxHeartbeats 1000000 in
set_option maxRecDepth 20000 in
theorem c4_lie (D : zD) (x : Int32) {N : Nat} (hN : D.1 1 4 = nI N) (h10 : N ≤ 10) : z_CI SX zT yX4_lie cX4_lie 2 .int 2 [.ref 0, .int x] D (z_eq (q_ans (o_lie (D.1 1) N x)) (q_X D (o_lie (D.1 1) N x))) := by
  refine z_startI SX_ok (by decide +kernel) (fun v hv => by simp at hv; rcases hv with rfl | rfl <;> rfl) (Nat.le_of_ble_eq_true rfl) (fun X F hR => ?_)
  show z_J X SX 0 [some (.ref 0), some (.int x)] [] D
  refine z_iload1 F dX4_lie_0 ?_
  refine z_callSI1 F (c4_isPlace _ _) kX4_92 (by decide) (Nat.le_of_ble_eq_true rfl) rfl dX4_lie_1 ?_
  refine z_ifb_eq F 18 dX4_lie_4 (by decide) (fun h4 => ?_) (fun h4 => ?_)
  · refine z_aload0 F dX4_lie_18 ?_
    refine z_iconst F 0 dX4_lie_19 zv_i_0 ?_
    refine z_callVI1 F (c4_finding _ 0 (by decide)) kX4_55 (by decide) ocPH (Nat.le_of_ble_eq_true rfl) rfl dX4_lie_20 ?_
    refine hR _ _ _ _ dX4_lie_23 rfl ?_
    simp only [o_lie, h4, Bool.false_eq_true, if_true, if_false, Bool.and_true, Bool.true_and, Bool.and_false, Bool.false_and, Bool.and_self, and_self]; first | exact ⟨rfl, rfl⟩ | exact ⟨by decide, rfl⟩ | exact ⟨by decide, z_sm_r _⟩ | exact ⟨rfl, z_sm_r _⟩
  · refine z_aload0 F dX4_lie_7 ?_
    refine z_getR F PH_coat fX4_10 dX4_lie_8 ?_
    refine z_iload1 F dX4_lie_11 ?_
    refine z_callVI1 F (c0_in _ z_r1 hN h10 _) kX4_108 (by decide) (ocC z_r1) (Nat.le_of_ble_eq_true rfl) rfl dX4_lie_12 ?_
    refine z_goto F 23 dX4_lie_15 (by decide) ?_
    refine hR _ _ _ _ dX4_lie_23 rfl ?_
    simp only [o_lie, h4, Bool.false_eq_true, if_true, if_false, Bool.and_true, Bool.true_and, Bool.and_false, Bool.false_and, Bool.and_self, and_self]; first | exact ⟨rfl, rfl⟩ | exact ⟨by decide, rfl⟩ | exact ⟨by decide, z_sm_r _⟩ | exact ⟨rfl, z_sm_r _⟩
set_option maxHeartbeats 1000000 in
set_option maxRecDepth 20000 in
theorem c4_pence (D : zD) (x : Int32) {N : Nat} (hN : D.1 1 4 = nI N) (h10 : N ≤ 10) : z_CI SX zT yX4_pence cX4_pence 2 .int 2 [.ref 0, .int x] D (z_eq (q_ans (o_pence (D.1 1) N x)) (q_X D (o_pence (D.1 1) N x))) := by
  refine z_startI SX_ok (by decide +kernel) (fun v hv => by simp at hv; rcases hv with rfl | rfl <;> rfl) (Nat.le_of_ble_eq_true rfl) (fun X F hR => ?_)
  show z_J X SX 0 [some (.ref 0), some (.int x)] [] D
  refine z_iload1 F dX4_pence_0 ?_
  refine z_callSI1 F (c4_isPlace _ _) kX4_92 (by decide) (Nat.le_of_ble_eq_true rfl) rfl dX4_pence_1 ?_
  refine z_ifb_eq F 18 dX4_pence_4 (by decide) (fun h4 => ?_) (fun h4 => ?_)
  · refine z_aload0 F dX4_pence_18 ?_
    refine z_iconst F 0 dX4_pence_19 zv_i_0 ?_
    refine z_callVI1 F (c4_finding _ 0 (by decide)) kX4_55 (by decide) ocPH (Nat.le_of_ble_eq_true rfl) rfl dX4_pence_20 ?_
    refine hR _ _ _ _ dX4_pence_23 rfl ?_
    simp only [o_pence, h4, Bool.false_eq_true, if_true, if_false, Bool.and_true, Bool.true_and, Bool.and_false, Bool.false_and, Bool.and_self, and_self]; first | exact ⟨rfl, rfl⟩ | exact ⟨by decide, rfl⟩ | exact ⟨by decide, z_sm_r _⟩ | exact ⟨rfl, z_sm_r _⟩
  · refine z_aload0 F dX4_pence_7 ?_
    refine z_getR F PH_coat fX4_10 dX4_pence_8 ?_
    refine z_iload1 F dX4_pence_11 ?_
    refine z_callVI1 F (c0_penceIn _ z_r1 hN h10 _) kX4_111 (by decide) (ocC z_r1) (Nat.le_of_ble_eq_true rfl) rfl dX4_pence_12 ?_
    refine z_goto F 23 dX4_pence_15 (by decide) ?_
    refine hR _ _ _ _ dX4_pence_23 rfl ?_
    simp only [o_pence, h4, Bool.false_eq_true, if_true, if_false, Bool.and_true, Bool.true_and, Bool.and_false, Bool.false_and, Bool.and_self, and_self]; first | exact ⟨rfl, rfl⟩ | exact ⟨by decide, rfl⟩ | exact ⟨by decide, z_sm_r _⟩ | exact ⟨rfl, z_sm_r _⟩
set_option maxHeartbeats 1000000 in
set_option maxRecDepth 20000 in
theorem c4_gone (D : zD) {N : Nat} (hN : D.1 1 4 = nI N) (hN2 : D.1 2 4 = nI N) (h10 : N ≤ 10) : z_CI SX zT yX4_goneInTrial cX4_goneInTrial 1 .int 1 [.ref 0] D (z_eq (s_lie (D.1 1) 0 N &&& (s_lie (D.1 2) 0 N ^^^ (-1))) D) := by
  refine z_startI SX_ok (by decide +kernel) (fun v hv => by simp at hv; subst hv; rfl) (Nat.le_of_ble_eq_true rfl) (fun X F hR => ?_)
  show z_J X SX 0 [some (.ref 0)] [] D
  refine z_aload0 F dX4_goneInTrial_0 ?_
  refine z_getR F PH_coat fX4_10 dX4_goneInTrial_1 ?_
  refine z_iconst F 0 dX4_goneInTrial_4 zv_i_0 ?_
  refine z_callVI1 F (c0_in _ z_r1 hN h10 _) kX4_108 (by decide) (ocC z_r1) (Nat.le_of_ble_eq_true rfl) rfl dX4_goneInTrial_5 ?_
  refine z_aload0 F dX4_goneInTrial_8 ?_
  refine z_getR F PH_trial fX4_16 dX4_goneInTrial_9 ?_
  refine z_iconst F 0 dX4_goneInTrial_12 zv_i_0 ?_
  refine z_callVI1 F (c0_in D z_r2 hN2 h10 0) kX4_108 (by decide) (ocC z_r2) (Nat.le_of_ble_eq_true rfl) rfl dX4_goneInTrial_13 ?_
  refine z_iconst F (-1) dX4_goneInTrial_16 zv_i_m1 ?_
  refine z_ixor F dX4_goneInTrial_17 ?_
  refine z_iand F dX4_goneInTrial_18 ?_
  refine hR _ _ _ _ dX4_goneInTrial_19 rfl ?_
  exact ⟨rfl, rfl⟩
set_option maxHeartbeats 1000000 in
set_option maxRecDepth 20000 in
theorem c4_lost (D : zD) {N : Nat} (hN : D.1 1 4 = nI N) (hN2 : D.1 2 4 = nI N) (h10 : N ≤ 10) : z_CI SX zT yX4_lostInTrial cX4_lostInTrial 1 .int 1 [.ref 0] D (z_eq (s_lie (D.1 2) 2 N &&& (s_lie (D.1 1) 2 N ^^^ (-1))) D) := by
  refine z_startI SX_ok (by decide +kernel) (fun v hv => by simp at hv; subst hv; rfl) (Nat.le_of_ble_eq_true rfl) (fun X F hR => ?_)
  show z_J X SX 0 [some (.ref 0)] [] D
  refine z_aload0 F dX4_lostInTrial_0 ?_
  refine z_getR F PH_trial fX4_16 dX4_lostInTrial_1 ?_
  refine z_iconst F 2 dX4_lostInTrial_4 zv_i_2 ?_
  refine z_callVI1 F (c0_in D z_r2 hN2 h10 2) kX4_108 (by decide) (ocC z_r2) (Nat.le_of_ble_eq_true rfl) rfl dX4_lostInTrial_5 ?_
  refine z_aload0 F dX4_lostInTrial_8 ?_
  refine z_getR F PH_coat fX4_10 dX4_lostInTrial_9 ?_
  refine z_iconst F 2 dX4_lostInTrial_12 zv_i_2 ?_
  refine z_callVI1 F (c0_in _ z_r1 hN h10 _) kX4_108 (by decide) (ocC z_r1) (Nat.le_of_ble_eq_true rfl) rfl dX4_lostInTrial_13 ?_
  refine z_iconst F (-1) dX4_lostInTrial_16 zv_i_m1 ?_
  refine z_ixor F dX4_lostInTrial_17 ?_
  refine z_iand F dX4_lostInTrial_18 ?_
  refine hR _ _ _ _ dX4_lostInTrial_19 rfl ?_
  exact ⟨rfl, rfl⟩
set_option maxHeartbeats 1000000 in
set_option maxRecDepth 20000 in
theorem c4_image (D : zD) {N : Nat} (hN : D.1 1 4 = nI N) (h10 : N ≤ 10) : z_CI SX zT yX4_image cX4_image 1 .int 3 [.ref 0] D (z_eq 1 (z_up (z_row D 3 (s_bec (D.1 1) (D.1 3) N)) 0 3 1)) := by
  refine z_startI SX_ok (by decide +kernel) (fun v hv => by simp at hv; subst hv; rfl) (Nat.le_of_ble_eq_true rfl) (fun X F hR => ?_)
  show z_J X SX 0 [some (.ref 0)] [] D
  refine z_aload0 F dX4_image_0 ?_
  refine z_getR F PH_kept fX4_19 dX4_image_1 ?_
  refine z_aload0 F dX4_image_4 ?_
  refine z_getR F PH_coat fX4_10 dX4_image_5 ?_
  refine z_callVV1 F (c0_become D z_r3 z_r1 (by decide) hN h10) kX4_135 (by decide) (ocC z_r3) (Nat.le_of_ble_eq_true rfl) rfl dX4_image_8 ?_
  refine z_aload0 F dX4_image_11 ?_
  refine z_iconst F 1 dX4_image_12 zv_i_1 ?_
  refine z_putI F PH_isKept fX4_22 rfl rfl dX4_image_13 ?_
  refine z_iconst F 1 dX4_image_16 zv_i_1 ?_
  refine hR _ _ _ _ dX4_image_17 rfl ?_
  exact ⟨rfl, rfl⟩
set_option maxHeartbeats 1000000 in
set_option maxRecDepth 20000 in
theorem c4_undo (D : zD) {N : Nat} (hN : D.1 3 4 = nI N) (h10 : N ≤ 10) : z_CI SX zT yX4_undo cX4_undo 1 .int 3 [.ref 0] D (z_eq (if D.1 0 3 = 0 then nF 3 else D.1 3 0) (if D.1 0 3 = 0 then z_fX D 3 else z_row D 1 (s_bec (D.1 3) (D.1 1) N))) := by
  refine z_startI SX_ok (by decide +kernel) (fun v hv => by simp at hv; subst hv; rfl) (Nat.le_of_ble_eq_true rfl) (fun X F hR => ?_)
  show z_J X SX 0 [some (.ref 0)] [] D
  refine z_aload0 F dX4_undo_0 ?_
  refine z_getI F PH_isKept fX4_22 dX4_undo_1 ?_
  refine z_if_ne F 13 dX4_undo_4 (by decide) (fun h4 => ?_) (fun h4 => ?_)
  · refine z_aload0 F dX4_undo_13 ?_
    refine z_getR F PH_coat fX4_10 dX4_undo_14 ?_
    refine z_aload0 F dX4_undo_17 ?_
    refine z_getR F PH_kept fX4_19 dX4_undo_18 ?_
    refine z_callVV1 F (c0_become D z_r1 z_r3 (by decide) hN h10) kX4_135 (by decide) (ocC z_r1) (Nat.le_of_ble_eq_true rfl) rfl dX4_undo_21 ?_
    refine z_aload0 F dX4_undo_24 ?_
    refine z_getR F PH_coat fX4_10 dX4_undo_25 ?_
    refine z_getI F (C_step z_r1) fX4_125 dX4_undo_28 ?_
    refine hR _ _ _ _ dX4_undo_31 rfl ?_
    exact ⟨by rw [if_neg h4, z_rowr, s_bec, if_pos (by omega)], by rw [if_neg h4]⟩
  · refine z_aload0 F dX4_undo_7 ?_
    refine z_iconst F 3 dX4_undo_8 zv_i_3 ?_
    refine z_callVI1 F (c4_finding _ 3 (by decide)) kX4_55 (by decide) ocPH (Nat.le_of_ble_eq_true rfl) rfl dX4_undo_9 ?_
    refine hR _ _ _ _ dX4_undo_12 rfl ?_
    exact ⟨by rw [if_pos h4], by rw [if_pos h4]⟩
set_option maxHeartbeats 1000000 in
set_option maxRecDepth 20000 in
theorem c4_hold (D : zD) (x y : Int32) {N : Nat} (hN : D.1 1 4 = nI N) (h10 : N ≤ 10) : z_CI SX zT yX4_hold cX4_hold 3 .int 2 [.ref 0, .int x, .int y] D (z_eq (r_ans (o_hold (D.1 1) N x y)) (r_X D (o_hold (D.1 1) N x y))) := by
  refine z_startI SX_ok (by decide +kernel) (fun v hv => by simp at hv; rcases hv with rfl | rfl | rfl <;> rfl) (Nat.le_of_ble_eq_true rfl) (fun X F hR => ?_)
  show z_J X SX 0 [some (.ref 0), some (.int x), some (.int y)] [] D
  refine z_iload1 F dX4_hold_0 ?_
  refine z_iconst F 0 dX4_hold_1 zv_i_0 ?_
  refine z_bipush F 9 dX4_hold_2 zv_b_9 ?_
  refine z_callSI3 F (c4_isWithin _ _ _ _) kX4_51 (by decide) (Nat.le_of_ble_eq_true rfl) rfl dX4_hold_4 ?_
  refine z_ifb_eq F 26 dX4_hold_7 (by decide) (fun h7 => ?_) (fun h7 => ?_)
  · refine z_aload0 F dX4_hold_26 ?_
    refine z_iconst F 0 dX4_hold_27 zv_i_0 ?_
    refine z_callVI1 F (c4_finding _ 0 (by decide)) kX4_55 (by decide) ocPH (Nat.le_of_ble_eq_true rfl) rfl dX4_hold_28 ?_
    refine hR _ _ _ _ dX4_hold_31 rfl ?_
    simp only [o_hold, h7, Bool.false_eq_true, if_true, if_false, Bool.and_true, Bool.true_and, Bool.and_false, Bool.false_and, Bool.and_self, and_self]; first | exact ⟨rfl, rfl⟩ | exact ⟨by decide, rfl⟩ | exact ⟨by decide, z_sm_r _⟩ | exact ⟨rfl, z_sm_r _⟩
  · refine z_iload2 F dX4_hold_10 ?_
    refine z_iconst F (-1) dX4_hold_11 zv_i_m1 ?_
    refine z_ic_eq F 32 dX4_hold_12 (by decide) (fun h12 => ?_) (fun h12 => ?_)
    · obtain ⟨j, hj, rfl⟩ := b_in0 9 (by decide) h7
      have hjn := i_n_n (j := j) (by omega)
      refine z_aload0 F dX4_hold_32 ?_
      refine z_getR F PH_coat fX4_10 dX4_hold_33 ?_
      refine z_getR F (C_spots z_r1) fX4_220 dX4_hold_36 ?_
      refine z_iload1 F dX4_hold_39 ?_
      refine z_iload2 F dX4_hold_40 ?_
      refine z_iast F (aSpots z_r1) (j) rfl (by omega) dX4_hold_41 ?_
      refine z_iconst F 1 dX4_hold_42 zv_i_1 ?_
      refine hR _ _ _ _ dX4_hold_43 rfl ?_
      simp only [o_hold, h7, hjn, decide_eq_true h12, Bool.true_or, Bool.or_true, Bool.false_eq_true, if_true, if_false, Bool.and_true, Bool.true_and, Bool.and_false, Bool.false_and, Bool.and_self, and_self]
      exact ⟨rfl, z_up_row _ _ _ _⟩
    · refine z_aload0 F dX4_hold_15 ?_
      refine z_getR F PH_coat fX4_10 dX4_hold_16 ?_
      refine z_iload2 F dX4_hold_19 ?_
      refine z_callVI1 F (c0_has _ z_r1 hN h10 _) kX4_67 (by decide) (ocC z_r1) (Nat.le_of_ble_eq_true rfl) rfl dX4_hold_20 ?_
      refine z_ifb_ne F 32 dX4_hold_23 (by decide) (fun h23 => ?_) (fun h23 => ?_)
      · obtain ⟨j, hj, rfl⟩ := b_in0 9 (by decide) h7
        have hjn := i_n_n (j := j) (by omega)
        refine z_aload0 F dX4_hold_32 ?_
        refine z_getR F PH_coat fX4_10 dX4_hold_33 ?_
        refine z_getR F (C_spots z_r1) fX4_220 dX4_hold_36 ?_
        refine z_iload1 F dX4_hold_39 ?_
        refine z_iload2 F dX4_hold_40 ?_
        refine z_iast F (aSpots z_r1) (j) rfl (by omega) dX4_hold_41 ?_
        refine z_iconst F 1 dX4_hold_42 zv_i_1 ?_
        refine hR _ _ _ _ dX4_hold_43 rfl ?_
        simp only [o_hold, h7, hjn, h23, Bool.true_or, Bool.or_true, Bool.false_eq_true, if_true, if_false, Bool.and_true, Bool.true_and, Bool.and_false, Bool.false_and, Bool.and_self, and_self]
        exact ⟨rfl, z_up_row _ _ _ _⟩
      · refine z_aload0 F dX4_hold_26 ?_
        refine z_iconst F 0 dX4_hold_27 zv_i_0 ?_
        refine z_callVI1 F (c4_finding _ 0 (by decide)) kX4_55 (by decide) ocPH (Nat.le_of_ble_eq_true rfl) rfl dX4_hold_28 ?_
        refine hR _ _ _ _ dX4_hold_31 rfl ?_
        simp only [o_hold, h7, h23, decide_eq_false h12, Bool.or_self, Bool.false_eq_true, if_true, if_false, Bool.and_true, Bool.true_and, Bool.and_false, Bool.false_and, Bool.and_self, and_self]; first | exact ⟨rfl, rfl⟩ | exact ⟨by decide, rfl⟩ | exact ⟨by decide, z_sm_r _⟩ | exact ⟨rfl, z_sm_r _⟩
