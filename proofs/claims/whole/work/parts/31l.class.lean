set_option maxHeartbeats 1000000 in
set_option maxRecDepth 20000 in
theorem c4_back (D : zD) (x y : Int32) {N : Nat} (hN : D.1 1 4 = nI N) (h10 : N ≤ 10) (hfa : ∀ c, c < N → decide (¬ D.1 1 (16 + 8 * c + 7) = -1) = s_fallen (D.1 1) c) : z_CI SX zT yX4_back cX4_back 3 .int 2 [.ref 0, .int x, .int y] D (z_eq (q_ans (o_back (D.1 1) N x y)) (q_X D (o_back (D.1 1) N x y))) := by
  refine z_startI SX_ok (by decide +kernel) (fun v hv => by simp at hv; rcases hv with rfl | rfl | rfl <;> rfl) (Nat.le_of_ble_eq_true rfl) (fun X F hR => ?_)
  show z_J X SX 0 [some (.ref 0), some (.int x), some (.int y)] [] D
  refine z_aload0 F dX4_back_0 ?_
  refine z_getR F PH_coat fX4_10 dX4_back_1 ?_
  refine z_iload1 F dX4_back_4 ?_
  refine z_callVI1 F (c0_has _ z_r1 hN h10 _) kX4_67 (by decide) (ocC z_r1) (Nat.le_of_ble_eq_true rfl) rfl dX4_back_5 ?_
  refine z_ifb_eq F 21 dX4_back_8 (by decide) (fun h8 => ?_) (fun h8 => ?_)
  · refine z_aload0 F dX4_back_21 ?_
    refine z_iconst F 0 dX4_back_22 zv_i_0 ?_
    refine z_callVI1 F (c4_finding _ 0 (by decide)) kX4_55 (by decide) ocPH (Nat.le_of_ble_eq_true rfl) rfl dX4_back_23 ?_
    refine hR _ _ _ _ dX4_back_26 rfl ?_
    simp only [o_back, h8, Bool.false_eq_true, if_true, if_false, Bool.and_true, Bool.true_and, Bool.and_false, Bool.false_and, Bool.and_self, and_self]; first | exact ⟨rfl, rfl⟩ | exact ⟨by decide, rfl⟩ | exact ⟨by decide, z_sm_r _⟩ | exact ⟨rfl, z_sm_r _⟩
  · refine z_iload2 F dX4_back_11 ?_
    refine z_iconst F 1 dX4_back_12 zv_i_1 ?_
    refine z_bipush F 100 dX4_back_13 zv_b_100 ?_
    refine z_callSI3 F (c4_isWithin _ _ _ _) kX4_51 (by decide) (Nat.le_of_ble_eq_true rfl) rfl dX4_back_15 ?_
    refine z_ifb_ne F 27 dX4_back_18 (by decide) (fun h18 => ?_) (fun h18 => ?_)
    · obtain ⟨j, hj, rfl⟩ := b_coin_ex h10 h8
      have hjn := i_n_n (j := j) (by omega)
      have hy : ¬ y = 0 := by
        obtain ⟨u, hu, hu2, rfl⟩ := b_in1 100 (by decide) h18
        exact fun e => by have := (nI_eq (a := u) (b := 0) (by omega) (by decide)).mp e; omega
      refine z_aload0 F dX4_back_27 ?_
      refine z_getR F PH_coat fX4_10 dX4_back_28 ?_
      refine z_iload1 F dX4_back_31 ?_
      refine z_callVI1 F (c0_hasFallen D z_r1 j (by omega)) kX4_193 (by decide) (ocC z_r1) (Nat.le_of_ble_eq_true rfl) rfl dX4_back_32 ?_
      rw [hfa j hj]
      refine z_ifb_eq F 50 dX4_back_35 (by decide) (fun h35 => ?_) (fun h35 => ?_)
      · refine z_aload0 F dX4_back_50 ?_
        refine z_iconst F 4 dX4_back_51 zv_i_4 ?_
        refine z_callVI1 F (c4_finding _ 4 (by decide)) kX4_55 (by decide) ocPH (Nat.le_of_ble_eq_true rfl) rfl dX4_back_52 ?_
        refine hR _ _ _ _ dX4_back_55 rfl ?_
        simp only [o_back, h8, h18, hjn, h35, Bool.false_eq_true, if_true, if_false, Bool.and_true, Bool.true_and, Bool.and_false, Bool.false_and, Bool.and_self, and_self]; first | exact ⟨rfl, rfl⟩ | exact ⟨by decide, rfl⟩ | exact ⟨by decide, z_sm_r _⟩ | exact ⟨rfl, z_sm_r _⟩
      · refine z_aload0 F dX4_back_38 ?_
        refine z_getR F PH_coat fX4_10 dX4_back_39 ?_
        refine z_iload1 F dX4_back_42 ?_
        refine z_iload2 F dX4_back_43 ?_
        refine z_callVI2 F (c0_wayCell D z_r1 j (by omega) y hy) kX4_196 (by decide) (ocC z_r1) (Nat.le_of_ble_eq_true rfl) rfl dX4_back_44 ?_
        refine z_goto F 55 dX4_back_47 (by decide) ?_
        refine hR _ _ _ _ dX4_back_55 rfl ?_
        simp only [o_back, h8, h18, hjn, h35, Bool.false_eq_true, if_true, if_false, Bool.and_true, Bool.true_and, Bool.and_false, Bool.false_and, Bool.and_self, and_self]; first | exact ⟨rfl, rfl⟩ | exact ⟨by decide, rfl⟩ | exact ⟨by decide, z_sm_r _⟩ | exact ⟨rfl, z_sm_r _⟩
    · refine z_aload0 F dX4_back_21 ?_
      refine z_iconst F 0 dX4_back_22 zv_i_0 ?_
      refine z_callVI1 F (c4_finding _ 0 (by decide)) kX4_55 (by decide) ocPH (Nat.le_of_ble_eq_true rfl) rfl dX4_back_23 ?_
      refine hR _ _ _ _ dX4_back_26 rfl ?_
      simp only [o_back, h8, h18, Bool.false_eq_true, if_true, if_false, Bool.and_true, Bool.true_and, Bool.and_false, Bool.false_and, Bool.and_self, and_self]; first | exact ⟨rfl, rfl⟩ | exact ⟨by decide, rfl⟩ | exact ⟨by decide, z_sm_r _⟩ | exact ⟨rfl, z_sm_r _⟩
