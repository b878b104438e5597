set_option maxHeartbeats 1000000 in
set_option maxRecDepth 20000 in
theorem c4_as (D : zD) (x y : Int32) {N : Nat} (hN : D.1 1 4 = nI N) (h10 : N ≤ 10) (hsp : ∀ s, s < 10 → D.1 1 (6 + s) = -1 ∨ ∃ j, j < N ∧ D.1 1 (6 + s) = nI j) (hkd : ∀ c, c < N → b_in (D.1 1 (16 + 8 * c + 0)) 0 6 = true) : z_CI SX zT yX4_as cX4_as 4 .int 2 [.ref 0, .int x, .int y] D (z_eq (q_ans (o_as (D.1 1) x y)) (q_X D (o_as (D.1 1) x y))) := by
  refine z_startI SX_ok (by decide +kernel) (fun v hv => by simp at hv; rcases hv with rfl | rfl | rfl <;> rfl) (Nat.le_of_ble_eq_true rfl) (fun X F hR => ?_)
  show z_J X SX 0 [some (.ref 0), some (.int x), some (.int y), none] [] D
  refine z_iload1 F dX4_as_0 ?_
  refine z_iconst F 0 dX4_as_1 zv_i_0 ?_
  refine z_bipush F 9 dX4_as_2 zv_b_9 ?_
  refine z_callSI3 F (c4_isWithin _ _ _ _) kX4_51 (by decide) (Nat.le_of_ble_eq_true rfl) rfl dX4_as_4 ?_
  refine z_ifb_eq F 20 dX4_as_7 (by decide) (fun h7 => ?_) (fun h7 => ?_)
  · refine z_aload0 F dX4_as_20 ?_
    refine z_iconst F 0 dX4_as_21 zv_i_0 ?_
    refine z_callVI1 F (c4_finding _ 0 (by decide)) kX4_55 (by decide) ocPH (Nat.le_of_ble_eq_true rfl) rfl dX4_as_22 ?_
    refine hR _ _ _ _ dX4_as_25 rfl ?_
    simp only [o_as, h7, Bool.false_eq_true, if_true, if_false, Bool.and_true, Bool.true_and, Bool.and_false, Bool.false_and, Bool.and_self, and_self]; first | exact ⟨rfl, rfl⟩ | exact ⟨by decide, rfl⟩ | exact ⟨by decide, z_sm_r _⟩ | exact ⟨rfl, z_sm_r _⟩
  · refine z_iload2 F dX4_as_10 ?_
    refine z_iconst F 0 dX4_as_11 zv_i_0 ?_
    refine z_bipush F 6 dX4_as_12 zv_b_6 ?_
    refine z_callSI3 F (c4_isWithin _ _ _ _) kX4_51 (by decide) (Nat.le_of_ble_eq_true rfl) rfl dX4_as_14 ?_
    refine z_ifb_ne F 26 dX4_as_17 (by decide) (fun h17 => ?_) (fun h17 => ?_)
    · obtain ⟨j, hj, rfl⟩ := b_in0 9 (by decide) h7
      have hjn := i_n_n (j := j) (by omega)
      refine z_aload0 F dX4_as_26 ?_
      refine z_getR F PH_coat fX4_10 dX4_as_27 ?_
      refine z_getR F (C_spots z_r1) fX4_220 dX4_as_30 ?_
      refine z_iload1 F dX4_as_33 ?_
      refine z_iald F (aSpots z_r1) (j) rfl (by omega) dX4_as_34 ?_
      refine z_istore3 F dX4_as_35 rfl ?_
      refine z_aload0 F dX4_as_36 ?_
      refine z_getR F PH_coat fX4_10 dX4_as_37 ?_
      refine z_iload3 F dX4_as_40 ?_
      refine z_callVI1 F (c0_has _ z_r1 hN h10 _) kX4_67 (by decide) (ocC z_r1) (Nat.le_of_ble_eq_true rfl) rfl dX4_as_41 ?_
      refine z_ifb_ne F 53 dX4_as_44 (by decide) (fun h44 => ?_) (fun h44 => ?_)
      · obtain ⟨k, hk, ek⟩ := b_coin_ex h10 h44
        have hnn : ¬ nI k < 0 := Int32.not_lt.mpr (nI_pos' (by omega))
        have hkn := i_n_n (j := k) (by omega)
        rw [show D.1 1 (6 + j) = nI k from ek]
        refine z_aload0 F dX4_as_53 ?_
        refine z_getR F PH_coat fX4_10 dX4_as_54 ?_
        refine z_getR F (C_row z_r1) fX4_71 dX4_as_57 ?_
        refine z_iload3 F dX4_as_60 ?_
        refine z_aald F (aRow z_r1) (Or.inl rfl) (k) rfl (show k < 10 by omega) dX4_as_61 ?_
        refine z_iload2 F dX4_as_62 ?_
        refine z_callVI1 F (c1_is D z_r1 k (by omega) y) kX4_223 (by decide) (ocK z_r1 (show k < 10 by omega)) (Nat.le_of_ble_eq_true rfl) rfl dX4_as_63 ?_
        rw [s_isK_eq (hkd k hk) h17]
        refine z_ifb_eq F 73 dX4_as_66 (by decide) (fun h66 => ?_) (fun h66 => ?_)
        · refine z_aload0 F dX4_as_73 ?_
          refine z_iconst F 2 dX4_as_74 zv_i_2 ?_
          refine z_callVI1 F (c4_finding _ 2 (by decide)) kX4_55 (by decide) ocPH (Nat.le_of_ble_eq_true rfl) rfl dX4_as_75 ?_
          refine hR _ _ _ _ dX4_as_78 rfl ?_
          simp only [o_as, h7, h17, hjn, show D.1 1 (6 + j) = nI k from ek, hnn, hkn, h66, Bool.false_eq_true, if_true, if_false, Bool.and_true, Bool.true_and, Bool.and_false, Bool.false_and, Bool.and_self, and_self]; first | exact ⟨rfl, rfl⟩ | exact ⟨by decide, rfl⟩
        · refine z_iload3 F dX4_as_69 ?_
          refine z_goto F 78 dX4_as_70 (by decide) ?_
          refine hR _ _ _ _ dX4_as_78 rfl ?_
          simp only [o_as, h7, h17, hjn, show D.1 1 (6 + j) = nI k from ek, hnn, hkn, h66, Bool.false_eq_true, if_true, if_false, Bool.and_true, Bool.true_and, Bool.and_false, Bool.false_and, Bool.and_self, and_self]; first | exact ⟨rfl, rfl⟩ | exact ⟨by decide, rfl⟩
      · have hneg : D.1 1 (6 + j) < 0 := by
          rcases hsp j (by omega) with e | ⟨i, hi, e⟩
          · rw [e]; decide
          · rw [e, b_coin_n h10 hi] at h44; exact absurd h44 (by decide)
        refine z_aload0 F dX4_as_47 ?_
        refine z_iconst F 5 dX4_as_48 zv_i_5 ?_
        refine z_callVI1 F (c4_finding _ 5 (by decide)) kX4_55 (by decide) ocPH (Nat.le_of_ble_eq_true rfl) rfl dX4_as_49 ?_
        refine hR _ _ _ _ dX4_as_52 rfl ?_
        simp only [o_as, h7, h17, hjn, hneg, Bool.false_eq_true, if_true, if_false, Bool.and_true, Bool.true_and, Bool.and_false, Bool.false_and, Bool.and_self, and_self]; first | exact ⟨rfl, rfl⟩ | exact ⟨by decide, rfl⟩ | exact ⟨by decide, z_sm_r _⟩ | exact ⟨rfl, z_sm_r _⟩
    · refine z_aload0 F dX4_as_20 ?_
      refine z_iconst F 0 dX4_as_21 zv_i_0 ?_
      refine z_callVI1 F (c4_finding _ 0 (by decide)) kX4_55 (by decide) ocPH (Nat.le_of_ble_eq_true rfl) rfl dX4_as_22 ?_
      refine hR _ _ _ _ dX4_as_25 rfl ?_
      simp only [o_as, h7, h17, Bool.false_eq_true, if_true, if_false, Bool.and_true, Bool.true_and, Bool.and_false, Bool.false_and, Bool.and_self, and_self]; first | exact ⟨rfl, rfl⟩ | exact ⟨by decide, rfl⟩ | exact ⟨by decide, z_sm_r _⟩ | exact ⟨rfl, z_sm_r _⟩
