set_option maxHeartbeats 1000000 in
set_option maxRecDepth 20000 in
theorem c0_stirOne (D : zD) {r : Nat} (hr : z_R3 r) (c : Nat) (hc : c < 10) : z_CI SX zT yX0_stirOne cX0_stirOne 4 .boolean 2 [.ref r, .ref (10 * r + c)] D (z_eq (z_b (s_stir (D.1 r) c)) (z_row D r (s_inP (D.1 r) c))) := by
  refine z_startI SX_ok (by decide +kernel) (fun v hv => by simp at hv; rcases hv with rfl | rfl <;> rfl) (Nat.le_of_ble_eq_true rfl) (fun X F hR => ?_)
  show z_J X SX 0 [some (.ref r), some (.ref (10 * r + c)), none, none] [] D
  refine z_aload1 F dX0_stirOne_0 ?_
  refine z_getI F (K_f hr hc 5 (by decide)) fX0_101 dX0_stirOne_1 ?_
  refine z_aload1 F dX0_stirOne_4 ?_
  refine z_callVI0 F (c1_goes _ hr c hc) kX0_104 (by decide) (ocK hr hc) (Nat.le_of_ble_eq_true rfl) rfl dX0_stirOne_5 ?_
  refine z_iadd F dX0_stirOne_8 ?_
  refine z_bipush F 9 dX0_stirOne_9 zv_b_9 ?_
  refine z_min F zw_259 (by decide) rfl (Nat.le_of_ble_eq_true rfl) dX0_stirOne_11 ?_
  rw [i_min_c 9]
  refine z_istore2 F dX0_stirOne_14 rfl ?_
  refine z_iload2 F dX0_stirOne_15 ?_
  refine z_aload1 F dX0_stirOne_16 ?_
  refine z_getI F (K_f hr hc 5 (by decide)) fX0_101 dX0_stirOne_17 ?_
  refine z_ic_eq F 27 dX0_stirOne_20 (by decide) (fun h20 => ?_) (fun h20 => ?_)
  · have hnr : s_nr (D.1 r) c = false := decide_eq_false (fun z => z h20)
    refine z_iconst F 0 dX0_stirOne_27 zv_i_0 ?_
    refine z_istore3 F dX0_stirOne_28 rfl ?_
    refine z_aload1 F dX0_stirOne_29 ?_
    refine z_iload2 F dX0_stirOne_30 ?_
    refine z_putI F (K_f hr hc 5 (by decide)) fX0_101 rfl rfl dX0_stirOne_31 ?_
    refine z_iload2 F dX0_stirOne_34 ?_
    refine z_iconst F 3 dX0_stirOne_35 zv_i_3 ?_
    refine z_ic_ge F 41 dX0_stirOne_36 (by decide) (fun h36 => ?_) (fun h36 => ?_)
    · refine z_aload1 F dX0_stirOne_41 ?_
      refine z_callVI0 F (c1_thick _ hr c hc) kX0_62 (by decide) (ocK hr hc) (Nat.le_of_ble_eq_true rfl) rfl dX0_stirOne_42 ?_
      refine z_aload0 F dX0_stirOne_45 ?_
      refine z_getI F (C_hole hr) fX0_9 dX0_stirOne_46 ?_
      refine z_ic_gt F 86 dX0_stirOne_49 (by decide) (fun h49 => ?_) (fun h49 => ?_)
      · have h36n : ¬ s_near (D.1 r) c < 3 := Int32.not_lt.mpr h36
        have h49n : ¬ s_thick (D.1 r) c ≤ D.1 r 1 := by
          simp only [z_upr, s_thick_u _ _ (show 16 + 8 * c + 5 ≠ 16 + 8 * c + 0 by omega) (show 16 + 8 * c + 5 ≠ 16 + 8 * c + 1 by omega), u_ne _ _ (show 1 ≠ 16 + 8 * c + 5 by omega), u_ne _ _ (show 0 ≠ 16 + 8 * c + 5 by omega), u_ne _ _ (show 16 + 8 * c + 0 ≠ 16 + 8 * c + 5 by omega), u_ne _ _ (show 1 ≠ 16 + 8 * c + 4 by omega), u_ne _ _ (show 1 ≠ 16 + 8 * c + 6 by omega)] at h49
          exact Int32.not_le.mpr h49
        refine z_aload1 F dX0_stirOne_86 ?_
        refine z_getI F (K_f hr hc 0 (by decide)) fX0_116 dX0_stirOne_87 ?_
        refine z_iconst F 4 dX0_stirOne_90 zv_i_4 ?_
        refine z_ic_ne F 120 dX0_stirOne_91 (by decide) (fun h91 => ?_) (fun h91 => ?_)
        · have hk : ¬ D.1 r (16 + 8 * c + 0) = 4 := by
            simp only [z_upr, s_thick_u _ _ (show 16 + 8 * c + 5 ≠ 16 + 8 * c + 0 by omega) (show 16 + 8 * c + 5 ≠ 16 + 8 * c + 1 by omega), u_ne _ _ (show 1 ≠ 16 + 8 * c + 5 by omega), u_ne _ _ (show 0 ≠ 16 + 8 * c + 5 by omega), u_ne _ _ (show 16 + 8 * c + 0 ≠ 16 + 8 * c + 5 by omega), u_ne _ _ (show 1 ≠ 16 + 8 * c + 4 by omega), u_ne _ _ (show 1 ≠ 16 + 8 * c + 6 by omega)] at h91
            exact h91
          refine z_iload3 F dX0_stirOne_120 ?_
          refine hR _ _ _ _ dX0_stirOne_121 rfl ?_
          refine ⟨by rw [s_stir, if_neg h36n, if_neg h49n, if_neg hk, hnr]; rfl, ?_⟩
          rw [s_inP, if_neg h36n, if_neg h49n, if_neg (fun z => hk z.1)]
          simp only [z_up_row, z_row_row, z_rowr, s_near]
        · have hk : D.1 r (16 + 8 * c + 0) = 4 := by
            simp only [z_upr, s_thick_u _ _ (show 16 + 8 * c + 5 ≠ 16 + 8 * c + 0 by omega) (show 16 + 8 * c + 5 ≠ 16 + 8 * c + 1 by omega), u_ne _ _ (show 1 ≠ 16 + 8 * c + 5 by omega), u_ne _ _ (show 0 ≠ 16 + 8 * c + 5 by omega), u_ne _ _ (show 16 + 8 * c + 0 ≠ 16 + 8 * c + 5 by omega), u_ne _ _ (show 1 ≠ 16 + 8 * c + 4 by omega), u_ne _ _ (show 1 ≠ 16 + 8 * c + 6 by omega)] at h91
            exact h91
          refine z_aload0 F dX0_stirOne_94 ?_
          refine z_getI F (C_step hr) fX0_21 dX0_stirOne_95 ?_
          refine z_iconst F 4 dX0_stirOne_98 zv_i_4 ?_
          refine z_irem F dX0_stirOne_99 (by decide) ?_
          refine z_if_ne F 118 dX0_stirOne_100 (by decide) (fun h100 => ?_) (fun h100 => ?_)
          · refine z_iconst F 1 dX0_stirOne_118 zv_i_1 ?_
            refine hR _ _ _ _ dX0_stirOne_119 rfl ?_
            simp only [z_upr, s_thick_u _ _ (show 16 + 8 * c + 5 ≠ 16 + 8 * c + 0 by omega) (show 16 + 8 * c + 5 ≠ 16 + 8 * c + 1 by omega), u_ne _ _ (show 1 ≠ 16 + 8 * c + 5 by omega), u_ne _ _ (show 0 ≠ 16 + 8 * c + 5 by omega), u_ne _ _ (show 16 + 8 * c + 0 ≠ 16 + 8 * c + 5 by omega), u_ne _ _ (show 1 ≠ 16 + 8 * c + 4 by omega), u_ne _ _ (show 1 ≠ 16 + 8 * c + 6 by omega)] at h100
            refine ⟨by rw [s_stir, if_neg h36n, if_neg h49n, if_pos hk]; rfl, ?_⟩
            rw [s_inP, if_neg h36n, if_neg h49n, if_neg (fun z => h100 z.2)]
            simp only [z_up_row, z_row_row, z_rowr, s_near]
          · refine z_aload0 F dX0_stirOne_103 ?_
            refine z_aload0 F dX0_stirOne_104 ?_
            refine z_getI F (C_hole hr) fX0_9 dX0_stirOne_105 ?_
            refine z_iconst F 1 dX0_stirOne_108 zv_i_1 ?_
            refine z_iadd F dX0_stirOne_109 ?_
            refine z_bipush F 99 dX0_stirOne_110 zv_b_99 ?_
            refine z_min F zw_259 (by decide) rfl (Nat.le_of_ble_eq_true rfl) dX0_stirOne_112 ?_
            rw [i_min_c 99]
            refine z_putI F (C_hole hr) fX0_9 rfl rfl dX0_stirOne_115 ?_
            refine z_iconst F 1 dX0_stirOne_118 zv_i_1 ?_
            refine hR _ _ _ _ dX0_stirOne_119 rfl ?_
            simp only [z_upr, s_thick_u _ _ (show 16 + 8 * c + 5 ≠ 16 + 8 * c + 0 by omega) (show 16 + 8 * c + 5 ≠ 16 + 8 * c + 1 by omega), u_ne _ _ (show 1 ≠ 16 + 8 * c + 5 by omega), u_ne _ _ (show 0 ≠ 16 + 8 * c + 5 by omega), u_ne _ _ (show 16 + 8 * c + 0 ≠ 16 + 8 * c + 5 by omega), u_ne _ _ (show 1 ≠ 16 + 8 * c + 4 by omega), u_ne _ _ (show 1 ≠ 16 + 8 * c + 6 by omega)] at h100
            refine ⟨by rw [s_stir, if_neg h36n, if_neg h49n, if_pos hk]; rfl, ?_⟩
            rw [s_inP, if_neg h36n, if_neg h49n, if_pos ⟨hk, h100⟩]
            simp only [z_up_row, z_row_row, z_rowr, s_near, u_ne _ _ (show 1 ≠ 16 + 8 * c + 5 by omega), u_ne _ _ (show 0 ≠ 16 + 8 * c + 5 by omega), u_ne _ _ (show 16 + 8 * c + 0 ≠ 16 + 8 * c + 5 by omega), u_ne _ _ (show 1 ≠ 16 + 8 * c + 4 by omega), u_ne _ _ (show 1 ≠ 16 + 8 * c + 6 by omega)]
      · have h36n : ¬ s_near (D.1 r) c < 3 := Int32.not_lt.mpr h36
        refine z_aload1 F dX0_stirOne_52 ?_
        refine z_iconst F 1 dX0_stirOne_53 zv_i_1 ?_
        refine z_putI F (K_f hr hc 4 (by decide)) fX0_59 rfl rfl dX0_stirOne_54 ?_
        refine z_aload1 F dX0_stirOne_57 ?_
        refine z_iconst F 0 dX0_stirOne_58 zv_i_0 ?_
        refine z_putI F (K_f hr hc 6 (by decide)) fX0_78 rfl rfl dX0_stirOne_59 ?_
        refine z_aload0 F dX0_stirOne_62 ?_
        refine z_aload0 F dX0_stirOne_63 ?_
        refine z_getI F (C_hole hr) fX0_9 dX0_stirOne_64 ?_
        refine z_aload1 F dX0_stirOne_67 ?_
        refine z_aload0 F dX0_stirOne_68 ?_
        refine z_getI F (C_hole hr) fX0_9 dX0_stirOne_69 ?_
        refine z_callVI1 F (c1_wears _ hr c hc) kX0_113 (by decide) (ocK hr hc) (Nat.le_of_ble_eq_true rfl) rfl dX0_stirOne_72 ?_
        refine z_iadd F dX0_stirOne_75 ?_
        refine z_bipush F 99 dX0_stirOne_76 zv_b_99 ?_
        refine z_min F zw_259 (by decide) rfl (Nat.le_of_ble_eq_true rfl) dX0_stirOne_78 ?_
        rw [i_min_c 99]
        refine z_putI F (C_hole hr) fX0_9 rfl rfl dX0_stirOne_81 ?_
        refine z_iconst F 1 dX0_stirOne_84 zv_i_1 ?_
        refine hR _ _ _ _ dX0_stirOne_85 rfl ?_
        simp only [z_upr, s_thick_u _ _ (show 16 + 8 * c + 5 ≠ 16 + 8 * c + 0 by omega) (show 16 + 8 * c + 5 ≠ 16 + 8 * c + 1 by omega), u_ne _ _ (show 1 ≠ 16 + 8 * c + 5 by omega), u_ne _ _ (show 0 ≠ 16 + 8 * c + 5 by omega), u_ne _ _ (show 16 + 8 * c + 0 ≠ 16 + 8 * c + 5 by omega), u_ne _ _ (show 1 ≠ 16 + 8 * c + 4 by omega), u_ne _ _ (show 1 ≠ 16 + 8 * c + 6 by omega)] at h49
        have h49n : s_thick (D.1 r) c ≤ D.1 r 1 := Int32.not_lt.mp h49
        refine ⟨by rw [s_stir, if_neg h36n, if_pos h49n]; rfl, ?_⟩
        rw [s_inP, if_neg h36n, if_pos h49n]
        simp only [z_up_row, z_row_row, z_rowr, s_near, u_ne _ _ (show 1 ≠ 16 + 8 * c + 5 by omega), u_ne _ _ (show 0 ≠ 16 + 8 * c + 5 by omega), u_ne _ _ (show 16 + 8 * c + 0 ≠ 16 + 8 * c + 5 by omega), u_ne _ _ (show 1 ≠ 16 + 8 * c + 4 by omega), u_ne _ _ (show 1 ≠ 16 + 8 * c + 6 by omega), s_wears_u _ _ (show 16 + 8 * c + 4 ≠ 16 + 8 * c + 0 by omega) (show 16 + 8 * c + 4 ≠ 16 + 8 * c + 1 by omega) (show 16 + 8 * c + 4 ≠ 1 by omega), s_wears_u _ _ (show 16 + 8 * c + 5 ≠ 16 + 8 * c + 0 by omega) (show 16 + 8 * c + 5 ≠ 16 + 8 * c + 1 by omega) (show 16 + 8 * c + 5 ≠ 1 by omega), s_wears_u _ _ (show 16 + 8 * c + 6 ≠ 16 + 8 * c + 0 by omega) (show 16 + 8 * c + 6 ≠ 16 + 8 * c + 1 by omega) (show 16 + 8 * c + 6 ≠ 1 by omega)]
    · refine z_iload3 F dX0_stirOne_39 ?_
      refine hR _ _ _ _ dX0_stirOne_40 rfl ?_
      have h36n : s_near (D.1 r) c < 3 := Int32.not_le.mp h36
      refine ⟨by rw [s_stir, if_pos h36n, hnr]; rfl, ?_⟩
      rw [s_inP, if_pos h36n]
      simp only [z_up_row, z_row_row, z_rowr, s_near]
  · have hnr : s_nr (D.1 r) c = true := decide_eq_true h20
    refine z_iconst F 1 dX0_stirOne_23 zv_i_1 ?_
    refine z_goto F 28 dX0_stirOne_24 (by decide) ?_
    refine z_istore3 F dX0_stirOne_28 rfl ?_
    refine z_aload1 F dX0_stirOne_29 ?_
    refine z_iload2 F dX0_stirOne_30 ?_
    refine z_putI F (K_f hr hc 5 (by decide)) fX0_101 rfl rfl dX0_stirOne_31 ?_
    refine z_iload2 F dX0_stirOne_34 ?_
    refine z_iconst F 3 dX0_stirOne_35 zv_i_3 ?_
    refine z_ic_ge F 41 dX0_stirOne_36 (by decide) (fun h36 => ?_) (fun h36 => ?_)
    · refine z_aload1 F dX0_stirOne_41 ?_
      refine z_callVI0 F (c1_thick _ hr c hc) kX0_62 (by decide) (ocK hr hc) (Nat.le_of_ble_eq_true rfl) rfl dX0_stirOne_42 ?_
      refine z_aload0 F dX0_stirOne_45 ?_
      refine z_getI F (C_hole hr) fX0_9 dX0_stirOne_46 ?_
      refine z_ic_gt F 86 dX0_stirOne_49 (by decide) (fun h49 => ?_) (fun h49 => ?_)
      · have h36n : ¬ s_near (D.1 r) c < 3 := Int32.not_lt.mpr h36
        have h49n : ¬ s_thick (D.1 r) c ≤ D.1 r 1 := by
          simp only [z_upr, s_thick_u _ _ (show 16 + 8 * c + 5 ≠ 16 + 8 * c + 0 by omega) (show 16 + 8 * c + 5 ≠ 16 + 8 * c + 1 by omega), u_ne _ _ (show 1 ≠ 16 + 8 * c + 5 by omega), u_ne _ _ (show 0 ≠ 16 + 8 * c + 5 by omega), u_ne _ _ (show 16 + 8 * c + 0 ≠ 16 + 8 * c + 5 by omega), u_ne _ _ (show 1 ≠ 16 + 8 * c + 4 by omega), u_ne _ _ (show 1 ≠ 16 + 8 * c + 6 by omega)] at h49
          exact Int32.not_le.mpr h49
        refine z_aload1 F dX0_stirOne_86 ?_
        refine z_getI F (K_f hr hc 0 (by decide)) fX0_116 dX0_stirOne_87 ?_
        refine z_iconst F 4 dX0_stirOne_90 zv_i_4 ?_
        refine z_ic_ne F 120 dX0_stirOne_91 (by decide) (fun h91 => ?_) (fun h91 => ?_)
        · have hk : ¬ D.1 r (16 + 8 * c + 0) = 4 := by
            simp only [z_upr, s_thick_u _ _ (show 16 + 8 * c + 5 ≠ 16 + 8 * c + 0 by omega) (show 16 + 8 * c + 5 ≠ 16 + 8 * c + 1 by omega), u_ne _ _ (show 1 ≠ 16 + 8 * c + 5 by omega), u_ne _ _ (show 0 ≠ 16 + 8 * c + 5 by omega), u_ne _ _ (show 16 + 8 * c + 0 ≠ 16 + 8 * c + 5 by omega), u_ne _ _ (show 1 ≠ 16 + 8 * c + 4 by omega), u_ne _ _ (show 1 ≠ 16 + 8 * c + 6 by omega)] at h91
            exact h91
          refine z_iload3 F dX0_stirOne_120 ?_
          refine hR _ _ _ _ dX0_stirOne_121 rfl ?_
          refine ⟨by rw [s_stir, if_neg h36n, if_neg h49n, if_neg hk, hnr]; rfl, ?_⟩
          rw [s_inP, if_neg h36n, if_neg h49n, if_neg (fun z => hk z.1)]
          simp only [z_up_row, z_row_row, z_rowr, s_near]
        · have hk : D.1 r (16 + 8 * c + 0) = 4 := by
            simp only [z_upr, s_thick_u _ _ (show 16 + 8 * c + 5 ≠ 16 + 8 * c + 0 by omega) (show 16 + 8 * c + 5 ≠ 16 + 8 * c + 1 by omega), u_ne _ _ (show 1 ≠ 16 + 8 * c + 5 by omega), u_ne _ _ (show 0 ≠ 16 + 8 * c + 5 by omega), u_ne _ _ (show 16 + 8 * c + 0 ≠ 16 + 8 * c + 5 by omega), u_ne _ _ (show 1 ≠ 16 + 8 * c + 4 by omega), u_ne _ _ (show 1 ≠ 16 + 8 * c + 6 by omega)] at h91
            exact h91
          refine z_aload0 F dX0_stirOne_94 ?_
          refine z_getI F (C_step hr) fX0_21 dX0_stirOne_95 ?_
          refine z_iconst F 4 dX0_stirOne_98 zv_i_4 ?_
          refine z_irem F dX0_stirOne_99 (by decide) ?_
          refine z_if_ne F 118 dX0_stirOne_100 (by decide) (fun h100 => ?_) (fun h100 => ?_)
          · refine z_iconst F 1 dX0_stirOne_118 zv_i_1 ?_
            refine hR _ _ _ _ dX0_stirOne_119 rfl ?_
            simp only [z_upr, s_thick_u _ _ (show 16 + 8 * c + 5 ≠ 16 + 8 * c + 0 by omega) (show 16 + 8 * c + 5 ≠ 16 + 8 * c + 1 by omega), u_ne _ _ (show 1 ≠ 16 + 8 * c + 5 by omega), u_ne _ _ (show 0 ≠ 16 + 8 * c + 5 by omega), u_ne _ _ (show 16 + 8 * c + 0 ≠ 16 + 8 * c + 5 by omega), u_ne _ _ (show 1 ≠ 16 + 8 * c + 4 by omega), u_ne _ _ (show 1 ≠ 16 + 8 * c + 6 by omega)] at h100
            refine ⟨by rw [s_stir, if_neg h36n, if_neg h49n, if_pos hk]; rfl, ?_⟩
            rw [s_inP, if_neg h36n, if_neg h49n, if_neg (fun z => h100 z.2)]
            simp only [z_up_row, z_row_row, z_rowr, s_near]
          · refine z_aload0 F dX0_stirOne_103 ?_
            refine z_aload0 F dX0_stirOne_104 ?_
            refine z_getI F (C_hole hr) fX0_9 dX0_stirOne_105 ?_
            refine z_iconst F 1 dX0_stirOne_108 zv_i_1 ?_
            refine z_iadd F dX0_stirOne_109 ?_
            refine z_bipush F 99 dX0_stirOne_110 zv_b_99 ?_
            refine z_min F zw_259 (by decide) rfl (Nat.le_of_ble_eq_true rfl) dX0_stirOne_112 ?_
            rw [i_min_c 99]
            refine z_putI F (C_hole hr) fX0_9 rfl rfl dX0_stirOne_115 ?_
            refine z_iconst F 1 dX0_stirOne_118 zv_i_1 ?_
            refine hR _ _ _ _ dX0_stirOne_119 rfl ?_
            simp only [z_upr, s_thick_u _ _ (show 16 + 8 * c + 5 ≠ 16 + 8 * c + 0 by omega) (show 16 + 8 * c + 5 ≠ 16 + 8 * c + 1 by omega), u_ne _ _ (show 1 ≠ 16 + 8 * c + 5 by omega), u_ne _ _ (show 0 ≠ 16 + 8 * c + 5 by omega), u_ne _ _ (show 16 + 8 * c + 0 ≠ 16 + 8 * c + 5 by omega), u_ne _ _ (show 1 ≠ 16 + 8 * c + 4 by omega), u_ne _ _ (show 1 ≠ 16 + 8 * c + 6 by omega)] at h100
            refine ⟨by rw [s_stir, if_neg h36n, if_neg h49n, if_pos hk]; rfl, ?_⟩
            rw [s_inP, if_neg h36n, if_neg h49n, if_pos ⟨hk, h100⟩]
            simp only [z_up_row, z_row_row, z_rowr, s_near, u_ne _ _ (show 1 ≠ 16 + 8 * c + 5 by omega), u_ne _ _ (show 0 ≠ 16 + 8 * c + 5 by omega), u_ne _ _ (show 16 + 8 * c + 0 ≠ 16 + 8 * c + 5 by omega), u_ne _ _ (show 1 ≠ 16 + 8 * c + 4 by omega), u_ne _ _ (show 1 ≠ 16 + 8 * c + 6 by omega)]
      · have h36n : ¬ s_near (D.1 r) c < 3 := Int32.not_lt.mpr h36
        refine z_aload1 F dX0_stirOne_52 ?_
        refine z_iconst F 1 dX0_stirOne_53 zv_i_1 ?_
        refine z_putI F (K_f hr hc 4 (by decide)) fX0_59 rfl rfl dX0_stirOne_54 ?_
        refine z_aload1 F dX0_stirOne_57 ?_
        refine z_iconst F 0 dX0_stirOne_58 zv_i_0 ?_
        refine z_putI F (K_f hr hc 6 (by decide)) fX0_78 rfl rfl dX0_stirOne_59 ?_
        refine z_aload0 F dX0_stirOne_62 ?_
        refine z_aload0 F dX0_stirOne_63 ?_
        refine z_getI F (C_hole hr) fX0_9 dX0_stirOne_64 ?_
        refine z_aload1 F dX0_stirOne_67 ?_
        refine z_aload0 F dX0_stirOne_68 ?_
        refine z_getI F (C_hole hr) fX0_9 dX0_stirOne_69 ?_
        refine z_callVI1 F (c1_wears _ hr c hc) kX0_113 (by decide) (ocK hr hc) (Nat.le_of_ble_eq_true rfl) rfl dX0_stirOne_72 ?_
        refine z_iadd F dX0_stirOne_75 ?_
        refine z_bipush F 99 dX0_stirOne_76 zv_b_99 ?_
        refine z_min F zw_259 (by decide) rfl (Nat.le_of_ble_eq_true rfl) dX0_stirOne_78 ?_
        rw [i_min_c 99]
        refine z_putI F (C_hole hr) fX0_9 rfl rfl dX0_stirOne_81 ?_
        refine z_iconst F 1 dX0_stirOne_84 zv_i_1 ?_
        refine hR _ _ _ _ dX0_stirOne_85 rfl ?_
        simp only [z_upr, s_thick_u _ _ (show 16 + 8 * c + 5 ≠ 16 + 8 * c + 0 by omega) (show 16 + 8 * c + 5 ≠ 16 + 8 * c + 1 by omega), u_ne _ _ (show 1 ≠ 16 + 8 * c + 5 by omega), u_ne _ _ (show 0 ≠ 16 + 8 * c + 5 by omega), u_ne _ _ (show 16 + 8 * c + 0 ≠ 16 + 8 * c + 5 by omega), u_ne _ _ (show 1 ≠ 16 + 8 * c + 4 by omega), u_ne _ _ (show 1 ≠ 16 + 8 * c + 6 by omega)] at h49
        have h49n : s_thick (D.1 r) c ≤ D.1 r 1 := Int32.not_lt.mp h49
        refine ⟨by rw [s_stir, if_neg h36n, if_pos h49n]; rfl, ?_⟩
        rw [s_inP, if_neg h36n, if_pos h49n]
        simp only [z_up_row, z_row_row, z_rowr, s_near, u_ne _ _ (show 1 ≠ 16 + 8 * c + 5 by omega), u_ne _ _ (show 0 ≠ 16 + 8 * c + 5 by omega), u_ne _ _ (show 16 + 8 * c + 0 ≠ 16 + 8 * c + 5 by omega), u_ne _ _ (show 1 ≠ 16 + 8 * c + 4 by omega), u_ne _ _ (show 1 ≠ 16 + 8 * c + 6 by omega), s_wears_u _ _ (show 16 + 8 * c + 4 ≠ 16 + 8 * c + 0 by omega) (show 16 + 8 * c + 4 ≠ 16 + 8 * c + 1 by omega) (show 16 + 8 * c + 4 ≠ 1 by omega), s_wears_u _ _ (show 16 + 8 * c + 5 ≠ 16 + 8 * c + 0 by omega) (show 16 + 8 * c + 5 ≠ 16 + 8 * c + 1 by omega) (show 16 + 8 * c + 5 ≠ 1 by omega), s_wears_u _ _ (show 16 + 8 * c + 6 ≠ 16 + 8 * c + 0 by omega) (show 16 + 8 * c + 6 ≠ 16 + 8 * c + 1 by omega) (show 16 + 8 * c + 6 ≠ 1 by omega)]
    · refine z_iload3 F dX0_stirOne_39 ?_
      refine hR _ _ _ _ dX0_stirOne_40 rfl ?_
      have h36n : s_near (D.1 r) c < 3 := Int32.not_le.mp h36
      refine ⟨by rw [s_stir, if_pos h36n, hnr]; rfl, ?_⟩
      rw [s_inP, if_pos h36n]
      simp only [z_up_row, z_row_row, z_rowr, s_near]
set_option maxHeartbeats 1000000 in
set_option maxRecDepth 20000 in
theorem c0_goPocket (D : zD) {r : Nat} (hr : z_R3 r) {N : Nat} (hN : D.1 r 4 = nI N) (h10 : N ≤ 10) : z_CI SX zT yX0_goPocket cX0_goPocket 3 .boolean 3 [.ref r] D (z_eq (z_b (s_stirs (D.1 r) N)) (z_row D r (s_goP (D.1 r) N))) := by
  refine z_startI SX_ok (by decide +kernel) (fun v hv => by simp at hv; subst hv; rfl) (Nat.le_of_ble_eq_true rfl) (fun X F hR => ?_)
  show z_J X SX 0 [some (.ref r), none, none] [] D
  refine z_iconst F 0 dX0_goPocket_0 zv_i_0 ?_
  refine z_istore1 F dX0_goPocket_1 rfl ?_
  refine z_iconst F 0 dX0_goPocket_2 zv_i_0 ?_
  refine z_istore2 F dX0_goPocket_3 rfl ?_
  have loop : ∀ (n c : Nat), c + n = N → z_J X SX 4 [some (.ref r), some (.int (z_b (s_stirs (D.1 r) c))), some (.int (nI c))] [] (z_row D r (s_pk (D.1 r) c)) := by
    intro n
    induction n with
    | zero =>
      intro c hn 
      refine z_iload2 F dX0_goPocket_4 ?_
      refine z_aload0 F dX0_goPocket_5 ?_
      refine z_getI F (C_coins hr) fX0_27 dX0_goPocket_6 ?_
      refine z_ic_ge F 45 dX0_goPocket_9 (by decide) (fun h9 => ?_) (fun h9 => ?_)
      · refine z_aload0 F dX0_goPocket_45 ?_
        refine z_dup F dX0_goPocket_46 rfl ?_
        refine z_getI F (C_step hr) fX0_21 dX0_goPocket_47 ?_
        refine z_iconst F 1 dX0_goPocket_50 zv_i_1 ?_
        refine z_iadd F dX0_goPocket_51 ?_
        refine z_putI F (C_step hr) fX0_21 rfl rfl dX0_goPocket_52 ?_
        rw [z_rowr, s_pk_lo _ (by decide) (by decide), z_row_up]
        refine z_iload1 F dX0_goPocket_55 ?_
        refine hR _ _ _ _ dX0_goPocket_56 (z_narB _) ?_
        exact ⟨by rw [show c = N by omega], by rw [show c = N by omega]; rfl⟩
      · exact absurd (by rw [z_rowr, s_pk_lo _ (by decide) (by decide), hN]; exact nI_le (by omega) (by omega)) h9
    | succ n ih =>
      intro c hn 
      refine z_iload2 F dX0_goPocket_4 ?_
      refine z_aload0 F dX0_goPocket_5 ?_
      refine z_getI F (C_coins hr) fX0_27 dX0_goPocket_6 ?_
      refine z_ic_ge F 45 dX0_goPocket_9 (by decide) (fun h9 => ?_) (fun h9 => ?_)
      · exact absurd h9 (by rw [z_rowr, s_pk_lo _ (by decide) (by decide), hN]; exact nI_ge (by omega) (by omega))
      · refine z_aload0 F dX0_goPocket_12 ?_
        refine z_getR F (C_row hr) fX0_32 dX0_goPocket_13 ?_
        refine z_iload2 F dX0_goPocket_16 ?_
        refine z_aald F (aRow hr) (Or.inl rfl) (c) rfl (show c < 10 by omega) dX0_goPocket_17 ?_
        refine z_getI F (K_f hr (show c < 10 by omega) 4 (by decide)) fX0_59 dX0_goPocket_18 ?_
        rw [z_rowr]
        refine z_if_ne F 39 dX0_goPocket_21 (by decide) (fun h21 => ?_) (fun h21 => ?_)
        · refine z_iinc2 F 1 dX0_goPocket_39 rfl zv_i_1 ?_
          refine z_goto F 4 dX0_goPocket_42 (by decide) ?_
          have h := ih (c + 1) (by omega)
          rw [show nI (c + 1) = nI c + 1 from nI_succ c, show s_stirs (D.1 r) (c + 1) = s_stirs (D.1 r) c from by rw [s_stirs, decide_eq_false h21, Bool.false_and, Bool.or_false], show s_pk (D.1 r) (c + 1) = s_pk (D.1 r) c from by rw [s_pk, if_neg h21]] at h
          exact h
        · refine z_aload0 F dX0_goPocket_24 ?_
          refine z_aload0 F dX0_goPocket_25 ?_
          refine z_getR F (C_row hr) fX0_32 dX0_goPocket_26 ?_
          refine z_iload2 F dX0_goPocket_29 ?_
          refine z_aald F (aRow hr) (Or.inl rfl) (c) rfl (show c < 10 by omega) dX0_goPocket_30 ?_
          refine z_callVI1 F (by have h := c0_stirOne (z_row D r (s_pk (D.1 r) c)) hr c (by omega); rw [z_rowr, z_row_row] at h; exact h) kX0_97 (by decide) (ocC hr) (Nat.le_of_ble_eq_true rfl) rfl dX0_goPocket_31 ?_
          refine z_ifb_eq F 39 dX0_goPocket_34 (by decide) (fun h34 => ?_) (fun h34 => ?_)
          · refine z_iinc2 F 1 dX0_goPocket_39 rfl zv_i_1 ?_
            refine z_goto F 4 dX0_goPocket_42 (by decide) ?_
            have h := ih (c + 1) (by omega)
            rw [show nI (c + 1) = nI c + 1 from nI_succ c, show s_stirs (D.1 r) (c + 1) = s_stirs (D.1 r) c from by rw [s_stirs, h34, Bool.and_false, Bool.or_false], show s_pk (D.1 r) (c + 1) = s_inP (s_pk (D.1 r) c) c from by rw [s_pk, if_pos h21]] at h
            exact h
          · refine z_iconst F 1 dX0_goPocket_37 zv_i_1 ?_
            refine z_istore1 F dX0_goPocket_38 rfl ?_
            refine z_iinc2 F 1 dX0_goPocket_39 rfl zv_i_1 ?_
            refine z_goto F 4 dX0_goPocket_42 (by decide) ?_
            have h := ih (c + 1) (by omega)
            rw [show nI (c + 1) = nI c + 1 from nI_succ c, show s_stirs (D.1 r) (c + 1) = true from by rw [s_stirs, h34, decide_eq_true h21, Bool.and_true, Bool.or_true], show s_pk (D.1 r) (c + 1) = s_inP (s_pk (D.1 r) c) c from by rw [s_pk, if_pos h21]] at h
            exact h
  have h := loop N 0 (by omega)
  rw [s_pk, z_row_eq] at h
  exact h
set_option maxHeartbeats 1000000 in
set_option maxRecDepth 20000 in
theorem c0_goLining (D : zD) {r : Nat} (hr : z_R3 r) {N : Nat} (hN : D.1 r 4 = nI N) (h10 : N ≤ 10) (set sa : Int32) (hset : ∀ c, c < N → s_has set c = true → D.1 r (16 + 8 * c + 4) = 1) : z_CV SX zT yX0_goLining cX0_goLining 5 3 [.ref r, .int set, .int sa] D (z_eqV (z_row D r (s_ln (D.1 r) N set sa N))) := by
  refine z_startV SX_ok (by decide +kernel) (fun v hv => by simp at hv; rcases hv with rfl | rfl | rfl <;> rfl) (Nat.le_of_ble_eq_true rfl) (fun X F hR => ?_)
  show z_J X SX 0 [some (.ref r), some (.int set), some (.int sa), none, none] [] D
  refine z_iconst F 0 dX0_goLining_0 zv_i_0 ?_
  refine z_istore3 F dX0_goLining_1 rfl ?_
  have loop : ∀ (n c : Nat), c + n = N → ∀ (a4 : Option Value), z_J X SX 2 [some (.ref r), some (.int set), some (.int sa), some (.int (nI c)), a4] [] (z_row D r (s_ln (D.1 r) N set sa c)) := by
    intro n
    induction n with
    | zero =>
      intro c hn a4
      refine z_iload3 F dX0_goLining_2 ?_
      refine z_aload0 F dX0_goLining_3 ?_
      refine z_getI F (C_coins hr) fX0_27 dX0_goLining_4 ?_
      refine z_ic_ge F 101 dX0_goLining_7 (by decide) (fun h7 => ?_) (fun h7 => ?_)
      · refine hR _ _ _ dX0_goLining_101 ?_
        show _ = _
        rw [show c = N by omega]
      · exact absurd (by rw [z_rowr, s_ln_lo _ _ _ _ (by decide), hN]; exact nI_le (by omega) (by omega)) h7
    | succ n ih =>
      intro c hn a4
      refine z_iload3 F dX0_goLining_2 ?_
      refine z_aload0 F dX0_goLining_3 ?_
      refine z_getI F (C_coins hr) fX0_27 dX0_goLining_4 ?_
      refine z_ic_ge F 101 dX0_goLining_7 (by decide) (fun h7 => ?_) (fun h7 => ?_)
      · exact absurd h7 (by rw [z_rowr, s_ln_lo _ _ _ _ (by decide), hN]; exact nI_ge (by omega) (by omega))
      · refine z_iload1 F dX0_goLining_10 ?_
        refine z_iload3 F dX0_goLining_11 ?_
        refine z_ishr F dX0_goLining_12 ?_
        refine z_iconst F 1 dX0_goLining_13 zv_i_1 ?_
        refine z_iand F dX0_goLining_14 ?_
        refine z_iconst F 1 dX0_goLining_15 zv_i_1 ?_
        refine z_ic_ne F 95 dX0_goLining_16 (by decide) (fun h16 => ?_) (fun h16 => ?_)
        · refine z_iinc3 F 1 dX0_goLining_95 rfl zv_i_1 ?_
          refine z_goto F 2 dX0_goLining_98 (by decide) ?_
          have h := ih (c + 1) (by omega)
          rw [show nI (c + 1) = nI c + 1 from nI_succ c, s_ln, if_neg (show ¬ s_has set c = true from fun e => h16 (of_decide_eq_true e))] at h
          exact h _
        · refine z_aload0 F dX0_goLining_19 ?_
          refine z_getR F (C_row hr) fX0_32 dX0_goLining_20 ?_
          refine z_iload3 F dX0_goLining_23 ?_
          refine z_aald F (aRow hr) (Or.inl rfl) (c) rfl (show c < 10 by omega) dX0_goLining_24 ?_
          refine z_astore4 F dX0_goLining_25 rfl ?_
          refine z_aload4 F dX0_goLining_27 ?_
          refine z_getI F (K_f hr (show c < 10 by omega) 6 (by decide)) fX0_78 dX0_goLining_29 ?_
          refine z_aload0 F dX0_goLining_32 ?_
          refine z_getI F (C_at hr) fX0_18 dX0_goLining_33 ?_
          simp only [z_rowr]
          refine z_ic_ne F 74 dX0_goLining_36 (by decide) (fun h36 => ?_) (fun h36 => ?_)
          · refine z_aload4 F dX0_goLining_74 ?_
            refine z_aload4 F dX0_goLining_76 ?_
            refine z_getI F (K_f hr (show c < 10 by omega) 6 (by decide)) fX0_78 dX0_goLining_78 ?_
            refine z_aload4 F dX0_goLining_81 ?_
            refine z_callVI0 F (c1_goes _ hr c (show c < 10 by omega)) kX0_104 (by decide) (ocK hr (show c < 10 by omega)) (Nat.le_of_ble_eq_true rfl) rfl dX0_goLining_83 ?_
            refine z_iadd F dX0_goLining_86 ?_
            refine z_bipush F 7 dX0_goLining_87 zv_b_7 ?_
            refine z_min F zw_259 (by decide) rfl (Nat.le_of_ble_eq_true rfl) dX0_goLining_89 ?_
            rw [i_min_c 7]
            refine z_putI F (K_f hr (show c < 10 by omega) 6 (by decide)) fX0_78 rfl rfl dX0_goLining_92 ?_
            refine z_iinc3 F 1 dX0_goLining_95 rfl zv_i_1 ?_
            refine z_goto F 2 dX0_goLining_98 (by decide) ?_
            have h := ih (c + 1) (by omega)
            rw [show nI (c + 1) = nI c + 1 from nI_succ c, s_ln, if_pos (show s_has set c = true from decide_eq_true h16), s_inL, if_neg (fun z => h36 z.1)] at h
            simp only [z_row_up, z_rowr]
            exact h _
          · refine z_aload4 F dX0_goLining_39 ?_
            refine z_callVI0 F (c1_thick _ hr c (show c < 10 by omega)) kX0_62 (by decide) (ocK hr (show c < 10 by omega)) (Nat.le_of_ble_eq_true rfl) rfl dX0_goLining_41 ?_
            refine z_aload0 F dX0_goLining_44 ?_
            refine z_getI F (C_gap hr) fX0_15 dX0_goLining_45 ?_
            simp only [z_rowr]
            refine z_ic_gt F 74 dX0_goLining_48 (by decide) (fun h48 => ?_) (fun h48 => ?_)
            · refine z_aload4 F dX0_goLining_74 ?_
              refine z_aload4 F dX0_goLining_76 ?_
              refine z_getI F (K_f hr (show c < 10 by omega) 6 (by decide)) fX0_78 dX0_goLining_78 ?_
              refine z_aload4 F dX0_goLining_81 ?_
              refine z_callVI0 F (c1_goes _ hr c (show c < 10 by omega)) kX0_104 (by decide) (ocK hr (show c < 10 by omega)) (Nat.le_of_ble_eq_true rfl) rfl dX0_goLining_83 ?_
              refine z_iadd F dX0_goLining_86 ?_
              refine z_bipush F 7 dX0_goLining_87 zv_b_7 ?_
              refine z_min F zw_259 (by decide) rfl (Nat.le_of_ble_eq_true rfl) dX0_goLining_89 ?_
              rw [i_min_c 7]
              refine z_putI F (K_f hr (show c < 10 by omega) 6 (by decide)) fX0_78 rfl rfl dX0_goLining_92 ?_
              refine z_iinc3 F 1 dX0_goLining_95 rfl zv_i_1 ?_
              refine z_goto F 2 dX0_goLining_98 (by decide) ?_
              have h := ih (c + 1) (by omega)
              rw [show nI (c + 1) = nI c + 1 from nI_succ c, s_ln, if_pos (show s_has set c = true from decide_eq_true h16), s_inL, if_neg (fun z => Int32.not_le.mpr h48 z.2.1)] at h
              simp only [z_row_up, z_rowr]
              exact h _
            · refine z_aload0 F dX0_goLining_51 ?_
              refine z_iload3 F dX0_goLining_52 ?_
              refine z_callVI1 F (by have h := c0_clinksNow (z_row D r (s_ln (D.1 r) N set sa c)) hr (N := N) (by rw [z_rowr, s_ln_lo _ _ _ _ (by decide)]; exact hN) h10 c (by omega) (by rw [z_rowr, s_ln_ah _ _ _ _ (by decide) c (Nat.le_refl _)]; exact hset c (by omega) (decide_eq_true h16)); rw [z_rowr] at h; exact h) kX0_119 (by decide) (ocC hr) (Nat.le_of_ble_eq_true rfl) rfl dX0_goLining_53 ?_
              refine z_ifb_eq F 74 dX0_goLining_56 (by decide) (fun h56 => ?_) (fun h56 => ?_)
              · refine z_aload4 F dX0_goLining_74 ?_
                refine z_aload4 F dX0_goLining_76 ?_
                refine z_getI F (K_f hr (show c < 10 by omega) 6 (by decide)) fX0_78 dX0_goLining_78 ?_
                refine z_aload4 F dX0_goLining_81 ?_
                refine z_callVI0 F (c1_goes _ hr c (show c < 10 by omega)) kX0_104 (by decide) (ocK hr (show c < 10 by omega)) (Nat.le_of_ble_eq_true rfl) rfl dX0_goLining_83 ?_
                refine z_iadd F dX0_goLining_86 ?_
                refine z_bipush F 7 dX0_goLining_87 zv_b_7 ?_
                refine z_min F zw_259 (by decide) rfl (Nat.le_of_ble_eq_true rfl) dX0_goLining_89 ?_
                rw [i_min_c 7]
                refine z_putI F (K_f hr (show c < 10 by omega) 6 (by decide)) fX0_78 rfl rfl dX0_goLining_92 ?_
                refine z_iinc3 F 1 dX0_goLining_95 rfl zv_i_1 ?_
                refine z_goto F 2 dX0_goLining_98 (by decide) ?_
                have h := ih (c + 1) (by omega)
                rw [show nI (c + 1) = nI c + 1 from nI_succ c, s_ln, if_pos (show s_has set c = true from decide_eq_true h16), s_inL, if_neg (fun z => by rw [h56] at z; exact absurd z.2.2 (by decide))] at h
                simp only [z_row_up, z_rowr]
                exact h _
              · refine z_aload4 F dX0_goLining_59 ?_
                refine z_iconst F 2 dX0_goLining_61 zv_i_2 ?_
                refine z_putI F (K_f hr (show c < 10 by omega) 4 (by decide)) fX0_59 rfl rfl dX0_goLining_62 ?_
                refine z_aload4 F dX0_goLining_65 ?_
                refine z_iload2 F dX0_goLining_67 ?_
                refine z_putI F (K_f hr (show c < 10 by omega) 7 (by decide)) fX0_85 rfl rfl dX0_goLining_68 ?_
                refine z_goto F 95 dX0_goLining_71 (by decide) ?_
                refine z_iinc3 F 1 dX0_goLining_95 rfl zv_i_1 ?_
                refine z_goto F 2 dX0_goLining_98 (by decide) ?_
                have h := ih (c + 1) (by omega)
                rw [show nI (c + 1) = nI c + 1 from nI_succ c, s_ln, if_pos (show s_has set c = true from decide_eq_true h16), s_inL, if_pos ⟨h36, Int32.not_lt.mp h48, h56⟩] at h
                simp only [z_row_up, z_rowr]
                exact h _
  have h := loop N 0 (by omega) none
  rw [s_ln, z_row_eq] at h
  exact h
