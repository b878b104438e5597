set_option maxHeartbeats 1000000 in
set_option maxRecDepth 20000 in
theorem c4_rule (D : zD) (x y : Int32) : z_CI SX zT yX4_rule cX4_rule 4 .int 2 [.ref 0, .int x, .int y] D (z_eq (r_ans (o_rule (D.1 1) x y)) (r_X D (o_rule (D.1 1) x y))) := by
  refine z_startI SX_ok (by decide +kernel) (fun v hv => by simp at hv; rcases hv with rfl | rfl | rfl <;> rfl) (Nat.le_of_ble_eq_true rfl) (fun X F hR => ?_)
  show z_J X SX 0 [some (.ref 0), some (.int x), some (.int y), none] [] D
  refine z_iload1 F dX4_rule_0 ?_
  refine z_iconst F 0 dX4_rule_1 zv_i_0 ?_
  refine z_iconst F 2 dX4_rule_2 zv_i_2 ?_
  refine z_callSI3 F (c4_isWithin _ _ _ _) kX4_51 (by decide) (Nat.le_of_ble_eq_true rfl) rfl dX4_rule_3 ?_
  refine z_ifb_eq F 29 dX4_rule_6 (by decide) (fun h6 => ?_) (fun h6 => ?_)
  · refine z_aload0 F dX4_rule_29 ?_
    refine z_iconst F 0 dX4_rule_30 zv_i_0 ?_
    refine z_callVI1 F (c4_finding _ 0 (by decide)) kX4_55 (by decide) ocPH (Nat.le_of_ble_eq_true rfl) rfl dX4_rule_31 ?_
    refine hR _ _ _ _ dX4_rule_34 rfl ?_
    have hb : (b_in x 0 2 && b_in y 0 (if x = 2 then 7 else 99)) = false := by rw [h6]; rfl
    simp only [o_rule, hb, Bool.false_eq_true, if_true, if_false, Bool.and_true, Bool.true_and, Bool.and_false, Bool.false_and, Bool.and_self, and_self]; exact ⟨by decide, rfl⟩
  · refine z_iload2 F dX4_rule_9 ?_
    refine z_iconst F 0 dX4_rule_10 zv_i_0 ?_
    refine z_iload1 F dX4_rule_11 ?_
    refine z_iconst F 2 dX4_rule_12 zv_i_2 ?_
    refine z_ic_ne F 21 dX4_rule_13 (by decide) (fun h13 => ?_) (fun h13 => ?_)
    · refine z_bipush F 99 dX4_rule_21 zv_b_99 ?_
      refine z_callSI3 F (c4_isWithin _ _ _ _) kX4_51 (by decide) (Nat.le_of_ble_eq_true rfl) rfl dX4_rule_23 ?_
      refine z_ifb_ne F 35 dX4_rule_26 (by decide) (fun h26 => ?_) (fun h26 => ?_)
      · refine z_iload1 F dX4_rule_35 ?_
        refine z_if_ne F 58 dX4_rule_36 (by decide) (fun h36 => ?_) (fun h36 => ?_)
        · refine z_iload1 F dX4_rule_58 ?_
          refine z_iconst F 1 dX4_rule_59 zv_i_1 ?_
          refine z_ic_ne F 82 dX4_rule_60 (by decide) (fun h60 => ?_) (fun h60 => ?_)
          · refine z_aload0 F dX4_rule_82 ?_
            refine z_getR F PH_coat fX4_10 dX4_rule_83 ?_
            refine z_getI F (C_at z_r1) fX4_105 dX4_rule_86 ?_
            refine z_istore3 F dX4_rule_89 rfl ?_
            refine z_aload0 F dX4_rule_90 ?_
            refine z_getR F PH_coat fX4_10 dX4_rule_91 ?_
            refine z_iload2 F dX4_rule_94 ?_
            refine z_putI F (C_at z_r1) fX4_105 rfl rfl dX4_rule_95 ?_
            refine z_iload3 F dX4_rule_98 ?_
            refine hR _ _ _ _ dX4_rule_99 rfl ?_
            have hb : (b_in x 0 2 && b_in y 0 (if x = 2 then 7 else 99)) = true := by rw [h6, if_neg h13, h26]; rfl
            simp only [o_rule, hb, Bool.false_eq_true, if_true, if_false, Bool.and_true, Bool.true_and, Bool.and_false, Bool.false_and, Bool.and_self, and_self]
            have hx : x = 2 := by
              obtain ⟨a, ha, rfl⟩ := b_in0 2 (by decide) h6
              rcases (show a = 0 ∨ a = 1 ∨ a = 2 by omega) with rfl | rfl | rfl
              · exact absurd rfl h36
              · exact absurd rfl h60
              · rfl
            subst hx
            exact ⟨rfl, z_up_row _ _ _ _⟩
          · refine z_aload0 F dX4_rule_63 ?_
            refine z_getR F PH_coat fX4_10 dX4_rule_64 ?_
            refine z_getI F (C_gap z_r1) fX4_102 dX4_rule_67 ?_
            refine z_istore3 F dX4_rule_70 rfl ?_
            refine z_aload0 F dX4_rule_71 ?_
            refine z_getR F PH_coat fX4_10 dX4_rule_72 ?_
            refine z_iload2 F dX4_rule_75 ?_
            refine z_putI F (C_gap z_r1) fX4_102 rfl rfl dX4_rule_76 ?_
            refine z_goto F 98 dX4_rule_79 (by decide) ?_
            refine z_iload3 F dX4_rule_98 ?_
            refine hR _ _ _ _ dX4_rule_99 rfl ?_
            have hb : (b_in x 0 2 && b_in y 0 (if x = 2 then 7 else 99)) = true := by rw [h6, if_neg h13, h26]; rfl
            simp only [o_rule, hb, Bool.false_eq_true, if_true, if_false, Bool.and_true, Bool.true_and, Bool.and_false, Bool.false_and, Bool.and_self, and_self]
            have hx : x = 1 := h60
            subst hx
            exact ⟨rfl, z_up_row _ _ _ _⟩
        · refine z_aload0 F dX4_rule_39 ?_
          refine z_getR F PH_coat fX4_10 dX4_rule_40 ?_
          refine z_getI F (C_hole z_r1) fX4_75 dX4_rule_43 ?_
          refine z_istore3 F dX4_rule_46 rfl ?_
          refine z_aload0 F dX4_rule_47 ?_
          refine z_getR F PH_coat fX4_10 dX4_rule_48 ?_
          refine z_iload2 F dX4_rule_51 ?_
          refine z_putI F (C_hole z_r1) fX4_75 rfl rfl dX4_rule_52 ?_
          refine z_goto F 98 dX4_rule_55 (by decide) ?_
          refine z_iload3 F dX4_rule_98 ?_
          refine hR _ _ _ _ dX4_rule_99 rfl ?_
          have hb : (b_in x 0 2 && b_in y 0 (if x = 2 then 7 else 99)) = true := by rw [h6, if_neg h13, h26]; rfl
          simp only [o_rule, hb, Bool.false_eq_true, if_true, if_false, Bool.and_true, Bool.true_and, Bool.and_false, Bool.false_and, Bool.and_self, and_self]
          have hx : x = 0 := h36
          subst hx
          exact ⟨rfl, z_up_row _ _ _ _⟩
      · refine z_aload0 F dX4_rule_29 ?_
        refine z_iconst F 0 dX4_rule_30 zv_i_0 ?_
        refine z_callVI1 F (c4_finding _ 0 (by decide)) kX4_55 (by decide) ocPH (Nat.le_of_ble_eq_true rfl) rfl dX4_rule_31 ?_
        refine hR _ _ _ _ dX4_rule_34 rfl ?_
        have hb : (b_in x 0 2 && b_in y 0 (if x = 2 then 7 else 99)) = false := by rw [if_neg h13, h26, Bool.and_false]
        simp only [o_rule, hb, Bool.false_eq_true, if_true, if_false, Bool.and_true, Bool.true_and, Bool.and_false, Bool.false_and, Bool.and_self, and_self]; exact ⟨by decide, rfl⟩
    · refine z_bipush F 7 dX4_rule_16 zv_b_7 ?_
      refine z_goto F 23 dX4_rule_18 (by decide) ?_
      refine z_callSI3 F (c4_isWithin _ _ _ _) kX4_51 (by decide) (Nat.le_of_ble_eq_true rfl) rfl dX4_rule_23 ?_
      refine z_ifb_ne F 35 dX4_rule_26 (by decide) (fun h26 => ?_) (fun h26 => ?_)
      · refine z_iload1 F dX4_rule_35 ?_
        refine z_if_ne F 58 dX4_rule_36 (by decide) (fun h36 => ?_) (fun h36 => ?_)
        · refine z_iload1 F dX4_rule_58 ?_
          refine z_iconst F 1 dX4_rule_59 zv_i_1 ?_
          refine z_ic_ne F 82 dX4_rule_60 (by decide) (fun h60 => ?_) (fun h60 => ?_)
          · refine z_aload0 F dX4_rule_82 ?_
            refine z_getR F PH_coat fX4_10 dX4_rule_83 ?_
            refine z_getI F (C_at z_r1) fX4_105 dX4_rule_86 ?_
            refine z_istore3 F dX4_rule_89 rfl ?_
            refine z_aload0 F dX4_rule_90 ?_
            refine z_getR F PH_coat fX4_10 dX4_rule_91 ?_
            refine z_iload2 F dX4_rule_94 ?_
            refine z_putI F (C_at z_r1) fX4_105 rfl rfl dX4_rule_95 ?_
            refine z_iload3 F dX4_rule_98 ?_
            refine hR _ _ _ _ dX4_rule_99 rfl ?_
            have hb : (b_in x 0 2 && b_in y 0 (if x = 2 then 7 else 99)) = true := by rw [h6, if_pos h13, h26]; rfl
            simp only [o_rule, hb, Bool.false_eq_true, if_true, if_false, Bool.and_true, Bool.true_and, Bool.and_false, Bool.false_and, Bool.and_self, and_self]
            have hx : x = 2 := by
              obtain ⟨a, ha, rfl⟩ := b_in0 2 (by decide) h6
              rcases (show a = 0 ∨ a = 1 ∨ a = 2 by omega) with rfl | rfl | rfl
              · exact absurd rfl h36
              · exact absurd rfl h60
              · rfl
            subst hx
            exact ⟨rfl, z_up_row _ _ _ _⟩
          · refine z_aload0 F dX4_rule_63 ?_
            refine z_getR F PH_coat fX4_10 dX4_rule_64 ?_
            refine z_getI F (C_gap z_r1) fX4_102 dX4_rule_67 ?_
            refine z_istore3 F dX4_rule_70 rfl ?_
            refine z_aload0 F dX4_rule_71 ?_
            refine z_getR F PH_coat fX4_10 dX4_rule_72 ?_
            refine z_iload2 F dX4_rule_75 ?_
            refine z_putI F (C_gap z_r1) fX4_102 rfl rfl dX4_rule_76 ?_
            refine z_goto F 98 dX4_rule_79 (by decide) ?_
            refine z_iload3 F dX4_rule_98 ?_
            refine hR _ _ _ _ dX4_rule_99 rfl ?_
            have hb : (b_in x 0 2 && b_in y 0 (if x = 2 then 7 else 99)) = true := by rw [h6, if_pos h13, h26]; rfl
            simp only [o_rule, hb, Bool.false_eq_true, if_true, if_false, Bool.and_true, Bool.true_and, Bool.and_false, Bool.false_and, Bool.and_self, and_self]
            have hx : x = 1 := h60
            subst hx
            exact ⟨rfl, z_up_row _ _ _ _⟩
        · refine z_aload0 F dX4_rule_39 ?_
          refine z_getR F PH_coat fX4_10 dX4_rule_40 ?_
          refine z_getI F (C_hole z_r1) fX4_75 dX4_rule_43 ?_
          refine z_istore3 F dX4_rule_46 rfl ?_
          refine z_aload0 F dX4_rule_47 ?_
          refine z_getR F PH_coat fX4_10 dX4_rule_48 ?_
          refine z_iload2 F dX4_rule_51 ?_
          refine z_putI F (C_hole z_r1) fX4_75 rfl rfl dX4_rule_52 ?_
          refine z_goto F 98 dX4_rule_55 (by decide) ?_
          refine z_iload3 F dX4_rule_98 ?_
          refine hR _ _ _ _ dX4_rule_99 rfl ?_
          have hb : (b_in x 0 2 && b_in y 0 (if x = 2 then 7 else 99)) = true := by rw [h6, if_pos h13, h26]; rfl
          simp only [o_rule, hb, Bool.false_eq_true, if_true, if_false, Bool.and_true, Bool.true_and, Bool.and_false, Bool.false_and, Bool.and_self, and_self]
          have hx : x = 0 := h36
          subst hx
          exact ⟨rfl, z_up_row _ _ _ _⟩
      · refine z_aload0 F dX4_rule_29 ?_
        refine z_iconst F 0 dX4_rule_30 zv_i_0 ?_
        refine z_callVI1 F (c4_finding _ 0 (by decide)) kX4_55 (by decide) ocPH (Nat.le_of_ble_eq_true rfl) rfl dX4_rule_31 ?_
        refine hR _ _ _ _ dX4_rule_34 rfl ?_
        have hb : (b_in x 0 2 && b_in y 0 (if x = 2 then 7 else 99)) = false := by rw [if_pos h13, h26, Bool.and_false]
        simp only [o_rule, hb, Bool.false_eq_true, if_true, if_false, Bool.and_true, Bool.true_and, Bool.and_false, Bool.false_and, Bool.and_self, and_self]; exact ⟨by decide, rfl⟩
