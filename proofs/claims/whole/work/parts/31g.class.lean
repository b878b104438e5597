set_option maxHeartbeats 1000000 in
set_option maxRecDepth 20000 in
theorem c4_paid (D : zD) (x : Int32) {N : Nat} (hN : D.1 1 4 = nI N) (h10 : N ≤ 10) : z_CI SX zT yX4_paid cX4_paid 3 .int 3 [.ref 0, .int x] D (z_eq (r_ans (o_paid (D.1 1) N x)) (r_X D (o_paid (D.1 1) N x))) := by
  refine z_startI SX_ok (by decide +kernel) (fun v hv => by simp at hv; rcases hv with rfl | rfl <;> rfl) (Nat.le_of_ble_eq_true rfl) (fun X F hR => ?_)
  show z_J X SX 0 [some (.ref 0), some (.int x), none] [] D
  refine z_aload0 F dX4_paid_0 ?_
  refine z_getR F PH_coat fX4_10 dX4_paid_1 ?_
  refine z_iload1 F dX4_paid_4 ?_
  refine z_callVI1 F (c0_isSet _ z_r1 hN h10 _) kX4_179 (by decide) (ocC z_r1) (Nat.le_of_ble_eq_true rfl) rfl dX4_paid_5 ?_
  refine z_ifb_ne F 17 dX4_paid_8 (by decide) (fun h8 => ?_) (fun h8 => ?_)
  · refine z_iload1 F dX4_paid_17 ?_
    refine z_aload0 F dX4_paid_18 ?_
    refine z_getR F PH_coat fX4_10 dX4_paid_19 ?_
    refine z_iconst F 0 dX4_paid_22 zv_i_0 ?_
    refine z_callVI1 F (c0_in _ z_r1 hN h10 _) kX4_108 (by decide) (ocC z_r1) (Nat.le_of_ble_eq_true rfl) rfl dX4_paid_23 ?_
    refine z_iconst F (-1) dX4_paid_26 zv_i_m1 ?_
    refine z_ixor F dX4_paid_27 ?_
    refine z_iand F dX4_paid_28 ?_
    refine z_if_eq F 38 dX4_paid_29 (by decide) (fun h29 => ?_) (fun h29 => ?_)
    · refine z_iconst F 0 dX4_paid_38 zv_i_0 ?_
      refine z_istore2 F dX4_paid_39 rfl ?_
      have loop : ∀ (n c : Nat), c + n = N → z_J X SX 40 [some (.ref 0), some (.int x), some (.int (nI c))] [] (z_row D 1 (s_paid (D.1 1) x c)) := by
        intro n
        induction n with
        | zero =>
          intro c hn 
          refine z_iload2 F dX4_paid_40 ?_
          refine z_aload0 F dX4_paid_41 ?_
          refine z_getR F PH_coat fX4_10 dX4_paid_42 ?_
          refine z_getI F (C_coins z_r1) fX4_59 dX4_paid_45 ?_
          refine z_ic_ge F 79 dX4_paid_48 (by decide) (fun h48 => ?_) (fun h48 => ?_)
          · refine z_aload0 F dX4_paid_79 ?_
            refine z_getR F PH_coat fX4_10 dX4_paid_80 ?_
            refine z_iload1 F dX4_paid_83 ?_
            refine z_callVI1 F (by have h := c0_penceOf (z_row D 1 (s_paid (D.1 1) x c)) z_r1 (N := N) (by rw [z_rowr, s_paid_lo _ _ (by decide)]; exact hN) h10 x; rw [z_rowr] at h; exact h) kX4_167 (by decide) (ocC z_r1) (Nat.le_of_ble_eq_true rfl) rfl dX4_paid_84 ?_
            refine hR _ _ _ _ dX4_paid_87 rfl ?_
            simp only [o_paid, h8, h29, Bool.false_eq_true, if_true, if_false, Bool.and_true, Bool.true_and, Bool.and_false, Bool.false_and, Bool.and_self, and_self]; rw [show c = N by omega]; exact ⟨rfl, rfl⟩
          · exact absurd (by rw [z_rowr, s_paid_lo _ _ (by decide), hN]; exact nI_le (by omega) (by omega)) h48
        | succ n ih =>
          intro c hn 
          refine z_iload2 F dX4_paid_40 ?_
          refine z_aload0 F dX4_paid_41 ?_
          refine z_getR F PH_coat fX4_10 dX4_paid_42 ?_
          refine z_getI F (C_coins z_r1) fX4_59 dX4_paid_45 ?_
          refine z_ic_ge F 79 dX4_paid_48 (by decide) (fun h48 => ?_) (fun h48 => ?_)
          · exact absurd h48 (by rw [z_rowr, s_paid_lo _ _ (by decide), hN]; exact nI_ge (by omega) (by omega))
          · refine z_iload1 F dX4_paid_51 ?_
            refine z_iload2 F dX4_paid_52 ?_
            refine z_ishr F dX4_paid_53 ?_
            refine z_iconst F 1 dX4_paid_54 zv_i_1 ?_
            refine z_iand F dX4_paid_55 ?_
            refine z_iconst F 1 dX4_paid_56 zv_i_1 ?_
            refine z_ic_ne F 73 dX4_paid_57 (by decide) (fun h57 => ?_) (fun h57 => ?_)
            · refine z_iinc2 F 1 dX4_paid_73 rfl zv_i_1 ?_
              refine z_goto F 40 dX4_paid_76 (by decide) ?_
              have h := ih (c + 1) (by omega)
              rw [show nI (c + 1) = nI c + 1 from nI_succ c, s_paid, if_neg (show ¬ s_has x c = true from fun e => h57 (of_decide_eq_true e))] at h
              exact h
            · refine z_aload0 F dX4_paid_60 ?_
              refine z_getR F PH_coat fX4_10 dX4_paid_61 ?_
              refine z_getR F (C_row z_r1) fX4_71 dX4_paid_64 ?_
              refine z_iload2 F dX4_paid_67 ?_
              refine z_aald F (aRow z_r1) (Or.inl rfl) (c) rfl (show c < 10 by omega) dX4_paid_68 ?_
              refine z_iconst F 4 dX4_paid_69 zv_i_4 ?_
              refine z_callVV1 F (by have h := c1_moveTo (z_row D 1 (s_paid (D.1 1) x c)) z_r1 c (by omega) 4; rw [z_rowr, z_row_row] at h; exact h) kX4_98 (by decide) (ocK z_r1 (show c < 10 by omega)) (Nat.le_of_ble_eq_true rfl) rfl dX4_paid_70 ?_
              refine z_iinc2 F 1 dX4_paid_73 rfl zv_i_1 ?_
              refine z_goto F 40 dX4_paid_76 (by decide) ?_
              have h := ih (c + 1) (by omega)
              rw [show nI (c + 1) = nI c + 1 from nI_succ c, s_paid, if_pos (show s_has x c = true from decide_eq_true h57)] at h
              exact h
      have h := loop N 0 (by omega)
      rw [s_paid, z_row_eq] at h
      exact h
    · refine z_aload0 F dX4_paid_32 ?_
      refine z_iconst F 4 dX4_paid_33 zv_i_4 ?_
      refine z_callVI1 F (c4_finding _ 4 (by decide)) kX4_55 (by decide) ocPH (Nat.le_of_ble_eq_true rfl) rfl dX4_paid_34 ?_
      refine hR _ _ _ _ dX4_paid_37 rfl ?_
      simp only [o_paid, h8, h29, Bool.false_eq_true, if_true, if_false, Bool.and_true, Bool.true_and, Bool.and_false, Bool.false_and, Bool.and_self, and_self]; first | exact ⟨rfl, rfl⟩ | exact ⟨by decide, rfl⟩ | exact ⟨by decide, z_sm_r _⟩ | exact ⟨rfl, z_sm_r _⟩
  · refine z_aload0 F dX4_paid_11 ?_
    refine z_iconst F 0 dX4_paid_12 zv_i_0 ?_
    refine z_callVI1 F (c4_finding _ 0 (by decide)) kX4_55 (by decide) ocPH (Nat.le_of_ble_eq_true rfl) rfl dX4_paid_13 ?_
    refine hR _ _ _ _ dX4_paid_16 rfl ?_
    simp only [o_paid, h8, Bool.false_eq_true, if_true, if_false, Bool.and_true, Bool.true_and, Bool.and_false, Bool.false_and, Bool.and_self, and_self]; first | exact ⟨rfl, rfl⟩ | exact ⟨by decide, rfl⟩ | exact ⟨by decide, z_sm_r _⟩ | exact ⟨rfl, z_sm_r _⟩
set_option maxHeartbeats 1000000 in
set_option maxRecDepth 20000 in
theorem c4_lining (D : zD) (x : Int32) {N : Nat} (hN : D.1 1 4 = nI N) (h10 : N ≤ 10) : z_CI SX zT yX4_lining cX4_lining 5 .int 3 [.ref 0, .int x] D (z_eq (q_ans (o_lining (D.1 1) N x)) (q_X D (o_lining (D.1 1) N x))) := by
  refine z_startI SX_ok (by decide +kernel) (fun v hv => by simp at hv; rcases hv with rfl | rfl <;> rfl) (Nat.le_of_ble_eq_true rfl) (fun X F hR => ?_)
  show z_J X SX 0 [some (.ref 0), some (.int x), none, none, none] [] D
  have hP := i_pow h10
  refine z_iload1 F dX4_lining_0 ?_
  refine z_iconst F 0 dX4_lining_1 zv_i_0 ?_
  refine z_sipush F 500 dX4_lining_2 zv_s_500 ?_
  refine z_callSI3 F (c4_isWithin _ _ _ _) kX4_51 (by decide) (Nat.le_of_ble_eq_true rfl) rfl dX4_lining_5 ?_
  refine z_ifb_ne F 17 dX4_lining_8 (by decide) (fun h8 => ?_) (fun h8 => ?_)
  · refine z_aload0 F dX4_lining_17 ?_
    refine z_getR F PH_coat fX4_10 dX4_lining_18 ?_
    refine z_iconst F 0 dX4_lining_21 zv_i_0 ?_
    refine z_callVI1 F (c0_in _ z_r1 hN h10 _) kX4_108 (by decide) (ocC z_r1) (Nat.le_of_ble_eq_true rfl) rfl dX4_lining_22 ?_
    refine z_aload0 F dX4_lining_25 ?_
    refine z_getR F PH_coat fX4_10 dX4_lining_26 ?_
    refine z_iconst F 1 dX4_lining_29 zv_i_1 ?_
    refine z_callVI1 F (c0_in _ z_r1 hN h10 _) kX4_108 (by decide) (ocC z_r1) (Nat.le_of_ble_eq_true rfl) rfl dX4_lining_30 ?_
    refine z_ior F dX4_lining_33 ?_
    refine z_aload0 F dX4_lining_34 ?_
    refine z_getR F PH_coat fX4_10 dX4_lining_35 ?_
    refine z_iconst F 3 dX4_lining_38 zv_i_3 ?_
    refine z_callVI1 F (c0_in _ z_r1 hN h10 _) kX4_108 (by decide) (ocC z_r1) (Nat.le_of_ble_eq_true rfl) rfl dX4_lining_39 ?_
    refine z_ior F dX4_lining_42 ?_
    refine z_istore2 F dX4_lining_43 rfl ?_
    refine z_iconst F 0 dX4_lining_44 zv_i_0 ?_
    refine z_istore3 F dX4_lining_45 rfl ?_
    refine z_iconst F 0 dX4_lining_46 zv_i_0 ?_
    refine z_istore4 F dX4_lining_47 rfl ?_
    have loop : ∀ (n k : Nat), k + n = 2 ^ N → z_J X SX 49 [some (.ref 0), some (.int x), some (.int (s_lie (D.1 1) 0 N ||| s_lie (D.1 1) 1 N ||| s_lie (D.1 1) 3 N)), some (.int (s_lining (D.1 1) N (s_lie (D.1 1) 0 N ||| s_lie (D.1 1) 1 N ||| s_lie (D.1 1) 3 N) x k)), some (.int (nI k))] [] D := by
      intro n
      induction n with
      | zero =>
        intro k hn 
        refine z_iload4 F dX4_lining_49 ?_
        refine z_aload0 F dX4_lining_51 ?_
        refine z_getR F PH_coat fX4_10 dX4_lining_52 ?_
        refine z_callVI0 F (c0_sets _ z_r1 hN h10) kX4_173 (by decide) (ocC z_r1) (Nat.le_of_ble_eq_true rfl) rfl dX4_lining_55 ?_
        refine z_ic_ge F 92 dX4_lining_58 (by decide) (fun h58 => ?_) (fun h58 => ?_)
        · refine z_iload3 F dX4_lining_92 ?_
          refine hR _ _ _ _ dX4_lining_93 rfl ?_
          simp only [o_lining, h8, Bool.false_eq_true, if_true, if_false, Bool.and_true, Bool.true_and, Bool.and_false, Bool.false_and, Bool.and_self, and_self]; rw [show k = 2 ^ N by omega]; exact ⟨rfl, rfl⟩
        · exact absurd (nI_le (by omega) (by omega)) h58
      | succ n ih =>
        intro k hn 
        refine z_iload4 F dX4_lining_49 ?_
        refine z_aload0 F dX4_lining_51 ?_
        refine z_getR F PH_coat fX4_10 dX4_lining_52 ?_
        refine z_callVI0 F (c0_sets _ z_r1 hN h10) kX4_173 (by decide) (ocC z_r1) (Nat.le_of_ble_eq_true rfl) rfl dX4_lining_55 ?_
        refine z_ic_ge F 92 dX4_lining_58 (by decide) (fun h58 => ?_) (fun h58 => ?_)
        · exact absurd h58 (nI_ge (by omega) (by omega))
        · refine z_iload4 F dX4_lining_61 ?_
          refine z_iload2 F dX4_lining_63 ?_
          refine z_iconst F (-1) dX4_lining_64 zv_i_m1 ?_
          refine z_ixor F dX4_lining_65 ?_
          refine z_iand F dX4_lining_66 ?_
          refine z_if_ne F 86 dX4_lining_67 (by decide) (fun h67 => ?_) (fun h67 => ?_)
          · refine z_iinc4 F 1 dX4_lining_86 rfl zv_i_1 ?_
            refine z_goto F 49 dX4_lining_89 (by decide) ?_
            have h := ih (k + 1) (by omega)
            rw [show nI (k + 1) = nI k + 1 from nI_succ k, s_lining, if_neg (fun z => h67 (of_decide_eq_true z.1)), i_add0] at h
            exact h
          · refine z_aload0 F dX4_lining_70 ?_
            refine z_getR F PH_coat fX4_10 dX4_lining_71 ?_
            refine z_iload4 F dX4_lining_74 ?_
            refine z_callVI1 F (c0_weightOf _ z_r1 hN h10 _) kX4_132 (by decide) (ocC z_r1) (Nat.le_of_ble_eq_true rfl) rfl dX4_lining_76 ?_
            refine z_iload1 F dX4_lining_79 ?_
            refine z_ic_ne F 86 dX4_lining_80 (by decide) (fun h80 => ?_) (fun h80 => ?_)
            · refine z_iinc4 F 1 dX4_lining_86 rfl zv_i_1 ?_
              refine z_goto F 49 dX4_lining_89 (by decide) ?_
              have h := ih (k + 1) (by omega)
              rw [show nI (k + 1) = nI k + 1 from nI_succ k, s_lining, if_neg (fun z => h80 z.2), i_add0] at h
              exact h
            · refine z_iinc3 F 1 dX4_lining_83 rfl zv_i_1 ?_
              refine z_iinc4 F 1 dX4_lining_86 rfl zv_i_1 ?_
              refine z_goto F 49 dX4_lining_89 (by decide) ?_
              have h := ih (k + 1) (by omega)
              rw [show nI (k + 1) = nI k + 1 from nI_succ k, s_lining, if_pos ⟨decide_eq_true h67, h80⟩] at h
              exact h
    exact loop (2 ^ N) 0 (by omega)
  · refine z_aload0 F dX4_lining_11 ?_
    refine z_iconst F 0 dX4_lining_12 zv_i_0 ?_
    refine z_callVI1 F (c4_finding _ 0 (by decide)) kX4_55 (by decide) ocPH (Nat.le_of_ble_eq_true rfl) rfl dX4_lining_13 ?_
    refine hR _ _ _ _ dX4_lining_16 rfl ?_
    simp only [o_lining, h8, Bool.false_eq_true, if_true, if_false, Bool.and_true, Bool.true_and, Bool.and_false, Bool.false_and, Bool.and_self, and_self]; first | exact ⟨rfl, rfl⟩ | exact ⟨by decide, rfl⟩ | exact ⟨by decide, z_sm_r _⟩ | exact ⟨rfl, z_sm_r _⟩
