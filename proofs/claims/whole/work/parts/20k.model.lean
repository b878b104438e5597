set_option maxHeartbeats 1000000 in
set_option maxRecDepth 20000 in
theorem c5_payWith (D : zD) (p y : Int32) (fa : Bool) {N : Nat} (hN : D.1 1 4 = nI N) (h10 : N ≤ 10) : z_CI SM zT yX5_payWith cX5_payWith 9 .int 4 [.ref 0, .int p, .int y, .int (z_b fa)] D (z_eq (s_payw (D.1 1) N p y fa (2 ^ N)).1 D) := by
  refine z_startI SM_ok (by decide +kernel) (fun v hv => by simp at hv; rcases hv with rfl | rfl | rfl | rfl <;> rfl) (Nat.le_of_ble_eq_true rfl) (fun X F hR => ?_)
  show z_J X SM 0 [some (.ref 0), some (.int p), some (.int y), some (.int (z_b fa)), none, none, none, none, none] [] D
  have hP := i_pow h10
  refine z_aload0 F dX5_payWith_0 ?_
  refine z_iconst F 0 dX5_payWith_1 zv_i_0 ?_
  refine z_callVI1 F (c5_lieIn _ _ hN h10) kX5_141 (by decide) ocM (Nat.le_of_ble_eq_true rfl) rfl dX5_payWith_2 ?_
  refine z_istore4 F dX5_payWith_5 rfl ?_
  refine z_iconst F (-1) dX5_payWith_7 zv_i_m1 ?_
  refine z_istore5 F dX5_payWith_8 rfl ?_
  refine z_iconst F 0 dX5_payWith_10 zv_i_0 ?_
  refine z_istore6 F dX5_payWith_11 rfl ?_
  refine z_iconst F 0 dX5_payWith_13 zv_i_0 ?_
  refine z_istore7 F dX5_payWith_14 rfl ?_
  have loop : ∀ (n k : Nat), k + n = 2 ^ N → ∀ (a8 : Option Value), z_J X SM 16 [some (.ref 0), some (.int p), some (.int y), some (.int (z_b fa)), some (.int (s_lie (D.1 1) 0 N)), some (.int (s_payw (D.1 1) N p y fa k).1), some (.int (s_payw (D.1 1) N p y fa k).2), some (.int (nI k)), a8] [] D := by
    intro n
    induction n with
    | zero =>
      intro k hn a8
      refine z_iload7 F dX5_payWith_16 ?_
      refine z_iconst F 1 dX5_payWith_18 zv_i_1 ?_
      refine z_aload0 F dX5_payWith_19 ?_
      refine z_getR F M_now fX5_9 dX5_payWith_20 ?_
      refine z_iconst F 4 dX5_payWith_23 zv_i_4 ?_
      refine z_iald F aM_now (4) rfl (by omega) dX5_payWith_24 ?_
      refine z_ishl F dX5_payWith_25 ?_
      refine z_ic_ge F 99 dX5_payWith_26 (by decide) (fun h26 => ?_) (fun h26 => ?_)
      · refine z_iload5 F dX5_payWith_99 ?_
        refine hR _ _ _ _ dX5_payWith_101 rfl ?_
        exact ⟨by rw [show k = 2 ^ N by omega], rfl⟩
      · exact absurd (by rw [hN, i_p2 h10]; exact nI_le (by omega) (by omega)) h26
    | succ n ih =>
      intro k hn a8
      refine z_iload7 F dX5_payWith_16 ?_
      refine z_iconst F 1 dX5_payWith_18 zv_i_1 ?_
      refine z_aload0 F dX5_payWith_19 ?_
      refine z_getR F M_now fX5_9 dX5_payWith_20 ?_
      refine z_iconst F 4 dX5_payWith_23 zv_i_4 ?_
      refine z_iald F aM_now (4) rfl (by omega) dX5_payWith_24 ?_
      refine z_ishl F dX5_payWith_25 ?_
      refine z_ic_ge F 99 dX5_payWith_26 (by decide) (fun h26 => ?_) (fun h26 => ?_)
      · exact absurd h26 (by rw [hN, i_p2 h10]; exact nI_ge (by omega) (by omega))
      · refine z_iload7 F dX5_payWith_29 ?_
        refine z_iload4 F dX5_payWith_31 ?_
        refine z_iconst F (-1) dX5_payWith_33 zv_i_m1 ?_
        refine z_ixor F dX5_payWith_34 ?_
        refine z_iand F dX5_payWith_35 ?_
        refine z_if_ne F 93 dX5_payWith_36 (by decide) (fun h36 => ?_) (fun h36 => ?_)
        · have hal : s_inAll (nI k) (s_lie (D.1 1) 0 N) = false := by
            simp only [s_inAll, decide_eq_true_eq, decide_eq_false_iff_not]
            exact h36
          refine z_iinc7 F 1 dX5_payWith_93 rfl zv_i_1 ?_
          refine z_goto F 16 dX5_payWith_96 (by decide) ?_
          have h := ih (k + 1) (by omega)
          rw [show nI (k + 1) = nI k + 1 from nI_succ k, s_payw, if_neg (fun z => absurd z.1 (by rw [hal]; decide))] at h
          exact h _
        · have hal : s_inAll (nI k) (s_lie (D.1 1) 0 N) = true := by
            simp only [s_inAll, decide_eq_true_eq, decide_eq_false_iff_not]
            exact h36
          refine z_aload0 F dX5_payWith_39 ?_
          refine z_iload7 F dX5_payWith_40 ?_
          refine z_iconst F 3 dX5_payWith_42 zv_i_3 ?_
          refine z_callVI2 F (c5_sumOf _ 3 _ hN h10 (by decide)) kX5_144 (by decide) ocM (Nat.le_of_ble_eq_true rfl) rfl dX5_payWith_43 ?_
          refine z_iload1 F dX5_payWith_46 ?_
          refine z_ic_ne F 93 dX5_payWith_47 (by decide) (fun h47 => ?_) (fun h47 => ?_)
          · refine z_iinc7 F 1 dX5_payWith_93 rfl zv_i_1 ?_
            refine z_goto F 16 dX5_payWith_96 (by decide) ?_
            have h := ih (k + 1) (by omega)
            rw [show nI (k + 1) = nI k + 1 from nI_succ k, s_payw, if_neg (fun z => h47 z.2.1)] at h
            exact h _
          · refine z_iload7 F dX5_payWith_50 ?_
            refine z_iload2 F dX5_payWith_52 ?_
            refine z_iand F dX5_payWith_53 ?_
            refine z_callSI1 F (c5_bits _ _ (k &&& i_u y) (i_and_u k y) (by have := Nat.and_le_left (n := k) (m := i_u y); omega)) kX5_157 (by decide) (Nat.le_of_ble_eq_true rfl) rfl dX5_payWith_54 ?_
            refine z_istore8 F dX5_payWith_57 rfl ?_
            refine z_iload5 F dX5_payWith_59 ?_
            refine z_if_lt F 85 dX5_payWith_61 (by decide) (fun h61 => ?_) (fun h61 => ?_)
            · refine z_iload7 F dX5_payWith_85 ?_
              refine z_istore5 F dX5_payWith_87 rfl ?_
              refine z_iload8 F dX5_payWith_89 ?_
              refine z_istore6 F dX5_payWith_91 rfl ?_
              refine z_iinc7 F 1 dX5_payWith_93 rfl zv_i_1 ?_
              refine z_goto F 16 dX5_payWith_96 (by decide) ?_
              have h := ih (k + 1) (by omega)
              rw [show nI (k + 1) = nI k + 1 from nI_succ k, s_payw, if_pos ⟨hal, h47, Or.inl h61⟩] at h
              exact h _
            · refine z_iload3 F dX5_payWith_64 ?_
              refine z_ifb_eq F 78 dX5_payWith_65 (by decide) (fun h65 => ?_) (fun h65 => ?_)
              · refine z_iload8 F dX5_payWith_78 ?_
                refine z_iload6 F dX5_payWith_80 ?_
                refine z_ic_le F 93 dX5_payWith_82 (by decide) (fun h82 => ?_) (fun h82 => ?_)
                · refine z_iinc7 F 1 dX5_payWith_93 rfl zv_i_1 ?_
                  refine z_goto F 16 dX5_payWith_96 (by decide) ?_
                  have h := ih (k + 1) (by omega)
                  rw [show nI (k + 1) = nI k + 1 from nI_succ k, s_payw, if_neg (fun z => z.2.2.elim (fun e => h61 e) (fun e => by rw [if_neg (show ¬ fa = true by rw [h65]; decide)] at e; exact Int32.not_lt.mpr h82 e))] at h
                  exact h _
                · refine z_iload7 F dX5_payWith_85 ?_
                  refine z_istore5 F dX5_payWith_87 rfl ?_
                  refine z_iload8 F dX5_payWith_89 ?_
                  refine z_istore6 F dX5_payWith_91 rfl ?_
                  refine z_iinc7 F 1 dX5_payWith_93 rfl zv_i_1 ?_
                  refine z_goto F 16 dX5_payWith_96 (by decide) ?_
                  have h := ih (k + 1) (by omega)
                  rw [show nI (k + 1) = nI k + 1 from nI_succ k, s_payw, if_pos ⟨hal, h47, Or.inr (show (if fa = true then v_cnt k y < (s_payw (D.1 1) N p y fa k).2 else (s_payw (D.1 1) N p y fa k).2 < v_cnt k y) by rw [if_neg (show ¬ fa = true by rw [h65]; decide)]; exact Int32.not_le.mp h82)⟩] at h
                  exact h _
              · refine z_iload8 F dX5_payWith_68 ?_
                refine z_iload6 F dX5_payWith_70 ?_
                refine z_ic_ge F 93 dX5_payWith_72 (by decide) (fun h72 => ?_) (fun h72 => ?_)
                · refine z_iinc7 F 1 dX5_payWith_93 rfl zv_i_1 ?_
                  refine z_goto F 16 dX5_payWith_96 (by decide) ?_
                  have h := ih (k + 1) (by omega)
                  rw [show nI (k + 1) = nI k + 1 from nI_succ k, s_payw, if_neg (fun z => z.2.2.elim (fun e => h61 e) (fun e => by rw [if_pos h65] at e; exact Int32.not_lt.mpr h72 e))] at h
                  exact h _
                · refine z_goto F 85 dX5_payWith_75 (by decide) ?_
                  refine z_iload7 F dX5_payWith_85 ?_
                  refine z_istore5 F dX5_payWith_87 rfl ?_
                  refine z_iload8 F dX5_payWith_89 ?_
                  refine z_istore6 F dX5_payWith_91 rfl ?_
                  refine z_iinc7 F 1 dX5_payWith_93 rfl zv_i_1 ?_
                  refine z_goto F 16 dX5_payWith_96 (by decide) ?_
                  have h := ih (k + 1) (by omega)
                  rw [show nI (k + 1) = nI k + 1 from nI_succ k, s_payw, if_pos ⟨hal, h47, Or.inr (show (if fa = true then v_cnt k y < (s_payw (D.1 1) N p y fa k).2 else (s_payw (D.1 1) N p y fa k).2 < v_cnt k y) by rw [if_pos h65]; exact Int32.not_le.mp h72)⟩] at h
                  exact h _
  exact loop (2 ^ N) 0 (by omega) none
set_option maxHeartbeats 1000000 in
set_option maxRecDepth 20000 in
theorem c5_pay (D : zD) (p : Int32) {N : Nat} (hN : D.1 1 4 = nI N) (h10 : N ≤ 10) : z_CI SM zT yX5_pay cX5_pay 3 .int 6 [.ref 0, .int p] D (z_qM D (o_payw (D.1 1) N p (-1) true) ) := by
  refine z_startI SM_ok (by decide +kernel) (fun v hv => by simp at hv; rcases hv with rfl | rfl <;> rfl) (Nat.le_of_ble_eq_true rfl) (fun X F hR => ?_)
  show z_J X SM 0 [some (.ref 0), some (.int p), none] [] D
  refine z_iload1 F dX5_pay_0 ?_
  refine z_iconst F 0 dX5_pay_1 zv_i_0 ?_
  refine z_sipush F 9999 dX5_pay_2 zv_s_9999 ?_
  refine z_callSI3 F (c5_within _ _ _ _) kX5_78 (by decide) (Nat.le_of_ble_eq_true rfl) rfl dX5_pay_5 ?_
  refine z_ifb_ne F 18 dX5_pay_8 (by decide) (fun h8 => ?_) (fun h8 => ?_)
  · refine z_aload0 F dX5_pay_18 ?_
    refine z_iload1 F dX5_pay_19 ?_
    refine z_iconst F (-1) dX5_pay_20 zv_i_m1 ?_
    refine z_iconst F 1 dX5_pay_21 zv_i_1 ?_
    refine z_callVI3 F (c5_payWith D p (-1) true hN h10) kX5_209 (by decide) ocM (Nat.le_of_ble_eq_true rfl) rfl dX5_pay_22 ?_
    refine z_istore2 F dX5_pay_25 rfl ?_
    refine z_iload2 F dX5_pay_26 ?_
    refine z_if_ge F 39 dX5_pay_27 (by decide) (fun h27 => ?_) (fun h27 => ?_)
    · have h27 := Int32.not_lt.mpr h27
      refine z_iload2 F dX5_pay_39 ?_
      refine hR _ _ _ _ dX5_pay_40 rfl ?_
      simp only [o_payw, h8, Bool.false_eq_true, if_true, if_false, Bool.and_true, Bool.true_and, Bool.and_false, Bool.false_and, Bool.and_self, and_self, h27]; exact ⟨rfl, z_sm_r _⟩
    · have h27 := Int32.not_le.mp h27
      refine z_aload0 F dX5_pay_30 ?_
      refine z_ldc F (-1000004) dX5_pay_31 zw_860 ?_
      refine z_callVI1 F (c5_finding _ _ 3 (by decide) (by decide)) kX5_93 (by decide) ocM (Nat.le_of_ble_eq_true rfl) rfl dX5_pay_33 ?_
      refine z_goto F 40 dX5_pay_36 (by decide) ?_
      refine hR _ _ _ _ dX5_pay_40 rfl ?_
      simp only [o_payw, h8, Bool.false_eq_true, if_true, if_false, Bool.and_true, Bool.true_and, Bool.and_false, Bool.false_and, Bool.and_self, and_self, h27]; exact ⟨nF_3.symm, z_sm_r _⟩
  · refine z_aload0 F dX5_pay_11 ?_
    refine z_ldc F (-1000001) dX5_pay_12 zw_721 ?_
    refine z_callVI1 F (c5_finding _ _ 0 (by decide) (by decide)) kX5_93 (by decide) ocM (Nat.le_of_ble_eq_true rfl) rfl dX5_pay_14 ?_
    refine hR _ _ _ _ dX5_pay_17 rfl ?_
    simp only [o_payw, h8, Bool.false_eq_true, if_true, if_false, Bool.and_true, Bool.true_and, Bool.and_false, Bool.false_and, Bool.and_self, and_self]; first | exact ⟨rfl, rfl⟩ | exact ⟨by decide, rfl⟩ | exact ⟨by decide, z_sm_r _⟩ | exact ⟨rfl, z_sm_r _⟩ | exact ⟨rfl, z_sm_as _⟩ | exact ⟨by decide, z_sm_fM _ (z_sm_as _)⟩
set_option maxHeartbeats 1000000 in
set_option maxRecDepth 20000 in
theorem c5_small (D : zD) (p : Int32) {N : Nat} (hN : D.1 1 4 = nI N) (h10 : N ≤ 10) : z_CI SM zT yX5_small cX5_small 3 .int 6 [.ref 0, .int p] D (z_qM D (o_payw (D.1 1) N p (s_thin (D.1 1) N) false) ) := by
  refine z_startI SM_ok (by decide +kernel) (fun v hv => by simp at hv; rcases hv with rfl | rfl <;> rfl) (Nat.le_of_ble_eq_true rfl) (fun X F hR => ?_)
  show z_J X SM 0 [some (.ref 0), some (.int p), none] [] D
  refine z_iload1 F dX5_small_0 ?_
  refine z_iconst F 0 dX5_small_1 zv_i_0 ?_
  refine z_sipush F 9999 dX5_small_2 zv_s_9999 ?_
  refine z_callSI3 F (c5_within _ _ _ _) kX5_78 (by decide) (Nat.le_of_ble_eq_true rfl) rfl dX5_small_5 ?_
  refine z_ifb_ne F 18 dX5_small_8 (by decide) (fun h8 => ?_) (fun h8 => ?_)
  · refine z_aload0 F dX5_small_18 ?_
    refine z_iload1 F dX5_small_19 ?_
    refine z_aload0 F dX5_small_20 ?_
    refine z_callVI0 F (c5_thin _ hN h10) kX5_213 (by decide) ocM (Nat.le_of_ble_eq_true rfl) rfl dX5_small_21 ?_
    refine z_iconst F 0 dX5_small_24 zv_i_0 ?_
    refine z_callVI3 F (c5_payWith D p _ false hN h10) kX5_209 (by decide) ocM (Nat.le_of_ble_eq_true rfl) rfl dX5_small_25 ?_
    refine z_istore2 F dX5_small_28 rfl ?_
    refine z_iload2 F dX5_small_29 ?_
    refine z_if_ge F 42 dX5_small_30 (by decide) (fun h30 => ?_) (fun h30 => ?_)
    · have h30 := Int32.not_lt.mpr h30
      refine z_iload2 F dX5_small_42 ?_
      refine hR _ _ _ _ dX5_small_43 rfl ?_
      simp only [o_payw, h8, Bool.false_eq_true, if_true, if_false, Bool.and_true, Bool.true_and, Bool.and_false, Bool.false_and, Bool.and_self, and_self, h30]; exact ⟨rfl, z_sm_r _⟩
    · have h30 := Int32.not_le.mp h30
      refine z_aload0 F dX5_small_33 ?_
      refine z_ldc F (-1000004) dX5_small_34 zw_860 ?_
      refine z_callVI1 F (c5_finding _ _ 3 (by decide) (by decide)) kX5_93 (by decide) ocM (Nat.le_of_ble_eq_true rfl) rfl dX5_small_36 ?_
      refine z_goto F 43 dX5_small_39 (by decide) ?_
      refine hR _ _ _ _ dX5_small_43 rfl ?_
      simp only [o_payw, h8, Bool.false_eq_true, if_true, if_false, Bool.and_true, Bool.true_and, Bool.and_false, Bool.false_and, Bool.and_self, and_self, h30]; exact ⟨nF_3.symm, z_sm_r _⟩
  · refine z_aload0 F dX5_small_11 ?_
    refine z_ldc F (-1000001) dX5_small_12 zw_721 ?_
    refine z_callVI1 F (c5_finding _ _ 0 (by decide) (by decide)) kX5_93 (by decide) ocM (Nat.le_of_ble_eq_true rfl) rfl dX5_small_14 ?_
    refine hR _ _ _ _ dX5_small_17 rfl ?_
    simp only [o_payw, h8, Bool.false_eq_true, if_true, if_false, Bool.and_true, Bool.true_and, Bool.and_false, Bool.false_and, Bool.and_self, and_self]; first | exact ⟨rfl, rfl⟩ | exact ⟨by decide, rfl⟩ | exact ⟨by decide, z_sm_r _⟩ | exact ⟨rfl, z_sm_r _⟩ | exact ⟨rfl, z_sm_as _⟩ | exact ⟨by decide, z_sm_fM _ (z_sm_as _)⟩
set_option maxHeartbeats 1000000 in
set_option maxRecDepth 20000 in
theorem c5_isSet (D : zD) (x : Int32) {N : Nat} (hN : D.1 1 4 = nI N) (h10 : N ≤ 10) : z_CI SM zT yX5_isSet cX5_isSet 2 .boolean 1 [.ref 0, .int x] D (z_eq (z_b (b_set x N)) D) := by
  refine z_startI SM_ok (by decide +kernel) (fun v hv => by simp at hv; rcases hv with rfl | rfl <;> rfl) (Nat.le_of_ble_eq_true rfl) (fun X F hR => ?_)
  show z_J X SM 0 [some (.ref 0), some (.int x)] [] D
  refine z_iload1 F dX5_isSet_0 ?_
  refine z_iconst F 0 dX5_isSet_1 zv_i_0 ?_
  refine z_iconst F 1 dX5_isSet_2 zv_i_1 ?_
  refine z_aload0 F dX5_isSet_3 ?_
  refine z_getR F M_now fX5_9 dX5_isSet_4 ?_
  refine z_iconst F 4 dX5_isSet_7 zv_i_4 ?_
  refine z_iald F aM_now (4) rfl (by omega) dX5_isSet_8 ?_
  refine z_ishl F dX5_isSet_9 ?_
  refine z_iconst F 1 dX5_isSet_10 zv_i_1 ?_
  refine z_isub F dX5_isSet_11 ?_
  refine z_callSI3 F (c5_within _ _ _ _) kX5_78 (by decide) (Nat.le_of_ble_eq_true rfl) rfl dX5_isSet_12 ?_
  refine hR _ _ _ _ dX5_isSet_15 (z_narB _) ?_
  exact ⟨by rw [hN, i_p2 h10]; rfl, rfl⟩
set_option maxHeartbeats 1000000 in
set_option maxRecDepth 20000 in
theorem c5_paid (D : zD) (x : Int32) {N : Nat} (hN : D.1 1 4 = nI N) (h10 : N ≤ 10) : z_CI SM zT yX5_paid cX5_paid 4 .int 4 [.ref 0, .int x] D (z_eq (r_ans (o_paid (D.1 1) N x)) (r_M D (o_paid (D.1 1) N x))) := by
  refine z_startI SM_ok (by decide +kernel) (fun v hv => by simp at hv; rcases hv with rfl | rfl <;> rfl) (Nat.le_of_ble_eq_true rfl) (fun X F hR => ?_)
  show z_J X SM 0 [some (.ref 0), some (.int x), none, none] [] D
  refine z_aload0 F dX5_paid_0 ?_
  refine z_iload1 F dX5_paid_1 ?_
  refine z_callVI1 F (c5_isSet _ _ hN h10) kX5_216 (by decide) ocM (Nat.le_of_ble_eq_true rfl) rfl dX5_paid_2 ?_
  refine z_ifb_ne F 15 dX5_paid_5 (by decide) (fun h5 => ?_) (fun h5 => ?_)
  · refine z_iload1 F dX5_paid_15 ?_
    refine z_aload0 F dX5_paid_16 ?_
    refine z_iconst F 0 dX5_paid_17 zv_i_0 ?_
    refine z_callVI1 F (c5_lieIn _ _ hN h10) kX5_141 (by decide) ocM (Nat.le_of_ble_eq_true rfl) rfl dX5_paid_18 ?_
    refine z_iconst F (-1) dX5_paid_21 zv_i_m1 ?_
    refine z_ixor F dX5_paid_22 ?_
    refine z_iand F dX5_paid_23 ?_
    refine z_if_eq F 34 dX5_paid_24 (by decide) (fun h24 => ?_) (fun h24 => ?_)
    · refine z_iconst F 0 dX5_paid_34 zv_i_0 ?_
      refine z_istore2 F dX5_paid_35 rfl ?_
      have loop : ∀ (n c : Nat), c + n = N → ∀ (a3 : Option Value), z_J X SM 36 [some (.ref 0), some (.int x), some (.int (nI c)), a3] [] (z_row D 1 (s_paid (D.1 1) x c)) := by
        intro n
        induction n with
        | zero =>
          intro c hn a3
          refine z_iload2 F dX5_paid_36 ?_
          refine z_aload0 F dX5_paid_37 ?_
          refine z_getR F M_now fX5_9 dX5_paid_38 ?_
          refine z_iconst F 4 dX5_paid_41 zv_i_4 ?_
          refine z_iald F aM_now (4) rfl (by omega) dX5_paid_42 ?_
          refine z_ic_ge F 67 dX5_paid_43 (by decide) (fun h43 => ?_) (fun h43 => ?_)
          · refine z_aload0 F dX5_paid_67 ?_
            refine z_iload1 F dX5_paid_68 ?_
            refine z_iconst F 3 dX5_paid_69 zv_i_3 ?_
            refine z_callVI2 F (c5_sumA D _ 3 x (by rw [s_paid_lo _ _ (by decide)]; exact hN) h10 (by decide)) kX5_144 (by decide) ocM (Nat.le_of_ble_eq_true rfl) rfl dX5_paid_70 ?_
            refine hR _ _ _ _ dX5_paid_73 rfl ?_
            simp only [o_paid, h5, h24, Bool.false_eq_true, if_true, if_false, Bool.and_true, Bool.true_and, Bool.and_false, Bool.false_and, Bool.and_self, and_self]
            rw [show c = N by omega]
            exact ⟨rfl, rfl⟩
          · exact absurd (by rw [z_rowr, s_paid_lo _ _ (by decide), hN]; exact nI_le (by omega) (by omega)) h43
        | succ n ih =>
          intro c hn a3
          refine z_iload2 F dX5_paid_36 ?_
          refine z_aload0 F dX5_paid_37 ?_
          refine z_getR F M_now fX5_9 dX5_paid_38 ?_
          refine z_iconst F 4 dX5_paid_41 zv_i_4 ?_
          refine z_iald F aM_now (4) rfl (by omega) dX5_paid_42 ?_
          refine z_ic_ge F 67 dX5_paid_43 (by decide) (fun h43 => ?_) (fun h43 => ?_)
          · exact absurd h43 (by rw [z_rowr, s_paid_lo _ _ (by decide), hN]; exact nI_ge (by omega) (by omega))
          · refine z_iload1 F dX5_paid_46 ?_
            refine z_iload2 F dX5_paid_47 ?_
            refine z_callSI2 F (c5_has _ x c) kX5_138 (by decide) (Nat.le_of_ble_eq_true rfl) rfl dX5_paid_48 ?_
            refine z_ifb_eq F 61 dX5_paid_51 (by decide) (fun h51 => ?_) (fun h51 => ?_)
            · refine z_iinc2 F 1 dX5_paid_61 rfl zv_i_1 ?_
              refine z_goto F 36 dX5_paid_64 (by decide) ?_
              have h := ih (c + 1) (by omega)
              rw [show nI (c + 1) = nI c + 1 from nI_succ c, s_paid] at h
              simp only [h51, Bool.false_eq_true, if_true, if_false, Bool.and_true, Bool.true_and, Bool.and_false, Bool.false_and, Bool.and_self, and_self] at h
              exact h _
            · refine z_aload0 F dX5_paid_54 ?_
              refine z_iload2 F dX5_paid_55 ?_
              refine z_iconst F 4 dX5_paid_56 zv_i_4 ?_
              refine z_callVI2 F (by have h := c5_goesTo (z_row D 1 (s_paid (D.1 1) x c)) c 4 (by omega); rw [z_rowr, z_row_row] at h; exact h) kX5_86 (by decide) ocM (Nat.le_of_ble_eq_true rfl) rfl dX5_paid_57 ?_
              refine z_istore3 F dX5_paid_60 rfl ?_
              refine z_iinc2 F 1 dX5_paid_61 rfl zv_i_1 ?_
              refine z_goto F 36 dX5_paid_64 (by decide) ?_
              have h := ih (c + 1) (by omega)
              rw [show nI (c + 1) = nI c + 1 from nI_succ c, s_paid] at h
              simp only [h51, Bool.false_eq_true, if_true, if_false, Bool.and_true, Bool.true_and, Bool.and_false, Bool.false_and, Bool.and_self, and_self] at h
              exact h _
      have h := loop N 0 (by omega) none
      rw [s_paid, z_row_eq] at h
      exact h
    · refine z_aload0 F dX5_paid_27 ?_
      refine z_ldc F (-1000005) dX5_paid_28 zw_810 ?_
      refine z_callVI1 F (c5_finding _ _ 4 (by decide) (by decide)) kX5_93 (by decide) ocM (Nat.le_of_ble_eq_true rfl) rfl dX5_paid_30 ?_
      refine hR _ _ _ _ dX5_paid_33 rfl ?_
      simp only [o_paid, h5, h24, Bool.false_eq_true, if_true, if_false, Bool.and_true, Bool.true_and, Bool.and_false, Bool.false_and, Bool.and_self, and_self]; first | exact ⟨rfl, rfl⟩ | exact ⟨by decide, rfl⟩ | exact ⟨by decide, z_sm_r _⟩ | exact ⟨rfl, z_sm_r _⟩ | exact ⟨rfl, z_sm_as _⟩ | exact ⟨by decide, z_sm_fM _ (z_sm_as _)⟩
  · refine z_aload0 F dX5_paid_8 ?_
    refine z_ldc F (-1000001) dX5_paid_9 zw_721 ?_
    refine z_callVI1 F (c5_finding _ _ 0 (by decide) (by decide)) kX5_93 (by decide) ocM (Nat.le_of_ble_eq_true rfl) rfl dX5_paid_11 ?_
    refine hR _ _ _ _ dX5_paid_14 rfl ?_
    simp only [o_paid, h5, Bool.false_eq_true, if_true, if_false, Bool.and_true, Bool.true_and, Bool.and_false, Bool.false_and, Bool.and_self, and_self]; first | exact ⟨rfl, rfl⟩ | exact ⟨by decide, rfl⟩ | exact ⟨by decide, z_sm_r _⟩ | exact ⟨rfl, z_sm_r _⟩ | exact ⟨rfl, z_sm_as _⟩ | exact ⟨by decide, z_sm_fM _ (z_sm_as _)⟩
set_option maxHeartbeats 1000000 in
set_option maxRecDepth 20000 in
theorem c5_holesFor (D : zD) (x : Int32) (q : Nat) {N : Nat} (hN : D.1 1 4 = nI N) (h10 : N ≤ 10) (hq : q ≤ 100) : z_CI SM zT yX5_holesFor cX5_holesFor 7 .int 7 [.ref 0, .int x, .int (nI q)] D (fun r E => r = nI (s_hm (s_goneP (D.1 1) N q x) 100).1 ∧ z_sm D E ∧ E.1 0 10 = (s_hm (s_goneP (D.1 1) N q x) 100).2) := by
  refine z_startI SM_ok (by decide +kernel) (fun v hv => by simp at hv; rcases hv with rfl | rfl | rfl <;> rfl) (Nat.le_of_ble_eq_true rfl) (fun X F hR => ?_)
  show z_J X SM 0 [some (.ref 0), some (.int x), some (.int (nI q)), none, none, none, none] [] D
  refine z_aload0 F dX5_holesFor_0 ?_
  refine z_getR F M_now fX5_9 dX5_holesFor_1 ?_
  refine z_aload0 F dX5_holesFor_4 ?_
  refine z_getR F M_aside fX5_16 dX5_holesFor_5 ?_
  refine z_callSV2 F (c5_aside D) kX5_74 (by decide) (Nat.le_of_ble_eq_true rfl) rfl dX5_holesFor_8 ?_
  refine z_aload0 F dX5_holesFor_11 ?_
  refine z_iconst F 0 dX5_holesFor_12 zv_i_0 ?_
  refine z_callVI1 F (by have h := c5_lieIn (z_as D) 0 (by rw [z_as1]; exact hN) h10; rw [z_as1] at h; exact h) kX5_141 (by decide) ocM (Nat.le_of_ble_eq_true rfl) rfl dX5_holesFor_13 ?_
  refine z_istore3 F dX5_holesFor_16 rfl ?_
  refine z_aload0 F dX5_holesFor_17 ?_
  refine z_iconst F (-1) dX5_holesFor_18 zv_i_m1 ?_
  refine z_putI F M_leastHole fX5_219 rfl rfl dX5_holesFor_19 ?_
  refine z_iconst F 0 dX5_holesFor_22 zv_i_0 ?_
  refine z_istore4 F dX5_holesFor_23 rfl ?_
  refine z_bipush F 99 dX5_holesFor_25 zv_b_99 ?_
  refine z_istore5 F dX5_holesFor_27 rfl ?_
  have loop : ∀ (n c : Nat), c + n = 100 → ∀ (E : zD), z_sm D E → E.1 0 10 = (s_hm (s_goneP (D.1 1) N q x) c).2 → ∀ (a6 : Option Value), z_J X SM 29 [some (.ref 0), some (.int x), some (.int (nI q)), some (.int (s_lie (D.1 1) 0 N)), some (.int (nI (s_hm (s_goneP (D.1 1) N q x) c).1)), some (.int (nI n + (-1))), a6] [] (z_as E) := by
    intro n
    induction n with
    | zero =>
      intro c hn E hs hl a6
      refine z_iload5 F dX5_holesFor_29 ?_
      refine z_if_lt F 93 dX5_holesFor_31 (by decide) (fun h31 => ?_) (fun h31 => ?_)
      · refine z_iload4 F dX5_holesFor_93 ?_
        refine hR _ _ _ _ dX5_holesFor_95 rfl ?_
        rw [show c = 100 by omega] at hl ⊢
        exact ⟨rfl, z_sm_t hs (z_sm_as E), hl⟩
      · exact absurd (by decide) h31
    | succ n ih =>
      intro c hn E hs hl a6
      rw [pk_m1]
      refine z_iload5 F dX5_holesFor_29 ?_
      refine z_if_lt F 93 dX5_holesFor_31 (by decide) (fun h31 => ?_) (fun h31 => ?_)
      · exact absurd h31 (Int32.not_lt.mpr (nI_pos' (by omega)))
      · refine z_aload0 F dX5_holesFor_34 ?_
        refine z_getR F M_now fX5_9 dX5_holesFor_35 ?_
        refine z_iconst F 1 dX5_holesFor_38 zv_i_1 ?_
        refine z_iload5 F dX5_holesFor_39 ?_
        refine z_iast F aM_now (1) rfl (by omega) dX5_holesFor_41 ?_
        rw [z_up_row, z_as1, hs.1, show upd (D.1 1) 1 (nI n) = s_hole (D.1 1) (nI n) from rfl]
        refine z_aload0 F dX5_holesFor_42 ?_
        refine z_iload2 F dX5_holesFor_43 ?_
        refine z_callVI1 F (c5_stepsA E _ q (s_hole_N hN _) h10 (by omega)) kX5_170 (by decide) ocM (Nat.le_of_ble_eq_true rfl) rfl dX5_holesFor_44 ?_
        refine z_istore6 F dX5_holesFor_47 rfl ?_
        refine z_iload6 F dX5_holesFor_49 ?_
        refine z_if_lt F 76 dX5_holesFor_51 (by decide) (fun h51 => ?_) (fun h51 => ?_)
        · exact absurd h51 (s_fell_nn _ h10 q)
        · refine z_iload3 F dX5_holesFor_54 ?_
          refine z_aload0 F dX5_holesFor_55 ?_
          refine z_iconst F 0 dX5_holesFor_56 zv_i_0 ?_
          refine z_callVI1 F (c5_lieA _ _ _ (s_steps_N (s_hole_N hN _) _) h10) kX5_141 (by decide) ocM (Nat.le_of_ble_eq_true rfl) rfl dX5_holesFor_57 ?_
          refine z_iconst F (-1) dX5_holesFor_60 zv_i_m1 ?_
          refine z_ixor F dX5_holesFor_61 ?_
          refine z_iand F dX5_holesFor_62 ?_
          refine z_iload1 F dX5_holesFor_63 ?_
          refine z_ic_ne F 76 dX5_holesFor_64 (by decide) (fun h64 => ?_) (fun h64 => ?_)
          · have h99 : 99 - c = n := by omega
            have hp : (s_goneP (D.1 1) N q x) (99 - c) = false := by
              rw [h99]
              simp only [s_goneP, decide_eq_true_eq, decide_eq_false_iff_not]
              exact h64
            skip
            refine z_aload0 F dX5_holesFor_76 ?_
            refine z_getR F M_aside fX5_16 dX5_holesFor_77 ?_
            refine z_aload0 F dX5_holesFor_80 ?_
            refine z_getR F M_now fX5_9 dX5_holesFor_81 ?_
            refine z_callSV2 F (c5_back E _ (fun i hi => by rw [s_steps_hi _ h10 hi q, s_hole_lo _ _ (by omega), hs.1])) kX5_74 (by decide) (Nat.le_of_ble_eq_true rfl) rfl dX5_holesFor_84 ?_
            refine z_iinc5 F (-1) dX5_holesFor_87 rfl zv_i_m1 ?_
            refine z_goto F 29 dX5_holesFor_90 (by decide) ?_
            have h := ih (c + 1) (by omega) E hs (by rw [s_hm, if_neg (by rw [hp]; decide)]; exact hl)
            rw [s_hm, if_neg (by rw [hp]; decide)] at h
            exact h _
          · have h99 : 99 - c = n := by omega
            have hp : (s_goneP (D.1 1) N q x) (99 - c) = true := by
              rw [h99]
              simp only [s_goneP, decide_eq_true_eq, decide_eq_false_iff_not]
              exact h64
            refine z_iinc4 F 1 dX5_holesFor_67 rfl zv_i_1 ?_
            refine z_aload0 F dX5_holesFor_70 ?_
            refine z_iload5 F dX5_holesFor_71 ?_
            refine z_putI F M_leastHole fX5_219 rfl rfl dX5_holesFor_73 ?_
            rw [z_row_up0, z_as_up0]
            refine z_aload0 F dX5_holesFor_76 ?_
            refine z_getR F M_aside fX5_16 dX5_holesFor_77 ?_
            refine z_aload0 F dX5_holesFor_80 ?_
            refine z_getR F M_now fX5_9 dX5_holesFor_81 ?_
            refine z_callSV2 F (c5_back (z_up E 0 10 (nI n)) _ (fun i hi => by rw [s_steps_hi _ h10 hi q, s_hole_lo _ _ (by omega), z_upo _ _ _ (by decide), hs.1])) kX5_74 (by decide) (Nat.le_of_ble_eq_true rfl) rfl dX5_holesFor_84 ?_
            refine z_iinc5 F (-1) dX5_holesFor_87 rfl zv_i_m1 ?_
            refine z_goto F 29 dX5_holesFor_90 (by decide) ?_
            have h := ih (c + 1) (by omega) (z_up E 0 10 (nI n)) (z_sm_t hs (z_sm_0 _ _ (by decide) (by decide))) (by rw [s_hm, if_pos hp]; show (z_up E 0 10 (nI n)).1 0 10 = nI (99 - c); rw [h99, z_upr, u_eq])
            rw [s_hm, if_pos hp] at h
            simp only [nI_succ] at h
            exact h _
  rw [z_as_up0]
  have h := loop 100 0 (by omega) _ (z_sm_0 D (-1) (x := 10) (by decide) (by decide)) (by rw [z_upr, u_eq]; rfl) none
  rw [show nI 100 + (-1) = 99 by decide] at h
  exact h
set_option maxHeartbeats 1000000 in
set_option maxRecDepth 20000 in
theorem c5_fits (D : zD) (x y : Int32) {N : Nat} (hN : D.1 1 4 = nI N) (h10 : N ≤ 10) : z_CI SM zT yX5_fits cX5_fits 4 .int 8 [.ref 0, .int x, .int y] D (z_qM D (o_fits (D.1 1) N x y)) := by
  refine z_startI SM_ok (by decide +kernel) (fun v hv => by simp at hv; rcases hv with rfl | rfl | rfl <;> rfl) (Nat.le_of_ble_eq_true rfl) (fun X F hR => ?_)
  show z_J X SM 0 [some (.ref 0), some (.int x), some (.int y), none] [] D
  refine z_aload0 F dX5_fits_0 ?_
  refine z_aload0 F dX5_fits_1 ?_
  refine z_iload1 F dX5_fits_2 ?_
  refine z_callVI1 F (c5_isSet _ _ hN h10) kX5_216 (by decide) ocM (Nat.le_of_ble_eq_true rfl) rfl dX5_fits_3 ?_
  refine z_iload2 F dX5_fits_6 ?_
  refine z_bipush F 60 dX5_fits_7 zv_b_60 ?_
  by_cases hb : (b_set x N && b_in y 1 60) = true
  · by_cases hl : 9999 < D.1 1 0 + y
    · refine z_callVI3 F (c5_refL D (b_set x N) y 60 hb hl) kX5_192 (by decide) ocM (Nat.le_of_ble_eq_true rfl) rfl dX5_fits_9 ?_
      refine z_istore3 F dX5_fits_12 rfl ?_
      refine z_iload3 F dX5_fits_13 ?_
      refine z_if_eq F 25 dX5_fits_14 (by decide) (fun h14 => ?_) (fun h14 => ?_)
      · exact absurd h14 (by decide)
      · refine z_aload0 F dX5_fits_17 ?_
        refine z_iload3 F dX5_fits_18 ?_
        refine z_callVI1 F (c5_finding _ _ 4 (by decide) (by decide)) kX5_93 (by decide) ocM (Nat.le_of_ble_eq_true rfl) rfl dX5_fits_19 ?_
        refine z_goto F 31 dX5_fits_22 (by decide) ?_
        refine hR _ _ _ _ dX5_fits_31 rfl ?_
        simp only [o_fits, hb, hl, Bool.false_eq_true, if_true, if_false, Bool.and_true, Bool.true_and, Bool.and_false, Bool.false_and, Bool.and_self, and_self]; first | exact ⟨rfl, rfl⟩ | exact ⟨by decide, rfl⟩ | exact ⟨by decide, z_sm_r _⟩ | exact ⟨rfl, z_sm_r _⟩ | exact ⟨rfl, z_sm_as _⟩ | exact ⟨by decide, z_sm_fM _ (z_sm_as _)⟩
    · refine z_callVI3 F (c5_refO D (b_set x N) y 60 hb hl) kX5_192 (by decide) ocM (Nat.le_of_ble_eq_true rfl) rfl dX5_fits_9 ?_
      refine z_istore3 F dX5_fits_12 rfl ?_
      refine z_iload3 F dX5_fits_13 ?_
      obtain ⟨q, hq1, hq, rfl⟩ := b_in1 60 (by decide) (b_and_2 hb).2
      have hqn := i_n_n (j := q) (by omega)
      refine z_if_eq F 25 dX5_fits_14 (by decide) (fun h14 => ?_) (fun h14 => ?_)
      · refine z_aload0 F dX5_fits_25 ?_
        refine z_iload1 F dX5_fits_26 ?_
        refine z_iload2 F dX5_fits_27 ?_
        refine z_callVI2p F (c5_holesFor D x q hN h10 (by omega)) kX5_222 (by decide) ocM (Nat.le_of_ble_eq_true rfl) rfl dX5_fits_28 (fun r E hp => ?_)
        refine hR _ _ _ _ dX5_fits_31 rfl ?_
        simp only [o_fits, hb, hl, hqn, Bool.false_eq_true, if_true, if_false, Bool.and_true, Bool.true_and, Bool.and_false, Bool.false_and, Bool.and_self, and_self]
        exact ⟨hp.1, hp.2.1⟩
      · exact absurd h14 (by decide)
  · refine z_callVI3 F (c5_refB D (b_set x N) y 60 (by exact hb)) kX5_192 (by decide) ocM (Nat.le_of_ble_eq_true rfl) rfl dX5_fits_9 ?_
    refine z_istore3 F dX5_fits_12 rfl ?_
    refine z_iload3 F dX5_fits_13 ?_
    refine z_if_eq F 25 dX5_fits_14 (by decide) (fun h14 => ?_) (fun h14 => ?_)
    · exact absurd h14 (by decide)
    · refine z_aload0 F dX5_fits_17 ?_
      refine z_iload3 F dX5_fits_18 ?_
      refine z_callVI1 F (c5_finding _ _ 0 (by decide) (by decide)) kX5_93 (by decide) ocM (Nat.le_of_ble_eq_true rfl) rfl dX5_fits_19 ?_
      refine z_goto F 31 dX5_fits_22 (by decide) ?_
      refine hR _ _ _ _ dX5_fits_31 rfl ?_
      simp only [o_fits, hb, Bool.false_eq_true, if_true, if_false, Bool.and_true, Bool.true_and, Bool.and_false, Bool.false_and, Bool.and_self, and_self]; first | exact ⟨rfl, rfl⟩ | exact ⟨by decide, rfl⟩ | exact ⟨by decide, z_sm_r _⟩ | exact ⟨rfl, z_sm_r _⟩ | exact ⟨rfl, z_sm_as _⟩ | exact ⟨by decide, z_sm_fM _ (z_sm_as _)⟩
set_option maxHeartbeats 1000000 in
set_option maxRecDepth 20000 in
theorem c5_size (D : zD) (x y : Int32) {N : Nat} (hN : D.1 1 4 = nI N) (h10 : N ≤ 10) : z_CI SM zT yX5_size cX5_size 4 .int 8 [.ref 0, .int x, .int y] D (z_qM D (o_size (D.1 1) N x y)) := by
  refine z_startI SM_ok (by decide +kernel) (fun v hv => by simp at hv; rcases hv with rfl | rfl | rfl <;> rfl) (Nat.le_of_ble_eq_true rfl) (fun X F hR => ?_)
  show z_J X SM 0 [some (.ref 0), some (.int x), some (.int y), none] [] D
  refine z_aload0 F dX5_size_0 ?_
  refine z_aload0 F dX5_size_1 ?_
  refine z_iload1 F dX5_size_2 ?_
  refine z_callVI1 F (c5_isSet _ _ hN h10) kX5_216 (by decide) ocM (Nat.le_of_ble_eq_true rfl) rfl dX5_size_3 ?_
  refine z_iload2 F dX5_size_6 ?_
  refine z_bipush F 60 dX5_size_7 zv_b_60 ?_
  by_cases hb : (b_set x N && b_in y 1 60) = true
  · by_cases hl : 9999 < D.1 1 0 + y
    · refine z_callVI3 F (c5_refL D (b_set x N) y 60 hb hl) kX5_192 (by decide) ocM (Nat.le_of_ble_eq_true rfl) rfl dX5_size_9 ?_
      refine z_istore3 F dX5_size_12 rfl ?_
      refine z_iload3 F dX5_size_13 ?_
      refine z_if_eq F 23 dX5_size_14 (by decide) (fun h14 => ?_) (fun h14 => ?_)
      · exact absurd h14 (by decide)
      · refine z_aload0 F dX5_size_17 ?_
        refine z_iload3 F dX5_size_18 ?_
        refine z_callVI1 F (c5_finding _ _ 4 (by decide) (by decide)) kX5_93 (by decide) ocM (Nat.le_of_ble_eq_true rfl) rfl dX5_size_19 ?_
        refine hR _ _ _ _ dX5_size_22 rfl ?_
        simp only [o_size, hb, hl, Bool.false_eq_true, if_true, if_false, Bool.and_true, Bool.true_and, Bool.and_false, Bool.false_and, Bool.and_self, and_self]; first | exact ⟨rfl, rfl⟩ | exact ⟨by decide, rfl⟩ | exact ⟨by decide, z_sm_r _⟩ | exact ⟨rfl, z_sm_r _⟩ | exact ⟨rfl, z_sm_as _⟩ | exact ⟨by decide, z_sm_fM _ (z_sm_as _)⟩
    · refine z_callVI3 F (c5_refO D (b_set x N) y 60 hb hl) kX5_192 (by decide) ocM (Nat.le_of_ble_eq_true rfl) rfl dX5_size_9 ?_
      refine z_istore3 F dX5_size_12 rfl ?_
      refine z_iload3 F dX5_size_13 ?_
      obtain ⟨q, hq1, hq, rfl⟩ := b_in1 60 (by decide) (b_and_2 hb).2
      have hqn := i_n_n (j := q) (by omega)
      refine z_if_eq F 23 dX5_size_14 (by decide) (fun h14 => ?_) (fun h14 => ?_)
      · refine z_aload0 F dX5_size_23 ?_
        refine z_iload1 F dX5_size_24 ?_
        refine z_iload2 F dX5_size_25 ?_
        refine z_callVI2p F (c5_holesFor D x q hN h10 (by omega)) kX5_222 (by decide) ocM (Nat.le_of_ble_eq_true rfl) rfl dX5_size_26 (fun r E hp => ?_)
        obtain ⟨rfl, hp2, hp3⟩ := hp
        refine z_if_ne F 41 dX5_size_29 (by decide) (fun h29 => ?_) (fun h29 => ?_)
        · have hm : ¬ (s_hm (s_goneP (D.1 1) N q x) 100).1 = 0 := fun e => h29 (by rw [e]; rfl)
          refine z_aload0 F dX5_size_41 ?_
          refine z_getI F M_leastHole fX5_219 dX5_size_42 ?_
          refine hR _ _ _ _ dX5_size_45 rfl ?_
          simp only [o_size, hm, hb, hl, hqn, Bool.false_eq_true, if_true, if_false, Bool.and_true, Bool.true_and, Bool.and_false, Bool.false_and, Bool.and_self, and_self]
          exact ⟨hp3, hp2⟩
        · have hm : (s_hm (s_goneP (D.1 1) N q x) 100).1 = 0 := (nI_eq (b := 0) (by have := s_hm_le (s_goneP (D.1 1) N q x) 100; omega) (by decide)).mp h29
          refine z_aload0 F dX5_size_32 ?_
          refine z_ldc F (-1000004) dX5_size_33 zw_860 ?_
          refine z_callVI1 F (c5_finding _ _ 3 (by decide) (by decide)) kX5_93 (by decide) ocM (Nat.le_of_ble_eq_true rfl) rfl dX5_size_35 ?_
          refine z_goto F 45 dX5_size_38 (by decide) ?_
          refine hR _ _ _ _ dX5_size_45 rfl ?_
          simp only [o_size, hm, hb, hl, hqn, Bool.false_eq_true, if_true, if_false, Bool.and_true, Bool.true_and, Bool.and_false, Bool.false_and, Bool.and_self, and_self]
          exact ⟨nF_3.symm, z_sm_fM _ hp2⟩
      · exact absurd h14 (by decide)
  · refine z_callVI3 F (c5_refB D (b_set x N) y 60 (by exact hb)) kX5_192 (by decide) ocM (Nat.le_of_ble_eq_true rfl) rfl dX5_size_9 ?_
    refine z_istore3 F dX5_size_12 rfl ?_
    refine z_iload3 F dX5_size_13 ?_
    refine z_if_eq F 23 dX5_size_14 (by decide) (fun h14 => ?_) (fun h14 => ?_)
    · exact absurd h14 (by decide)
    · refine z_aload0 F dX5_size_17 ?_
      refine z_iload3 F dX5_size_18 ?_
      refine z_callVI1 F (c5_finding _ _ 0 (by decide) (by decide)) kX5_93 (by decide) ocM (Nat.le_of_ble_eq_true rfl) rfl dX5_size_19 ?_
      refine hR _ _ _ _ dX5_size_22 rfl ?_
      simp only [o_size, hb, Bool.false_eq_true, if_true, if_false, Bool.and_true, Bool.true_and, Bool.and_false, Bool.false_and, Bool.and_self, and_self]; first | exact ⟨rfl, rfl⟩ | exact ⟨by decide, rfl⟩ | exact ⟨by decide, z_sm_r _⟩ | exact ⟨rfl, z_sm_r _⟩ | exact ⟨rfl, z_sm_as _⟩ | exact ⟨by decide, z_sm_fM _ (z_sm_as _)⟩
set_option maxHeartbeats 1000000 in
set_option maxRecDepth 20000 in
theorem c5_boy (D : zD) (x y : Int32) {N : Nat} (hN : D.1 1 4 = nI N) (h10 : N ≤ 10) : z_CI SM zT yX5_boy cX5_boy 6 .int 8 [.ref 0, .int x, .int y] D (z_qM D (o_boy (D.1 1) N x y)) := by
  refine z_startI SM_ok (by decide +kernel) (fun v hv => by simp at hv; rcases hv with rfl | rfl | rfl <;> rfl) (Nat.le_of_ble_eq_true rfl) (fun X F hR => ?_)
  show z_J X SM 0 [some (.ref 0), some (.int x), some (.int y), none, none, none] [] D
  refine z_aload0 F dX5_boy_0 ?_
  refine z_aload0 F dX5_boy_1 ?_
  refine z_iload1 F dX5_boy_2 ?_
  refine z_callVI1 F (c5_isSet _ _ hN h10) kX5_216 (by decide) ocM (Nat.le_of_ble_eq_true rfl) rfl dX5_boy_3 ?_
  refine z_iload2 F dX5_boy_6 ?_
  refine z_bipush F 60 dX5_boy_7 zv_b_60 ?_
  by_cases hb : (b_set x N && b_in y 1 60) = true
  · by_cases hl : 9999 < D.1 1 0 + y
    · refine z_callVI3 F (c5_refL D (b_set x N) y 60 hb hl) kX5_192 (by decide) ocM (Nat.le_of_ble_eq_true rfl) rfl dX5_boy_9 ?_
      refine z_istore3 F dX5_boy_12 rfl ?_
      refine z_iload3 F dX5_boy_13 ?_
      refine z_if_eq F 23 dX5_boy_14 (by decide) (fun h14 => ?_) (fun h14 => ?_)
      · exact absurd h14 (by decide)
      · refine z_aload0 F dX5_boy_17 ?_
        refine z_iload3 F dX5_boy_18 ?_
        refine z_callVI1 F (c5_finding _ _ 4 (by decide) (by decide)) kX5_93 (by decide) ocM (Nat.le_of_ble_eq_true rfl) rfl dX5_boy_19 ?_
        refine hR _ _ _ _ dX5_boy_22 rfl ?_
        simp only [o_boy, hb, hl, Bool.false_eq_true, if_true, if_false, Bool.and_true, Bool.true_and, Bool.and_false, Bool.false_and, Bool.and_self, and_self]; first | exact ⟨rfl, rfl⟩ | exact ⟨by decide, rfl⟩ | exact ⟨by decide, z_sm_r _⟩ | exact ⟨rfl, z_sm_r _⟩ | exact ⟨rfl, z_sm_as _⟩ | exact ⟨by decide, z_sm_fM _ (z_sm_as _)⟩
    · refine z_callVI3 F (c5_refO D (b_set x N) y 60 hb hl) kX5_192 (by decide) ocM (Nat.le_of_ble_eq_true rfl) rfl dX5_boy_9 ?_
      refine z_istore3 F dX5_boy_12 rfl ?_
      refine z_iload3 F dX5_boy_13 ?_
      obtain ⟨q, hq1, hq, rfl⟩ := b_in1 60 (by decide) (b_and_2 hb).2
      have hqn := i_n_n (j := q) (by omega)
      refine z_if_eq F 23 dX5_boy_14 (by decide) (fun h14 => ?_) (fun h14 => ?_)
      · refine z_aload0 F dX5_boy_23 ?_
        refine z_iload1 F dX5_boy_24 ?_
        refine z_iload2 F dX5_boy_25 ?_
        refine z_callVI2p F (c5_holesFor D x q hN h10 (by omega)) kX5_222 (by decide) ocM (Nat.le_of_ble_eq_true rfl) rfl dX5_boy_26 (fun r E hp => ?_)
        obtain ⟨rfl, hp2, hp3⟩ := hp
        refine z_if_le F 34 dX5_boy_29 (by decide) (fun h29 => ?_) (fun h29 => ?_)
        · have hm : (s_hm (s_goneP (D.1 1) N q x) 100).1 = 0 := Nat.le_zero.mp ((nI_leI (a := (s_hm (s_goneP (D.1 1) N q x) 100).1) (b := 0) (by have := s_hm_le (s_goneP (D.1 1) N q x) 100; omega) (by decide)).mp h29)
          refine z_iconst F 0 dX5_boy_34 zv_i_0 ?_
          refine z_istore4 F dX5_boy_35 rfl ?_
          refine z_iconst F 0 dX5_boy_37 zv_i_0 ?_
          refine z_istore5 F dX5_boy_38 rfl ?_
          have loop : ∀ (n c : Nat), c + n = N → ∀ (E : zD), z_sm D E → z_J X SM 40 [some (.ref 0), some (.int x), some (.int (nI q)), some (.int 0), some (.int (s_boy (D.1 1) N q x c)), some (.int (nI c))] [] E := by
            intro n
            induction n with
            | zero =>
              intro c hn E hs
              refine z_iload5 F dX5_boy_40 ?_
              refine z_aload0 F dX5_boy_42 ?_
              refine z_getR F M_now fX5_9 dX5_boy_43 ?_
              refine z_iconst F 4 dX5_boy_46 zv_i_4 ?_
              refine z_iald F aM_now (4) rfl (by omega) dX5_boy_47 ?_
              refine z_ic_ge F 79 dX5_boy_48 (by decide) (fun h48 => ?_) (fun h48 => ?_)
              · refine z_iload4 F dX5_boy_79 ?_
                refine hR _ _ _ _ dX5_boy_81 rfl ?_
                simp only [o_boy, hm, hb, hl, hqn, Bool.false_eq_true, if_true, if_false, Bool.and_true, Bool.true_and, Bool.and_false, Bool.false_and, Bool.and_self, and_self]
                rw [show c = N by omega]
                exact ⟨rfl, hs⟩
              · exact absurd (by rw [hs.1, hN]; exact nI_le (by omega) (by omega)) h48
            | succ n ih =>
              intro c hn E hs
              refine z_iload5 F dX5_boy_40 ?_
              refine z_aload0 F dX5_boy_42 ?_
              refine z_getR F M_now fX5_9 dX5_boy_43 ?_
              refine z_iconst F 4 dX5_boy_46 zv_i_4 ?_
              refine z_iald F aM_now (4) rfl (by omega) dX5_boy_47 ?_
              refine z_ic_ge F 79 dX5_boy_48 (by decide) (fun h48 => ?_) (fun h48 => ?_)
              · exact absurd h48 (by rw [hs.1, hN]; exact nI_ge (by omega) (by omega))
              · refine z_aload0 F dX5_boy_51 ?_
                refine z_iload1 F dX5_boy_52 ?_
                refine z_iconst F 1 dX5_boy_53 zv_i_1 ?_
                refine z_iload5 F dX5_boy_54 ?_
                refine z_ishl F dX5_boy_56 ?_
                refine z_ixor F dX5_boy_57 ?_
                refine z_iload2 F dX5_boy_58 ?_
                refine z_callVI2p F (by have h := c5_holesFor E (x ^^^ ((1 : Int32) <<< (nI c &&& 31))) q (by rw [hs.1]; exact hN) h10 (by omega); rw [hs.1] at h; exact h) kX5_222 (by decide) ocM (Nat.le_of_ble_eq_true rfl) rfl dX5_boy_59 (fun r G hp => ?_)
                obtain ⟨rfl, hp2, hp3⟩ := hp
                refine z_if_le F 69 dX5_boy_62 (by decide) (fun h62 => ?_) (fun h62 => ?_)
                · refine z_iload4 F dX5_boy_69 ?_
                  refine z_istore4 F dX5_boy_71 rfl ?_
                  refine z_iinc5 F 1 dX5_boy_73 rfl zv_i_1 ?_
                  refine z_goto F 40 dX5_boy_76 (by decide) ?_
                  have h := ih (c + 1) (by omega) G (z_sm_t hs hp2)
                  rw [show nI (c + 1) = nI c + 1 from nI_succ c, s_boy] at h
                  first
                    | (rw [if_pos (show (s_hm (s_goneP (D.1 1) N q (x ^^^ ((1 : Int32) <<< (nI c &&& 31)))) 100).1 = 0 from Nat.le_zero.mp ((nI_leI (a := (s_hm (s_goneP (D.1 1) N q (x ^^^ ((1 : Int32) <<< (nI c &&& 31)))) 100).1) (b := 0) (by have := s_hm_le (s_goneP (D.1 1) N q (x ^^^ ((1 : Int32) <<< (nI c &&& 31)))) 100; omega) (by decide)).mp h62))] at h; exact h)
                    | (rw [if_neg (show ¬ (s_hm (s_goneP (D.1 1) N q (x ^^^ ((1 : Int32) <<< (nI c &&& 31)))) 100).1 = 0 from fun e => h62 (by rw [e]; decide))] at h; exact h)
                · refine z_iconst F 2 dX5_boy_65 zv_i_2 ?_
                  refine z_goto F 71 dX5_boy_66 (by decide) ?_
                  refine z_istore4 F dX5_boy_71 rfl ?_
                  refine z_iinc5 F 1 dX5_boy_73 rfl zv_i_1 ?_
                  refine z_goto F 40 dX5_boy_76 (by decide) ?_
                  have h := ih (c + 1) (by omega) G (z_sm_t hs hp2)
                  rw [show nI (c + 1) = nI c + 1 from nI_succ c, s_boy] at h
                  first
                    | (rw [if_pos (show (s_hm (s_goneP (D.1 1) N q (x ^^^ ((1 : Int32) <<< (nI c &&& 31)))) 100).1 = 0 from Nat.le_zero.mp ((nI_leI (a := (s_hm (s_goneP (D.1 1) N q (x ^^^ ((1 : Int32) <<< (nI c &&& 31)))) 100).1) (b := 0) (by have := s_hm_le (s_goneP (D.1 1) N q (x ^^^ ((1 : Int32) <<< (nI c &&& 31)))) 100; omega) (by decide)).mp h62))] at h; exact h)
                    | (rw [if_neg (show ¬ (s_hm (s_goneP (D.1 1) N q (x ^^^ ((1 : Int32) <<< (nI c &&& 31)))) 100).1 = 0 from fun e => h62 (by rw [e]; decide))] at h; exact h)
          exact loop N 0 (by omega) E hp2
        · have hm : ¬ (s_hm (s_goneP (D.1 1) N q x) 100).1 = 0 := fun e => h29 (by rw [e]; decide)
          refine z_iconst F 1 dX5_boy_32 zv_i_1 ?_
          refine hR _ _ _ _ dX5_boy_33 rfl ?_
          simp only [o_boy, hm, hb, hl, hqn, Bool.false_eq_true, if_true, if_false, Bool.and_true, Bool.true_and, Bool.and_false, Bool.false_and, Bool.and_self, and_self]
          exact ⟨rfl, hp2⟩
      · exact absurd h14 (by decide)
  · refine z_callVI3 F (c5_refB D (b_set x N) y 60 (by exact hb)) kX5_192 (by decide) ocM (Nat.le_of_ble_eq_true rfl) rfl dX5_boy_9 ?_
    refine z_istore3 F dX5_boy_12 rfl ?_
    refine z_iload3 F dX5_boy_13 ?_
    refine z_if_eq F 23 dX5_boy_14 (by decide) (fun h14 => ?_) (fun h14 => ?_)
    · exact absurd h14 (by decide)
    · refine z_aload0 F dX5_boy_17 ?_
      refine z_iload3 F dX5_boy_18 ?_
      refine z_callVI1 F (c5_finding _ _ 0 (by decide) (by decide)) kX5_93 (by decide) ocM (Nat.le_of_ble_eq_true rfl) rfl dX5_boy_19 ?_
      refine hR _ _ _ _ dX5_boy_22 rfl ?_
      simp only [o_boy, hb, Bool.false_eq_true, if_true, if_false, Bool.and_true, Bool.true_and, Bool.and_false, Bool.false_and, Bool.and_self, and_self]; first | exact ⟨rfl, rfl⟩ | exact ⟨by decide, rfl⟩ | exact ⟨by decide, z_sm_r _⟩ | exact ⟨rfl, z_sm_r _⟩ | exact ⟨rfl, z_sm_as _⟩ | exact ⟨by decide, z_sm_fM _ (z_sm_as _)⟩
set_option maxHeartbeats 1000000 in
set_option maxRecDepth 20000 in
theorem c5_began (D : zD) (x : Int32) {N : Nat} (hN : D.1 1 4 = nI N) (h10 : N ≤ 10) : z_CI SM zT yX5_began cX5_began 6 .int 7 [.ref 0, .int x] D (z_qM D (o_began (D.1 1) N x)) := by
  refine z_startI SM_ok (by decide +kernel) (fun v hv => by simp at hv; rcases hv with rfl | rfl <;> rfl) (Nat.le_of_ble_eq_true rfl) (fun X F hR => ?_)
  show z_J X SM 0 [some (.ref 0), some (.int x), none, none, none, none] [] D
  refine z_aload0 F dX5_began_0 ?_
  refine z_iload1 F dX5_began_1 ?_
  refine z_callVI1 F (c5_isSet _ _ hN h10) kX5_216 (by decide) ocM (Nat.le_of_ble_eq_true rfl) rfl dX5_began_2 ?_
  refine z_ifb_ne F 15 dX5_began_5 (by decide) (fun h5 => ?_) (fun h5 => ?_)
  · refine z_aload0 F dX5_began_15 ?_
    refine z_bipush F 30 dX5_began_16 zv_b_30 ?_
    refine z_callVI1 F (c5_isTooLate _ _) kX5_166 (by decide) ocM (Nat.le_of_ble_eq_true rfl) rfl dX5_began_18 ?_
    refine z_ifb_eq F 31 dX5_began_21 (by decide) (fun h21 => ?_) (fun h21 => ?_)
    · simp only [decide_eq_false_iff_not] at h21
      refine z_aload0 F dX5_began_31 ?_
      refine z_getR F M_now fX5_9 dX5_began_32 ?_
      refine z_aload0 F dX5_began_35 ?_
      refine z_getR F M_aside fX5_16 dX5_began_36 ?_
      refine z_callSV2 F (c5_aside D) kX5_74 (by decide) (Nat.le_of_ble_eq_true rfl) rfl dX5_began_39 ?_
      refine z_aload0 F dX5_began_42 ?_
      refine z_iconst F 0 dX5_began_43 zv_i_0 ?_
      refine z_callVI1 F (by have h := c5_lieIn (z_as D) 0 (by rw [z_as1]; exact hN) h10; rw [z_as1] at h; exact h) kX5_141 (by decide) ocM (Nat.le_of_ble_eq_true rfl) rfl dX5_began_44 ?_
      refine z_istore2 F dX5_began_47 rfl ?_
      refine z_iconst F 0 dX5_began_48 zv_i_0 ?_
      refine z_istore3 F dX5_began_49 rfl ?_
      refine z_iconst F 1 dX5_began_50 zv_i_1 ?_
      refine z_istore4 F dX5_began_51 rfl ?_
      have loop : ∀ (n c : Nat), c + n = 30 → ∀ (a5 : Option Value), z_J X SM 53 [some (.ref 0), some (.int x), some (.int (s_lie (D.1 1) 0 N)), some (.int (s_bgn (D.1 1) N x c)), some (.int (nI (c + 1))), a5] [] (z_row (z_as D) 1 (s_steps (D.1 1) N c)) := by
        intro n
        induction n with
        | zero =>
          intro c hn a5
          refine z_iload4 F dX5_began_53 ?_
          refine z_bipush F 30 dX5_began_55 zv_b_30 ?_
          refine z_ic_gt F 102 dX5_began_57 (by decide) (fun h57 => ?_) (fun h57 => ?_)
          · refine z_aload0 F dX5_began_102 ?_
            refine z_iload3 F dX5_began_103 ?_
            refine z_callVI1 F (c5_putBackS D _ _ (fun i hi => s_steps_hi _ h10 hi c)) kX5_177 (by decide) ocM (Nat.le_of_ble_eq_true rfl) rfl dX5_began_104 ?_
            refine hR _ _ _ _ dX5_began_107 rfl ?_
            simp only [o_began, h5, h21, Bool.false_eq_true, if_true, if_false, Bool.and_true, Bool.true_and, Bool.and_false, Bool.false_and, Bool.and_self, and_self]
            rw [show c = 30 by omega]
            exact ⟨rfl, z_sm_as _⟩
          · exact absurd (nI_lt (a := 30) (b := c + 1) (by omega) (by omega)) h57
        | succ n ih =>
          intro c hn a5
          refine z_iload4 F dX5_began_53 ?_
          refine z_bipush F 30 dX5_began_55 zv_b_30 ?_
          refine z_ic_gt F 102 dX5_began_57 (by decide) (fun h57 => ?_) (fun h57 => ?_)
          · exact absurd h57 (nI_nlt (a := 30) (b := c + 1) (by omega) (by omega))
          · refine z_aload0 F dX5_began_60 ?_
            refine z_iconst F 1 dX5_began_61 zv_i_1 ?_
            refine z_callVI1 F (c5_stepsA D (s_steps (D.1 1) N c) 1 (s_steps_N hN c) h10 (by decide)) kX5_170 (by decide) ocM (Nat.le_of_ble_eq_true rfl) rfl dX5_began_62 ?_
            rw [show s_steps (s_steps (D.1 1) N c) N 1 = s_steps (D.1 1) N (c + 1) from rfl]
            refine z_istore5 F dX5_began_65 rfl ?_
            refine z_iload3 F dX5_began_67 ?_
            refine z_iload5 F dX5_began_68 ?_
            refine z_if_lt F 93 dX5_began_70 (by decide) (fun h70 => ?_) (fun h70 => ?_)
            · exact absurd h70 (s_fell_nn (s_steps (D.1 1) N c) h10 1)
            · refine z_iload2 F dX5_began_73 ?_
              refine z_aload0 F dX5_began_74 ?_
              refine z_iconst F 0 dX5_began_75 zv_i_0 ?_
              refine z_callVI1 F (c5_lieA _ _ _ (s_steps_N hN _) h10) kX5_141 (by decide) ocM (Nat.le_of_ble_eq_true rfl) rfl dX5_began_76 ?_
              refine z_iconst F (-1) dX5_began_79 zv_i_m1 ?_
              refine z_ixor F dX5_began_80 ?_
              refine z_iand F dX5_began_81 ?_
              refine z_iload1 F dX5_began_82 ?_
              refine z_ic_ne F 93 dX5_began_83 (by decide) (fun h83 => ?_) (fun h83 => ?_)
              · refine z_iconst F 0 dX5_began_93 zv_i_0 ?_
                refine z_ior F dX5_began_94 ?_
                refine z_istore3 F dX5_began_95 rfl ?_
                refine z_iinc4 F 1 dX5_began_96 rfl zv_i_1 ?_
                refine z_goto F 53 dX5_began_99 (by decide) ?_
                have h := ih (c + 1) (by omega)
                rw [show nI (c + 1 + 1) = nI (c + 1) + 1 from nI_succ (c + 1), s_bgn] at h
                first
                  | (rw [if_pos (show s_gone (D.1 1) N (c + 1) = x from h83)] at h; exact h _)
                  | (rw [if_neg (show ¬ s_gone (D.1 1) N (c + 1) = x from h83)] at h; exact h _)
              · refine z_iconst F 1 dX5_began_86 zv_i_1 ?_
                refine z_iload4 F dX5_began_87 ?_
                refine z_ishl F dX5_began_89 ?_
                refine z_goto F 94 dX5_began_90 (by decide) ?_
                refine z_ior F dX5_began_94 ?_
                refine z_istore3 F dX5_began_95 rfl ?_
                refine z_iinc4 F 1 dX5_began_96 rfl zv_i_1 ?_
                refine z_goto F 53 dX5_began_99 (by decide) ?_
                have h := ih (c + 1) (by omega)
                rw [show nI (c + 1 + 1) = nI (c + 1) + 1 from nI_succ (c + 1), s_bgn] at h
                first
                  | (rw [if_pos (show s_gone (D.1 1) N (c + 1) = x from h83)] at h; exact h _)
                  | (rw [if_neg (show ¬ s_gone (D.1 1) N (c + 1) = x from h83)] at h; exact h _)
      rw [z_as_row D]
      exact loop 30 0 (by omega) none
    · simp only [decide_eq_true_eq] at h21
      refine z_aload0 F dX5_began_24 ?_
      refine z_ldc F (-1000005) dX5_began_25 zw_810 ?_
      refine z_callVI1 F (c5_finding _ _ 4 (by decide) (by decide)) kX5_93 (by decide) ocM (Nat.le_of_ble_eq_true rfl) rfl dX5_began_27 ?_
      refine hR _ _ _ _ dX5_began_30 rfl ?_
      simp only [o_began, h5, h21, Bool.false_eq_true, if_true, if_false, Bool.and_true, Bool.true_and, Bool.and_false, Bool.false_and, Bool.and_self, and_self]; first | exact ⟨rfl, rfl⟩ | exact ⟨by decide, rfl⟩ | exact ⟨by decide, z_sm_r _⟩ | exact ⟨rfl, z_sm_r _⟩ | exact ⟨rfl, z_sm_as _⟩ | exact ⟨by decide, z_sm_fM _ (z_sm_as _)⟩
  · refine z_aload0 F dX5_began_8 ?_
    refine z_ldc F (-1000001) dX5_began_9 zw_721 ?_
    refine z_callVI1 F (c5_finding _ _ 0 (by decide) (by decide)) kX5_93 (by decide) ocM (Nat.le_of_ble_eq_true rfl) rfl dX5_began_11 ?_
    refine hR _ _ _ _ dX5_began_14 rfl ?_
    simp only [o_began, h5, Bool.false_eq_true, if_true, if_false, Bool.and_true, Bool.true_and, Bool.and_false, Bool.false_and, Bool.and_self, and_self]; first | exact ⟨rfl, rfl⟩ | exact ⟨by decide, rfl⟩ | exact ⟨by decide, z_sm_r _⟩ | exact ⟨rfl, z_sm_r _⟩ | exact ⟨rfl, z_sm_as _⟩ | exact ⟨by decide, z_sm_fM _ (z_sm_as _)⟩
