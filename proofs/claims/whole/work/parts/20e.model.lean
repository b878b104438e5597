set_option maxHeartbeats 4000000 in
set_option maxRecDepth 20000 in
theorem c5_coin (D : zD) (k : Int32) {N : Nat} (hN : D.1 1 4 = nI N) (h10 : N ≤ 10) : z_CI SM zT yX5_coin cX5_coin 2 .int 3 [.ref 0, .int k] D (z_eq (r_ans (o_coin (D.1 1) N k)) (r_M D (o_coin (D.1 1) N k))) := by
  refine z_startI SM_ok (by decide +kernel) (fun v hv => by simp at hv; rcases hv with rfl | rfl <;> rfl) (Nat.le_of_ble_eq_true rfl) (fun X F hR => ?_)
  show z_J X SM 0 [some (.ref 0), some (.int k)] [] D
  refine z_iload1 F dX5_coin_0 ?_
  refine z_callSI1 F (c5_isKind _ _) kX5_89 (by decide) (Nat.le_of_ble_eq_true rfl) rfl dX5_coin_1 ?_
  refine z_ifb_ne F 14 dX5_coin_4 (by decide) (fun h4 => ?_) (fun h4 => ?_)
  · refine z_aload0 F dX5_coin_14 ?_
    refine z_getR F M_now fX5_9 dX5_coin_15 ?_
    refine z_iconst F 4 dX5_coin_18 zv_i_4 ?_
    refine z_iald F aM_now (4) rfl (by omega) dX5_coin_19 ?_
    refine z_bipush F 10 dX5_coin_20 zv_b_10 ?_
    refine z_ic_ne F 34 dX5_coin_22 (by decide) (fun h22 => ?_) (fun h22 => ?_)
    · refine z_aload0 F dX5_coin_34 ?_
      refine z_iload1 F dX5_coin_35 ?_
      refine z_bipush F 8 dX5_coin_36 zv_b_8 ?_
      refine z_iconst F 5 dX5_coin_38 zv_i_5 ?_
      refine z_bipush F 6 dX5_coin_39 zv_b_6 ?_
      refine z_iconst F 0 dX5_coin_41 zv_i_0 ?_
      refine z_callVI5 F (c5_comes _ _ _ _ _ _ hN (by rw [hN] at h22; have e : N ≠ 10 := fun e => h22 (by rw [e]; rfl); omega)) kX5_98 (by decide) ocM (Nat.le_of_ble_eq_true rfl) rfl dX5_coin_42 ?_
      refine hR _ _ _ _ dX5_coin_45 rfl ?_
      rw [hN] at h22
      have e : (N = 10) = False ∨ (N = 10) = True := by by_cases q : N = 10 <;> simp [q]
      first
        | (have e : N = 10 := (nI_eq (a := N) (b := 10) (by omega) (by omega)).mp h22
           simp only [o_coin, h4, if_true, if_pos e]
           exact ⟨by decide, rfl⟩)
        | (have e : ¬ N = 10 := fun e => h22 (by rw [e]; rfl)
           simp only [o_coin, h4, if_true, if_neg e]
           exact ⟨rfl, rfl⟩)
    · refine z_aload0 F dX5_coin_25 ?_
      refine z_ldc F (-1000002) dX5_coin_26 zw_725 ?_
      refine z_callVI1 F (c5_finding _ _ 1 (by decide) (by decide)) kX5_93 (by decide) ocM (Nat.le_of_ble_eq_true rfl) rfl dX5_coin_28 ?_
      refine z_goto F 45 dX5_coin_31 (by decide) ?_
      refine hR _ _ _ _ dX5_coin_45 rfl ?_
      rw [hN] at h22
      have e : (N = 10) = False ∨ (N = 10) = True := by by_cases q : N = 10 <;> simp [q]
      first
        | (have e : N = 10 := (nI_eq (a := N) (b := 10) (by omega) (by omega)).mp h22
           simp only [o_coin, h4, if_true, if_pos e]
           exact ⟨by decide, rfl⟩)
        | (have e : ¬ N = 10 := fun e => h22 (by rw [e]; rfl)
           simp only [o_coin, h4, if_true, if_neg e]
           exact ⟨rfl, rfl⟩)
  · refine z_aload0 F dX5_coin_7 ?_
    refine z_ldc F (-1000001) dX5_coin_8 zw_721 ?_
    refine z_callVI1 F (c5_finding _ _ 0 (by decide) (by decide)) kX5_93 (by decide) ocM (Nat.le_of_ble_eq_true rfl) rfl dX5_coin_10 ?_
    refine hR _ _ _ _ dX5_coin_13 rfl ?_
    simp only [o_coin, h4, Bool.false_eq_true, if_true, if_false, Bool.and_true, Bool.true_and, Bool.and_false, Bool.false_and, Bool.and_self, and_self]; first | exact ⟨rfl, rfl⟩ | exact ⟨by decide, rfl⟩ | exact ⟨by decide, z_sm_r _⟩ | exact ⟨rfl, z_sm_r _⟩
set_option maxHeartbeats 4000000 in
set_option maxRecDepth 20000 in
theorem c5_of (D : zD) (c v : Int32) {N : Nat} (hN : D.1 1 4 = nI N) (h10 : N ≤ 10) : z_CI SM zT yX5_of cX5_of 3 .int 4 [.ref 0, .int c, .int v] D (z_qM D (o_of (D.1 1) N c v)) := by
  refine z_startI SM_ok (by decide +kernel) (fun v hv => by simp at hv; rcases hv with rfl | rfl | rfl <;> rfl) (Nat.le_of_ble_eq_true rfl) (fun X F hR => ?_)
  show z_J X SM 0 [some (.ref 0), some (.int c), some (.int v)] [] D
  refine z_aload0 F dX5_of_0 ?_
  refine z_iload1 F dX5_of_1 ?_
  refine z_callVI1 F (c5_isCoin _ _ hN h10) kX5_120 (by decide) ocM (Nat.le_of_ble_eq_true rfl) rfl dX5_of_2 ?_
  refine z_ifb_eq F 18 dX5_of_5 (by decide) (fun h5 => ?_) (fun h5 => ?_)
  · refine z_aload0 F dX5_of_18 ?_
    refine z_ldc F (-1000001) dX5_of_19 zw_721 ?_
    refine z_callVI1 F (c5_finding _ _ 0 (by decide) (by decide)) kX5_93 (by decide) ocM (Nat.le_of_ble_eq_true rfl) rfl dX5_of_21 ?_
    refine hR _ _ _ _ dX5_of_24 rfl ?_
    first | (simp only [o_of, h5, Bool.false_eq_true, if_true, if_false, Bool.and_true, Bool.true_and, Bool.and_false, Bool.false_and, Bool.and_self, and_self]; first | exact ⟨rfl, rfl⟩ | exact ⟨by decide, rfl⟩ | exact ⟨by decide, z_sm_r _⟩ | exact ⟨rfl, z_sm_r _⟩) | (simp only [o_of, h5, h15, Bool.false_eq_true, if_true, if_false, Bool.and_true, Bool.true_and, Bool.and_false, Bool.false_and, Bool.and_self, and_self]; first | exact ⟨rfl, rfl⟩ | exact ⟨by decide, rfl⟩ | exact ⟨by decide, z_sm_r _⟩ | exact ⟨rfl, z_sm_r _⟩)
  · refine z_iload2 F dX5_of_8 ?_
    refine z_iconst F 0 dX5_of_9 zv_i_0 ?_
    refine z_bipush F 10 dX5_of_10 zv_b_10 ?_
    refine z_callSI3 F (c5_within _ _ _ _) kX5_78 (by decide) (Nat.le_of_ble_eq_true rfl) rfl dX5_of_12 ?_
    refine z_ifb_ne F 25 dX5_of_15 (by decide) (fun h15 => ?_) (fun h15 => ?_)
    · obtain ⟨j, hj, rfl⟩ := b_coin_ex h10 h5
      obtain ⟨q, hq, rfl⟩ := b_in0 10 (by decide) h15
      have hjn := i_n_n (j := j) (by omega)
      have hqn := i_n_n (j := q) (by omega)
      refine z_iload2 F dX5_of_25 ?_
      refine z_bipush F 8 dX5_of_26 zv_b_8 ?_
      refine z_ic_ne F 39 dX5_of_28 (by decide) (fun h28 => ?_) (fun h28 => ?_)
      · refine z_iload2 F dX5_of_39 ?_
        refine z_bipush F 9 dX5_of_40 zv_b_9 ?_
        refine z_ic_ne F 53 dX5_of_42 (by decide) (fun h42 => ?_) (fun h42 => ?_)
        · refine z_iload2 F dX5_of_53 ?_
          refine z_bipush F 10 dX5_of_54 zv_b_10 ?_
          refine z_ic_ne F 67 dX5_of_56 (by decide) (fun h56 => ?_) (fun h56 => ?_)
          · refine z_aload0 F dX5_of_67 ?_
            refine z_iload1 F dX5_of_68 ?_
            refine z_iload2 F dX5_of_69 ?_
            refine z_callVI2 F (c5_coinIs _ j q (by omega) (by have a1 : q ≠ 8 := fun e => h28 (by rw [e]; rfl); have a2 : q ≠ 9 := fun e => h42 (by rw [e]; rfl); have a3 : q ≠ 10 := fun e => h56 (by rw [e]; rfl); omega)) kX5_105 (by decide) ocM (Nat.le_of_ble_eq_true rfl) rfl dX5_of_70 ?_
            refine hR _ _ _ _ dX5_of_73 rfl ?_
            simp only [o_of, h5, h15, Bool.and_self, if_true, v_of, hjn, hqn]
            refine ⟨?_, z_sm_r _⟩
            show _ = ite _ _ _
            first
              | exact (if_pos h28).symm
              | exact ((if_neg h28).trans (if_pos h42)).symm
              | exact ((if_neg h28).trans ((if_neg h42).trans (if_pos h56))).symm
              | exact ((if_neg h28).trans ((if_neg h42).trans (if_neg h56))).symm
          · refine z_aload0 F dX5_of_59 ?_
            refine z_iload1 F dX5_of_60 ?_
            refine z_callVI1 F (c5_wears _ (j) (by omega)) kX5_126 (by decide) ocM (Nat.le_of_ble_eq_true rfl) rfl dX5_of_61 ?_
            refine z_goto F 73 dX5_of_64 (by decide) ?_
            refine hR _ _ _ _ dX5_of_73 rfl ?_
            simp only [o_of, h5, h15, Bool.and_self, if_true, v_of, hjn, hqn]
            refine ⟨?_, z_sm_r _⟩
            show _ = ite _ _ _
            first
              | exact (if_pos h28).symm
              | exact ((if_neg h28).trans (if_pos h42)).symm
              | exact ((if_neg h28).trans ((if_neg h42).trans (if_pos h56))).symm
              | exact ((if_neg h28).trans ((if_neg h42).trans (if_neg h56))).symm
        · refine z_aload0 F dX5_of_45 ?_
          refine z_iload1 F dX5_of_46 ?_
          refine z_callVI1 F (c5_goes _ (j) (by omega)) kX5_123 (by decide) ocM (Nat.le_of_ble_eq_true rfl) rfl dX5_of_47 ?_
          refine z_goto F 73 dX5_of_50 (by decide) ?_
          refine hR _ _ _ _ dX5_of_73 rfl ?_
          simp only [o_of, h5, h15, Bool.and_self, if_true, v_of, hjn, hqn]
          refine ⟨?_, z_sm_r _⟩
          show _ = ite _ _ _
          first
            | exact (if_pos h28).symm
            | exact ((if_neg h28).trans (if_pos h42)).symm
            | exact ((if_neg h28).trans ((if_neg h42).trans (if_pos h56))).symm
            | exact ((if_neg h28).trans ((if_neg h42).trans (if_neg h56))).symm
      · refine z_aload0 F dX5_of_31 ?_
        refine z_iload1 F dX5_of_32 ?_
        refine z_callVI1 F (c5_thick _ (j) (by omega)) kX5_117 (by decide) ocM (Nat.le_of_ble_eq_true rfl) rfl dX5_of_33 ?_
        refine z_goto F 73 dX5_of_36 (by decide) ?_
        refine hR _ _ _ _ dX5_of_73 rfl ?_
        simp only [o_of, h5, h15, Bool.and_self, if_true, v_of, hjn, hqn]
        refine ⟨?_, z_sm_r _⟩
        show _ = ite _ _ _
        first
          | exact (if_pos h28).symm
          | exact ((if_neg h28).trans (if_pos h42)).symm
          | exact ((if_neg h28).trans ((if_neg h42).trans (if_pos h56))).symm
          | exact ((if_neg h28).trans ((if_neg h42).trans (if_neg h56))).symm
    · refine z_aload0 F dX5_of_18 ?_
      refine z_ldc F (-1000001) dX5_of_19 zw_721 ?_
      refine z_callVI1 F (c5_finding _ _ 0 (by decide) (by decide)) kX5_93 (by decide) ocM (Nat.le_of_ble_eq_true rfl) rfl dX5_of_21 ?_
      refine hR _ _ _ _ dX5_of_24 rfl ?_
      first | (simp only [o_of, h5, Bool.false_eq_true, if_true, if_false, Bool.and_true, Bool.true_and, Bool.and_false, Bool.false_and, Bool.and_self, and_self]; first | exact ⟨rfl, rfl⟩ | exact ⟨by decide, rfl⟩ | exact ⟨by decide, z_sm_r _⟩ | exact ⟨rfl, z_sm_r _⟩) | (simp only [o_of, h5, h15, Bool.false_eq_true, if_true, if_false, Bool.and_true, Bool.true_and, Bool.and_false, Bool.false_and, Bool.and_self, and_self]; first | exact ⟨rfl, rfl⟩ | exact ⟨by decide, rfl⟩ | exact ⟨by decide, z_sm_r _⟩ | exact ⟨rfl, z_sm_r _⟩)
set_option maxHeartbeats 4000000 in
set_option maxRecDepth 20000 in
theorem c5_change (D : zD) (c x v : Int32) {N : Nat} (hN : D.1 1 4 = nI N) (h10 : N ≤ 10) (hc : z_cM D) : z_CI SM zT yX5_change cX5_change 5 .int 2 [.ref 0, .int c, .int x, .int v] D (z_eq (r_ans (o_change (D.1 1) N c x v)) (r_M D (o_change (D.1 1) N c x v))) := by
  refine z_startI SM_ok (by decide +kernel) (fun v hv => by simp at hv; rcases hv with rfl | rfl | rfl | rfl <;> rfl) (Nat.le_of_ble_eq_true rfl) (fun X F hR => ?_)
  show z_J X SM 0 [some (.ref 0), some (.int c), some (.int x), some (.int v), none] [] D
  refine z_aload0 F dX5_change_0 ?_
  refine z_iload1 F dX5_change_1 ?_
  refine z_callVI1 F (c5_isCoin _ _ hN h10) kX5_120 (by decide) ocM (Nat.le_of_ble_eq_true rfl) rfl dX5_change_2 ?_
  refine z_ifb_eq F 41 dX5_change_5 (by decide) (fun h5 => ?_) (fun h5 => ?_)
  · refine z_iconst F 0 dX5_change_41 zv_i_0 ?_
    refine z_istore4 F dX5_change_42 rfl ?_
    refine z_iload4 F dX5_change_44 ?_
    refine z_if_eq F 62 dX5_change_46 (by decide) (fun h46 => ?_) (fun h46 => ?_)
    · refine z_aload0 F dX5_change_62 ?_
      refine z_ldc F (-1000001) dX5_change_63 zw_721 ?_
      refine z_callVI1 F (c5_finding _ _ 0 (by decide) (by decide)) kX5_93 (by decide) ocM (Nat.le_of_ble_eq_true rfl) rfl dX5_change_65 ?_
      refine hR _ _ _ _ dX5_change_68 rfl ?_
      refine ⟨?_, ?_⟩
      · simp only [o_change, h5, Bool.and_false, Bool.false_and, Bool.false_eq_true, if_false]; decide
      · simp only [o_change, h5, Bool.and_false, Bool.false_and, Bool.false_eq_true, if_false, r_M]
    · exact absurd h46 (by decide)
  · refine z_iload2 F dX5_change_8 ?_
    refine z_iconst F 0 dX5_change_9 zv_i_0 ?_
    refine z_bipush F 6 dX5_change_10 zv_b_6 ?_
    refine z_callSI3 F (c5_within _ _ _ _) kX5_78 (by decide) (Nat.le_of_ble_eq_true rfl) rfl dX5_change_12 ?_
    refine z_ifb_eq F 41 dX5_change_15 (by decide) (fun h15 => ?_) (fun h15 => ?_)
    · refine z_iconst F 0 dX5_change_41 zv_i_0 ?_
      refine z_istore4 F dX5_change_42 rfl ?_
      refine z_iload4 F dX5_change_44 ?_
      refine z_if_eq F 62 dX5_change_46 (by decide) (fun h46 => ?_) (fun h46 => ?_)
      · refine z_aload0 F dX5_change_62 ?_
        refine z_ldc F (-1000001) dX5_change_63 zw_721 ?_
        refine z_callVI1 F (c5_finding _ _ 0 (by decide) (by decide)) kX5_93 (by decide) ocM (Nat.le_of_ble_eq_true rfl) rfl dX5_change_65 ?_
        refine hR _ _ _ _ dX5_change_68 rfl ?_
        have hm : b_may x v = false := by
          cases e : b_may x v
          · rfl
          · rw [b_may_in e] at h15; cases h15
        refine ⟨?_, ?_⟩
        · simp only [o_change, hm, Bool.and_false, Bool.false_and, Bool.false_eq_true, if_false]; decide
        · simp only [o_change, hm, Bool.and_false, Bool.false_and, Bool.false_eq_true, if_false, r_M]
      · exact absurd h46 (by decide)
    · obtain ⟨j, hj, rfl⟩ := b_coin_ex h10 h5
      obtain ⟨q, hq, rfl⟩ := b_in0 6 (by decide) h15
      have hjn := i_n_n (j := j) (by omega)
      have hqn := i_n_n (j := q) (by omega)
      refine z_iload3 F dX5_change_18 ?_
      refine z_aload0 F dX5_change_19 ?_
      refine z_getR F M_leasts fX5_22 dX5_change_20 ?_
      refine z_iload2 F dX5_change_23 ?_
      refine z_iald F aM_leasts (q) rfl (by omega) dX5_change_24 ?_
      refine z_aload0 F dX5_change_25 ?_
      refine z_getR F M_mosts fX5_25 dX5_change_26 ?_
      refine z_iload2 F dX5_change_29 ?_
      refine z_iald F aM_mosts (q) rfl (by omega) dX5_change_30 ?_
      rw [show D.1 5 q = D.1 5 q from rfl]
      refine z_callSI3 F (c5_within _ _ _ _) kX5_78 (by decide) (Nat.le_of_ble_eq_true rfl) rfl dX5_change_31 ?_
      refine z_ifb_eq F 41 dX5_change_34 (by decide) (fun h34 => ?_) (fun h34 => ?_)
      · refine z_iconst F 0 dX5_change_41 zv_i_0 ?_
        refine z_istore4 F dX5_change_42 rfl ?_
        refine z_iload4 F dX5_change_44 ?_
        refine z_if_eq F 62 dX5_change_46 (by decide) (fun h46 => ?_) (fun h46 => ?_)
        · refine z_aload0 F dX5_change_62 ?_
          refine z_ldc F (-1000001) dX5_change_63 zw_721 ?_
          refine z_callVI1 F (c5_finding _ _ 0 (by decide) (by decide)) kX5_93 (by decide) ocM (Nat.le_of_ble_eq_true rfl) rfl dX5_change_65 ?_
          refine hR _ _ _ _ dX5_change_68 rfl ?_
          rw [z_cM_may hc q hq] at h34
          refine ⟨?_, ?_⟩
          · simp only [o_change, h34, Bool.and_false, Bool.false_and, Bool.false_eq_true, if_false]; decide
          · simp only [o_change, h34, Bool.and_false, Bool.false_and, Bool.false_eq_true, if_false, r_M]
        · exact absurd h46 (by decide)
      · refine z_iconst F 1 dX5_change_37 zv_i_1 ?_
        refine z_goto F 42 dX5_change_38 (by decide) ?_
        refine z_istore4 F dX5_change_42 rfl ?_
        refine z_iload4 F dX5_change_44 ?_
        refine z_if_eq F 62 dX5_change_46 (by decide) (fun h46 => ?_) (fun h46 => ?_)
        · exact absurd h46 (by decide)
        · refine z_aload0 F dX5_change_49 ?_
          refine z_iload1 F dX5_change_50 ?_
          refine z_iload2 F dX5_change_51 ?_
          refine z_callSI2 F (c5_at _ (j) q) kX5_82 (by decide) (Nat.le_of_ble_eq_true rfl) rfl dX5_change_52 ?_
          refine z_iload3 F dX5_change_55 ?_
          refine z_callVI2 F (c5_become _ (16 + 8 * j + q) _ (by omega)) kX5_129 (by decide) ocM (Nat.le_of_ble_eq_true rfl) rfl dX5_change_56 ?_
          refine z_goto F 68 dX5_change_59 (by decide) ?_
          refine hR _ _ _ _ dX5_change_68 rfl ?_
          rw [z_cM_may hc q hq] at h34
          simp only [o_change, h5, h34, Bool.and_self, if_true, hjn, hqn]
          exact ⟨rfl, rfl⟩
set_option maxHeartbeats 4000000 in
set_option maxRecDepth 20000 in
theorem c5_put (D : zD) (c pl : Int32) {N : Nat} (hN : D.1 1 4 = nI N) (h10 : N ≤ 10) : z_CI SM zT yX5_put cX5_put 3 .int 2 [.ref 0, .int c, .int pl] D (z_eq (r_ans (o_put (D.1 1) N c pl)) (r_M D (o_put (D.1 1) N c pl))) := by
  refine z_startI SM_ok (by decide +kernel) (fun v hv => by simp at hv; rcases hv with rfl | rfl | rfl <;> rfl) (Nat.le_of_ble_eq_true rfl) (fun X F hR => ?_)
  show z_J X SM 0 [some (.ref 0), some (.int c), some (.int pl)] [] D
  refine z_aload0 F dX5_put_0 ?_
  refine z_iload1 F dX5_put_1 ?_
  refine z_callVI1 F (c5_isCoin _ _ hN h10) kX5_120 (by decide) ocM (Nat.le_of_ble_eq_true rfl) rfl dX5_put_2 ?_
  refine z_ifb_eq F 24 dX5_put_5 (by decide) (fun h5 => ?_) (fun h5 => ?_)
  · refine z_aload0 F dX5_put_24 ?_
    refine z_ldc F (-1000001) dX5_put_25 zw_721 ?_
    refine z_callVI1 F (c5_finding _ _ 0 (by decide) (by decide)) kX5_93 (by decide) ocM (Nat.le_of_ble_eq_true rfl) rfl dX5_put_27 ?_
    refine hR _ _ _ _ dX5_put_30 rfl ?_
    simp only [o_put, h5, Bool.false_eq_true, if_true, if_false, Bool.and_true, Bool.true_and, Bool.and_false, Bool.false_and, Bool.and_self, and_self]; first | exact ⟨rfl, rfl⟩ | exact ⟨by decide, rfl⟩ | exact ⟨by decide, z_sm_r _⟩ | exact ⟨rfl, z_sm_r _⟩
  · refine z_iload2 F dX5_put_8 ?_
    refine z_callSI1 F (c5_isPlace _ _) kX5_132 (by decide) (Nat.le_of_ble_eq_true rfl) rfl dX5_put_9 ?_
    refine z_ifb_eq F 24 dX5_put_12 (by decide) (fun h12 => ?_) (fun h12 => ?_)
    · refine z_aload0 F dX5_put_24 ?_
      refine z_ldc F (-1000001) dX5_put_25 zw_721 ?_
      refine z_callVI1 F (c5_finding _ _ 0 (by decide) (by decide)) kX5_93 (by decide) ocM (Nat.le_of_ble_eq_true rfl) rfl dX5_put_27 ?_
      refine hR _ _ _ _ dX5_put_30 rfl ?_
      simp only [o_put, h5, h12, Bool.false_eq_true, if_true, if_false, Bool.and_true, Bool.true_and, Bool.and_false, Bool.false_and, Bool.and_self, and_self]; first | exact ⟨rfl, rfl⟩ | exact ⟨by decide, rfl⟩ | exact ⟨by decide, z_sm_r _⟩ | exact ⟨rfl, z_sm_r _⟩
    · obtain ⟨j, hj, rfl⟩ := b_coin_ex h10 h5
      have hjn := i_n_n (j := j) (by omega)
      refine z_aload0 F dX5_put_15 ?_
      refine z_iload1 F dX5_put_16 ?_
      refine z_iload2 F dX5_put_17 ?_
      refine z_callVI2 F (c5_goesTo _ (j) _ (by omega)) kX5_86 (by decide) ocM (Nat.le_of_ble_eq_true rfl) rfl dX5_put_18 ?_
      refine z_goto F 30 dX5_put_21 (by decide) ?_
      refine hR _ _ _ _ dX5_put_30 rfl ?_
      simp only [o_put, h5, h12, hjn, Bool.false_eq_true, if_true, if_false, Bool.and_true, Bool.true_and, Bool.and_false, Bool.false_and, Bool.and_self, and_self]; first | exact ⟨rfl, rfl⟩ | exact ⟨by decide, rfl⟩ | exact ⟨by decide, z_sm_r _⟩ | exact ⟨rfl, z_sm_r _⟩
set_option maxHeartbeats 4000000 in
set_option maxRecDepth 20000 in
theorem c5_rule (D : zD) (x v : Int32) : z_CI SM zT yX5_rule cX5_rule 4 .int 2 [.ref 0, .int x, .int v] D (z_eq (r_ans (o_rule (D.1 1) x v)) (r_M D (o_rule (D.1 1) x v))) := by
  refine z_startI SM_ok (by decide +kernel) (fun v hv => by simp at hv; rcases hv with rfl | rfl | rfl <;> rfl) (Nat.le_of_ble_eq_true rfl) (fun X F hR => ?_)
  show z_J X SM 0 [some (.ref 0), some (.int x), some (.int v), none] [] D
  refine z_iload1 F dX5_rule_0 ?_
  refine z_iconst F 0 dX5_rule_1 zv_i_0 ?_
  refine z_iconst F 2 dX5_rule_2 zv_i_2 ?_
  refine z_callSI3 F (c5_within _ _ _ _) kX5_78 (by decide) (Nat.le_of_ble_eq_true rfl) rfl dX5_rule_3 ?_
  refine z_ifb_eq F 33 dX5_rule_6 (by decide) (fun h6 => ?_) (fun h6 => ?_)
  · refine z_iconst F 0 dX5_rule_33 zv_i_0 ?_
    refine z_istore3 F dX5_rule_34 rfl ?_
    refine z_iload3 F dX5_rule_35 ?_
    refine z_if_eq F 50 dX5_rule_36 (by decide) (fun h36 => ?_) (fun h36 => ?_)
    · refine z_aload0 F dX5_rule_50 ?_
      refine z_ldc F (-1000001) dX5_rule_51 zw_721 ?_
      refine z_callVI1 F (c5_finding _ _ 0 (by decide) (by decide)) kX5_93 (by decide) ocM (Nat.le_of_ble_eq_true rfl) rfl dX5_rule_53 ?_
      refine hR _ _ _ _ dX5_rule_56 rfl ?_
      simp only [o_rule, h6, Bool.false_eq_true, if_true, if_false, Bool.and_true, Bool.true_and, Bool.and_false, Bool.false_and, Bool.and_self, and_self]; first | exact ⟨rfl, rfl⟩ | exact ⟨by decide, rfl⟩ | exact ⟨by decide, z_sm_r _⟩ | exact ⟨rfl, z_sm_r _⟩
    · exact absurd h36 (by decide)
  · refine z_iload2 F dX5_rule_9 ?_
    refine z_iconst F 0 dX5_rule_10 zv_i_0 ?_
    refine z_iload1 F dX5_rule_11 ?_
    refine z_iconst F 2 dX5_rule_12 zv_i_2 ?_
    refine z_ic_ne F 21 dX5_rule_13 (by decide) (fun h13 => ?_) (fun h13 => ?_)
    · refine z_bipush F 99 dX5_rule_21 zv_b_99 ?_
      refine z_callSI3 F (c5_within _ _ _ _) kX5_78 (by decide) (Nat.le_of_ble_eq_true rfl) rfl dX5_rule_23 ?_
      refine z_ifb_eq F 33 dX5_rule_26 (by decide) (fun h26 => ?_) (fun h26 => ?_)
      · refine z_iconst F 0 dX5_rule_33 zv_i_0 ?_
        refine z_istore3 F dX5_rule_34 rfl ?_
        refine z_iload3 F dX5_rule_35 ?_
        refine z_if_eq F 50 dX5_rule_36 (by decide) (fun h36 => ?_) (fun h36 => ?_)
        · refine z_aload0 F dX5_rule_50 ?_
          refine z_ldc F (-1000001) dX5_rule_51 zw_721 ?_
          refine z_callVI1 F (c5_finding _ _ 0 (by decide) (by decide)) kX5_93 (by decide) ocM (Nat.le_of_ble_eq_true rfl) rfl dX5_rule_53 ?_
          refine hR _ _ _ _ dX5_rule_56 rfl ?_
          first | (simp only [o_rule, h6, h26, if_pos h13, Bool.false_eq_true, if_true, if_false, Bool.and_true, Bool.true_and, Bool.and_false, Bool.false_and, Bool.and_self, and_self]; first | exact ⟨rfl, rfl⟩ | exact ⟨by decide, rfl⟩ | exact ⟨by decide, z_sm_r _⟩ | exact ⟨rfl, z_sm_r _⟩) | (simp only [o_rule, h6, h26, if_neg h13, Bool.false_eq_true, if_true, if_false, Bool.and_true, Bool.true_and, Bool.and_false, Bool.false_and, Bool.and_self, and_self]; first | exact ⟨rfl, rfl⟩ | exact ⟨by decide, rfl⟩ | exact ⟨by decide, z_sm_r _⟩ | exact ⟨rfl, z_sm_r _⟩)
        · exact absurd h36 (by decide)
      · refine z_iconst F 1 dX5_rule_29 zv_i_1 ?_
        refine z_goto F 34 dX5_rule_30 (by decide) ?_
        refine z_istore3 F dX5_rule_34 rfl ?_
        refine z_iload3 F dX5_rule_35 ?_
        refine z_if_eq F 50 dX5_rule_36 (by decide) (fun h36 => ?_) (fun h36 => ?_)
        · exact absurd h36 (by decide)
        · obtain ⟨q, hq, rfl⟩ := b_in0 2 (by decide) h6
          have hqn := i_n_n (j := q) (by omega)
          refine z_aload0 F dX5_rule_39 ?_
          refine z_iconst F 1 dX5_rule_40 zv_i_1 ?_
          refine z_iload1 F dX5_rule_41 ?_
          refine z_iadd F dX5_rule_42 ?_
          refine z_iload2 F dX5_rule_43 ?_
          refine z_callVI2 F (by have h := c5_become D (1 + q) v (by omega); rw [← nI_add] at h; exact h) kX5_129 (by decide) ocM (Nat.le_of_ble_eq_true rfl) rfl dX5_rule_44 ?_
          refine z_goto F 56 dX5_rule_47 (by decide) ?_
          refine hR _ _ _ _ dX5_rule_56 rfl ?_
          first | (simp only [o_rule, h6, h26, hqn, if_pos h13, Bool.false_eq_true, if_true, if_false, Bool.and_true, Bool.true_and, Bool.and_false, Bool.false_and, Bool.and_self, and_self]; first | exact ⟨rfl, rfl⟩ | exact ⟨by decide, rfl⟩ | exact ⟨by decide, z_sm_r _⟩ | exact ⟨rfl, z_sm_r _⟩) | (simp only [o_rule, h6, h26, hqn, if_neg h13, Bool.false_eq_true, if_true, if_false, Bool.and_true, Bool.true_and, Bool.and_false, Bool.false_and, Bool.and_self, and_self]; first | exact ⟨rfl, rfl⟩ | exact ⟨by decide, rfl⟩ | exact ⟨by decide, z_sm_r _⟩ | exact ⟨rfl, z_sm_r _⟩)
    · refine z_bipush F 7 dX5_rule_16 zv_b_7 ?_
      refine z_goto F 23 dX5_rule_18 (by decide) ?_
      refine z_callSI3 F (c5_within _ _ _ _) kX5_78 (by decide) (Nat.le_of_ble_eq_true rfl) rfl dX5_rule_23 ?_
      refine z_ifb_eq F 33 dX5_rule_26 (by decide) (fun h26 => ?_) (fun h26 => ?_)
      · refine z_iconst F 0 dX5_rule_33 zv_i_0 ?_
        refine z_istore3 F dX5_rule_34 rfl ?_
        refine z_iload3 F dX5_rule_35 ?_
        refine z_if_eq F 50 dX5_rule_36 (by decide) (fun h36 => ?_) (fun h36 => ?_)
        · refine z_aload0 F dX5_rule_50 ?_
          refine z_ldc F (-1000001) dX5_rule_51 zw_721 ?_
          refine z_callVI1 F (c5_finding _ _ 0 (by decide) (by decide)) kX5_93 (by decide) ocM (Nat.le_of_ble_eq_true rfl) rfl dX5_rule_53 ?_
          refine hR _ _ _ _ dX5_rule_56 rfl ?_
          first | (simp only [o_rule, h6, h26, if_pos h13, Bool.false_eq_true, if_true, if_false, Bool.and_true, Bool.true_and, Bool.and_false, Bool.false_and, Bool.and_self, and_self]; first | exact ⟨rfl, rfl⟩ | exact ⟨by decide, rfl⟩ | exact ⟨by decide, z_sm_r _⟩ | exact ⟨rfl, z_sm_r _⟩) | (simp only [o_rule, h6, h26, if_neg h13, Bool.false_eq_true, if_true, if_false, Bool.and_true, Bool.true_and, Bool.and_false, Bool.false_and, Bool.and_self, and_self]; first | exact ⟨rfl, rfl⟩ | exact ⟨by decide, rfl⟩ | exact ⟨by decide, z_sm_r _⟩ | exact ⟨rfl, z_sm_r _⟩)
        · exact absurd h36 (by decide)
      · refine z_iconst F 1 dX5_rule_29 zv_i_1 ?_
        refine z_goto F 34 dX5_rule_30 (by decide) ?_
        refine z_istore3 F dX5_rule_34 rfl ?_
        refine z_iload3 F dX5_rule_35 ?_
        refine z_if_eq F 50 dX5_rule_36 (by decide) (fun h36 => ?_) (fun h36 => ?_)
        · exact absurd h36 (by decide)
        · obtain ⟨q, hq, rfl⟩ := b_in0 2 (by decide) h6
          have hqn := i_n_n (j := q) (by omega)
          refine z_aload0 F dX5_rule_39 ?_
          refine z_iconst F 1 dX5_rule_40 zv_i_1 ?_
          refine z_iload1 F dX5_rule_41 ?_
          refine z_iadd F dX5_rule_42 ?_
          refine z_iload2 F dX5_rule_43 ?_
          refine z_callVI2 F (by have h := c5_become D (1 + q) v (by omega); rw [← nI_add] at h; exact h) kX5_129 (by decide) ocM (Nat.le_of_ble_eq_true rfl) rfl dX5_rule_44 ?_
          refine z_goto F 56 dX5_rule_47 (by decide) ?_
          refine hR _ _ _ _ dX5_rule_56 rfl ?_
          first | (simp only [o_rule, h6, h26, hqn, if_pos h13, Bool.false_eq_true, if_true, if_false, Bool.and_true, Bool.true_and, Bool.and_false, Bool.false_and, Bool.and_self, and_self]; first | exact ⟨rfl, rfl⟩ | exact ⟨by decide, rfl⟩ | exact ⟨by decide, z_sm_r _⟩ | exact ⟨rfl, z_sm_r _⟩) | (simp only [o_rule, h6, h26, hqn, if_neg h13, Bool.false_eq_true, if_true, if_false, Bool.and_true, Bool.true_and, Bool.and_false, Bool.false_and, Bool.and_self, and_self]; first | exact ⟨rfl, rfl⟩ | exact ⟨by decide, rfl⟩ | exact ⟨by decide, z_sm_r _⟩ | exact ⟨rfl, z_sm_r _⟩)
set_option maxHeartbeats 4000000 in
set_option maxRecDepth 20000 in
theorem c5_sew (D : zD) : z_CI SM zT yX5_sew cX5_sew 1 .int 1 [.ref 0] D (z_eq (D.1 1 1) (z_row D 1 (upd (D.1 1) 1 0))) := by
  refine z_startI SM_ok (by decide +kernel) (fun v hv => by simp at hv; subst hv; rfl) (Nat.le_of_ble_eq_true rfl) (fun X F hR => ?_)
  show z_J X SM 0 [some (.ref 0)] [] D
  refine z_aload0 F dX5_sew_0 ?_
  refine z_iconst F 1 dX5_sew_1 zv_i_1 ?_
  refine z_iconst F 0 dX5_sew_2 zv_i_0 ?_
  refine z_callVI2 F (c5_become _ (1) _ (by omega)) kX5_129 (by decide) ocM (Nat.le_of_ble_eq_true rfl) rfl dX5_sew_3 ?_
  refine hR _ _ _ _ dX5_sew_6 rfl ?_
  exact ⟨rfl, rfl⟩
set_option maxHeartbeats 4000000 in
set_option maxRecDepth 20000 in
theorem c5_lie (D : zD) (pl : Int32) {N : Nat} (hN : D.1 1 4 = nI N) (h10 : N ≤ 10) : z_CI SM zT yX5_lie cX5_lie 2 .int 4 [.ref 0, .int pl] D (z_qM D (o_lie (D.1 1) N pl)) := by
  refine z_startI SM_ok (by decide +kernel) (fun v hv => by simp at hv; rcases hv with rfl | rfl <;> rfl) (Nat.le_of_ble_eq_true rfl) (fun X F hR => ?_)
  show z_J X SM 0 [some (.ref 0), some (.int pl)] [] D
  refine z_iload1 F dX5_lie_0 ?_
  refine z_callSI1 F (c5_isPlace _ _) kX5_132 (by decide) (Nat.le_of_ble_eq_true rfl) rfl dX5_lie_1 ?_
  refine z_ifb_eq F 15 dX5_lie_4 (by decide) (fun h4 => ?_) (fun h4 => ?_)
  · refine z_aload0 F dX5_lie_15 ?_
    refine z_ldc F (-1000001) dX5_lie_16 zw_721 ?_
    refine z_callVI1 F (c5_finding _ _ 0 (by decide) (by decide)) kX5_93 (by decide) ocM (Nat.le_of_ble_eq_true rfl) rfl dX5_lie_18 ?_
    refine hR _ _ _ _ dX5_lie_21 rfl ?_
    simp only [o_lie, h4, Bool.false_eq_true, if_true, if_false, Bool.and_true, Bool.true_and, Bool.and_false, Bool.false_and, Bool.and_self, and_self]; first | exact ⟨rfl, rfl⟩ | exact ⟨by decide, rfl⟩ | exact ⟨by decide, z_sm_r _⟩ | exact ⟨rfl, z_sm_r _⟩
  · refine z_aload0 F dX5_lie_7 ?_
    refine z_iload1 F dX5_lie_8 ?_
    refine z_callVI1 F (c5_lieIn _ _ hN h10) kX5_141 (by decide) ocM (Nat.le_of_ble_eq_true rfl) rfl dX5_lie_9 ?_
    refine z_goto F 21 dX5_lie_12 (by decide) ?_
    refine hR _ _ _ _ dX5_lie_21 rfl ?_
    simp only [o_lie, h4, Bool.false_eq_true, if_true, if_false, Bool.and_true, Bool.true_and, Bool.and_false, Bool.false_and, Bool.and_self, and_self]; first | exact ⟨rfl, rfl⟩ | exact ⟨by decide, rfl⟩ | exact ⟨by decide, z_sm_r _⟩ | exact ⟨rfl, z_sm_r _⟩
set_option maxHeartbeats 4000000 in
set_option maxRecDepth 20000 in
theorem c5_pence (D : zD) (pl : Int32) {N : Nat} (hN : D.1 1 4 = nI N) (h10 : N ≤ 10) : z_CI SM zT yX5_pence cX5_pence 2 .int 4 [.ref 0, .int pl] D (z_qM D (o_pence (D.1 1) N pl)) := by
  refine z_startI SM_ok (by decide +kernel) (fun v hv => by simp at hv; rcases hv with rfl | rfl <;> rfl) (Nat.le_of_ble_eq_true rfl) (fun X F hR => ?_)
  show z_J X SM 0 [some (.ref 0), some (.int pl)] [] D
  refine z_iload1 F dX5_pence_0 ?_
  refine z_callSI1 F (c5_isPlace _ _) kX5_132 (by decide) (Nat.le_of_ble_eq_true rfl) rfl dX5_pence_1 ?_
  refine z_ifb_eq F 20 dX5_pence_4 (by decide) (fun h4 => ?_) (fun h4 => ?_)
  · refine z_aload0 F dX5_pence_20 ?_
    refine z_ldc F (-1000001) dX5_pence_21 zw_721 ?_
    refine z_callVI1 F (c5_finding _ _ 0 (by decide) (by decide)) kX5_93 (by decide) ocM (Nat.le_of_ble_eq_true rfl) rfl dX5_pence_23 ?_
    refine hR _ _ _ _ dX5_pence_26 rfl ?_
    simp only [o_pence, h4, Bool.false_eq_true, if_true, if_false, Bool.and_true, Bool.true_and, Bool.and_false, Bool.false_and, Bool.and_self, and_self]; first | exact ⟨rfl, rfl⟩ | exact ⟨by decide, rfl⟩ | exact ⟨by decide, z_sm_r _⟩ | exact ⟨rfl, z_sm_r _⟩
  · refine z_aload0 F dX5_pence_7 ?_
    refine z_aload0 F dX5_pence_8 ?_
    refine z_iload1 F dX5_pence_9 ?_
    refine z_callVI1 F (c5_lieIn _ _ hN h10) kX5_141 (by decide) ocM (Nat.le_of_ble_eq_true rfl) rfl dX5_pence_10 ?_
    refine z_iconst F 3 dX5_pence_13 zv_i_3 ?_
    refine z_callVI2 F (c5_sumOf _ 3 _ hN h10 (by decide)) kX5_144 (by decide) ocM (Nat.le_of_ble_eq_true rfl) rfl dX5_pence_14 ?_
    refine z_goto F 26 dX5_pence_17 (by decide) ?_
    refine hR _ _ _ _ dX5_pence_26 rfl ?_
    simp only [o_pence, h4, Bool.false_eq_true, if_true, if_false, Bool.and_true, Bool.true_and, Bool.and_false, Bool.false_and, Bool.and_self, and_self]; first | exact ⟨rfl, rfl⟩ | exact ⟨by decide, rfl⟩ | exact ⟨by decide, z_sm_r _⟩ | exact ⟨rfl, z_sm_r _⟩
set_option maxHeartbeats 4000000 in
set_option maxRecDepth 20000 in
theorem c5_steps (D : zD) (x : Int32) {N : Nat} (hN : D.1 1 4 = nI N) (h10 : N ≤ 10) : z_CI SM zT yX5_steps cX5_steps 2 .int 6 [.ref 0, .int x] D (z_eq (r_ans (o_steps (D.1 1) N x)) (r_M D (o_steps (D.1 1) N x))) := by
  refine z_startI SM_ok (by decide +kernel) (fun v hv => by simp at hv; rcases hv with rfl | rfl <;> rfl) (Nat.le_of_ble_eq_true rfl) (fun X F hR => ?_)
  show z_J X SM 0 [some (.ref 0), some (.int x)] [] D
  refine z_iload1 F dX5_steps_0 ?_
  refine z_iconst F 1 dX5_steps_1 zv_i_1 ?_
  refine z_bipush F 100 dX5_steps_2 zv_b_100 ?_
  refine z_callSI3 F (c5_within _ _ _ _) kX5_78 (by decide) (Nat.le_of_ble_eq_true rfl) rfl dX5_steps_4 ?_
  refine z_ifb_ne F 17 dX5_steps_7 (by decide) (fun h7 => ?_) (fun h7 => ?_)
  · refine z_aload0 F dX5_steps_17 ?_
    refine z_iload1 F dX5_steps_18 ?_
    refine z_callVI1 F (c5_isTooLate _ _) kX5_166 (by decide) ocM (Nat.le_of_ble_eq_true rfl) rfl dX5_steps_19 ?_
    refine z_ifb_eq F 34 dX5_steps_22 (by decide) (fun h22 => ?_) (fun h22 => ?_)
    · obtain ⟨q, hq1, hq, rfl⟩ := b_in1 100 (by decide) h7
      have hqn := i_n_n (j := q) (by omega)
      simp only [decide_eq_false_iff_not] at h22
      refine z_aload0 F dX5_steps_34 ?_
      refine z_iload1 F dX5_steps_35 ?_
      refine z_callVI1 F (c5_stepsGo _ (q) hN h10 (by omega)) kX5_170 (by decide) ocM (Nat.le_of_ble_eq_true rfl) rfl dX5_steps_36 ?_
      refine hR _ _ _ _ dX5_steps_39 rfl ?_
      simp only [o_steps, h7, h22, hqn, Bool.false_eq_true, if_true, if_false, Bool.and_true, Bool.true_and, Bool.and_false, Bool.false_and, Bool.and_self, and_self]; first | exact ⟨rfl, rfl⟩ | exact ⟨by decide, rfl⟩ | exact ⟨by decide, z_sm_r _⟩ | exact ⟨rfl, z_sm_r _⟩
    · simp only [decide_eq_true_eq] at h22
      refine z_aload0 F dX5_steps_25 ?_
      refine z_ldc F (-1000005) dX5_steps_26 zw_810 ?_
      refine z_callVI1 F (c5_finding _ _ 4 (by decide) (by decide)) kX5_93 (by decide) ocM (Nat.le_of_ble_eq_true rfl) rfl dX5_steps_28 ?_
      refine z_goto F 39 dX5_steps_31 (by decide) ?_
      refine hR _ _ _ _ dX5_steps_39 rfl ?_
      simp only [o_steps, h7, h22, Bool.false_eq_true, if_true, if_false, Bool.and_true, Bool.true_and, Bool.and_false, Bool.false_and, Bool.and_self, and_self]; first | exact ⟨rfl, rfl⟩ | exact ⟨by decide, rfl⟩ | exact ⟨by decide, z_sm_r _⟩ | exact ⟨rfl, z_sm_r _⟩
  · refine z_aload0 F dX5_steps_10 ?_
    refine z_ldc F (-1000001) dX5_steps_11 zw_721 ?_
    refine z_callVI1 F (c5_finding _ _ 0 (by decide) (by decide)) kX5_93 (by decide) ocM (Nat.le_of_ble_eq_true rfl) rfl dX5_steps_13 ?_
    refine hR _ _ _ _ dX5_steps_16 rfl ?_
    simp only [o_steps, h7, Bool.false_eq_true, if_true, if_false, Bool.and_true, Bool.true_and, Bool.and_false, Bool.false_and, Bool.and_self, and_self]; first | exact ⟨rfl, rfl⟩ | exact ⟨by decide, rfl⟩ | exact ⟨by decide, z_sm_r _⟩ | exact ⟨rfl, z_sm_r _⟩
set_option maxHeartbeats 4000000 in
set_option maxRecDepth 20000 in
theorem c5_now (D : zD) (x : Int32) {N : Nat} (hN : D.1 1 4 = nI N) (h10 : N ≤ 10) : z_CI SM zT yX5_now cX5_now 2 .int 4 [.ref 0, .int x] D (z_qM D (o_now (D.1 1) N x)) := by
  refine z_startI SM_ok (by decide +kernel) (fun v hv => by simp at hv; rcases hv with rfl | rfl <;> rfl) (Nat.le_of_ble_eq_true rfl) (fun X F hR => ?_)
  show z_J X SM 0 [some (.ref 0), some (.int x)] [] D
  refine z_iload1 F dX5_now_0 ?_
  refine z_tsw_0_6 rfl (fun h1 => ?_) (fun h1 => ?_) (fun h1 => ?_) (fun h1 => ?_) (fun h1 => ?_) (fun h1 => ?_) (fun h1 => ?_) (fun h1 => ?_)
  · refine z_tabIn F 44 dX5_now_1 (by rw [h1]; decide) (by rw [h1]; decide) (by rw [h1]; rfl) (by decide) ?_
    refine z_aload0 F dX5_now_44 ?_
    refine z_getR F M_now fX5_9 dX5_now_45 ?_
    refine z_iload1 F dX5_now_48 ?_
    refine z_iald F aM_now (i_n x) (by rw [h1]; rfl) (by rw [h1]; decide) dX5_now_49 ?_
    refine hR _ _ _ _ dX5_now_50 rfl ?_
    rw [h1]
    exact ⟨rfl, z_sm_r _⟩
  · refine z_tabIn F 44 dX5_now_1 (by rw [h1]; decide) (by rw [h1]; decide) (by rw [h1]; rfl) (by decide) ?_
    refine z_aload0 F dX5_now_44 ?_
    refine z_getR F M_now fX5_9 dX5_now_45 ?_
    refine z_iload1 F dX5_now_48 ?_
    refine z_iald F aM_now (i_n x) (by rw [h1]; rfl) (by rw [h1]; decide) dX5_now_49 ?_
    refine hR _ _ _ _ dX5_now_50 rfl ?_
    rw [h1]
    exact ⟨rfl, z_sm_r _⟩
  · refine z_tabIn F 44 dX5_now_1 (by rw [h1]; decide) (by rw [h1]; decide) (by rw [h1]; rfl) (by decide) ?_
    refine z_aload0 F dX5_now_44 ?_
    refine z_getR F M_now fX5_9 dX5_now_45 ?_
    refine z_iload1 F dX5_now_48 ?_
    refine z_iald F aM_now (i_n x) (by rw [h1]; rfl) (by rw [h1]; decide) dX5_now_49 ?_
    refine hR _ _ _ _ dX5_now_50 rfl ?_
    rw [h1]
    exact ⟨rfl, z_sm_r _⟩
  · refine z_tabIn F 44 dX5_now_1 (by rw [h1]; decide) (by rw [h1]; decide) (by rw [h1]; rfl) (by decide) ?_
    refine z_aload0 F dX5_now_44 ?_
    refine z_getR F M_now fX5_9 dX5_now_45 ?_
    refine z_iload1 F dX5_now_48 ?_
    refine z_iald F aM_now (i_n x) (by rw [h1]; rfl) (by rw [h1]; decide) dX5_now_49 ?_
    refine hR _ _ _ _ dX5_now_50 rfl ?_
    rw [h1]
    exact ⟨rfl, z_sm_r _⟩
  · refine z_tabIn F 51 dX5_now_1 (by rw [h1]; decide) (by rw [h1]; decide) (by rw [h1]; rfl) (by decide) ?_
    refine z_aload0 F dX5_now_51 ?_
    refine z_callVI0 F (c5_clinks _ hN h10) kX5_173 (by decide) ocM (Nat.le_of_ble_eq_true rfl) rfl dX5_now_52 ?_
    refine hR _ _ _ _ dX5_now_55 rfl ?_
    rw [h1]
    exact ⟨rfl, z_sm_r _⟩
  · refine z_tabIn F 56 dX5_now_1 (by rw [h1]; decide) (by rw [h1]; decide) (by rw [h1]; rfl) (by decide) ?_
    refine z_aload0 F dX5_now_56 ?_
    refine z_aload0 F dX5_now_57 ?_
    refine z_iconst F 0 dX5_now_58 zv_i_0 ?_
    refine z_callVI1 F (c5_lieIn _ _ hN h10) kX5_141 (by decide) ocM (Nat.le_of_ble_eq_true rfl) rfl dX5_now_59 ?_
    refine z_aload0 F dX5_now_62 ?_
    refine z_iconst F 1 dX5_now_63 zv_i_1 ?_
    refine z_callVI1 F (c5_lieIn _ _ hN h10) kX5_141 (by decide) ocM (Nat.le_of_ble_eq_true rfl) rfl dX5_now_64 ?_
    refine z_ior F dX5_now_67 ?_
    refine z_iconst F 2 dX5_now_68 zv_i_2 ?_
    refine z_callVI2 F (c5_sumOf _ 2 _ hN h10 (by decide)) kX5_144 (by decide) ocM (Nat.le_of_ble_eq_true rfl) rfl dX5_now_69 ?_
    refine hR _ _ _ _ dX5_now_72 rfl ?_
    rw [h1]
    exact ⟨rfl, z_sm_r _⟩
  · refine z_tabIn F 73 dX5_now_1 (by rw [h1]; decide) (by rw [h1]; decide) (by rw [h1]; rfl) (by decide) ?_
    refine z_aload0 F dX5_now_73 ?_
    refine z_aload0 F dX5_now_74 ?_
    refine z_iconst F 3 dX5_now_75 zv_i_3 ?_
    refine z_callVI1 F (c5_lieIn _ _ hN h10) kX5_141 (by decide) ocM (Nat.le_of_ble_eq_true rfl) rfl dX5_now_76 ?_
    refine z_iconst F 2 dX5_now_79 zv_i_2 ?_
    refine z_callVI2 F (c5_sumOf _ 2 _ hN h10 (by decide)) kX5_144 (by decide) ocM (Nat.le_of_ble_eq_true rfl) rfl dX5_now_80 ?_
    refine hR _ _ _ _ dX5_now_83 rfl ?_
    rw [h1]
    exact ⟨rfl, z_sm_r _⟩
  · refine z_tabOut F 84 dX5_now_1 h1 (by decide) ?_
    refine z_aload0 F dX5_now_84 ?_
    refine z_ldc F (-1000001) dX5_now_85 zw_721 ?_
    refine z_callVI1 F (c5_finding _ _ 0 (by decide) (by decide)) kX5_93 (by decide) ocM (Nat.le_of_ble_eq_true rfl) rfl dX5_now_87 ?_
    refine hR _ _ _ _ dX5_now_90 rfl ?_
    obtain ⟨n0, n1, n2, n3, n4, n5, n6⟩ := z_out06 h1
    simp only [o_now, n0, n1, n2, n3, n4, n5, n6, Bool.false_eq_true, if_true, if_false, Bool.and_true, Bool.true_and, Bool.and_false, Bool.false_and, Bool.and_self, and_self]; first | exact ⟨rfl, rfl⟩ | exact ⟨by decide, rfl⟩ | exact ⟨by decide, z_sm_r _⟩ | exact ⟨rfl, z_sm_r _⟩
