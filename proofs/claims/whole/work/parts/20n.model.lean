set_option maxHeartbeats 1000000 in
set_option maxRecDepth 20000 in
theorem c5_isSpot (D : zD) (k : Int32) : z_CI SM zT yX5_isSpot cX5_isSpot 1 .boolean 1 [.int k] D (z_eq (z_b (b_in k 0 9)) D) := by
  refine z_startI SM_ok (by decide +kernel) (fun v hv => by simp at hv; subst hv; rfl) (Nat.le_of_ble_eq_true rfl) (fun X F hR => ?_)
  show z_J X SM 0 [some (.int k)] [] D
  refine z_iload0 F dX5_isSpot_0 ?_
  refine z_iconst F 0 dX5_isSpot_1 zv_i_0 ?_
  refine z_bipush F 9 dX5_isSpot_2 zv_b_9 ?_
  refine z_callSI3 F (c5_within _ _ _ _) kX5_78 (by decide) (Nat.le_of_ble_eq_true rfl) rfl dX5_isSpot_4 ?_
  refine hR _ _ _ _ dX5_isSpot_7 (z_narB _) ?_
  exact ⟨rfl, rfl⟩
set_option maxHeartbeats 1000000 in
set_option maxRecDepth 20000 in
theorem c5_isSheet (D : zD) (k : Int32) : z_CI SM zT yX5_isSheet cX5_isSheet 1 .boolean 1 [.int k] D (z_eq (z_b (b_in k 0 3)) D) := by
  refine z_startI SM_ok (by decide +kernel) (fun v hv => by simp at hv; subst hv; rfl) (Nat.le_of_ble_eq_true rfl) (fun X F hR => ?_)
  show z_J X SM 0 [some (.int k)] [] D
  refine z_iload0 F dX5_isSheet_0 ?_
  refine z_iconst F 0 dX5_isSheet_1 zv_i_0 ?_
  refine z_iconst F 3 dX5_isSheet_2 zv_i_3 ?_
  refine z_callSI3 F (c5_within _ _ _ _) kX5_78 (by decide) (Nat.le_of_ble_eq_true rfl) rfl dX5_isSheet_3 ?_
  refine hR _ _ _ _ dX5_isSheet_6 (z_narB _) ?_
  exact ⟨rfl, rfl⟩
set_option maxHeartbeats 1000000 in
set_option maxRecDepth 20000 in
theorem c5_cutTo (D : zD) (v b : Int32) : z_CI SM zT yX5_cutTo cX5_cutTo 2 .int 0 [.int v, .int b] D (z_eq (i_cut v b) D) := by
  refine z_startI SM_ok (by decide +kernel) (fun v hv => by simp at hv; rcases hv with rfl | rfl <;> rfl) (Nat.le_of_ble_eq_true rfl) (fun X F hR => ?_)
  show z_J X SM 0 [some (.int v), some (.int b)] [] D
  refine z_iload1 F dX5_cutTo_0 ?_
  refine z_bipush F 8 dX5_cutTo_1 zv_b_8 ?_
  refine z_ic_ne F 11 dX5_cutTo_3 (by decide) (fun h3 => ?_) (fun h3 => ?_)
  · refine z_iload1 F dX5_cutTo_11 ?_
    refine z_bipush F 16 dX5_cutTo_12 zv_b_16 ?_
    refine z_ic_ne F 22 dX5_cutTo_14 (by decide) (fun h14 => ?_) (fun h14 => ?_)
    · refine z_iload0 F dX5_cutTo_22 ?_
      refine hR _ _ _ _ dX5_cutTo_23 rfl ?_
      exact ⟨by rw [i_cut, if_neg h3, if_neg h14], rfl⟩
    · refine z_iload0 F dX5_cutTo_17 ?_
      refine z_i2s F dX5_cutTo_18 ?_
      refine z_goto F 23 dX5_cutTo_19 (by decide) ?_
      refine hR _ _ _ _ dX5_cutTo_23 rfl ?_
      exact ⟨by rw [i_cut, if_neg h3, if_pos h14], rfl⟩
  · refine z_iload0 F dX5_cutTo_6 ?_
    refine z_i2b F dX5_cutTo_7 ?_
    refine z_goto F 23 dX5_cutTo_8 (by decide) ?_
    refine hR _ _ _ _ dX5_cutTo_23 rfl ?_
    exact ⟨by rw [i_cut, if_pos h3], rfl⟩
set_option maxHeartbeats 1000000 in
set_option maxRecDepth 20000 in
theorem c5_hold (D : zD) (x y : Int32) {N : Nat} (hN : D.1 1 4 = nI N) (h10 : N ≤ 10) : z_CI SM zT yX5_hold cX5_hold 3 .int 2 [.ref 0, .int x, .int y] D (z_eq (r_ans (o_hold (D.1 1) N x y)) (r_M D (o_hold (D.1 1) N x y))) := by
  refine z_startI SM_ok (by decide +kernel) (fun v hv => by simp at hv; rcases hv with rfl | rfl | rfl <;> rfl) (Nat.le_of_ble_eq_true rfl) (fun X F hR => ?_)
  show z_J X SM 0 [some (.ref 0), some (.int x), some (.int y)] [] D
  refine z_iload1 F dX5_hold_0 ?_
  refine z_callSI1 F (c5_isSpot _ _) kX5_313 (by decide) (Nat.le_of_ble_eq_true rfl) rfl dX5_hold_1 ?_
  refine z_ifb_eq F 20 dX5_hold_4 (by decide) (fun h4 => ?_) (fun h4 => ?_)
  · refine z_aload0 F dX5_hold_20 ?_
    refine z_ldc F (-1000001) dX5_hold_21 zw_721 ?_
    refine z_callVI1 F (c5_finding _ _ 0 (by decide) (by decide)) kX5_93 (by decide) ocM (Nat.le_of_ble_eq_true rfl) rfl dX5_hold_23 ?_
    refine hR _ _ _ _ dX5_hold_26 rfl ?_
    simp only [o_hold, h4, Bool.false_eq_true, if_true, if_false, Bool.and_true, Bool.true_and, Bool.and_false, Bool.false_and, Bool.and_self, and_self]; first | exact ⟨rfl, rfl⟩ | exact ⟨by decide, rfl⟩ | exact ⟨by decide, z_sm_r _⟩ | exact ⟨rfl, z_sm_r _⟩ | exact ⟨rfl, z_sm_as _⟩ | exact ⟨by decide, z_sm_fM _ (z_sm_as _)⟩
  · refine z_iload2 F dX5_hold_7 ?_
    refine z_iconst F (-1) dX5_hold_8 zv_i_m1 ?_
    refine z_ic_eq F 27 dX5_hold_9 (by decide) (fun h9 => ?_) (fun h9 => ?_)
    · obtain ⟨j, hj, rfl⟩ := b_in0 9 (by decide) h4
      have hjn := i_n_n (j := j) (by omega)
      refine z_aload0 F dX5_hold_27 ?_
      refine z_getR F M_now fX5_9 dX5_hold_28 ?_
      refine z_bipush F 6 dX5_hold_31 zv_b_6 ?_
      refine z_iload1 F dX5_hold_33 ?_
      refine z_iadd F dX5_hold_34 ?_
      refine z_iload2 F dX5_hold_35 ?_
      refine z_iast F aM_now (6 + j) (nI_add 6 j) (by omega) dX5_hold_36 ?_
      refine z_iconst F 1 dX5_hold_37 zv_i_1 ?_
      refine hR _ _ _ _ dX5_hold_38 rfl ?_
      simp only [o_hold, h4, hjn, decide_eq_true h9, Bool.true_or, Bool.or_true, Bool.false_eq_true, if_true, if_false, Bool.and_true, Bool.true_and, Bool.and_false, Bool.false_and, Bool.and_self, and_self] at *
      exact ⟨rfl, z_up_row _ _ _ _⟩
    · refine z_aload0 F dX5_hold_12 ?_
      refine z_iload2 F dX5_hold_13 ?_
      refine z_callVI1 F (c5_isCoin _ _ hN h10) kX5_120 (by decide) ocM (Nat.le_of_ble_eq_true rfl) rfl dX5_hold_14 ?_
      refine z_ifb_ne F 27 dX5_hold_17 (by decide) (fun h17 => ?_) (fun h17 => ?_)
      · obtain ⟨j, hj, rfl⟩ := b_in0 9 (by decide) h4
        have hjn := i_n_n (j := j) (by omega)
        refine z_aload0 F dX5_hold_27 ?_
        refine z_getR F M_now fX5_9 dX5_hold_28 ?_
        refine z_bipush F 6 dX5_hold_31 zv_b_6 ?_
        refine z_iload1 F dX5_hold_33 ?_
        refine z_iadd F dX5_hold_34 ?_
        refine z_iload2 F dX5_hold_35 ?_
        refine z_iast F aM_now (6 + j) (nI_add 6 j) (by omega) dX5_hold_36 ?_
        refine z_iconst F 1 dX5_hold_37 zv_i_1 ?_
        refine hR _ _ _ _ dX5_hold_38 rfl ?_
        simp only [o_hold, h4, hjn, h17, Bool.true_or, Bool.or_true, Bool.false_eq_true, if_true, if_false, Bool.and_true, Bool.true_and, Bool.and_false, Bool.false_and, Bool.and_self, and_self] at *
        exact ⟨rfl, z_up_row _ _ _ _⟩
      · refine z_aload0 F dX5_hold_20 ?_
        refine z_ldc F (-1000001) dX5_hold_21 zw_721 ?_
        refine z_callVI1 F (c5_finding _ _ 0 (by decide) (by decide)) kX5_93 (by decide) ocM (Nat.le_of_ble_eq_true rfl) rfl dX5_hold_23 ?_
        refine hR _ _ _ _ dX5_hold_26 rfl ?_
        simp only [o_hold, h4, h17, decide_eq_false h9, Bool.or_self, Bool.false_eq_true, if_true, if_false, Bool.and_true, Bool.true_and, Bool.and_false, Bool.false_and, Bool.and_self, and_self]; first | exact ⟨rfl, rfl⟩ | exact ⟨by decide, rfl⟩ | exact ⟨by decide, z_sm_r _⟩ | exact ⟨rfl, z_sm_r _⟩ | exact ⟨rfl, z_sm_as _⟩ | exact ⟨by decide, z_sm_fM _ (z_sm_as _)⟩
set_option maxHeartbeats 1000000 in
set_option maxRecDepth 20000 in
theorem c5_as (D : zD) (x y : Int32) (hsp : ∀ s, s < 10 → D.1 1 (6 + s) = -1 ∨ ∃ j, j < 10 ∧ D.1 1 (6 + s) = nI j) : z_CI SM zT yX5_as cX5_as 4 .int 2 [.ref 0, .int x, .int y] D (z_eq (q_ans (o_as (D.1 1) x y)) (q_M D (o_as (D.1 1) x y))) := by
  refine z_startI SM_ok (by decide +kernel) (fun v hv => by simp at hv; rcases hv with rfl | rfl | rfl <;> rfl) (Nat.le_of_ble_eq_true rfl) (fun X F hR => ?_)
  show z_J X SM 0 [some (.ref 0), some (.int x), some (.int y), none] [] D
  refine z_iload1 F dX5_as_0 ?_
  refine z_callSI1 F (c5_isSpot _ _) kX5_313 (by decide) (Nat.le_of_ble_eq_true rfl) rfl dX5_as_1 ?_
  refine z_ifb_eq F 14 dX5_as_4 (by decide) (fun h4 => ?_) (fun h4 => ?_)
  · refine z_aload0 F dX5_as_14 ?_
    refine z_ldc F (-1000001) dX5_as_15 zw_721 ?_
    refine z_callVI1 F (c5_finding _ _ 0 (by decide) (by decide)) kX5_93 (by decide) ocM (Nat.le_of_ble_eq_true rfl) rfl dX5_as_17 ?_
    refine hR _ _ _ _ dX5_as_20 rfl ?_
    simp only [o_as, h4, Bool.false_eq_true, if_true, if_false, Bool.and_true, Bool.true_and, Bool.and_false, Bool.false_and, Bool.and_self, and_self]; first | exact ⟨rfl, rfl⟩ | exact ⟨by decide, rfl⟩ | exact ⟨by decide, z_sm_r _⟩ | exact ⟨rfl, z_sm_r _⟩ | exact ⟨rfl, z_sm_as _⟩ | exact ⟨by decide, z_sm_fM _ (z_sm_as _)⟩
  · refine z_iload2 F dX5_as_7 ?_
    refine z_callSI1 F (c5_isKind _ _) kX5_89 (by decide) (Nat.le_of_ble_eq_true rfl) rfl dX5_as_8 ?_
    refine z_ifb_ne F 21 dX5_as_11 (by decide) (fun h11 => ?_) (fun h11 => ?_)
    · obtain ⟨j, hj, rfl⟩ := b_in0 9 (by decide) h4
      have hjn := i_n_n (j := j) (by omega)
      refine z_aload0 F dX5_as_21 ?_
      refine z_getR F M_now fX5_9 dX5_as_22 ?_
      refine z_bipush F 6 dX5_as_25 zv_b_6 ?_
      refine z_iload1 F dX5_as_27 ?_
      refine z_iadd F dX5_as_28 ?_
      refine z_iald F aM_now (6 + j) (nI_add 6 j) (by omega) dX5_as_29 ?_
      refine z_istore3 F dX5_as_30 rfl ?_
      refine z_iload3 F dX5_as_31 ?_
      refine z_if_ge F 43 dX5_as_32 (by decide) (fun h32 => ?_) (fun h32 => ?_)
      · have h32n := Int32.not_lt.mpr h32
        obtain ⟨k, hk, ek⟩ : ∃ k, k < 10 ∧ D.1 1 (6 + j) = nI k := (hsp j (by omega)).elim (fun e => absurd h32 (by rw [e]; decide)) (fun e => e)
        have hkn := i_n_n (j := k) (by omega)
        rw [ek]
        refine z_aload0 F dX5_as_43 ?_
        refine z_iload3 F dX5_as_44 ?_
        refine z_iconst F 0 dX5_as_45 zv_i_0 ?_
        refine z_callVI2 F (c5_coinIs _ (k) 0 (by omega) (by decide)) kX5_105 (by decide) ocM (Nat.le_of_ble_eq_true rfl) rfl dX5_as_46 ?_
        refine z_iload2 F dX5_as_49 ?_
        refine z_callSI2 F (c5_isUnder _ _ _) kX5_108 (by decide) (Nat.le_of_ble_eq_true rfl) rfl dX5_as_50 ?_
        refine z_ifb_eq F 60 dX5_as_53 (by decide) (fun h53 => ?_) (fun h53 => ?_)
        · refine z_aload0 F dX5_as_60 ?_
          refine z_ldcw F (-1000003) dX5_as_61 zw_1040 ?_
          refine z_callVI1 F (c5_finding _ _ 2 (by decide) (by decide)) kX5_93 (by decide) ocM (Nat.le_of_ble_eq_true rfl) rfl dX5_as_64 ?_
          refine hR _ _ _ _ dX5_as_67 rfl ?_
          rw [ek] at h32n
          simp only [o_as, h4, h11, hjn, ek, h32n, hkn, h53, Bool.false_eq_true, if_true, if_false, Bool.and_true, Bool.true_and, Bool.and_false, Bool.false_and, Bool.and_self, and_self]; first | exact ⟨rfl, rfl⟩ | exact ⟨by decide, rfl⟩
        · refine z_iload3 F dX5_as_56 ?_
          refine z_goto F 67 dX5_as_57 (by decide) ?_
          refine hR _ _ _ _ dX5_as_67 rfl ?_
          rw [ek] at h32n
          simp only [o_as, h4, h11, hjn, ek, h32n, hkn, h53, Bool.false_eq_true, if_true, if_false, Bool.and_true, Bool.true_and, Bool.and_false, Bool.false_and, Bool.and_self, and_self]; first | exact ⟨rfl, rfl⟩ | exact ⟨by decide, rfl⟩
      · have h32 := Int32.not_le.mp h32
        refine z_aload0 F dX5_as_35 ?_
        refine z_ldcw F (-1000006) dX5_as_36 zw_1039 ?_
        refine z_callVI1 F (c5_finding _ _ 5 (by decide) (by decide)) kX5_93 (by decide) ocM (Nat.le_of_ble_eq_true rfl) rfl dX5_as_39 ?_
        refine hR _ _ _ _ dX5_as_42 rfl ?_
        simp only [o_as, h4, h11, hjn, h32, Bool.false_eq_true, if_true, if_false, Bool.and_true, Bool.true_and, Bool.and_false, Bool.false_and, Bool.and_self, and_self]; first | exact ⟨rfl, rfl⟩ | exact ⟨by decide, rfl⟩ | exact ⟨by decide, z_sm_r _⟩ | exact ⟨rfl, z_sm_r _⟩ | exact ⟨rfl, z_sm_as _⟩ | exact ⟨by decide, z_sm_fM _ (z_sm_as _)⟩
    · refine z_aload0 F dX5_as_14 ?_
      refine z_ldc F (-1000001) dX5_as_15 zw_721 ?_
      refine z_callVI1 F (c5_finding _ _ 0 (by decide) (by decide)) kX5_93 (by decide) ocM (Nat.le_of_ble_eq_true rfl) rfl dX5_as_17 ?_
      refine hR _ _ _ _ dX5_as_20 rfl ?_
      simp only [o_as, h4, h11, Bool.false_eq_true, if_true, if_false, Bool.and_true, Bool.true_and, Bool.and_false, Bool.false_and, Bool.and_self, and_self]; first | exact ⟨rfl, rfl⟩ | exact ⟨by decide, rfl⟩ | exact ⟨by decide, z_sm_r _⟩ | exact ⟨rfl, z_sm_r _⟩ | exact ⟨rfl, z_sm_as _⟩ | exact ⟨by decide, z_sm_fM _ (z_sm_as _)⟩
theorem s_wiped_succ (ν : Nat → Int32) (s n : Nat) : upd (s_wiped ν s n) (40 * s + n) 0 = s_wiped ν s (n + 1) := by
  funext k
  unfold s_wiped
  by_cases h : k = 40 * s + n
  · subst h; rw [u_eq, if_pos (by omega)]
  · rw [u_ne _ _ h]
    by_cases g : 40 * s ≤ k ∧ k < 40 * s + n
    · rw [if_pos g, if_pos (by omega)]
    · rw [if_neg g, if_neg (by omega)]
theorem s_wiped_0 (ν : Nat → Int32) (s : Nat) : s_wiped ν s 0 = ν := by
  funext k
  unfold s_wiped
  rw [if_neg (by omega)]
set_option maxHeartbeats 1000000 in
set_option maxRecDepth 20000 in
theorem c5_sheet (D : zD) (x y z : Int32) : z_CI SM zT yX5_sheet cX5_sheet 5 .int 2 [.ref 0, .int x, .int y, .int z] D (z_eq (a_ans (o_sheet D x y z)) (a_M D (o_sheet D x y z))) := by
  refine z_startI SM_ok (by decide +kernel) (fun v hv => by simp at hv; rcases hv with rfl | rfl | rfl | rfl <;> rfl) (Nat.le_of_ble_eq_true rfl) (fun X F hR => ?_)
  show z_J X SM 0 [some (.ref 0), some (.int x), some (.int y), some (.int z), none] [] D
  refine z_iload1 F dX5_sheet_0 ?_
  refine z_callSI1 F (c5_isSheet _ _) kX5_318 (by decide) (Nat.le_of_ble_eq_true rfl) rfl dX5_sheet_1 ?_
  refine z_ifb_eq F 29 dX5_sheet_4 (by decide) (fun h4 => ?_) (fun h4 => ?_)
  · refine z_aload0 F dX5_sheet_29 ?_
    refine z_ldc F (-1000001) dX5_sheet_30 zw_721 ?_
    refine z_callVI1 F (c5_finding _ _ 0 (by decide) (by decide)) kX5_93 (by decide) ocM (Nat.le_of_ble_eq_true rfl) rfl dX5_sheet_32 ?_
    refine hR _ _ _ _ dX5_sheet_35 rfl ?_
    simp only [o_sheet, h4, Bool.false_eq_true, if_true, if_false, Bool.and_true, Bool.true_and, Bool.and_false, Bool.false_and, Bool.and_self, and_self]; first | exact ⟨rfl, rfl⟩ | exact ⟨by decide, rfl⟩ | exact ⟨by decide, z_sm_r _⟩ | exact ⟨rfl, z_sm_r _⟩ | exact ⟨rfl, z_sm_as _⟩ | exact ⟨by decide, z_sm_fM _ (z_sm_as _)⟩
  · refine z_iload2 F dX5_sheet_7 ?_
    refine z_if_eq F 36 dX5_sheet_8 (by decide) (fun h8 => ?_) (fun h8 => ?_)
    · have hbits : b_bits y = true := by simp [b_bits, h8]
      refine z_iload3 F dX5_sheet_36 ?_
      refine z_if_ge F 48 dX5_sheet_37 (by decide) (fun h37 => ?_) (fun h37 => ?_)
      · refine z_iload3 F dX5_sheet_48 ?_
        refine z_bipush F 40 dX5_sheet_49 zv_b_40 ?_
        refine z_ic_le F 61 dX5_sheet_51 (by decide) (fun h51 => ?_) (fun h51 => ?_)
        · have h37n := Int32.not_lt.mpr h37
          obtain ⟨j, hj, rfl⟩ := b_in0 3 (by decide) h4
          have hjn := i_n_n (j := j) (by omega)
          have h51n := Int32.not_lt.mpr h51
          refine z_aload0 F dX5_sheet_61 ?_
          refine z_getR F M_widths fX5_61 dX5_sheet_62 ?_
          refine z_iload1 F dX5_sheet_65 ?_
          refine z_iload2 F dX5_sheet_66 ?_
          refine z_iast F aM_widths (j) rfl (by omega) dX5_sheet_67 ?_
          refine z_aload0 F dX5_sheet_68 ?_
          refine z_getR F M_sizes fX5_64 dX5_sheet_69 ?_
          refine z_iload1 F dX5_sheet_72 ?_
          refine z_iload2 F dX5_sheet_73 ?_
          refine z_if_ne F 81 dX5_sheet_74 (by decide) (fun h74 => ?_) (fun h74 => ?_)
          · obtain ⟨l, hl⟩ : ∃ l : Int32, l = z := ⟨_, rfl⟩
            have loop : ∀ (n c : Nat), c + n = 40 → z_J X SM 86 [some (.ref 0), some (.int (nI j)), some (.int y), some (.int z), some (.int (nI c))] [] (z_row (z_up (z_up D 12 j y) 13 j l) 14 (s_wiped (D.1 14) j c)) := by
              intro n
              induction n with
              | zero =>
                intro c hn 
                refine z_iload4 F dX5_sheet_86 ?_
                refine z_bipush F 40 dX5_sheet_88 zv_b_40 ?_
                refine z_ic_ge F 112 dX5_sheet_90 (by decide) (fun h90 => ?_) (fun h90 => ?_)
                · refine z_aload0 F dX5_sheet_112 ?_
                  refine z_getR F M_sizes fX5_64 dX5_sheet_113 ?_
                  refine z_iload1 F dX5_sheet_116 ?_
                  refine z_iald F aM_sizes (j) rfl (by omega) dX5_sheet_117 ?_
                  rw [z_rowo _ _ (by decide), z_upr, u_eq, show c = 40 by omega]
                  refine hR _ _ _ _ dX5_sheet_118 rfl ?_
                  simp only [o_sheet, h4, hbits, h37n, h51n, hjn, h74, Bool.false_eq_true, if_true, if_false, Bool.and_true, Bool.true_and, Bool.and_false, Bool.false_and, Bool.and_self, and_self]; subst hl; exact ⟨rfl, rfl⟩
                · exact absurd (nI_le (a := 40) (b := c) (by omega) (by omega)) h90
              | succ n ih =>
                intro c hn 
                refine z_iload4 F dX5_sheet_86 ?_
                refine z_bipush F 40 dX5_sheet_88 zv_b_40 ?_
                refine z_ic_ge F 112 dX5_sheet_90 (by decide) (fun h90 => ?_) (fun h90 => ?_)
                · exact absurd h90 (nI_ge (a := c) (b := 40) (by omega) (by omega))
                · refine z_aload0 F dX5_sheet_93 ?_
                  refine z_getR F M_numbers fX5_67 dX5_sheet_94 ?_
                  refine z_bipush F 40 dX5_sheet_97 zv_b_40 ?_
                  refine z_iload1 F dX5_sheet_99 ?_
                  refine z_imul F dX5_sheet_100 ?_
                  refine z_iload4 F dX5_sheet_101 ?_
                  refine z_iadd F dX5_sheet_103 ?_
                  refine z_iconst F 0 dX5_sheet_104 zv_i_0 ?_
                  refine z_iast F aM_numbers (40 * j + c) (by rw [show (40 : Int32) = nI 40 from rfl, pk_mul, nI_add]) (by omega) dX5_sheet_105 ?_
                  refine z_iinc4 F 1 dX5_sheet_106 rfl zv_i_1 ?_
                  refine z_goto F 86 dX5_sheet_109 (by decide) ?_
                  have h := ih (c + 1) (by omega)
                  rw [show nI (c + 1) = nI c + 1 from nI_succ c] at h
                  rw [z_row_up, s_wiped_succ]
                  exact h
            refine z_iload3 F dX5_sheet_81 ?_
            rw [← hl]
            refine z_iast F aM_sizes (j) rfl (by omega) dX5_sheet_82 ?_
            refine z_iconst F 0 dX5_sheet_83 zv_i_0 ?_
            refine z_istore4 F dX5_sheet_84 rfl ?_
            have h := loop 40 0 (by omega)
            have e : (z_up (z_up D 12 j y) 13 j l).1 14 = D.1 14 := by rw [z_upo _ _ _ (by decide), z_upo _ _ _ (by decide)]
            rw [s_wiped_0, ← e, z_row_eq] at h
            subst hl
            exact h
          · obtain ⟨l, hl⟩ : ∃ l : Int32, l = 0 := ⟨_, rfl⟩
            have loop : ∀ (n c : Nat), c + n = 40 → z_J X SM 86 [some (.ref 0), some (.int (nI j)), some (.int y), some (.int z), some (.int (nI c))] [] (z_row (z_up (z_up D 12 j y) 13 j l) 14 (s_wiped (D.1 14) j c)) := by
              intro n
              induction n with
              | zero =>
                intro c hn 
                refine z_iload4 F dX5_sheet_86 ?_
                refine z_bipush F 40 dX5_sheet_88 zv_b_40 ?_
                refine z_ic_ge F 112 dX5_sheet_90 (by decide) (fun h90 => ?_) (fun h90 => ?_)
                · refine z_aload0 F dX5_sheet_112 ?_
                  refine z_getR F M_sizes fX5_64 dX5_sheet_113 ?_
                  refine z_iload1 F dX5_sheet_116 ?_
                  refine z_iald F aM_sizes (j) rfl (by omega) dX5_sheet_117 ?_
                  rw [z_rowo _ _ (by decide), z_upr, u_eq, show c = 40 by omega]
                  refine hR _ _ _ _ dX5_sheet_118 rfl ?_
                  simp only [o_sheet, h4, hbits, h37n, h51n, hjn, h74, Bool.false_eq_true, if_true, if_false, Bool.and_true, Bool.true_and, Bool.and_false, Bool.false_and, Bool.and_self, and_self]; subst hl; exact ⟨rfl, rfl⟩
                · exact absurd (nI_le (a := 40) (b := c) (by omega) (by omega)) h90
              | succ n ih =>
                intro c hn 
                refine z_iload4 F dX5_sheet_86 ?_
                refine z_bipush F 40 dX5_sheet_88 zv_b_40 ?_
                refine z_ic_ge F 112 dX5_sheet_90 (by decide) (fun h90 => ?_) (fun h90 => ?_)
                · exact absurd h90 (nI_ge (a := c) (b := 40) (by omega) (by omega))
                · refine z_aload0 F dX5_sheet_93 ?_
                  refine z_getR F M_numbers fX5_67 dX5_sheet_94 ?_
                  refine z_bipush F 40 dX5_sheet_97 zv_b_40 ?_
                  refine z_iload1 F dX5_sheet_99 ?_
                  refine z_imul F dX5_sheet_100 ?_
                  refine z_iload4 F dX5_sheet_101 ?_
                  refine z_iadd F dX5_sheet_103 ?_
                  refine z_iconst F 0 dX5_sheet_104 zv_i_0 ?_
                  refine z_iast F aM_numbers (40 * j + c) (by rw [show (40 : Int32) = nI 40 from rfl, pk_mul, nI_add]) (by omega) dX5_sheet_105 ?_
                  refine z_iinc4 F 1 dX5_sheet_106 rfl zv_i_1 ?_
                  refine z_goto F 86 dX5_sheet_109 (by decide) ?_
                  have h := ih (c + 1) (by omega)
                  rw [show nI (c + 1) = nI c + 1 from nI_succ c] at h
                  rw [z_row_up, s_wiped_succ]
                  exact h
            refine z_iconst F 0 dX5_sheet_77 zv_i_0 ?_
            refine z_goto F 82 dX5_sheet_78 (by decide) ?_
            rw [← hl]
            refine z_iast F aM_sizes (j) rfl (by omega) dX5_sheet_82 ?_
            refine z_iconst F 0 dX5_sheet_83 zv_i_0 ?_
            refine z_istore4 F dX5_sheet_84 rfl ?_
            have h := loop 40 0 (by omega)
            have e : (z_up (z_up D 12 j y) 13 j l).1 14 = D.1 14 := by rw [z_upo _ _ _ (by decide), z_upo _ _ _ (by decide)]
            rw [s_wiped_0, ← e, z_row_eq] at h
            subst hl
            exact h
        · have h37n := Int32.not_lt.mpr h37
          have h51 := Int32.not_le.mp h51
          refine z_aload0 F dX5_sheet_54 ?_
          refine z_ldc F (-1000001) dX5_sheet_55 zw_721 ?_
          refine z_callVI1 F (c5_finding _ _ 0 (by decide) (by decide)) kX5_93 (by decide) ocM (Nat.le_of_ble_eq_true rfl) rfl dX5_sheet_57 ?_
          refine hR _ _ _ _ dX5_sheet_60 rfl ?_
          simp only [o_sheet, h4, hbits, h37n, h51, Bool.false_eq_true, if_true, if_false, Bool.and_true, Bool.true_and, Bool.and_false, Bool.false_and, Bool.and_self, and_self]; first | exact ⟨rfl, rfl⟩ | exact ⟨by decide, rfl⟩ | exact ⟨by decide, z_sm_r _⟩ | exact ⟨rfl, z_sm_r _⟩ | exact ⟨rfl, z_sm_as _⟩ | exact ⟨by decide, z_sm_fM _ (z_sm_as _)⟩
      · have h37 := Int32.not_le.mp h37
        refine z_aload0 F dX5_sheet_40 ?_
        refine z_ldcw F (-1000007) dX5_sheet_41 zw_1048 ?_
        refine z_callVI1 F (c5_finding _ _ 6 (by decide) (by decide)) kX5_93 (by decide) ocM (Nat.le_of_ble_eq_true rfl) rfl dX5_sheet_44 ?_
        refine hR _ _ _ _ dX5_sheet_47 rfl ?_
        simp only [o_sheet, h4, hbits, h37, Bool.false_eq_true, if_true, if_false, Bool.and_true, Bool.true_and, Bool.and_false, Bool.false_and, Bool.and_self, and_self]; first | exact ⟨rfl, rfl⟩ | exact ⟨by decide, rfl⟩ | exact ⟨by decide, z_sm_r _⟩ | exact ⟨rfl, z_sm_r _⟩ | exact ⟨rfl, z_sm_as _⟩ | exact ⟨by decide, z_sm_fM _ (z_sm_as _)⟩
    · refine z_iload2 F dX5_sheet_11 ?_
      refine z_bipush F 8 dX5_sheet_12 zv_b_8 ?_
      refine z_ic_eq F 36 dX5_sheet_14 (by decide) (fun h14 => ?_) (fun h14 => ?_)
      · have hbits : b_bits y = true := by simp [b_bits, h14]
        refine z_iload3 F dX5_sheet_36 ?_
        refine z_if_ge F 48 dX5_sheet_37 (by decide) (fun h37 => ?_) (fun h37 => ?_)
        · refine z_iload3 F dX5_sheet_48 ?_
          refine z_bipush F 40 dX5_sheet_49 zv_b_40 ?_
          refine z_ic_le F 61 dX5_sheet_51 (by decide) (fun h51 => ?_) (fun h51 => ?_)
          · have h37n := Int32.not_lt.mpr h37
            obtain ⟨j, hj, rfl⟩ := b_in0 3 (by decide) h4
            have hjn := i_n_n (j := j) (by omega)
            have h51n := Int32.not_lt.mpr h51
            refine z_aload0 F dX5_sheet_61 ?_
            refine z_getR F M_widths fX5_61 dX5_sheet_62 ?_
            refine z_iload1 F dX5_sheet_65 ?_
            refine z_iload2 F dX5_sheet_66 ?_
            refine z_iast F aM_widths (j) rfl (by omega) dX5_sheet_67 ?_
            refine z_aload0 F dX5_sheet_68 ?_
            refine z_getR F M_sizes fX5_64 dX5_sheet_69 ?_
            refine z_iload1 F dX5_sheet_72 ?_
            refine z_iload2 F dX5_sheet_73 ?_
            refine z_if_ne F 81 dX5_sheet_74 (by decide) (fun h74 => ?_) (fun h74 => ?_)
            · obtain ⟨l, hl⟩ : ∃ l : Int32, l = z := ⟨_, rfl⟩
              have loop : ∀ (n c : Nat), c + n = 40 → z_J X SM 86 [some (.ref 0), some (.int (nI j)), some (.int y), some (.int z), some (.int (nI c))] [] (z_row (z_up (z_up D 12 j y) 13 j l) 14 (s_wiped (D.1 14) j c)) := by
                intro n
                induction n with
                | zero =>
                  intro c hn 
                  refine z_iload4 F dX5_sheet_86 ?_
                  refine z_bipush F 40 dX5_sheet_88 zv_b_40 ?_
                  refine z_ic_ge F 112 dX5_sheet_90 (by decide) (fun h90 => ?_) (fun h90 => ?_)
                  · refine z_aload0 F dX5_sheet_112 ?_
                    refine z_getR F M_sizes fX5_64 dX5_sheet_113 ?_
                    refine z_iload1 F dX5_sheet_116 ?_
                    refine z_iald F aM_sizes (j) rfl (by omega) dX5_sheet_117 ?_
                    rw [z_rowo _ _ (by decide), z_upr, u_eq, show c = 40 by omega]
                    refine hR _ _ _ _ dX5_sheet_118 rfl ?_
                    simp only [o_sheet, h4, hbits, h37n, h51n, hjn, h74, Bool.false_eq_true, if_true, if_false, Bool.and_true, Bool.true_and, Bool.and_false, Bool.false_and, Bool.and_self, and_self]; subst hl; exact ⟨rfl, rfl⟩
                  · exact absurd (nI_le (a := 40) (b := c) (by omega) (by omega)) h90
                | succ n ih =>
                  intro c hn 
                  refine z_iload4 F dX5_sheet_86 ?_
                  refine z_bipush F 40 dX5_sheet_88 zv_b_40 ?_
                  refine z_ic_ge F 112 dX5_sheet_90 (by decide) (fun h90 => ?_) (fun h90 => ?_)
                  · exact absurd h90 (nI_ge (a := c) (b := 40) (by omega) (by omega))
                  · refine z_aload0 F dX5_sheet_93 ?_
                    refine z_getR F M_numbers fX5_67 dX5_sheet_94 ?_
                    refine z_bipush F 40 dX5_sheet_97 zv_b_40 ?_
                    refine z_iload1 F dX5_sheet_99 ?_
                    refine z_imul F dX5_sheet_100 ?_
                    refine z_iload4 F dX5_sheet_101 ?_
                    refine z_iadd F dX5_sheet_103 ?_
                    refine z_iconst F 0 dX5_sheet_104 zv_i_0 ?_
                    refine z_iast F aM_numbers (40 * j + c) (by rw [show (40 : Int32) = nI 40 from rfl, pk_mul, nI_add]) (by omega) dX5_sheet_105 ?_
                    refine z_iinc4 F 1 dX5_sheet_106 rfl zv_i_1 ?_
                    refine z_goto F 86 dX5_sheet_109 (by decide) ?_
                    have h := ih (c + 1) (by omega)
                    rw [show nI (c + 1) = nI c + 1 from nI_succ c] at h
                    rw [z_row_up, s_wiped_succ]
                    exact h
              refine z_iload3 F dX5_sheet_81 ?_
              rw [← hl]
              refine z_iast F aM_sizes (j) rfl (by omega) dX5_sheet_82 ?_
              refine z_iconst F 0 dX5_sheet_83 zv_i_0 ?_
              refine z_istore4 F dX5_sheet_84 rfl ?_
              have h := loop 40 0 (by omega)
              have e : (z_up (z_up D 12 j y) 13 j l).1 14 = D.1 14 := by rw [z_upo _ _ _ (by decide), z_upo _ _ _ (by decide)]
              rw [s_wiped_0, ← e, z_row_eq] at h
              subst hl
              exact h
            · obtain ⟨l, hl⟩ : ∃ l : Int32, l = 0 := ⟨_, rfl⟩
              have loop : ∀ (n c : Nat), c + n = 40 → z_J X SM 86 [some (.ref 0), some (.int (nI j)), some (.int y), some (.int z), some (.int (nI c))] [] (z_row (z_up (z_up D 12 j y) 13 j l) 14 (s_wiped (D.1 14) j c)) := by
                intro n
                induction n with
                | zero =>
                  intro c hn 
                  refine z_iload4 F dX5_sheet_86 ?_
                  refine z_bipush F 40 dX5_sheet_88 zv_b_40 ?_
                  refine z_ic_ge F 112 dX5_sheet_90 (by decide) (fun h90 => ?_) (fun h90 => ?_)
                  · refine z_aload0 F dX5_sheet_112 ?_
                    refine z_getR F M_sizes fX5_64 dX5_sheet_113 ?_
                    refine z_iload1 F dX5_sheet_116 ?_
                    refine z_iald F aM_sizes (j) rfl (by omega) dX5_sheet_117 ?_
                    rw [z_rowo _ _ (by decide), z_upr, u_eq, show c = 40 by omega]
                    refine hR _ _ _ _ dX5_sheet_118 rfl ?_
                    simp only [o_sheet, h4, hbits, h37n, h51n, hjn, h74, Bool.false_eq_true, if_true, if_false, Bool.and_true, Bool.true_and, Bool.and_false, Bool.false_and, Bool.and_self, and_self]; subst hl; exact ⟨rfl, rfl⟩
                  · exact absurd (nI_le (a := 40) (b := c) (by omega) (by omega)) h90
                | succ n ih =>
                  intro c hn 
                  refine z_iload4 F dX5_sheet_86 ?_
                  refine z_bipush F 40 dX5_sheet_88 zv_b_40 ?_
                  refine z_ic_ge F 112 dX5_sheet_90 (by decide) (fun h90 => ?_) (fun h90 => ?_)
                  · exact absurd h90 (nI_ge (a := c) (b := 40) (by omega) (by omega))
                  · refine z_aload0 F dX5_sheet_93 ?_
                    refine z_getR F M_numbers fX5_67 dX5_sheet_94 ?_
                    refine z_bipush F 40 dX5_sheet_97 zv_b_40 ?_
                    refine z_iload1 F dX5_sheet_99 ?_
                    refine z_imul F dX5_sheet_100 ?_
                    refine z_iload4 F dX5_sheet_101 ?_
                    refine z_iadd F dX5_sheet_103 ?_
                    refine z_iconst F 0 dX5_sheet_104 zv_i_0 ?_
                    refine z_iast F aM_numbers (40 * j + c) (by rw [show (40 : Int32) = nI 40 from rfl, pk_mul, nI_add]) (by omega) dX5_sheet_105 ?_
                    refine z_iinc4 F 1 dX5_sheet_106 rfl zv_i_1 ?_
                    refine z_goto F 86 dX5_sheet_109 (by decide) ?_
                    have h := ih (c + 1) (by omega)
                    rw [show nI (c + 1) = nI c + 1 from nI_succ c] at h
                    rw [z_row_up, s_wiped_succ]
                    exact h
              refine z_iconst F 0 dX5_sheet_77 zv_i_0 ?_
              refine z_goto F 82 dX5_sheet_78 (by decide) ?_
              rw [← hl]
              refine z_iast F aM_sizes (j) rfl (by omega) dX5_sheet_82 ?_
              refine z_iconst F 0 dX5_sheet_83 zv_i_0 ?_
              refine z_istore4 F dX5_sheet_84 rfl ?_
              have h := loop 40 0 (by omega)
              have e : (z_up (z_up D 12 j y) 13 j l).1 14 = D.1 14 := by rw [z_upo _ _ _ (by decide), z_upo _ _ _ (by decide)]
              rw [s_wiped_0, ← e, z_row_eq] at h
              subst hl
              exact h
          · have h37n := Int32.not_lt.mpr h37
            have h51 := Int32.not_le.mp h51
            refine z_aload0 F dX5_sheet_54 ?_
            refine z_ldc F (-1000001) dX5_sheet_55 zw_721 ?_
            refine z_callVI1 F (c5_finding _ _ 0 (by decide) (by decide)) kX5_93 (by decide) ocM (Nat.le_of_ble_eq_true rfl) rfl dX5_sheet_57 ?_
            refine hR _ _ _ _ dX5_sheet_60 rfl ?_
            simp only [o_sheet, h4, hbits, h37n, h51, Bool.false_eq_true, if_true, if_false, Bool.and_true, Bool.true_and, Bool.and_false, Bool.false_and, Bool.and_self, and_self]; first | exact ⟨rfl, rfl⟩ | exact ⟨by decide, rfl⟩ | exact ⟨by decide, z_sm_r _⟩ | exact ⟨rfl, z_sm_r _⟩ | exact ⟨rfl, z_sm_as _⟩ | exact ⟨by decide, z_sm_fM _ (z_sm_as _)⟩
        · have h37 := Int32.not_le.mp h37
          refine z_aload0 F dX5_sheet_40 ?_
          refine z_ldcw F (-1000007) dX5_sheet_41 zw_1048 ?_
          refine z_callVI1 F (c5_finding _ _ 6 (by decide) (by decide)) kX5_93 (by decide) ocM (Nat.le_of_ble_eq_true rfl) rfl dX5_sheet_44 ?_
          refine hR _ _ _ _ dX5_sheet_47 rfl ?_
          simp only [o_sheet, h4, hbits, h37, Bool.false_eq_true, if_true, if_false, Bool.and_true, Bool.true_and, Bool.and_false, Bool.false_and, Bool.and_self, and_self]; first | exact ⟨rfl, rfl⟩ | exact ⟨by decide, rfl⟩ | exact ⟨by decide, z_sm_r _⟩ | exact ⟨rfl, z_sm_r _⟩ | exact ⟨rfl, z_sm_as _⟩ | exact ⟨by decide, z_sm_fM _ (z_sm_as _)⟩
      · refine z_iload2 F dX5_sheet_17 ?_
        refine z_bipush F 16 dX5_sheet_18 zv_b_16 ?_
        refine z_ic_eq F 36 dX5_sheet_20 (by decide) (fun h20 => ?_) (fun h20 => ?_)
        · have hbits : b_bits y = true := by simp [b_bits, h20]
          refine z_iload3 F dX5_sheet_36 ?_
          refine z_if_ge F 48 dX5_sheet_37 (by decide) (fun h37 => ?_) (fun h37 => ?_)
          · refine z_iload3 F dX5_sheet_48 ?_
            refine z_bipush F 40 dX5_sheet_49 zv_b_40 ?_
            refine z_ic_le F 61 dX5_sheet_51 (by decide) (fun h51 => ?_) (fun h51 => ?_)
            · have h37n := Int32.not_lt.mpr h37
              obtain ⟨j, hj, rfl⟩ := b_in0 3 (by decide) h4
              have hjn := i_n_n (j := j) (by omega)
              have h51n := Int32.not_lt.mpr h51
              refine z_aload0 F dX5_sheet_61 ?_
              refine z_getR F M_widths fX5_61 dX5_sheet_62 ?_
              refine z_iload1 F dX5_sheet_65 ?_
              refine z_iload2 F dX5_sheet_66 ?_
              refine z_iast F aM_widths (j) rfl (by omega) dX5_sheet_67 ?_
              refine z_aload0 F dX5_sheet_68 ?_
              refine z_getR F M_sizes fX5_64 dX5_sheet_69 ?_
              refine z_iload1 F dX5_sheet_72 ?_
              refine z_iload2 F dX5_sheet_73 ?_
              refine z_if_ne F 81 dX5_sheet_74 (by decide) (fun h74 => ?_) (fun h74 => ?_)
              · obtain ⟨l, hl⟩ : ∃ l : Int32, l = z := ⟨_, rfl⟩
                have loop : ∀ (n c : Nat), c + n = 40 → z_J X SM 86 [some (.ref 0), some (.int (nI j)), some (.int y), some (.int z), some (.int (nI c))] [] (z_row (z_up (z_up D 12 j y) 13 j l) 14 (s_wiped (D.1 14) j c)) := by
                  intro n
                  induction n with
                  | zero =>
                    intro c hn 
                    refine z_iload4 F dX5_sheet_86 ?_
                    refine z_bipush F 40 dX5_sheet_88 zv_b_40 ?_
                    refine z_ic_ge F 112 dX5_sheet_90 (by decide) (fun h90 => ?_) (fun h90 => ?_)
                    · refine z_aload0 F dX5_sheet_112 ?_
                      refine z_getR F M_sizes fX5_64 dX5_sheet_113 ?_
                      refine z_iload1 F dX5_sheet_116 ?_
                      refine z_iald F aM_sizes (j) rfl (by omega) dX5_sheet_117 ?_
                      rw [z_rowo _ _ (by decide), z_upr, u_eq, show c = 40 by omega]
                      refine hR _ _ _ _ dX5_sheet_118 rfl ?_
                      simp only [o_sheet, h4, hbits, h37n, h51n, hjn, h74, Bool.false_eq_true, if_true, if_false, Bool.and_true, Bool.true_and, Bool.and_false, Bool.false_and, Bool.and_self, and_self]; subst hl; exact ⟨rfl, rfl⟩
                    · exact absurd (nI_le (a := 40) (b := c) (by omega) (by omega)) h90
                  | succ n ih =>
                    intro c hn 
                    refine z_iload4 F dX5_sheet_86 ?_
                    refine z_bipush F 40 dX5_sheet_88 zv_b_40 ?_
                    refine z_ic_ge F 112 dX5_sheet_90 (by decide) (fun h90 => ?_) (fun h90 => ?_)
                    · exact absurd h90 (nI_ge (a := c) (b := 40) (by omega) (by omega))
                    · refine z_aload0 F dX5_sheet_93 ?_
                      refine z_getR F M_numbers fX5_67 dX5_sheet_94 ?_
                      refine z_bipush F 40 dX5_sheet_97 zv_b_40 ?_
                      refine z_iload1 F dX5_sheet_99 ?_
                      refine z_imul F dX5_sheet_100 ?_
                      refine z_iload4 F dX5_sheet_101 ?_
                      refine z_iadd F dX5_sheet_103 ?_
                      refine z_iconst F 0 dX5_sheet_104 zv_i_0 ?_
                      refine z_iast F aM_numbers (40 * j + c) (by rw [show (40 : Int32) = nI 40 from rfl, pk_mul, nI_add]) (by omega) dX5_sheet_105 ?_
                      refine z_iinc4 F 1 dX5_sheet_106 rfl zv_i_1 ?_
                      refine z_goto F 86 dX5_sheet_109 (by decide) ?_
                      have h := ih (c + 1) (by omega)
                      rw [show nI (c + 1) = nI c + 1 from nI_succ c] at h
                      rw [z_row_up, s_wiped_succ]
                      exact h
                refine z_iload3 F dX5_sheet_81 ?_
                rw [← hl]
                refine z_iast F aM_sizes (j) rfl (by omega) dX5_sheet_82 ?_
                refine z_iconst F 0 dX5_sheet_83 zv_i_0 ?_
                refine z_istore4 F dX5_sheet_84 rfl ?_
                have h := loop 40 0 (by omega)
                have e : (z_up (z_up D 12 j y) 13 j l).1 14 = D.1 14 := by rw [z_upo _ _ _ (by decide), z_upo _ _ _ (by decide)]
                rw [s_wiped_0, ← e, z_row_eq] at h
                subst hl
                exact h
              · obtain ⟨l, hl⟩ : ∃ l : Int32, l = 0 := ⟨_, rfl⟩
                have loop : ∀ (n c : Nat), c + n = 40 → z_J X SM 86 [some (.ref 0), some (.int (nI j)), some (.int y), some (.int z), some (.int (nI c))] [] (z_row (z_up (z_up D 12 j y) 13 j l) 14 (s_wiped (D.1 14) j c)) := by
                  intro n
                  induction n with
                  | zero =>
                    intro c hn 
                    refine z_iload4 F dX5_sheet_86 ?_
                    refine z_bipush F 40 dX5_sheet_88 zv_b_40 ?_
                    refine z_ic_ge F 112 dX5_sheet_90 (by decide) (fun h90 => ?_) (fun h90 => ?_)
                    · refine z_aload0 F dX5_sheet_112 ?_
                      refine z_getR F M_sizes fX5_64 dX5_sheet_113 ?_
                      refine z_iload1 F dX5_sheet_116 ?_
                      refine z_iald F aM_sizes (j) rfl (by omega) dX5_sheet_117 ?_
                      rw [z_rowo _ _ (by decide), z_upr, u_eq, show c = 40 by omega]
                      refine hR _ _ _ _ dX5_sheet_118 rfl ?_
                      simp only [o_sheet, h4, hbits, h37n, h51n, hjn, h74, Bool.false_eq_true, if_true, if_false, Bool.and_true, Bool.true_and, Bool.and_false, Bool.false_and, Bool.and_self, and_self]; subst hl; exact ⟨rfl, rfl⟩
                    · exact absurd (nI_le (a := 40) (b := c) (by omega) (by omega)) h90
                  | succ n ih =>
                    intro c hn 
                    refine z_iload4 F dX5_sheet_86 ?_
                    refine z_bipush F 40 dX5_sheet_88 zv_b_40 ?_
                    refine z_ic_ge F 112 dX5_sheet_90 (by decide) (fun h90 => ?_) (fun h90 => ?_)
                    · exact absurd h90 (nI_ge (a := c) (b := 40) (by omega) (by omega))
                    · refine z_aload0 F dX5_sheet_93 ?_
                      refine z_getR F M_numbers fX5_67 dX5_sheet_94 ?_
                      refine z_bipush F 40 dX5_sheet_97 zv_b_40 ?_
                      refine z_iload1 F dX5_sheet_99 ?_
                      refine z_imul F dX5_sheet_100 ?_
                      refine z_iload4 F dX5_sheet_101 ?_
                      refine z_iadd F dX5_sheet_103 ?_
                      refine z_iconst F 0 dX5_sheet_104 zv_i_0 ?_
                      refine z_iast F aM_numbers (40 * j + c) (by rw [show (40 : Int32) = nI 40 from rfl, pk_mul, nI_add]) (by omega) dX5_sheet_105 ?_
                      refine z_iinc4 F 1 dX5_sheet_106 rfl zv_i_1 ?_
                      refine z_goto F 86 dX5_sheet_109 (by decide) ?_
                      have h := ih (c + 1) (by omega)
                      rw [show nI (c + 1) = nI c + 1 from nI_succ c] at h
                      rw [z_row_up, s_wiped_succ]
                      exact h
                refine z_iconst F 0 dX5_sheet_77 zv_i_0 ?_
                refine z_goto F 82 dX5_sheet_78 (by decide) ?_
                rw [← hl]
                refine z_iast F aM_sizes (j) rfl (by omega) dX5_sheet_82 ?_
                refine z_iconst F 0 dX5_sheet_83 zv_i_0 ?_
                refine z_istore4 F dX5_sheet_84 rfl ?_
                have h := loop 40 0 (by omega)
                have e : (z_up (z_up D 12 j y) 13 j l).1 14 = D.1 14 := by rw [z_upo _ _ _ (by decide), z_upo _ _ _ (by decide)]
                rw [s_wiped_0, ← e, z_row_eq] at h
                subst hl
                exact h
            · have h37n := Int32.not_lt.mpr h37
              have h51 := Int32.not_le.mp h51
              refine z_aload0 F dX5_sheet_54 ?_
              refine z_ldc F (-1000001) dX5_sheet_55 zw_721 ?_
              refine z_callVI1 F (c5_finding _ _ 0 (by decide) (by decide)) kX5_93 (by decide) ocM (Nat.le_of_ble_eq_true rfl) rfl dX5_sheet_57 ?_
              refine hR _ _ _ _ dX5_sheet_60 rfl ?_
              simp only [o_sheet, h4, hbits, h37n, h51, Bool.false_eq_true, if_true, if_false, Bool.and_true, Bool.true_and, Bool.and_false, Bool.false_and, Bool.and_self, and_self]; first | exact ⟨rfl, rfl⟩ | exact ⟨by decide, rfl⟩ | exact ⟨by decide, z_sm_r _⟩ | exact ⟨rfl, z_sm_r _⟩ | exact ⟨rfl, z_sm_as _⟩ | exact ⟨by decide, z_sm_fM _ (z_sm_as _)⟩
          · have h37 := Int32.not_le.mp h37
            refine z_aload0 F dX5_sheet_40 ?_
            refine z_ldcw F (-1000007) dX5_sheet_41 zw_1048 ?_
            refine z_callVI1 F (c5_finding _ _ 6 (by decide) (by decide)) kX5_93 (by decide) ocM (Nat.le_of_ble_eq_true rfl) rfl dX5_sheet_44 ?_
            refine hR _ _ _ _ dX5_sheet_47 rfl ?_
            simp only [o_sheet, h4, hbits, h37, Bool.false_eq_true, if_true, if_false, Bool.and_true, Bool.true_and, Bool.and_false, Bool.false_and, Bool.and_self, and_self]; first | exact ⟨rfl, rfl⟩ | exact ⟨by decide, rfl⟩ | exact ⟨by decide, z_sm_r _⟩ | exact ⟨rfl, z_sm_r _⟩ | exact ⟨rfl, z_sm_as _⟩ | exact ⟨by decide, z_sm_fM _ (z_sm_as _)⟩
        · refine z_iload2 F dX5_sheet_23 ?_
          refine z_bipush F 32 dX5_sheet_24 zv_b_32 ?_
          refine z_ic_eq F 36 dX5_sheet_26 (by decide) (fun h26 => ?_) (fun h26 => ?_)
          · have hbits : b_bits y = true := by simp [b_bits, h26]
            refine z_iload3 F dX5_sheet_36 ?_
            refine z_if_ge F 48 dX5_sheet_37 (by decide) (fun h37 => ?_) (fun h37 => ?_)
            · refine z_iload3 F dX5_sheet_48 ?_
              refine z_bipush F 40 dX5_sheet_49 zv_b_40 ?_
              refine z_ic_le F 61 dX5_sheet_51 (by decide) (fun h51 => ?_) (fun h51 => ?_)
              · have h37n := Int32.not_lt.mpr h37
                obtain ⟨j, hj, rfl⟩ := b_in0 3 (by decide) h4
                have hjn := i_n_n (j := j) (by omega)
                have h51n := Int32.not_lt.mpr h51
                refine z_aload0 F dX5_sheet_61 ?_
                refine z_getR F M_widths fX5_61 dX5_sheet_62 ?_
                refine z_iload1 F dX5_sheet_65 ?_
                refine z_iload2 F dX5_sheet_66 ?_
                refine z_iast F aM_widths (j) rfl (by omega) dX5_sheet_67 ?_
                refine z_aload0 F dX5_sheet_68 ?_
                refine z_getR F M_sizes fX5_64 dX5_sheet_69 ?_
                refine z_iload1 F dX5_sheet_72 ?_
                refine z_iload2 F dX5_sheet_73 ?_
                refine z_if_ne F 81 dX5_sheet_74 (by decide) (fun h74 => ?_) (fun h74 => ?_)
                · obtain ⟨l, hl⟩ : ∃ l : Int32, l = z := ⟨_, rfl⟩
                  have loop : ∀ (n c : Nat), c + n = 40 → z_J X SM 86 [some (.ref 0), some (.int (nI j)), some (.int y), some (.int z), some (.int (nI c))] [] (z_row (z_up (z_up D 12 j y) 13 j l) 14 (s_wiped (D.1 14) j c)) := by
                    intro n
                    induction n with
                    | zero =>
                      intro c hn 
                      refine z_iload4 F dX5_sheet_86 ?_
                      refine z_bipush F 40 dX5_sheet_88 zv_b_40 ?_
                      refine z_ic_ge F 112 dX5_sheet_90 (by decide) (fun h90 => ?_) (fun h90 => ?_)
                      · refine z_aload0 F dX5_sheet_112 ?_
                        refine z_getR F M_sizes fX5_64 dX5_sheet_113 ?_
                        refine z_iload1 F dX5_sheet_116 ?_
                        refine z_iald F aM_sizes (j) rfl (by omega) dX5_sheet_117 ?_
                        rw [z_rowo _ _ (by decide), z_upr, u_eq, show c = 40 by omega]
                        refine hR _ _ _ _ dX5_sheet_118 rfl ?_
                        simp only [o_sheet, h4, hbits, h37n, h51n, hjn, h74, Bool.false_eq_true, if_true, if_false, Bool.and_true, Bool.true_and, Bool.and_false, Bool.false_and, Bool.and_self, and_self]; subst hl; exact ⟨rfl, rfl⟩
                      · exact absurd (nI_le (a := 40) (b := c) (by omega) (by omega)) h90
                    | succ n ih =>
                      intro c hn 
                      refine z_iload4 F dX5_sheet_86 ?_
                      refine z_bipush F 40 dX5_sheet_88 zv_b_40 ?_
                      refine z_ic_ge F 112 dX5_sheet_90 (by decide) (fun h90 => ?_) (fun h90 => ?_)
                      · exact absurd h90 (nI_ge (a := c) (b := 40) (by omega) (by omega))
                      · refine z_aload0 F dX5_sheet_93 ?_
                        refine z_getR F M_numbers fX5_67 dX5_sheet_94 ?_
                        refine z_bipush F 40 dX5_sheet_97 zv_b_40 ?_
                        refine z_iload1 F dX5_sheet_99 ?_
                        refine z_imul F dX5_sheet_100 ?_
                        refine z_iload4 F dX5_sheet_101 ?_
                        refine z_iadd F dX5_sheet_103 ?_
                        refine z_iconst F 0 dX5_sheet_104 zv_i_0 ?_
                        refine z_iast F aM_numbers (40 * j + c) (by rw [show (40 : Int32) = nI 40 from rfl, pk_mul, nI_add]) (by omega) dX5_sheet_105 ?_
                        refine z_iinc4 F 1 dX5_sheet_106 rfl zv_i_1 ?_
                        refine z_goto F 86 dX5_sheet_109 (by decide) ?_
                        have h := ih (c + 1) (by omega)
                        rw [show nI (c + 1) = nI c + 1 from nI_succ c] at h
                        rw [z_row_up, s_wiped_succ]
                        exact h
                  refine z_iload3 F dX5_sheet_81 ?_
                  rw [← hl]
                  refine z_iast F aM_sizes (j) rfl (by omega) dX5_sheet_82 ?_
                  refine z_iconst F 0 dX5_sheet_83 zv_i_0 ?_
                  refine z_istore4 F dX5_sheet_84 rfl ?_
                  have h := loop 40 0 (by omega)
                  have e : (z_up (z_up D 12 j y) 13 j l).1 14 = D.1 14 := by rw [z_upo _ _ _ (by decide), z_upo _ _ _ (by decide)]
                  rw [s_wiped_0, ← e, z_row_eq] at h
                  subst hl
                  exact h
                · obtain ⟨l, hl⟩ : ∃ l : Int32, l = 0 := ⟨_, rfl⟩
                  have loop : ∀ (n c : Nat), c + n = 40 → z_J X SM 86 [some (.ref 0), some (.int (nI j)), some (.int y), some (.int z), some (.int (nI c))] [] (z_row (z_up (z_up D 12 j y) 13 j l) 14 (s_wiped (D.1 14) j c)) := by
                    intro n
                    induction n with
                    | zero =>
                      intro c hn 
                      refine z_iload4 F dX5_sheet_86 ?_
                      refine z_bipush F 40 dX5_sheet_88 zv_b_40 ?_
                      refine z_ic_ge F 112 dX5_sheet_90 (by decide) (fun h90 => ?_) (fun h90 => ?_)
                      · refine z_aload0 F dX5_sheet_112 ?_
                        refine z_getR F M_sizes fX5_64 dX5_sheet_113 ?_
                        refine z_iload1 F dX5_sheet_116 ?_
                        refine z_iald F aM_sizes (j) rfl (by omega) dX5_sheet_117 ?_
                        rw [z_rowo _ _ (by decide), z_upr, u_eq, show c = 40 by omega]
                        refine hR _ _ _ _ dX5_sheet_118 rfl ?_
                        simp only [o_sheet, h4, hbits, h37n, h51n, hjn, h74, Bool.false_eq_true, if_true, if_false, Bool.and_true, Bool.true_and, Bool.and_false, Bool.false_and, Bool.and_self, and_self]; subst hl; exact ⟨rfl, rfl⟩
                      · exact absurd (nI_le (a := 40) (b := c) (by omega) (by omega)) h90
                    | succ n ih =>
                      intro c hn 
                      refine z_iload4 F dX5_sheet_86 ?_
                      refine z_bipush F 40 dX5_sheet_88 zv_b_40 ?_
                      refine z_ic_ge F 112 dX5_sheet_90 (by decide) (fun h90 => ?_) (fun h90 => ?_)
                      · exact absurd h90 (nI_ge (a := c) (b := 40) (by omega) (by omega))
                      · refine z_aload0 F dX5_sheet_93 ?_
                        refine z_getR F M_numbers fX5_67 dX5_sheet_94 ?_
                        refine z_bipush F 40 dX5_sheet_97 zv_b_40 ?_
                        refine z_iload1 F dX5_sheet_99 ?_
                        refine z_imul F dX5_sheet_100 ?_
                        refine z_iload4 F dX5_sheet_101 ?_
                        refine z_iadd F dX5_sheet_103 ?_
                        refine z_iconst F 0 dX5_sheet_104 zv_i_0 ?_
                        refine z_iast F aM_numbers (40 * j + c) (by rw [show (40 : Int32) = nI 40 from rfl, pk_mul, nI_add]) (by omega) dX5_sheet_105 ?_
                        refine z_iinc4 F 1 dX5_sheet_106 rfl zv_i_1 ?_
                        refine z_goto F 86 dX5_sheet_109 (by decide) ?_
                        have h := ih (c + 1) (by omega)
                        rw [show nI (c + 1) = nI c + 1 from nI_succ c] at h
                        rw [z_row_up, s_wiped_succ]
                        exact h
                  refine z_iconst F 0 dX5_sheet_77 zv_i_0 ?_
                  refine z_goto F 82 dX5_sheet_78 (by decide) ?_
                  rw [← hl]
                  refine z_iast F aM_sizes (j) rfl (by omega) dX5_sheet_82 ?_
                  refine z_iconst F 0 dX5_sheet_83 zv_i_0 ?_
                  refine z_istore4 F dX5_sheet_84 rfl ?_
                  have h := loop 40 0 (by omega)
                  have e : (z_up (z_up D 12 j y) 13 j l).1 14 = D.1 14 := by rw [z_upo _ _ _ (by decide), z_upo _ _ _ (by decide)]
                  rw [s_wiped_0, ← e, z_row_eq] at h
                  subst hl
                  exact h
              · have h37n := Int32.not_lt.mpr h37
                have h51 := Int32.not_le.mp h51
                refine z_aload0 F dX5_sheet_54 ?_
                refine z_ldc F (-1000001) dX5_sheet_55 zw_721 ?_
                refine z_callVI1 F (c5_finding _ _ 0 (by decide) (by decide)) kX5_93 (by decide) ocM (Nat.le_of_ble_eq_true rfl) rfl dX5_sheet_57 ?_
                refine hR _ _ _ _ dX5_sheet_60 rfl ?_
                simp only [o_sheet, h4, hbits, h37n, h51, Bool.false_eq_true, if_true, if_false, Bool.and_true, Bool.true_and, Bool.and_false, Bool.false_and, Bool.and_self, and_self]; first | exact ⟨rfl, rfl⟩ | exact ⟨by decide, rfl⟩ | exact ⟨by decide, z_sm_r _⟩ | exact ⟨rfl, z_sm_r _⟩ | exact ⟨rfl, z_sm_as _⟩ | exact ⟨by decide, z_sm_fM _ (z_sm_as _)⟩
            · have h37 := Int32.not_le.mp h37
              refine z_aload0 F dX5_sheet_40 ?_
              refine z_ldcw F (-1000007) dX5_sheet_41 zw_1048 ?_
              refine z_callVI1 F (c5_finding _ _ 6 (by decide) (by decide)) kX5_93 (by decide) ocM (Nat.le_of_ble_eq_true rfl) rfl dX5_sheet_44 ?_
              refine hR _ _ _ _ dX5_sheet_47 rfl ?_
              simp only [o_sheet, h4, hbits, h37, Bool.false_eq_true, if_true, if_false, Bool.and_true, Bool.true_and, Bool.and_false, Bool.false_and, Bool.and_self, and_self]; first | exact ⟨rfl, rfl⟩ | exact ⟨by decide, rfl⟩ | exact ⟨by decide, z_sm_r _⟩ | exact ⟨rfl, z_sm_r _⟩ | exact ⟨rfl, z_sm_as _⟩ | exact ⟨by decide, z_sm_fM _ (z_sm_as _)⟩
          · have hbits : b_bits y = false := by simp [b_bits, h8, h14, h20, h26]
            refine z_aload0 F dX5_sheet_29 ?_
            refine z_ldc F (-1000001) dX5_sheet_30 zw_721 ?_
            refine z_callVI1 F (c5_finding _ _ 0 (by decide) (by decide)) kX5_93 (by decide) ocM (Nat.le_of_ble_eq_true rfl) rfl dX5_sheet_32 ?_
            refine hR _ _ _ _ dX5_sheet_35 rfl ?_
            simp only [o_sheet, h4, hbits, Bool.false_eq_true, if_true, if_false, Bool.and_true, Bool.true_and, Bool.and_false, Bool.false_and, Bool.and_self, and_self]; first | exact ⟨rfl, rfl⟩ | exact ⟨by decide, rfl⟩ | exact ⟨by decide, z_sm_r _⟩ | exact ⟨rfl, z_sm_r _⟩ | exact ⟨rfl, z_sm_as _⟩ | exact ⟨by decide, z_sm_fM _ (z_sm_as _)⟩
theorem i_ix (j k : Nat) : (40 : Int32) * nI j + nI k = nI (40 * j + k) := by rw [show (40 : Int32) = nI 40 from rfl, pk_mul, nI_add]
theorem b_in_k {v : Int32} {k : Nat} (hk : k ≤ 40) (h : b_in v 0 (nI k - 1) = true) : ∃ i, i < k ∧ v = nI i := by
  have := b_coin_in v (N := k)
  simp only [b_in, Bool.and_eq_true, decide_eq_true_eq] at h
  obtain ⟨j, hj, rfl⟩ := nI_of (x := v) (Int32.not_lt.mpr h.1)
  refine ⟨j, ?_, rfl⟩
  have e : (nI k - 1).toInt = (k : Int) - 1 := pk_sub_toInt (a := k) (b := 1) (by omega) (by omega)
  have h2 := h.2
  rw [Int32.le_iff_toInt_le, e, nI_toInt hj] at h2
  omega
set_option maxHeartbeats 1000000 in
set_option maxRecDepth 20000 in
theorem c5_write (D : zD) (x y z : Int32) (hsz : ∀ s, s < 4 → ∃ k, k ≤ 40 ∧ D.1 13 s = nI k) : z_CI SM zT yX5_write cX5_write 4 .int 2 [.ref 0, .int x, .int y, .int z] D (z_eq (a_ans (o_write D x y z)) (a_M D (o_write D x y z))) := by
  refine z_startI SM_ok (by decide +kernel) (fun v hv => by simp at hv; rcases hv with rfl | rfl | rfl | rfl <;> rfl) (Nat.le_of_ble_eq_true rfl) (fun X F hR => ?_)
  show z_J X SM 0 [some (.ref 0), some (.int x), some (.int y), some (.int z)] [] D
  refine z_iload1 F dX5_write_0 ?_
  refine z_callSI1 F (c5_isSheet _ _) kX5_318 (by decide) (Nat.le_of_ble_eq_true rfl) rfl dX5_write_1 ?_
  refine z_ifb_ne F 14 dX5_write_4 (by decide) (fun h4 => ?_) (fun h4 => ?_)
  · obtain ⟨j, hj, rfl⟩ := b_in0 3 (by decide) h4
    have hjn := i_n_n (j := j) (by omega)
    obtain ⟨k, hk, ek⟩ := hsz j (by omega)
    refine z_aload0 F dX5_write_14 ?_
    refine z_getR F M_widths fX5_61 dX5_write_15 ?_
    refine z_iload1 F dX5_write_18 ?_
    refine z_iald F aM_widths (j) rfl (by omega) dX5_write_19 ?_
    refine z_if_ne F 31 dX5_write_20 (by decide) (fun h20 => ?_) (fun h20 => ?_)
    · refine z_iload2 F dX5_write_31 ?_
      refine z_iconst F 0 dX5_write_32 zv_i_0 ?_
      refine z_aload0 F dX5_write_33 ?_
      refine z_getR F M_sizes fX5_64 dX5_write_34 ?_
      refine z_iload1 F dX5_write_37 ?_
      refine z_iald F aM_sizes (j) rfl (by omega) dX5_write_38 ?_
      refine z_iconst F 1 dX5_write_39 zv_i_1 ?_
      refine z_isub F dX5_write_40 ?_
      rw [ek]
      refine z_callSI3 F (c5_within _ _ _ _) kX5_78 (by decide) (Nat.le_of_ble_eq_true rfl) rfl dX5_write_41 ?_
      refine z_ifb_ne F 54 dX5_write_44 (by decide) (fun h44 => ?_) (fun h44 => ?_)
      · obtain ⟨i, hi, rfl⟩ := b_in_k hk h44
        have hin := i_n_n (j := i) (by omega)
        refine z_aload0 F dX5_write_54 ?_
        refine z_getR F M_numbers fX5_67 dX5_write_55 ?_
        refine z_bipush F 40 dX5_write_58 zv_b_40 ?_
        refine z_iload1 F dX5_write_60 ?_
        refine z_imul F dX5_write_61 ?_
        refine z_iload2 F dX5_write_62 ?_
        refine z_iadd F dX5_write_63 ?_
        refine z_iload3 F dX5_write_64 ?_
        refine z_aload0 F dX5_write_65 ?_
        refine z_getR F M_widths fX5_61 dX5_write_66 ?_
        refine z_iload1 F dX5_write_69 ?_
        refine z_iald F aM_widths (j) rfl (by omega) dX5_write_70 ?_
        refine z_callSI2 F (c5_cutTo _ _ _) kX5_322 (by decide) (Nat.le_of_ble_eq_true rfl) rfl dX5_write_71 ?_
        refine z_iast F aM_numbers (40 * j + i) (i_ix j i) (by omega) dX5_write_74 ?_
        refine z_iconst F 1 dX5_write_75 zv_i_1 ?_
        refine hR _ _ _ _ dX5_write_76 rfl ?_
        simp only [o_write, h4, hjn, h20, ek, h44, hin, Bool.false_eq_true, if_true, if_false, Bool.and_true, Bool.true_and, Bool.and_false, Bool.false_and, Bool.and_self, and_self]; exact ⟨rfl, rfl⟩
      · refine z_aload0 F dX5_write_47 ?_
        refine z_ldc F (-1000001) dX5_write_48 zw_721 ?_
        refine z_callVI1 F (c5_finding _ _ 0 (by decide) (by decide)) kX5_93 (by decide) ocM (Nat.le_of_ble_eq_true rfl) rfl dX5_write_50 ?_
        refine hR _ _ _ _ dX5_write_53 rfl ?_
        simp only [o_write, h4, hjn, h20, ek, h44, Bool.false_eq_true, if_true, if_false, Bool.and_true, Bool.true_and, Bool.and_false, Bool.false_and, Bool.and_self, and_self]; first | exact ⟨rfl, rfl⟩ | exact ⟨by decide, rfl⟩ | exact ⟨by decide, z_sm_r _⟩ | exact ⟨rfl, z_sm_r _⟩ | exact ⟨rfl, z_sm_as _⟩ | exact ⟨by decide, z_sm_fM _ (z_sm_as _)⟩
    · refine z_aload0 F dX5_write_23 ?_
      refine z_ldcw F (-1000006) dX5_write_24 zw_1039 ?_
      refine z_callVI1 F (c5_finding _ _ 5 (by decide) (by decide)) kX5_93 (by decide) ocM (Nat.le_of_ble_eq_true rfl) rfl dX5_write_27 ?_
      refine hR _ _ _ _ dX5_write_30 rfl ?_
      simp only [o_write, h4, hjn, h20, Bool.false_eq_true, if_true, if_false, Bool.and_true, Bool.true_and, Bool.and_false, Bool.false_and, Bool.and_self, and_self]; first | exact ⟨rfl, rfl⟩ | exact ⟨by decide, rfl⟩ | exact ⟨by decide, z_sm_r _⟩ | exact ⟨rfl, z_sm_r _⟩ | exact ⟨rfl, z_sm_as _⟩ | exact ⟨by decide, z_sm_fM _ (z_sm_as _)⟩
  · refine z_aload0 F dX5_write_7 ?_
    refine z_ldc F (-1000001) dX5_write_8 zw_721 ?_
    refine z_callVI1 F (c5_finding _ _ 0 (by decide) (by decide)) kX5_93 (by decide) ocM (Nat.le_of_ble_eq_true rfl) rfl dX5_write_10 ?_
    refine hR _ _ _ _ dX5_write_13 rfl ?_
    simp only [o_write, h4, Bool.false_eq_true, if_true, if_false, Bool.and_true, Bool.true_and, Bool.and_false, Bool.false_and, Bool.and_self, and_self]; first | exact ⟨rfl, rfl⟩ | exact ⟨by decide, rfl⟩ | exact ⟨by decide, z_sm_r _⟩ | exact ⟨rfl, z_sm_r _⟩ | exact ⟨rfl, z_sm_as _⟩ | exact ⟨by decide, z_sm_fM _ (z_sm_as _)⟩
