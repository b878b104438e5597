set_option maxHeartbeats 1000000 in
set_option maxRecDepth 20000 in
theorem c5_kindFor (D : zD) (c : Int32) {N : Nat} (hN : D.1 1 4 = nI N) (h10 : N ≤ 10) : z_CI SM zT yX5_kindFor cX5_kindFor 7 .int 7 [.ref 0, .int c] D (z_qM D (o_kindFor (D.1 1) N c)) := by
  refine z_startI SM_ok (by decide +kernel) (fun v hv => by simp at hv; rcases hv with rfl | rfl <;> rfl) (Nat.le_of_ble_eq_true rfl) (fun X F hR => ?_)
  show z_J X SM 0 [some (.ref 0), some (.int c), none, none, none, none, none] [] D
  refine z_aload0 F dX5_kindFor_0 ?_
  refine z_iload1 F dX5_kindFor_1 ?_
  refine z_callVI1 F (c5_isCoin _ _ hN h10) kX5_120 (by decide) ocM (Nat.le_of_ble_eq_true rfl) rfl dX5_kindFor_2 ?_
  refine z_ifb_ne F 15 dX5_kindFor_5 (by decide) (fun h5 => ?_) (fun h5 => ?_)
  · obtain ⟨j, hj, rfl⟩ := b_coin_ex h10 h5
    have hjn := i_n_n (j := j) (by omega)
    refine z_aload0 F dX5_kindFor_15 ?_
    refine z_iload1 F dX5_kindFor_16 ?_
    refine z_iconst F 0 dX5_kindFor_17 zv_i_0 ?_
    refine z_callVI2 F (c5_isIn _ (j) _ (by omega)) kX5_135 (by decide) ocM (Nat.le_of_ble_eq_true rfl) rfl dX5_kindFor_18 ?_
    refine z_ifb_eq F 31 dX5_kindFor_21 (by decide) (fun h21 => ?_) (fun h21 => ?_)
    · simp only [decide_eq_false_iff_not] at h21
      refine z_aload0 F dX5_kindFor_31 ?_
      refine z_ldc F (-1000005) dX5_kindFor_32 zw_810 ?_
      refine z_callVI1 F (c5_finding _ _ 4 (by decide) (by decide)) kX5_93 (by decide) ocM (Nat.le_of_ble_eq_true rfl) rfl dX5_kindFor_34 ?_
      refine hR _ _ _ _ dX5_kindFor_37 rfl ?_
      simp only [o_kindFor, h5, hjn, h21, not_false_eq_true, true_or, Bool.false_eq_true, if_true, if_false, Bool.and_true, Bool.true_and, Bool.and_false, Bool.false_and, Bool.and_self, and_self]; first | exact ⟨rfl, rfl⟩ | exact ⟨by decide, rfl⟩ | exact ⟨by decide, z_sm_r _⟩ | exact ⟨rfl, z_sm_r _⟩ | exact ⟨rfl, z_sm_as _⟩ | exact ⟨by decide, z_sm_fM _ (z_sm_as _)⟩
    · simp only [decide_eq_true_eq] at h21
      refine z_aload0 F dX5_kindFor_24 ?_
      refine z_callVI0 F (c5_isLate _) kX5_180 (by decide) ocM (Nat.le_of_ble_eq_true rfl) rfl dX5_kindFor_25 ?_
      refine z_ifb_eq F 38 dX5_kindFor_28 (by decide) (fun h28 => ?_) (fun h28 => ?_)
      · simp only [decide_eq_false_iff_not] at h28
        refine z_aload0 F dX5_kindFor_38 ?_
        refine z_iload1 F dX5_kindFor_39 ?_
        refine z_iconst F 0 dX5_kindFor_40 zv_i_0 ?_
        refine z_callVI2 F (c5_coinIs _ (j) 0 (by omega) (by decide)) kX5_105 (by decide) ocM (Nat.le_of_ble_eq_true rfl) rfl dX5_kindFor_41 ?_
        refine z_istore2 F dX5_kindFor_44 rfl ?_
        refine z_iconst F (-1) dX5_kindFor_45 zv_i_m1 ?_
        refine z_istore3 F dX5_kindFor_46 rfl ?_
        refine z_iconst F (-1) dX5_kindFor_47 zv_i_m1 ?_
        refine z_istore4 F dX5_kindFor_48 rfl ?_
        refine z_iconst F 0 dX5_kindFor_50 zv_i_0 ?_
        refine z_istore5 F dX5_kindFor_51 rfl ?_
        have loop : ∀ (n c : Nat), c + n = 7 → ∀ (E : zD), z_sm D E → ∀ (w : Int32) (a6 : Option Value), z_J X SM 53 [some (.ref 0), some (.int (nI j)), some (.int (D.1 1 (16 + 8 * j + 0))), some (.int (s_kind (D.1 1) N j c).1), some (.int (s_kind (D.1 1) N j c).2), some (.int (nI c)), a6] [] (z_row E 1 (upd (D.1 1) (16 + 8 * j + 0) w)) := by
          intro n
          induction n with
          | zero =>
            intro c hn E hs w a6
            refine z_iload5 F dX5_kindFor_53 ?_
            refine z_bipush F 6 dX5_kindFor_55 zv_b_6 ?_
            refine z_ic_gt F 109 dX5_kindFor_57 (by decide) (fun h57 => ?_) (fun h57 => ?_)
            · refine z_aload0 F dX5_kindFor_109 ?_
              refine z_getR F M_now fX5_9 dX5_kindFor_110 ?_
              refine z_iload1 F dX5_kindFor_113 ?_
              refine z_iconst F 0 dX5_kindFor_114 zv_i_0 ?_
              refine z_callSI2 F (c5_at _ (j) 0) kX5_82 (by decide) (Nat.le_of_ble_eq_true rfl) rfl dX5_kindFor_115 ?_
              refine z_iload2 F dX5_kindFor_118 ?_
              refine z_iast F aM_now (16 + 8 * j + 0) rfl (by omega) dX5_kindFor_119 ?_
              rw [z_row_up, u_u, u_self, show z_row E 1 (D.1 1) = E by rw [← hs.1, z_row_eq]]
              refine z_iload3 F dX5_kindFor_120 ?_
              refine hR _ _ _ _ dX5_kindFor_121 rfl ?_
              simp only [o_kindFor, h5, hjn, h21, h28, not_true, or_self, Bool.false_eq_true, if_true, if_false, Bool.and_true, Bool.true_and, Bool.and_false, Bool.false_and, Bool.and_self, and_self]
              rw [show c = 7 by omega]
              exact ⟨rfl, hs⟩
            · exact absurd (nI_lt (a := 6) (b := c) (by omega) (by omega)) h57
          | succ n ih =>
            intro c hn E hs w a6
            refine z_iload5 F dX5_kindFor_53 ?_
            refine z_bipush F 6 dX5_kindFor_55 zv_b_6 ?_
            refine z_ic_gt F 109 dX5_kindFor_57 (by decide) (fun h57 => ?_) (fun h57 => ?_)
            · exact absurd h57 (nI_nlt (a := 6) (b := c) (by omega) (by omega))
            · refine z_aload0 F dX5_kindFor_60 ?_
              refine z_getR F M_now fX5_9 dX5_kindFor_61 ?_
              refine z_iload1 F dX5_kindFor_64 ?_
              refine z_iconst F 0 dX5_kindFor_65 zv_i_0 ?_
              refine z_callSI2 F (c5_at _ (j) 0) kX5_82 (by decide) (Nat.le_of_ble_eq_true rfl) rfl dX5_kindFor_66 ?_
              refine z_iload5 F dX5_kindFor_69 ?_
              refine z_iast F aM_now (16 + 8 * j + 0) rfl (by omega) dX5_kindFor_71 ?_
              rw [z_row_up, u_u]
              refine z_aload0 F dX5_kindFor_72 ?_
              refine z_iload1 F dX5_kindFor_73 ?_
              refine z_iconst F 0 dX5_kindFor_74 zv_i_0 ?_
              refine z_callVI2 F (by have h := c5_till (z_row E 1 (upd (D.1 1) (16 + 8 * j + 0) (nI c))) j false (by rw [z_rowr, u_ne _ _ (by omega)]; exact hN) h10 (by omega); rw [z_rowr, z_as_row1] at h; exact h) kX5_184 (by decide) ocM (Nat.le_of_ble_eq_true rfl) rfl dX5_kindFor_75 ?_
              refine z_istore6 F dX5_kindFor_78 rfl ?_
              refine z_iload6 F dX5_kindFor_80 ?_
              refine z_iload4 F dX5_kindFor_82 ?_
              refine z_ic_le F 92 dX5_kindFor_84 (by decide) (fun h84 => ?_) (fun h84 => ?_)
              · refine z_iload3 F dX5_kindFor_92 ?_
                refine z_istore3 F dX5_kindFor_93 rfl ?_
                refine z_iload4 F dX5_kindFor_94 ?_
                refine z_iload6 F dX5_kindFor_96 ?_
                refine z_max F zw_757 (by decide) rfl (Nat.le_of_ble_eq_true rfl) dX5_kindFor_98 ?_
                refine z_istore4 F dX5_kindFor_101 rfl ?_
                refine z_iinc5 F 1 dX5_kindFor_103 rfl zv_i_1 ?_
                refine z_goto F 53 dX5_kindFor_106 (by decide) ?_
                have h := ih (c + 1) (by omega) (z_row E 2 (fun k => if k < 96 then upd (D.1 1) (16 + 8 * j + 0) (nI c) k else E.1 2 k)) (z_sm_t hs (z_sm_row E _ (Or.inl rfl))) (nI c) (some (.int (nI (v_till (upd (D.1 1) (16 + 8 * j + 0) (nI c)) N j false))))
                rw [nI_succ, s_kind] at h
                simp only [Int32.not_lt.mpr h84, if_false] at h
                rw [i_max_c]
                simp only [Int32.not_lt.mpr h84, if_false]
                exact h
              · refine z_iload5 F dX5_kindFor_87 ?_
                refine z_goto F 93 dX5_kindFor_89 (by decide) ?_
                refine z_istore3 F dX5_kindFor_93 rfl ?_
                refine z_iload4 F dX5_kindFor_94 ?_
                refine z_iload6 F dX5_kindFor_96 ?_
                refine z_max F zw_757 (by decide) rfl (Nat.le_of_ble_eq_true rfl) dX5_kindFor_98 ?_
                refine z_istore4 F dX5_kindFor_101 rfl ?_
                refine z_iinc5 F 1 dX5_kindFor_103 rfl zv_i_1 ?_
                refine z_goto F 53 dX5_kindFor_106 (by decide) ?_
                have h := ih (c + 1) (by omega) (z_row E 2 (fun k => if k < 96 then upd (D.1 1) (16 + 8 * j + 0) (nI c) k else E.1 2 k)) (z_sm_t hs (z_sm_row E _ (Or.inl rfl))) (nI c) (some (.int (nI (v_till (upd (D.1 1) (16 + 8 * j + 0) (nI c)) N j false))))
                rw [nI_succ, s_kind] at h
                simp only [Int32.not_le.mp h84, if_true] at h
                rw [i_max_c]
                simp only [Int32.not_le.mp h84, if_true]
                exact h
        have h := loop 7 0 (by omega) D (z_sm_r D) (D.1 1 (16 + 8 * j + 0)) none
        rw [u_self, z_row_eq] at h
        exact h
      · simp only [decide_eq_true_eq] at h28
        refine z_aload0 F dX5_kindFor_31 ?_
        refine z_ldc F (-1000005) dX5_kindFor_32 zw_810 ?_
        refine z_callVI1 F (c5_finding _ _ 4 (by decide) (by decide)) kX5_93 (by decide) ocM (Nat.le_of_ble_eq_true rfl) rfl dX5_kindFor_34 ?_
        refine hR _ _ _ _ dX5_kindFor_37 rfl ?_
        simp only [o_kindFor, h5, hjn, h21, h28, or_true, Bool.false_eq_true, if_true, if_false, Bool.and_true, Bool.true_and, Bool.and_false, Bool.false_and, Bool.and_self, and_self]; first | exact ⟨rfl, rfl⟩ | exact ⟨by decide, rfl⟩ | exact ⟨by decide, z_sm_r _⟩ | exact ⟨rfl, z_sm_r _⟩ | exact ⟨rfl, z_sm_as _⟩ | exact ⟨by decide, z_sm_fM _ (z_sm_as _)⟩
  · refine z_aload0 F dX5_kindFor_8 ?_
    refine z_ldc F (-1000001) dX5_kindFor_9 zw_721 ?_
    refine z_callVI1 F (c5_finding _ _ 0 (by decide) (by decide)) kX5_93 (by decide) ocM (Nat.le_of_ble_eq_true rfl) rfl dX5_kindFor_11 ?_
    refine hR _ _ _ _ dX5_kindFor_14 rfl ?_
    simp only [o_kindFor, h5, Bool.false_eq_true, if_true, if_false, Bool.and_true, Bool.true_and, Bool.and_false, Bool.false_and, Bool.and_self, and_self]; first | exact ⟨rfl, rfl⟩ | exact ⟨by decide, rfl⟩ | exact ⟨by decide, z_sm_r _⟩ | exact ⟨rfl, z_sm_r _⟩ | exact ⟨rfl, z_sm_as _⟩ | exact ⟨by decide, z_sm_fM _ (z_sm_as _)⟩
set_option maxHeartbeats 1000000 in
set_option maxRecDepth 20000 in
theorem c5_findCarry (D : zD) (q : Nat) {N : Nat} (hN : D.1 1 4 = nI N) (h10 : N ≤ 10) (hq : q ≤ 100) : z_CV SM zT yX5_findCarry cX5_findCarry 7 7 [.ref 0, .int (nI q)] D (fun E => z_sm D E ∧ E.1 0 7 = (s_carry (D.1 1) N q (s_all (D.1 1) N) (2 ^ N)).1 ∧ E.1 0 8 = (s_carry (D.1 1) N q (s_all (D.1 1) N) (2 ^ N)).2) := by
  refine z_startV SM_ok (by decide +kernel) (fun v hv => by simp at hv; rcases hv with rfl | rfl <;> rfl) (Nat.le_of_ble_eq_true rfl) (fun X F hR => ?_)
  show z_J X SM 0 [some (.ref 0), some (.int (nI q)), none, none, none, none, none] [] D
  have hP := i_pow h10
  refine z_aload0 F dX5_findCarry_0 ?_
  refine z_getR F M_now fX5_9 dX5_findCarry_1 ?_
  refine z_aload0 F dX5_findCarry_4 ?_
  refine z_getR F M_aside fX5_16 dX5_findCarry_5 ?_
  refine z_callSV2 F (c5_aside D) kX5_74 (by decide) (Nat.le_of_ble_eq_true rfl) rfl dX5_findCarry_8 ?_
  refine z_aload0 F dX5_findCarry_11 ?_
  refine z_iconst F 0 dX5_findCarry_12 zv_i_0 ?_
  refine z_callVI1 F (by have h := c5_lieIn (z_as D) 0 (by rw [z_as1]; exact hN) h10; rw [z_as1] at h; exact h) kX5_141 (by decide) ocM (Nat.le_of_ble_eq_true rfl) rfl dX5_findCarry_13 ?_
  refine z_aload0 F dX5_findCarry_16 ?_
  refine z_iconst F 3 dX5_findCarry_17 zv_i_3 ?_
  refine z_callVI1 F (by have h := c5_lieIn (z_as D) 3 (by rw [z_as1]; exact hN) h10; rw [z_as1] at h; exact h) kX5_141 (by decide) ocM (Nat.le_of_ble_eq_true rfl) rfl dX5_findCarry_18 ?_
  refine z_ior F dX5_findCarry_21 ?_
  refine z_istore2 F dX5_findCarry_22 rfl ?_
  refine z_aload0 F dX5_findCarry_23 ?_
  refine z_iconst F 0 dX5_findCarry_24 zv_i_0 ?_
  refine z_putI F M_bestSet fX5_199 rfl rfl dX5_findCarry_25 ?_
  refine z_aload0 F dX5_findCarry_28 ?_
  refine z_iconst F 0 dX5_findCarry_29 zv_i_0 ?_
  refine z_putI F M_mostPence fX5_203 rfl rfl dX5_findCarry_30 ?_
  refine z_iconst F 0 dX5_findCarry_33 zv_i_0 ?_
  refine z_istore3 F dX5_findCarry_34 rfl ?_
  have loop : ∀ (n k : Nat), k + n = 2 ^ N → ∀ (E : zD), z_sm D E → E.1 0 7 = (s_carry (D.1 1) N q (s_all (D.1 1) N) k).1 → E.1 0 8 = (s_carry (D.1 1) N q (s_all (D.1 1) N) k).2 → ∀ (a4 a5 a6 : Option Value), z_J X SM 35 [some (.ref 0), some (.int (nI q)), some (.int (s_all (D.1 1) N)), some (.int (nI k)), a4, a5, a6] [] (z_as E) := by
    intro n
    induction n with
    | zero =>
      intro k hn E hs hb hm a4 a5 a6
      refine z_iload3 F dX5_findCarry_35 ?_
      refine z_iconst F 1 dX5_findCarry_36 zv_i_1 ?_
      refine z_aload0 F dX5_findCarry_37 ?_
      refine z_getR F M_now fX5_9 dX5_findCarry_38 ?_
      refine z_iconst F 4 dX5_findCarry_41 zv_i_4 ?_
      refine z_iald F aM_now (4) rfl (by omega) dX5_findCarry_42 ?_
      refine z_ishl F dX5_findCarry_43 ?_
      refine z_ic_ge F 231 dX5_findCarry_44 (by decide) (fun h44 => ?_) (fun h44 => ?_)
      · refine hR _ _ _ dX5_findCarry_231 ?_
        rw [show k = 2 ^ N by omega] at hb hm
        exact ⟨z_sm_t hs (z_sm_as E), hb, hm⟩
      · exact absurd (by rw [z_as1, hs.1, hN, i_p2 h10]; exact nI_le (by omega) (by omega)) h44
    | succ n ih =>
      intro k hn E hs hb hm a4 a5 a6
      refine z_iload3 F dX5_findCarry_35 ?_
      refine z_iconst F 1 dX5_findCarry_36 zv_i_1 ?_
      refine z_aload0 F dX5_findCarry_37 ?_
      refine z_getR F M_now fX5_9 dX5_findCarry_38 ?_
      refine z_iconst F 4 dX5_findCarry_41 zv_i_4 ?_
      refine z_iald F aM_now (4) rfl (by omega) dX5_findCarry_42 ?_
      refine z_ishl F dX5_findCarry_43 ?_
      refine z_ic_ge F 231 dX5_findCarry_44 (by decide) (fun h44 => ?_) (fun h44 => ?_)
      · exact absurd h44 (by rw [z_as1, hs.1, hN, i_p2 h10]; exact nI_ge (by omega) (by omega))
      · refine z_iload3 F dX5_findCarry_47 ?_
        refine z_iload2 F dX5_findCarry_48 ?_
        refine z_iconst F (-1) dX5_findCarry_49 zv_i_m1 ?_
        refine z_ixor F dX5_findCarry_50 ?_
        refine z_iand F dX5_findCarry_51 ?_
        refine z_if_ne F 64 dX5_findCarry_52 (by decide) (fun h52 => ?_) (fun h52 => ?_)
        · have hal : s_inAll (nI k) (s_all (D.1 1) N) = false := by
            simp only [s_inAll, decide_eq_true_eq, decide_eq_false_iff_not]
            exact h52
          refine z_iconst F 0 dX5_findCarry_64 zv_i_0 ?_
          refine z_istore4 F dX5_findCarry_65 rfl ?_
          refine z_iload4 F dX5_findCarry_67 ?_
          refine z_aload0 F dX5_findCarry_69 ?_
          refine z_getI F M_mostPence fX5_203 dX5_findCarry_70 ?_
          refine z_ic_le F 225 dX5_findCarry_73 (by decide) (fun h73 => ?_) (fun h73 => ?_)
          · have h73' : ¬ (s_carry (D.1 1) N q (s_all (D.1 1) N) k).2 < (if s_inAll (nI k) (s_all (D.1 1) N) = true then s_sum (D.1 1) 3 (nI k) N else 0) := by
              rw [hal]
              simp only [Bool.false_eq_true, if_true, if_false, Bool.and_true, Bool.true_and, Bool.and_false, Bool.false_and, Bool.and_self, and_self]
              rw [← hm]
              exact Int32.not_lt.mpr h73
            refine z_iinc3 F 1 dX5_findCarry_225 rfl zv_i_1 ?_
            refine z_goto F 35 dX5_findCarry_228 (by decide) ?_
            have h := ih (k + 1) (by omega) E hs (by rw [s_carry, if_neg (fun z => h73' z.1)]; exact hb) (by rw [s_carry, if_neg (fun z => h73' z.1)]; exact hm)
            simp only [show nI (k + 1) = nI k + 1 from nI_succ k] at h
            exact h _ _ _
          · have hw : (s_carry (D.1 1) N q (s_all (D.1 1) N) k).2 < (if s_inAll (nI k) (s_all (D.1 1) N) = true then s_sum (D.1 1) 3 (nI k) N else 0) := by
              rw [hal]
              simp only [Bool.false_eq_true, if_true, if_false, Bool.and_true, Bool.true_and, Bool.and_false, Bool.false_and, Bool.and_self, and_self]
              rw [← hm]
              exact Int32.not_le.mp h73
            obtain ⟨pn, hpn⟩ : ∃ pn, pn = (if s_inAll (nI k) (s_all (D.1 1) N) = true then s_sum (D.1 1) 3 (nI k) N else 0) := ⟨_, rfl⟩
            have hv : 0 = pn := by rw [hpn, hal]; rfl
            try rw [show s_sum ((z_as E).1 1) 3 (nI k) N = s_sum (D.1 1) 3 (nI k) N by rw [z_as1, hs.1]]
            rw [hv]
            have aft : ∀ (a5 a6 : Option Value), z_J X SM 148 [some (.ref 0), some (.int (nI q)), some (.int (s_all (D.1 1) N)), some (.int (nI k)), some (.int pn), a5, a6] [] (z_row (z_as E) 1 (s_place (D.1 1) (s_all (D.1 1) N) (nI k) N)) := by
              intro a5 a6
              refine z_aload0 F dX5_findCarry_148 ?_
              refine z_iload1 F dX5_findCarry_149 ?_
              refine z_callVI1 F (by have h := c5_stepsGo (z_row (z_as E) 1 (s_place (D.1 1) (s_all (D.1 1) N) (nI k) N)) q (by rw [z_rowr, s_place_lo _ _ _ (by decide)]; exact hN) h10 (by omega); rw [z_rowr, z_row_row] at h; exact h) kX5_170 (by decide) ocM (Nat.le_of_ble_eq_true rfl) rfl dX5_findCarry_150 ?_
              refine z_istore5 F dX5_findCarry_153 rfl ?_
              refine z_iload5 F dX5_findCarry_155 ?_
              refine z_if_lt F 176 dX5_findCarry_157 (by decide) (fun h157 => ?_) (fun h157 => ?_)
              · exact absurd h157 (s_fell_nn _ h10 q)
              · refine z_iload3 F dX5_findCarry_160 ?_
                refine z_aload0 F dX5_findCarry_161 ?_
                refine z_iconst F 0 dX5_findCarry_162 zv_i_0 ?_
                refine z_callVI1 F (c5_lieA _ _ _ (s_steps_N (by rw [s_place_lo _ _ _ (by decide)]; exact hN) _) h10) kX5_141 (by decide) ocM (Nat.le_of_ble_eq_true rfl) rfl dX5_findCarry_163 ?_
                refine z_iconst F (-1) dX5_findCarry_166 zv_i_m1 ?_
                refine z_ixor F dX5_findCarry_167 ?_
                refine z_iand F dX5_findCarry_168 ?_
                refine z_if_ne F 176 dX5_findCarry_169 (by decide) (fun h169 => ?_) (fun h169 => ?_)
                · have hp : s_stays (D.1 1) N q (s_all (D.1 1) N) (nI k) = false := by
                    simp only [s_stays, decide_eq_true_eq, decide_eq_false_iff_not]
                    exact h169
                  refine z_iconst F 0 dX5_findCarry_176 zv_i_0 ?_
                  refine z_istore6 F dX5_findCarry_177 rfl ?_
                  refine z_aload0 F dX5_findCarry_179 ?_
                  refine z_iload6 F dX5_findCarry_180 ?_
                  refine z_if_eq F 189 dX5_findCarry_182 (by decide) (fun h182 => ?_) (fun h182 => ?_)
                  · refine z_aload0 F dX5_findCarry_189 ?_
                    refine z_getI F M_bestSet fX5_199 dX5_findCarry_190 ?_
                    rw [show ((z_row (z_as E) 1 (s_steps (s_place (D.1 1) (s_all (D.1 1) N) (nI k) N) N q)).1 0 7) = (s_carry (D.1 1) N q (s_all (D.1 1) N) k).1 from hb]
                    refine z_putI F M_bestSet fX5_199 rfl rfl dX5_findCarry_193 ?_
                    refine z_aload0 F dX5_findCarry_196 ?_
                    refine z_iload6 F dX5_findCarry_197 ?_
                    refine z_if_eq F 207 dX5_findCarry_199 (by decide) (fun h199 => ?_) (fun h199 => ?_)
                    · refine z_aload0 F dX5_findCarry_207 ?_
                      refine z_getI F M_mostPence fX5_203 dX5_findCarry_208 ?_
                      rw [show (z_up (z_row (z_as E) 1 (s_steps (s_place (D.1 1) (s_all (D.1 1) N) (nI k) N) N q)) 0 7 ((s_carry (D.1 1) N q (s_all (D.1 1) N) k).1)).1 0 8 = (s_carry (D.1 1) N q (s_all (D.1 1) N) k).2 from hm]
                      refine z_putI F M_mostPence fX5_203 rfl rfl dX5_findCarry_211 ?_
                      rw [z_row_up0, z_as_up0, z_row_up0, z_as_up0]
                      refine z_aload0 F dX5_findCarry_214 ?_
                      refine z_getR F M_aside fX5_16 dX5_findCarry_215 ?_
                      refine z_aload0 F dX5_findCarry_218 ?_
                      refine z_getR F M_now fX5_9 dX5_findCarry_219 ?_
                      refine z_callSV2 F (c5_back _ _ (fun i hi => by rw [s_steps_hi _ h10 hi q, s_place_hi _ _ _ hi N h10, z_upo _ _ _ (by decide), z_upo _ _ _ (by decide), hs.1])) kX5_74 (by decide) (Nat.le_of_ble_eq_true rfl) rfl dX5_findCarry_222 ?_
                      refine z_iinc3 F 1 dX5_findCarry_225 rfl zv_i_1 ?_
                      refine z_goto F 35 dX5_findCarry_228 (by decide) ?_
                      have h := ih (k + 1) (by omega) (z_up (z_up E 0 7 ((s_carry (D.1 1) N q (s_all (D.1 1) N) k).1)) 0 8 ((s_carry (D.1 1) N q (s_all (D.1 1) N) k).2)) (z_sm_t hs (z_sm_t (z_sm_0 _ _ (by decide) (by decide)) (z_sm_0 _ _ (by decide) (by decide)))) (by rw [s_carry, if_neg (fun z => by rw [z.2] at hp; exact absurd hp (by decide))]; first | rfl | (rw [z_upr, u_ne _ _ (by decide), z_upr, u_eq])) (by rw [s_carry, if_neg (fun z => by rw [z.2] at hp; exact absurd hp (by decide))]; first | rfl | (rw [z_upr, u_eq]; exact hpn))
                      simp only [show nI (k + 1) = nI k + 1 from nI_succ k] at h
                      exact h _ _ _
                    · exact absurd h199 (by decide)
                  · exact absurd h182 (by decide)
                · have hp : s_stays (D.1 1) N q (s_all (D.1 1) N) (nI k) = true := by
                    simp only [s_stays, decide_eq_true_eq, decide_eq_false_iff_not]
                    exact h169
                  refine z_iconst F 1 dX5_findCarry_172 zv_i_1 ?_
                  refine z_goto F 177 dX5_findCarry_173 (by decide) ?_
                  refine z_istore6 F dX5_findCarry_177 rfl ?_
                  refine z_aload0 F dX5_findCarry_179 ?_
                  refine z_iload6 F dX5_findCarry_180 ?_
                  refine z_if_eq F 189 dX5_findCarry_182 (by decide) (fun h182 => ?_) (fun h182 => ?_)
                  · exact absurd h182 (by decide)
                  · refine z_iload3 F dX5_findCarry_185 ?_
                    refine z_goto F 193 dX5_findCarry_186 (by decide) ?_
                    skip
                    refine z_putI F M_bestSet fX5_199 rfl rfl dX5_findCarry_193 ?_
                    refine z_aload0 F dX5_findCarry_196 ?_
                    refine z_iload6 F dX5_findCarry_197 ?_
                    refine z_if_eq F 207 dX5_findCarry_199 (by decide) (fun h199 => ?_) (fun h199 => ?_)
                    · exact absurd h199 (by decide)
                    · refine z_iload4 F dX5_findCarry_202 ?_
                      refine z_goto F 211 dX5_findCarry_204 (by decide) ?_
                      skip
                      refine z_putI F M_mostPence fX5_203 rfl rfl dX5_findCarry_211 ?_
                      rw [z_row_up0, z_as_up0, z_row_up0, z_as_up0]
                      refine z_aload0 F dX5_findCarry_214 ?_
                      refine z_getR F M_aside fX5_16 dX5_findCarry_215 ?_
                      refine z_aload0 F dX5_findCarry_218 ?_
                      refine z_getR F M_now fX5_9 dX5_findCarry_219 ?_
                      refine z_callSV2 F (c5_back _ _ (fun i hi => by rw [s_steps_hi _ h10 hi q, s_place_hi _ _ _ hi N h10, z_upo _ _ _ (by decide), z_upo _ _ _ (by decide), hs.1])) kX5_74 (by decide) (Nat.le_of_ble_eq_true rfl) rfl dX5_findCarry_222 ?_
                      refine z_iinc3 F 1 dX5_findCarry_225 rfl zv_i_1 ?_
                      refine z_goto F 35 dX5_findCarry_228 (by decide) ?_
                      have h := ih (k + 1) (by omega) (z_up (z_up E 0 7 (nI k)) 0 8 (pn)) (z_sm_t hs (z_sm_t (z_sm_0 _ _ (by decide) (by decide)) (z_sm_0 _ _ (by decide) (by decide)))) (by rw [s_carry, if_pos ⟨hw, hp⟩]; first | rfl | (rw [z_upr, u_ne _ _ (by decide), z_upr, u_eq])) (by rw [s_carry, if_pos ⟨hw, hp⟩]; first | rfl | (rw [z_upr, u_eq]; exact hpn))
                      simp only [show nI (k + 1) = nI k + 1 from nI_succ k] at h
                      exact h _ _ _
            have inner : ∀ (n c : Nat), c + n = N → ∀ (a6 : Option Value), z_J X SM 79 [some (.ref 0), some (.int (nI q)), some (.int (s_all (D.1 1) N)), some (.int (nI k)), some (.int pn), some (.int (nI c)), a6] [] (z_row (z_as E) 1 (s_place (D.1 1) (s_all (D.1 1) N) (nI k) c)) := by
              intro n
              induction n with
              | zero =>
                intro c hn a6
                refine z_iload5 F dX5_findCarry_79 ?_
                refine z_aload0 F dX5_findCarry_81 ?_
                refine z_getR F M_now fX5_9 dX5_findCarry_82 ?_
                refine z_iconst F 4 dX5_findCarry_85 zv_i_4 ?_
                refine z_iald F aM_now (4) rfl (by omega) dX5_findCarry_86 ?_
                refine z_ic_ge F 148 dX5_findCarry_87 (by decide) (fun h87 => ?_) (fun h87 => ?_)
                · rw [show c = N by omega]
                  exact aft _ _
                · exact absurd (by rw [z_rowr, s_place_lo _ _ _ (by decide), hN]; exact nI_le (by omega) (by omega)) h87
              | succ n ih =>
                intro c hn a6
                refine z_iload5 F dX5_findCarry_79 ?_
                refine z_aload0 F dX5_findCarry_81 ?_
                refine z_getR F M_now fX5_9 dX5_findCarry_82 ?_
                refine z_iconst F 4 dX5_findCarry_85 zv_i_4 ?_
                refine z_iald F aM_now (4) rfl (by omega) dX5_findCarry_86 ?_
                refine z_ic_ge F 148 dX5_findCarry_87 (by decide) (fun h87 => ?_) (fun h87 => ?_)
                · exact absurd h87 (by rw [z_rowr, s_place_lo _ _ _ (by decide), hN]; exact nI_ge (by omega) (by omega))
                · refine z_iload2 F dX5_findCarry_90 ?_
                  refine z_iload5 F dX5_findCarry_91 ?_
                  refine z_callSI2 F (c5_has _ (s_all (D.1 1) N) c) kX5_138 (by decide) (Nat.le_of_ble_eq_true rfl) rfl dX5_findCarry_93 ?_
                  refine z_ifb_eq F 122 dX5_findCarry_96 (by decide) (fun h96 => ?_) (fun h96 => ?_)
                  · refine z_iconst F 0 dX5_findCarry_122 zv_i_0 ?_
                    refine z_istore6 F dX5_findCarry_123 rfl ?_
                    refine z_aload0 F dX5_findCarry_125 ?_
                    refine z_iload6 F dX5_findCarry_126 ?_
                    refine z_if_ge F 135 dX5_findCarry_128 (by decide) (fun h128 => ?_) (fun h128 => ?_)
                    · refine z_aload0 F dX5_findCarry_135 ?_
                      refine z_getI F M_bestSet fX5_199 dX5_findCarry_136 ?_
                      refine z_putI F M_bestSet fX5_199 rfl rfl dX5_findCarry_139 ?_
                      rw [z_up_self]
                      refine z_iinc5 F 1 dX5_findCarry_142 rfl zv_i_1 ?_
                      refine z_goto F 79 dX5_findCarry_145 (by decide) ?_
                      have h := ih (c + 1) (by omega) (some (.int (0)))
                      rw [nI_succ, s_place] at h
                      simp only [h96, Bool.false_eq_true, if_true, if_false, Bool.and_true, Bool.true_and, Bool.and_false, Bool.false_and, Bool.and_self, and_self] at h
                      exact h
                    · exact absurd h128 (by decide)
                  · refine z_aload0 F dX5_findCarry_99 ?_
                    refine z_iload5 F dX5_findCarry_100 ?_
                    refine z_iload3 F dX5_findCarry_102 ?_
                    refine z_iload5 F dX5_findCarry_103 ?_
                    refine z_callSI2 F (c5_has _ (nI k) c) kX5_138 (by decide) (Nat.le_of_ble_eq_true rfl) rfl dX5_findCarry_105 ?_
                    refine z_ifb_eq F 115 dX5_findCarry_108 (by decide) (fun h108 => ?_) (fun h108 => ?_)
                    · have hpl : ¬ (s_place (D.1 1) (s_all (D.1 1) N) (nI k) c) (16 + 8 * c + 4) < 0 := by
                        have e := (s_all_pl (D.1 1) h10 (show c < 31 by omega)).symm.trans h96
                        rw [s_place_ah _ _ _ (by decide) c (Nat.le_refl _)]
                        simp only [Bool.and_eq_true, Bool.or_eq_true, decide_eq_true_eq] at e
                        rcases e.2 with e | e <;> rw [e] <;> decide
                      refine z_iconst F 3 dX5_findCarry_115 zv_i_3 ?_
                      refine z_callVI2 F (by have h := c5_goesTo (z_row (z_as E) 1 (s_place (D.1 1) (s_all (D.1 1) N) (nI k) c)) c 3 (by omega); rw [z_rowr, z_row_row] at h; exact h) kX5_86 (by decide) ocM (Nat.le_of_ble_eq_true rfl) rfl dX5_findCarry_116 ?_
                      refine z_goto F 123 dX5_findCarry_119 (by decide) ?_
                      refine z_istore6 F dX5_findCarry_123 rfl ?_
                      refine z_aload0 F dX5_findCarry_125 ?_
                      refine z_iload6 F dX5_findCarry_126 ?_
                      refine z_if_ge F 135 dX5_findCarry_128 (by decide) (fun h128 => ?_) (fun h128 => ?_)
                      · refine z_aload0 F dX5_findCarry_135 ?_
                        refine z_getI F M_bestSet fX5_199 dX5_findCarry_136 ?_
                        refine z_putI F M_bestSet fX5_199 rfl rfl dX5_findCarry_139 ?_
                        rw [z_up_self]
                        refine z_iinc5 F 1 dX5_findCarry_142 rfl zv_i_1 ?_
                        refine z_goto F 79 dX5_findCarry_145 (by decide) ?_
                        have h := ih (c + 1) (by omega) (some (.int ((s_place (D.1 1) (s_all (D.1 1) N) (nI k) c) (16 + 8 * c + 4))))
                        rw [nI_succ, s_place] at h
                        simp only [h96, h108, Bool.false_eq_true, if_true, if_false, Bool.and_true, Bool.true_and, Bool.and_false, Bool.false_and, Bool.and_self, and_self] at h
                        exact h
                      · exact absurd (Int32.not_lt.mp hpl) h128
                    · have hpl : ¬ (s_place (D.1 1) (s_all (D.1 1) N) (nI k) c) (16 + 8 * c + 4) < 0 := by
                        have e := (s_all_pl (D.1 1) h10 (show c < 31 by omega)).symm.trans h96
                        rw [s_place_ah _ _ _ (by decide) c (Nat.le_refl _)]
                        simp only [Bool.and_eq_true, Bool.or_eq_true, decide_eq_true_eq] at e
                        rcases e.2 with e | e <;> rw [e] <;> decide
                      refine z_iconst F 0 dX5_findCarry_111 zv_i_0 ?_
                      refine z_goto F 116 dX5_findCarry_112 (by decide) ?_
                      refine z_callVI2 F (by have h := c5_goesTo (z_row (z_as E) 1 (s_place (D.1 1) (s_all (D.1 1) N) (nI k) c)) c 0 (by omega); rw [z_rowr, z_row_row] at h; exact h) kX5_86 (by decide) ocM (Nat.le_of_ble_eq_true rfl) rfl dX5_findCarry_116 ?_
                      refine z_goto F 123 dX5_findCarry_119 (by decide) ?_
                      refine z_istore6 F dX5_findCarry_123 rfl ?_
                      refine z_aload0 F dX5_findCarry_125 ?_
                      refine z_iload6 F dX5_findCarry_126 ?_
                      refine z_if_ge F 135 dX5_findCarry_128 (by decide) (fun h128 => ?_) (fun h128 => ?_)
                      · refine z_aload0 F dX5_findCarry_135 ?_
                        refine z_getI F M_bestSet fX5_199 dX5_findCarry_136 ?_
                        refine z_putI F M_bestSet fX5_199 rfl rfl dX5_findCarry_139 ?_
                        rw [z_up_self]
                        refine z_iinc5 F 1 dX5_findCarry_142 rfl zv_i_1 ?_
                        refine z_goto F 79 dX5_findCarry_145 (by decide) ?_
                        have h := ih (c + 1) (by omega) (some (.int ((s_place (D.1 1) (s_all (D.1 1) N) (nI k) c) (16 + 8 * c + 4))))
                        rw [nI_succ, s_place] at h
                        simp only [h96, h108, Bool.false_eq_true, if_true, if_false, Bool.and_true, Bool.true_and, Bool.and_false, Bool.false_and, Bool.and_self, and_self] at h
                        exact h
                      · exact absurd (Int32.not_lt.mp hpl) h128
            have e : z_as E = z_row (z_as E) 1 (D.1 1) := by rw [← hs.1, ← z_as_row]
            refine z_iconst F 0 dX5_findCarry_76 zv_i_0 ?_
            refine z_istore5 F dX5_findCarry_77 rfl ?_
            rw [e]
            exact inner N 0 (by omega) _
        · have hal : s_inAll (nI k) (s_all (D.1 1) N) = true := by
            simp only [s_inAll, decide_eq_true_eq, decide_eq_false_iff_not]
            exact h52
          refine z_aload0 F dX5_findCarry_55 ?_
          refine z_iload3 F dX5_findCarry_56 ?_
          refine z_iconst F 3 dX5_findCarry_57 zv_i_3 ?_
          refine z_callVI2 F (by have h := c5_sumOf (z_as E) 3 (nI k) (by rw [z_as1, hs.1]; exact hN) h10 (by decide); rw [z_as1, hs.1] at h; exact h) kX5_144 (by decide) ocM (Nat.le_of_ble_eq_true rfl) rfl dX5_findCarry_58 ?_
          refine z_goto F 65 dX5_findCarry_61 (by decide) ?_
          refine z_istore4 F dX5_findCarry_65 rfl ?_
          refine z_iload4 F dX5_findCarry_67 ?_
          refine z_aload0 F dX5_findCarry_69 ?_
          refine z_getI F M_mostPence fX5_203 dX5_findCarry_70 ?_
          refine z_ic_le F 225 dX5_findCarry_73 (by decide) (fun h73 => ?_) (fun h73 => ?_)
          · have h73' : ¬ (s_carry (D.1 1) N q (s_all (D.1 1) N) k).2 < (if s_inAll (nI k) (s_all (D.1 1) N) = true then s_sum (D.1 1) 3 (nI k) N else 0) := by
              rw [hal]
              simp only [Bool.false_eq_true, if_true, if_false, Bool.and_true, Bool.true_and, Bool.and_false, Bool.false_and, Bool.and_self, and_self]
              rw [← hm]
              exact Int32.not_lt.mpr h73
            refine z_iinc3 F 1 dX5_findCarry_225 rfl zv_i_1 ?_
            refine z_goto F 35 dX5_findCarry_228 (by decide) ?_
            have h := ih (k + 1) (by omega) E hs (by rw [s_carry, if_neg (fun z => h73' z.1)]; exact hb) (by rw [s_carry, if_neg (fun z => h73' z.1)]; exact hm)
            simp only [show nI (k + 1) = nI k + 1 from nI_succ k] at h
            exact h _ _ _
          · have hw : (s_carry (D.1 1) N q (s_all (D.1 1) N) k).2 < (if s_inAll (nI k) (s_all (D.1 1) N) = true then s_sum (D.1 1) 3 (nI k) N else 0) := by
              rw [hal]
              simp only [Bool.false_eq_true, if_true, if_false, Bool.and_true, Bool.true_and, Bool.and_false, Bool.false_and, Bool.and_self, and_self]
              rw [← hm]
              exact Int32.not_le.mp h73
            obtain ⟨pn, hpn⟩ : ∃ pn, pn = (if s_inAll (nI k) (s_all (D.1 1) N) = true then s_sum (D.1 1) 3 (nI k) N else 0) := ⟨_, rfl⟩
            have hv : s_sum (D.1 1) 3 (nI k) N = pn := by rw [hpn, hal]; rfl
            try rw [show s_sum ((z_as E).1 1) 3 (nI k) N = s_sum (D.1 1) 3 (nI k) N by rw [z_as1, hs.1]]
            rw [hv]
            have aft : ∀ (a5 a6 : Option Value), z_J X SM 148 [some (.ref 0), some (.int (nI q)), some (.int (s_all (D.1 1) N)), some (.int (nI k)), some (.int pn), a5, a6] [] (z_row (z_as E) 1 (s_place (D.1 1) (s_all (D.1 1) N) (nI k) N)) := by
              intro a5 a6
              refine z_aload0 F dX5_findCarry_148 ?_
              refine z_iload1 F dX5_findCarry_149 ?_
              refine z_callVI1 F (by have h := c5_stepsGo (z_row (z_as E) 1 (s_place (D.1 1) (s_all (D.1 1) N) (nI k) N)) q (by rw [z_rowr, s_place_lo _ _ _ (by decide)]; exact hN) h10 (by omega); rw [z_rowr, z_row_row] at h; exact h) kX5_170 (by decide) ocM (Nat.le_of_ble_eq_true rfl) rfl dX5_findCarry_150 ?_
              refine z_istore5 F dX5_findCarry_153 rfl ?_
              refine z_iload5 F dX5_findCarry_155 ?_
              refine z_if_lt F 176 dX5_findCarry_157 (by decide) (fun h157 => ?_) (fun h157 => ?_)
              · exact absurd h157 (s_fell_nn _ h10 q)
              · refine z_iload3 F dX5_findCarry_160 ?_
                refine z_aload0 F dX5_findCarry_161 ?_
                refine z_iconst F 0 dX5_findCarry_162 zv_i_0 ?_
                refine z_callVI1 F (c5_lieA _ _ _ (s_steps_N (by rw [s_place_lo _ _ _ (by decide)]; exact hN) _) h10) kX5_141 (by decide) ocM (Nat.le_of_ble_eq_true rfl) rfl dX5_findCarry_163 ?_
                refine z_iconst F (-1) dX5_findCarry_166 zv_i_m1 ?_
                refine z_ixor F dX5_findCarry_167 ?_
                refine z_iand F dX5_findCarry_168 ?_
                refine z_if_ne F 176 dX5_findCarry_169 (by decide) (fun h169 => ?_) (fun h169 => ?_)
                · have hp : s_stays (D.1 1) N q (s_all (D.1 1) N) (nI k) = false := by
                    simp only [s_stays, decide_eq_true_eq, decide_eq_false_iff_not]
                    exact h169
                  refine z_iconst F 0 dX5_findCarry_176 zv_i_0 ?_
                  refine z_istore6 F dX5_findCarry_177 rfl ?_
                  refine z_aload0 F dX5_findCarry_179 ?_
                  refine z_iload6 F dX5_findCarry_180 ?_
                  refine z_if_eq F 189 dX5_findCarry_182 (by decide) (fun h182 => ?_) (fun h182 => ?_)
                  · refine z_aload0 F dX5_findCarry_189 ?_
                    refine z_getI F M_bestSet fX5_199 dX5_findCarry_190 ?_
                    rw [show ((z_row (z_as E) 1 (s_steps (s_place (D.1 1) (s_all (D.1 1) N) (nI k) N) N q)).1 0 7) = (s_carry (D.1 1) N q (s_all (D.1 1) N) k).1 from hb]
                    refine z_putI F M_bestSet fX5_199 rfl rfl dX5_findCarry_193 ?_
                    refine z_aload0 F dX5_findCarry_196 ?_
                    refine z_iload6 F dX5_findCarry_197 ?_
                    refine z_if_eq F 207 dX5_findCarry_199 (by decide) (fun h199 => ?_) (fun h199 => ?_)
                    · refine z_aload0 F dX5_findCarry_207 ?_
                      refine z_getI F M_mostPence fX5_203 dX5_findCarry_208 ?_
                      rw [show (z_up (z_row (z_as E) 1 (s_steps (s_place (D.1 1) (s_all (D.1 1) N) (nI k) N) N q)) 0 7 ((s_carry (D.1 1) N q (s_all (D.1 1) N) k).1)).1 0 8 = (s_carry (D.1 1) N q (s_all (D.1 1) N) k).2 from hm]
                      refine z_putI F M_mostPence fX5_203 rfl rfl dX5_findCarry_211 ?_
                      rw [z_row_up0, z_as_up0, z_row_up0, z_as_up0]
                      refine z_aload0 F dX5_findCarry_214 ?_
                      refine z_getR F M_aside fX5_16 dX5_findCarry_215 ?_
                      refine z_aload0 F dX5_findCarry_218 ?_
                      refine z_getR F M_now fX5_9 dX5_findCarry_219 ?_
                      refine z_callSV2 F (c5_back _ _ (fun i hi => by rw [s_steps_hi _ h10 hi q, s_place_hi _ _ _ hi N h10, z_upo _ _ _ (by decide), z_upo _ _ _ (by decide), hs.1])) kX5_74 (by decide) (Nat.le_of_ble_eq_true rfl) rfl dX5_findCarry_222 ?_
                      refine z_iinc3 F 1 dX5_findCarry_225 rfl zv_i_1 ?_
                      refine z_goto F 35 dX5_findCarry_228 (by decide) ?_
                      have h := ih (k + 1) (by omega) (z_up (z_up E 0 7 ((s_carry (D.1 1) N q (s_all (D.1 1) N) k).1)) 0 8 ((s_carry (D.1 1) N q (s_all (D.1 1) N) k).2)) (z_sm_t hs (z_sm_t (z_sm_0 _ _ (by decide) (by decide)) (z_sm_0 _ _ (by decide) (by decide)))) (by rw [s_carry, if_neg (fun z => by rw [z.2] at hp; exact absurd hp (by decide))]; first | rfl | (rw [z_upr, u_ne _ _ (by decide), z_upr, u_eq])) (by rw [s_carry, if_neg (fun z => by rw [z.2] at hp; exact absurd hp (by decide))]; first | rfl | (rw [z_upr, u_eq]; exact hpn))
                      simp only [show nI (k + 1) = nI k + 1 from nI_succ k] at h
                      exact h _ _ _
                    · exact absurd h199 (by decide)
                  · exact absurd h182 (by decide)
                · have hp : s_stays (D.1 1) N q (s_all (D.1 1) N) (nI k) = true := by
                    simp only [s_stays, decide_eq_true_eq, decide_eq_false_iff_not]
                    exact h169
                  refine z_iconst F 1 dX5_findCarry_172 zv_i_1 ?_
                  refine z_goto F 177 dX5_findCarry_173 (by decide) ?_
                  refine z_istore6 F dX5_findCarry_177 rfl ?_
                  refine z_aload0 F dX5_findCarry_179 ?_
                  refine z_iload6 F dX5_findCarry_180 ?_
                  refine z_if_eq F 189 dX5_findCarry_182 (by decide) (fun h182 => ?_) (fun h182 => ?_)
                  · exact absurd h182 (by decide)
                  · refine z_iload3 F dX5_findCarry_185 ?_
                    refine z_goto F 193 dX5_findCarry_186 (by decide) ?_
                    skip
                    refine z_putI F M_bestSet fX5_199 rfl rfl dX5_findCarry_193 ?_
                    refine z_aload0 F dX5_findCarry_196 ?_
                    refine z_iload6 F dX5_findCarry_197 ?_
                    refine z_if_eq F 207 dX5_findCarry_199 (by decide) (fun h199 => ?_) (fun h199 => ?_)
                    · exact absurd h199 (by decide)
                    · refine z_iload4 F dX5_findCarry_202 ?_
                      refine z_goto F 211 dX5_findCarry_204 (by decide) ?_
                      skip
                      refine z_putI F M_mostPence fX5_203 rfl rfl dX5_findCarry_211 ?_
                      rw [z_row_up0, z_as_up0, z_row_up0, z_as_up0]
                      refine z_aload0 F dX5_findCarry_214 ?_
                      refine z_getR F M_aside fX5_16 dX5_findCarry_215 ?_
                      refine z_aload0 F dX5_findCarry_218 ?_
                      refine z_getR F M_now fX5_9 dX5_findCarry_219 ?_
                      refine z_callSV2 F (c5_back _ _ (fun i hi => by rw [s_steps_hi _ h10 hi q, s_place_hi _ _ _ hi N h10, z_upo _ _ _ (by decide), z_upo _ _ _ (by decide), hs.1])) kX5_74 (by decide) (Nat.le_of_ble_eq_true rfl) rfl dX5_findCarry_222 ?_
                      refine z_iinc3 F 1 dX5_findCarry_225 rfl zv_i_1 ?_
                      refine z_goto F 35 dX5_findCarry_228 (by decide) ?_
                      have h := ih (k + 1) (by omega) (z_up (z_up E 0 7 (nI k)) 0 8 (pn)) (z_sm_t hs (z_sm_t (z_sm_0 _ _ (by decide) (by decide)) (z_sm_0 _ _ (by decide) (by decide)))) (by rw [s_carry, if_pos ⟨hw, hp⟩]; first | rfl | (rw [z_upr, u_ne _ _ (by decide), z_upr, u_eq])) (by rw [s_carry, if_pos ⟨hw, hp⟩]; first | rfl | (rw [z_upr, u_eq]; exact hpn))
                      simp only [show nI (k + 1) = nI k + 1 from nI_succ k] at h
                      exact h _ _ _
            have inner : ∀ (n c : Nat), c + n = N → ∀ (a6 : Option Value), z_J X SM 79 [some (.ref 0), some (.int (nI q)), some (.int (s_all (D.1 1) N)), some (.int (nI k)), some (.int pn), some (.int (nI c)), a6] [] (z_row (z_as E) 1 (s_place (D.1 1) (s_all (D.1 1) N) (nI k) c)) := by
              intro n
              induction n with
              | zero =>
                intro c hn a6
                refine z_iload5 F dX5_findCarry_79 ?_
                refine z_aload0 F dX5_findCarry_81 ?_
                refine z_getR F M_now fX5_9 dX5_findCarry_82 ?_
                refine z_iconst F 4 dX5_findCarry_85 zv_i_4 ?_
                refine z_iald F aM_now (4) rfl (by omega) dX5_findCarry_86 ?_
                refine z_ic_ge F 148 dX5_findCarry_87 (by decide) (fun h87 => ?_) (fun h87 => ?_)
                · rw [show c = N by omega]
                  exact aft _ _
                · exact absurd (by rw [z_rowr, s_place_lo _ _ _ (by decide), hN]; exact nI_le (by omega) (by omega)) h87
              | succ n ih =>
                intro c hn a6
                refine z_iload5 F dX5_findCarry_79 ?_
                refine z_aload0 F dX5_findCarry_81 ?_
                refine z_getR F M_now fX5_9 dX5_findCarry_82 ?_
                refine z_iconst F 4 dX5_findCarry_85 zv_i_4 ?_
                refine z_iald F aM_now (4) rfl (by omega) dX5_findCarry_86 ?_
                refine z_ic_ge F 148 dX5_findCarry_87 (by decide) (fun h87 => ?_) (fun h87 => ?_)
                · exact absurd h87 (by rw [z_rowr, s_place_lo _ _ _ (by decide), hN]; exact nI_ge (by omega) (by omega))
                · refine z_iload2 F dX5_findCarry_90 ?_
                  refine z_iload5 F dX5_findCarry_91 ?_
                  refine z_callSI2 F (c5_has _ (s_all (D.1 1) N) c) kX5_138 (by decide) (Nat.le_of_ble_eq_true rfl) rfl dX5_findCarry_93 ?_
                  refine z_ifb_eq F 122 dX5_findCarry_96 (by decide) (fun h96 => ?_) (fun h96 => ?_)
                  · refine z_iconst F 0 dX5_findCarry_122 zv_i_0 ?_
                    refine z_istore6 F dX5_findCarry_123 rfl ?_
                    refine z_aload0 F dX5_findCarry_125 ?_
                    refine z_iload6 F dX5_findCarry_126 ?_
                    refine z_if_ge F 135 dX5_findCarry_128 (by decide) (fun h128 => ?_) (fun h128 => ?_)
                    · refine z_aload0 F dX5_findCarry_135 ?_
                      refine z_getI F M_bestSet fX5_199 dX5_findCarry_136 ?_
                      refine z_putI F M_bestSet fX5_199 rfl rfl dX5_findCarry_139 ?_
                      rw [z_up_self]
                      refine z_iinc5 F 1 dX5_findCarry_142 rfl zv_i_1 ?_
                      refine z_goto F 79 dX5_findCarry_145 (by decide) ?_
                      have h := ih (c + 1) (by omega) (some (.int (0)))
                      rw [nI_succ, s_place] at h
                      simp only [h96, Bool.false_eq_true, if_true, if_false, Bool.and_true, Bool.true_and, Bool.and_false, Bool.false_and, Bool.and_self, and_self] at h
                      exact h
                    · exact absurd h128 (by decide)
                  · refine z_aload0 F dX5_findCarry_99 ?_
                    refine z_iload5 F dX5_findCarry_100 ?_
                    refine z_iload3 F dX5_findCarry_102 ?_
                    refine z_iload5 F dX5_findCarry_103 ?_
                    refine z_callSI2 F (c5_has _ (nI k) c) kX5_138 (by decide) (Nat.le_of_ble_eq_true rfl) rfl dX5_findCarry_105 ?_
                    refine z_ifb_eq F 115 dX5_findCarry_108 (by decide) (fun h108 => ?_) (fun h108 => ?_)
                    · have hpl : ¬ (s_place (D.1 1) (s_all (D.1 1) N) (nI k) c) (16 + 8 * c + 4) < 0 := by
                        have e := (s_all_pl (D.1 1) h10 (show c < 31 by omega)).symm.trans h96
                        rw [s_place_ah _ _ _ (by decide) c (Nat.le_refl _)]
                        simp only [Bool.and_eq_true, Bool.or_eq_true, decide_eq_true_eq] at e
                        rcases e.2 with e | e <;> rw [e] <;> decide
                      refine z_iconst F 3 dX5_findCarry_115 zv_i_3 ?_
                      refine z_callVI2 F (by have h := c5_goesTo (z_row (z_as E) 1 (s_place (D.1 1) (s_all (D.1 1) N) (nI k) c)) c 3 (by omega); rw [z_rowr, z_row_row] at h; exact h) kX5_86 (by decide) ocM (Nat.le_of_ble_eq_true rfl) rfl dX5_findCarry_116 ?_
                      refine z_goto F 123 dX5_findCarry_119 (by decide) ?_
                      refine z_istore6 F dX5_findCarry_123 rfl ?_
                      refine z_aload0 F dX5_findCarry_125 ?_
                      refine z_iload6 F dX5_findCarry_126 ?_
                      refine z_if_ge F 135 dX5_findCarry_128 (by decide) (fun h128 => ?_) (fun h128 => ?_)
                      · refine z_aload0 F dX5_findCarry_135 ?_
                        refine z_getI F M_bestSet fX5_199 dX5_findCarry_136 ?_
                        refine z_putI F M_bestSet fX5_199 rfl rfl dX5_findCarry_139 ?_
                        rw [z_up_self]
                        refine z_iinc5 F 1 dX5_findCarry_142 rfl zv_i_1 ?_
                        refine z_goto F 79 dX5_findCarry_145 (by decide) ?_
                        have h := ih (c + 1) (by omega) (some (.int ((s_place (D.1 1) (s_all (D.1 1) N) (nI k) c) (16 + 8 * c + 4))))
                        rw [nI_succ, s_place] at h
                        simp only [h96, h108, Bool.false_eq_true, if_true, if_false, Bool.and_true, Bool.true_and, Bool.and_false, Bool.false_and, Bool.and_self, and_self] at h
                        exact h
                      · exact absurd (Int32.not_lt.mp hpl) h128
                    · have hpl : ¬ (s_place (D.1 1) (s_all (D.1 1) N) (nI k) c) (16 + 8 * c + 4) < 0 := by
                        have e := (s_all_pl (D.1 1) h10 (show c < 31 by omega)).symm.trans h96
                        rw [s_place_ah _ _ _ (by decide) c (Nat.le_refl _)]
                        simp only [Bool.and_eq_true, Bool.or_eq_true, decide_eq_true_eq] at e
                        rcases e.2 with e | e <;> rw [e] <;> decide
                      refine z_iconst F 0 dX5_findCarry_111 zv_i_0 ?_
                      refine z_goto F 116 dX5_findCarry_112 (by decide) ?_
                      refine z_callVI2 F (by have h := c5_goesTo (z_row (z_as E) 1 (s_place (D.1 1) (s_all (D.1 1) N) (nI k) c)) c 0 (by omega); rw [z_rowr, z_row_row] at h; exact h) kX5_86 (by decide) ocM (Nat.le_of_ble_eq_true rfl) rfl dX5_findCarry_116 ?_
                      refine z_goto F 123 dX5_findCarry_119 (by decide) ?_
                      refine z_istore6 F dX5_findCarry_123 rfl ?_
                      refine z_aload0 F dX5_findCarry_125 ?_
                      refine z_iload6 F dX5_findCarry_126 ?_
                      refine z_if_ge F 135 dX5_findCarry_128 (by decide) (fun h128 => ?_) (fun h128 => ?_)
                      · refine z_aload0 F dX5_findCarry_135 ?_
                        refine z_getI F M_bestSet fX5_199 dX5_findCarry_136 ?_
                        refine z_putI F M_bestSet fX5_199 rfl rfl dX5_findCarry_139 ?_
                        rw [z_up_self]
                        refine z_iinc5 F 1 dX5_findCarry_142 rfl zv_i_1 ?_
                        refine z_goto F 79 dX5_findCarry_145 (by decide) ?_
                        have h := ih (c + 1) (by omega) (some (.int ((s_place (D.1 1) (s_all (D.1 1) N) (nI k) c) (16 + 8 * c + 4))))
                        rw [nI_succ, s_place] at h
                        simp only [h96, h108, Bool.false_eq_true, if_true, if_false, Bool.and_true, Bool.true_and, Bool.and_false, Bool.false_and, Bool.and_self, and_self] at h
                        exact h
                      · exact absurd (Int32.not_lt.mp hpl) h128
            have e : z_as E = z_row (z_as E) 1 (D.1 1) := by rw [← hs.1, ← z_as_row]
            refine z_iconst F 0 dX5_findCarry_76 zv_i_0 ?_
            refine z_istore5 F dX5_findCarry_77 rfl ?_
            rw [e]
            exact inner N 0 (by omega) _
  rw [z_as_up0, z_as_up0]
  exact loop (2 ^ N) 0 (by omega) _ (z_sm_t (z_sm_0 _ _ (by decide) (by decide)) (z_sm_0 _ _ (by decide) (by decide))) (by rw [z_upr, u_ne _ _ (by decide), z_upr, u_eq]; rfl) (by rw [z_upr, u_eq]; rfl) none none none
set_option maxHeartbeats 1000000 in
set_option maxRecDepth 20000 in
theorem c5_carry (D : zD) (x : Int32) {N : Nat} (hN : D.1 1 4 = nI N) (h10 : N ≤ 10) : z_CI SM zT yX5_carry cX5_carry 3 .int 8 [.ref 0, .int x] D (z_qM D (o_carry (D.1 1) N x)) := by
  refine z_startI SM_ok (by decide +kernel) (fun v hv => by simp at hv; rcases hv with rfl | rfl <;> rfl) (Nat.le_of_ble_eq_true rfl) (fun X F hR => ?_)
  show z_J X SM 0 [some (.ref 0), some (.int x), none] [] D
  refine z_aload0 F dX5_carry_0 ?_
  refine z_iconst F 1 dX5_carry_1 zv_i_1 ?_
  refine z_iload1 F dX5_carry_2 ?_
  refine z_bipush F 100 dX5_carry_3 zv_b_100 ?_
  by_cases hb : b_in x 1 100 = true
  · by_cases hl : 9999 < D.1 1 0 + x
    · refine z_callVI3 F (c5_refL D true x 100 (by rw [Bool.true_and]; exact hb) hl) kX5_192 (by decide) ocM (Nat.le_of_ble_eq_true rfl) rfl dX5_carry_5 ?_
      refine z_istore2 F dX5_carry_8 rfl ?_
      refine z_iload2 F dX5_carry_9 ?_
      refine z_if_eq F 19 dX5_carry_10 (by decide) (fun h10 => ?_) (fun h10 => ?_)
      · exact absurd h10 (by decide)
      · refine z_aload0 F dX5_carry_13 ?_
        refine z_iload2 F dX5_carry_14 ?_
        refine z_callVI1 F (c5_finding _ _ 4 (by decide) (by decide)) kX5_93 (by decide) ocM (Nat.le_of_ble_eq_true rfl) rfl dX5_carry_15 ?_
        refine hR _ _ _ _ dX5_carry_18 rfl ?_
        simp only [o_carry, hb, hl, Bool.false_eq_true, if_true, if_false, Bool.and_true, Bool.true_and, Bool.and_false, Bool.false_and, Bool.and_self, and_self]; first | exact ⟨rfl, rfl⟩ | exact ⟨by decide, rfl⟩ | exact ⟨by decide, z_sm_r _⟩ | exact ⟨rfl, z_sm_r _⟩ | exact ⟨rfl, z_sm_as _⟩ | exact ⟨by decide, z_sm_fM _ (z_sm_as _)⟩
    · refine z_callVI3 F (c5_refO D true x 100 (by rw [Bool.true_and]; exact hb) hl) kX5_192 (by decide) ocM (Nat.le_of_ble_eq_true rfl) rfl dX5_carry_5 ?_
      refine z_istore2 F dX5_carry_8 rfl ?_
      refine z_iload2 F dX5_carry_9 ?_
      obtain ⟨q, hq1, hq, rfl⟩ := b_in1 100 (by decide) hb
      have hqn := i_n_n (j := q) (by omega)
      refine z_if_eq F 19 dX5_carry_10 (by decide) (fun h10 => ?_) (fun h10 => ?_)
      · clear h10
        refine z_aload0 F dX5_carry_19 ?_
        refine z_iload1 F dX5_carry_20 ?_
        refine z_callVV1p F (c5_findCarry D q hN h10 hq) kX5_206 (by decide) ocM (Nat.le_of_ble_eq_true rfl) rfl dX5_carry_21 (fun E hp => ?_)
        refine z_aload0 F dX5_carry_24 ?_
        refine z_getI F M_bestSet fX5_199 dX5_carry_25 ?_
        refine hR _ _ _ _ dX5_carry_28 rfl ?_
        simp only [o_carry, hb, hl, hqn, Bool.false_eq_true, if_true, if_false, Bool.and_true, Bool.true_and, Bool.and_false, Bool.false_and, Bool.and_self, and_self]
        rw [hp.2.1]
        exact ⟨rfl, hp.1⟩
      · exact absurd h10 (by decide)
  · refine z_callVI3 F (c5_refB D true x 100 (by rw [Bool.true_and]; exact hb)) kX5_192 (by decide) ocM (Nat.le_of_ble_eq_true rfl) rfl dX5_carry_5 ?_
    refine z_istore2 F dX5_carry_8 rfl ?_
    refine z_iload2 F dX5_carry_9 ?_
    refine z_if_eq F 19 dX5_carry_10 (by decide) (fun h10 => ?_) (fun h10 => ?_)
    · exact absurd h10 (by decide)
    · refine z_aload0 F dX5_carry_13 ?_
      refine z_iload2 F dX5_carry_14 ?_
      refine z_callVI1 F (c5_finding _ _ 0 (by decide) (by decide)) kX5_93 (by decide) ocM (Nat.le_of_ble_eq_true rfl) rfl dX5_carry_15 ?_
      refine hR _ _ _ _ dX5_carry_18 rfl ?_
      simp only [o_carry, hb, Bool.false_eq_true, if_true, if_false, Bool.and_true, Bool.true_and, Bool.and_false, Bool.false_and, Bool.and_self, and_self]; first | exact ⟨rfl, rfl⟩ | exact ⟨by decide, rfl⟩ | exact ⟨by decide, z_sm_r _⟩ | exact ⟨rfl, z_sm_r _⟩ | exact ⟨rfl, z_sm_as _⟩ | exact ⟨by decide, z_sm_fM _ (z_sm_as _)⟩
set_option maxHeartbeats 1000000 in
set_option maxRecDepth 20000 in
theorem c5_carried (D : zD) (x : Int32) {N : Nat} (hN : D.1 1 4 = nI N) (h10 : N ≤ 10) : z_CI SM zT yX5_carried cX5_carried 3 .int 8 [.ref 0, .int x] D (z_qM D (o_carried (D.1 1) N x)) := by
  refine z_startI SM_ok (by decide +kernel) (fun v hv => by simp at hv; rcases hv with rfl | rfl <;> rfl) (Nat.le_of_ble_eq_true rfl) (fun X F hR => ?_)
  show z_J X SM 0 [some (.ref 0), some (.int x), none] [] D
  refine z_aload0 F dX5_carried_0 ?_
  refine z_iconst F 1 dX5_carried_1 zv_i_1 ?_
  refine z_iload1 F dX5_carried_2 ?_
  refine z_bipush F 100 dX5_carried_3 zv_b_100 ?_
  by_cases hb : b_in x 1 100 = true
  · by_cases hl : 9999 < D.1 1 0 + x
    · refine z_callVI3 F (c5_refL D true x 100 (by rw [Bool.true_and]; exact hb) hl) kX5_192 (by decide) ocM (Nat.le_of_ble_eq_true rfl) rfl dX5_carried_5 ?_
      refine z_istore2 F dX5_carried_8 rfl ?_
      refine z_iload2 F dX5_carried_9 ?_
      refine z_if_eq F 19 dX5_carried_10 (by decide) (fun h10 => ?_) (fun h10 => ?_)
      · exact absurd h10 (by decide)
      · refine z_aload0 F dX5_carried_13 ?_
        refine z_iload2 F dX5_carried_14 ?_
        refine z_callVI1 F (c5_finding _ _ 4 (by decide) (by decide)) kX5_93 (by decide) ocM (Nat.le_of_ble_eq_true rfl) rfl dX5_carried_15 ?_
        refine hR _ _ _ _ dX5_carried_18 rfl ?_
        simp only [o_carried, hb, hl, Bool.false_eq_true, if_true, if_false, Bool.and_true, Bool.true_and, Bool.and_false, Bool.false_and, Bool.and_self, and_self]; first | exact ⟨rfl, rfl⟩ | exact ⟨by decide, rfl⟩ | exact ⟨by decide, z_sm_r _⟩ | exact ⟨rfl, z_sm_r _⟩ | exact ⟨rfl, z_sm_as _⟩ | exact ⟨by decide, z_sm_fM _ (z_sm_as _)⟩
    · refine z_callVI3 F (c5_refO D true x 100 (by rw [Bool.true_and]; exact hb) hl) kX5_192 (by decide) ocM (Nat.le_of_ble_eq_true rfl) rfl dX5_carried_5 ?_
      refine z_istore2 F dX5_carried_8 rfl ?_
      refine z_iload2 F dX5_carried_9 ?_
      obtain ⟨q, hq1, hq, rfl⟩ := b_in1 100 (by decide) hb
      have hqn := i_n_n (j := q) (by omega)
      refine z_if_eq F 19 dX5_carried_10 (by decide) (fun h10 => ?_) (fun h10 => ?_)
      · clear h10
        refine z_aload0 F dX5_carried_19 ?_
        refine z_iload1 F dX5_carried_20 ?_
        refine z_callVV1p F (c5_findCarry D q hN h10 hq) kX5_206 (by decide) ocM (Nat.le_of_ble_eq_true rfl) rfl dX5_carried_21 (fun E hp => ?_)
        refine z_aload0 F dX5_carried_24 ?_
        refine z_getI F M_mostPence fX5_203 dX5_carried_25 ?_
        refine hR _ _ _ _ dX5_carried_28 rfl ?_
        simp only [o_carried, hb, hl, hqn, Bool.false_eq_true, if_true, if_false, Bool.and_true, Bool.true_and, Bool.and_false, Bool.false_and, Bool.and_self, and_self]
        rw [hp.2.2]
        exact ⟨rfl, hp.1⟩
      · exact absurd h10 (by decide)
  · refine z_callVI3 F (c5_refB D true x 100 (by rw [Bool.true_and]; exact hb)) kX5_192 (by decide) ocM (Nat.le_of_ble_eq_true rfl) rfl dX5_carried_5 ?_
    refine z_istore2 F dX5_carried_8 rfl ?_
    refine z_iload2 F dX5_carried_9 ?_
    refine z_if_eq F 19 dX5_carried_10 (by decide) (fun h10 => ?_) (fun h10 => ?_)
    · exact absurd h10 (by decide)
    · refine z_aload0 F dX5_carried_13 ?_
      refine z_iload2 F dX5_carried_14 ?_
      refine z_callVI1 F (c5_finding _ _ 0 (by decide) (by decide)) kX5_93 (by decide) ocM (Nat.le_of_ble_eq_true rfl) rfl dX5_carried_15 ?_
      refine hR _ _ _ _ dX5_carried_18 rfl ?_
      simp only [o_carried, hb, Bool.false_eq_true, if_true, if_false, Bool.and_true, Bool.true_and, Bool.and_false, Bool.false_and, Bool.and_self, and_self]; first | exact ⟨rfl, rfl⟩ | exact ⟨by decide, rfl⟩ | exact ⟨by decide, z_sm_r _⟩ | exact ⟨rfl, z_sm_r _⟩ | exact ⟨rfl, z_sm_as _⟩ | exact ⟨by decide, z_sm_fM _ (z_sm_as _)⟩
