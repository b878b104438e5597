set_option maxHeartbeats 4000000 in
set_option maxRecDepth 20000 in
theorem c5_inLining (D : zD) (c : Nat) {N : Nat} (hN : D.1 1 4 = nI N) (h10 : N ≤ 10) (hc : c < 10) : z_CV SM zT yX5_inLining cX5_inLining 2 4 [.ref 0, .int (nI c)] D (z_eqV (z_row D 1 (s_inL (D.1 1) N c (D.1 1 0)))) := by
  refine z_startV SM_ok (by decide +kernel) (fun v hv => by simp at hv; rcases hv with rfl | rfl <;> rfl) (Nat.le_of_ble_eq_true rfl) (fun X F hR => ?_)
  show z_J X SM 0 [some (.ref 0), some (.int (nI c))] [] D
  refine z_aload0 F dX5_inLining_0 ?_
  refine z_iload1 F dX5_inLining_1 ?_
  refine z_bipush F 6 dX5_inLining_2 zv_b_6 ?_
  refine z_callVI2 F (c5_coinIs _ (c) 6 (by omega) (by decide)) kX5_105 (by decide) ocM (Nat.le_of_ble_eq_true rfl) rfl dX5_inLining_4 ?_
  refine z_aload0 F dX5_inLining_7 ?_
  refine z_getR F M_now fX5_9 dX5_inLining_8 ?_
  refine z_iconst F 3 dX5_inLining_11 zv_i_3 ?_
  refine z_iald F aM_now (3) rfl (by omega) dX5_inLining_12 ?_
  refine z_ic_ne F 69 dX5_inLining_13 (by decide) (fun h13 => ?_) (fun h13 => ?_)
  · refine z_aload0 F dX5_inLining_69 ?_
    refine z_getR F M_now fX5_9 dX5_inLining_70 ?_
    refine z_iload1 F dX5_inLining_73 ?_
    refine z_bipush F 6 dX5_inLining_74 zv_b_6 ?_
    refine z_callSI2 F (c5_at _ (c) 6) kX5_82 (by decide) (Nat.le_of_ble_eq_true rfl) rfl dX5_inLining_76 ?_
    refine z_bipush F 7 dX5_inLining_79 zv_b_7 ?_
    refine z_aload0 F dX5_inLining_81 ?_
    refine z_iload1 F dX5_inLining_82 ?_
    refine z_bipush F 6 dX5_inLining_83 zv_b_6 ?_
    refine z_callVI2 F (c5_coinIs _ (c) 6 (by omega) (by decide)) kX5_105 (by decide) ocM (Nat.le_of_ble_eq_true rfl) rfl dX5_inLining_85 ?_
    refine z_aload0 F dX5_inLining_88 ?_
    refine z_iload1 F dX5_inLining_89 ?_
    refine z_callVI1 F (c5_goes _ (c) (by omega)) kX5_123 (by decide) ocM (Nat.le_of_ble_eq_true rfl) rfl dX5_inLining_90 ?_
    refine z_iadd F dX5_inLining_93 ?_
    refine z_min F zw_820 (by decide) rfl (Nat.le_of_ble_eq_true rfl) dX5_inLining_94 ?_
    refine z_iast F aM_now (16 + 8 * c + 6) rfl (by omega) dX5_inLining_97 ?_
    refine hR _ _ _ dX5_inLining_98 ?_
    show _ = _
    rw [s_inL, if_neg (fun q => h13 q.1)]
    simp only [z_up_row]
  · refine z_aload0 F dX5_inLining_16 ?_
    refine z_iload1 F dX5_inLining_17 ?_
    refine z_callVI1 F (c5_thick _ (c) (by omega)) kX5_117 (by decide) ocM (Nat.le_of_ble_eq_true rfl) rfl dX5_inLining_18 ?_
    refine z_aload0 F dX5_inLining_21 ?_
    refine z_getR F M_now fX5_9 dX5_inLining_22 ?_
    refine z_iconst F 2 dX5_inLining_25 zv_i_2 ?_
    refine z_iald F aM_now (2) rfl (by omega) dX5_inLining_26 ?_
    refine z_ic_gt F 69 dX5_inLining_27 (by decide) (fun h27 => ?_) (fun h27 => ?_)
    · refine z_aload0 F dX5_inLining_69 ?_
      refine z_getR F M_now fX5_9 dX5_inLining_70 ?_
      refine z_iload1 F dX5_inLining_73 ?_
      refine z_bipush F 6 dX5_inLining_74 zv_b_6 ?_
      refine z_callSI2 F (c5_at _ (c) 6) kX5_82 (by decide) (Nat.le_of_ble_eq_true rfl) rfl dX5_inLining_76 ?_
      refine z_bipush F 7 dX5_inLining_79 zv_b_7 ?_
      refine z_aload0 F dX5_inLining_81 ?_
      refine z_iload1 F dX5_inLining_82 ?_
      refine z_bipush F 6 dX5_inLining_83 zv_b_6 ?_
      refine z_callVI2 F (c5_coinIs _ (c) 6 (by omega) (by decide)) kX5_105 (by decide) ocM (Nat.le_of_ble_eq_true rfl) rfl dX5_inLining_85 ?_
      refine z_aload0 F dX5_inLining_88 ?_
      refine z_iload1 F dX5_inLining_89 ?_
      refine z_callVI1 F (c5_goes _ (c) (by omega)) kX5_123 (by decide) ocM (Nat.le_of_ble_eq_true rfl) rfl dX5_inLining_90 ?_
      refine z_iadd F dX5_inLining_93 ?_
      refine z_min F zw_820 (by decide) rfl (Nat.le_of_ble_eq_true rfl) dX5_inLining_94 ?_
      refine z_iast F aM_now (16 + 8 * c + 6) rfl (by omega) dX5_inLining_97 ?_
      refine hR _ _ _ dX5_inLining_98 ?_
      show _ = _
      rw [s_inL, if_neg (fun q => Int32.not_le.mpr h27 q.2.1)]
      simp only [z_up_row]
    · refine z_aload0 F dX5_inLining_30 ?_
      refine z_iload1 F dX5_inLining_31 ?_
      refine z_callVI1 F (c5_hasCompany _ (c) hN h10 (by omega)) kX5_154 (by decide) ocM (Nat.le_of_ble_eq_true rfl) rfl dX5_inLining_32 ?_
      refine z_ifb_eq F 69 dX5_inLining_35 (by decide) (fun h35 => ?_) (fun h35 => ?_)
      · refine z_aload0 F dX5_inLining_69 ?_
        refine z_getR F M_now fX5_9 dX5_inLining_70 ?_
        refine z_iload1 F dX5_inLining_73 ?_
        refine z_bipush F 6 dX5_inLining_74 zv_b_6 ?_
        refine z_callSI2 F (c5_at _ (c) 6) kX5_82 (by decide) (Nat.le_of_ble_eq_true rfl) rfl dX5_inLining_76 ?_
        refine z_bipush F 7 dX5_inLining_79 zv_b_7 ?_
        refine z_aload0 F dX5_inLining_81 ?_
        refine z_iload1 F dX5_inLining_82 ?_
        refine z_bipush F 6 dX5_inLining_83 zv_b_6 ?_
        refine z_callVI2 F (c5_coinIs _ (c) 6 (by omega) (by decide)) kX5_105 (by decide) ocM (Nat.le_of_ble_eq_true rfl) rfl dX5_inLining_85 ?_
        refine z_aload0 F dX5_inLining_88 ?_
        refine z_iload1 F dX5_inLining_89 ?_
        refine z_callVI1 F (c5_goes _ (c) (by omega)) kX5_123 (by decide) ocM (Nat.le_of_ble_eq_true rfl) rfl dX5_inLining_90 ?_
        refine z_iadd F dX5_inLining_93 ?_
        refine z_min F zw_820 (by decide) rfl (Nat.le_of_ble_eq_true rfl) dX5_inLining_94 ?_
        refine z_iast F aM_now (16 + 8 * c + 6) rfl (by omega) dX5_inLining_97 ?_
        refine hR _ _ _ dX5_inLining_98 ?_
        show _ = _
        rw [s_inL, if_neg (fun q => Bool.false_ne_true (h35.symm.trans q.2.2))]
        simp only [z_up_row]
      · refine z_aload0 F dX5_inLining_38 ?_
        refine z_getR F M_now fX5_9 dX5_inLining_39 ?_
        refine z_iload1 F dX5_inLining_42 ?_
        refine z_iconst F 4 dX5_inLining_43 zv_i_4 ?_
        refine z_callSI2 F (c5_at _ (c) 4) kX5_82 (by decide) (Nat.le_of_ble_eq_true rfl) rfl dX5_inLining_44 ?_
        refine z_iconst F 2 dX5_inLining_47 zv_i_2 ?_
        refine z_iast F aM_now (16 + 8 * c + 4) rfl (by omega) dX5_inLining_48 ?_
        refine z_aload0 F dX5_inLining_49 ?_
        refine z_getR F M_now fX5_9 dX5_inLining_50 ?_
        refine z_iload1 F dX5_inLining_53 ?_
        refine z_bipush F 7 dX5_inLining_54 zv_b_7 ?_
        refine z_callSI2 F (c5_at _ (c) 7) kX5_82 (by decide) (Nat.le_of_ble_eq_true rfl) rfl dX5_inLining_56 ?_
        refine z_aload0 F dX5_inLining_59 ?_
        refine z_getR F M_now fX5_9 dX5_inLining_60 ?_
        refine z_iconst F 0 dX5_inLining_63 zv_i_0 ?_
        refine z_iald F aM_now (0) rfl (by omega) dX5_inLining_64 ?_
        refine z_iast F aM_now (16 + 8 * c + 7) rfl (by omega) dX5_inLining_65 ?_
        refine z_goto F 98 dX5_inLining_66 (by decide) ?_
        refine hR _ _ _ dX5_inLining_98 ?_
        show _ = _
        rw [s_inL, if_pos ⟨h13, Int32.not_lt.mp h27, h35⟩]
        simp only [z_up_row, z_row_row, z_rowr, u_ne _ _ (show 0 ≠ 16 + 8 * c + 4 by omega)]
set_option maxHeartbeats 4000000 in
set_option maxRecDepth 20000 in
theorem c5_stepsGo (D : zD) (n : Nat) {N : Nat} (hN0 : D.1 1 4 = nI N) (h10 : N ≤ 10) (hn31 : n < 2 ^ 31) : z_CI SM zT yX5_stepsGo cX5_stepsGo 6 .int 5 [.ref 0, .int (nI n)] D (z_eq (s_fell (D.1 1) (s_steps (D.1 1) N n) N) (z_row D 1 (s_steps (D.1 1) N n))) := by
  refine z_startI SM_ok (by decide +kernel) (fun v hv => by simp at hv; rcases hv with rfl | rfl <;> rfl) (Nat.le_of_ble_eq_true rfl) (fun X F hR => ?_)
  show z_J X SM 0 [some (.ref 0), some (.int (nI n)), none, none, none, none] [] D

  have in1 : ∀ (E : zD) (hE : E.1 1 4 = nI N) (x1 x2 x3 set : Int32) (hcont : z_J X SM 59 [some (.ref 0), some (.int x1), some (.int x2), some (.int x3), some (.int set), some (.int (nI N))] [] (z_row E 1 (s_pk (E.1 1) N))), z_J X SM 26 [some (.ref 0), some (.int x1), some (.int x2), some (.int x3), some (.int set), some (.int 0)] [] E := by
    intro E hE x1 x2 x3 set hcont
    have hB : ∀ c, (z_row E 1 (s_pk (E.1 1) c)).1 1 4 = nI N := fun c => by rw [z_rowr, s_pk_lo _ (by decide) (by decide), hE]
    have loop : ∀ (n c : Nat), c + n = N → z_J X SM 26 [some (.ref 0), some (.int x1), some (.int x2), some (.int x3), some (.int set), some (.int (nI c))] [] (z_row E 1 (s_pk (E.1 1) c)) := by
      intro n
      induction n with
      | zero =>
        intro c hn
        refine z_iload5 F dX5_stepsGo_26 ?_
        refine z_aload0 F dX5_stepsGo_28 ?_
        refine z_getR F M_now fX5_9 dX5_stepsGo_29 ?_
        refine z_iconst F 4 dX5_stepsGo_32 zv_i_4 ?_
        refine z_iald F aM_now (4) rfl (by omega) dX5_stepsGo_33 ?_
        refine z_ic_ge F 59 dX5_stepsGo_34 (by decide) (fun h34 => ?_) (fun h34 => ?_)
        · rw [show c = N by omega]
          exact hcont
        · exact absurd (by rw [hB]; exact nI_le (by omega) (by omega)) h34
      | succ n ih =>
        intro c hn
        refine z_iload5 F dX5_stepsGo_26 ?_
        refine z_aload0 F dX5_stepsGo_28 ?_
        refine z_getR F M_now fX5_9 dX5_stepsGo_29 ?_
        refine z_iconst F 4 dX5_stepsGo_32 zv_i_4 ?_
        refine z_iald F aM_now (4) rfl (by omega) dX5_stepsGo_33 ?_
        refine z_ic_ge F 59 dX5_stepsGo_34 (by decide) (fun h34 => ?_) (fun h34 => ?_)
        · exact absurd h34 (by rw [hB]; exact nI_ge (by omega) (by omega))
        · refine z_aload0 F dX5_stepsGo_37 ?_
          refine z_iload5 F dX5_stepsGo_38 ?_
          refine z_iconst F 0 dX5_stepsGo_40 zv_i_0 ?_
          refine z_callVI2 F (c5_isIn _ (c) _ (by omega)) kX5_135 (by decide) ocM (Nat.le_of_ble_eq_true rfl) rfl dX5_stepsGo_41 ?_
          refine z_ifb_eq F 53 dX5_stepsGo_44 (by decide) (fun h44 => ?_) (fun h44 => ?_)
          · refine z_iinc5 F 1 dX5_stepsGo_53 rfl zv_i_1 ?_
            refine z_goto F 26 dX5_stepsGo_56 (by decide) ?_
            have h := ih (c + 1) (by omega)
            rw [nI_succ] at h
            simp only [z_row_row, z_rowr, decide_eq_true_eq, decide_eq_false_iff_not] at h44 ⊢
            simp only [s_pk, h44, if_true, if_false] at h
            exact h
          · refine z_aload0 F dX5_stepsGo_47 ?_
            refine z_iload5 F dX5_stepsGo_48 ?_
            refine z_callVV1 F (c5_inPocket _ (c) (by omega)) kX5_160 (by decide) ocM (Nat.le_of_ble_eq_true rfl) rfl dX5_stepsGo_50 ?_
            refine z_iinc5 F 1 dX5_stepsGo_53 rfl zv_i_1 ?_
            refine z_goto F 26 dX5_stepsGo_56 (by decide) ?_
            have h := ih (c + 1) (by omega)
            rw [nI_succ] at h
            simp only [z_row_row, z_rowr, decide_eq_true_eq, decide_eq_false_iff_not] at h44 ⊢
            simp only [s_pk, h44, if_true, if_false] at h
            exact h
    have h := loop N 0 (by omega)
    rw [s_pk, z_row_eq] at h
    exact h
  have in2 : ∀ (E : zD) (hE : E.1 1 4 = nI N) (x1 x2 x3 set : Int32) (hcont : z_J X SM 95 [some (.ref 0), some (.int x1), some (.int x2), some (.int x3), some (.int set), some (.int (nI N))] [] (z_row E 1 (s_ln (E.1 1) N set (E.1 1 0) N))), z_J X SM 62 [some (.ref 0), some (.int x1), some (.int x2), some (.int x3), some (.int set), some (.int 0)] [] E := by
    intro E hE x1 x2 x3 set hcont
    have hB : ∀ c, (z_row E 1 (s_ln (E.1 1) N set (E.1 1 0) c)).1 1 4 = nI N := fun c => by rw [z_rowr, s_ln_lo _ _ _ _ (by decide), hE]
    have loop : ∀ (n c : Nat), c + n = N → z_J X SM 62 [some (.ref 0), some (.int x1), some (.int x2), some (.int x3), some (.int set), some (.int (nI c))] [] (z_row E 1 (s_ln (E.1 1) N set (E.1 1 0) c)) := by
      intro n
      induction n with
      | zero =>
        intro c hn
        refine z_iload5 F dX5_stepsGo_62 ?_
        refine z_aload0 F dX5_stepsGo_64 ?_
        refine z_getR F M_now fX5_9 dX5_stepsGo_65 ?_
        refine z_iconst F 4 dX5_stepsGo_68 zv_i_4 ?_
        refine z_iald F aM_now (4) rfl (by omega) dX5_stepsGo_69 ?_
        refine z_ic_ge F 95 dX5_stepsGo_70 (by decide) (fun h70 => ?_) (fun h70 => ?_)
        · rw [show c = N by omega]
          exact hcont
        · exact absurd (by rw [hB]; exact nI_le (by omega) (by omega)) h70
      | succ n ih =>
        intro c hn
        refine z_iload5 F dX5_stepsGo_62 ?_
        refine z_aload0 F dX5_stepsGo_64 ?_
        refine z_getR F M_now fX5_9 dX5_stepsGo_65 ?_
        refine z_iconst F 4 dX5_stepsGo_68 zv_i_4 ?_
        refine z_iald F aM_now (4) rfl (by omega) dX5_stepsGo_69 ?_
        refine z_ic_ge F 95 dX5_stepsGo_70 (by decide) (fun h70 => ?_) (fun h70 => ?_)
        · exact absurd h70 (by rw [hB]; exact nI_ge (by omega) (by omega))
        · refine z_iload4 F dX5_stepsGo_73 ?_
          refine z_iload5 F dX5_stepsGo_75 ?_
          refine z_callSI2 F (c5_has _ _ (c)) kX5_138 (by decide) (Nat.le_of_ble_eq_true rfl) rfl dX5_stepsGo_77 ?_
          refine z_ifb_eq F 89 dX5_stepsGo_80 (by decide) (fun h80 => ?_) (fun h80 => ?_)
          · refine z_iinc5 F 1 dX5_stepsGo_89 rfl zv_i_1 ?_
            refine z_goto F 62 dX5_stepsGo_92 (by decide) ?_
            have h := ih (c + 1) (by omega)
            rw [nI_succ] at h
            try simp only [z_row_row, z_rowr, s_ln_lo _ _ _ _ (show 0 < 16 by decide)]
            simp only [s_ln, h80, if_true, if_false, Bool.false_eq_true] at h
            exact h
          · refine z_aload0 F dX5_stepsGo_83 ?_
            refine z_iload5 F dX5_stepsGo_84 ?_
            refine z_callVV1 F (c5_inLining _ c (hB c) h10 (by omega)) kX5_163 (by decide) ocM (Nat.le_of_ble_eq_true rfl) rfl dX5_stepsGo_86 ?_
            refine z_iinc5 F 1 dX5_stepsGo_89 rfl zv_i_1 ?_
            refine z_goto F 62 dX5_stepsGo_92 (by decide) ?_
            have h := ih (c + 1) (by omega)
            rw [nI_succ] at h
            try simp only [z_row_row, z_rowr, s_ln_lo _ _ _ _ (show 0 < 16 by decide)]
            simp only [s_ln, h80, if_true, if_false, Bool.false_eq_true] at h
            exact h
    have h := loop N 0 (by omega)
    rw [s_ln, z_row_eq] at h
    exact h
  have hB : ∀ k, (z_row D 1 (s_steps (D.1 1) N k)).1 1 4 = nI N := fun k => by rw [z_rowr, s_steps_lo _ _ (by decide) (by decide) (by decide), hN0]
  have loop : ∀ (m k : Nat) (hk : k + m = n) (a4 a5 : Option Value) (h4 : z_c1 a4 = true), z_J X SM 11 [some (.ref 0), some (.int (nI n)), some (.int (nI (p_pop (p_lie (D.1 1) 2 N)))), some (.int (nI k)), a4, a5] [] (z_row D 1 (s_steps (D.1 1) N k)) := by
    intro m
    induction m with
    | zero =>
      intro k hn a4 a5 h4
      refine z_iload3 F dX5_stepsGo_11 ?_
      refine z_iload1 F dX5_stepsGo_12 ?_
      refine z_ic_ge F 111 dX5_stepsGo_13 (by decide) (fun h13 => ?_) (fun h13 => ?_)
      · refine z_aload0 F dX5_stepsGo_111 ?_
        refine z_iconst F 2 dX5_stepsGo_112 zv_i_2 ?_
        refine z_callVI1 F (c5_lieIn _ _ (hB k) h10) kX5_141 (by decide) ocM (Nat.le_of_ble_eq_true rfl) rfl dX5_stepsGo_113 ?_
        refine z_callSI1 F (c5_bits _ _ (p_lie (s_steps (D.1 1) N k) 2 N) (by rw [z_rowr]; exact s_lie_n _ _ N (by omega)) (p_lie_1024 _ _ h10)) kX5_157 (by decide) (Nat.le_of_ble_eq_true rfl) rfl dX5_stepsGo_116 ?_
        refine z_iload2 F dX5_stepsGo_119 ?_
        refine z_isub F dX5_stepsGo_120 ?_
        refine hR _ _ _ _ dX5_stepsGo_121 rfl ?_
        refine ⟨?_, ?_⟩
        · rw [s_fell, show k = n by omega]
        · rw [show k = n by omega]
      · exact absurd (by exact nI_le (by omega) (by omega)) h13
    | succ m ih =>
      intro k hn a4 a5 h4
      refine z_iload3 F dX5_stepsGo_11 ?_
      refine z_iload1 F dX5_stepsGo_12 ?_
      refine z_ic_ge F 111 dX5_stepsGo_13 (by decide) (fun h13 => ?_) (fun h13 => ?_)
      · exact absurd h13 (by exact nI_ge (by omega) (by omega))
      · refine z_aload0 F dX5_stepsGo_16 ?_
        refine z_iconst F 1 dX5_stepsGo_17 zv_i_1 ?_
        refine z_callVI1 F (c5_lieIn _ _ (hB k) h10) kX5_141 (by decide) ocM (Nat.le_of_ble_eq_true rfl) rfl dX5_stepsGo_18 ?_
        refine z_istore4 F dX5_stepsGo_21 rfl ?_
        refine z_iconst F 0 dX5_stepsGo_23 zv_i_0 ?_
        refine z_istore5 F dX5_stepsGo_24 rfl ?_
        refine in1 _ (hB k) _ _ _ _ ?_
        refine z_iconst F 0 dX5_stepsGo_59 zv_i_0 ?_
        refine z_istore5 F dX5_stepsGo_60 rfl ?_
        refine in2 _ (by rw [z_rowr, s_pk_lo _ (by decide) (by decide)]; exact hB k) _ _ _ _ ?_
        refine z_aload0 F dX5_stepsGo_95 ?_
        refine z_getR F M_now fX5_9 dX5_stepsGo_96 ?_
        refine z_iconst F 0 dX5_stepsGo_99 zv_i_0 ?_
        refine z_dup2 F dX5_stepsGo_100 rfl rfl ?_
        refine z_iald F aM_now (0) rfl (by decide) dX5_stepsGo_101 ?_
        refine z_iconst F 1 dX5_stepsGo_102 zv_i_1 ?_
        refine z_iadd F dX5_stepsGo_103 ?_
        refine z_iast F aM_now (0) rfl (by decide) dX5_stepsGo_104 ?_
        refine z_iinc3 F 1 dX5_stepsGo_105 rfl zv_i_1 ?_
        refine z_goto F 11 dX5_stepsGo_108 (by decide) ?_
        have h := ih (k + 1) (by omega) (some (.int (s_lie (s_steps (D.1 1) N k) 1 N))) (some (.int (nI N))) rfl
        rw [nI_succ] at h
        simp only [z_up_row, z_row_row, z_rowr, s_ln_lo _ _ _ _ (show 0 < 16 by decide), s_pk_lo _ (show 0 < 16 by decide) (show 0 ≠ 1 by decide)]
        exact h
  refine z_aload0 F dX5_stepsGo_0 ?_
  refine z_iconst F 2 dX5_stepsGo_1 zv_i_2 ?_
  refine z_callVI1 F (c5_lieIn _ _ hN0 h10) kX5_141 (by decide) ocM (Nat.le_of_ble_eq_true rfl) rfl dX5_stepsGo_2 ?_
  refine z_callSI1 F (c5_bits _ _ (p_lie (D.1 1) 2 N) (s_lie_n _ _ N (by omega)) (p_lie_1024 _ _ h10)) kX5_157 (by decide) (Nat.le_of_ble_eq_true rfl) rfl dX5_stepsGo_5 ?_
  refine z_istore2 F dX5_stepsGo_8 rfl ?_
  refine z_iconst F 0 dX5_stepsGo_9 zv_i_0 ?_
  refine z_istore3 F dX5_stepsGo_10 rfl ?_
  have h := loop n 0 (by omega) none none rfl
  rw [s_steps, z_row_eq] at h
  exact h
