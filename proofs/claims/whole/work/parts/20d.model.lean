set_option maxHeartbeats 4000000 in
set_option maxRecDepth 20000 in
theorem c5_finding (D : zD) (v : Int32) (k : Nat) (hk : k < 7) (hv : v = nF k) : z_CI SM zT yX5_finding cX5_finding 2 .int 0 [.ref 0, .int v] D (z_eq v (z_fM D k)) := by
  refine z_startI SM_ok (by decide +kernel) (fun v hv => by simp at hv; rcases hv with rfl | rfl <;> rfl) (Nat.le_of_ble_eq_true rfl) (fun X F hR => ?_)
  show z_J X SM 0 [some (.ref 0), some (.int v)] [] D
  refine z_aload0 F dX5_finding_0 ?_
  refine z_getR F M_found fX5_19 dX5_finding_1 ?_
  refine z_ldc F (-1000001) dX5_finding_4 zw_721 ?_
  refine z_iload1 F dX5_finding_6 ?_
  refine z_isub F dX5_finding_7 ?_
  refine z_iconst F 1 dX5_finding_8 zv_i_1 ?_
  refine z_iadd F dX5_finding_9 ?_
  refine z_dup2 F dX5_finding_10 rfl rfl ?_
  refine z_iald F aM_found (1 + k) (by rw [hv]; exact nF_ix k hk) (by omega) dX5_finding_11 ?_
  refine z_iconst F 1 dX5_finding_12 zv_i_1 ?_
  refine z_iadd F dX5_finding_13 ?_
  refine z_iast F aM_found (1 + k) (by rw [hv]; exact nF_ix k hk) (by omega) dX5_finding_14 ?_
  refine z_aload0 F dX5_finding_15 ?_
  refine z_getR F M_found fX5_19 dX5_finding_16 ?_
  refine z_iconst F 0 dX5_finding_19 zv_i_0 ?_
  refine z_dup2 F dX5_finding_20 rfl rfl ?_
  refine z_iald F aM_found (0) rfl (by omega) dX5_finding_21 ?_
  refine z_iconst F 1 dX5_finding_22 zv_i_1 ?_
  refine z_iadd F dX5_finding_23 ?_
  refine z_iast F aM_found (0) rfl (by omega) dX5_finding_24 ?_
  refine z_iload1 F dX5_finding_25 ?_
  refine hR _ _ _ _ dX5_finding_26 rfl ?_
  refine ⟨rfl, ?_⟩
  simp only [z_fM, z_up_row, z_row_row, z_rowr, u_ne _ _ (show 0 ≠ 1 + k by omega)]
set_option maxHeartbeats 4000000 in
set_option maxRecDepth 20000 in
theorem c5_putBack (D : zD) (v : Int32) : z_CI SM zT yX5_putBack cX5_putBack 2 .int 1 [.ref 0, .int v] D (z_eq v (z_row D 1 (fun k => if k < 96 then D.1 2 k else D.1 1 k))) := by
  refine z_startI SM_ok (by decide +kernel) (fun v hv => by simp at hv; rcases hv with rfl | rfl <;> rfl) (Nat.le_of_ble_eq_true rfl) (fun X F hR => ?_)
  show z_J X SM 0 [some (.ref 0), some (.int v)] [] D
  refine z_aload0 F dX5_putBack_0 ?_
  refine z_getR F M_aside fX5_16 dX5_putBack_1 ?_
  refine z_aload0 F dX5_putBack_4 ?_
  refine z_getR F M_now fX5_9 dX5_putBack_5 ?_
  refine z_callSV2 F (c5_copyRow _ 2 1 aM_aside aM_now (by decide)) kX5_74 (by decide) (Nat.le_of_ble_eq_true rfl) rfl dX5_putBack_8 ?_
  refine z_iload1 F dX5_putBack_11 ?_
  refine hR _ _ _ _ dX5_putBack_12 rfl ?_
  exact ⟨rfl, rfl⟩
set_option maxHeartbeats 4000000 in
set_option maxRecDepth 20000 in
theorem c5_comes (D : zD) (k sz wt pc pl : Int32) {N : Nat} (hN : D.1 1 4 = nI N) (hN10 : N < 10) : z_CI SM zT yX5_comes cX5_comes 7 .int 2 [.ref 0, .int k, .int sz, .int wt, .int pc, .int pl] D (z_eq (nI N) (z_row D 1 (s_come (D.1 1) N k sz wt pc pl))) := by
  refine z_startI SM_ok (by decide +kernel) (fun v hv => by simp at hv; rcases hv with rfl | rfl | rfl | rfl | rfl | rfl <;> rfl) (Nat.le_of_ble_eq_true rfl) (fun X F hR => ?_)
  show z_J X SM 0 [some (.ref 0), some (.int k), some (.int sz), some (.int wt), some (.int pc), some (.int pl), none] [] D
  refine z_aload0 F dX5_comes_0 ?_
  refine z_getR F M_now fX5_9 dX5_comes_1 ?_
  refine z_iconst F 4 dX5_comes_4 zv_i_4 ?_
  refine z_iald F aM_now (4) rfl (by omega) dX5_comes_5 ?_
  rw [hN]
  refine z_istore6 F dX5_comes_6 rfl ?_
  refine z_aload0 F dX5_comes_8 ?_
  refine z_getR F M_now fX5_9 dX5_comes_9 ?_
  refine z_iload6 F dX5_comes_12 ?_
  refine z_iconst F 0 dX5_comes_14 zv_i_0 ?_
  refine z_callSI2 F (c5_at _ (N) 0) kX5_82 (by decide) (Nat.le_of_ble_eq_true rfl) rfl dX5_comes_15 ?_
  refine z_iload1 F dX5_comes_18 ?_
  refine z_iast F aM_now (16 + 8 * N + 0) rfl (by omega) dX5_comes_19 ?_
  refine z_aload0 F dX5_comes_20 ?_
  refine z_getR F M_now fX5_9 dX5_comes_21 ?_
  refine z_iload6 F dX5_comes_24 ?_
  refine z_iconst F 1 dX5_comes_26 zv_i_1 ?_
  refine z_callSI2 F (c5_at _ (N) 1) kX5_82 (by decide) (Nat.le_of_ble_eq_true rfl) rfl dX5_comes_27 ?_
  refine z_iload2 F dX5_comes_30 ?_
  refine z_iast F aM_now (16 + 8 * N + 1) rfl (by omega) dX5_comes_31 ?_
  refine z_aload0 F dX5_comes_32 ?_
  refine z_getR F M_now fX5_9 dX5_comes_33 ?_
  refine z_iload6 F dX5_comes_36 ?_
  refine z_iconst F 2 dX5_comes_38 zv_i_2 ?_
  refine z_callSI2 F (c5_at _ (N) 2) kX5_82 (by decide) (Nat.le_of_ble_eq_true rfl) rfl dX5_comes_39 ?_
  refine z_iload3 F dX5_comes_42 ?_
  refine z_iast F aM_now (16 + 8 * N + 2) rfl (by omega) dX5_comes_43 ?_
  refine z_aload0 F dX5_comes_44 ?_
  refine z_getR F M_now fX5_9 dX5_comes_45 ?_
  refine z_iload6 F dX5_comes_48 ?_
  refine z_iconst F 3 dX5_comes_50 zv_i_3 ?_
  refine z_callSI2 F (c5_at _ (N) 3) kX5_82 (by decide) (Nat.le_of_ble_eq_true rfl) rfl dX5_comes_51 ?_
  refine z_iload4 F dX5_comes_54 ?_
  refine z_iast F aM_now (16 + 8 * N + 3) rfl (by omega) dX5_comes_56 ?_
  refine z_aload0 F dX5_comes_57 ?_
  refine z_getR F M_now fX5_9 dX5_comes_58 ?_
  refine z_iconst F 4 dX5_comes_61 zv_i_4 ?_
  refine z_dup2 F dX5_comes_62 rfl rfl ?_
  refine z_iald F aM_now (4) rfl (by omega) dX5_comes_63 ?_
  refine z_iconst F 1 dX5_comes_64 zv_i_1 ?_
  refine z_iadd F dX5_comes_65 ?_
  refine z_iast F aM_now (4) rfl (by omega) dX5_comes_66 ?_
  refine z_aload0 F dX5_comes_67 ?_
  refine z_iload6 F dX5_comes_68 ?_
  refine z_iload5 F dX5_comes_70 ?_
  refine z_callVI2 F (c5_goesTo _ N _ (by omega)) kX5_86 (by decide) ocM (Nat.le_of_ble_eq_true rfl) rfl dX5_comes_72 ?_
  refine z_pop F dX5_comes_75 rfl ?_
  refine z_iload6 F dX5_comes_76 ?_
  refine hR _ _ _ _ dX5_comes_78 rfl ?_
  refine ⟨rfl, ?_⟩
  simp only [z_up_row, z_row_row, z_rowr, s_come, u_ne _ _ (show 4 ≠ 16 + 8 * N + 0 by omega), u_ne _ _ (show 4 ≠ 16 + 8 * N + 1 by omega), u_ne _ _ (show 4 ≠ 16 + 8 * N + 2 by omega), u_ne _ _ (show 4 ≠ 16 + 8 * N + 3 by omega), hN]
set_option maxHeartbeats 4000000 in
set_option maxRecDepth 20000 in
theorem c5_clinks (D : zD) {N : Nat} (hN : D.1 1 4 = nI N) (h10 : N ≤ 10) : z_CI SM zT yX5_clinks cX5_clinks 4 .int 3 [.ref 0] D (z_eq (s_clk (D.1 1) N) D) := by
  refine z_startI SM_ok (by decide +kernel) (fun v hv => by simp at hv; subst hv; rfl) (Nat.le_of_ble_eq_true rfl) (fun X F hR => ?_)
  show z_J X SM 0 [some (.ref 0), none, none, none] [] D

  have inn : ∀ (a : Int32) (c : Nat) (hc : c < 10) (b : Option Value) (hb : z_c1 b = true), z_J X SM 70 [some (.ref 0), some (.int (a + s_clk1 (D.1 1) c c)), some (.int (nI c)), some (.int (nI c))] [] D → z_J X SM 16 [some (.ref 0), some (.int a), some (.int (nI c)), some (.int 0)] [] D := by
    intro a c hc b hb hcont
    have lin : ∀ (n q : Nat), q + n = c → z_J X SM 16 [some (.ref 0), some (.int (a + s_clk1 (D.1 1) c q)), some (.int (nI c)), some (.int (nI q))] [] D := by
      intro n
      induction n with
      | zero =>
        intro q hn
        refine z_iload3 F dX5_clinks_16 ?_
        refine z_iload2 F dX5_clinks_17 ?_
        refine z_ic_ge F 70 dX5_clinks_18 (by decide) (fun h18 => ?_) (fun h18 => ?_)
        · rw [show q = c by omega]
          exact hcont
        · exact absurd (by exact nI_le (by omega) (by omega)) h18
      | succ n ih =>
        intro q hn
        refine z_iload3 F dX5_clinks_16 ?_
        refine z_iload2 F dX5_clinks_17 ?_
        refine z_ic_ge F 70 dX5_clinks_18 (by decide) (fun h18 => ?_) (fun h18 => ?_)
        · exact absurd h18 (by exact nI_ge (by omega) (by omega))
        · refine z_iload1 F dX5_clinks_21 ?_
          refine z_aload0 F dX5_clinks_22 ?_
          refine z_iload2 F dX5_clinks_23 ?_
          refine z_iconst F 1 dX5_clinks_24 zv_i_1 ?_
          refine z_callVI2 F (c5_isIn _ (c) _ (by omega)) kX5_135 (by decide) ocM (Nat.le_of_ble_eq_true rfl) rfl dX5_clinks_25 ?_
          refine z_ifb_eq F 61 dX5_clinks_28 (by decide) (fun h28 => ?_) (fun h28 => ?_)
          · refine z_iconst F 0 dX5_clinks_61 zv_i_0 ?_
            refine z_iadd F dX5_clinks_62 ?_
            refine z_istore1 F dX5_clinks_63 rfl ?_
            refine z_iinc3 F 1 dX5_clinks_64 rfl zv_i_1 ?_
            refine z_goto F 16 dX5_clinks_67 (by decide) ?_
            have h := ih (q + 1) (by omega)
            rw [nI_succ] at h
            simp only [decide_eq_true_eq, decide_eq_false_iff_not] at *
            have e : a + s_clk1 (D.1 1) c (q + 1) = (a + s_clk1 (D.1 1) c q) + (if D.1 1 (16 + 8 * c + 4) = 1 ∧ D.1 1 (16 + 8 * q + 4) = 1 ∧ D.1 1 (16 + 8 * c + 6) = D.1 1 (16 + 8 * q + 6) then 1 else 0) := by
              rw [s_clk1, Int32.add_assoc]
            rw [e] at h
            simp only [h28] at h
            try simp only [h37] at h
            try simp only [h54] at h
            simpa only [if_true, if_false, and_self, and_true, true_and, false_and, and_false] using h
          · refine z_aload0 F dX5_clinks_31 ?_
            refine z_iload3 F dX5_clinks_32 ?_
            refine z_iconst F 1 dX5_clinks_33 zv_i_1 ?_
            refine z_callVI2 F (c5_isIn _ (q) _ (by omega)) kX5_135 (by decide) ocM (Nat.le_of_ble_eq_true rfl) rfl dX5_clinks_34 ?_
            refine z_ifb_eq F 61 dX5_clinks_37 (by decide) (fun h37 => ?_) (fun h37 => ?_)
            · refine z_iconst F 0 dX5_clinks_61 zv_i_0 ?_
              refine z_iadd F dX5_clinks_62 ?_
              refine z_istore1 F dX5_clinks_63 rfl ?_
              refine z_iinc3 F 1 dX5_clinks_64 rfl zv_i_1 ?_
              refine z_goto F 16 dX5_clinks_67 (by decide) ?_
              have h := ih (q + 1) (by omega)
              rw [nI_succ] at h
              simp only [decide_eq_true_eq, decide_eq_false_iff_not] at *
              have e : a + s_clk1 (D.1 1) c (q + 1) = (a + s_clk1 (D.1 1) c q) + (if D.1 1 (16 + 8 * c + 4) = 1 ∧ D.1 1 (16 + 8 * q + 4) = 1 ∧ D.1 1 (16 + 8 * c + 6) = D.1 1 (16 + 8 * q + 6) then 1 else 0) := by
                rw [s_clk1, Int32.add_assoc]
              rw [e] at h
              simp only [h28] at h
              try simp only [h37] at h
              try simp only [h54] at h
              simpa only [if_true, if_false, and_self, and_true, true_and, false_and, and_false] using h
            · refine z_aload0 F dX5_clinks_40 ?_
              refine z_iload2 F dX5_clinks_41 ?_
              refine z_bipush F 6 dX5_clinks_42 zv_b_6 ?_
              refine z_callVI2 F (c5_coinIs _ (c) 6 (by omega) (by decide)) kX5_105 (by decide) ocM (Nat.le_of_ble_eq_true rfl) rfl dX5_clinks_44 ?_
              refine z_aload0 F dX5_clinks_47 ?_
              refine z_iload3 F dX5_clinks_48 ?_
              refine z_bipush F 6 dX5_clinks_49 zv_b_6 ?_
              refine z_callVI2 F (c5_coinIs _ (q) 6 (by omega) (by decide)) kX5_105 (by decide) ocM (Nat.le_of_ble_eq_true rfl) rfl dX5_clinks_51 ?_
              refine z_ic_ne F 61 dX5_clinks_54 (by decide) (fun h54 => ?_) (fun h54 => ?_)
              · refine z_iconst F 0 dX5_clinks_61 zv_i_0 ?_
                refine z_iadd F dX5_clinks_62 ?_
                refine z_istore1 F dX5_clinks_63 rfl ?_
                refine z_iinc3 F 1 dX5_clinks_64 rfl zv_i_1 ?_
                refine z_goto F 16 dX5_clinks_67 (by decide) ?_
                have h := ih (q + 1) (by omega)
                rw [nI_succ] at h
                simp only [decide_eq_true_eq, decide_eq_false_iff_not] at *
                have e : a + s_clk1 (D.1 1) c (q + 1) = (a + s_clk1 (D.1 1) c q) + (if D.1 1 (16 + 8 * c + 4) = 1 ∧ D.1 1 (16 + 8 * q + 4) = 1 ∧ D.1 1 (16 + 8 * c + 6) = D.1 1 (16 + 8 * q + 6) then 1 else 0) := by
                  rw [s_clk1, Int32.add_assoc]
                rw [e] at h
                simp only [h28] at h
                try simp only [h37] at h
                try simp only [h54] at h
                simpa only [if_true, if_false, and_self, and_true, true_and, false_and, and_false] using h
              · refine z_iconst F 1 dX5_clinks_57 zv_i_1 ?_
                refine z_goto F 62 dX5_clinks_58 (by decide) ?_
                refine z_iadd F dX5_clinks_62 ?_
                refine z_istore1 F dX5_clinks_63 rfl ?_
                refine z_iinc3 F 1 dX5_clinks_64 rfl zv_i_1 ?_
                refine z_goto F 16 dX5_clinks_67 (by decide) ?_
                have h := ih (q + 1) (by omega)
                rw [nI_succ] at h
                simp only [decide_eq_true_eq, decide_eq_false_iff_not] at *
                have e : a + s_clk1 (D.1 1) c (q + 1) = (a + s_clk1 (D.1 1) c q) + (if D.1 1 (16 + 8 * c + 4) = 1 ∧ D.1 1 (16 + 8 * q + 4) = 1 ∧ D.1 1 (16 + 8 * c + 6) = D.1 1 (16 + 8 * q + 6) then 1 else 0) := by
                  rw [s_clk1, Int32.add_assoc]
                rw [e] at h
                simp only [h28] at h
                try simp only [h37] at h
                try simp only [h54] at h
                simpa only [if_true, if_false, and_self, and_true, true_and, false_and, and_false] using h
    have h := lin c 0 (by omega)
    rw [s_clk1, i_add0] at h
    exact h
  have loop : ∀ (n c : Nat), c + n = N → ∀ a3, z_J X SM 4 [some (.ref 0), some (.int (s_clk (D.1 1) c)), some (.int (nI c)), a3] [] D := by
    intro n
    induction n with
    | zero =>
      intro c hn a3
      refine z_iload2 F dX5_clinks_4 ?_
      refine z_aload0 F dX5_clinks_5 ?_
      refine z_getR F M_now fX5_9 dX5_clinks_6 ?_
      refine z_iconst F 4 dX5_clinks_9 zv_i_4 ?_
      refine z_iald F aM_now (4) rfl (by omega) dX5_clinks_10 ?_
      refine z_ic_ge F 76 dX5_clinks_11 (by decide) (fun h11 => ?_) (fun h11 => ?_)
      · refine z_iload1 F dX5_clinks_76 ?_
        refine hR _ _ _ _ dX5_clinks_77 rfl ?_
        exact ⟨by rw [show c = N by omega], rfl⟩
      · exact absurd (by rw [hN]; exact nI_le (by omega) (by omega)) h11
    | succ n ih =>
      intro c hn a3
      refine z_iload2 F dX5_clinks_4 ?_
      refine z_aload0 F dX5_clinks_5 ?_
      refine z_getR F M_now fX5_9 dX5_clinks_6 ?_
      refine z_iconst F 4 dX5_clinks_9 zv_i_4 ?_
      refine z_iald F aM_now (4) rfl (by omega) dX5_clinks_10 ?_
      refine z_ic_ge F 76 dX5_clinks_11 (by decide) (fun h11 => ?_) (fun h11 => ?_)
      · exact absurd h11 (by rw [hN]; exact nI_ge (by omega) (by omega))
      · refine z_iconst F 0 dX5_clinks_14 zv_i_0 ?_
        refine z_istore3 F dX5_clinks_15 rfl ?_
        refine inn _ c (by omega) none rfl ?_
        refine z_iinc2 F 1 dX5_clinks_70 rfl zv_i_1 ?_
        refine z_goto F 4 dX5_clinks_73 (by decide) ?_
        have h := ih (c + 1) (by omega) (some (.int (nI c)))
        rw [nI_succ] at h
        exact h
  refine z_iconst F 0 dX5_clinks_0 zv_i_0 ?_
  refine z_istore1 F dX5_clinks_1 rfl ?_
  refine z_iconst F 0 dX5_clinks_2 zv_i_0 ?_
  refine z_istore2 F dX5_clinks_3 rfl ?_
  exact loop N 0 (by omega) _
