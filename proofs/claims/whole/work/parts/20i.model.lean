set_option maxHeartbeats 4000000 in
set_option maxRecDepth 20000 in
theorem c5_thin (D : zD) {N : Nat} (hN : D.1 1 4 = nI N) (h10 : N ≤ 10) : z_CI SM zT yX5_thin cX5_thin 3 .int 5 [.ref 0] D (z_eq (s_thin (D.1 1) N) D) := by
  refine z_startI SM_ok (by decide +kernel) (fun v hv => by simp at hv; subst hv; rfl) (Nat.le_of_ble_eq_true rfl) (fun X F hR => ?_)
  show z_J X SM 0 [some (.ref 0), none, none] [] D
  have loop : ∀ (n c : Nat), c + n = N → z_J X SM 4 [some (.ref 0), some (.int (s_thin (D.1 1) c)), some (.int (nI c))] [] D := by
    intro n
    induction n with
    | zero =>
      intro c hn
      refine z_iload2 F dX5_thin_4 ?_
      refine z_aload0 F dX5_thin_5 ?_
      refine z_getR F M_now fX5_9 dX5_thin_6 ?_
      refine z_iconst F 4 dX5_thin_9 zv_i_4 ?_
      refine z_iald F aM_now (4) rfl (by omega) dX5_thin_10 ?_
      refine z_ic_ge F 44 dX5_thin_11 (by decide) (fun h11 => ?_) (fun h11 => ?_)
      · refine z_iload1 F dX5_thin_44 ?_
        refine hR _ _ _ _ dX5_thin_45 rfl ?_
        exact ⟨by rw [show c = N by omega], rfl⟩
      · exact absurd (by rw [hN]; exact nI_le (by omega) (by omega)) h11
    | succ n ih =>
      intro c hn
      refine z_iload2 F dX5_thin_4 ?_
      refine z_aload0 F dX5_thin_5 ?_
      refine z_getR F M_now fX5_9 dX5_thin_6 ?_
      refine z_iconst F 4 dX5_thin_9 zv_i_4 ?_
      refine z_iald F aM_now (4) rfl (by omega) dX5_thin_10 ?_
      refine z_ic_ge F 44 dX5_thin_11 (by decide) (fun h11 => ?_) (fun h11 => ?_)
      · exact absurd h11 (by rw [hN]; exact nI_ge (by omega) (by omega))
      · refine z_iload1 F dX5_thin_14 ?_
        refine z_aload0 F dX5_thin_15 ?_
        refine z_iload2 F dX5_thin_16 ?_
        refine z_callVI1 F (c5_thick _ (c) (by omega)) kX5_117 (by decide) ocM (Nat.le_of_ble_eq_true rfl) rfl dX5_thin_17 ?_
        refine z_aload0 F dX5_thin_20 ?_
        refine z_getR F M_now fX5_9 dX5_thin_21 ?_
        refine z_iconst F 1 dX5_thin_24 zv_i_1 ?_
        refine z_iald F aM_now (1) rfl (by omega) dX5_thin_25 ?_
        refine z_ic_gt F 35 dX5_thin_26 (by decide) (fun h26 => ?_) (fun h26 => ?_)
        · refine z_iconst F 0 dX5_thin_35 zv_i_0 ?_
          refine z_ior F dX5_thin_36 ?_
          refine z_istore1 F dX5_thin_37 rfl ?_
          refine z_iinc2 F 1 dX5_thin_38 rfl zv_i_1 ?_
          refine z_goto F 4 dX5_thin_41 (by decide) ?_
          have h := ih (c + 1) (by omega)
          rw [nI_succ, s_thin] at h
          first
            | (rw [if_neg (Int32.not_le.mpr h26)] at h; rw [i_or0]; exact h)
            | (rw [if_pos (Int32.not_lt.mp h26)] at h; exact h)
        · refine z_iconst F 1 dX5_thin_29 zv_i_1 ?_
          refine z_iload2 F dX5_thin_30 ?_
          refine z_ishl F dX5_thin_31 ?_
          refine z_goto F 36 dX5_thin_32 (by decide) ?_
          refine z_ior F dX5_thin_36 ?_
          refine z_istore1 F dX5_thin_37 rfl ?_
          refine z_iinc2 F 1 dX5_thin_38 rfl zv_i_1 ?_
          refine z_goto F 4 dX5_thin_41 (by decide) ?_
          have h := ih (c + 1) (by omega)
          rw [nI_succ, s_thin] at h
          first
            | (rw [if_neg (Int32.not_le.mpr h26)] at h; rw [i_or0]; exact h)
            | (rw [if_pos (Int32.not_lt.mp h26)] at h; exact h)
  refine z_iconst F 0 dX5_thin_0 zv_i_0 ?_
  refine z_istore1 F dX5_thin_1 rfl ?_
  refine z_iconst F 0 dX5_thin_2 zv_i_0 ?_
  refine z_istore2 F dX5_thin_3 rfl ?_
  exact loop N 0 (by omega)
set_option maxHeartbeats 4000000 in
set_option maxRecDepth 20000 in
theorem c5_hem (D : zD) (x : Int32) {N : Nat} (hN : D.1 1 4 = nI N) (h10 : N ≤ 10) : z_CI SM zT yX5_hem cX5_hem 8 .int 7 [.ref 0, .int x] D (z_qM D (o_hem (D.1 1) N x)) := by
  refine z_startI SM_ok (by decide +kernel) (fun v hv => by simp at hv; rcases hv with rfl | rfl <;> rfl) (Nat.le_of_ble_eq_true rfl) (fun X F hR => ?_)
  show z_J X SM 0 [some (.ref 0), some (.int x), none, none, none, none, none, none] [] D
  refine z_aload0 F dX5_hem_0 ?_
  refine z_iconst F 1 dX5_hem_1 zv_i_1 ?_
  refine z_iload1 F dX5_hem_2 ?_
  refine z_bipush F 100 dX5_hem_3 zv_b_100 ?_
  by_cases hb : b_in x 1 100 = true
  · by_cases hl : 9999 < D.1 1 0 + x
    · refine z_callVI3 F (c5_refL D true x 100 (by rw [Bool.true_and]; exact hb) hl) kX5_192 (by decide) ocM (Nat.le_of_ble_eq_true rfl) rfl dX5_hem_5 ?_
      refine z_istore2 F dX5_hem_8 rfl ?_
      refine z_iload2 F dX5_hem_9 ?_
      refine z_if_eq F 19 dX5_hem_10 (by decide) (fun h10 => ?_) (fun h10 => ?_)
      · exact absurd h10 (by decide)
      · refine z_aload0 F dX5_hem_13 ?_
        refine z_iload2 F dX5_hem_14 ?_
        refine z_callVI1 F (c5_finding _ _ 4 (by decide) (by decide)) kX5_93 (by decide) ocM (Nat.le_of_ble_eq_true rfl) rfl dX5_hem_15 ?_
        refine hR _ _ _ _ dX5_hem_18 rfl ?_
        simp only [o_hem, hb, hl, Bool.false_eq_true, if_true, if_false, Bool.and_true, Bool.true_and, Bool.and_false, Bool.false_and, Bool.and_self, and_self]; first | exact ⟨rfl, rfl⟩ | exact ⟨by decide, rfl⟩ | exact ⟨by decide, z_sm_r _⟩ | exact ⟨rfl, z_sm_r _⟩ | exact ⟨rfl, z_sm_as _⟩ | exact ⟨by decide, z_sm_fM _ (z_sm_as _)⟩
    · refine z_callVI3 F (c5_refO D true x 100 (by rw [Bool.true_and]; exact hb) hl) kX5_192 (by decide) ocM (Nat.le_of_ble_eq_true rfl) rfl dX5_hem_5 ?_
      refine z_istore2 F dX5_hem_8 rfl ?_
      refine z_iload2 F dX5_hem_9 ?_
      obtain ⟨q, hq1, hq, rfl⟩ := b_in1 100 (by decide) hb
      have hqn := i_n_n (j := q) (by omega)
      refine z_if_eq F 19 dX5_hem_10 (by decide) (fun h10 => ?_) (fun h10 => ?_)
      · clear h10
        refine z_aload0 F dX5_hem_19 ?_
        refine z_getR F M_now fX5_9 dX5_hem_20 ?_
        refine z_aload0 F dX5_hem_23 ?_
        refine z_getR F M_aside fX5_16 dX5_hem_24 ?_
        refine z_callSV2 F (c5_aside D) kX5_74 (by decide) (Nat.le_of_ble_eq_true rfl) rfl dX5_hem_27 ?_
        refine z_aload0 F dX5_hem_30 ?_
        refine z_iconst F 2 dX5_hem_31 zv_i_2 ?_
        refine z_callVI1 F (by have h := c5_lieIn (z_as D) 2 (by rw [z_as1]; exact hN) h10; rw [z_as1] at h; exact h) kX5_141 (by decide) ocM (Nat.le_of_ble_eq_true rfl) rfl dX5_hem_32 ?_
        refine z_istore3 F dX5_hem_35 rfl ?_
        refine z_iconst F (-1) dX5_hem_36 zv_i_m1 ?_
        refine z_istore4 F dX5_hem_37 rfl ?_
        refine z_iconst F 0 dX5_hem_39 zv_i_0 ?_
        refine z_istore5 F dX5_hem_40 rfl ?_
        refine z_iconst F 0 dX5_hem_42 zv_i_0 ?_
        refine z_istore6 F dX5_hem_43 rfl ?_
        have loop : ∀ (n c : Nat), c + n = 8 → ∀ (a7 : Option Value), z_J X SM 45 [some (.ref 0), some (.int (nI q)), some (.int 0), some (.int (s_lie (D.1 1) 2 N)), some (.int (s_hem (D.1 1) N q c).1), some (.int (s_hem (D.1 1) N q c).2), some (.int (nI c)), a7] [] (z_as D) := by
          intro n
          induction n with
          | zero =>
            intro c hn a7
            refine z_iload6 F dX5_hem_45 ?_
            refine z_bipush F 8 dX5_hem_47 zv_b_8 ?_
            refine z_ic_ge F 94 dX5_hem_49 (by decide) (fun h49 => ?_) (fun h49 => ?_)
            · refine z_iload4 F dX5_hem_94 ?_
              refine hR _ _ _ _ dX5_hem_96 rfl ?_
              simp only [o_hem, hb, hl, hqn, Bool.false_eq_true, if_true, if_false, Bool.and_true, Bool.true_and, Bool.and_false, Bool.false_and, Bool.and_self, and_self]
              rw [show c = 8 by omega]
              exact ⟨rfl, z_sm_as _⟩
            · exact absurd (show (8 : Int32) ≤ nI c from nI_le (a := 8) (by omega) (by omega)) h49
          | succ n ih =>
            intro c hn a7
            refine z_iload6 F dX5_hem_45 ?_
            refine z_bipush F 8 dX5_hem_47 zv_b_8 ?_
            refine z_ic_ge F 94 dX5_hem_49 (by decide) (fun h49 => ?_) (fun h49 => ?_)
            · exact absurd h49 (nI_ge (a := c) (b := 8) (by omega) (by omega))
            · refine z_aload0 F dX5_hem_52 ?_
              refine z_getR F M_now fX5_9 dX5_hem_53 ?_
              refine z_iconst F 3 dX5_hem_56 zv_i_3 ?_
              refine z_iload6 F dX5_hem_57 ?_
              refine z_iast F aM_now (3) rfl (by omega) dX5_hem_59 ?_
              rw [z_up_row, z_as1]
              refine z_aload0 F dX5_hem_60 ?_
              refine z_iload1 F dX5_hem_61 ?_
              refine z_iload3 F dX5_hem_62 ?_
              refine z_callVI2 F (c5_lostThen D _ q _ (by rw [u_ne _ _ (by decide)]; exact hN) h10 (by omega) (fun i hi => u_ne _ _ (by omega))) kX5_196 (by decide) ocM (Nat.le_of_ble_eq_true rfl) rfl dX5_hem_63 ?_
              refine z_istore7 F dX5_hem_66 rfl ?_
              refine z_iload4 F dX5_hem_68 ?_
              refine z_if_lt F 80 dX5_hem_70 (by decide) (fun h70 => ?_) (fun h70 => ?_)
              · refine z_iload6 F dX5_hem_80 ?_
                refine z_istore4 F dX5_hem_82 rfl ?_
                refine z_iload7 F dX5_hem_84 ?_
                refine z_istore5 F dX5_hem_86 rfl ?_
                refine z_iinc6 F 1 dX5_hem_88 rfl zv_i_1 ?_
                refine z_goto F 45 dX5_hem_91 (by decide) ?_
                have h := ih (c + 1) (by omega) (some (.int (v_hem (D.1 1) N q c))) 
                rw [nI_succ, s_hem, if_pos (Or.inl h70)] at h
                exact h
              · refine z_iload7 F dX5_hem_73 ?_
                refine z_iload5 F dX5_hem_75 ?_
                refine z_ic_ge F 88 dX5_hem_77 (by decide) (fun h77 => ?_) (fun h77 => ?_)
                · refine z_iinc6 F 1 dX5_hem_88 rfl zv_i_1 ?_
                  refine z_goto F 45 dX5_hem_91 (by decide) ?_
                  have h := ih (c + 1) (by omega) (some (.int (v_hem (D.1 1) N q c))) 
                  rw [nI_succ, s_hem, if_neg (fun z => z.elim (fun z => h70 z) (fun (z : v_hem (D.1 1) N q c < (s_hem (D.1 1) N q c).2) => Int32.not_lt.mpr h77 z))] at h
                  exact h
                · refine z_iload6 F dX5_hem_80 ?_
                  refine z_istore4 F dX5_hem_82 rfl ?_
                  refine z_iload7 F dX5_hem_84 ?_
                  refine z_istore5 F dX5_hem_86 rfl ?_
                  refine z_iinc6 F 1 dX5_hem_88 rfl zv_i_1 ?_
                  refine z_goto F 45 dX5_hem_91 (by decide) ?_
                  have h := ih (c + 1) (by omega) (some (.int (v_hem (D.1 1) N q c))) 
                  rw [nI_succ, s_hem, if_pos (Or.inr (show v_hem (D.1 1) N q c < (s_hem (D.1 1) N q c).2 from Int32.not_le.mp h77))] at h
                  exact h
        exact loop 8 0 (by omega) none
      · exact absurd h10 (by decide)
  · refine z_callVI3 F (c5_refB D true x 100 (by rw [Bool.true_and]; exact hb)) kX5_192 (by decide) ocM (Nat.le_of_ble_eq_true rfl) rfl dX5_hem_5 ?_
    refine z_istore2 F dX5_hem_8 rfl ?_
    refine z_iload2 F dX5_hem_9 ?_
    refine z_if_eq F 19 dX5_hem_10 (by decide) (fun h10 => ?_) (fun h10 => ?_)
    · exact absurd h10 (by decide)
    · refine z_aload0 F dX5_hem_13 ?_
      refine z_iload2 F dX5_hem_14 ?_
      refine z_callVI1 F (c5_finding _ _ 0 (by decide) (by decide)) kX5_93 (by decide) ocM (Nat.le_of_ble_eq_true rfl) rfl dX5_hem_15 ?_
      refine hR _ _ _ _ dX5_hem_18 rfl ?_
      simp only [o_hem, hb, Bool.false_eq_true, if_true, if_false, Bool.and_true, Bool.true_and, Bool.and_false, Bool.false_and, Bool.and_self, and_self]; first | exact ⟨rfl, rfl⟩ | exact ⟨by decide, rfl⟩ | exact ⟨by decide, z_sm_r _⟩ | exact ⟨rfl, z_sm_r _⟩ | exact ⟨rfl, z_sm_as _⟩ | exact ⟨by decide, z_sm_fM _ (z_sm_as _)⟩
set_option maxHeartbeats 4000000 in
set_option maxRecDepth 20000 in
theorem c5_worst (D : zD) (x : Int32) {N : Nat} (hN : D.1 1 4 = nI N) (h10 : N ≤ 10) : z_CI SM zT yX5_worst cX5_worst 9 .int 7 [.ref 0, .int x] D (z_qM D (o_worst (D.1 1) N x)) := by
  refine z_startI SM_ok (by decide +kernel) (fun v hv => by simp at hv; rcases hv with rfl | rfl <;> rfl) (Nat.le_of_ble_eq_true rfl) (fun X F hR => ?_)
  show z_J X SM 0 [some (.ref 0), some (.int x), none, none, none, none, none, none, none] [] D
  refine z_aload0 F dX5_worst_0 ?_
  refine z_iconst F 1 dX5_worst_1 zv_i_1 ?_
  refine z_iload1 F dX5_worst_2 ?_
  refine z_bipush F 100 dX5_worst_3 zv_b_100 ?_
  by_cases hb : b_in x 1 100 = true
  · by_cases hl : 9999 < D.1 1 0 + x
    · refine z_callVI3 F (c5_refL D true x 100 (by rw [Bool.true_and]; exact hb) hl) kX5_192 (by decide) ocM (Nat.le_of_ble_eq_true rfl) rfl dX5_worst_5 ?_
      refine z_istore2 F dX5_worst_8 rfl ?_
      refine z_iload2 F dX5_worst_9 ?_
      refine z_if_eq F 19 dX5_worst_10 (by decide) (fun h10 => ?_) (fun h10 => ?_)
      · exact absurd h10 (by decide)
      · refine z_aload0 F dX5_worst_13 ?_
        refine z_iload2 F dX5_worst_14 ?_
        refine z_callVI1 F (c5_finding _ _ 4 (by decide) (by decide)) kX5_93 (by decide) ocM (Nat.le_of_ble_eq_true rfl) rfl dX5_worst_15 ?_
        refine hR _ _ _ _ dX5_worst_18 rfl ?_
        simp only [o_worst, hb, hl, Bool.false_eq_true, if_true, if_false, Bool.and_true, Bool.true_and, Bool.and_false, Bool.false_and, Bool.and_self, and_self]; first | exact ⟨rfl, rfl⟩ | exact ⟨by decide, rfl⟩ | exact ⟨by decide, z_sm_r _⟩ | exact ⟨rfl, z_sm_r _⟩ | exact ⟨rfl, z_sm_as _⟩ | exact ⟨by decide, z_sm_fM _ (z_sm_as _)⟩
    · refine z_callVI3 F (c5_refO D true x 100 (by rw [Bool.true_and]; exact hb) hl) kX5_192 (by decide) ocM (Nat.le_of_ble_eq_true rfl) rfl dX5_worst_5 ?_
      refine z_istore2 F dX5_worst_8 rfl ?_
      refine z_iload2 F dX5_worst_9 ?_
      obtain ⟨q, hq1, hq, rfl⟩ := b_in1 100 (by decide) hb
      have hqn := i_n_n (j := q) (by omega)
      refine z_if_eq F 19 dX5_worst_10 (by decide) (fun h10 => ?_) (fun h10 => ?_)
      · clear h10
        refine z_aload0 F dX5_worst_19 ?_
        refine z_getR F M_now fX5_9 dX5_worst_20 ?_
        refine z_aload0 F dX5_worst_23 ?_
        refine z_getR F M_aside fX5_16 dX5_worst_24 ?_
        refine z_callSV2 F (c5_aside D) kX5_74 (by decide) (Nat.le_of_ble_eq_true rfl) rfl dX5_worst_27 ?_
        refine z_aload0 F dX5_worst_30 ?_
        refine z_iconst F 2 dX5_worst_31 zv_i_2 ?_
        refine z_callVI1 F (by have h := c5_lieIn (z_as D) 2 (by rw [z_as1]; exact hN) h10; rw [z_as1] at h; exact h) kX5_141 (by decide) ocM (Nat.le_of_ble_eq_true rfl) rfl dX5_worst_32 ?_
        refine z_istore3 F dX5_worst_35 rfl ?_
        refine z_iconst F (-1) dX5_worst_36 zv_i_m1 ?_
        refine z_istore4 F dX5_worst_37 rfl ?_
        refine z_iconst F 0 dX5_worst_39 zv_i_0 ?_
        refine z_istore5 F dX5_worst_40 rfl ?_
        refine z_iconst F 0 dX5_worst_42 zv_i_0 ?_
        refine z_istore6 F dX5_worst_43 rfl ?_
        have loop : ∀ (n c : Nat), c + n = N → ∀ (a7 a8 : Option Value), z_J X SM 45 [some (.ref 0), some (.int (nI q)), some (.int 0), some (.int (s_lie (D.1 1) 2 N)), some (.int (s_worst (D.1 1) N q c).1), some (.int (s_worst (D.1 1) N q c).2), some (.int (nI c)), a7, a8] [] (z_as D) := by
          intro n
          induction n with
          | zero =>
            intro c hn a7 a8
            refine z_iload6 F dX5_worst_45 ?_
            refine z_aload0 F dX5_worst_47 ?_
            refine z_getR F M_now fX5_9 dX5_worst_48 ?_
            refine z_iconst F 4 dX5_worst_51 zv_i_4 ?_
            refine z_iald F aM_now (4) rfl (by omega) dX5_worst_52 ?_
            refine z_ic_ge F 114 dX5_worst_53 (by decide) (fun h53 => ?_) (fun h53 => ?_)
            · have ec : c = N := by omega
              subst ec
              
              refine z_iload4 F dX5_worst_114 ?_
              refine z_if_ge F 128 dX5_worst_116 (by decide) (fun h116 => ?_) (fun h116 => ?_)
              · have h116 := Int32.not_lt.mpr h116
                refine z_iload4 F dX5_worst_128 ?_
                refine hR _ _ _ _ dX5_worst_130 rfl ?_
                simp only [o_worst, hb, hl, hqn, h116, Bool.false_eq_true, if_true, if_false, Bool.and_true, Bool.true_and, Bool.and_false, Bool.false_and, Bool.and_self, and_self]; exact ⟨rfl, z_sm_as _⟩
              · have h116 := Int32.not_le.mp h116
                refine z_aload0 F dX5_worst_119 ?_
                refine z_ldc F (-1000004) dX5_worst_120 zw_860 ?_
                refine z_callVI1 F (c5_finding _ _ 3 (by decide) (by decide)) kX5_93 (by decide) ocM (Nat.le_of_ble_eq_true rfl) rfl dX5_worst_122 ?_
                refine z_goto F 130 dX5_worst_125 (by decide) ?_
                refine hR _ _ _ _ dX5_worst_130 rfl ?_
                simp only [o_worst, hb, hl, hqn, h116, Bool.false_eq_true, if_true, if_false, Bool.and_true, Bool.true_and, Bool.and_false, Bool.false_and, Bool.and_self, and_self]; exact ⟨nF_3.symm, z_sm_fM _ (z_sm_as _)⟩
            · exact absurd (by rw [z_as1, hN]; exact nI_le (by omega) (by omega)) h53
          | succ n ih =>
            intro c hn a7 a8
            refine z_iload6 F dX5_worst_45 ?_
            refine z_aload0 F dX5_worst_47 ?_
            refine z_getR F M_now fX5_9 dX5_worst_48 ?_
            refine z_iconst F 4 dX5_worst_51 zv_i_4 ?_
            refine z_iald F aM_now (4) rfl (by omega) dX5_worst_52 ?_
            refine z_ic_ge F 114 dX5_worst_53 (by decide) (fun h53 => ?_) (fun h53 => ?_)
            · exact absurd h53 (by rw [z_as1, hN]; exact nI_ge (by omega) (by omega))
            · refine z_aload0 F dX5_worst_56 ?_
              refine z_iload6 F dX5_worst_57 ?_
              refine z_iconst F 0 dX5_worst_59 zv_i_0 ?_
              refine z_callVI2 F (c5_isIn _ c _ (by omega)) kX5_135 (by decide) ocM (Nat.le_of_ble_eq_true rfl) rfl dX5_worst_60 ?_
              refine z_ifb_eq F 108 dX5_worst_63 (by decide) (fun h63 => ?_) (fun h63 => ?_)
              · have hp : ¬ D.1 1 (16 + 8 * c + 4) = 0 := by
                  rw [z_as1] at h63
                  exact of_decide_eq_false h63
                refine z_iinc6 F 1 dX5_worst_108 rfl zv_i_1 ?_
                refine z_goto F 45 dX5_worst_111 (by decide) ?_
                have h := ih (c + 1) (by omega) a7 a8
                rw [nI_succ, s_worst, if_neg (fun z => hp z.1)] at h
                exact h
              · have hp : D.1 1 (16 + 8 * c + 4) = 0 := by
                  rw [z_as1] at h63
                  exact of_decide_eq_true h63
                refine z_aload0 F dX5_worst_66 ?_
                refine z_iload6 F dX5_worst_67 ?_
                refine z_iconst F 3 dX5_worst_69 zv_i_3 ?_
                refine z_callVI2 F (c5_goesTo (z_as D) c 3 (by omega)) kX5_86 (by decide) ocM (Nat.le_of_ble_eq_true rfl) rfl dX5_worst_70 ?_
                refine z_istore7 F dX5_worst_73 rfl ?_
                rw [z_as1]
                refine z_aload0 F dX5_worst_75 ?_
                refine z_iload1 F dX5_worst_76 ?_
                refine z_iload3 F dX5_worst_77 ?_
                refine z_callVI2 F (c5_lostThen D _ q _ (by rw [s_goTo_lo _ _ (by decide)]; exact hN) h10 (by omega) (fun i hi => s_goTo_hi _ _ (by omega) hi)) kX5_196 (by decide) ocM (Nat.le_of_ble_eq_true rfl) rfl dX5_worst_78 ?_
                refine z_istore8 F dX5_worst_81 rfl ?_
                refine z_iload7 F dX5_worst_83 ?_
                refine z_if_ne F 108 dX5_worst_85 (by decide) (fun h85 => ?_) (fun h85 => ?_)
                · exact absurd hp h85
                · refine z_iload4 F dX5_worst_88 ?_
                  refine z_if_lt F 100 dX5_worst_90 (by decide) (fun h90 => ?_) (fun h90 => ?_)
                  · refine z_iload6 F dX5_worst_100 ?_
                    refine z_istore4 F dX5_worst_102 rfl ?_
                    refine z_iload8 F dX5_worst_104 ?_
                    refine z_istore5 F dX5_worst_106 rfl ?_
                    refine z_iinc6 F 1 dX5_worst_108 rfl zv_i_1 ?_
                    refine z_goto F 45 dX5_worst_111 (by decide) ?_
                    have h := ih (c + 1) (by omega) (some (.int (D.1 1 (16 + 8 * c + 4)))) (some (.int (v_worst (D.1 1) N q c)))
                    rw [nI_succ, s_worst, if_pos ⟨hp, Or.inl h90⟩] at h
                    exact h
                  · refine z_iload8 F dX5_worst_93 ?_
                    refine z_iload5 F dX5_worst_95 ?_
                    refine z_ic_ge F 108 dX5_worst_97 (by decide) (fun h97 => ?_) (fun h97 => ?_)
                    · refine z_iinc6 F 1 dX5_worst_108 rfl zv_i_1 ?_
                      refine z_goto F 45 dX5_worst_111 (by decide) ?_
                      have h := ih (c + 1) (by omega) (some (.int (D.1 1 (16 + 8 * c + 4)))) (some (.int (v_worst (D.1 1) N q c)))
                      rw [nI_succ, s_worst, if_neg (fun z => z.2.elim (fun z => h90 z) (fun (z : v_worst (D.1 1) N q c < (s_worst (D.1 1) N q c).2) => Int32.not_lt.mpr h97 z))] at h
                      exact h
                    · refine z_iload6 F dX5_worst_100 ?_
                      refine z_istore4 F dX5_worst_102 rfl ?_
                      refine z_iload8 F dX5_worst_104 ?_
                      refine z_istore5 F dX5_worst_106 rfl ?_
                      refine z_iinc6 F 1 dX5_worst_108 rfl zv_i_1 ?_
                      refine z_goto F 45 dX5_worst_111 (by decide) ?_
                      have h := ih (c + 1) (by omega) (some (.int (D.1 1 (16 + 8 * c + 4)))) (some (.int (v_worst (D.1 1) N q c)))
                      rw [nI_succ, s_worst, if_pos ⟨hp, Or.inr (show v_worst (D.1 1) N q c < (s_worst (D.1 1) N q c).2 from Int32.not_le.mp h97)⟩] at h
                      exact h
        exact loop N 0 (by omega) none none
      · exact absurd h10 (by decide)
  · refine z_callVI3 F (c5_refB D true x 100 (by rw [Bool.true_and]; exact hb)) kX5_192 (by decide) ocM (Nat.le_of_ble_eq_true rfl) rfl dX5_worst_5 ?_
    refine z_istore2 F dX5_worst_8 rfl ?_
    refine z_iload2 F dX5_worst_9 ?_
    refine z_if_eq F 19 dX5_worst_10 (by decide) (fun h10 => ?_) (fun h10 => ?_)
    · exact absurd h10 (by decide)
    · refine z_aload0 F dX5_worst_13 ?_
      refine z_iload2 F dX5_worst_14 ?_
      refine z_callVI1 F (c5_finding _ _ 0 (by decide) (by decide)) kX5_93 (by decide) ocM (Nat.le_of_ble_eq_true rfl) rfl dX5_worst_15 ?_
      refine hR _ _ _ _ dX5_worst_18 rfl ?_
      simp only [o_worst, hb, Bool.false_eq_true, if_true, if_false, Bool.and_true, Bool.true_and, Bool.and_false, Bool.false_and, Bool.and_self, and_self]; first | exact ⟨rfl, rfl⟩ | exact ⟨by decide, rfl⟩ | exact ⟨by decide, z_sm_r _⟩ | exact ⟨rfl, z_sm_r _⟩ | exact ⟨rfl, z_sm_as _⟩ | exact ⟨by decide, z_sm_fM _ (z_sm_as _)⟩
