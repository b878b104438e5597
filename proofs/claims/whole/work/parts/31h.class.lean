theorem v_cnt_m1 {k : Nat} (h : k < 2 ^ 31) : v_cnt k (-1) = nI (p_pop k) := by
  unfold v_cnt
  have e : nI (k &&& i_u (-1)) = nI k := by rw [← i_and_u, i_m1]
  have hl := Nat.and_le_left (n := k) (m := i_u (-1))
  rw [(nI_eq (by omega) h).mp e]
theorem s_payw_1 (σ : Nat → Int32) (N : Nat) (p mask : Int32) (few : Bool) : ∀ a, (s_payw σ N p mask few a).1 = -1 ∨ ∃ j, j < a ∧ (s_payw σ N p mask few a).1 = nI j
  | 0 => Or.inl rfl
  | a + 1 => by
    rw [s_payw]
    by_cases h : (s_inAll (nI a) (s_lie σ 0 N) = true ∧ s_sum σ 3 (nI a) N = p ∧ ((s_payw σ N p mask few a).1 < 0 ∨ (if few = true then v_cnt a mask < (s_payw σ N p mask few a).2 else (s_payw σ N p mask few a).2 < v_cnt a mask)))
    · rw [if_pos h]
      exact Or.inr ⟨a, Nat.lt_succ_self _, rfl⟩
    · rw [if_neg h]
      exact (s_payw_1 σ N p mask few a).elim Or.inl (fun ⟨j, hj, e⟩ => Or.inr ⟨j, by omega, e⟩)
set_option maxHeartbeats 1000000 in
set_option maxRecDepth 20000 in
theorem c4_pay (D : zD) (p : Int32) {N : Nat} (hN : D.1 1 4 = nI N) (h10 : N ≤ 10) : z_CI SX zT yX4_pay cX4_pay 7 .int 3 [.ref 0, .int p] D (z_eq (q_ans (o_payw (D.1 1) N p (-1) true)) (q_X D (o_payw (D.1 1) N p (-1) true))) := by
  refine z_startI SX_ok (by decide +kernel) (fun v hv => by simp at hv; rcases hv with rfl | rfl <;> rfl) (Nat.le_of_ble_eq_true rfl) (fun X F hR => ?_)
  show z_J X SX 0 [some (.ref 0), some (.int p), none, none, none, none, none] [] D
  have hP := i_pow h10
  refine z_iload1 F dX4_pay_0 ?_
  refine z_iconst F 0 dX4_pay_1 zv_i_0 ?_
  refine z_sipush F 9999 dX4_pay_2 zv_s_9999 ?_
  refine z_callSI3 F (c4_isWithin _ _ _ _) kX4_51 (by decide) (Nat.le_of_ble_eq_true rfl) rfl dX4_pay_5 ?_
  refine z_ifb_ne F 17 dX4_pay_8 (by decide) (fun h8 => ?_) (fun h8 => ?_)
  · refine z_aload0 F dX4_pay_17 ?_
    refine z_getR F PH_coat fX4_10 dX4_pay_18 ?_
    refine z_iconst F 0 dX4_pay_21 zv_i_0 ?_
    refine z_callVI1 F (c0_in _ z_r1 hN h10 _) kX4_108 (by decide) (ocC z_r1) (Nat.le_of_ble_eq_true rfl) rfl dX4_pay_22 ?_
    refine z_istore2 F dX4_pay_25 rfl ?_
    refine z_iconst F (-1) dX4_pay_26 zv_i_m1 ?_
    refine z_istore3 F dX4_pay_27 rfl ?_
    refine z_iconst F 0 dX4_pay_28 zv_i_0 ?_
    refine z_istore4 F dX4_pay_29 rfl ?_
    refine z_iconst F 0 dX4_pay_31 zv_i_0 ?_
    refine z_istore5 F dX4_pay_32 rfl ?_
    have loop : ∀ (n k : Nat), k + n = 2 ^ N → ∀ (a9 : Option Value), z_J X SX 34 [some (.ref 0), some (.int p), some (.int (s_lie (D.1 1) 0 N)), some (.int (s_payw (D.1 1) N p (-1) true k).1), some (.int (s_payw (D.1 1) N p (-1) true k).2), some (.int (nI k)), a9] [] D := by
      intro n
      induction n with
      | zero =>
        intro k hn a9
        refine z_iload5 F dX4_pay_34 ?_
        refine z_aload0 F dX4_pay_36 ?_
        refine z_getR F PH_coat fX4_10 dX4_pay_37 ?_
        refine z_callVI0 F (c0_sets _ z_r1 hN h10) kX4_173 (by decide) (ocC z_r1) (Nat.le_of_ble_eq_true rfl) rfl dX4_pay_40 ?_
        refine z_ic_ge F 100 dX4_pay_43 (by decide) (fun h43 => ?_) (fun h43 => ?_)
        · rw [show k = 2 ^ N by omega]
          refine z_iload3 F dX4_pay_100 ?_
          refine z_iconst F (-1) dX4_pay_101 zv_i_m1 ?_
          refine z_ic_ne F 113 dX4_pay_102 (by decide) (fun h102 => ?_) (fun h102 => ?_)
          · have hw : ¬ (s_payw (D.1 1) N p (-1) true (2 ^ N)).1 < 0 := fun z => h102 ((i_neg1 (a := 2 ^ N) (by omega) (s_payw_1 (D.1 1) N p (-1) true (2 ^ N))).mp z)
            refine z_iload3 F dX4_pay_113 ?_
            refine hR _ _ _ _ dX4_pay_114 rfl ?_
            simp only [o_payw, h8, hw, Bool.false_eq_true, if_true, if_false, Bool.and_true, Bool.true_and, Bool.and_false, Bool.false_and, Bool.and_self, and_self]; exact ⟨rfl, rfl⟩
          · have hw : (s_payw (D.1 1) N p (-1) true (2 ^ N)).1 < 0 := (i_neg1 (a := 2 ^ N) (by omega) (s_payw_1 (D.1 1) N p (-1) true (2 ^ N))).mpr h102
            refine z_aload0 F dX4_pay_105 ?_
            refine z_iconst F 3 dX4_pay_106 zv_i_3 ?_
            refine z_callVI1 F (c4_finding _ 3 (by decide)) kX4_55 (by decide) ocPH (Nat.le_of_ble_eq_true rfl) rfl dX4_pay_107 ?_
            refine z_goto F 114 dX4_pay_110 (by decide) ?_
            refine hR _ _ _ _ dX4_pay_114 rfl ?_
            simp only [o_payw, h8, hw, Bool.false_eq_true, if_true, if_false, Bool.and_true, Bool.true_and, Bool.and_false, Bool.false_and, Bool.and_self, and_self]; exact ⟨rfl, rfl⟩
        · exact absurd (nI_le (by omega) (by omega)) h43
      | succ n ih =>
        intro k hn a9
        refine z_iload5 F dX4_pay_34 ?_
        refine z_aload0 F dX4_pay_36 ?_
        refine z_getR F PH_coat fX4_10 dX4_pay_37 ?_
        refine z_callVI0 F (c0_sets _ z_r1 hN h10) kX4_173 (by decide) (ocC z_r1) (Nat.le_of_ble_eq_true rfl) rfl dX4_pay_40 ?_
        refine z_ic_ge F 100 dX4_pay_43 (by decide) (fun h43 => ?_) (fun h43 => ?_)
        · exact absurd h43 (nI_ge (by omega) (by omega))
        · refine z_iload5 F dX4_pay_46 ?_
          refine z_iload2 F dX4_pay_48 ?_
          refine z_iconst F (-1) dX4_pay_49 zv_i_m1 ?_
          refine z_ixor F dX4_pay_50 ?_
          refine z_iand F dX4_pay_51 ?_
          refine z_if_ne F 94 dX4_pay_52 (by decide) (fun h52 => ?_) (fun h52 => ?_)
          · refine z_iinc5 F 1 dX4_pay_94 rfl zv_i_1 ?_
            refine z_goto F 34 dX4_pay_97 (by decide) ?_
            have h := ih (k + 1) (by omega)
            rw [show nI (k + 1) = nI k + 1 from nI_succ k, s_payw, if_neg (fun z => h52 (of_decide_eq_true z.1))] at h
            exact h _
          · refine z_aload0 F dX4_pay_55 ?_
            refine z_getR F PH_coat fX4_10 dX4_pay_56 ?_
            refine z_iload5 F dX4_pay_59 ?_
            refine z_callVI1 F (c0_penceOf _ z_r1 hN h10 _) kX4_167 (by decide) (ocC z_r1) (Nat.le_of_ble_eq_true rfl) rfl dX4_pay_61 ?_
            refine z_iload1 F dX4_pay_64 ?_
            refine z_ic_ne F 94 dX4_pay_65 (by decide) (fun h65 => ?_) (fun h65 => ?_)
            · refine z_iinc5 F 1 dX4_pay_94 rfl zv_i_1 ?_
              refine z_goto F 34 dX4_pay_97 (by decide) ?_
              have h := ih (k + 1) (by omega)
              rw [show nI (k + 1) = nI k + 1 from nI_succ k, s_payw, if_neg (fun z => h65 z.2.1)] at h
              exact h _
            · refine z_iload5 F dX4_pay_68 ?_
              refine z_callSI1 F (cj_bits D k (by omega)) kX4_120 (by decide) (Nat.le_of_ble_eq_true rfl) rfl dX4_pay_70 ?_
              rw [← v_cnt_m1 (k := k) (by omega)]
              refine z_istore6 F dX4_pay_73 rfl ?_
              refine z_iload3 F dX4_pay_75 ?_
              refine z_iconst F (-1) dX4_pay_76 zv_i_m1 ?_
              refine z_ic_eq F 87 dX4_pay_77 (by decide) (fun h77 => ?_) (fun h77 => ?_)
              · refine z_iload5 F dX4_pay_87 ?_
                refine z_istore3 F dX4_pay_89 rfl ?_
                refine z_iload6 F dX4_pay_90 ?_
                refine z_istore4 F dX4_pay_92 rfl ?_
                refine z_iinc5 F 1 dX4_pay_94 rfl zv_i_1 ?_
                refine z_goto F 34 dX4_pay_97 (by decide) ?_
                have h := ih (k + 1) (by omega)
                rw [show nI (k + 1) = nI k + 1 from nI_succ k, s_payw, if_pos ⟨decide_eq_true h52, h65, Or.inl ((i_neg1 (a := k) (by omega) (s_payw_1 (D.1 1) N p (-1) true k)).mpr h77)⟩] at h
                exact h _
              · refine z_iload6 F dX4_pay_80 ?_
                refine z_iload4 F dX4_pay_82 ?_
                refine z_ic_ge F 94 dX4_pay_84 (by decide) (fun h84 => ?_) (fun h84 => ?_)
                · refine z_iinc5 F 1 dX4_pay_94 rfl zv_i_1 ?_
                  refine z_goto F 34 dX4_pay_97 (by decide) ?_
                  have h := ih (k + 1) (by omega)
                  rw [show nI (k + 1) = nI k + 1 from nI_succ k, s_payw, if_neg (fun z => z.2.2.elim (fun z => h77 ((i_neg1 (a := k) (by omega) (s_payw_1 (D.1 1) N p (-1) true k)).mp z)) (fun z => by rw [if_pos rfl] at z; exact Int32.not_lt.mpr h84 z))] at h
                  exact h _
                · refine z_iload5 F dX4_pay_87 ?_
                  refine z_istore3 F dX4_pay_89 rfl ?_
                  refine z_iload6 F dX4_pay_90 ?_
                  refine z_istore4 F dX4_pay_92 rfl ?_
                  refine z_iinc5 F 1 dX4_pay_94 rfl zv_i_1 ?_
                  refine z_goto F 34 dX4_pay_97 (by decide) ?_
                  have h := ih (k + 1) (by omega)
                  rw [show nI (k + 1) = nI k + 1 from nI_succ k, s_payw, if_pos ⟨decide_eq_true h52, h65, Or.inr (show (if true = true then v_cnt k (-1) < (s_payw (D.1 1) N p (-1) true k).2 else (s_payw (D.1 1) N p (-1) true k).2 < v_cnt k (-1)) by rw [if_pos rfl]; exact Int32.not_le.mp h84)⟩] at h
                  exact h _
    exact loop (2 ^ N) 0 (by omega) none
  · refine z_aload0 F dX4_pay_11 ?_
    refine z_iconst F 0 dX4_pay_12 zv_i_0 ?_
    refine z_callVI1 F (c4_finding _ 0 (by decide)) kX4_55 (by decide) ocPH (Nat.le_of_ble_eq_true rfl) rfl dX4_pay_13 ?_
    refine hR _ _ _ _ dX4_pay_16 rfl ?_
    simp only [o_payw, h8, Bool.false_eq_true, if_true, if_false, Bool.and_true, Bool.true_and, Bool.and_false, Bool.false_and, Bool.and_self, and_self]; first | exact ⟨rfl, rfl⟩ | exact ⟨by decide, rfl⟩ | exact ⟨by decide, z_sm_r _⟩ | exact ⟨rfl, z_sm_r _⟩
set_option maxHeartbeats 1000000 in
set_option maxRecDepth 20000 in
theorem c4_small (D : zD) (p : Int32) {N : Nat} (hN : D.1 1 4 = nI N) (h10 : N ≤ 10) : z_CI SX zT yX4_small cX4_small 8 .int 3 [.ref 0, .int p] D (z_eq (q_ans (o_payw (D.1 1) N p (s_thin (D.1 1) N) false)) (q_X D (o_payw (D.1 1) N p (s_thin (D.1 1) N) false))) := by
  refine z_startI SX_ok (by decide +kernel) (fun v hv => by simp at hv; rcases hv with rfl | rfl <;> rfl) (Nat.le_of_ble_eq_true rfl) (fun X F hR => ?_)
  show z_J X SX 0 [some (.ref 0), some (.int p), none, none, none, none, none, none] [] D
  have hP := i_pow h10
  refine z_iload1 F dX4_small_0 ?_
  refine z_iconst F 0 dX4_small_1 zv_i_0 ?_
  refine z_sipush F 9999 dX4_small_2 zv_s_9999 ?_
  refine z_callSI3 F (c4_isWithin _ _ _ _) kX4_51 (by decide) (Nat.le_of_ble_eq_true rfl) rfl dX4_small_5 ?_
  refine z_ifb_ne F 17 dX4_small_8 (by decide) (fun h8 => ?_) (fun h8 => ?_)
  · refine z_aload0 F dX4_small_17 ?_
    refine z_getR F PH_coat fX4_10 dX4_small_18 ?_
    refine z_iconst F 0 dX4_small_21 zv_i_0 ?_
    refine z_callVI1 F (c0_in _ z_r1 hN h10 _) kX4_108 (by decide) (ocC z_r1) (Nat.le_of_ble_eq_true rfl) rfl dX4_small_22 ?_
    refine z_istore2 F dX4_small_25 rfl ?_
    refine z_aload0 F dX4_small_26 ?_
    refine z_getR F PH_coat fX4_10 dX4_small_27 ?_
    refine z_callVI0 F (c0_thin D z_r1 hN h10) kX4_176 (by decide) (ocC z_r1) (Nat.le_of_ble_eq_true rfl) rfl dX4_small_30 ?_
    refine z_istore3 F dX4_small_33 rfl ?_
    refine z_iconst F (-1) dX4_small_34 zv_i_m1 ?_
    refine z_istore4 F dX4_small_35 rfl ?_
    refine z_iconst F 0 dX4_small_37 zv_i_0 ?_
    refine z_istore5 F dX4_small_38 rfl ?_
    refine z_iconst F 0 dX4_small_40 zv_i_0 ?_
    refine z_istore6 F dX4_small_41 rfl ?_
    have loop : ∀ (n k : Nat), k + n = 2 ^ N → ∀ (a9 : Option Value), z_J X SX 43 [some (.ref 0), some (.int p), some (.int (s_lie (D.1 1) 0 N)), some (.int (s_thin (D.1 1) N)), some (.int (s_payw (D.1 1) N p (s_thin (D.1 1) N) false k).1), some (.int (s_payw (D.1 1) N p (s_thin (D.1 1) N) false k).2), some (.int (nI k)), a9] [] D := by
      intro n
      induction n with
      | zero =>
        intro k hn a9
        refine z_iload6 F dX4_small_43 ?_
        refine z_aload0 F dX4_small_45 ?_
        refine z_getR F PH_coat fX4_10 dX4_small_46 ?_
        refine z_callVI0 F (c0_sets _ z_r1 hN h10) kX4_173 (by decide) (ocC z_r1) (Nat.le_of_ble_eq_true rfl) rfl dX4_small_49 ?_
        refine z_ic_ge F 113 dX4_small_52 (by decide) (fun h52 => ?_) (fun h52 => ?_)
        · rw [show k = 2 ^ N by omega]
          refine z_iload4 F dX4_small_113 ?_
          refine z_iconst F (-1) dX4_small_115 zv_i_m1 ?_
          refine z_ic_ne F 127 dX4_small_116 (by decide) (fun h116 => ?_) (fun h116 => ?_)
          · have hw : ¬ (s_payw (D.1 1) N p (s_thin (D.1 1) N) false (2 ^ N)).1 < 0 := fun z => h116 ((i_neg1 (a := 2 ^ N) (by omega) (s_payw_1 (D.1 1) N p (s_thin (D.1 1) N) false (2 ^ N))).mp z)
            refine z_iload4 F dX4_small_127 ?_
            refine hR _ _ _ _ dX4_small_129 rfl ?_
            simp only [o_payw, h8, hw, Bool.false_eq_true, if_true, if_false, Bool.and_true, Bool.true_and, Bool.and_false, Bool.false_and, Bool.and_self, and_self]; exact ⟨rfl, rfl⟩
          · have hw : (s_payw (D.1 1) N p (s_thin (D.1 1) N) false (2 ^ N)).1 < 0 := (i_neg1 (a := 2 ^ N) (by omega) (s_payw_1 (D.1 1) N p (s_thin (D.1 1) N) false (2 ^ N))).mpr h116
            refine z_aload0 F dX4_small_119 ?_
            refine z_iconst F 3 dX4_small_120 zv_i_3 ?_
            refine z_callVI1 F (c4_finding _ 3 (by decide)) kX4_55 (by decide) ocPH (Nat.le_of_ble_eq_true rfl) rfl dX4_small_121 ?_
            refine z_goto F 129 dX4_small_124 (by decide) ?_
            refine hR _ _ _ _ dX4_small_129 rfl ?_
            simp only [o_payw, h8, hw, Bool.false_eq_true, if_true, if_false, Bool.and_true, Bool.true_and, Bool.and_false, Bool.false_and, Bool.and_self, and_self]; exact ⟨rfl, rfl⟩
        · exact absurd (nI_le (by omega) (by omega)) h52
      | succ n ih =>
        intro k hn a9
        refine z_iload6 F dX4_small_43 ?_
        refine z_aload0 F dX4_small_45 ?_
        refine z_getR F PH_coat fX4_10 dX4_small_46 ?_
        refine z_callVI0 F (c0_sets _ z_r1 hN h10) kX4_173 (by decide) (ocC z_r1) (Nat.le_of_ble_eq_true rfl) rfl dX4_small_49 ?_
        refine z_ic_ge F 113 dX4_small_52 (by decide) (fun h52 => ?_) (fun h52 => ?_)
        · exact absurd h52 (nI_ge (by omega) (by omega))
        · refine z_iload6 F dX4_small_55 ?_
          refine z_iload2 F dX4_small_57 ?_
          refine z_iconst F (-1) dX4_small_58 zv_i_m1 ?_
          refine z_ixor F dX4_small_59 ?_
          refine z_iand F dX4_small_60 ?_
          refine z_if_ne F 107 dX4_small_61 (by decide) (fun h61 => ?_) (fun h61 => ?_)
          · refine z_iinc6 F 1 dX4_small_107 rfl zv_i_1 ?_
            refine z_goto F 43 dX4_small_110 (by decide) ?_
            have h := ih (k + 1) (by omega)
            rw [show nI (k + 1) = nI k + 1 from nI_succ k, s_payw, if_neg (fun z => h61 (of_decide_eq_true z.1))] at h
            exact h _
          · refine z_aload0 F dX4_small_64 ?_
            refine z_getR F PH_coat fX4_10 dX4_small_65 ?_
            refine z_iload6 F dX4_small_68 ?_
            refine z_callVI1 F (c0_penceOf _ z_r1 hN h10 _) kX4_167 (by decide) (ocC z_r1) (Nat.le_of_ble_eq_true rfl) rfl dX4_small_70 ?_
            refine z_iload1 F dX4_small_73 ?_
            refine z_ic_ne F 107 dX4_small_74 (by decide) (fun h74 => ?_) (fun h74 => ?_)
            · refine z_iinc6 F 1 dX4_small_107 rfl zv_i_1 ?_
              refine z_goto F 43 dX4_small_110 (by decide) ?_
              have h := ih (k + 1) (by omega)
              rw [show nI (k + 1) = nI k + 1 from nI_succ k, s_payw, if_neg (fun z => h74 z.2.1)] at h
              exact h _
            · refine z_iload6 F dX4_small_77 ?_
              refine z_iload3 F dX4_small_79 ?_
              refine z_iand F dX4_small_80 ?_
              rw [i_and_u]
              refine z_callSI1 F (cj_bits D (k &&& i_u (s_thin (D.1 1) N)) (by have := Nat.and_le_left (n := k) (m := i_u (s_thin (D.1 1) N)); omega)) kX4_120 (by decide) (Nat.le_of_ble_eq_true rfl) rfl dX4_small_81 ?_
              rw [show nI (p_pop (k &&& i_u (s_thin (D.1 1) N))) = v_cnt k (s_thin (D.1 1) N) from rfl]
              refine z_istore7 F dX4_small_84 rfl ?_
              refine z_iload4 F dX4_small_86 ?_
              refine z_iconst F (-1) dX4_small_88 zv_i_m1 ?_
              refine z_ic_eq F 99 dX4_small_89 (by decide) (fun h89 => ?_) (fun h89 => ?_)
              · refine z_iload6 F dX4_small_99 ?_
                refine z_istore4 F dX4_small_101 rfl ?_
                refine z_iload7 F dX4_small_103 ?_
                refine z_istore5 F dX4_small_105 rfl ?_
                refine z_iinc6 F 1 dX4_small_107 rfl zv_i_1 ?_
                refine z_goto F 43 dX4_small_110 (by decide) ?_
                have h := ih (k + 1) (by omega)
                rw [show nI (k + 1) = nI k + 1 from nI_succ k, s_payw, if_pos ⟨decide_eq_true h61, h74, Or.inl ((i_neg1 (a := k) (by omega) (s_payw_1 (D.1 1) N p (s_thin (D.1 1) N) false k)).mpr h89)⟩] at h
                exact h _
              · refine z_iload7 F dX4_small_92 ?_
                refine z_iload5 F dX4_small_94 ?_
                refine z_ic_le F 107 dX4_small_96 (by decide) (fun h96 => ?_) (fun h96 => ?_)
                · refine z_iinc6 F 1 dX4_small_107 rfl zv_i_1 ?_
                  refine z_goto F 43 dX4_small_110 (by decide) ?_
                  have h := ih (k + 1) (by omega)
                  rw [show nI (k + 1) = nI k + 1 from nI_succ k, s_payw, if_neg (fun z => z.2.2.elim (fun z => h89 ((i_neg1 (a := k) (by omega) (s_payw_1 (D.1 1) N p (s_thin (D.1 1) N) false k)).mp z)) (fun z => by rw [if_neg (by decide)] at z; exact Int32.not_lt.mpr h96 z))] at h
                  exact h _
                · refine z_iload6 F dX4_small_99 ?_
                  refine z_istore4 F dX4_small_101 rfl ?_
                  refine z_iload7 F dX4_small_103 ?_
                  refine z_istore5 F dX4_small_105 rfl ?_
                  refine z_iinc6 F 1 dX4_small_107 rfl zv_i_1 ?_
                  refine z_goto F 43 dX4_small_110 (by decide) ?_
                  have h := ih (k + 1) (by omega)
                  rw [show nI (k + 1) = nI k + 1 from nI_succ k, s_payw, if_pos ⟨decide_eq_true h61, h74, Or.inr (show (if false = true then v_cnt k (s_thin (D.1 1) N) < (s_payw (D.1 1) N p (s_thin (D.1 1) N) false k).2 else (s_payw (D.1 1) N p (s_thin (D.1 1) N) false k).2 < v_cnt k (s_thin (D.1 1) N)) by rw [if_neg (by decide)]; exact Int32.not_le.mp h96)⟩] at h
                  exact h _
    exact loop (2 ^ N) 0 (by omega) none
  · refine z_aload0 F dX4_small_11 ?_
    refine z_iconst F 0 dX4_small_12 zv_i_0 ?_
    refine z_callVI1 F (c4_finding _ 0 (by decide)) kX4_55 (by decide) ocPH (Nat.le_of_ble_eq_true rfl) rfl dX4_small_13 ?_
    refine hR _ _ _ _ dX4_small_16 rfl ?_
    simp only [o_payw, h8, Bool.false_eq_true, if_true, if_false, Bool.and_true, Bool.true_and, Bool.and_false, Bool.false_and, Bool.and_self, and_self]; first | exact ⟨rfl, rfl⟩ | exact ⟨by decide, rfl⟩ | exact ⟨by decide, z_sm_r _⟩ | exact ⟨rfl, z_sm_r _⟩
