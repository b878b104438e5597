theorem s_copied_succ (ν : Nat → Int32) (x y n : Nat) : upd (s_copied ν x y n) (y + n) (ν (x + n)) = s_copied ν x y (n + 1) := by
  funext k
  unfold s_copied
  by_cases h : k = y + n
  · subst h; rw [u_eq, if_pos (by omega), show y + n - y = n by omega]
  · rw [u_ne _ _ h]
    by_cases g : y ≤ k ∧ k < y + n
    · rw [if_pos g, if_pos (by omega)]
    · rw [if_neg g, if_neg (by omega)]
theorem z_row_id (D : zD) {r : Nat} {σ : Nat → Int32} (h : D.1 r = σ) : z_row D r σ = D := by rw [← h, z_row_eq]
theorem s_copied_0 (ν : Nat → Int32) (x y : Nat) : s_copied ν x y 0 = ν := by
  funext k
  unfold s_copied
  rw [if_neg (by omega)]
theorem i_coin {c N : Nat} (h10 : N ≤ 10) (h : c < 2 ^ 31) : b_coin (nI c) N = decide (c < N) := by
  by_cases g : c < N
  · rw [b_coin_n h10 g, decide_eq_true g]
  · rw [decide_eq_false g]
    unfold b_coin
    rw [decide_eq_false (nI_nlt (a := c) (b := N) (by omega) (by omega)), Bool.and_false]
theorem z_aso (D : zD) {k : Nat} (h : k ≠ 2) : (z_as D).1 k = D.1 k := z_rowo D _ h
theorem z_up_up (D : zD) (r x : Nat) (v u : Int32) : z_up (z_up D r x v) r x u = z_up D r x u := by rw [z_up_row, z_up_row, z_rowr, z_row_row, u_u, z_up_row]
theorem z_fd1 (D : zD) (A : Nat → Int32) (x u : Int32) (j : Nat) : z_up (z_up (z_row D 8 A) 0 12 x) 8 j u = z_up (z_row D 8 (upd A j u)) 0 12 x := by
  rw [z_up_row _ 0, z_up_row _ 8, z_up_row _ 0, z_rowo _ _ (show 8 ≠ 0 by decide), z_rowr, z_rowo _ _ (show 0 ≠ 8 by decide), z_rowo _ _ (show 0 ≠ 8 by decide), z_row_cm _ _ _ (show 0 ≠ 8 by decide), z_row_row]
theorem i_m16 {x : Int32} (h : b_in x (-1) 6 = true) : ∃ j, j ≤ 7 ∧ x + 1 = nI j := by
  simp only [b_in, Bool.and_eq_true, decide_eq_true_eq] at h
  have h1 := h.1
  have h2 := h.2
  rw [Int32.le_iff_toInt_le] at h1 h2
  have e1 : (-1 : Int32).toInt = -1 := by decide
  have e6 : (6 : Int32).toInt = 6 := by decide
  have e : (x + 1).toInt = x.toInt + 1 := by
    rw [Int32.toInt_add, show (1 : Int32).toInt = 1 by decide]
    refine Int.bmod_eq_of_le ?_ ?_ <;> omega
  obtain ⟨j, hj, ej⟩ := nI_of (x := x + 1) (fun q => by rw [Int32.lt_iff_toInt_lt, e, show (0 : Int32).toInt = 0 by decide] at q; omega)
  refine ⟨j, ?_, ej⟩
  have := nI_toInt hj
  rw [← ej, e] at this
  omega
theorem i_ix3 (j a c : Nat) : (40 : Int32) * nI j + nI a + nI c = nI (40 * j + a + c) := by rw [show (40 : Int32) = nI 40 from rfl, pk_mul, nI_add, nI_add]
set_option maxHeartbeats 1000000 in
set_option maxRecDepth 20000 in
theorem c5_copy (D : zD) (x1 x2 x3 x4 x5 : Int32) (hsz : ∀ s, s < 4 → ∃ k, k ≤ 40 ∧ D.1 13 s = nI k) : z_CI SM zT yX5_copy cX5_copy 7 .int 2 [.ref 0, .int x1, .int x2, .int x3, .int x4, .int x5] D (z_aM D (o_copy D x1 x2 x3 x4 x5)) := by
  refine z_startI SM_ok (by decide +kernel) (fun v hv => by simp at hv; rcases hv with rfl | rfl | rfl | rfl | rfl | rfl <;> rfl) (Nat.le_of_ble_eq_true rfl) (fun X F hR => ?_)
  show z_J X SM 0 [some (.ref 0), some (.int x1), some (.int x2), some (.int x3), some (.int x4), some (.int x5), none] [] D
  refine z_iload1 F dX5_copy_0 ?_
  refine z_callSI1 F (c5_isSheet _ _) kX5_318 (by decide) (Nat.le_of_ble_eq_true rfl) rfl dX5_copy_1 ?_
  refine z_ifb_eq F 14 dX5_copy_4 (by decide) (fun h4 => ?_) (fun h4 => ?_)
  · refine z_aload0 F dX5_copy_14 ?_
    refine z_ldc F (-1000001) dX5_copy_15 zw_721 ?_
    refine z_callVI1 F (c5_finding _ _ 0 (by decide) (by decide)) kX5_93 (by decide) ocM (Nat.le_of_ble_eq_true rfl) rfl dX5_copy_17 ?_
    refine hR _ _ _ _ dX5_copy_20 rfl ?_
    simp only [o_copy, h4, Bool.false_eq_true, if_true, if_false, Bool.and_true, Bool.true_and, Bool.and_false, Bool.false_and, Bool.and_self, and_self]; first | exact ⟨rfl, rfl⟩ | exact ⟨by decide, rfl⟩ | exact ⟨by decide, z_sm_r _⟩ | exact ⟨rfl, z_sm_r _⟩ | exact ⟨rfl, z_sm_as _⟩ | exact ⟨by decide, z_sm_fM _ (z_sm_as _)⟩
  · refine z_iload3 F dX5_copy_7 ?_
    refine z_callSI1 F (c5_isSheet _ _) kX5_318 (by decide) (Nat.le_of_ble_eq_true rfl) rfl dX5_copy_8 ?_
    refine z_ifb_ne F 21 dX5_copy_11 (by decide) (fun h11 => ?_) (fun h11 => ?_)
    · obtain ⟨j, hj, rfl⟩ := b_in0 3 (by decide) h4
      obtain ⟨t, ht, rfl⟩ := b_in0 3 (by decide) h11
      have hjn := i_n_n (j := j) (by omega)
      have htn := i_n_n (j := t) (by omega)
      refine z_aload0 F dX5_copy_21 ?_
      refine z_getR F M_widths fX5_61 dX5_copy_22 ?_
      refine z_iload1 F dX5_copy_25 ?_
      refine z_iald F aM_widths (j) rfl (by omega) dX5_copy_26 ?_
      refine z_if_eq F 39 dX5_copy_27 (by decide) (fun h27 => ?_) (fun h27 => ?_)
      · refine z_aload0 F dX5_copy_39 ?_
        refine z_ldcw F (-1000006) dX5_copy_40 zw_1039 ?_
        refine z_callVI1 F (c5_finding _ _ 5 (by decide) (by decide)) kX5_93 (by decide) ocM (Nat.le_of_ble_eq_true rfl) rfl dX5_copy_43 ?_
        refine hR _ _ _ _ dX5_copy_46 rfl ?_
        simp only [o_copy, h4, h11, hjn, htn, if_pos (show D.1 12 j = 0 ∨ D.1 12 t = 0 from Or.inl h27), Bool.false_eq_true, if_true, if_false, Bool.and_true, Bool.true_and, Bool.and_false, Bool.false_and, Bool.and_self, and_self]; exact ⟨by decide, z_sm_r _⟩
      · refine z_aload0 F dX5_copy_30 ?_
        refine z_getR F M_widths fX5_61 dX5_copy_31 ?_
        refine z_iload3 F dX5_copy_34 ?_
        refine z_iald F aM_widths (t) rfl (by omega) dX5_copy_35 ?_
        refine z_if_ne F 47 dX5_copy_36 (by decide) (fun h36 => ?_) (fun h36 => ?_)
        · have h27n := h27
          have h36n := h36
          refine z_aload0 F dX5_copy_47 ?_
          refine z_getR F M_widths fX5_61 dX5_copy_48 ?_
          refine z_iload1 F dX5_copy_51 ?_
          refine z_iald F aM_widths (j) rfl (by omega) dX5_copy_52 ?_
          refine z_aload0 F dX5_copy_53 ?_
          refine z_getR F M_widths fX5_61 dX5_copy_54 ?_
          refine z_iload3 F dX5_copy_57 ?_
          refine z_iald F aM_widths (t) rfl (by omega) dX5_copy_58 ?_
          refine z_ic_eq F 70 dX5_copy_59 (by decide) (fun h59 => ?_) (fun h59 => ?_)
          · refine z_iload2 F dX5_copy_70 ?_
            refine z_if_lt F 119 dX5_copy_71 (by decide) (fun h71 => ?_) (fun h71 => ?_)
            · have hc : b_cpy x2 x4 x5 (D.1 13 j) (D.1 13 t) = false := by
                simp [b_cpy, Int32.not_le.mpr h71]
              refine z_aload0 F dX5_copy_119 ?_
              refine z_ldc F (-1000001) dX5_copy_120 zw_721 ?_
              refine z_callVI1 F (c5_finding _ _ 0 (by decide) (by decide)) kX5_93 (by decide) ocM (Nat.le_of_ble_eq_true rfl) rfl dX5_copy_122 ?_
              refine hR _ _ _ _ dX5_copy_125 rfl ?_
              simp only [o_copy, h4, h11, hjn, htn, h27n, h36n, h59, hc, not_true, or_self, Bool.false_eq_true, if_true, if_false, Bool.and_true, Bool.true_and, Bool.and_false, Bool.false_and, Bool.and_self, and_self]; first | exact ⟨rfl, rfl⟩ | exact ⟨by decide, rfl⟩ | exact ⟨by decide, z_sm_r _⟩ | exact ⟨rfl, z_sm_r _⟩ | exact ⟨rfl, z_sm_as _⟩ | exact ⟨by decide, z_sm_fM _ (z_sm_as _)⟩
            · refine z_iload4 F dX5_copy_74 ?_
              refine z_if_lt F 119 dX5_copy_76 (by decide) (fun h76 => ?_) (fun h76 => ?_)
              · have hc : b_cpy x2 x4 x5 (D.1 13 j) (D.1 13 t) = false := by
                  simp [b_cpy, Int32.not_le.mpr h76]
                refine z_aload0 F dX5_copy_119 ?_
                refine z_ldc F (-1000001) dX5_copy_120 zw_721 ?_
                refine z_callVI1 F (c5_finding _ _ 0 (by decide) (by decide)) kX5_93 (by decide) ocM (Nat.le_of_ble_eq_true rfl) rfl dX5_copy_122 ?_
                refine hR _ _ _ _ dX5_copy_125 rfl ?_
                simp only [o_copy, h4, h11, hjn, htn, h27n, h36n, h59, hc, not_true, or_self, Bool.false_eq_true, if_true, if_false, Bool.and_true, Bool.true_and, Bool.and_false, Bool.false_and, Bool.and_self, and_self]; first | exact ⟨rfl, rfl⟩ | exact ⟨by decide, rfl⟩ | exact ⟨by decide, z_sm_r _⟩ | exact ⟨rfl, z_sm_r _⟩ | exact ⟨rfl, z_sm_as _⟩ | exact ⟨by decide, z_sm_fM _ (z_sm_as _)⟩
              · refine z_iload5 F dX5_copy_79 ?_
                refine z_if_lt F 119 dX5_copy_81 (by decide) (fun h81 => ?_) (fun h81 => ?_)
                · have hc : b_cpy x2 x4 x5 (D.1 13 j) (D.1 13 t) = false := by
                    simp [b_cpy, Int32.not_le.mpr h81]
                  refine z_aload0 F dX5_copy_119 ?_
                  refine z_ldc F (-1000001) dX5_copy_120 zw_721 ?_
                  refine z_callVI1 F (c5_finding _ _ 0 (by decide) (by decide)) kX5_93 (by decide) ocM (Nat.le_of_ble_eq_true rfl) rfl dX5_copy_122 ?_
                  refine hR _ _ _ _ dX5_copy_125 rfl ?_
                  simp only [o_copy, h4, h11, hjn, htn, h27n, h36n, h59, hc, not_true, or_self, Bool.false_eq_true, if_true, if_false, Bool.and_true, Bool.true_and, Bool.and_false, Bool.false_and, Bool.and_self, and_self]; first | exact ⟨rfl, rfl⟩ | exact ⟨by decide, rfl⟩ | exact ⟨by decide, z_sm_r _⟩ | exact ⟨rfl, z_sm_r _⟩ | exact ⟨rfl, z_sm_as _⟩ | exact ⟨by decide, z_sm_fM _ (z_sm_as _)⟩
                · refine z_iload2 F dX5_copy_84 ?_
                  refine z_i2l F dX5_copy_85 ?_
                  refine z_iload5 F dX5_copy_86 ?_
                  refine z_i2l F dX5_copy_88 ?_
                  refine z_ladd F dX5_copy_89 ?_
                  refine z_aload0 F dX5_copy_90 ?_
                  refine z_getR F M_sizes fX5_64 dX5_copy_91 ?_
                  refine z_iload1 F dX5_copy_94 ?_
                  refine z_iald F aM_sizes (j) rfl (by omega) dX5_copy_95 ?_
                  refine z_i2l F dX5_copy_96 ?_
                  refine z_lcmp F dX5_copy_97 ?_
                  refine z_if_gt F 119 dX5_copy_98 (by decide) (fun h98 => ?_) (fun h98 => ?_)
                  · have hc : b_cpy x2 x4 x5 (D.1 13 j) (D.1 13 t) = false := by
                      simp [b_cpy, Int.not_le.mpr ((i_lsum _ _ _).mp h98)]
                    refine z_aload0 F dX5_copy_119 ?_
                    refine z_ldc F (-1000001) dX5_copy_120 zw_721 ?_
                    refine z_callVI1 F (c5_finding _ _ 0 (by decide) (by decide)) kX5_93 (by decide) ocM (Nat.le_of_ble_eq_true rfl) rfl dX5_copy_122 ?_
                    refine hR _ _ _ _ dX5_copy_125 rfl ?_
                    simp only [o_copy, h4, h11, hjn, htn, h27n, h36n, h59, hc, not_true, or_self, Bool.false_eq_true, if_true, if_false, Bool.and_true, Bool.true_and, Bool.and_false, Bool.false_and, Bool.and_self, and_self]; first | exact ⟨rfl, rfl⟩ | exact ⟨by decide, rfl⟩ | exact ⟨by decide, z_sm_r _⟩ | exact ⟨rfl, z_sm_r _⟩ | exact ⟨rfl, z_sm_as _⟩ | exact ⟨by decide, z_sm_fM _ (z_sm_as _)⟩
                  · refine z_iload4 F dX5_copy_101 ?_
                    refine z_i2l F dX5_copy_103 ?_
                    refine z_iload5 F dX5_copy_104 ?_
                    refine z_i2l F dX5_copy_106 ?_
                    refine z_ladd F dX5_copy_107 ?_
                    refine z_aload0 F dX5_copy_108 ?_
                    refine z_getR F M_sizes fX5_64 dX5_copy_109 ?_
                    refine z_iload3 F dX5_copy_112 ?_
                    refine z_iald F aM_sizes (t) rfl (by omega) dX5_copy_113 ?_
                    refine z_i2l F dX5_copy_114 ?_
                    refine z_lcmp F dX5_copy_115 ?_
                    refine z_if_le F 126 dX5_copy_116 (by decide) (fun h116 => ?_) (fun h116 => ?_)
                    · have h71n := Int32.not_lt.mp h71
                      have h76n := Int32.not_lt.mp h76
                      have h81n := Int32.not_lt.mp h81
                      have i1 : x2.toInt + x5.toInt ≤ (D.1 13 j).toInt := Int.not_lt.mp (fun e => h98 ((i_lsum _ _ _).mpr e))
                      have i2 : x4.toInt + x5.toInt ≤ (D.1 13 t).toInt := (i_lsum' _ _ _).mp h116
                      have hc : b_cpy x2 x4 x5 (D.1 13 j) (D.1 13 t) = true := by
                        simp only [b_cpy, decide_eq_true h71n, decide_eq_true h76n, decide_eq_true h81n, decide_eq_true i1, decide_eq_true i2]
                        rfl
                      obtain ⟨a, ha31, rfl⟩ := nI_nonneg h71n
                      obtain ⟨b, hb31, rfl⟩ := nI_nonneg h76n
                      obtain ⟨n, hn31, rfl⟩ := nI_nonneg h81n
                      have han := i_n_n ha31
                      have hbn := i_n_n hb31
                      have hnn := i_n_n hn31
                      obtain ⟨ka, hka, eka⟩ := hsz j (by omega)
                      obtain ⟨kb, hkb, ekb⟩ := hsz t (by omega)
                      rw [eka, nI_toInt ha31, nI_toInt hn31, nI_toInt (by omega)] at i1
                      rw [ekb, nI_toInt hb31, nI_toInt hn31, nI_toInt (by omega)] at i2
                      have l2 : ∀ (m c : Nat), c + m = n → z_J X SM 166 [some (.ref 0), some (.int (nI j)), some (.int (nI a)), some (.int (nI t)), some (.int (nI b)), some (.int (nI n)), some (.int (nI c))] [] (z_row (z_row D 15 (fun k => if k < n then (fun k => D.1 14 (40 * j + a + k)) k else D.1 15 k)) 14 (s_copied (D.1 14) (40 * j + a) (40 * t + b) c)) := by
                        intro m
                        induction m with
                        | zero =>
                          intro c hn 
                          refine z_iload6 F dX5_copy_166 ?_
                          refine z_iload5 F dX5_copy_168 ?_
                          refine z_ic_ge F 201 dX5_copy_170 (by decide) (fun h170 => ?_) (fun h170 => ?_)
                          · refine z_iload5 F dX5_copy_201 ?_
                            refine hR _ _ _ _ dX5_copy_203 rfl ?_
                            simp only [o_copy, h4, h11, hjn, htn, h27n, h36n, h59, hc, not_true, or_self, han, hbn, hnn, Bool.false_eq_true, if_true, if_false, Bool.and_true, Bool.true_and, Bool.and_false, Bool.false_and, Bool.and_self, and_self]; rw [show c = n by omega]; exact ⟨rfl, by rw [z_row_cm _ _ _ (by decide)]; exact z_sm_row _ _ (by decide)⟩
                          · exact absurd (nI_le (by omega) (by omega)) h170
                        | succ m ih =>
                          intro c hn 
                          refine z_iload6 F dX5_copy_166 ?_
                          refine z_iload5 F dX5_copy_168 ?_
                          refine z_ic_ge F 201 dX5_copy_170 (by decide) (fun h170 => ?_) (fun h170 => ?_)
                          · exact absurd h170 (nI_ge (by omega) (by omega))
                          · refine z_aload0 F dX5_copy_173 ?_
                            refine z_getR F M_numbers fX5_67 dX5_copy_174 ?_
                            refine z_bipush F 40 dX5_copy_177 zv_b_40 ?_
                            refine z_iload3 F dX5_copy_179 ?_
                            refine z_imul F dX5_copy_180 ?_
                            refine z_iload4 F dX5_copy_181 ?_
                            refine z_iadd F dX5_copy_183 ?_
                            refine z_iload6 F dX5_copy_184 ?_
                            refine z_iadd F dX5_copy_186 ?_
                            refine z_aload0 F dX5_copy_187 ?_
                            refine z_getR F M_moved fX5_70 dX5_copy_188 ?_
                            refine z_iload6 F dX5_copy_191 ?_
                            refine z_iald F aM_moved (c) rfl (by omega) dX5_copy_193 ?_
                            rw [z_rowo _ _ (by decide), z_rowr, if_pos (show c < n by omega)]
                            refine z_iast F aM_numbers (40 * t + b + c) (i_ix3 t b c) (by omega) dX5_copy_194 ?_
                            refine z_iinc6 F 1 dX5_copy_195 rfl zv_i_1 ?_
                            refine z_goto F 166 dX5_copy_198 (by decide) ?_
                            have h := ih (c + 1) (by omega)
                            rw [← s_copied_succ, show nI (c + 1) = nI c + 1 from nI_succ c] at h
                            rw [z_row_up]
                            exact h
                      have l1 : ∀ (m c : Nat), c + m = n → z_J X SM 129 [some (.ref 0), some (.int (nI j)), some (.int (nI a)), some (.int (nI t)), some (.int (nI b)), some (.int (nI n)), some (.int (nI c))] [] (z_row D 15 (fun k => if k < c then (fun k => D.1 14 (40 * j + a + k)) k else D.1 15 k)) := by
                        intro m
                        induction m with
                        | zero =>
                          intro c hn
                          have ec : c = n := by omega
                          subst ec
                          refine z_iload6 F dX5_copy_129 ?_
                          refine z_iload5 F dX5_copy_131 ?_
                          refine z_ic_ge F 163 dX5_copy_133 (by decide) (fun h133 => ?_) (fun h133 => ?_)
                          · refine z_iconst F 0 dX5_copy_163 zv_i_0 ?_
                            refine z_istore6 F dX5_copy_164 rfl ?_
                            have h := l2 c 0 (by omega)
                            rw [s_copied_0, z_row_id (z_row D 15 (fun k => if k < c then (fun k => D.1 14 (40 * j + a + k)) k else D.1 15 k)) (z_rowo _ _ (by decide))] at h
                            exact h
                          · exact absurd (nI_le (by omega) (by omega)) h133
                        | succ m ih =>
                          intro c hn 
                          refine z_iload6 F dX5_copy_129 ?_
                          refine z_iload5 F dX5_copy_131 ?_
                          refine z_ic_ge F 163 dX5_copy_133 (by decide) (fun h133 => ?_) (fun h133 => ?_)
                          · exact absurd h133 (nI_ge (by omega) (by omega))
                          · refine z_aload0 F dX5_copy_136 ?_
                            refine z_getR F M_moved fX5_70 dX5_copy_137 ?_
                            refine z_iload6 F dX5_copy_140 ?_
                            refine z_aload0 F dX5_copy_142 ?_
                            refine z_getR F M_numbers fX5_67 dX5_copy_143 ?_
                            refine z_bipush F 40 dX5_copy_146 zv_b_40 ?_
                            refine z_iload1 F dX5_copy_148 ?_
                            refine z_imul F dX5_copy_149 ?_
                            refine z_iload2 F dX5_copy_150 ?_
                            refine z_iadd F dX5_copy_151 ?_
                            refine z_iload6 F dX5_copy_152 ?_
                            refine z_iadd F dX5_copy_154 ?_
                            refine z_iald F aM_numbers (40 * j + a + c) (i_ix3 j a c) (by omega) dX5_copy_155 ?_
                            rw [z_rowo _ _ (by decide)]
                            refine z_iast F aM_moved (c) rfl (by omega) dX5_copy_156 ?_
                            refine z_iinc6 F 1 dX5_copy_157 rfl zv_i_1 ?_
                            refine z_goto F 129 dX5_copy_160 (by decide) ?_
                            have h := ih (c + 1) (by omega)
                            rw [← z_rowfill D 15 (fun k => D.1 14 (40 * j + a + k)) c, show nI (c + 1) = nI c + 1 from nI_succ c] at h
                            exact h
                      refine z_iconst F 0 dX5_copy_126 zv_i_0 ?_
                      refine z_istore6 F dX5_copy_127 rfl ?_
                      have h := l1 n 0 (by omega)
                      simp only [Nat.not_lt_zero, if_false] at h
                      rw [z_row_eq] at h
                      exact h
                    · have hc : b_cpy x2 x4 x5 (D.1 13 j) (D.1 13 t) = false := by
                        simp only [b_cpy, decide_eq_false (fun e => h116 ((i_lsum' x4 x5 (D.1 13 t)).mpr e)), Bool.and_false]
                      refine z_aload0 F dX5_copy_119 ?_
                      refine z_ldc F (-1000001) dX5_copy_120 zw_721 ?_
                      refine z_callVI1 F (c5_finding _ _ 0 (by decide) (by decide)) kX5_93 (by decide) ocM (Nat.le_of_ble_eq_true rfl) rfl dX5_copy_122 ?_
                      refine hR _ _ _ _ dX5_copy_125 rfl ?_
                      simp only [o_copy, h4, h11, hjn, htn, h27n, h36n, h59, hc, not_true, or_self, Bool.false_eq_true, if_true, if_false, Bool.and_true, Bool.true_and, Bool.and_false, Bool.false_and, Bool.and_self, and_self]; first | exact ⟨rfl, rfl⟩ | exact ⟨by decide, rfl⟩ | exact ⟨by decide, z_sm_r _⟩ | exact ⟨rfl, z_sm_r _⟩ | exact ⟨rfl, z_sm_as _⟩ | exact ⟨by decide, z_sm_fM _ (z_sm_as _)⟩
          · refine z_aload0 F dX5_copy_62 ?_
            refine z_ldcw F (-1000003) dX5_copy_63 zw_1040 ?_
            refine z_callVI1 F (c5_finding _ _ 2 (by decide) (by decide)) kX5_93 (by decide) ocM (Nat.le_of_ble_eq_true rfl) rfl dX5_copy_66 ?_
            refine hR _ _ _ _ dX5_copy_69 rfl ?_
            simp only [o_copy, h4, h11, hjn, htn, h27n, h36n, h59, not_true, or_self, Bool.false_eq_true, if_true, if_false, Bool.and_true, Bool.true_and, Bool.and_false, Bool.false_and, Bool.and_self, and_self]; first | exact ⟨rfl, rfl⟩ | exact ⟨by decide, rfl⟩ | exact ⟨by decide, z_sm_r _⟩ | exact ⟨rfl, z_sm_r _⟩ | exact ⟨rfl, z_sm_as _⟩ | exact ⟨by decide, z_sm_fM _ (z_sm_as _)⟩
        · refine z_aload0 F dX5_copy_39 ?_
          refine z_ldcw F (-1000006) dX5_copy_40 zw_1039 ?_
          refine z_callVI1 F (c5_finding _ _ 5 (by decide) (by decide)) kX5_93 (by decide) ocM (Nat.le_of_ble_eq_true rfl) rfl dX5_copy_43 ?_
          refine hR _ _ _ _ dX5_copy_46 rfl ?_
          simp only [o_copy, h4, h11, hjn, htn, if_pos (show D.1 12 j = 0 ∨ D.1 12 t = 0 from Or.inr h36), Bool.false_eq_true, if_true, if_false, Bool.and_true, Bool.true_and, Bool.and_false, Bool.false_and, Bool.and_self, and_self]; exact ⟨by decide, z_sm_r _⟩
    · refine z_aload0 F dX5_copy_14 ?_
      refine z_ldc F (-1000001) dX5_copy_15 zw_721 ?_
      refine z_callVI1 F (c5_finding _ _ 0 (by decide) (by decide)) kX5_93 (by decide) ocM (Nat.le_of_ble_eq_true rfl) rfl dX5_copy_17 ?_
      refine hR _ _ _ _ dX5_copy_20 rfl ?_
      simp only [o_copy, h4, h11, Bool.false_eq_true, if_true, if_false, Bool.and_true, Bool.true_and, Bool.and_false, Bool.false_and, Bool.and_self, and_self]; first | exact ⟨rfl, rfl⟩ | exact ⟨by decide, rfl⟩ | exact ⟨by decide, z_sm_r _⟩ | exact ⟨rfl, z_sm_r _⟩ | exact ⟨rfl, z_sm_as _⟩ | exact ⟨by decide, z_sm_fM _ (z_sm_as _)⟩
set_option maxHeartbeats 1000000 in
set_option maxRecDepth 20000 in
theorem c5_load (D : zD) (x : Int32) {N : Nat} (hN : D.1 1 4 = nI N) (h10 : N ≤ 10) (hsz : ∀ s, s < 4 → ∃ k, k ≤ 40 ∧ D.1 13 s = nI k) : z_CI SM zT yX5_load cX5_load 3 .int 4 [.ref 0, .int x] D (z_eq (a_ans (o_load D N x)) (a_M D (o_load D N x))) := by
  refine z_startI SM_ok (by decide +kernel) (fun v hv => by simp at hv; rcases hv with rfl | rfl <;> rfl) (Nat.le_of_ble_eq_true rfl) (fun X F hR => ?_)
  show z_J X SM 0 [some (.ref 0), some (.int x), none] [] D
  refine z_iload1 F dX5_load_0 ?_
  refine z_callSI1 F (c5_isSheet _ _) kX5_318 (by decide) (Nat.le_of_ble_eq_true rfl) rfl dX5_load_1 ?_
  refine z_ifb_ne F 14 dX5_load_4 (by decide) (fun h4 => ?_) (fun h4 => ?_)
  · obtain ⟨j, hj, rfl⟩ := b_in0 3 (by decide) h4
    have hjn := i_n_n (j := j) (by omega)
    refine z_aload0 F dX5_load_14 ?_
    refine z_getR F M_widths fX5_61 dX5_load_15 ?_
    refine z_iload1 F dX5_load_18 ?_
    refine z_iald F aM_widths (j) rfl (by omega) dX5_load_19 ?_
    refine z_if_ne F 31 dX5_load_20 (by decide) (fun h20 => ?_) (fun h20 => ?_)
    · refine z_iconst F 0 dX5_load_31 zv_i_0 ?_
      refine z_istore2 F dX5_load_32 rfl ?_
      have loop : ∀ f c, c + f = 11 → s_upto (s_ldP D N j) f c = s_upto (s_ldP D N j) 11 0 → z_J X SM 33 [some (.ref 0), some (.int (nI j)), some (.int (nI c))] [] (z_row D 1 (s_ldr (D.1 1) (D.1 14) j c)) := by
        intro f
        induction f with
        | zero =>
          intro c hn he
          have hc11 : c = 11 := by omega
          refine z_iload2 F dX5_load_33 ?_
          refine z_aload0 F dX5_load_34 ?_
          refine z_getR F M_sizes fX5_64 dX5_load_35 ?_
          refine z_iload1 F dX5_load_38 ?_
          refine z_iald F aM_sizes (j) rfl (by omega) dX5_load_39 ?_
          rw [z_rowo _ _ (by decide)]
          refine z_ic_ge F 98 dX5_load_40 (by decide) (fun h40 => ?_) (fun h40 => ?_)
          · have hp : (s_ldP D N j) c = false := by
              simp only [s_ldP, decide_eq_false (Int32.not_lt.mpr h40), Bool.false_and, Bool.and_false]
            refine z_iload2 F dX5_load_98 ?_
            refine hR _ _ _ _ dX5_load_99 rfl ?_
            have e : s_upto (s_ldP D N j) 11 0 = c := by
              rw [← he]
              first
                | rfl
                | (rw [s_upto, if_neg (by rw [hp]; decide)])
            simp only [o_load, h4, hjn, h20, Bool.false_eq_true, if_true, if_false, Bool.and_true, Bool.true_and, Bool.and_false, Bool.false_and, Bool.and_self, and_self, e]
            exact ⟨rfl, rfl⟩
          · refine z_aload0 F dX5_load_43 ?_
            refine z_iload2 F dX5_load_44 ?_
            refine z_callVI1 F (c5_isCoin _ (nI c) (by rw [z_rowr, s_ldr_lo _ _ _ (by decide)]; exact hN) h10) kX5_120 (by decide) ocM (Nat.le_of_ble_eq_true rfl) rfl dX5_load_45 ?_
            rw [i_coin h10 (by omega)]
            refine z_ifb_eq F 98 dX5_load_48 (by decide) (fun h48 => ?_) (fun h48 => ?_)
            · have hp : (s_ldP D N j) c = false := by
                simp only [s_ldP, h48, Bool.false_and, Bool.and_false]
              refine z_iload2 F dX5_load_98 ?_
              refine hR _ _ _ _ dX5_load_99 rfl ?_
              have e : s_upto (s_ldP D N j) 11 0 = c := by
                rw [← he]
                first
                  | rfl
                  | (rw [s_upto, if_neg (by rw [hp]; decide)])
              simp only [o_load, h4, hjn, h20, Bool.false_eq_true, if_true, if_false, Bool.and_true, Bool.true_and, Bool.and_false, Bool.false_and, Bool.and_self, and_self, e]
              exact ⟨rfl, rfl⟩
            · exact absurd (of_decide_eq_true h48) (by omega)
        | succ f ih =>
          intro c hn he
          refine z_iload2 F dX5_load_33 ?_
          refine z_aload0 F dX5_load_34 ?_
          refine z_getR F M_sizes fX5_64 dX5_load_35 ?_
          refine z_iload1 F dX5_load_38 ?_
          refine z_iald F aM_sizes (j) rfl (by omega) dX5_load_39 ?_
          rw [z_rowo _ _ (by decide)]
          refine z_ic_ge F 98 dX5_load_40 (by decide) (fun h40 => ?_) (fun h40 => ?_)
          · have hp : (s_ldP D N j) c = false := by
              simp only [s_ldP, decide_eq_false (Int32.not_lt.mpr h40), Bool.false_and, Bool.and_false]
            refine z_iload2 F dX5_load_98 ?_
            refine hR _ _ _ _ dX5_load_99 rfl ?_
            have e : s_upto (s_ldP D N j) 11 0 = c := by
              rw [← he]
              first
                | rfl
                | (rw [s_upto, if_neg (by rw [hp]; decide)])
            simp only [o_load, h4, hjn, h20, Bool.false_eq_true, if_true, if_false, Bool.and_true, Bool.true_and, Bool.and_false, Bool.false_and, Bool.and_self, and_self, e]
            exact ⟨rfl, rfl⟩
          · refine z_aload0 F dX5_load_43 ?_
            refine z_iload2 F dX5_load_44 ?_
            refine z_callVI1 F (c5_isCoin _ (nI c) (by rw [z_rowr, s_ldr_lo _ _ _ (by decide)]; exact hN) h10) kX5_120 (by decide) ocM (Nat.le_of_ble_eq_true rfl) rfl dX5_load_45 ?_
            rw [i_coin h10 (by omega)]
            refine z_ifb_eq F 98 dX5_load_48 (by decide) (fun h48 => ?_) (fun h48 => ?_)
            · have hp : (s_ldP D N j) c = false := by
                simp only [s_ldP, h48, Bool.false_and, Bool.and_false]
              refine z_iload2 F dX5_load_98 ?_
              refine hR _ _ _ _ dX5_load_99 rfl ?_
              have e : s_upto (s_ldP D N j) 11 0 = c := by
                rw [← he]
                first
                  | rfl
                  | (rw [s_upto, if_neg (by rw [hp]; decide)])
              simp only [o_load, h4, hjn, h20, Bool.false_eq_true, if_true, if_false, Bool.and_true, Bool.true_and, Bool.and_false, Bool.false_and, Bool.and_self, and_self, e]
              exact ⟨rfl, rfl⟩
            · have hcN := of_decide_eq_true h48
              refine z_aload0 F dX5_load_51 ?_
              refine z_getR F M_numbers fX5_67 dX5_load_52 ?_
              refine z_bipush F 40 dX5_load_55 zv_b_40 ?_
              refine z_iload1 F dX5_load_57 ?_
              refine z_imul F dX5_load_58 ?_
              refine z_iload2 F dX5_load_59 ?_
              refine z_iadd F dX5_load_60 ?_
              refine z_iald F aM_numbers (40 * j + c) (i_ix j c) (by omega) dX5_load_61 ?_
              rw [z_rowo _ _ (by decide)]
              refine z_iconst F 1 dX5_load_62 zv_i_1 ?_
              refine z_bipush F 40 dX5_load_63 zv_b_40 ?_
              refine z_callSI3 F (c5_within _ _ _ _) kX5_78 (by decide) (Nat.le_of_ble_eq_true rfl) rfl dX5_load_65 ?_
              refine z_ifb_eq F 98 dX5_load_68 (by decide) (fun h68 => ?_) (fun h68 => ?_)
              · have hp : (s_ldP D N j) c = false := by
                  simp only [s_ldP, h68, Bool.false_and, Bool.and_false]
                refine z_iload2 F dX5_load_98 ?_
                refine hR _ _ _ _ dX5_load_99 rfl ?_
                have e : s_upto (s_ldP D N j) 11 0 = c := by
                  rw [← he]
                  first
                    | rfl
                    | (rw [s_upto, if_neg (by rw [hp]; decide)])
                simp only [o_load, h4, hjn, h20, Bool.false_eq_true, if_true, if_false, Bool.and_true, Bool.true_and, Bool.and_false, Bool.false_and, Bool.and_self, and_self, e]
                exact ⟨rfl, rfl⟩
              · refine z_aload0 F dX5_load_71 ?_
                refine z_getR F M_now fX5_9 dX5_load_72 ?_
                refine z_iload2 F dX5_load_75 ?_
                refine z_iconst F 1 dX5_load_76 zv_i_1 ?_
                refine z_callSI2 F (c5_at _ (c) 1) kX5_82 (by decide) (Nat.le_of_ble_eq_true rfl) rfl dX5_load_77 ?_
                refine z_aload0 F dX5_load_80 ?_
                refine z_getR F M_numbers fX5_67 dX5_load_81 ?_
                refine z_bipush F 40 dX5_load_84 zv_b_40 ?_
                refine z_iload1 F dX5_load_86 ?_
                refine z_imul F dX5_load_87 ?_
                refine z_iload2 F dX5_load_88 ?_
                refine z_iadd F dX5_load_89 ?_
                refine z_iald F aM_numbers (40 * j + c) (i_ix j c) (by omega) dX5_load_90 ?_
                rw [z_rowo _ _ (by decide)]
                refine z_iast F aM_now (16 + 8 * c + 1) rfl (by omega) dX5_load_91 ?_
                refine z_iinc2 F 1 dX5_load_92 rfl zv_i_1 ?_
                refine z_goto F 33 dX5_load_95 (by decide) ?_
                have hp : (s_ldP D N j) c = true := by
                  simp only [s_ldP, decide_eq_true (Int32.not_le.mp h40), decide_eq_true hcN, h68]
                  rfl
                have h := ih (c + 1) (by omega) (by rw [← he, s_upto, if_pos hp])
                rw [s_ldr, show nI (c + 1) = nI c + 1 from nI_succ c] at h
                rw [z_row_up]
                exact h
      have h := loop 11 0 rfl rfl
      rw [s_ldr, z_row_eq] at h
      exact h
    · refine z_aload0 F dX5_load_23 ?_
      refine z_ldcw F (-1000006) dX5_load_24 zw_1039 ?_
      refine z_callVI1 F (c5_finding _ _ 5 (by decide) (by decide)) kX5_93 (by decide) ocM (Nat.le_of_ble_eq_true rfl) rfl dX5_load_27 ?_
      refine hR _ _ _ _ dX5_load_30 rfl ?_
      simp only [o_load, h4, hjn, h20, Bool.false_eq_true, if_true, if_false, Bool.and_true, Bool.true_and, Bool.and_false, Bool.false_and, Bool.and_self, and_self]; first | exact ⟨rfl, rfl⟩ | exact ⟨by decide, rfl⟩ | exact ⟨by decide, z_sm_r _⟩ | exact ⟨rfl, z_sm_r _⟩ | exact ⟨rfl, z_sm_as _⟩ | exact ⟨by decide, z_sm_fM _ (z_sm_as _)⟩
  · refine z_aload0 F dX5_load_7 ?_
    refine z_ldc F (-1000001) dX5_load_8 zw_721 ?_
    refine z_callVI1 F (c5_finding _ _ 0 (by decide) (by decide)) kX5_93 (by decide) ocM (Nat.le_of_ble_eq_true rfl) rfl dX5_load_10 ?_
    refine hR _ _ _ _ dX5_load_13 rfl ?_
    simp only [o_load, h4, Bool.false_eq_true, if_true, if_false, Bool.and_true, Bool.true_and, Bool.and_false, Bool.false_and, Bool.and_self, and_self]; first | exact ⟨rfl, rfl⟩ | exact ⟨by decide, rfl⟩ | exact ⟨by decide, z_sm_r _⟩ | exact ⟨rfl, z_sm_r _⟩ | exact ⟨rfl, z_sm_as _⟩ | exact ⟨by decide, z_sm_fM _ (z_sm_as _)⟩
set_option maxHeartbeats 1000000 in
set_option maxRecDepth 20000 in
theorem c5_judge (D : zD) (x y : Int32) {N : Nat} (hN : D.1 1 4 = nI N) (h10 : N ≤ 10) (hsz : ∀ s, s < 4 → ∃ k, k ≤ 40 ∧ D.1 13 s = nI k) : z_CI SM zT yX5_judge cX5_judge 4 .int 6 [.ref 0, .int x, .int y] D (z_qM D (o_judge D N x y)) := by
  refine z_startI SM_ok (by decide +kernel) (fun v hv => by simp at hv; rcases hv with rfl | rfl | rfl <;> rfl) (Nat.le_of_ble_eq_true rfl) (fun X F hR => ?_)
  show z_J X SM 0 [some (.ref 0), some (.int x), some (.int y), none] [] D
  refine z_iload1 F dX5_judge_0 ?_
  refine z_callSI1 F (c5_isSheet _ _) kX5_318 (by decide) (Nat.le_of_ble_eq_true rfl) rfl dX5_judge_1 ?_
  refine z_ifb_ne F 14 dX5_judge_4 (by decide) (fun h4 => ?_) (fun h4 => ?_)
  · obtain ⟨j, hj, rfl⟩ := b_in0 3 (by decide) h4
    have hjn := i_n_n (j := j) (by omega)
    refine z_aload0 F dX5_judge_14 ?_
    refine z_getR F M_widths fX5_61 dX5_judge_15 ?_
    refine z_iload1 F dX5_judge_18 ?_
    refine z_iald F aM_widths (j) rfl (by omega) dX5_judge_19 ?_
    refine z_if_ne F 31 dX5_judge_20 (by decide) (fun h20 => ?_) (fun h20 => ?_)
    · refine z_aload0 F dX5_judge_31 ?_
      refine z_iload2 F dX5_judge_32 ?_
      refine z_callVI1 F (c5_isCoin _ _ hN h10) kX5_120 (by decide) ocM (Nat.le_of_ble_eq_true rfl) rfl dX5_judge_33 ?_
      refine z_ifb_ne F 46 dX5_judge_36 (by decide) (fun h36 => ?_) (fun h36 => ?_)
      · obtain ⟨i, hi, rfl⟩ := b_coin_ex h10 h36
        have hin := i_n_n (j := i) (by omega)
        obtain ⟨ks, hks, eks⟩ := hsz j (by omega)
        refine z_aload0 F dX5_judge_46 ?_
        refine z_aload0 F dX5_judge_47 ?_
        refine z_getR F M_sizes fX5_64 dX5_judge_48 ?_
        refine z_iload1 F dX5_judge_51 ?_
        refine z_iald F aM_sizes (j) rfl (by omega) dX5_judge_52 ?_
        refine z_callVI1 F (c5_isTooLate _ _) kX5_166 (by decide) ocM (Nat.le_of_ble_eq_true rfl) rfl dX5_judge_53 ?_
        refine z_ifb_eq F 66 dX5_judge_56 (by decide) (fun h56 => ?_) (fun h56 => ?_)
        · simp only [decide_eq_false_iff_not] at h56
          have hl := h56
          refine z_aload0 F dX5_judge_66 ?_
          refine z_getR F M_now fX5_9 dX5_judge_67 ?_
          refine z_aload0 F dX5_judge_70 ?_
          refine z_getR F M_aside fX5_16 dX5_judge_71 ?_
          refine z_callSV2 F (c5_aside D) kX5_74 (by decide) (Nat.le_of_ble_eq_true rfl) rfl dX5_judge_74 ?_
          refine z_iconst F 0 dX5_judge_77 zv_i_0 ?_
          refine z_istore3 F dX5_judge_78 rfl ?_
          have loop : ∀ f c, c + f = 41 → s_upto (s_jgP D N j i) f c = s_upto (s_jgP D N j i) 41 0 → z_J X SM 79 [some (.ref 0), some (.int (nI j)), some (.int (nI i)), some (.int (nI c))] [] (z_row (z_as D) 1 (s_steps (D.1 1) N c)) := by
            intro f
            induction f with
            | zero =>
              intro c hn he
              refine z_iload3 F dX5_judge_79 ?_
              refine z_aload0 F dX5_judge_80 ?_
              refine z_getR F M_sizes fX5_64 dX5_judge_81 ?_
              refine z_iload1 F dX5_judge_84 ?_
              refine z_iald F aM_sizes (j) rfl (by omega) dX5_judge_85 ?_
              rw [z_rowo _ _ (by decide), z_aso _ (by decide)]
              refine z_ic_ge F 123 dX5_judge_86 (by decide) (fun h86 => ?_) (fun h86 => ?_)
              · have hp : (s_jgP D N j i) c = false := by
                  simp only [s_jgP, decide_eq_false (Int32.not_lt.mpr h86), Bool.false_and, Bool.and_false]
                have e : s_upto (s_jgP D N j i) 41 0 = c := by
                  rw [← he]
                  first
                    | rfl
                    | (rw [s_upto, if_neg (by rw [hp]; decide)])
                refine z_aload0 F dX5_judge_123 ?_
                refine z_iload3 F dX5_judge_124 ?_
                refine z_aload0 F dX5_judge_125 ?_
                refine z_getR F M_sizes fX5_64 dX5_judge_126 ?_
                refine z_iload1 F dX5_judge_129 ?_
                refine z_iald F aM_sizes (j) rfl (by omega) dX5_judge_130 ?_
                rw [z_rowo _ _ (by decide), z_aso _ (by decide)]
                refine z_ic_ne F 138 dX5_judge_131 (by decide) (fun h131 => ?_) (fun h131 => ?_)
                · refine z_iconst F 1 dX5_judge_138 zv_i_1 ?_
                  refine z_iload3 F dX5_judge_139 ?_
                  refine z_iadd F dX5_judge_140 ?_
                  refine z_callVI1 F (c5_putBackS D _ _ (fun i hi => s_steps_hi _ h10 hi _)) kX5_177 (by decide) ocM (Nat.le_of_ble_eq_true rfl) rfl dX5_judge_141 ?_
                  refine hR _ _ _ _ dX5_judge_144 rfl ?_
                  simp only [o_judge, h4, hjn, h20, h36, hin, hl, h131, Bool.false_eq_true, if_true, if_false, Bool.and_true, Bool.true_and, Bool.and_false, Bool.false_and, Bool.and_self, and_self, e]
                  exact ⟨rfl, z_sm_as _⟩
                · refine z_iconst F 0 dX5_judge_134 zv_i_0 ?_
                  refine z_goto F 141 dX5_judge_135 (by decide) ?_
                  refine z_callVI1 F (c5_putBackS D _ _ (fun i hi => s_steps_hi _ h10 hi _)) kX5_177 (by decide) ocM (Nat.le_of_ble_eq_true rfl) rfl dX5_judge_141 ?_
                  refine hR _ _ _ _ dX5_judge_144 rfl ?_
                  simp only [o_judge, h4, hjn, h20, h36, hin, hl, h131, Bool.false_eq_true, if_true, if_false, Bool.and_true, Bool.true_and, Bool.and_false, Bool.false_and, Bool.and_self, and_self, e]
                  exact ⟨rfl, z_sm_as _⟩
              · exact absurd (by rw [eks]; exact nI_le (by omega) (by omega)) h86
            | succ f ih =>
              intro c hn he
              refine z_iload3 F dX5_judge_79 ?_
              refine z_aload0 F dX5_judge_80 ?_
              refine z_getR F M_sizes fX5_64 dX5_judge_81 ?_
              refine z_iload1 F dX5_judge_84 ?_
              refine z_iald F aM_sizes (j) rfl (by omega) dX5_judge_85 ?_
              rw [z_rowo _ _ (by decide), z_aso _ (by decide)]
              refine z_ic_ge F 123 dX5_judge_86 (by decide) (fun h86 => ?_) (fun h86 => ?_)
              · have hp : (s_jgP D N j i) c = false := by
                  simp only [s_jgP, decide_eq_false (Int32.not_lt.mpr h86), Bool.false_and, Bool.and_false]
                have e : s_upto (s_jgP D N j i) 41 0 = c := by
                  rw [← he]
                  first
                    | rfl
                    | (rw [s_upto, if_neg (by rw [hp]; decide)])
                refine z_aload0 F dX5_judge_123 ?_
                refine z_iload3 F dX5_judge_124 ?_
                refine z_aload0 F dX5_judge_125 ?_
                refine z_getR F M_sizes fX5_64 dX5_judge_126 ?_
                refine z_iload1 F dX5_judge_129 ?_
                refine z_iald F aM_sizes (j) rfl (by omega) dX5_judge_130 ?_
                rw [z_rowo _ _ (by decide), z_aso _ (by decide)]
                refine z_ic_ne F 138 dX5_judge_131 (by decide) (fun h131 => ?_) (fun h131 => ?_)
                · refine z_iconst F 1 dX5_judge_138 zv_i_1 ?_
                  refine z_iload3 F dX5_judge_139 ?_
                  refine z_iadd F dX5_judge_140 ?_
                  refine z_callVI1 F (c5_putBackS D _ _ (fun i hi => s_steps_hi _ h10 hi _)) kX5_177 (by decide) ocM (Nat.le_of_ble_eq_true rfl) rfl dX5_judge_141 ?_
                  refine hR _ _ _ _ dX5_judge_144 rfl ?_
                  simp only [o_judge, h4, hjn, h20, h36, hin, hl, h131, Bool.false_eq_true, if_true, if_false, Bool.and_true, Bool.true_and, Bool.and_false, Bool.false_and, Bool.and_self, and_self, e]
                  exact ⟨rfl, z_sm_as _⟩
                · refine z_iconst F 0 dX5_judge_134 zv_i_0 ?_
                  refine z_goto F 141 dX5_judge_135 (by decide) ?_
                  refine z_callVI1 F (c5_putBackS D _ _ (fun i hi => s_steps_hi _ h10 hi _)) kX5_177 (by decide) ocM (Nat.le_of_ble_eq_true rfl) rfl dX5_judge_141 ?_
                  refine hR _ _ _ _ dX5_judge_144 rfl ?_
                  simp only [o_judge, h4, hjn, h20, h36, hin, hl, h131, Bool.false_eq_true, if_true, if_false, Bool.and_true, Bool.true_and, Bool.and_false, Bool.false_and, Bool.and_self, and_self, e]
                  exact ⟨rfl, z_sm_as _⟩
              · refine z_aload0 F dX5_judge_89 ?_
                refine z_iconst F 1 dX5_judge_90 zv_i_1 ?_
                refine z_callVI1 F (c5_stepsA D (s_steps (D.1 1) N c) 1 (s_steps_N hN c) h10 (by decide)) kX5_170 (by decide) ocM (Nat.le_of_ble_eq_true rfl) rfl dX5_judge_91 ?_
                refine z_if_lt F 123 dX5_judge_94 (by decide) (fun h94 => ?_) (fun h94 => ?_)
                · exact absurd h94 (s_fell_nn (s_steps (D.1 1) N c) h10 1)
                · have hck : c < ks := by
                    have := Int32.not_le.mp h86
                    rw [eks] at this
                    exact (nI_ltI (by omega) (by omega)).mp this
                  rw [show s_steps (s_steps (D.1 1) N c) N 1 = s_steps (D.1 1) N (c + 1) from rfl]
                  refine z_aload0 F dX5_judge_97 ?_
                  refine z_iload2 F dX5_judge_98 ?_
                  refine z_iconst F 4 dX5_judge_99 zv_i_4 ?_
                  refine z_callVI2 F (c5_coinIsA _ _ i 4 (by omega) (by decide)) kX5_105 (by decide) ocM (Nat.le_of_ble_eq_true rfl) rfl dX5_judge_100 ?_
                  refine z_aload0 F dX5_judge_103 ?_
                  refine z_getR F M_numbers fX5_67 dX5_judge_104 ?_
                  refine z_bipush F 40 dX5_judge_107 zv_b_40 ?_
                  refine z_iload1 F dX5_judge_109 ?_
                  refine z_imul F dX5_judge_110 ?_
                  refine z_iload3 F dX5_judge_111 ?_
                  refine z_iadd F dX5_judge_112 ?_
                  refine z_iald F aM_numbers (40 * j + c) (i_ix j c) (by omega) dX5_judge_113 ?_
                  rw [z_rowo _ _ (by decide), z_aso _ (by decide)]
                  refine z_ic_ne F 123 dX5_judge_114 (by decide) (fun h114 => ?_) (fun h114 => ?_)
                  · have hp : (s_jgP D N j i) c = false := by
                      simp only [s_jgP, decide_eq_false h114, Bool.false_and, Bool.and_false]
                    have e : s_upto (s_jgP D N j i) 41 0 = c := by
                      rw [← he]
                      first
                        | rfl
                        | (rw [s_upto, if_neg (by rw [hp]; decide)])
                    refine z_aload0 F dX5_judge_123 ?_
                    refine z_iload3 F dX5_judge_124 ?_
                    refine z_aload0 F dX5_judge_125 ?_
                    refine z_getR F M_sizes fX5_64 dX5_judge_126 ?_
                    refine z_iload1 F dX5_judge_129 ?_
                    refine z_iald F aM_sizes (j) rfl (by omega) dX5_judge_130 ?_
                    rw [z_rowo _ _ (by decide), z_aso _ (by decide)]
                    refine z_ic_ne F 138 dX5_judge_131 (by decide) (fun h131 => ?_) (fun h131 => ?_)
                    · refine z_iconst F 1 dX5_judge_138 zv_i_1 ?_
                      refine z_iload3 F dX5_judge_139 ?_
                      refine z_iadd F dX5_judge_140 ?_
                      refine z_callVI1 F (c5_putBackS D _ _ (fun i hi => s_steps_hi _ h10 hi _)) kX5_177 (by decide) ocM (Nat.le_of_ble_eq_true rfl) rfl dX5_judge_141 ?_
                      refine hR _ _ _ _ dX5_judge_144 rfl ?_
                      simp only [o_judge, h4, hjn, h20, h36, hin, hl, h131, Bool.false_eq_true, if_true, if_false, Bool.and_true, Bool.true_and, Bool.and_false, Bool.false_and, Bool.and_self, and_self, e]
                      exact ⟨rfl, z_sm_as _⟩
                    · refine z_iconst F 0 dX5_judge_134 zv_i_0 ?_
                      refine z_goto F 141 dX5_judge_135 (by decide) ?_
                      refine z_callVI1 F (c5_putBackS D _ _ (fun i hi => s_steps_hi _ h10 hi _)) kX5_177 (by decide) ocM (Nat.le_of_ble_eq_true rfl) rfl dX5_judge_141 ?_
                      refine hR _ _ _ _ dX5_judge_144 rfl ?_
                      simp only [o_judge, h4, hjn, h20, h36, hin, hl, h131, Bool.false_eq_true, if_true, if_false, Bool.and_true, Bool.true_and, Bool.and_false, Bool.false_and, Bool.and_self, and_self, e]
                      exact ⟨rfl, z_sm_as _⟩
                  · refine z_iinc3 F 1 dX5_judge_117 rfl zv_i_1 ?_
                    refine z_goto F 79 dX5_judge_120 (by decide) ?_
                    have hp : (s_jgP D N j i) c = true := by
                      simp only [s_jgP, decide_eq_true (Int32.not_le.mp h86), decide_eq_true h114]
                      rfl
                    have h := ih (c + 1) (by omega) (by rw [← he, s_upto, if_pos hp])
                    rw [show nI (c + 1) = nI c + 1 from nI_succ c] at h
                    exact h
          rw [z_as_row D]
          exact loop 41 0 rfl rfl
        · simp only [decide_eq_true_eq] at h56
          refine z_aload0 F dX5_judge_59 ?_
          refine z_ldc F (-1000005) dX5_judge_60 zw_810 ?_
          refine z_callVI1 F (c5_finding _ _ 4 (by decide) (by decide)) kX5_93 (by decide) ocM (Nat.le_of_ble_eq_true rfl) rfl dX5_judge_62 ?_
          refine hR _ _ _ _ dX5_judge_65 rfl ?_
          simp only [o_judge, h4, hjn, h20, h36, h56, Bool.false_eq_true, if_true, if_false, Bool.and_true, Bool.true_and, Bool.and_false, Bool.false_and, Bool.and_self, and_self]; first | exact ⟨rfl, rfl⟩ | exact ⟨by decide, rfl⟩ | exact ⟨by decide, z_sm_r _⟩ | exact ⟨rfl, z_sm_r _⟩ | exact ⟨rfl, z_sm_as _⟩ | exact ⟨by decide, z_sm_fM _ (z_sm_as _)⟩
      · refine z_aload0 F dX5_judge_39 ?_
        refine z_ldc F (-1000001) dX5_judge_40 zw_721 ?_
        refine z_callVI1 F (c5_finding _ _ 0 (by decide) (by decide)) kX5_93 (by decide) ocM (Nat.le_of_ble_eq_true rfl) rfl dX5_judge_42 ?_
        refine hR _ _ _ _ dX5_judge_45 rfl ?_
        simp only [o_judge, h4, hjn, h20, h36, Bool.false_eq_true, if_true, if_false, Bool.and_true, Bool.true_and, Bool.and_false, Bool.false_and, Bool.and_self, and_self]; first | exact ⟨rfl, rfl⟩ | exact ⟨by decide, rfl⟩ | exact ⟨by decide, z_sm_r _⟩ | exact ⟨rfl, z_sm_r _⟩ | exact ⟨rfl, z_sm_as _⟩ | exact ⟨by decide, z_sm_fM _ (z_sm_as _)⟩
    · refine z_aload0 F dX5_judge_23 ?_
      refine z_ldcw F (-1000006) dX5_judge_24 zw_1039 ?_
      refine z_callVI1 F (c5_finding _ _ 5 (by decide) (by decide)) kX5_93 (by decide) ocM (Nat.le_of_ble_eq_true rfl) rfl dX5_judge_27 ?_
      refine hR _ _ _ _ dX5_judge_30 rfl ?_
      simp only [o_judge, h4, hjn, h20, Bool.false_eq_true, if_true, if_false, Bool.and_true, Bool.true_and, Bool.and_false, Bool.false_and, Bool.and_self, and_self]; first | exact ⟨rfl, rfl⟩ | exact ⟨by decide, rfl⟩ | exact ⟨by decide, z_sm_r _⟩ | exact ⟨rfl, z_sm_r _⟩ | exact ⟨rfl, z_sm_as _⟩ | exact ⟨by decide, z_sm_fM _ (z_sm_as _)⟩
  · refine z_aload0 F dX5_judge_7 ?_
    refine z_ldc F (-1000001) dX5_judge_8 zw_721 ?_
    refine z_callVI1 F (c5_finding _ _ 0 (by decide) (by decide)) kX5_93 (by decide) ocM (Nat.le_of_ble_eq_true rfl) rfl dX5_judge_10 ?_
    refine hR _ _ _ _ dX5_judge_13 rfl ?_
    simp only [o_judge, h4, Bool.false_eq_true, if_true, if_false, Bool.and_true, Bool.true_and, Bool.and_false, Bool.false_and, Bool.and_self, and_self]; first | exact ⟨rfl, rfl⟩ | exact ⟨by decide, rfl⟩ | exact ⟨by decide, z_sm_r _⟩ | exact ⟨rfl, z_sm_r _⟩ | exact ⟨rfl, z_sm_as _⟩ | exact ⟨by decide, z_sm_fM _ (z_sm_as _)⟩
set_option maxHeartbeats 1000000 in
set_option maxRecDepth 20000 in
theorem c5_image (D : zD) : z_CI SM zT yX5_image cX5_image 1 .int 1 [.ref 0] D (z_eq 1 (z_image D)) := by
  refine z_startI SM_ok (by decide +kernel) (fun v hv => by simp at hv; subst hv; rfl) (Nat.le_of_ble_eq_true rfl) (fun X F hR => ?_)
  show z_J X SM 0 [some (.ref 0)] [] D
  refine z_aload0 F dX5_image_0 ?_
  refine z_getR F M_now fX5_9 dX5_image_1 ?_
  refine z_aload0 F dX5_image_4 ?_
  refine z_getR F M_kept fX5_13 dX5_image_5 ?_
  refine z_callSV2 F (c5_copyRow D 1 3 aM_now aM_kept (by decide)) kX5_74 (by decide) (Nat.le_of_ble_eq_true rfl) rfl dX5_image_8 ?_
  refine z_aload0 F dX5_image_11 ?_
  refine z_iconst F 1 dX5_image_12 zv_i_1 ?_
  refine z_putI F M_isKept fX5_325 rfl rfl dX5_image_13 ?_
  refine z_iconst F 1 dX5_image_16 zv_i_1 ?_
  refine hR _ _ _ _ dX5_image_17 rfl ?_
  exact ⟨rfl, rfl⟩
set_option maxHeartbeats 1000000 in
set_option maxRecDepth 20000 in
theorem c5_undo (D : zD) : z_CI SM zT yX5_undo cX5_undo 1 .int 1 [.ref 0] D (z_eq (a_ans (o_undo D)) (a_M D (o_undo D))) := by
  refine z_startI SM_ok (by decide +kernel) (fun v hv => by simp at hv; subst hv; rfl) (Nat.le_of_ble_eq_true rfl) (fun X F hR => ?_)
  show z_J X SM 0 [some (.ref 0)] [] D
  refine z_aload0 F dX5_undo_0 ?_
  refine z_getI F M_isKept fX5_325 dX5_undo_1 ?_
  refine z_if_ne F 14 dX5_undo_4 (by decide) (fun h4 => ?_) (fun h4 => ?_)
  · refine z_aload0 F dX5_undo_14 ?_
    refine z_getR F M_kept fX5_13 dX5_undo_15 ?_
    refine z_aload0 F dX5_undo_18 ?_
    refine z_getR F M_now fX5_9 dX5_undo_19 ?_
    refine z_callSV2 F (c5_copyRow D 3 1 aM_kept aM_now (by decide)) kX5_74 (by decide) (Nat.le_of_ble_eq_true rfl) rfl dX5_undo_22 ?_
    refine z_aload0 F dX5_undo_25 ?_
    refine z_getR F M_now fX5_9 dX5_undo_26 ?_
    refine z_iconst F 0 dX5_undo_29 zv_i_0 ?_
    refine z_iald F aM_now (0) rfl (by omega) dX5_undo_30 ?_
    refine hR _ _ _ _ dX5_undo_31 rfl ?_
    simp only [o_undo, h4, Bool.false_eq_true, if_true, if_false, Bool.and_true, Bool.true_and, Bool.and_false, Bool.false_and, Bool.and_self, and_self]; first | exact ⟨rfl, rfl⟩ | exact ⟨by decide, rfl⟩ | exact ⟨by rw [z_rowr]; rfl, rfl⟩
  · refine z_aload0 F dX5_undo_7 ?_
    refine z_ldc F (-1000004) dX5_undo_8 zw_860 ?_
    refine z_callVI1 F (c5_finding _ _ 3 (by decide) (by decide)) kX5_93 (by decide) ocM (Nat.le_of_ble_eq_true rfl) rfl dX5_undo_10 ?_
    refine hR _ _ _ _ dX5_undo_13 rfl ?_
    simp only [o_undo, h4, Bool.false_eq_true, if_true, if_false, Bool.and_true, Bool.true_and, Bool.and_false, Bool.false_and, Bool.and_self, and_self]; first | exact ⟨rfl, rfl⟩ | exact ⟨by decide, rfl⟩ | exact ⟨by rw [z_rowr]; rfl, rfl⟩
set_option maxHeartbeats 1000000 in
set_option maxRecDepth 20000 in
theorem c5_tear (D : zD) : z_CI SM zT yX5_tear cX5_tear 2 .int 1 [.ref 0] D (z_eq (if D.1 0 3 = 0 then 0 else 1) (z_up D 0 3 0)) := by
  refine z_startI SM_ok (by decide +kernel) (fun v hv => by simp at hv; subst hv; rfl) (Nat.le_of_ble_eq_true rfl) (fun X F hR => ?_)
  show z_J X SM 0 [some (.ref 0), none] [] D
  refine z_aload0 F dX5_tear_0 ?_
  refine z_getI F M_isKept fX5_325 dX5_tear_1 ?_
  refine z_if_eq F 11 dX5_tear_4 (by decide) (fun h4 => ?_) (fun h4 => ?_)
  · refine z_iconst F 0 dX5_tear_11 zv_i_0 ?_
    refine z_istore1 F dX5_tear_12 rfl ?_
    refine z_aload0 F dX5_tear_13 ?_
    refine z_iconst F 0 dX5_tear_14 zv_i_0 ?_
    refine z_putI F M_isKept fX5_325 rfl rfl dX5_tear_15 ?_
    refine z_iload1 F dX5_tear_18 ?_
    refine hR _ _ _ _ dX5_tear_19 rfl ?_
    exact ⟨by simp [h4], rfl⟩
  · refine z_iconst F 1 dX5_tear_7 zv_i_1 ?_
    refine z_goto F 12 dX5_tear_8 (by decide) ?_
    refine z_istore1 F dX5_tear_12 rfl ?_
    refine z_aload0 F dX5_tear_13 ?_
    refine z_iconst F 0 dX5_tear_14 zv_i_0 ?_
    refine z_putI F M_isKept fX5_325 rfl rfl dX5_tear_15 ?_
    refine z_iload1 F dX5_tear_18 ?_
    refine hR _ _ _ _ dX5_tear_19 rfl ?_
    exact ⟨by simp [h4], rfl⟩
set_option maxHeartbeats 1000000 in
set_option maxRecDepth 20000 in
theorem c5_count (D : zD) (x : Int32) {N : Nat} (hN : D.1 1 4 = nI N) (h10 : N ≤ 10) : z_CI SM zT yX5_count cX5_count 4 .int 4 [.ref 0, .int x] D (z_qM D (o_count D N x)) := by
  refine z_startI SM_ok (by decide +kernel) (fun v hv => by simp at hv; rcases hv with rfl | rfl <;> rfl) (Nat.le_of_ble_eq_true rfl) (fun X F hR => ?_)
  show z_J X SM 0 [some (.ref 0), some (.int x), none, none] [] D
  refine z_iconst F 0 dX5_count_0 zv_i_0 ?_
  refine z_istore2 F dX5_count_1 rfl ?_
  refine z_iload1 F dX5_count_2 ?_
  refine z_tsw_0_7 rfl (fun h3 => ?_) (fun h3 => ?_) (fun h3 => ?_) (fun h3 => ?_) (fun h3 => ?_) (fun h3 => ?_) (fun h3 => ?_) (fun h3 => ?_) (fun h3 => ?_)
  · refine z_tabIn F 48 dX5_count_3 (by rw [h3]; decide) (by rw [h3]; decide) (by rw [h3]; rfl) (by decide) ?_
    refine z_aload0 F dX5_count_48 ?_
    refine z_getR F M_now fX5_9 dX5_count_49 ?_
    refine z_iconst F 0 dX5_count_52 zv_i_0 ?_
    refine z_iald F aM_now (0) rfl (by omega) dX5_count_53 ?_
    refine hR _ _ _ _ dX5_count_54 rfl ?_
    subst h3
    exact ⟨rfl, z_sm_r _⟩
  · refine z_tabIn F 55 dX5_count_3 (by rw [h3]; decide) (by rw [h3]; decide) (by rw [h3]; rfl) (by decide) ?_
    refine z_aload0 F dX5_count_55 ?_
    refine z_getR F M_now fX5_9 dX5_count_56 ?_
    refine z_iconst F 4 dX5_count_59 zv_i_4 ?_
    refine z_iald F aM_now (4) rfl (by omega) dX5_count_60 ?_
    refine hR _ _ _ _ dX5_count_61 rfl ?_
    subst h3
    exact ⟨rfl, z_sm_r _⟩
  · refine z_tabIn F 62 dX5_count_3 (by rw [h3]; decide) (by rw [h3]; decide) (by rw [h3]; rfl) (by decide) ?_
    refine z_aload0 F dX5_count_62 ?_
    refine z_getR F M_now fX5_9 dX5_count_63 ?_
    refine z_iconst F 1 dX5_count_66 zv_i_1 ?_
    refine z_iald F aM_now (1) rfl (by omega) dX5_count_67 ?_
    refine hR _ _ _ _ dX5_count_68 rfl ?_
    subst h3
    exact ⟨rfl, z_sm_r _⟩
  · refine z_tabIn F 69 dX5_count_3 (by rw [h3]; decide) (by rw [h3]; decide) (by rw [h3]; rfl) (by decide) ?_
    refine z_aload0 F dX5_count_69 ?_
    refine z_iconst F (-1) dX5_count_70 zv_i_m1 ?_
    refine z_iconst F 3 dX5_count_71 zv_i_3 ?_
    refine z_callVI2 F (c5_sumOf _ 3 (-1) hN h10 (by decide)) kX5_144 (by decide) ocM (Nat.le_of_ble_eq_true rfl) rfl dX5_count_72 ?_
    refine hR _ _ _ _ dX5_count_75 rfl ?_
    subst h3
    exact ⟨rfl, z_sm_r _⟩
  · refine z_tabIn F 76 dX5_count_3 (by rw [h3]; decide) (by rw [h3]; decide) (by rw [h3]; rfl) (by decide) ?_
    refine z_aload0 F dX5_count_76 ?_
    refine z_callVI0 F (c5_clinks _ hN h10) kX5_173 (by decide) ocM (Nat.le_of_ble_eq_true rfl) rfl dX5_count_77 ?_
    refine hR _ _ _ _ dX5_count_80 rfl ?_
    subst h3
    exact ⟨rfl, z_sm_r _⟩
  · refine z_tabIn F 81 dX5_count_3 (by rw [h3]; decide) (by rw [h3]; decide) (by rw [h3]; rfl) (by decide) ?_
    refine z_aload0 F dX5_count_81 ?_
    refine z_getI F M_taped fX5_235 dX5_count_82 ?_
    refine hR _ _ _ _ dX5_count_85 rfl ?_
    subst h3
    exact ⟨rfl, z_sm_r _⟩
  · refine z_tabIn F 86 dX5_count_3 (by rw [h3]; decide) (by rw [h3]; decide) (by rw [h3]; rfl) (by decide) ?_
    refine z_aload0 F dX5_count_86 ?_
    refine z_getR F M_now fX5_9 dX5_count_87 ?_
    refine z_iconst F 5 dX5_count_90 zv_i_5 ?_
    refine z_iald F aM_now (5) rfl (by omega) dX5_count_91 ?_
    refine hR _ _ _ _ dX5_count_92 rfl ?_
    subst h3
    exact ⟨rfl, z_sm_r _⟩
  · refine z_tabIn F 93 dX5_count_3 (by rw [h3]; decide) (by rw [h3]; decide) (by rw [h3]; rfl) (by decide) ?_
    subst h3
    refine z_iconst F 0 dX5_count_93 zv_i_0 ?_
    refine z_istore3 F dX5_count_94 rfl ?_
    have loop : ∀ (n c : Nat), c + n = 10 → z_J X SM 95 [some (.ref 0), some (.int 7), some (.int (s_spots (D.1 1) c)), some (.int (nI c))] [] D := by
      intro n
      induction n with
      | zero =>
        intro c hn 
        refine z_iload3 F dX5_count_95 ?_
        refine z_bipush F 10 dX5_count_96 zv_b_10 ?_
        refine z_ic_ge F 127 dX5_count_98 (by decide) (fun h98 => ?_) (fun h98 => ?_)
        · refine z_iload2 F dX5_count_127 ?_
          refine hR _ _ _ _ dX5_count_128 rfl ?_
          rw [show c = 10 by omega]
          exact ⟨rfl, z_sm_r _⟩
        · exact absurd (nI_le (a := 10) (b := c) (by omega) (by omega)) h98
      | succ n ih =>
        intro c hn 
        refine z_iload3 F dX5_count_95 ?_
        refine z_bipush F 10 dX5_count_96 zv_b_10 ?_
        refine z_ic_ge F 127 dX5_count_98 (by decide) (fun h98 => ?_) (fun h98 => ?_)
        · exact absurd h98 (nI_ge (a := c) (b := 10) (by omega) (by omega))
        · refine z_iload2 F dX5_count_101 ?_
          refine z_aload0 F dX5_count_102 ?_
          refine z_getR F M_now fX5_9 dX5_count_103 ?_
          refine z_bipush F 6 dX5_count_106 zv_b_6 ?_
          refine z_iload3 F dX5_count_108 ?_
          refine z_iadd F dX5_count_109 ?_
          refine z_iald F aM_now (6 + c) (nI_add 6 c) (by omega) dX5_count_110 ?_
          refine z_if_ge F 118 dX5_count_111 (by decide) (fun h111 => ?_) (fun h111 => ?_)
          · refine z_iconst F 1 dX5_count_118 zv_i_1 ?_
            refine z_iadd F dX5_count_119 ?_
            refine z_istore2 F dX5_count_120 rfl ?_
            refine z_iinc3 F 1 dX5_count_121 rfl zv_i_1 ?_
            refine z_goto F 95 dX5_count_124 (by decide) ?_
            have h := ih (c + 1) (by omega)
            rw [show nI (c + 1) = nI c + 1 from nI_succ c, s_spots] at h
            first
              | (rw [if_pos (Int32.not_le.mp h111)] at h; exact h)
              | (rw [if_neg (Int32.not_lt.mpr h111)] at h; exact h)
          · refine z_iconst F 0 dX5_count_114 zv_i_0 ?_
            refine z_goto F 119 dX5_count_115 (by decide) ?_
            refine z_iadd F dX5_count_119 ?_
            refine z_istore2 F dX5_count_120 rfl ?_
            refine z_iinc3 F 1 dX5_count_121 rfl zv_i_1 ?_
            refine z_goto F 95 dX5_count_124 (by decide) ?_
            have h := ih (c + 1) (by omega)
            rw [show nI (c + 1) = nI c + 1 from nI_succ c, s_spots] at h
            first
              | (rw [if_pos (Int32.not_le.mp h111)] at h; exact h)
              | (rw [if_neg (Int32.not_lt.mpr h111)] at h; exact h)
    exact loop 10 0 (by omega)
  · refine z_tabOut F 129 dX5_count_3 h3 (by decide) ?_
    refine z_aload0 F dX5_count_129 ?_
    refine z_ldc F (-1000001) dX5_count_130 zw_721 ?_
    refine z_callVI1 F (c5_finding _ _ 0 (by decide) (by decide)) kX5_93 (by decide) ocM (Nat.le_of_ble_eq_true rfl) rfl dX5_count_132 ?_
    refine hR _ _ _ _ dX5_count_135 rfl ?_
    obtain ⟨n0, n1, n2, n3, n4, n5, n6, n7⟩ := z_out07 h3
    simp only [o_count, n0, n1, n2, n3, n4, n5, n6, n7, if_false]; exact ⟨by decide, z_sm_r _⟩
set_option maxHeartbeats 1000000 in
set_option maxRecDepth 20000 in
theorem c5_status (D : zD) (x : Int32) : z_CI SM zT yX5_status cX5_status 2 .int 1 [.ref 0, .int x] D (z_eq (q_ans (o_status (D.1 4) x)) (q_M D (o_status (D.1 4) x))) := by
  refine z_startI SM_ok (by decide +kernel) (fun v hv => by simp at hv; rcases hv with rfl | rfl <;> rfl) (Nat.le_of_ble_eq_true rfl) (fun X F hR => ?_)
  show z_J X SM 0 [some (.ref 0), some (.int x)] [] D
  refine z_iload1 F dX5_status_0 ?_
  refine z_iconst F (-1) dX5_status_1 zv_i_m1 ?_
  refine z_bipush F 6 dX5_status_2 zv_b_6 ?_
  refine z_callSI3 F (c5_within _ _ _ _) kX5_78 (by decide) (Nat.le_of_ble_eq_true rfl) rfl dX5_status_4 ?_
  refine z_ifb_eq F 21 dX5_status_7 (by decide) (fun h7 => ?_) (fun h7 => ?_)
  · refine z_aload0 F dX5_status_21 ?_
    refine z_ldc F (-1000001) dX5_status_22 zw_721 ?_
    refine z_callVI1 F (c5_finding _ _ 0 (by decide) (by decide)) kX5_93 (by decide) ocM (Nat.le_of_ble_eq_true rfl) rfl dX5_status_24 ?_
    refine hR _ _ _ _ dX5_status_27 rfl ?_
    simp only [o_status, h7, Bool.false_eq_true, if_true, if_false, Bool.and_true, Bool.true_and, Bool.and_false, Bool.false_and, Bool.and_self, and_self]; first | (rw [ej, hjn]; exact ⟨rfl, rfl⟩) | exact ⟨by decide, rfl⟩
  · obtain ⟨j, hj, ej⟩ : ∃ j, j ≤ 7 ∧ x + 1 = nI j := i_m16 h7
    have hjn := i_n_n (j := j) (by omega)
    refine z_aload0 F dX5_status_10 ?_
    refine z_getR F M_found fX5_19 dX5_status_11 ?_
    refine z_iload1 F dX5_status_14 ?_
    refine z_iconst F 1 dX5_status_15 zv_i_1 ?_
    refine z_iadd F dX5_status_16 ?_
    refine z_iald F aM_found (j) ej (by omega) dX5_status_17 ?_
    refine z_goto F 27 dX5_status_18 (by decide) ?_
    refine hR _ _ _ _ dX5_status_27 rfl ?_
    simp only [o_status, h7, Bool.false_eq_true, if_true, if_false, Bool.and_true, Bool.true_and, Bool.and_false, Bool.false_and, Bool.and_self, and_self]; first | (rw [ej, hjn]; exact ⟨rfl, rfl⟩) | exact ⟨by decide, rfl⟩
set_option maxHeartbeats 1000000 in
set_option maxRecDepth 20000 in
theorem c5_feed (D : zD) (x y : Int32) {t : Nat} (ht : D.1 0 12 = nI t) (ht120 : t ≤ 120) : z_CI SM zT yX5_feed cX5_feed 4 .int 2 [.ref 0, .int x, .int y] D (z_eq (a_ans (o_feed D t x y)) (a_M D (o_feed D t x y))) := by
  refine z_startI SM_ok (by decide +kernel) (fun v hv => by simp at hv; rcases hv with rfl | rfl | rfl <;> rfl) (Nat.le_of_ble_eq_true rfl) (fun X F hR => ?_)
  show z_J X SM 0 [some (.ref 0), some (.int x), some (.int y), none] [] D
  refine z_iload2 F dX5_feed_0 ?_
  refine z_iconst F 1 dX5_feed_1 zv_i_1 ?_
  refine z_iconst F 4 dX5_feed_2 zv_i_4 ?_
  refine z_callSI3 F (c5_within _ _ _ _) kX5_78 (by decide) (Nat.le_of_ble_eq_true rfl) rfl dX5_feed_3 ?_
  refine z_ifb_ne F 16 dX5_feed_6 (by decide) (fun h6 => ?_) (fun h6 => ?_)
  · refine z_aload0 F dX5_feed_16 ?_
    refine z_getI F M_taped fX5_235 dX5_feed_17 ?_
    rw [ht]
    refine z_iload2 F dX5_feed_20 ?_
    refine z_iadd F dX5_feed_21 ?_
    refine z_bipush F 120 dX5_feed_22 zv_b_120 ?_
    have hl0 := h6
    refine z_ic_le F 34 dX5_feed_24 (by decide) (fun h24 => ?_) (fun h24 => ?_)
    · have hl : ¬ 120 < nI t + y := Int32.not_lt.mpr h24
      obtain ⟨q, hq1, hq, rfl⟩ := b_in1 4 (by decide) h6
      have hqn := i_n_n (j := q) (by omega)
      have htq : t + q ≤ 120 := by
        rw [nI_add] at h24
        exact (nI_leI (a := t + q) (b := 120) (by omega) (by decide)).mp h24
      refine z_iload2 F dX5_feed_34 ?_
      refine z_iconst F 1 dX5_feed_35 zv_i_1 ?_
      refine z_isub F dX5_feed_36 ?_
      refine z_istore3 F dX5_feed_37 rfl ?_
      have loop : ∀ (n c : Nat), c + n = q → z_J X SM 38 [some (.ref 0), some (.int x), some (.int (nI q)), some (.int (nI n + (-1)))] [] (z_up (z_row D 8 (s_fed (D.1 8) t x q c)) 0 12 (nI (t + c))) := by
        intro n
        induction n with
        | zero =>
          intro c hn 
          refine z_iload3 F dX5_feed_38 ?_
          refine z_if_lt F 77 dX5_feed_39 (by decide) (fun h39 => ?_) (fun h39 => ?_)
          · refine z_aload0 F dX5_feed_77 ?_
            refine z_getI F M_taped fX5_235 dX5_feed_78 ?_
            rw [z_upr, u_eq]
            refine hR _ _ _ _ dX5_feed_81 rfl ?_
            rw [show c = q by omega]
            simp only [o_feed, h6, hl, hqn, Bool.false_eq_true, if_true, if_false, Bool.and_true, Bool.true_and, Bool.and_false, Bool.false_and, Bool.and_self, and_self]
            exact ⟨rfl, rfl⟩
          · exact absurd (by decide) h39
        | succ n ih =>
          intro c hn 
          rw [pk_m1]
          refine z_iload3 F dX5_feed_38 ?_
          refine z_if_lt F 77 dX5_feed_39 (by decide) (fun h39 => ?_) (fun h39 => ?_)
          · exact absurd h39 (Int32.not_lt.mpr (nI_pos' (by omega)))
          · refine z_aload0 F dX5_feed_42 ?_
            refine z_getR F M_tape fX5_32 dX5_feed_43 ?_
            refine z_aload0 F dX5_feed_46 ?_
            refine z_getI F M_taped fX5_235 dX5_feed_47 ?_
            rw [z_upr, u_eq]
            refine z_iload1 F dX5_feed_50 ?_
            refine z_bipush F 8 dX5_feed_51 zv_b_8 ?_
            refine z_iload3 F dX5_feed_53 ?_
            refine z_imul F dX5_feed_54 ?_
            refine z_ishr F dX5_feed_55 ?_
            refine z_sipush F 255 dX5_feed_56 zv_s_255 ?_
            refine z_iand F dX5_feed_59 ?_
            refine z_iast F aM_tape (t + c) rfl (by omega) dX5_feed_60 ?_
            rw [z_fd1]
            refine z_aload0 F dX5_feed_61 ?_
            refine z_dup F dX5_feed_62 rfl ?_
            refine z_getI F M_taped fX5_235 dX5_feed_63 ?_
            rw [z_upr, u_eq]
            refine z_iconst F 1 dX5_feed_66 zv_i_1 ?_
            refine z_iadd F dX5_feed_67 ?_
            refine z_putI F M_taped fX5_235 rfl rfl dX5_feed_68 ?_
            rw [z_up_up]
            refine z_iinc3 F (-1) dX5_feed_71 rfl zv_i_m1 ?_
            refine z_goto F 38 dX5_feed_74 (by decide) ?_
            have h := ih (c + 1) (by omega)
            rw [s_fed, s_byte, show q - 1 - c = n by omega, show t + (c + 1) = t + c + 1 by omega, show nI (t + c + 1) = nI (t + c) + 1 from nI_succ _] at h
            exact h
      have h := loop q 0 (by omega)
      rw [s_fed, z_row_eq, show nI (t + 0) = D.1 0 12 from ht.symm, z_up_self] at h
      rw [Int32.sub_eq_add_neg]
      exact h
    · have hl : 120 < nI t + y := Int32.not_le.mp h24
      refine z_aload0 F dX5_feed_27 ?_
      refine z_ldc F (-1000002) dX5_feed_28 zw_725 ?_
      refine z_callVI1 F (c5_finding _ _ 1 (by decide) (by decide)) kX5_93 (by decide) ocM (Nat.le_of_ble_eq_true rfl) rfl dX5_feed_30 ?_
      refine hR _ _ _ _ dX5_feed_33 rfl ?_
      simp only [o_feed, h6, hl, Bool.false_eq_true, if_true, if_false, Bool.and_true, Bool.true_and, Bool.and_false, Bool.false_and, Bool.and_self, and_self]; first | exact ⟨rfl, rfl⟩ | exact ⟨by decide, rfl⟩ | exact ⟨by decide, z_sm_r _⟩ | exact ⟨rfl, z_sm_r _⟩ | exact ⟨rfl, z_sm_as _⟩ | exact ⟨by decide, z_sm_fM _ (z_sm_as _)⟩
  · refine z_aload0 F dX5_feed_9 ?_
    refine z_ldc F (-1000001) dX5_feed_10 zw_721 ?_
    refine z_callVI1 F (c5_finding _ _ 0 (by decide) (by decide)) kX5_93 (by decide) ocM (Nat.le_of_ble_eq_true rfl) rfl dX5_feed_12 ?_
    refine hR _ _ _ _ dX5_feed_15 rfl ?_
    simp only [o_feed, h6, Bool.false_eq_true, if_true, if_false, Bool.and_true, Bool.true_and, Bool.and_false, Bool.false_and, Bool.and_self, and_self]; first | exact ⟨rfl, rfl⟩ | exact ⟨by decide, rfl⟩ | exact ⟨by decide, z_sm_r _⟩ | exact ⟨rfl, z_sm_r _⟩ | exact ⟨rfl, z_sm_as _⟩ | exact ⟨by decide, z_sm_fM _ (z_sm_as _)⟩
set_option maxHeartbeats 1000000 in
set_option maxRecDepth 20000 in
theorem c5_wipe (D : zD) : z_CI SM zT yX5_wipe cX5_wipe 2 .int 1 [.ref 0] D (z_eq (D.1 0 12) (z_up D 0 12 0)) := by
  refine z_startI SM_ok (by decide +kernel) (fun v hv => by simp at hv; subst hv; rfl) (Nat.le_of_ble_eq_true rfl) (fun X F hR => ?_)
  show z_J X SM 0 [some (.ref 0), none] [] D
  refine z_aload0 F dX5_wipe_0 ?_
  refine z_getI F M_taped fX5_235 dX5_wipe_1 ?_
  refine z_istore1 F dX5_wipe_4 rfl ?_
  refine z_aload0 F dX5_wipe_5 ?_
  refine z_iconst F 0 dX5_wipe_6 zv_i_0 ?_
  refine z_putI F M_taped fX5_235 rfl rfl dX5_wipe_7 ?_
  refine z_iload1 F dX5_wipe_10 ?_
  refine hR _ _ _ _ dX5_wipe_11 rfl ?_
  exact ⟨rfl, rfl⟩
def s_at (D : zD) (t k : Nat) : Int32 := if k < t then D.1 8 k else -1
set_option maxHeartbeats 1000000 in
set_option maxRecDepth 20000 in
theorem c5_byteAt (D : zD) (k : Nat) {t : Nat} (ht : D.1 0 12 = nI t) (ht120 : t ≤ 120) (hk : k < 2 ^ 31) : z_CI SM zT yX5_byteAt cX5_byteAt 2 .int 0 [.ref 0, .int (nI k)] D (z_eq (s_at D t k) D) := by
  refine z_startI SM_ok (by decide +kernel) (fun v hv => by simp at hv; rcases hv with rfl | rfl <;> rfl) (Nat.le_of_ble_eq_true rfl) (fun X F hR => ?_)
  show z_J X SM 0 [some (.ref 0), some (.int (nI k))] [] D
  refine z_iload1 F dX5_byteAt_0 ?_
  refine z_aload0 F dX5_byteAt_1 ?_
  refine z_getI F M_taped fX5_235 dX5_byteAt_2 ?_
  rw [ht]
  refine z_ic_ge F 17 dX5_byteAt_5 (by decide) (fun h5 => ?_) (fun h5 => ?_)
  · refine z_iconst F (-1) dX5_byteAt_17 zv_i_m1 ?_
    refine hR _ _ _ _ dX5_byteAt_18 rfl ?_
    exact ⟨by rw [s_at, if_neg (fun e => Int32.not_lt.mpr h5 (nI_lt e (by omega)))], rfl⟩
  · have hkt : k < t := (nI_ltI hk (by omega)).mp (Int32.not_le.mp h5)
    refine z_aload0 F dX5_byteAt_8 ?_
    refine z_getR F M_tape fX5_32 dX5_byteAt_9 ?_
    refine z_iload1 F dX5_byteAt_12 ?_
    refine z_iald F aM_tape (k) rfl (by omega) dX5_byteAt_13 ?_
    refine z_goto F 18 dX5_byteAt_14 (by decide) ?_
    refine hR _ _ _ _ dX5_byteAt_18 rfl ?_
    exact ⟨by rw [s_at, if_pos hkt], rfl⟩
