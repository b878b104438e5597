set_option maxHeartbeats 1000000 in
set_option maxRecDepth 20000 in
theorem c5_text (D : zD) {N : Nat} (hN : D.1 1 4 = nI N) (h10 : N ≤ 10) {t : Nat} (ht : D.1 0 12 = nI t) (ht120 : t ≤ 120) (hko : ∀ j, j < 7 → D.1 10 j = [0, 1, 2, 5, 3, 4, 6].getD j 0) (h1 : 0 ≤ D.1 1 1) (h2 : 0 ≤ D.1 1 2) (h3 : 0 ≤ D.1 1 3) : z_CI SM zT yX5_text cX5_text 3 .int 7 [.ref 0] D (z_aM D (o_text D t)) := by
  refine z_startI SM_ok (by decide +kernel) (fun v hv => by simp at hv; subst hv; rfl) (Nat.le_of_ble_eq_true rfl) (fun X F hR => ?_)
  show z_J X SM 0 [some (.ref 0), none, none] [] D
  obtain ⟨A, hA⟩ : ∃ A, A = (m_all (D.1 8) t (D.1 1 4) (D.1 11)) := ⟨_, rfl⟩
  obtain ⟨Z, hZ⟩ : ∃ Z, Z = m_end (D.1 8) t (D.1 1 4) (D.1 11) := ⟨_, rfl⟩
  have inv : m_inv t (D.1 1 4) A := by rw [hA]; exact m_all_inv _ _ _ _
  have fin : z_J X SM 74 [some (.ref 0), none, none] [] (z_row (z_row D 11 A.2.2.1) 0 (s_r0 (D.1 0) A.1.1 A.1.2 A.2.2.2 A.2.1)) := by
    have good : Z.2 = false → z_J X SM 109 [some (.ref 0), none, none] [] (z_row (z_row D 11 A.2.2.1) 0 (s_r0 (upd (D.1 0) 12 0) Z.1 Z.2 A.2.2.2 A.2.1)) := by
      intro hw
      have hAw : A.1.2 = false := (m_must_w (s := A.1) (is := decide (A.1.1.2.2.1 = 0)) (by have := hw; rw [hZ, m_end, ← hA] at this; exact this)).1
      obtain ⟨hmb, hok, hcc⟩ := inv.2 hAw
      have hb1 := inv.1.1
      have hb2 := inv.1.2.1
      have loop : ∀ (n k : Nat), k + n = A.2.2.2 → ∀ Nk, Nk ≤ 10 → (s_sos (D.1 1) A.2.2.1 k) 4 = nI Nk → i_cnt A.2.2.1 (D.1 1 4) k = nI Nk → 0 ≤ (s_sos (D.1 1) A.2.2.1 k) 1 → 0 ≤ (s_sos (D.1 1) A.2.2.1 k) 2 → 0 ≤ (s_sos (D.1 1) A.2.2.1 k) 3 → z_J X SM 113 [some (.ref 0), some (.int (nI k)), some (.int (nI k))] [] (z_row (z_row (z_row D 11 A.2.2.1) 0 (s_r0 (upd (D.1 0) 12 0) Z.1 Z.2 A.2.2.2 A.2.1)) 1 (s_sos (D.1 1) A.2.2.1 k)) := by
        intro n
        induction n with
        | zero =>
          intro k hn Nk hNk h4 hcn p1 p2 p3
          refine z_iload2 F dX5_text_113 ?_
          refine z_aload0 F dX5_text_114 ?_
          refine z_getI F M_itemMany fX5_271 dX5_text_115 ?_
          rw [z_rowo _ _ (by decide), z_r21]
          refine z_ic_ge F 145 dX5_text_118 (by decide) (fun h118 => ?_) (fun h118 => ?_)
          · refine z_iload1 F dX5_text_145 ?_
            refine hR _ _ _ _ dX5_text_146 rfl ?_
            rw [show k = A.2.2.2 by omega]
            simp only [o_text, ← hA, ← hZ, hw, Bool.false_eq_true, if_true, if_false, Bool.and_true, Bool.true_and, Bool.and_false, Bool.false_and, Bool.and_self, and_self]
            exact ⟨rfl, z_sm_row1 _ (z_sm_read D _ _ _ _ _)⟩
          · exact absurd (nI_le (by omega) (by omega)) h118
        | succ n ih =>
          intro k hn Nk hNk h4 hcn p1 p2 p3
          refine z_iload2 F dX5_text_113 ?_
          refine z_aload0 F dX5_text_114 ?_
          refine z_getI F M_itemMany fX5_271 dX5_text_115 ?_
          rw [z_rowo _ _ (by decide), z_r21]
          refine z_ic_ge F 145 dX5_text_118 (by decide) (fun h118 => ?_) (fun h118 => ?_)
          · exact absurd h118 (nI_ge (by omega) (by omega))
          · refine z_iload1 F dX5_text_121 ?_
            refine z_aload0 F dX5_text_122 ?_
            refine z_iconst F 5 dX5_text_123 zv_i_5 ?_
            refine z_iload2 F dX5_text_124 ?_
            refine z_imul F dX5_text_125 ?_
            rw [show (5 : Int32) * nI k = nI (5 * k) by rw [show (5 : Int32) = nI 5 from rfl, pk_mul]]
            have e11 : (z_row (z_row (z_row D 11 A.2.2.1) 0 (s_r0 (upd (D.1 0) 12 0) Z.1 Z.2 A.2.2.2 A.2.1)) 1 (s_sos (D.1 1) A.2.2.1 k)).1 11 = A.2.2.1 := by rw [z_rowo _ _ (by decide), z_rowo _ _ (by decide), z_rowr]
            have hik : i_ok (i_at A.2.2.1 k) (nI Nk) := by rw [← hcn]; exact hok k (by omega)
            have HI : ((i_at A.2.2.1 k).1 = 10 ∧ 0 ≤ (s_sos (D.1 1) A.2.2.1 k) 1) ∨ ((i_at A.2.2.1 k).1 = 11 ∧ 0 ≤ (s_sos (D.1 1) A.2.2.1 k) 2 ∧ 0 ≤ (s_sos (D.1 1) A.2.2.1 k) 3) ∨ (b_in (i_at A.2.2.1 k).1 0 6 = true ∧ Nk < 10) := by
              rcases hik with ⟨e, -⟩ | ⟨e, -⟩ | ⟨e, hc, -⟩
              · exact Or.inl ⟨e, p1⟩
              · exact Or.inr (Or.inl ⟨e, p2, p3⟩)
              · exact Or.inr (Or.inr ⟨e, (nI_ltI (a := Nk) (b := 10) (by omega) (by decide)).mp hc⟩)
            refine z_callVI1p F (by have h := c5_isSo (z_row (z_row (z_row D 11 A.2.2.1) 0 (s_r0 (upd (D.1 0) 12 0) Z.1 Z.2 A.2.2.2 A.2.1)) 1 (s_sos (D.1 1) A.2.2.1 k)) k (by omega) (N := Nk) (by rw [z_rowr]; exact h4) (by rw [e11, z_rowr]; exact HI); rw [e11, z_rowr, z_row_row] at h; exact h) kX5_310 (by decide) ocM (Nat.le_of_ble_eq_true rfl) rfl dX5_text_126 (fun r G hp => ?_)
            obtain ⟨hr, rfl⟩ := hp
            refine z_if_ge F 136 dX5_text_129 (by decide) (fun h129 => ?_) (fun h129 => ?_)
            · refine z_iconst F 1 dX5_text_136 zv_i_1 ?_
              refine z_iadd F dX5_text_137 ?_
              refine z_istore1 F dX5_text_138 rfl ?_
              refine z_iinc2 F 1 dX5_text_139 rfl zv_i_1 ?_
              refine z_goto F 113 dX5_text_142 (by decide) ?_
              obtain ⟨N2, hN2, g1, g2⟩ := s_so_4 hik h4 hNk
              have pp := s_so_P hik p1 p2 p3
              have h := ih (k + 1) (by omega) N2 hN2 (by rw [s_sos]; exact g1) (by rw [i_cnt, hcn]; exact g2) (by rw [s_sos]; exact pp.1) (by rw [s_sos]; exact pp.2.1) (by rw [s_sos]; exact pp.2.2)
              rw [show nI (k + 1) = nI k + 1 from nI_succ k, s_sos] at h
              exact h
            · exact absurd hr h129
      
      refine z_iconst F 0 dX5_text_109 zv_i_0 ?_
      refine z_istore1 F dX5_text_110 rfl ?_
      refine z_iconst F 0 dX5_text_111 zv_i_0 ?_
      refine z_istore2 F dX5_text_112 rfl ?_
      have h := loop A.2.2.2 0 (by omega) N h10 hN hN h1 h2 h3
      rw [show (s_sos (D.1 1) A.2.2.1 0) = D.1 1 from rfl, z_row_id (z_row (z_row D 11 A.2.2.1) 0 (s_r0 (upd (D.1 0) 12 0) Z.1 Z.2 A.2.2.2 A.2.1)) (by rw [z_rowo _ _ (by decide), z_rowo _ _ (by decide)])] at h
      exact h
    
    refine z_aload0 F dX5_text_74 ?_
    refine z_aload0 F dX5_text_75 ?_
    refine z_getI F M_sort fX5_250 dX5_text_76 ?_
    simp only [z_r15]
    refine z_if_ne F 86 dX5_text_79 (by decide) (fun h79 => ?_) (fun h79 => ?_)
    · refine z_iconst F 0 dX5_text_86 zv_i_0 ?_
      refine z_callVV1 F (by have h := c5_must (z_row D 11 A.2.2.1) (D.1 0) A.1 A.2.2.2 A.2.1 ht ht120 inv.1 false; rw [z_rowo _ _ (by decide)] at h; exact h) kX5_267 (by decide) ocM (Nat.le_of_ble_eq_true rfl) rfl dX5_text_87 ?_
      rw [show m_must (D.1 8) t A.1 false = Z by rw [hZ, m_end, ← hA, decide_eq_false h79]]
      refine z_aload0 F dX5_text_90 ?_
      refine z_iconst F 0 dX5_text_91 zv_i_0 ?_
      refine z_putI F M_taped fX5_235 rfl rfl dX5_text_92 ?_
      rw [z_p12]
      refine z_aload0 F dX5_text_95 ?_
      refine z_getI F M_isWrong fX5_260 dX5_text_96 ?_
      simp only [z_r17]
      refine z_if_eq F 109 dX5_text_99 (by decide) (fun h99 => ?_) (fun h99 => ?_)
      · have hw : Z.2 = false := (z_b0 _).mp h99
        exact good hw
      · have hw : Z.2 = true := (z_bn _).mp h99
        refine z_iconst F (-1) dX5_text_102 zv_i_m1 ?_
        refine z_aload0 F dX5_text_103 ?_
        refine z_getI F M_begins fX5_241 dX5_text_104 ?_
        simp only [z_r13]
        refine z_isub F dX5_text_107 ?_
        refine hR _ _ _ _ dX5_text_108 rfl ?_
        simp only [o_text, ← hA, ← hZ, hw, Bool.false_eq_true, if_true, if_false, Bool.and_true, Bool.true_and, Bool.and_false, Bool.false_and, Bool.and_self, and_self]
        exact ⟨rfl, z_sm_read D _ _ _ _ _⟩
    · refine z_iconst F 1 dX5_text_82 zv_i_1 ?_
      refine z_goto F 87 dX5_text_83 (by decide) ?_
      refine z_callVV1 F (by have h := c5_must (z_row D 11 A.2.2.1) (D.1 0) A.1 A.2.2.2 A.2.1 ht ht120 inv.1 true; rw [z_rowo _ _ (by decide)] at h; exact h) kX5_267 (by decide) ocM (Nat.le_of_ble_eq_true rfl) rfl dX5_text_87 ?_
      rw [show m_must (D.1 8) t A.1 true = Z by rw [hZ, m_end, ← hA, decide_eq_true h79]]
      refine z_aload0 F dX5_text_90 ?_
      refine z_iconst F 0 dX5_text_91 zv_i_0 ?_
      refine z_putI F M_taped fX5_235 rfl rfl dX5_text_92 ?_
      rw [z_p12]
      refine z_aload0 F dX5_text_95 ?_
      refine z_getI F M_isWrong fX5_260 dX5_text_96 ?_
      simp only [z_r17]
      refine z_if_eq F 109 dX5_text_99 (by decide) (fun h99 => ?_) (fun h99 => ?_)
      · have hw : Z.2 = false := (z_b0 _).mp h99
        exact good hw
      · have hw : Z.2 = true := (z_bn _).mp h99
        refine z_iconst F (-1) dX5_text_102 zv_i_m1 ?_
        refine z_aload0 F dX5_text_103 ?_
        refine z_getI F M_begins fX5_241 dX5_text_104 ?_
        simp only [z_r13]
        refine z_isub F dX5_text_107 ?_
        refine hR _ _ _ _ dX5_text_108 rfl ?_
        simp only [o_text, ← hA, ← hZ, hw, Bool.false_eq_true, if_true, if_false, Bool.and_true, Bool.true_and, Bool.and_false, Bool.false_and, Bool.and_self, and_self]
        exact ⟨rfl, z_sm_read D _ _ _ _ _⟩
  
  have loop : ∀ f q, m_inv t (D.1 1 4) q → q.2.2.2 + f = 122 → m_loop (D.1 8) t f q = (m_all (D.1 8) t (D.1 1 4) (D.1 11)) → z_J X SM 33 [some (.ref 0), none, none] [] (z_row (z_row D 11 q.2.2.1) 0 (s_r0 (D.1 0) q.1.1 q.1.2 q.2.2.2 q.2.1)) := by
    intro f
    induction f with
    | zero =>
      intro q hinv hf he
      refine z_aload0 F dX5_text_33 ?_
      refine z_getI F M_isWrong fX5_260 dX5_text_34 ?_
      simp only [z_r17]
      refine z_if_ne F 74 dX5_text_37 (by decide) (fun h37 => ?_) (fun h37 => ?_)
      · have hm : m_more (D.1 8) q = false := by
          simp only [m_more, (z_bn _).mp h37, Bool.and_false, Bool.false_and, Bool.not_true]
        rw [show q = A from by rw [hA, ← he]; rfl]
        exact fin
      · refine z_aload0 F dX5_text_40 ?_
        refine z_getI F M_sort fX5_250 dX5_text_41 ?_
        simp only [z_r15]
        refine z_iconst F 3 dX5_text_44 zv_i_3 ?_
        refine z_ic_ne F 74 dX5_text_45 (by decide) (fun h45 => ?_) (fun h45 => ?_)
        · have hm : m_more (D.1 8) q = false := by
            simp only [m_more, decide_eq_false h45, Bool.and_false, Bool.false_and, Bool.not_true]
          rw [show q = A from by rw [hA, ← he]; rfl]
          exact fin
        · refine z_aload0 F dX5_text_48 ?_
          refine z_getR F M_tape fX5_32 dX5_text_49 ?_
          refine z_aload0 F dX5_text_52 ?_
          refine z_getI F M_begins fX5_241 dX5_text_53 ?_
          simp only [z_r13]
          have hlt := hinv.1.2.2 (by rw [h45]; decide)
          have hle := hinv.1.2.1
          refine z_iald F aM_tape (q.1.1.1) rfl (by omega) dX5_text_56 ?_
          rw [z_rowo _ _ (by decide), z_rowo _ _ (by decide)]
          refine z_bipush F 59 dX5_text_57 zv_b_59 ?_
          refine z_ic_ne F 74 dX5_text_59 (by decide) (fun h59 => ?_) (fun h59 => ?_)
          · have hm : m_more (D.1 8) q = false := by
              simp only [m_more, decide_eq_false h59, Bool.and_false, Bool.false_and, Bool.not_true]
            rw [show q = A from by rw [hA, ← he]; rfl]
            exact fin
          · have hm : m_more (D.1 8) q = true := by
              simp only [m_more, (z_b0 _).mp h37, decide_eq_true h45, decide_eq_true h59]
              rfl
            have hst := m_step_inv hinv hm
            exact absurd hst.2.2.1 (by omega)
    | succ f ih =>
      intro q hinv hf he
      refine z_aload0 F dX5_text_33 ?_
      refine z_getI F M_isWrong fX5_260 dX5_text_34 ?_
      simp only [z_r17]
      refine z_if_ne F 74 dX5_text_37 (by decide) (fun h37 => ?_) (fun h37 => ?_)
      · have hm : m_more (D.1 8) q = false := by
          simp only [m_more, (z_bn _).mp h37, Bool.and_false, Bool.false_and, Bool.not_true]
        rw [m_loop, if_neg (by rw [hm]; decide)] at he
        rw [show q = A from by rw [hA, ← he]]
        exact fin
      · refine z_aload0 F dX5_text_40 ?_
        refine z_getI F M_sort fX5_250 dX5_text_41 ?_
        simp only [z_r15]
        refine z_iconst F 3 dX5_text_44 zv_i_3 ?_
        refine z_ic_ne F 74 dX5_text_45 (by decide) (fun h45 => ?_) (fun h45 => ?_)
        · have hm : m_more (D.1 8) q = false := by
            simp only [m_more, decide_eq_false h45, Bool.and_false, Bool.false_and, Bool.not_true]
          rw [m_loop, if_neg (by rw [hm]; decide)] at he
          rw [show q = A from by rw [hA, ← he]]
          exact fin
        · refine z_aload0 F dX5_text_48 ?_
          refine z_getR F M_tape fX5_32 dX5_text_49 ?_
          refine z_aload0 F dX5_text_52 ?_
          refine z_getI F M_begins fX5_241 dX5_text_53 ?_
          simp only [z_r13]
          have hlt := hinv.1.2.2 (by rw [h45]; decide)
          have hle := hinv.1.2.1
          refine z_iald F aM_tape (q.1.1.1) rfl (by omega) dX5_text_56 ?_
          rw [z_rowo _ _ (by decide), z_rowo _ _ (by decide)]
          refine z_bipush F 59 dX5_text_57 zv_b_59 ?_
          refine z_ic_ne F 74 dX5_text_59 (by decide) (fun h59 => ?_) (fun h59 => ?_)
          · have hm : m_more (D.1 8) q = false := by
              simp only [m_more, decide_eq_false h59, Bool.and_false, Bool.false_and, Bool.not_true]
            rw [m_loop, if_neg (by rw [hm]; decide)] at he
            rw [show q = A from by rw [hA, ← he]]
            exact fin
          · have hm : m_more (D.1 8) q = true := by
              simp only [m_more, (z_b0 _).mp h37, decide_eq_true h45, decide_eq_true h59]
              rfl
            have hst := m_step_inv hinv hm
            refine z_aload0 F dX5_text_62 ?_
            refine z_iconst F 1 dX5_text_63 zv_i_1 ?_
            refine z_callVV1 F (by have h := c5_must (z_row D 11 q.2.2.1) (D.1 0) q.1 q.2.2.2 q.2.1 ht ht120 hinv.1 true; rw [z_rowo _ _ (by decide)] at h; exact h) kX5_267 (by decide) ocM (Nat.le_of_ble_eq_true rfl) rfl dX5_text_64 ?_
            refine z_aload0 F dX5_text_67 ?_
            refine z_callVV0 F (by have h := c5_readItem (z_row D 11 q.2.2.1) (D.1 0) (m_must (D.1 8) t q.1 true) q.2.2.2 q.2.1 ht ht120 (m_must_ok hinv.1).1 (fun j hj => by rw [z_rowo _ _ (by decide)]; exact hko j hj) (by omega); rw [show (z_row D 11 q.2.2.1).1 8 = D.1 8 from z_rowo _ _ (by decide), show (z_row D 11 q.2.2.1).1 11 = q.2.2.1 from z_rowr _ _ _, z_row_row] at h; exact h) kX5_307 (by decide) ocM (Nat.le_of_ble_eq_true rfl) rfl dX5_text_68 ?_
            refine z_goto F 33 dX5_text_71 (by decide) ?_
            exact ih (m_one (D.1 8) t ((m_must (D.1 8) t q.1 true), q.2)) hst.1 (by show q.2.2.2 + 1 + f = 122; omega) (by rw [← he, m_loop, if_pos hm])
  
  refine z_aload0 F dX5_text_0 ?_
  refine z_iconst F 0 dX5_text_1 zv_i_0 ?_
  refine z_putI F M_ends fX5_238 rfl rfl dX5_text_2 ?_
  refine z_aload0 F dX5_text_5 ?_
  refine z_iconst F 0 dX5_text_6 zv_i_0 ?_
  refine z_putI F M_isWrong fX5_260 rfl rfl dX5_text_7 ?_
  refine z_aload0 F dX5_text_10 ?_
  refine z_iconst F 0 dX5_text_11 zv_i_0 ?_
  refine z_putI F M_itemMany fX5_271 rfl rfl dX5_text_12 ?_
  refine z_aload0 F dX5_text_15 ?_
  refine z_aload0 F dX5_text_16 ?_
  refine z_getR F M_now fX5_9 dX5_text_17 ?_
  refine z_iconst F 4 dX5_text_20 zv_i_4 ?_
  refine z_iald F aM_now (4) rfl (by omega) dX5_text_21 ?_
  rw [z_upo _ _ _ (by decide), z_upo _ _ _ (by decide), z_upo _ _ _ (by decide)]
  refine z_putI F M_coinThen fX5_281 rfl rfl dX5_text_22 ?_
  rw [z_r0_in]
  refine z_aload0 F dX5_text_25 ?_
  refine z_callVV0 F (c5_next D (D.1 0) (i_u (D.1 0 13), 0, D.1 0 15, D.1 0 16) false 0 (D.1 1 4) ht ht120 (Nat.zero_le _)) kX5_264 (by decide) ocM (Nat.le_of_ble_eq_true rfl) rfl dX5_text_26 ?_
  refine z_aload0 F dX5_text_29 ?_
  refine z_callVV0 F (c5_readItem D (D.1 0) (s_tok (D.1 8) t 0, false) 0 (D.1 1 4) ht ht120 (s_tok_ok (Nat.zero_le _)).1 hko (by decide)) kX5_307 (by decide) ocM (Nat.le_of_ble_eq_true rfl) rfl dX5_text_30 ?_
  exact loop 121 (m_one (D.1 8) t ((s_tok (D.1 8) t 0, false), D.1 1 4, D.1 11, 0)) (m_first_inv _ _ _ _) rfl rfl
