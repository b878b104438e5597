theorem m_loop_no {τ : Nat → Int32} {t f : Nat} {q : zRs} (h : m_more τ q = false) : m_loop τ t (f + 1) q = q := by
  rw [m_loop, h]
  rfl
theorem m_more_w {τ : Nat → Int32} {q : zRs} (h : q.1.2 = true) : m_more τ q = false := by
  unfold m_more
  rw [h]
  rfl
theorem m_more_s {τ : Nat → Int32} {q : zRs} (h : ¬ (q.1.1.2.2.1 = 3 ∧ τ q.1.1.1 = 59)) : m_more τ q = false := by
  unfold m_more
  cases a : decide (q.1.1.2.2.1 = 3)
  · rw [Bool.and_false, Bool.false_and]
  · cases b : decide (τ q.1.1.1 = 59)
    · rw [Bool.and_false]
    · exact absurd ⟨of_decide_eq_true a, of_decide_eq_true b⟩ h
theorem m_more_y {τ : Nat → Int32} {q : zRs} (h0 : q.1.2 = false) (h : q.1.1.2.2.1 = 3 ∧ τ q.1.1.1 = 59) : m_more τ q = true := by
  unfold m_more
  rw [h0, decide_eq_true h.1, decide_eq_true h.2]
  rfl
set_option maxHeartbeats 1000000 in
set_option maxRecDepth 20000 in
theorem c3_readInto (D : zD) {τ : Nat → Int32} (hτ : D.1 8 = τ) (ρ : Nat → Int32) {t : Nat} (hρ : ρ 12 = nI t) (ht : t ≤ 120) (hby : s_by τ t) (T0 σ ω : Nat → Int32) (b0 e0 : Nat) (so0 v0 : Int32) {N : Nat} (hT0 : T0 4 = nI N) (hN10 : N ≤ 10) (ha0 : ag N T0 σ) : z_CI SX zT yX3_readInto cX3_readInto 4 .int 8 [.ref 40, .ref 2] (z_row (z_row D 2 T0) 0 (s_q0 ρ (b0, e0, so0, v0))) (fun r E => r = (if (m_must τ t (m_all τ t (nI N) ω).1 (decide ((m_all τ t (nI N) ω).1.1.2.2.1 = 0))).2 = true then -1 - nI (m_must τ t (m_all τ t (nI N) ω).1 (decide ((m_all τ t (nI N) ω).1.1.2.2.1 = 0))).1.1 else nI (m_all τ t (nI N) ω).2.2.2) ∧ ∃ kk T2, E = z_row (z_row D 2 T2) 0 (s_q0 ρ kk) ∧ ((m_must τ t (m_all τ t (nI N) ω).1 (decide ((m_all τ t (nI N) ω).1.1.2.2.1 = 0))).2 = false → ∃ N2, N2 ≤ 10 ∧ T2 4 = nI N2 ∧ ag N2 T2 (s_sos σ (m_all τ t (nI N) ω).2.2.1 (m_all τ t (nI N) ω).2.2.2))) := by
  refine z_startI SX_ok (by decide +kernel) (fun v hv => by simp at hv; rcases hv with rfl | rfl <;> rfl) (Nat.le_of_ble_eq_true rfl) (fun X F hR => ?_)
  show z_J X SX 0 [some (.ref 40), some (.ref 2), none, none] [] (z_row (z_row D 2 T0) 0 (s_q0 ρ (b0, e0, so0, v0)))
  have loop : ∀ f m, m + f = 121 → m ≤ 119 → ∀ (k : zTk) (v : Int32) (T ω1 : Nat → Int32) (N1 : Nat) (a3 : Option Value), t_ok t k → m_inv t (nI N) (m_one τ t ((k, false), nI N1, ω1, m)) → m_loop τ t f (m_one τ t ((k, false), nI N1, ω1, m)) = m_all τ t (nI N) ω → T 4 = nI N1 → N1 ≤ 10 → ag N1 T (s_sos σ ω1 m) → z_J X SX 11 [some (.ref 40), some (.ref 2), some (.int (nI (m + 1))), a3] [] (z_row (z_row D 2 T) 0 (s_q0 ρ (x_of τ v k))) := by
    intro f
    induction f with
    | zero =>
      intro m hm hm1
      exact absurd hm (by omega)
    | succ f ih =>
      intro m hm hm1 k v T ω1 N1 a3 hk hinv he hT h10 ha
      obtain ⟨rd, hrd⟩ : ∃ rd, rd = m_read τ t (k, false) (nI N1) := ⟨_, rfl⟩
      have tail : ∀ (v1 : Int32) (T1 : Nat → Int32), (rd.2.2 = false → T1 = s_so T rd.1) → z_J X SX 56 [some (.ref 40), some (.ref 2), some (.int (nI (m + 1))), a3] [.int (z_b (!rd.2.2))] (z_row (z_row D 2 T1) 0 (s_q0 ρ (x_of τ v1 rd.2.1))) := by
        intro v1 T1 hT1
        refine z_istore3 F dX3_readInto_56 rfl ?_
        refine z_iload3 F dX3_readInto_57 ?_
        refine z_ifb_ne F 68 dX3_readInto_58 (by decide) (fun h58 => ?_) (fun h58 => ?_)
        · have hwf : rd.2.2 = false := by simpa using h58
          obtain ⟨_, hlt, hio, hth⟩ := m_read_w (s := (k, false)) (c := nI N1) hk (by rw [← hrd]; exact hwf)
          rw [← hrd] at hlt hio
          obtain ⟨N2, hN2, h4, hag, hthen⟩ := s_so_ag h10 ha hT hio
          rw [← hT1 hwf] at h4 hag
          have hth2 : m_then τ (k, false) (nI N1) = nI N2 := by rw [hth, ← hrd]; exact hthen
          have hag2 : ag N2 T1 (s_sos σ (s_item ω1 m rd.1) (m + 1)) := by rw [s_sos_1]; exact hag
          refine z_aload0 F dX3_readInto_68 ?_
          refine z_getI F T_sort fX3_25 dX3_readInto_69 ?_
          rw [z_g15]
          refine z_if_ne F 77 dX3_readInto_72 (by decide) (fun h72 => ?_) (fun h72 => ?_)
          · have hs0 : ¬ rd.2.1.2.2.1 = 0 := fun z => h72 (x_so0.mpr z)
            refine z_aload0 F dX3_readInto_77 ?_
            refine z_getI F T_sort fX3_25 dX3_readInto_78 ?_
            rw [z_g15]
            refine z_iconst F 3 dX3_readInto_81 zv_i_3 ?_
            refine z_ic_eq F 92 dX3_readInto_82 (by decide) (fun h82 => ?_) (fun h82 => ?_)
            · have hs3 := x_so3.mp h82
              have hmo : m_more τ (m_one τ t ((k, false), nI N1, ω1, m)) = true := m_more_y (by show (m_read τ t (k, false) (nI N1)).2.2 = false; rw [← hrd]; exact hwf) (by rw [show (m_one τ t ((k, false), nI N1, ω1, m)).1 = rd.2 by rw [hrd]; rfl]; exact hs3)
              obtain ⟨i1, i2, i3, i4⟩ := m_step_inv hinv hmo
              have hq : (m_must τ t (m_one τ t ((k, false), nI N1, ω1, m)).1 true, (m_one τ t ((k, false), nI N1, ω1, m)).2) = ((s_tok τ t rd.2.1.2.1, false), nI N2, s_item ω1 m rd.1, m + 1) := by
                rw [show (m_one τ t ((k, false), nI N1, ω1, m)).1 = (rd.2.1, false) by rw [← s_pair hwf, hrd]; rfl, m_must_f, show (m_one τ t ((k, false), nI N1, ω1, m)).2 = (nI N2, s_item ω1 m rd.1, m + 1) by rw [← hth2, hrd]; rfl]
                rfl
              rw [hq] at i1
              have hk2 : t_ok t rd.2.1 := by rw [hrd]; exact (m_read_ok hk).1
              have hb : m + 1 ≤ 119 := by
                have a : m + 1 ≤ (m_one τ t ((k, false), nI N1, ω1, m)).1.1.1 := i4
                omega
              refine z_aload0 F dX3_readInto_92 ?_
              refine z_callVV0p F (c3_next (z_row D 2 T1) (by rw [z_rowo _ _ (by decide)]; exact hτ) ρ hρ ht hby (x_of τ v1 rd.2.1) hk2.2.1) kX3_31 (by decide) ocT (Nat.le_of_ble_eq_true rfl) rfl dX3_readInto_93 (fun E hE => ?_)
              refine z_iinc2 F 1 dX3_readInto_96 rfl zv_i_1 ?_
              refine z_goto F 11 dX3_readInto_99 (by decide) ?_
              obtain ⟨v2, rfl⟩ := hE
              rw [← nI_succ]
              exact ih (m + 1) (by omega) hb (s_tok τ t rd.2.1.2.1) v2 T1 (s_item ω1 m rd.1) N2 _ (s_tok_ok hk2.2.1).1 i1 (by rw [← he, m_loop, hmo, if_pos rfl, hq]) h4 hN2 hag2
            · have hs3 : ¬ (rd.2.1.2.2.1 = 3 ∧ τ rd.2.1.1 = 59) := fun z => h82 (x_so3.mpr z)
              have hmo : m_more τ (m_one τ t ((k, false), nI N1, ω1, m)) = false := m_more_s (by rw [show (m_one τ t ((k, false), nI N1, ω1, m)).1 = rd.2 by rw [hrd]; rfl]; exact hs3)
              have hA : m_all τ t (nI N) ω = m_one τ t ((k, false), nI N1, ω1, m) := by rw [← he]; exact m_loop_no hmo
              have hW : m_must τ t (m_all τ t (nI N) ω).1 (decide ((m_all τ t (nI N) ω).1.1.2.2.1 = 0)) = (rd.2.1, true) := by rw [hA]; show m_must τ t (m_read τ t (k, false) (nI N1)).2 (decide ((m_read τ t (k, false) (nI N1)).2.1.2.2.1 = 0)) = _; rw [← hrd, decide_eq_false hs0, s_pair hwf, m_must_f]; rfl
              refine z_iconst F (-1) dX3_readInto_85 zv_i_m1 ?_
              refine z_aload0 F dX3_readInto_86 ?_
              refine z_getI F T_begin fX3_19 dX3_readInto_87 ?_
              rw [z_g13]
              refine z_isub F dX3_readInto_90 ?_
              refine hR _ _ _ _ dX3_readInto_91 rfl ?_
              refine ⟨?_, _, T1, rfl, fun z => ?_⟩
              · rw [hW, if_pos rfl]; rfl
              · rw [hW] at z; cases z
          · have hs0 : rd.2.1.2.2.1 = 0 := x_so0.mp h72
            have hmo : m_more τ (m_one τ t ((k, false), nI N1, ω1, m)) = false := m_more_s (fun z => by
              have z1 := z.1
              rw [show (m_one τ t ((k, false), nI N1, ω1, m)).1 = rd.2 by rw [hrd]; rfl, hs0] at z1
              exact absurd z1 (by decide))
            have hA : m_all τ t (nI N) ω = m_one τ t ((k, false), nI N1, ω1, m) := by rw [← he]; exact m_loop_no hmo
            have hW : (m_must τ t (m_all τ t (nI N) ω).1 (decide ((m_all τ t (nI N) ω).1.1.2.2.1 = 0))).2 = false := by rw [hA]; show (m_must τ t (m_read τ t (k, false) (nI N1)).2 (decide ((m_read τ t (k, false) (nI N1)).2.1.2.2.1 = 0))).2 = false; rw [← hrd, s_pair hwf, m_must_f]; show (if decide (rd.2.1.2.2.1 = 0) = true then _ else _ : zRd).2 = false; rw [hs0]; rfl
            refine z_iload2 F dX3_readInto_75 ?_
            refine hR _ _ _ _ dX3_readInto_76 rfl ?_
            refine ⟨?_, _, T1, rfl, fun _ => ⟨N2, hN2, h4, ?_⟩⟩
            · rw [hW, if_neg (by decide), hA]; rfl
            · rw [hA]; show ag N2 T1 (s_sos σ (s_item ω1 m (m_read τ t (k, false) (nI N1)).1) (m + 1)); rw [← hrd]; exact hag2
        · have hw : rd.2.2 = true := by simpa using h58
          have hmo : m_more τ (m_one τ t ((k, false), nI N1, ω1, m)) = false := m_more_w (by show (m_read τ t (k, false) (nI N1)).2.2 = true; rw [← hrd]; exact hw)
          have hA : m_all τ t (nI N) ω = m_one τ t ((k, false), nI N1, ω1, m) := by rw [← he]; exact m_loop_no hmo
          have hW : m_must τ t (m_all τ t (nI N) ω).1 (decide ((m_all τ t (nI N) ω).1.1.2.2.1 = 0)) = rd.2 := by rw [hA]; show m_must τ t (m_read τ t (k, false) (nI N1)).2 _ = _; rw [← hrd]; exact m_must_t hw
          refine z_iconst F (-1) dX3_readInto_61 zv_i_m1 ?_
          refine z_aload0 F dX3_readInto_62 ?_
          refine z_getI F T_begin fX3_19 dX3_readInto_63 ?_
          rw [z_g13]
          refine z_isub F dX3_readInto_66 ?_
          refine hR _ _ _ _ dX3_readInto_67 rfl ?_
          refine ⟨?_, _, T1, rfl, fun z => ?_⟩
          · rw [hW, if_pos hw]; rfl
          · rw [hW, hw] at z; cases z
      by_cases hkd : m_kd τ k 7 < 0
      · cases h0 : s_isw τ k 0 with
        | true =>
          have er : rd = m_hole τ t (k, false) := by rw [hrd, m_read, if_pos hkd, if_pos (show m_isn τ (k, false) 0 = true by unfold m_isn; rw [h0]; rfl)]
          have em : m_next τ t (k, false) 0 = (s_tok τ t k.2.1, false) := by rw [m_next_f, h0]; rfl
          have er2 : rd.2 = m_num τ t (s_tok τ t k.2.1, false) 0 99 := by rw [er, m_hole, em]
          have er1 : rd.1 = (10, (s_tok τ t k.2.1).2.2.2, 0, 0, 0) := by rw [er, m_hole, em]
          refine z_iload2 F dX3_readInto_11 ?_
          refine z_bipush F 120 dX3_readInto_12 zv_b_120 ?_
          refine z_ic_gt F 102 dX3_readInto_14 (by decide) (fun h14 => ?_) (fun h14 => ?_)
          · exact absurd h14 (nI_nlt (a := 120) (b := m + 1) (by omega) (by omega))
          · refine z_aload0 F dX3_readInto_17 ?_
            refine z_ldcS F sT_0 dX3_readInto_18 ?_
            refine z_callVI1p F (c3_takes (z_row D 2 T) (by rw [z_rowo _ _ (by decide)]; exact hτ) ρ hρ ht hby v k hk (i := 0) (by decide)) kX3_36 (by decide) ocT (Nat.le_of_ble_eq_true rfl) rfl dX3_readInto_20 (fun r E hE => ?_)
            obtain ⟨rfl, v2, rfl⟩ := hE
            rw [m_next_f, h0, show ((if true = true then s_tok τ t k.2.1 else k), false).1 = s_tok τ t k.2.1 from rfl]
            refine z_ifb_eq F 34 dX3_readInto_23 (by decide) (fun h23 => ?_) (fun h23 => ?_)
            · cases h23
            · refine z_aload0 F dX3_readInto_26 ?_
              refine z_aload1 F dX3_readInto_27 ?_
              refine z_callVI1p F (c3_hole D hτ ρ hρ ht hby T v2 (s_tok τ t k.2.1) (s_tok_ok hk.2.1).1) kX3_40 (by decide) ocT (Nat.le_of_ble_eq_true rfl) rfl dX3_readInto_28 (fun r E hE => ?_)
              refine z_goto F 56 dX3_readInto_31 (by decide) ?_
              obtain ⟨rfl, v5, T5, rfl, hT5⟩ := hE
              rw [← er2]
              rw [← er2] at hT5
              exact tail v5 T5 (fun z => by rw [hT5 z, s_so, er1, if_pos rfl])
        | false =>
          cases h1 : s_isw τ k 1 with
          | true =>
            have er : rd = m_gap τ t (k, false) := by rw [hrd, m_read, if_pos hkd, if_neg (show ¬ m_isn τ (k, false) 0 = true by unfold m_isn; rw [h0]; simp)]
            have em : m_must τ t (k, false) (s_isw τ (k, false).1 1) = (s_tok τ t k.2.1, false) := by rw [m_must_f]; show (if s_isw τ k 1 = true then _ else _) = _; rw [h1]; rfl
            have er2 : rd.2 = m_num τ t (m_must τ t (m_num τ t (s_tok τ t k.2.1, false) 0 99) (s_isw τ (m_num τ t (s_tok τ t k.2.1, false) 0 99).1 2)) 0 7 := by rw [er, m_gap, em]
            have er1 : rd.1 = (11, (s_tok τ t k.2.1).2.2.2, (m_must τ t (m_num τ t (s_tok τ t k.2.1, false) 0 99) (s_isw τ (m_num τ t (s_tok τ t k.2.1, false) 0 99).1 2)).1.2.2.2, 0, 0) := by rw [er, m_gap, em]
            refine z_iload2 F dX3_readInto_11 ?_
            refine z_bipush F 120 dX3_readInto_12 zv_b_120 ?_
            refine z_ic_gt F 102 dX3_readInto_14 (by decide) (fun h14 => ?_) (fun h14 => ?_)
            · exact absurd h14 (nI_nlt (a := 120) (b := m + 1) (by omega) (by omega))
            · refine z_aload0 F dX3_readInto_17 ?_
              refine z_ldcS F sT_0 dX3_readInto_18 ?_
              refine z_callVI1p F (c3_takes (z_row D 2 T) (by rw [z_rowo _ _ (by decide)]; exact hτ) ρ hρ ht hby v k hk (i := 0) (by decide)) kX3_36 (by decide) ocT (Nat.le_of_ble_eq_true rfl) rfl dX3_readInto_20 (fun r E hE => ?_)
              obtain ⟨rfl, v2, rfl⟩ := hE
              rw [m_next_f, h0, show ((if false = true then s_tok τ t k.2.1 else k), false).1 = k from rfl]
              refine z_ifb_eq F 34 dX3_readInto_23 (by decide) (fun h23 => ?_) (fun h23 => ?_)
              · refine z_aload0 F dX3_readInto_34 ?_
                refine z_ldcS F sT_1 dX3_readInto_35 ?_
                refine z_callVI1p F (c3_takes (z_row D 2 T) (by rw [z_rowo _ _ (by decide)]; exact hτ) ρ hρ ht hby v2 k hk (i := 1) (by decide)) kX3_36 (by decide) ocT (Nat.le_of_ble_eq_true rfl) rfl dX3_readInto_37 (fun r E hE => ?_)
                obtain ⟨rfl, v3, rfl⟩ := hE
                rw [m_next_f, h1, show ((if true = true then s_tok τ t k.2.1 else k), false).1 = s_tok τ t k.2.1 from rfl]
                refine z_ifb_eq F 51 dX3_readInto_40 (by decide) (fun h40 => ?_) (fun h40 => ?_)
                · cases h40
                · refine z_aload0 F dX3_readInto_43 ?_
                  refine z_aload1 F dX3_readInto_44 ?_
                  refine z_callVI1p F (c3_gap D hτ ρ hρ ht hby T v3 (s_tok τ t k.2.1) (s_tok_ok hk.2.1).1) kX3_46 (by decide) ocT (Nat.le_of_ble_eq_true rfl) rfl dX3_readInto_45 (fun r E hE => ?_)
                  refine z_goto F 56 dX3_readInto_48 (by decide) ?_
                  obtain ⟨rfl, v5, T5, rfl, hT5⟩ := hE
                  rw [← er2]
                  rw [← er2] at hT5
                  exact tail v5 T5 (fun z => by rw [hT5 z, s_so, er1, if_neg (show ¬ (11 : Int32) = 10 by decide), if_pos rfl])
              · cases h23
          | false =>
            have er : rd = m_gap τ t (k, false) := by rw [hrd, m_read, if_pos hkd, if_neg (show ¬ m_isn τ (k, false) 0 = true by unfold m_isn; rw [h0]; simp)]
            have em : m_must τ t (k, false) (s_isw τ (k, false).1 1) = (k, true) := by rw [m_must_f]; show (if s_isw τ k 1 = true then _ else _) = _; rw [h1]; rfl
            have er2 : rd.2 = (k, true) := by
              rw [er, m_gap, em]
              show m_num τ t (m_must τ t (m_num τ t (k, true) 0 99) _) 0 7 = (k, true)
              rw [m_num_t (s := (k, true)) rfl, m_must_t (s := (k, true)) rfl, m_num_t (s := (k, true)) rfl]
            refine z_iload2 F dX3_readInto_11 ?_
            refine z_bipush F 120 dX3_readInto_12 zv_b_120 ?_
            refine z_ic_gt F 102 dX3_readInto_14 (by decide) (fun h14 => ?_) (fun h14 => ?_)
            · exact absurd h14 (nI_nlt (a := 120) (b := m + 1) (by omega) (by omega))
            · refine z_aload0 F dX3_readInto_17 ?_
              refine z_ldcS F sT_0 dX3_readInto_18 ?_
              refine z_callVI1p F (c3_takes (z_row D 2 T) (by rw [z_rowo _ _ (by decide)]; exact hτ) ρ hρ ht hby v k hk (i := 0) (by decide)) kX3_36 (by decide) ocT (Nat.le_of_ble_eq_true rfl) rfl dX3_readInto_20 (fun r E hE => ?_)
              obtain ⟨rfl, v2, rfl⟩ := hE
              rw [m_next_f, h0, show ((if false = true then s_tok τ t k.2.1 else k), false).1 = k from rfl]
              refine z_ifb_eq F 34 dX3_readInto_23 (by decide) (fun h23 => ?_) (fun h23 => ?_)
              · refine z_aload0 F dX3_readInto_34 ?_
                refine z_ldcS F sT_1 dX3_readInto_35 ?_
                refine z_callVI1p F (c3_takes (z_row D 2 T) (by rw [z_rowo _ _ (by decide)]; exact hτ) ρ hρ ht hby v2 k hk (i := 1) (by decide)) kX3_36 (by decide) ocT (Nat.le_of_ble_eq_true rfl) rfl dX3_readInto_37 (fun r E hE => ?_)
                obtain ⟨rfl, v3, rfl⟩ := hE
                rw [m_next_f, h1, show ((if false = true then s_tok τ t k.2.1 else k), false).1 = k from rfl]
                refine z_ifb_eq F 51 dX3_readInto_40 (by decide) (fun h40 => ?_) (fun h40 => ?_)
                · refine z_aload0 F dX3_readInto_51 ?_
                  refine z_aload1 F dX3_readInto_52 ?_
                  refine z_callVI1 F (c3_coinN D hτ ρ hρ ht hby T v3 k hk hkd) kX3_49 (by decide) ocT (Nat.le_of_ble_eq_true rfl) rfl dX3_readInto_53 ?_
                  have h := tail v3 T (fun z => by rw [er2] at z; cases z)
                  rw [er2] at h
                  exact h
                · cases h40
              · cases h23
      · have h0 : s_isw τ k 0 = false := by
          cases z : s_isw τ k 0
          · rfl
          · exact absurd (by rw [m_kd_w (by decide) z]; decide) hkd
        have h1 : s_isw τ k 1 = false := by
          cases z : s_isw τ k 1
          · rfl
          · exact absurd (by rw [m_kd_w (by decide) z]; decide) hkd
        have er : rd = m_coin τ t (k, false) (m_kd τ k 7) (nI N1) := by rw [hrd, m_read, if_neg hkd]
        have hk7 := (m_kd_7 hkd).1
        refine z_iload2 F dX3_readInto_11 ?_
        refine z_bipush F 120 dX3_readInto_12 zv_b_120 ?_
        refine z_ic_gt F 102 dX3_readInto_14 (by decide) (fun h14 => ?_) (fun h14 => ?_)
        · exact absurd h14 (nI_nlt (a := 120) (b := m + 1) (by omega) (by omega))
        · refine z_aload0 F dX3_readInto_17 ?_
          refine z_ldcS F sT_0 dX3_readInto_18 ?_
          refine z_callVI1p F (c3_takes (z_row D 2 T) (by rw [z_rowo _ _ (by decide)]; exact hτ) ρ hρ ht hby v k hk (i := 0) (by decide)) kX3_36 (by decide) ocT (Nat.le_of_ble_eq_true rfl) rfl dX3_readInto_20 (fun r E hE => ?_)
          obtain ⟨rfl, v2, rfl⟩ := hE
          rw [m_next_f, h0, show ((if false = true then s_tok τ t k.2.1 else k), false).1 = k from rfl]
          refine z_ifb_eq F 34 dX3_readInto_23 (by decide) (fun h23 => ?_) (fun h23 => ?_)
          · refine z_aload0 F dX3_readInto_34 ?_
            refine z_ldcS F sT_1 dX3_readInto_35 ?_
            refine z_callVI1p F (c3_takes (z_row D 2 T) (by rw [z_rowo _ _ (by decide)]; exact hτ) ρ hρ ht hby v2 k hk (i := 1) (by decide)) kX3_36 (by decide) ocT (Nat.le_of_ble_eq_true rfl) rfl dX3_readInto_37 (fun r E hE => ?_)
            obtain ⟨rfl, v3, rfl⟩ := hE
            rw [m_next_f, h1, show ((if false = true then s_tok τ t k.2.1 else k), false).1 = k from rfl]
            refine z_ifb_eq F 51 dX3_readInto_40 (by decide) (fun h40 => ?_) (fun h40 => ?_)
            · refine z_aload0 F dX3_readInto_51 ?_
              refine z_aload1 F dX3_readInto_52 ?_
              refine z_callVI1p F (c3_coinY D hτ ρ hρ ht hby T v3 k hk hT h10 hkd) kX3_49 (by decide) ocT (Nat.le_of_ble_eq_true rfl) rfl dX3_readInto_53 (fun r E hE => ?_)
              obtain ⟨rfl, v5, T5, rfl, hT5⟩ := hE
              rw [← er]
              rw [← er] at hT5
              exact tail v5 T5 (fun z => by
                rw [hT5 z, s_so]
                have hr1 : rd.1.1 = m_kd τ k 7 := by rw [er]; rfl
                obtain ⟨j, hj, ej⟩ := b_in0 6 (by decide) hk7
                rw [if_neg (by rw [hr1, ej]; intro e; have := (nI_eq (a := j) (b := 10) (by omega) (by decide)).mp e; omega), if_neg (by rw [hr1, ej]; intro e; have := (nI_eq (a := j) (b := 11) (by omega) (by decide)).mp e; omega), hT, i_n_n (by omega)])
            · cases h40
          · cases h23
  
  refine z_aload0 F dX3_readInto_0 ?_
  refine z_iconst F 0 dX3_readInto_1 zv_i_0 ?_
  refine z_putI F T_end fX3_22 rfl rfl dX3_readInto_2 ?_
  rw [show (0 : Int32) = nI 0 from rfl, z_h14]
  refine z_aload0 F dX3_readInto_5 ?_
  refine z_callVV0p F (c3_next (z_row D 2 T0) (by rw [z_rowo _ _ (by decide)]; exact hτ) ρ hρ ht hby (b0, 0, so0, v0) (Nat.zero_le t)) kX3_31 (by decide) ocT (Nat.le_of_ble_eq_true rfl) rfl dX3_readInto_6 (fun E hE => ?_)
  refine z_iconst F 1 dX3_readInto_9 zv_i_1 ?_
  refine z_istore2 F dX3_readInto_10 rfl ?_
  obtain ⟨v2, rfl⟩ := hE
  exact loop 121 0 rfl (by decide) (s_tok τ t 0) v2 T0 ω N none (s_tok_ok (Nat.zero_le t)).1 (m_first_inv τ t (nI N) ω) rfl hT0 hN10 ha0
