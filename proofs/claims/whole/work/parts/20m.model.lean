theorem i_lneg (p : Nat) (h : p < 2 ^ 31) : (-1 : Int32) < nI p := by
  rw [Int32.lt_iff_toInt_lt, nI_toInt h, show (-1 : Int32).toInt = -1 by decide]
  omega
set_option maxHeartbeats 1000000 in
set_option maxRecDepth 20000 in
theorem c5_sums (D : zD) {N : Nat} (hN : D.1 1 4 = nI N) (h10 : N ≤ 10) (hpen : ∀ c, c < N → ∃ p, p ≤ 240 ∧ D.1 1 (16 + 8 * c + 3) = nI p) : z_CI SM zT yX5_sums cX5_sums 4 .int 4 [.ref 0] D (z_qM D (o_sums (D.1 1) N)) := by
  refine z_startI SM_ok (by decide +kernel) (fun v hv => by simp at hv; subst hv; rfl) (Nat.le_of_ble_eq_true rfl) (fun X F hR => ?_)
  show z_J X SM 0 [some (.ref 0), none, none, none] [] D
  have lneg := i_lneg
  have cnt : ∀ (n c : Nat), c + n = 2401 → ∀ (a3 : Option Value), z_J X SM 114 [some (.ref 0), some (.int (nI (p_tally (s_sums (D.1 1) N) c))), some (.int (nI c)), a3] [] (z_row D 7 (fun s => if s < 2401 then z_b (s_sums (D.1 1) N s) else D.1 7 s)) := by
    intro n
    induction n with
    | zero =>
      intro c hn a3 
      refine z_iload2 F dX5_sums_114 ?_
      refine z_sipush F 2400 dX5_sums_115 zv_s_2400 ?_
      refine z_ic_gt F 144 dX5_sums_118 (by decide) (fun h118 => ?_) (fun h118 => ?_)
      · refine z_iload1 F dX5_sums_144 ?_
        refine hR _ _ _ _ dX5_sums_145 rfl ?_
        rw [show c = 2401 by omega]
        exact ⟨rfl, z_sm_row D _ (Or.inr (Or.inl rfl))⟩
      · exact absurd (nI_lt (a := 2400) (b := c) (by omega) (by omega)) h118
    | succ n ih =>
      intro c hn a3 
      refine z_iload2 F dX5_sums_114 ?_
      refine z_sipush F 2400 dX5_sums_115 zv_s_2400 ?_
      refine z_ic_gt F 144 dX5_sums_118 (by decide) (fun h118 => ?_) (fun h118 => ?_)
      · exact absurd h118 (nI_nlt (a := 2400) (b := c) (by omega) (by omega))
      · refine z_iload1 F dX5_sums_121 ?_
        refine z_aload0 F dX5_sums_122 ?_
        refine z_getR F M_summed fX5_28 dX5_sums_123 ?_
        refine z_iload2 F dX5_sums_126 ?_
        refine z_bald F aM_summed (c) rfl (by omega) dX5_sums_127 ?_
        rw [z_rowr, if_pos (show c < 2401 by omega)]
        refine z_if_eq F 135 dX5_sums_128 (by decide) (fun h128 => ?_) (fun h128 => ?_)
        · refine z_iconst F 0 dX5_sums_135 zv_i_0 ?_
          refine z_iadd F dX5_sums_136 ?_
          refine z_istore1 F dX5_sums_137 rfl ?_
          refine z_iinc2 F 1 dX5_sums_138 rfl zv_i_1 ?_
          refine z_goto F 114 dX5_sums_141 (by decide) ?_
          have h := ih (c + 1) (by omega)
          rw [show nI (c + 1) = nI c + 1 from nI_succ c, p_tally, if_neg (by rw [(z_b0 _).mp h128]; decide)] at h
          rw [i_add0]
          exact h _
        · refine z_iconst F 1 dX5_sums_131 zv_i_1 ?_
          refine z_goto F 136 dX5_sums_132 (by decide) ?_
          refine z_iadd F dX5_sums_136 ?_
          refine z_istore1 F dX5_sums_137 rfl ?_
          refine z_iinc2 F 1 dX5_sums_138 rfl zv_i_1 ?_
          refine z_goto F 114 dX5_sums_141 (by decide) ?_
          have h := ih (c + 1) (by omega)
          rw [show nI (c + 1) = nI c + 1 from nI_succ c, p_tally, if_pos ((z_bn _).mp h128), nI_succ] at h
          exact h _
  
  have loop : ∀ (n c : Nat), c + n = N → ∀ (a2 a3 : Option Value), z_J X SM 32 [some (.ref 0), some (.int (nI c)), a2, a3] [] (z_row D 7 (fun s => if s < 2401 then z_b (s_sums (D.1 1) c s) else D.1 7 s)) := by
    intro n
    induction n with
    | zero =>
      intro c hn a2 a3
      refine z_iload1 F dX5_sums_32 ?_
      refine z_aload0 F dX5_sums_33 ?_
      refine z_getR F M_now fX5_9 dX5_sums_34 ?_
      refine z_iconst F 4 dX5_sums_37 zv_i_4 ?_
      refine z_iald F aM_now (4) rfl (by omega) dX5_sums_38 ?_
      refine z_ic_ge F 110 dX5_sums_39 (by decide) (fun h39 => ?_) (fun h39 => ?_)
      · rw [show c = N by omega]
        refine z_iconst F 0 dX5_sums_110 zv_i_0 ?_
        refine z_istore1 F dX5_sums_111 rfl ?_
        refine z_iconst F 0 dX5_sums_112 zv_i_0 ?_
        refine z_istore2 F dX5_sums_113 rfl ?_
        exact cnt 2401 0 (by omega) _
      · exact absurd (by rw [z_rowo _ _ (by decide), hN]; exact nI_le (by omega) (by omega)) h39
    | succ n ih =>
      intro c hn a2 a3
      refine z_iload1 F dX5_sums_32 ?_
      refine z_aload0 F dX5_sums_33 ?_
      refine z_getR F M_now fX5_9 dX5_sums_34 ?_
      refine z_iconst F 4 dX5_sums_37 zv_i_4 ?_
      refine z_iald F aM_now (4) rfl (by omega) dX5_sums_38 ?_
      refine z_ic_ge F 110 dX5_sums_39 (by decide) (fun h39 => ?_) (fun h39 => ?_)
      · exact absurd h39 (by rw [z_rowo _ _ (by decide), hN]; exact nI_ge (by omega) (by omega))
      · obtain ⟨p, hp240, hp⟩ := hpen c (by omega)
        refine z_aload0 F dX5_sums_42 ?_
        refine z_iload1 F dX5_sums_43 ?_
        refine z_iconst F 3 dX5_sums_44 zv_i_3 ?_
        refine z_callVI2 F (c5_coinIs _ c 3 (by omega) (by decide)) kX5_105 (by decide) ocM (Nat.le_of_ble_eq_true rfl) rfl dX5_sums_45 ?_
        rw [z_rowo _ _ (by decide), hp]
        refine z_istore2 F dX5_sums_48 rfl ?_
        refine z_sipush F 2400 dX5_sums_49 zv_s_2400 ?_
        refine z_istore3 F dX5_sums_52 rfl ?_
        by_cases hpl : D.1 1 (16 + 8 * c + 4) = 0
        · have fin : ∀ k, k ≤ p → z_J X SM 104 [some (.ref 0), some (.int (nI c)), some (.int (nI p)), some (.int (nI k + (-1)))] [] (z_row D 7 (fun s => if s < 2401 then z_b (s_mix (D.1 1) c k s) else D.1 7 s)) := by
            intro k hk
            have e : s_mix (D.1 1) c k = s_sums (D.1 1) (c + 1) := by
              funext s
              rw [s_mix]
              by_cases g : k ≤ s
              · rw [if_pos g]
              · rw [if_neg g, s_sums_in _ hpl hp (by omega), decide_eq_false (by omega)]; simp
            rw [e]
            refine z_iinc1 F 1 dX5_sums_104 rfl zv_i_1 ?_
            refine z_goto F 32 dX5_sums_107 (by decide) ?_
            have h := ih (c + 1) (by omega) (some (.int (nI p))) (some (.int (nI k + (-1))))
            rw [show nI (c + 1) = nI c + 1 from nI_succ c] at h
            exact h
          have inn : ∀ k, k ≤ 2401 → z_J X SM 53 [some (.ref 0), some (.int (nI c)), some (.int (nI p)), some (.int (nI k + (-1)))] [] (z_row D 7 (fun s => if s < 2401 then z_b (s_mix (D.1 1) c k s) else D.1 7 s)) := by
            intro k
            induction k with
            | zero =>
              intro hk
              refine z_iload3 F dX5_sums_53 ?_
              refine z_iload2 F dX5_sums_54 ?_
              refine z_ic_lt F 104 dX5_sums_55 (by decide) (fun h55 => ?_) (fun h55 => ?_)
              · exact fin 0 (Nat.zero_le _)
              · exact absurd (show (nI 0 + (-1) : Int32) < nI p from by rw [show nI 0 + (-1) = (-1 : Int32) by decide]; exact lneg p (by omega)) h55
            | succ k ih =>
              intro hk
              rw [pk_m1]
              refine z_iload3 F dX5_sums_53 ?_
              refine z_iload2 F dX5_sums_54 ?_
              refine z_ic_lt F 104 dX5_sums_55 (by decide) (fun h55 => ?_) (fun h55 => ?_)
              · have hkp : k < p := (nI_ltI (by omega) (by omega)).mp h55
                rw [← pk_m1 k]
                exact fin (k + 1) (by omega)
              · have hkp : p ≤ k := Nat.le_of_not_lt (fun z => h55 (nI_lt z (by omega)))
                refine z_aload0 F dX5_sums_58 ?_
                refine z_iload1 F dX5_sums_59 ?_
                refine z_iconst F 0 dX5_sums_60 zv_i_0 ?_
                refine z_callVI2 F (c5_isIn _ c _ (by omega)) kX5_135 (by decide) ocM (Nat.le_of_ble_eq_true rfl) rfl dX5_sums_61 ?_
                rw [z_rowo _ _ (by decide)]
                refine z_ifb_eq F 104 dX5_sums_64 (by decide) (fun h64 => ?_) (fun h64 => ?_)
                · exact absurd hpl (of_decide_eq_false h64)
                · refine z_aload0 F dX5_sums_67 ?_
                  refine z_getR F M_summed fX5_28 dX5_sums_68 ?_
                  refine z_iload3 F dX5_sums_71 ?_
                  refine z_aload0 F dX5_sums_72 ?_
                  refine z_getR F M_summed fX5_28 dX5_sums_73 ?_
                  refine z_iload3 F dX5_sums_76 ?_
                  refine z_bald F aM_summed (k) rfl (by omega) dX5_sums_77 ?_
                  rw [z_rowr, if_pos (show k < 2401 by omega), show s_mix (D.1 1) c (k + 1) k = s_sums (D.1 1) c k from if_neg (by omega)]
                  refine z_if_ne F 92 dX5_sums_78 (by decide) (fun h78 => ?_) (fun h78 => ?_)
                  · refine z_iconst F 1 dX5_sums_92 zv_i_1 ?_
                    refine z_goto F 97 dX5_sums_93 (by decide) ?_
                    refine z_bast F aM_summed (k) rfl (by omega) rfl dX5_sums_97 ?_
                    refine z_iinc3 F (-1) dX5_sums_98 rfl zv_i_m1 ?_
                    refine z_goto F 53 dX5_sums_101 (by decide) ?_
                    rw [show (1 : Int32) = z_b true from rfl, z_row_up, u_bit _ _ _ (show k < 2401 by omega)]
                    have e : (fun s => if s = k then true else s_mix (D.1 1) c (k + 1) s) = s_mix (D.1 1) c k := by
                      funext s
                      by_cases e : s = k
                      · subst e
                        rw [if_pos rfl, s_mix, if_pos (Nat.le_refl _), s_sums_in _ hpl hp (by omega)]
                        rw [(z_bn _).mp h78]; rfl
                      · rw [if_neg e, s_mix, s_mix]
                        by_cases g : k ≤ s
                        · rw [if_pos g, if_pos (by omega)]
                        · rw [if_neg g, if_neg (by omega)]
                    have h := ih (by omega)
                    rw [← e] at h
                    exact h
                  · refine z_aload0 F dX5_sums_81 ?_
                    refine z_getR F M_summed fX5_28 dX5_sums_82 ?_
                    refine z_iload3 F dX5_sums_85 ?_
                    refine z_iload2 F dX5_sums_86 ?_
                    refine z_isub F dX5_sums_87 ?_
                    refine z_bald F aM_summed (k - p) (pk_sub hkp) (by omega) dX5_sums_88 ?_
                    rw [z_rowr, if_pos (show k - p < 2401 by omega), show s_mix (D.1 1) c (k + 1) (k - p) = s_sums (D.1 1) c (k - p) from if_neg (by omega)]
                    refine z_if_eq F 96 dX5_sums_89 (by decide) (fun h89 => ?_) (fun h89 => ?_)
                    · refine z_iconst F 0 dX5_sums_96 zv_i_0 ?_
                      refine z_bast F aM_summed (k) rfl (by omega) rfl dX5_sums_97 ?_
                      refine z_iinc3 F (-1) dX5_sums_98 rfl zv_i_m1 ?_
                      refine z_goto F 53 dX5_sums_101 (by decide) ?_
                      rw [show (0 : Int32) = z_b false from rfl, z_row_up, u_bit _ _ _ (show k < 2401 by omega)]
                      have e : (fun s => if s = k then false else s_mix (D.1 1) c (k + 1) s) = s_mix (D.1 1) c k := by
                        funext s
                        by_cases e : s = k
                        · subst e
                          rw [if_pos rfl, s_mix, if_pos (Nat.le_refl _), s_sums_in _ hpl hp (by omega)]
                          rw [(z_b0 _).mp h78, (z_b0 _).mp h89]; simp
                        · rw [if_neg e, s_mix, s_mix]
                          by_cases g : k ≤ s
                          · rw [if_pos g, if_pos (by omega)]
                          · rw [if_neg g, if_neg (by omega)]
                      have h := ih (by omega)
                      rw [← e] at h
                      exact h
                    · refine z_iconst F 1 dX5_sums_92 zv_i_1 ?_
                      refine z_goto F 97 dX5_sums_93 (by decide) ?_
                      refine z_bast F aM_summed (k) rfl (by omega) rfl dX5_sums_97 ?_
                      refine z_iinc3 F (-1) dX5_sums_98 rfl zv_i_m1 ?_
                      refine z_goto F 53 dX5_sums_101 (by decide) ?_
                      rw [show (1 : Int32) = z_b true from rfl, z_row_up, u_bit _ _ _ (show k < 2401 by omega)]
                      have e : (fun s => if s = k then true else s_mix (D.1 1) c (k + 1) s) = s_mix (D.1 1) c k := by
                        funext s
                        by_cases e : s = k
                        · subst e
                          rw [if_pos rfl, s_mix, if_pos (Nat.le_refl _), s_sums_in _ hpl hp (by omega)]
                          rw [(z_b0 _).mp h78, (z_bn _).mp h89, decide_eq_true hkp]; rfl
                        · rw [if_neg e, s_mix, s_mix]
                          by_cases g : k ≤ s
                          · rw [if_pos g, if_pos (by omega)]
                          · rw [if_neg g, if_neg (by omega)]
                      have h := ih (by omega)
                      rw [← e] at h
                      exact h
          have h := inn 2401 (Nat.le_refl _)
          rw [show nI 2401 + (-1) = 2400 by decide] at h
          have e : (fun s => if s < 2401 then z_b (s_mix (D.1 1) c 2401 s) else D.1 7 s) = fun s => if s < 2401 then z_b (s_sums (D.1 1) c s) else D.1 7 s := by
            funext s
            by_cases g : s < 2401
            · rw [if_pos g, if_pos g, s_mix, if_neg (by omega)]
            · rw [if_neg g, if_neg g]
          rw [e] at h
          exact h
        · have e : s_sums (D.1 1) (c + 1) = s_sums (D.1 1) c := s_sums_out _ hpl
          have nx := ih (c + 1) (by omega)
          rw [e, show nI (c + 1) = nI c + 1 from nI_succ c] at nx
          refine z_iload3 F dX5_sums_53 ?_
          refine z_iload2 F dX5_sums_54 ?_
          refine z_ic_lt F 104 dX5_sums_55 (by decide) (fun h55 => ?_) (fun h55 => ?_)
          · refine z_iinc1 F 1 dX5_sums_104 rfl zv_i_1 ?_
            refine z_goto F 32 dX5_sums_107 (by decide) ?_
            exact nx _ _
          · refine z_aload0 F dX5_sums_58 ?_
            refine z_iload1 F dX5_sums_59 ?_
            refine z_iconst F 0 dX5_sums_60 zv_i_0 ?_
            refine z_callVI2 F (c5_isIn _ c _ (by omega)) kX5_135 (by decide) ocM (Nat.le_of_ble_eq_true rfl) rfl dX5_sums_61 ?_
            rw [z_rowo _ _ (by decide)]
            refine z_ifb_eq F 104 dX5_sums_64 (by decide) (fun h64 => ?_) (fun h64 => ?_)
            · refine z_iinc1 F 1 dX5_sums_104 rfl zv_i_1 ?_
              refine z_goto F 32 dX5_sums_107 (by decide) ?_
              exact nx _ _
            · exact absurd (of_decide_eq_true h64) hpl
  
  have mid : ∀ (a3 : Option Value), z_J X SM 30 [some (.ref 0), some (.int (nI 2401)), none, none] [] (z_row D 7 (fun k => if k < 2401 then (fun s => z_b (decide (s = 0))) k else D.1 7 k)) := by
    intro _
    refine z_iconst F 0 dX5_sums_30 zv_i_0 ?_
    refine z_istore1 F dX5_sums_31 rfl ?_
    exact loop N 0 (by omega) none none
  
  have init : ∀ (n c : Nat), c + n = 2401 → z_J X SM 2 [some (.ref 0), some (.int (nI c)), none, none] [] (z_row D 7 (fun k => if k < c then (fun s => z_b (decide (s = 0))) k else D.1 7 k)) := by
    intro n
    induction n with
    | zero =>
      intro c hn 
      refine z_iload1 F dX5_sums_2 ?_
      refine z_sipush F 2400 dX5_sums_3 zv_s_2400 ?_
      refine z_ic_gt F 30 dX5_sums_6 (by decide) (fun h6 => ?_) (fun h6 => ?_)
      · rw [show c = 2401 by omega]
        exact mid none
      · exact absurd (nI_lt (a := 2400) (b := c) (by omega) (by omega)) h6
    | succ n ih =>
      intro c hn 
      refine z_iload1 F dX5_sums_2 ?_
      refine z_sipush F 2400 dX5_sums_3 zv_s_2400 ?_
      refine z_ic_gt F 30 dX5_sums_6 (by decide) (fun h6 => ?_) (fun h6 => ?_)
      · exact absurd h6 (nI_nlt (a := 2400) (b := c) (by omega) (by omega))
      · refine z_aload0 F dX5_sums_9 ?_
        refine z_getR F M_summed fX5_28 dX5_sums_10 ?_
        refine z_iload1 F dX5_sums_13 ?_
        refine z_iload1 F dX5_sums_14 ?_
        refine z_if_ne F 22 dX5_sums_15 (by decide) (fun h15 => ?_) (fun h15 => ?_)
        · refine z_iconst F 0 dX5_sums_22 zv_i_0 ?_
          refine z_bast F aM_summed (c) rfl (by omega) rfl dX5_sums_23 ?_
          refine z_iinc1 F 1 dX5_sums_24 rfl zv_i_1 ?_
          refine z_goto F 2 dX5_sums_27 (by decide) ?_
          have h := ih (c + 1) (by omega)
          rw [← z_rowfill D 7 (fun s => z_b (decide (s = 0))) c, show nI (c + 1) = nI c + 1 from nI_succ c] at h
          first
            | (rw [show z_b (decide (c = 0)) = 0 from by rw [decide_eq_false (fun e => h15 (by rw [e]; rfl))]; rfl] at h; exact h)
            | (rw [show z_b (decide (c = 0)) = 1 from by rw [decide_eq_true ((nI_eq (a := c) (b := 0) (by omega) (by decide)).mp h15)]; rfl] at h; exact h)
        · refine z_iconst F 1 dX5_sums_18 zv_i_1 ?_
          refine z_goto F 23 dX5_sums_19 (by decide) ?_
          refine z_bast F aM_summed (c) rfl (by omega) rfl dX5_sums_23 ?_
          refine z_iinc1 F 1 dX5_sums_24 rfl zv_i_1 ?_
          refine z_goto F 2 dX5_sums_27 (by decide) ?_
          have h := ih (c + 1) (by omega)
          rw [← z_rowfill D 7 (fun s => z_b (decide (s = 0))) c, show nI (c + 1) = nI c + 1 from nI_succ c] at h
          first
            | (rw [show z_b (decide (c = 0)) = 0 from by rw [decide_eq_false (fun e => h15 (by rw [e]; rfl))]; rfl] at h; exact h)
            | (rw [show z_b (decide (c = 0)) = 1 from by rw [decide_eq_true ((nI_eq (a := c) (b := 0) (by omega) (by decide)).mp h15)]; rfl] at h; exact h)
  
  refine z_iconst F 0 dX5_sums_0 zv_i_0 ?_
  refine z_istore1 F dX5_sums_1 rfl ?_
  have h := init 2401 0 (by omega)
  simp only [Nat.not_lt_zero, if_false] at h
  rw [z_row_eq] at h
  exact h
