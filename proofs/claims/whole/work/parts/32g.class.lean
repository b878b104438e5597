theorem c4_tin (D : zD) (T : Nat → Int32) {N : Nat} (hT : T 4 = nI N) (h10 : N ≤ 10) (pl : Int32) : z_CI SX zT yX0_in cX0_in 4 .int 0 [.ref 2, .int pl] (z_row D 2 T) (z_eq (s_lie T pl N) (z_row D 2 T)) := by
  have h := c0_in (z_row D 2 T) z_r2 (N := N) (by rw [z_rowr]; exact hT) h10 pl
  rw [z_rowr] at h
  exact h
theorem c4_tmove (D : zD) (T : Nat → Int32) (c : Nat) (hc : c < 10) (pl : Int32) : z_CV SX zT yX1_moveTo cX1_moveTo 2 0 [.ref (10 * 2 + c), .int pl] (z_row D 2 T) (z_eqV (z_row D 2 (s_goTo T c pl))) := by
  have h := c1_moveTo (z_row D 2 T) z_r2 c hc pl
  rw [z_rowr, z_row_row] at h
  exact h
set_option maxHeartbeats 1000000 in
set_option maxRecDepth 20000 in
theorem c4_stays (D : zD) (T0 : Nat → Int32) {N : Nat} (hN : D.1 1 4 = nI N) (h10 : N ≤ 10) (k q : Nat) (hk : k < 2 ^ N) (hq : q ≤ 100) (hin : s_inAll (nI k) (s_all (D.1 1) N) = true) : z_CI SX zT yX4_stays cX4_stays 6 .boolean 5 [.ref 0, .int (nI k), .int (s_all (D.1 1) N), .int (nI q)] (z_row D 2 T0) (fun r E => r = z_b (s_stays (D.1 1) N q (s_all (D.1 1) N) (nI k)) ∧ ∃ T, E = z_row D 2 T) := by
  refine z_startI SX_ok (by decide +kernel) (fun v hv => by simp at hv; rcases hv with rfl | rfl | rfl | rfl <;> rfl) (Nat.le_of_ble_eq_true rfl) (fun X F hR => ?_)
  show z_J X SX 0 [some (.ref 0), some (.int (nI k)), some (.int (s_all (D.1 1) N)), some (.int (nI q)), none, none] [] (z_row D 2 T0)
  have hp2 := i_pow h10
  have h0 := p_place h10 hk hin
  have hst := s_stays_p (n := q) h10 hk hin
  have loop2 : ∀ (n i : Nat), i + n = q → ∀ (b : Bool) (T : Nat → Int32), T 4 = nI N → (b = true → ag N T (s_goPs (s_place (D.1 1) (s_all (D.1 1) N) (nI k) N) N i) ∧ p_lie (s_goPs (s_place (D.1 1) (s_all (D.1 1) N) (nI k) N) N i) 0 N = k) → (b = false → p_lie (s_goPs (s_place (D.1 1) (s_all (D.1 1) N) (nI k) N) N q) 0 N = k) → z_J X SX 76 [some (.ref 0), some (.int (nI k)), some (.int (s_all (D.1 1) N)), some (.int (nI q)), some (.int (z_b b)), some (.int (nI i))] [] (z_row D 2 T) := by
    intro n
    induction n with
    | zero =>
      intro i hn b T hT4 hbt hbf
      refine z_iload5 F dX4_stays_76 ?_
      refine z_iload3 F dX4_stays_78 ?_
      refine z_ic_ge F 116 dX4_stays_79 (by decide) (fun h79 => ?_) (fun h79 => ?_)
      · have hl : p_lie (s_goPs (s_place (D.1 1) (s_all (D.1 1) N) (nI k) N) N q) 0 N = k := by
          cases b with
          | true => rw [← show i = q by omega]; exact (hbt rfl).2
          | false => exact hbf rfl
        refine z_iconst F 1 dX4_stays_116 zv_i_1 ?_
        refine hR _ _ _ _ dX4_stays_117 rfl ?_
        refine ⟨?_, T, rfl⟩
        rw [hst, decide_eq_true hl]
        rfl
      · exact absurd (nI_le (by omega) (by omega)) h79
    | succ n ih =>
      intro i hn b T hT4 hbt hbf
      refine z_iload5 F dX4_stays_76 ?_
      refine z_iload3 F dX4_stays_78 ?_
      refine z_ic_ge F 116 dX4_stays_79 (by decide) (fun h79 => ?_) (fun h79 => ?_)
      · exact absurd h79 (nI_ge (by omega) (by omega))
      · refine z_iload4 F dX4_stays_82 ?_
        refine z_ifb_eq F 116 dX4_stays_84 (by decide) (fun h84 => ?_) (fun h84 => ?_)
        · have hl := hbf h84
          refine z_iconst F 1 dX4_stays_116 zv_i_1 ?_
          refine hR _ _ _ _ dX4_stays_117 rfl ?_
          refine ⟨?_, T, rfl⟩
          rw [hst, decide_eq_true hl]
          rfl
        · obtain ⟨hT, hl⟩ := hbt h84
          have hT1 : ag N (s_goP T N) (s_goPs (s_place (D.1 1) (s_all (D.1 1) N) (nI k) N) N (i + 1)) := s_goP_ag hT
          refine z_aload0 F dX4_stays_87 ?_
          refine z_getR F PH_trial fX4_16 dX4_stays_88 ?_
          refine z_callVI0 F (c4_tgoP D T hT4 h10) kX4_148 (by decide) (ocC z_r2) (Nat.le_of_ble_eq_true rfl) rfl dX4_stays_91 ?_
          refine z_istore4 F dX4_stays_94 rfl ?_
          refine z_aload0 F dX4_stays_96 ?_
          refine z_getR F PH_trial fX4_16 dX4_stays_97 ?_
          refine z_iconst F 0 dX4_stays_100 zv_i_0 ?_
          refine z_callVI1 F (c4_tin D (s_goP T N) (s_goP_4 hT4) h10 0) kX4_108 (by decide) (ocC z_r2) (Nat.le_of_ble_eq_true rfl) rfl dX4_stays_101 ?_
          rw [s_lie_ag hT1 0 N (Nat.le_refl _), s_lie_n _ _ _ (show N ≤ 31 by omega)]
          have hlt := p_lie_1024 (s_goPs (s_place (D.1 1) (s_all (D.1 1) N) (nI k) N) N (i + 1)) 0 h10
          refine z_iload1 F dX4_stays_104 ?_
          refine z_ic_eq F 110 dX4_stays_105 (by decide) (fun h105 => ?_) (fun h105 => ?_)
          · have hl1 : p_lie (s_goPs (s_place (D.1 1) (s_all (D.1 1) N) (nI k) N) N (i + 1)) 0 N = k := (nI_eq (by omega) (by omega)).mp h105
            refine z_iinc5 F 1 dX4_stays_110 rfl zv_i_1 ?_
            refine z_goto F 76 dX4_stays_113 (by decide) ?_
            have h := ih (i + 1) (by omega) (s_stirs T N) (s_goP T N) (s_goP_4 hT4) (fun _ => ⟨hT1, hl1⟩) (fun z => by
              rw [s_stirs_ag hT N (Nat.le_refl _)] at z
              have e1 : s_lie (s_goPs (s_place (D.1 1) (s_all (D.1 1) N) (nI k) N) N q) 0 N = s_lie (s_goPs (s_place (D.1 1) (s_all (D.1 1) N) (nI k) N) N i) 0 N := s_lie_fix z (show i ≤ q by omega) 0
              rw [s_lie_n _ _ _ (show N ≤ 31 by omega), s_lie_n _ _ _ (show N ≤ 31 by omega)] at e1
              have := p_lie_1024 (s_goPs (s_place (D.1 1) (s_all (D.1 1) N) (nI k) N) N q) 0 h10
              have := p_lie_1024 (s_goPs (s_place (D.1 1) (s_all (D.1 1) N) (nI k) N) N i) 0 h10
              rw [(nI_eq (by omega) (by omega)).mp e1]
              exact hl)
            rw [show nI (i + 1) = nI i + 1 from nI_succ i] at h
            exact h
          · refine z_iconst F 0 dX4_stays_108 zv_i_0 ?_
            refine hR _ _ _ _ dX4_stays_109 rfl ?_
            refine ⟨?_, _, rfl⟩
            rw [hst, decide_eq_false (show ¬ p_lie (s_goPs (s_place (D.1 1) (s_all (D.1 1) N) (nI k) N) N q) 0 N = k from fun z => h105 (by rw [p_go_btw (show i + 1 ≤ q by omega) h0 z]))]
            rfl
  
  refine z_aload0 F dX4_stays_0 ?_
  refine z_getR F PH_trial fX4_16 dX4_stays_1 ?_
  refine z_aload0 F dX4_stays_4 ?_
  refine z_getR F PH_coat fX4_10 dX4_stays_5 ?_
  refine z_callVV1 F (c4_tbec2 D T0 hN h10) kX4_135 (by decide) (ocC z_r2) (Nat.le_of_ble_eq_true rfl) rfl dX4_stays_8 ?_
  refine z_iconst F 0 dX4_stays_11 zv_i_0 ?_
  refine z_istore4 F dX4_stays_12 rfl ?_
  have loop : ∀ (n c : Nat), c + n = N → z_J X SX 14 [some (.ref 0), some (.int (nI k)), some (.int (s_all (D.1 1) N)), some (.int (nI q)), some (.int (nI c)), none] [] (z_row D 2 (s_place (s_bec (D.1 1) T0 N) (s_all (D.1 1) N) (nI k) c)) := by
    intro n
    induction n with
    | zero =>
      intro c hn 
      refine z_iload4 F dX4_stays_14 ?_
      refine z_aload0 F dX4_stays_16 ?_
      refine z_getR F PH_trial fX4_16 dX4_stays_17 ?_
      refine z_getI F (C_coins z_r2) fX4_59 dX4_stays_20 ?_
      refine z_ic_ge F 70 dX4_stays_23 (by decide) (fun h23 => ?_) (fun h23 => ?_)
      · rw [show c = N by omega]
        refine z_iconst F 1 dX4_stays_70 zv_i_1 ?_
        refine z_istore4 F dX4_stays_71 rfl ?_
        refine z_iconst F 0 dX4_stays_73 zv_i_0 ?_
        refine z_istore5 F dX4_stays_74 rfl ?_
        exact loop2 q 0 (by omega) true (s_place (s_bec (D.1 1) T0 N) (s_all (D.1 1) N) (nI k) N) (by rw [s_place_lo _ _ _ (by decide), s_bec_4]; exact hN) (fun _ => ⟨s_place_ag (s_bec_ag _ _ _) _ _ _, h0⟩) (fun z => by cases z)
      · exact absurd (by rw [z_rowr, s_place_lo _ _ _ (by decide), s_bec_4, hN]; exact nI_le (by omega) (by omega)) h23
    | succ n ih =>
      intro c hn 
      refine z_iload4 F dX4_stays_14 ?_
      refine z_aload0 F dX4_stays_16 ?_
      refine z_getR F PH_trial fX4_16 dX4_stays_17 ?_
      refine z_getI F (C_coins z_r2) fX4_59 dX4_stays_20 ?_
      refine z_ic_ge F 70 dX4_stays_23 (by decide) (fun h23 => ?_) (fun h23 => ?_)
      · exact absurd h23 (by rw [z_rowr, s_place_lo _ _ _ (by decide), s_bec_4, hN]; exact nI_ge (by omega) (by omega))
      · refine z_iload2 F dX4_stays_26 ?_
        refine z_iload4 F dX4_stays_27 ?_
        refine z_ishr F dX4_stays_29 ?_
        refine z_iconst F 1 dX4_stays_30 zv_i_1 ?_
        refine z_iand F dX4_stays_31 ?_
        refine z_iconst F 1 dX4_stays_32 zv_i_1 ?_
        refine z_ic_ne F 64 dX4_stays_33 (by decide) (fun h33 => ?_) (fun h33 => ?_)
        · refine z_iinc4 F 1 dX4_stays_64 rfl zv_i_1 ?_
          refine z_goto F 14 dX4_stays_67 (by decide) ?_
          have h := ih (c + 1) (by omega)
          rw [show nI (c + 1) = nI c + 1 from nI_succ c, s_place, if_neg (show ¬ s_has (s_all (D.1 1) N) c = true from fun e => h33 (of_decide_eq_true e))] at h
          exact h
        · refine z_aload0 F dX4_stays_36 ?_
          refine z_getR F PH_trial fX4_16 dX4_stays_37 ?_
          refine z_getR F (C_row z_r2) fX4_71 dX4_stays_40 ?_
          refine z_iload4 F dX4_stays_43 ?_
          refine z_aald F (aRow z_r2) (Or.inl rfl) (c) rfl (show c < 10 by omega) dX4_stays_45 ?_
          refine z_iload1 F dX4_stays_46 ?_
          refine z_iload4 F dX4_stays_47 ?_
          refine z_ishr F dX4_stays_49 ?_
          refine z_iconst F 1 dX4_stays_50 zv_i_1 ?_
          refine z_iand F dX4_stays_51 ?_
          refine z_iconst F 1 dX4_stays_52 zv_i_1 ?_
          refine z_ic_ne F 60 dX4_stays_53 (by decide) (fun h53 => ?_) (fun h53 => ?_)
          · refine z_iconst F 3 dX4_stays_60 zv_i_3 ?_
            refine z_callVV1 F (c4_tmove D (s_place (s_bec (D.1 1) T0 N) (s_all (D.1 1) N) (nI k) c) c (by omega) 3) kX4_98 (by decide) (ocK z_r2 (show c < 10 by omega)) (Nat.le_of_ble_eq_true rfl) rfl dX4_stays_61 ?_
            refine z_iinc4 F 1 dX4_stays_64 rfl zv_i_1 ?_
            refine z_goto F 14 dX4_stays_67 (by decide) ?_
            have h := ih (c + 1) (by omega)
            rw [show nI (c + 1) = nI c + 1 from nI_succ c, s_place, if_pos (show s_has (s_all (D.1 1) N) c = true from decide_eq_true h33), if_neg (show ¬ s_has (nI k) c = true from fun e => h53 (of_decide_eq_true e))] at h
            exact h
          · refine z_iconst F 0 dX4_stays_56 zv_i_0 ?_
            refine z_goto F 61 dX4_stays_57 (by decide) ?_
            refine z_callVV1 F (c4_tmove D (s_place (s_bec (D.1 1) T0 N) (s_all (D.1 1) N) (nI k) c) c (by omega) 0) kX4_98 (by decide) (ocK z_r2 (show c < 10 by omega)) (Nat.le_of_ble_eq_true rfl) rfl dX4_stays_61 ?_
            refine z_iinc4 F 1 dX4_stays_64 rfl zv_i_1 ?_
            refine z_goto F 14 dX4_stays_67 (by decide) ?_
            have h := ih (c + 1) (by omega)
            rw [show nI (c + 1) = nI c + 1 from nI_succ c, s_place, if_pos (show s_has (s_all (D.1 1) N) c = true from decide_eq_true h33), if_pos (show s_has (nI k) c = true from decide_eq_true h53)] at h
            exact h
  exact loop N 0 (by omega)
set_option maxHeartbeats 1000000 in
set_option maxRecDepth 20000 in
theorem c4_rich (D : zD) {N : Nat} (hN : D.1 1 4 = nI N) (h10 : N ≤ 10) (q : Nat) (hq : q ≤ 100) : z_CI SX zT yX4_richestStaying cX4_richestStaying 7 .int 6 [.ref 0, .int (nI q)] D (fun r E => r = (s_carry (D.1 1) N q (s_all (D.1 1) N) (2 ^ N)).1 ∧ ∃ T, E = z_row D 2 T) := by
  refine z_startI SX_ok (by decide +kernel) (fun v hv => by simp at hv; rcases hv with rfl | rfl <;> rfl) (Nat.le_of_ble_eq_true rfl) (fun X F hR => ?_)
  show z_J X SX 0 [some (.ref 0), some (.int (nI q)), none, none, none, none, none] [] D
  have hp2 := i_pow h10
  have h1p : 1 ≤ 2 ^ N := Nat.one_le_two_pow
  refine z_aload0 F dX4_richestStaying_0 ?_
  refine z_getR F PH_coat fX4_10 dX4_richestStaying_1 ?_
  refine z_iconst F 0 dX4_richestStaying_4 zv_i_0 ?_
  refine z_callVI1 F (c0_in _ z_r1 hN h10 _) kX4_108 (by decide) (ocC z_r1) (Nat.le_of_ble_eq_true rfl) rfl dX4_richestStaying_5 ?_
  refine z_aload0 F dX4_richestStaying_8 ?_
  refine z_getR F PH_coat fX4_10 dX4_richestStaying_9 ?_
  refine z_iconst F 3 dX4_richestStaying_12 zv_i_3 ?_
  refine z_callVI1 F (c0_in _ z_r1 hN h10 _) kX4_108 (by decide) (ocC z_r1) (Nat.le_of_ble_eq_true rfl) rfl dX4_richestStaying_13 ?_
  refine z_ior F dX4_richestStaying_16 ?_
  refine z_istore2 F dX4_richestStaying_17 rfl ?_
  refine z_iconst F 0 dX4_richestStaying_18 zv_i_0 ?_
  refine z_istore3 F dX4_richestStaying_19 rfl ?_
  refine z_iconst F 0 dX4_richestStaying_20 zv_i_0 ?_
  refine z_istore4 F dX4_richestStaying_21 rfl ?_
  refine z_iconst F 1 dX4_richestStaying_23 zv_i_1 ?_
  refine z_istore5 F dX4_richestStaying_24 rfl ?_
  have loop : ∀ (n k : Nat), k + n = 2 ^ N → 1 ≤ k → ∀ (T : Nat → Int32) (a6 : Option Value), z_J X SX 26 [some (.ref 0), some (.int (nI q)), some (.int (s_all (D.1 1) N)), some (.int (s_carry (D.1 1) N q (s_all (D.1 1) N) k).1), some (.int (s_carry (D.1 1) N q (s_all (D.1 1) N) k).2), some (.int (nI k)), a6] [] (z_row D 2 T) := by
    intro n
    induction n with
    | zero =>
      intro k hn h1k T a6
      refine z_iload5 F dX4_richestStaying_26 ?_
      refine z_aload0 F dX4_richestStaying_28 ?_
      refine z_getR F PH_coat fX4_10 dX4_richestStaying_29 ?_
      refine z_callVI0 F (by have h := c0_sets (z_row D 2 T) z_r1 (N := N) (by rw [z_rowo _ _ (by decide)]; exact hN) h10; exact h) kX4_173 (by decide) (ocC z_r1) (Nat.le_of_ble_eq_true rfl) rfl dX4_richestStaying_32 ?_
      refine z_ic_ge F 89 dX4_richestStaying_35 (by decide) (fun h35 => ?_) (fun h35 => ?_)
      · refine z_iload3 F dX4_richestStaying_89 ?_
        refine hR _ _ _ _ dX4_richestStaying_90 rfl ?_
        rw [show k = 2 ^ N by omega]
        exact ⟨rfl, T, rfl⟩
      · exact absurd (nI_le (by omega) (by omega)) h35
    | succ n ih =>
      intro k hn h1k T a6
      refine z_iload5 F dX4_richestStaying_26 ?_
      refine z_aload0 F dX4_richestStaying_28 ?_
      refine z_getR F PH_coat fX4_10 dX4_richestStaying_29 ?_
      refine z_callVI0 F (by have h := c0_sets (z_row D 2 T) z_r1 (N := N) (by rw [z_rowo _ _ (by decide)]; exact hN) h10; exact h) kX4_173 (by decide) (ocC z_r1) (Nat.le_of_ble_eq_true rfl) rfl dX4_richestStaying_32 ?_
      refine z_ic_ge F 89 dX4_richestStaying_35 (by decide) (fun h35 => ?_) (fun h35 => ?_)
      · exact absurd h35 (nI_ge (by omega) (by omega))
      · refine z_iload5 F dX4_richestStaying_38 ?_
        refine z_iload2 F dX4_richestStaying_40 ?_
        refine z_iconst F (-1) dX4_richestStaying_41 zv_i_m1 ?_
        refine z_ixor F dX4_richestStaying_42 ?_
        refine z_iand F dX4_richestStaying_43 ?_
        refine z_if_ne F 83 dX4_richestStaying_44 (by decide) (fun h44 => ?_) (fun h44 => ?_)
        · refine z_iinc5 F 1 dX4_richestStaying_83 rfl zv_i_1 ?_
          refine z_goto F 26 dX4_richestStaying_86 (by decide) ?_
          have h := ih (k + 1) (by omega) (by omega) T a6
          rw [show nI (k + 1) = nI k + 1 from nI_succ k, s_carry_out (show ¬ s_inAll (nI k) (s_all (D.1 1) N) = true from fun e => h44 (of_decide_eq_true e))] at h
          exact h
        · refine z_aload0 F dX4_richestStaying_47 ?_
          refine z_getR F PH_coat fX4_10 dX4_richestStaying_48 ?_
          refine z_iload5 F dX4_richestStaying_51 ?_
          refine z_callVI1 F (by have h := c0_penceOf (z_row D 2 T) z_r1 (N := N) (by rw [z_rowo _ _ (by decide)]; exact hN) h10 (nI k); rw [z_rowo _ _ (by decide)] at h; exact h) kX4_167 (by decide) (ocC z_r1) (Nat.le_of_ble_eq_true rfl) rfl dX4_richestStaying_53 ?_
          refine z_istore6 F dX4_richestStaying_56 rfl ?_
          refine z_iload6 F dX4_richestStaying_58 ?_
          refine z_iload4 F dX4_richestStaying_60 ?_
          refine z_ic_le F 83 dX4_richestStaying_62 (by decide) (fun h62 => ?_) (fun h62 => ?_)
          · have hin : s_inAll (nI k) (s_all (D.1 1) N) = true := decide_eq_true h44
            refine z_iinc5 F 1 dX4_richestStaying_83 rfl zv_i_1 ?_
            refine z_goto F 26 dX4_richestStaying_86 (by decide) ?_
            have h := ih (k + 1) (by omega) (by omega) T (some (.int (s_sum (D.1 1) 3 (nI k) N)))
            rw [show nI (k + 1) = nI k + 1 from nI_succ k, s_carry_in hin, if_neg (fun z => Int32.not_lt.mpr h62 z.1)] at h
            exact h
          · have hin : s_inAll (nI k) (s_all (D.1 1) N) = true := decide_eq_true h44
            refine z_aload0 F dX4_richestStaying_65 ?_
            refine z_iload5 F dX4_richestStaying_66 ?_
            refine z_iload2 F dX4_richestStaying_68 ?_
            refine z_iload1 F dX4_richestStaying_69 ?_
            refine z_callVI3p F (c4_stays D T hN h10 k q (by omega) hq hin) kX4_259 (by decide) ocPH (Nat.le_of_ble_eq_true rfl) rfl dX4_richestStaying_70 (fun r E hr => ?_)
            obtain ⟨rfl, T1, rfl⟩ := hr
            refine z_ifb_eq F 83 dX4_richestStaying_73 (by decide) (fun h73 => ?_) (fun h73 => ?_)
            · refine z_iinc5 F 1 dX4_richestStaying_83 rfl zv_i_1 ?_
              refine z_goto F 26 dX4_richestStaying_86 (by decide) ?_
              have h := ih (k + 1) (by omega) (by omega) T1 (some (.int (s_sum (D.1 1) 3 (nI k) N)))
              rw [show nI (k + 1) = nI k + 1 from nI_succ k, s_carry_in hin, if_neg (fun z => by rw [h73] at z; exact absurd z.2 (by decide))] at h
              exact h
            · refine z_iload5 F dX4_richestStaying_76 ?_
              refine z_istore3 F dX4_richestStaying_78 rfl ?_
              refine z_iload6 F dX4_richestStaying_79 ?_
              refine z_istore4 F dX4_richestStaying_81 rfl ?_
              refine z_iinc5 F 1 dX4_richestStaying_83 rfl zv_i_1 ?_
              refine z_goto F 26 dX4_richestStaying_86 (by decide) ?_
              have h := ih (k + 1) (by omega) (by omega) T1 (some (.int (s_sum (D.1 1) 3 (nI k) N)))
              rw [show nI (k + 1) = nI k + 1 from nI_succ k, s_carry_in hin, if_pos ⟨Int32.not_le.mp h62, h73⟩] at h
              exact h
  have h := loop (2 ^ N - 1) 1 (by omega) (Nat.le_refl _) (D.1 2) none
  rw [s_carry_1 (D.1 1) h10 q (s_all (D.1 1) N), z_row_eq] at h
  exact h
set_option maxHeartbeats 1000000 in
set_option maxRecDepth 20000 in
theorem c4_carry (D : zD) (x : Int32) {N : Nat} (hN : D.1 1 4 = nI N) (h10 : N ≤ 10) : z_CI SX zT yX4_carry cX4_carry 2 .int 7 [.ref 0, .int x] D (z_qX D (o_carry (D.1 1) N x)) := by
  refine z_startI SX_ok (by decide +kernel) (fun v hv => by simp at hv; rcases hv with rfl | rfl <;> rfl) (Nat.le_of_ble_eq_true rfl) (fun X F hR => ?_)
  show z_J X SX 0 [some (.ref 0), some (.int x)] [] D
  refine z_iload1 F dX4_carry_0 ?_
  refine z_iconst F 1 dX4_carry_1 zv_i_1 ?_
  refine z_bipush F 100 dX4_carry_2 zv_b_100 ?_
  refine z_callSI3 F (c4_isWithin _ _ _ _) kX4_51 (by decide) (Nat.le_of_ble_eq_true rfl) rfl dX4_carry_4 ?_
  refine z_ifb_ne F 16 dX4_carry_7 (by decide) (fun h7 => ?_) (fun h7 => ?_)
  · obtain ⟨q, hq1, hq, rfl⟩ := b_in1 100 (by decide) h7
    have hqn := i_n_n (j := q) (by omega)
    refine z_aload0 F dX4_carry_16 ?_
    refine z_iload1 F dX4_carry_17 ?_
    refine z_callVI1 F (c4_isTooFar _ _) kX4_114 (by decide) ocPH (Nat.le_of_ble_eq_true rfl) rfl dX4_carry_18 ?_
    refine z_ifb_eq F 32 dX4_carry_21 (by decide) (fun h21 => ?_) (fun h21 => ?_)
    · simp only [decide_eq_false_iff_not] at h21
      refine z_aload0 F dX4_carry_32 ?_
      refine z_iload1 F dX4_carry_33 ?_
      refine z_callVI1p F (c4_rich D hN h10 q hq) kX4_164 (by decide) ocPH (Nat.le_of_ble_eq_true rfl) rfl dX4_carry_34 (fun r E hr => ?_)
      obtain ⟨rfl, T1, rfl⟩ := hr
      refine hR _ _ _ _ dX4_carry_37 rfl ?_
      simp only [o_carry, h7, h21, hqn, Bool.false_eq_true, if_true, if_false, Bool.and_true, Bool.true_and, Bool.and_false, Bool.false_and, Bool.and_self, and_self]
      exact ⟨rfl, z_sm_row D _ (Or.inl rfl)⟩
    · simp only [decide_eq_true_eq] at h21
      refine z_aload0 F dX4_carry_24 ?_
      refine z_iconst F 4 dX4_carry_25 zv_i_4 ?_
      refine z_callVI1 F (c4_finding _ 4 (by decide)) kX4_55 (by decide) ocPH (Nat.le_of_ble_eq_true rfl) rfl dX4_carry_26 ?_
      refine z_goto F 37 dX4_carry_29 (by decide) ?_
      refine hR _ _ _ _ dX4_carry_37 rfl ?_
      simp only [o_carry, h7, h21, hqn, Bool.false_eq_true, if_true, if_false, Bool.and_true, Bool.true_and, Bool.and_false, Bool.false_and, Bool.and_self, and_self]; first | exact ⟨rfl, rfl⟩ | exact ⟨by decide, rfl⟩ | exact ⟨by decide, z_sm_r _⟩ | exact ⟨rfl, z_sm_r _⟩
  · refine z_aload0 F dX4_carry_10 ?_
    refine z_iconst F 0 dX4_carry_11 zv_i_0 ?_
    refine z_callVI1 F (c4_finding _ 0 (by decide)) kX4_55 (by decide) ocPH (Nat.le_of_ble_eq_true rfl) rfl dX4_carry_12 ?_
    refine hR _ _ _ _ dX4_carry_15 rfl ?_
    simp only [o_carry, h7, Bool.false_eq_true, if_true, if_false, Bool.and_true, Bool.true_and, Bool.and_false, Bool.false_and, Bool.and_self, and_self]; first | exact ⟨rfl, rfl⟩ | exact ⟨by decide, rfl⟩ | exact ⟨by decide, z_sm_r _⟩ | exact ⟨rfl, z_sm_r _⟩
set_option maxHeartbeats 1000000 in
set_option maxRecDepth 20000 in
theorem c4_carried (D : zD) (x : Int32) {N : Nat} (hN : D.1 1 4 = nI N) (h10 : N ≤ 10) : z_CI SX zT yX4_carried cX4_carried 2 .int 7 [.ref 0, .int x] D (z_qX D (o_carried (D.1 1) N x)) := by
  refine z_startI SX_ok (by decide +kernel) (fun v hv => by simp at hv; rcases hv with rfl | rfl <;> rfl) (Nat.le_of_ble_eq_true rfl) (fun X F hR => ?_)
  show z_J X SX 0 [some (.ref 0), some (.int x)] [] D
  refine z_iload1 F dX4_carried_0 ?_
  refine z_iconst F 1 dX4_carried_1 zv_i_1 ?_
  refine z_bipush F 100 dX4_carried_2 zv_b_100 ?_
  refine z_callSI3 F (c4_isWithin _ _ _ _) kX4_51 (by decide) (Nat.le_of_ble_eq_true rfl) rfl dX4_carried_4 ?_
  refine z_ifb_ne F 16 dX4_carried_7 (by decide) (fun h7 => ?_) (fun h7 => ?_)
  · obtain ⟨q, hq1, hq, rfl⟩ := b_in1 100 (by decide) h7
    have hqn := i_n_n (j := q) (by omega)
    refine z_aload0 F dX4_carried_16 ?_
    refine z_iload1 F dX4_carried_17 ?_
    refine z_callVI1 F (c4_isTooFar _ _) kX4_114 (by decide) ocPH (Nat.le_of_ble_eq_true rfl) rfl dX4_carried_18 ?_
    refine z_ifb_eq F 32 dX4_carried_21 (by decide) (fun h21 => ?_) (fun h21 => ?_)
    · simp only [decide_eq_false_iff_not] at h21
      refine z_aload0 F dX4_carried_32 ?_
      refine z_getR F PH_coat fX4_10 dX4_carried_33 ?_
      refine z_aload0 F dX4_carried_36 ?_
      refine z_iload1 F dX4_carried_37 ?_
      refine z_callVI1p F (c4_rich D hN h10 q hq) kX4_164 (by decide) ocPH (Nat.le_of_ble_eq_true rfl) rfl dX4_carried_38 (fun r E hr => ?_)
      obtain ⟨rfl, T1, rfl⟩ := hr
      refine z_callVI1 F (by have h := c0_penceOf (z_row D 2 T1) z_r1 (N := N) (by rw [z_rowo _ _ (by decide)]; exact hN) h10 (s_carry (D.1 1) N q (s_all (D.1 1) N) (2 ^ N)).1; rw [z_rowo _ _ (by decide)] at h; exact h) kX4_167 (by decide) (ocC z_r1) (Nat.le_of_ble_eq_true rfl) rfl dX4_carried_41 ?_
      refine hR _ _ _ _ dX4_carried_44 rfl ?_
      simp only [o_carried, h7, h21, hqn, Bool.false_eq_true, if_true, if_false, Bool.and_true, Bool.true_and, Bool.and_false, Bool.false_and, Bool.and_self, and_self]
      exact ⟨(s_carry_sum (D.1 1) h10 q (s_all (D.1 1) N) (2 ^ N)).symm, z_sm_row D _ (Or.inl rfl)⟩
    · simp only [decide_eq_true_eq] at h21
      refine z_aload0 F dX4_carried_24 ?_
      refine z_iconst F 4 dX4_carried_25 zv_i_4 ?_
      refine z_callVI1 F (c4_finding _ 4 (by decide)) kX4_55 (by decide) ocPH (Nat.le_of_ble_eq_true rfl) rfl dX4_carried_26 ?_
      refine z_goto F 44 dX4_carried_29 (by decide) ?_
      refine hR _ _ _ _ dX4_carried_44 rfl ?_
      simp only [o_carried, h7, h21, hqn, Bool.false_eq_true, if_true, if_false, Bool.and_true, Bool.true_and, Bool.and_false, Bool.false_and, Bool.and_self, and_self]; first | exact ⟨rfl, rfl⟩ | exact ⟨by decide, rfl⟩ | exact ⟨by decide, z_sm_r _⟩ | exact ⟨rfl, z_sm_r _⟩
  · refine z_aload0 F dX4_carried_10 ?_
    refine z_iconst F 0 dX4_carried_11 zv_i_0 ?_
    refine z_callVI1 F (c4_finding _ 0 (by decide)) kX4_55 (by decide) ocPH (Nat.le_of_ble_eq_true rfl) rfl dX4_carried_12 ?_
    refine hR _ _ _ _ dX4_carried_15 rfl ?_
    simp only [o_carried, h7, Bool.false_eq_true, if_true, if_false, Bool.and_true, Bool.true_and, Bool.and_false, Bool.false_and, Bool.and_self, and_self]; first | exact ⟨rfl, rfl⟩ | exact ⟨by decide, rfl⟩ | exact ⟨by decide, z_sm_r _⟩ | exact ⟨rfl, z_sm_r _⟩
set_option maxHeartbeats 1000000 in
set_option maxRecDepth 20000 in
theorem c4_count (D : zD) (x : Int32) {N : Nat} (hN : D.1 1 4 = nI N) (h10 : N ≤ 10) (hsp : ∀ s, s < 10 → D.1 1 (6 + s) = -1 ∨ 0 ≤ D.1 1 (6 + s)) : z_CI SX zT yX4_count cX4_count 2 .int 3 [.ref 0, .int x] D (z_qX D (o_count D N x)) := by
  refine z_startI SX_ok (by decide +kernel) (fun v hv => by simp at hv; rcases hv with rfl | rfl <;> rfl) (Nat.le_of_ble_eq_true rfl) (fun X F hR => ?_)
  show z_J X SX 0 [some (.ref 0), some (.int x)] [] D
  refine z_iload1 F dX4_count_0 ?_
  refine z_tsw_0_7 rfl (fun h1 => ?_) (fun h1 => ?_) (fun h1 => ?_) (fun h1 => ?_) (fun h1 => ?_) (fun h1 => ?_) (fun h1 => ?_) (fun h1 => ?_) (fun h1 => ?_)
  · refine z_tabIn F 48 dX4_count_1 (by rw [h1]; decide) (by rw [h1]; decide) (by rw [h1]; rfl) (by decide) ?_
    refine z_aload0 F dX4_count_48 ?_
    refine z_getR F PH_coat fX4_10 dX4_count_49 ?_
    refine z_getI F (C_step z_r1) fX4_125 dX4_count_52 ?_
    refine hR _ _ _ _ dX4_count_55 rfl ?_
    rw [o_count]
    subst h1
    exact ⟨rfl, z_sm_r _⟩
  · refine z_tabIn F 56 dX4_count_1 (by rw [h1]; decide) (by rw [h1]; decide) (by rw [h1]; rfl) (by decide) ?_
    refine z_aload0 F dX4_count_56 ?_
    refine z_getR F PH_coat fX4_10 dX4_count_57 ?_
    refine z_getI F (C_coins z_r1) fX4_59 dX4_count_60 ?_
    refine hR _ _ _ _ dX4_count_63 rfl ?_
    rw [o_count]
    subst h1
    exact ⟨rfl, z_sm_r _⟩
  · refine z_tabIn F 64 dX4_count_1 (by rw [h1]; decide) (by rw [h1]; decide) (by rw [h1]; rfl) (by decide) ?_
    refine z_aload0 F dX4_count_64 ?_
    refine z_getR F PH_coat fX4_10 dX4_count_65 ?_
    refine z_getI F (C_hole z_r1) fX4_75 dX4_count_68 ?_
    refine hR _ _ _ _ dX4_count_71 rfl ?_
    rw [o_count]
    subst h1
    exact ⟨rfl, z_sm_r _⟩
  · refine z_tabIn F 72 dX4_count_1 (by rw [h1]; decide) (by rw [h1]; decide) (by rw [h1]; rfl) (by decide) ?_
    refine z_aload0 F dX4_count_72 ?_
    refine z_getR F PH_coat fX4_10 dX4_count_73 ?_
    refine z_aload0 F dX4_count_76 ?_
    refine z_getR F PH_coat fX4_10 dX4_count_77 ?_
    refine z_callVI0 F (c0_sets _ z_r1 hN h10) kX4_173 (by decide) (ocC z_r1) (Nat.le_of_ble_eq_true rfl) rfl dX4_count_80 ?_
    refine z_iconst F 1 dX4_count_83 zv_i_1 ?_
    refine z_isub F dX4_count_84 ?_
    refine z_callVI1 F (c0_penceOf _ z_r1 hN h10 _) kX4_167 (by decide) (ocC z_r1) (Nat.le_of_ble_eq_true rfl) rfl dX4_count_85 ?_
    refine hR _ _ _ _ dX4_count_88 rfl ?_
    subst h1
    refine ⟨?_, z_sm_r _⟩
    exact s_sum_all (D.1 1) 3 (fun c hc => s_has_full h10 hc) (by omega) N (Nat.le_refl _)
  · refine z_tabIn F 89 dX4_count_1 (by rw [h1]; decide) (by rw [h1]; decide) (by rw [h1]; rfl) (by decide) ?_
    refine z_aload0 F dX4_count_89 ?_
    refine z_getR F PH_coat fX4_10 dX4_count_90 ?_
    refine z_callVI0 F (c0_clinks D z_r1 hN h10) kX4_128 (by decide) (ocC z_r1) (Nat.le_of_ble_eq_true rfl) rfl dX4_count_93 ?_
    refine hR _ _ _ _ dX4_count_96 rfl ?_
    rw [o_count]
    subst h1
    exact ⟨rfl, z_sm_r _⟩
  · refine z_tabIn F 97 dX4_count_1 (by rw [h1]; decide) (by rw [h1]; decide) (by rw [h1]; rfl) (by decide) ?_
    refine z_aload0 F dX4_count_97 ?_
    refine z_getR F PH_tape fX4_29 dX4_count_98 ?_
    refine z_getI F T_length fX4_210 dX4_count_101 ?_
    refine hR _ _ _ _ dX4_count_104 rfl ?_
    rw [o_count]
    subst h1
    exact ⟨rfl, z_sm_r _⟩
  · refine z_tabIn F 105 dX4_count_1 (by rw [h1]; decide) (by rw [h1]; decide) (by rw [h1]; rfl) (by decide) ?_
    refine z_aload0 F dX4_count_105 ?_
    refine z_getR F PH_coat fX4_10 dX4_count_106 ?_
    refine z_getI F (C_z z_r1) fX4_207 dX4_count_109 ?_
    refine hR _ _ _ _ dX4_count_112 rfl ?_
    rw [o_count]
    subst h1
    exact ⟨rfl, z_sm_r _⟩
  · refine z_tabIn F 113 dX4_count_1 (by rw [h1]; decide) (by rw [h1]; decide) (by rw [h1]; rfl) (by decide) ?_
    refine z_aload0 F dX4_count_113 ?_
    refine z_getR F PH_coat fX4_10 dX4_count_114 ?_
    refine z_callVI0 F (c0_spots D z_r1 hsp) kX4_255 (by decide) (ocC z_r1) (Nat.le_of_ble_eq_true rfl) rfl dX4_count_117 ?_
    refine hR _ _ _ _ dX4_count_120 rfl ?_
    rw [o_count]
    subst h1
    exact ⟨rfl, z_sm_r _⟩
  · refine z_tabOut F 121 dX4_count_1 h1 (by decide) ?_
    refine z_aload0 F dX4_count_121 ?_
    refine z_iconst F 0 dX4_count_122 zv_i_0 ?_
    refine z_callVI1 F (c4_finding _ 0 (by decide)) kX4_55 (by decide) ocPH (Nat.le_of_ble_eq_true rfl) rfl dX4_count_123 ?_
    refine hR _ _ _ _ dX4_count_126 rfl ?_
    obtain ⟨n0, n1, n2, n3, n4, n5, n6, n7⟩ := z_out07 h1
    simp only [o_count, n0, n1, n2, n3, n4, n5, n6, n7, if_false]
    exact ⟨by decide, z_sm_r _⟩
