theorem c4_tgoP (D : zD) (T : Nat → Int32) {N : Nat} (hT : T 4 = nI N) (h10 : N ≤ 10) : z_CI SX zT yX0_goPocket cX0_goPocket 3 .boolean 3 [.ref 2] (z_row D 2 T) (z_eq (z_b (s_stirs T N)) (z_row D 2 (s_goP T N))) := by
  have h := c0_goPocket (z_row D 2 T) z_r2 (N := N) (by rw [z_rowr]; exact hT) h10
  rw [z_rowr, z_row_row] at h
  exact h
theorem c4_tgone (D : zD) (T : Nat → Int32) {N : Nat} (hN : D.1 1 4 = nI N) (hT : T 4 = nI N) (h10 : N ≤ 10) : z_CI SX zT yX4_goneInTrial cX4_goneInTrial 1 .int 1 [.ref 0] (z_row D 2 T) (z_eq (s_lie (D.1 1) 0 N &&& (s_lie T 0 N ^^^ (-1))) (z_row D 2 T)) := by
  have h := c4_gone (z_row D 2 T) (N := N) (by rw [z_rowo _ _ (by decide)]; exact hN) (by rw [z_rowr]; exact hT) h10
  rw [z_rowr, z_rowo _ _ (by decide)] at h
  exact h
theorem s_goP_4 {T : Nat → Int32} {N : Nat} (hT : T 4 = nI N) : s_goP T N 4 = nI N := by rw [s_goP_lo _ _ (by decide) (by decide) (by decide)]; exact hT
theorem s_goPs_4 {T : Nat → Int32} {N : Nat} (hT : T 4 = nI N) (n : Nat) : s_goPs T N n 4 = nI N := by rw [s_goPs_lo _ _ (by decide) (by decide) (by decide)]; exact hT
theorem s_till_no (P : (Nat → Int32) → Bool) (σ : Nat → Int32) (N : Nat) : ∀ f c, (∀ k, c ≤ k → P (s_steps σ N k) = false) → s_till P σ N f c = f + c
  | 0, c, _ => by rw [s_till]; omega
  | f + 1, c, h => by
    rw [s_till, if_neg (by rw [h c (Nat.le_refl _)]; decide), s_till_no P σ N f (c + 1) (fun k hk => h k (by omega))]
    omega
/-- a coin that stays where nothing stirs -/
theorem s_till_fix {T : Nat → Int32} {N c i : Nat} (h10 : N ≤ 10) (hc : c < N) (hs : s_stirs (s_goPs T N i) N = false) (hz : s_goPs T N i (16 + 8 * c + 4) = 0) (f : Nat) : s_till (s_isP c false) T N f i = f + i := by
  refine s_till_no _ _ _ f i (fun k hk => ?_)
  rw [s_isP, if_neg (by decide), decide_eq_true ((s_in_go T h10 hc k).mp (by rw [s_goPs_fix hs hk (by omega)]; exact hz))]
  rfl
set_option maxHeartbeats 1000000 in
set_option maxRecDepth 20000 in
theorem c4_goneH (D : zD) (T0 : Nat → Int32) {N : Nat} (hN : D.1 1 4 = nI N) (h10 : N ≤ 10) (v q : Nat) (hq : q ≤ 100) : z_CI SX zT yX4_goneWithHole cX4_goneWithHole 5 .int 5 [.ref 0, .int (nI v), .int (nI q)] (z_row D 2 T0) (fun r E => r = s_goneH (D.1 1) N q v ∧ ∃ T, E = z_row D 2 T) := by
  refine z_startI SX_ok (by decide +kernel) (fun v hv => by simp at hv; rcases hv with rfl | rfl | rfl <;> rfl) (Nat.le_of_ble_eq_true rfl) (fun X F hR => ?_)
  show z_J X SX 0 [some (.ref 0), some (.int (nI v)), some (.int (nI q)), none, none] [] (z_row D 2 T0)
  refine z_aload0 F dX4_goneWithHole_0 ?_
  refine z_getR F PH_trial fX4_16 dX4_goneWithHole_1 ?_
  refine z_aload0 F dX4_goneWithHole_4 ?_
  refine z_getR F PH_coat fX4_10 dX4_goneWithHole_5 ?_
  refine z_callVV1 F (c4_tbec2 D T0 hN h10) kX4_135 (by decide) (ocC z_r2) (Nat.le_of_ble_eq_true rfl) rfl dX4_goneWithHole_8 ?_
  refine z_aload0 F dX4_goneWithHole_11 ?_
  refine z_getR F PH_trial fX4_16 dX4_goneWithHole_12 ?_
  refine z_iload1 F dX4_goneWithHole_15 ?_
  refine z_putI F (C_hole z_r2) fX4_75 rfl rfl dX4_goneWithHole_16 ?_
  rw [z_row_up, show upd (s_bec (D.1 1) T0 N) 1 (nI v) = (s_hole (s_bec (D.1 1) T0 N) (nI v)) from rfl]
  refine z_iconst F 1 dX4_goneWithHole_19 zv_i_1 ?_
  refine z_istore3 F dX4_goneWithHole_20 rfl ?_
  refine z_iconst F 0 dX4_goneWithHole_21 zv_i_0 ?_
  refine z_istore4 F dX4_goneWithHole_22 rfl ?_
  have loop : ∀ (n c : Nat), c + n = q → ∀ (b : Bool) (T : Nat → Int32), T 4 = nI N → (b = true → T = s_goPs (s_hole (s_bec (D.1 1) T0 N) (nI v)) N c) → (b = false → s_lie T 0 N = s_lie (s_goPs (s_hole (s_bec (D.1 1) T0 N) (nI v)) N q) 0 N) → z_J X SX 24 [some (.ref 0), some (.int (nI v)), some (.int (nI q)), some (.int (z_b b)), some (.int (nI c))] [] (z_row D 2 T) := by
    intro n
    induction n with
    | zero =>
      intro c hn b T hT4 hbt hbf
      refine z_iload4 F dX4_goneWithHole_24 ?_
      refine z_iload2 F dX4_goneWithHole_26 ?_
      refine z_ic_ge F 48 dX4_goneWithHole_27 (by decide) (fun h27 => ?_) (fun h27 => ?_)
      · have hl : s_lie T 0 N = s_lie (s_goPs (s_hole (s_bec (D.1 1) T0 N) (nI v)) N q) 0 N := by
          cases b with
          | true => rw [hbt rfl, show c = q by omega]
          | false => exact hbf rfl
        refine z_aload0 F dX4_goneWithHole_48 ?_
        refine z_callVI0 F (c4_tgone D T hN hT4 h10) kX4_139 (by decide) ocPH (Nat.le_of_ble_eq_true rfl) rfl dX4_goneWithHole_49 ?_
        refine hR _ _ _ _ dX4_goneWithHole_52 rfl ?_
        refine ⟨?_, T, rfl⟩
        rw [hl]
        unfold s_goneH
        rw [s_lie_go _ h10 q, s_lie_ag (σ := s_steps (s_hole (s_bec (D.1 1) T0 N) (nI v)) N q) (s_steps_ag (ag_u 1 (nI v) (s_bec_ag (D.1 1) T0 N)) q) 0 N (Nat.le_refl _)]
        rfl
      · exact absurd (nI_le (by omega) (by omega)) h27
    | succ n ih =>
      intro c hn b T hT4 hbt hbf
      refine z_iload4 F dX4_goneWithHole_24 ?_
      refine z_iload2 F dX4_goneWithHole_26 ?_
      refine z_ic_ge F 48 dX4_goneWithHole_27 (by decide) (fun h27 => ?_) (fun h27 => ?_)
      · exact absurd h27 (nI_ge (by omega) (by omega))
      · refine z_iload3 F dX4_goneWithHole_30 ?_
        refine z_ifb_eq F 48 dX4_goneWithHole_31 (by decide) (fun h31 => ?_) (fun h31 => ?_)
        · have hl := hbf h31
          refine z_aload0 F dX4_goneWithHole_48 ?_
          refine z_callVI0 F (c4_tgone D T hN hT4 h10) kX4_139 (by decide) ocPH (Nat.le_of_ble_eq_true rfl) rfl dX4_goneWithHole_49 ?_
          refine hR _ _ _ _ dX4_goneWithHole_52 rfl ?_
          refine ⟨?_, T, rfl⟩
          rw [hl]
          unfold s_goneH
          rw [s_lie_go _ h10 q, s_lie_ag (σ := s_steps (s_hole (s_bec (D.1 1) T0 N) (nI v)) N q) (s_steps_ag (ag_u 1 (nI v) (s_bec_ag (D.1 1) T0 N)) q) 0 N (Nat.le_refl _)]
          rfl
        · have eT := hbt h31
          subst eT
          refine z_aload0 F dX4_goneWithHole_34 ?_
          refine z_getR F PH_trial fX4_16 dX4_goneWithHole_35 ?_
          refine z_callVI0 F (c4_tgoP D _ hT4 h10) kX4_148 (by decide) (ocC z_r2) (Nat.le_of_ble_eq_true rfl) rfl dX4_goneWithHole_38 ?_
          refine z_istore3 F dX4_goneWithHole_41 rfl ?_
          refine z_iinc4 F 1 dX4_goneWithHole_42 rfl zv_i_1 ?_
          refine z_goto F 24 dX4_goneWithHole_45 (by decide) ?_
          have h := ih (c + 1) (by omega) (s_stirs (s_goPs (s_hole (s_bec (D.1 1) T0 N) (nI v)) N c) N) (s_goP (s_goPs (s_hole (s_bec (D.1 1) T0 N) (nI v)) N c) N) (s_goP_4 hT4) (fun _ => rfl) (fun z => by
            show s_lie (s_goPs (s_hole (s_bec (D.1 1) T0 N) (nI v)) N (c + 1)) 0 N = s_lie (s_goPs (s_hole (s_bec (D.1 1) T0 N) (nI v)) N q) 0 N
            rw [s_lie_fix z (show c ≤ c + 1 by omega), s_lie_fix z (show c ≤ q by omega)])
          rw [show nI (c + 1) = nI c + 1 from nI_succ c] at h
          exact h
  exact loop q 0 (by omega) true (s_hole (s_bec (D.1 1) T0 N) (nI v)) (by rw [s_hole_lo _ _ (by decide), s_bec_4]; exact hN) (fun _ => rfl) (fun z => by cases z)
set_option maxHeartbeats 1000000 in
set_option maxRecDepth 20000 in
theorem c4_stay (D : zD) (T0 : Nat → Int32) {N : Nat} (hT : T0 4 = nI N) (h10 : N ≤ 10) (j : Nat) (hj : j < N) : z_CI SX zT yX4_stayInTrial cX4_stayInTrial 4 .int 4 [.ref 0, .int (nI j)] (z_row D 2 T0) (fun r E => r = nI (v_till T0 N j false) ∧ ∃ T, E = z_row D 2 T) := by
  refine z_startI SX_ok (by decide +kernel) (fun v hv => by simp at hv; rcases hv with rfl | rfl <;> rfl) (Nat.le_of_ble_eq_true rfl) (fun X F hR => ?_)
  show z_J X SX 0 [some (.ref 0), some (.int (nI j)), none, none] [] (z_row D 2 T0)
  refine z_iconst F 1 dX4_stayInTrial_0 zv_i_1 ?_
  refine z_istore2 F dX4_stayInTrial_1 rfl ?_
  refine z_iconst F 0 dX4_stayInTrial_2 zv_i_0 ?_
  refine z_istore3 F dX4_stayInTrial_3 rfl ?_
  have loop : ∀ f c, c + f = 101 → ∀ (b : Bool) (T : Nat → Int32), T 4 = nI N → (b = true → T = s_goPs T0 N c ∧ s_till (s_isP j false) T0 N f c = v_till T0 N j false) → (b = false → v_till T0 N j false = 101) → z_J X SX 4 [some (.ref 0), some (.int (nI j)), some (.int (z_b b)), some (.int (nI c))] [] (z_row D 2 T) := by
    intro f
    induction f with
    | zero =>
      intro c hn b T hT4 hbt hbf
      refine z_iload3 F dX4_stayInTrial_4 ?_
      refine z_bipush F 100 dX4_stayInTrial_5 zv_b_100 ?_
      refine z_ic_gt F 45 dX4_stayInTrial_7 (by decide) (fun h7 => ?_) (fun h7 => ?_)
      · have ev : v_till T0 N j false = 101 := by
          cases b with
          | true =>
            have h := (hbt rfl).2
            rw [s_till] at h
            omega
          | false => exact hbf rfl
        refine z_bipush F 101 dX4_stayInTrial_45 zv_b_101 ?_
        refine hR _ _ _ _ dX4_stayInTrial_47 rfl ?_
        refine ⟨?_, T, rfl⟩
        rw [ev]
        rfl
      · exact absurd (nI_lt (a := 100) (b := c) (by omega) (by omega)) h7
    | succ f ih =>
      intro c hn b T hT4 hbt hbf
      refine z_iload3 F dX4_stayInTrial_4 ?_
      refine z_bipush F 100 dX4_stayInTrial_5 zv_b_100 ?_
      refine z_ic_gt F 45 dX4_stayInTrial_7 (by decide) (fun h7 => ?_) (fun h7 => ?_)
      · exact absurd h7 (nI_nlt (a := 100) (b := c) (by omega) (by omega))
      · refine z_iload2 F dX4_stayInTrial_10 ?_
        refine z_ifb_eq F 45 dX4_stayInTrial_11 (by decide) (fun h11 => ?_) (fun h11 => ?_)
        · have ev := hbf h11
          refine z_bipush F 101 dX4_stayInTrial_45 zv_b_101 ?_
          refine hR _ _ _ _ dX4_stayInTrial_47 rfl ?_
          refine ⟨?_, T, rfl⟩
          rw [ev]
          rfl
        · obtain ⟨eT, et⟩ := hbt h11
          subst eT
          have hgo := s_in_go T0 h10 hj c
          refine z_aload0 F dX4_stayInTrial_14 ?_
          refine z_getR F PH_trial fX4_16 dX4_stayInTrial_15 ?_
          refine z_getR F (C_row z_r2) fX4_71 dX4_stayInTrial_18 ?_
          refine z_iload1 F dX4_stayInTrial_21 ?_
          refine z_aald F (aRow z_r2) (Or.inl rfl) (j) rfl (show j < 10 by omega) dX4_stayInTrial_22 ?_
          refine z_getI F (K_f z_r2 (show j < 10 by omega) 4 (by decide)) fX4_95 dX4_stayInTrial_23 ?_
          rw [z_rowr]
          refine z_if_eq F 31 dX4_stayInTrial_26 (by decide) (fun h26 => ?_) (fun h26 => ?_)
          · have hp : s_isP j false (s_steps T0 N c) = false := by
              rw [s_isP, if_neg (by decide), decide_eq_true (hgo.mp h26)]
              rfl
            refine z_aload0 F dX4_stayInTrial_31 ?_
            refine z_getR F PH_trial fX4_16 dX4_stayInTrial_32 ?_
            refine z_callVI0 F (c4_tgoP D _ hT4 h10) kX4_148 (by decide) (ocC z_r2) (Nat.le_of_ble_eq_true rfl) rfl dX4_stayInTrial_35 ?_
            refine z_istore2 F dX4_stayInTrial_38 rfl ?_
            refine z_iinc3 F 1 dX4_stayInTrial_39 rfl zv_i_1 ?_
            refine z_goto F 4 dX4_stayInTrial_42 (by decide) ?_
            have h := ih (c + 1) (by omega) (s_stirs (s_goPs T0 N c) N) (s_goP (s_goPs T0 N c) N) (s_goP_4 hT4) (fun _ => ⟨rfl, by rw [← et, s_till, if_neg (by rw [hp]; decide)]⟩) (fun z => by rw [← et, s_till_fix h10 hj z h26]; omega)
            rw [show nI (c + 1) = nI c + 1 from nI_succ c] at h
            exact h
          · have hp : s_isP j false (s_steps T0 N c) = true := by
              rw [s_isP, if_neg (by decide), decide_eq_false (fun z => h26 (hgo.mpr z))]
              rfl
            refine z_iload3 F dX4_stayInTrial_29 ?_
            refine hR _ _ _ _ dX4_stayInTrial_30 rfl ?_
            refine ⟨?_, _, rfl⟩
            rw [← et, s_till, if_pos hp]
  exact loop 101 0 rfl true T0 hT (fun _ => ⟨rfl, rfl⟩) (fun z => by cases z)
theorem v_till_ag {N : Nat} {T σ : Nat → Int32} (h : ag N T σ) {c : Nat} (hc : c < N) (fa : Bool) : v_till T N c fa = v_till σ N c fa := by
  have key : ∀ f n, s_till (s_isP c fa) T N f n = s_till (s_isP c fa) σ N f n := by
    intro f
    induction f with
    | zero => intro n; rfl
    | succ f ih =>
      intro n
      have e : s_isP c fa (s_steps T N n) = s_isP c fa (s_steps σ N n) := by
        unfold s_isP
        rw [ag_c (s_steps_ag h n) hc (show 4 < 8 by decide)]
      rw [s_till, s_till, e, ih]
  exact key 101 0
theorem v_till_101 (σ : Nat → Int32) (N c : Nat) (fa : Bool) : v_till σ N c fa ≤ 101 := s_till_le _ _ _ 101 0
set_option maxHeartbeats 1000000 in
set_option maxRecDepth 20000 in
theorem c4_when (D : zD) (c : Int32) {N : Nat} (hN : D.1 1 4 = nI N) (h10 : N ≤ 10) (hst : ∃ s, s ≤ 9999 ∧ D.1 1 0 = nI s) : z_CI SX zT yX4_when cX4_when 3 .int 5 [.ref 0, .int c] D (z_qX D (o_till (D.1 1) N c false)) := by
  refine z_startI SX_ok (by decide +kernel) (fun v hv => by simp at hv; rcases hv with rfl | rfl <;> rfl) (Nat.le_of_ble_eq_true rfl) (fun X F hR => ?_)
  show z_J X SX 0 [some (.ref 0), some (.int c), none] [] D
  refine z_aload0 F dX4_when_0 ?_
  refine z_getR F PH_coat fX4_10 dX4_when_1 ?_
  refine z_iload1 F dX4_when_4 ?_
  refine z_callVI1 F (c0_has _ z_r1 hN h10 _) kX4_67 (by decide) (ocC z_r1) (Nat.le_of_ble_eq_true rfl) rfl dX4_when_5 ?_
  refine z_ifb_ne F 17 dX4_when_8 (by decide) (fun h8 => ?_) (fun h8 => ?_)
  · refine z_aload0 F dX4_when_17 ?_
    refine z_bipush F 100 dX4_when_18 zv_b_100 ?_
    refine z_callVI1 F (c4_isTooFar _ _) kX4_114 (by decide) ocPH (Nat.le_of_ble_eq_true rfl) rfl dX4_when_20 ?_
    refine z_ifb_eq F 32 dX4_when_23 (by decide) (fun h23 => ?_) (fun h23 => ?_)
    · simp only [decide_eq_false_iff_not, i_late hst] at h23
      obtain ⟨j, hj, rfl⟩ := b_coin_ex h10 h8
      have hjn := i_n_n (j := j) (by omega)
      refine z_aload0 F dX4_when_32 ?_
      refine z_getR F PH_trial fX4_16 dX4_when_33 ?_
      refine z_aload0 F dX4_when_36 ?_
      refine z_getR F PH_coat fX4_10 dX4_when_37 ?_
      refine z_callVV1 F (by have h := c4_tbec2 D (D.1 2) hN h10; rw [z_row_eq] at h; exact h) kX4_135 (by decide) (ocC z_r2) (Nat.le_of_ble_eq_true rfl) rfl dX4_when_40 ?_
      refine z_aload0 F dX4_when_43 ?_
      refine z_iload1 F dX4_when_44 ?_
      refine z_callVI1p F (c4_stay D (s_bec (D.1 1) (D.1 2) N) (by rw [s_bec_4]; exact hN) h10 j hj) kX4_145 (by decide) ocPH (Nat.le_of_ble_eq_true rfl) rfl dX4_when_45 (fun r E hq => ?_)
      obtain ⟨rfl, T, rfl⟩ := hq
      rw [v_till_ag (s_bec_ag (D.1 1) (D.1 2) N) hj]
      have hle := v_till_101 (D.1 1) N j false
      refine z_istore2 F dX4_when_48 rfl ?_
      refine z_iload2 F dX4_when_49 ?_
      refine z_bipush F 100 dX4_when_50 zv_b_100 ?_
      refine z_ic_le F 63 dX4_when_52 (by decide) (fun h52 => ?_) (fun h52 => ?_)
      · have h52 : ¬ 100 < v_till (D.1 1) N j false := by
          have := (nI_leI (a := v_till (D.1 1) N j false) (b := 100) (by omega) (by decide)).mp h52
          omega
        refine z_iload2 F dX4_when_63 ?_
        refine hR _ _ _ _ dX4_when_64 rfl ?_
        simp only [o_till, h8, h23, hjn, Bool.false_eq_true, if_true, if_false, Bool.and_true, Bool.true_and, Bool.and_false, Bool.false_and, Bool.and_self, and_self]
        rw [if_neg h52]
        exact ⟨rfl, z_sm_row D _ (Or.inl rfl)⟩
      · have h52 : 100 < v_till (D.1 1) N j false := by
          rcases Nat.lt_or_ge 100 (v_till (D.1 1) N j false) with z | z
          · exact z
          · exact absurd ((nI_leI (a := v_till (D.1 1) N j false) (b := 100) (by omega) (by decide)).mpr z) h52
        refine z_aload0 F dX4_when_55 ?_
        refine z_iconst F 3 dX4_when_56 zv_i_3 ?_
        refine z_callVI1 F (c4_finding _ 3 (by decide)) kX4_55 (by decide) ocPH (Nat.le_of_ble_eq_true rfl) rfl dX4_when_57 ?_
        refine z_goto F 64 dX4_when_60 (by decide) ?_
        refine hR _ _ _ _ dX4_when_64 rfl ?_
        simp only [o_till, h8, h23, hjn, Bool.false_eq_true, if_true, if_false, Bool.and_true, Bool.true_and, Bool.and_false, Bool.false_and, Bool.and_self, and_self]
        rw [if_pos h52]
        exact ⟨rfl, z_sm_fX _ (z_sm_row D _ (Or.inl rfl))⟩
    · simp only [decide_eq_true_eq, i_late hst] at h23
      refine z_aload0 F dX4_when_26 ?_
      refine z_iconst F 4 dX4_when_27 zv_i_4 ?_
      refine z_callVI1 F (c4_finding _ 4 (by decide)) kX4_55 (by decide) ocPH (Nat.le_of_ble_eq_true rfl) rfl dX4_when_28 ?_
      refine hR _ _ _ _ dX4_when_31 rfl ?_
      simp only [o_till, h8, h23, Bool.false_eq_true, if_true, if_false, Bool.and_true, Bool.true_and, Bool.and_false, Bool.false_and, Bool.and_self, and_self]; first | exact ⟨rfl, rfl⟩ | exact ⟨by decide, rfl⟩ | exact ⟨by decide, z_sm_r _⟩ | exact ⟨rfl, z_sm_r _⟩
  · refine z_aload0 F dX4_when_11 ?_
    refine z_iconst F 0 dX4_when_12 zv_i_0 ?_
    refine z_callVI1 F (c4_finding _ 0 (by decide)) kX4_55 (by decide) ocPH (Nat.le_of_ble_eq_true rfl) rfl dX4_when_13 ?_
    refine hR _ _ _ _ dX4_when_16 rfl ?_
    simp only [o_till, h8, Bool.false_eq_true, if_true, if_false, Bool.and_true, Bool.true_and, Bool.and_false, Bool.false_and, Bool.and_self, and_self]; first | exact ⟨rfl, rfl⟩ | exact ⟨by decide, rfl⟩ | exact ⟨by decide, z_sm_r _⟩ | exact ⟨rfl, z_sm_r _⟩
