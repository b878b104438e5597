def rf : Option Nat → Int32
  | none => 0
  | some k => nF k
set_option maxHeartbeats 4000000 in
set_option maxRecDepth 20000 in
theorem c5_refuses (D : zD) (g : Bool) (x y : Int32) : z_CI SM zT yX5_refuses cX5_refuses 4 .int 1 [.ref 0, .int (z_b g), .int x, .int y] D (z_eq (rf (s_ref (D.1 1) g x y)) D) := by
  refine z_startI SM_ok (by decide +kernel) (fun v hv => by simp at hv; rcases hv with rfl | rfl | rfl | rfl <;> rfl) (Nat.le_of_ble_eq_true rfl) (fun X F hR => ?_)
  show z_J X SM 0 [some (.ref 0), some (.int (z_b g)), some (.int x), some (.int y)] [] D
  refine z_iload1 F dX5_refuses_0 ?_
  refine z_ifb_eq F 13 dX5_refuses_1 (by decide) (fun h1 => ?_) (fun h1 => ?_)
  · refine z_ldc F (-1000001) dX5_refuses_13 zw_721 ?_
    refine z_goto F 32 dX5_refuses_15 (by decide) ?_
    refine hR _ _ _ _ dX5_refuses_32 rfl ?_
    try simp only [decide_eq_true_eq, decide_eq_false_iff_not] at *
    first
      | (simp only [s_ref, h1, Bool.false_eq_true, if_true, if_false, Bool.and_true, Bool.true_and, Bool.and_false, Bool.false_and, Bool.and_self, and_self, rf]; exact ⟨by decide, rfl⟩)
      | (simp only [s_ref, h1, h10, Bool.false_eq_true, if_true, if_false, Bool.and_true, Bool.true_and, Bool.and_false, Bool.false_and, Bool.and_self, and_self, rf]; exact ⟨by decide, rfl⟩)
      | (simp only [s_ref, h1, h10, h23, Bool.false_eq_true, if_true, if_false, Bool.and_true, Bool.true_and, Bool.and_false, Bool.false_and, Bool.and_self, and_self, rf]; exact ⟨by decide, rfl⟩)
  · refine z_iload2 F dX5_refuses_4 ?_
    refine z_iconst F 1 dX5_refuses_5 zv_i_1 ?_
    refine z_iload3 F dX5_refuses_6 ?_
    refine z_callSI3 F (c5_within _ _ _ _) kX5_78 (by decide) (Nat.le_of_ble_eq_true rfl) rfl dX5_refuses_7 ?_
    refine z_ifb_ne F 18 dX5_refuses_10 (by decide) (fun h10 => ?_) (fun h10 => ?_)
    · refine z_aload0 F dX5_refuses_18 ?_
      refine z_iload2 F dX5_refuses_19 ?_
      refine z_callVI1 F (c5_isTooLate _ _) kX5_166 (by decide) ocM (Nat.le_of_ble_eq_true rfl) rfl dX5_refuses_20 ?_
      refine z_ifb_eq F 31 dX5_refuses_23 (by decide) (fun h23 => ?_) (fun h23 => ?_)
      · refine z_iconst F 0 dX5_refuses_31 zv_i_0 ?_
        refine hR _ _ _ _ dX5_refuses_32 rfl ?_
        try simp only [decide_eq_true_eq, decide_eq_false_iff_not] at *
        first
          | (simp only [s_ref, h1, Bool.false_eq_true, if_true, if_false, Bool.and_true, Bool.true_and, Bool.and_false, Bool.false_and, Bool.and_self, and_self, rf]; exact ⟨by decide, rfl⟩)
          | (simp only [s_ref, h1, h10, Bool.false_eq_true, if_true, if_false, Bool.and_true, Bool.true_and, Bool.and_false, Bool.false_and, Bool.and_self, and_self, rf]; exact ⟨by decide, rfl⟩)
          | (simp only [s_ref, h1, h10, h23, Bool.false_eq_true, if_true, if_false, Bool.and_true, Bool.true_and, Bool.and_false, Bool.false_and, Bool.and_self, and_self, rf]; exact ⟨by decide, rfl⟩)
      · refine z_ldc F (-1000005) dX5_refuses_26 zw_810 ?_
        refine z_goto F 32 dX5_refuses_28 (by decide) ?_
        refine hR _ _ _ _ dX5_refuses_32 rfl ?_
        try simp only [decide_eq_true_eq, decide_eq_false_iff_not] at *
        first
          | (simp only [s_ref, h1, Bool.false_eq_true, if_true, if_false, Bool.and_true, Bool.true_and, Bool.and_false, Bool.false_and, Bool.and_self, and_self, rf]; exact ⟨by decide, rfl⟩)
          | (simp only [s_ref, h1, h10, Bool.false_eq_true, if_true, if_false, Bool.and_true, Bool.true_and, Bool.and_false, Bool.false_and, Bool.and_self, and_self, rf]; exact ⟨by decide, rfl⟩)
          | (simp only [s_ref, h1, h10, h23, Bool.false_eq_true, if_true, if_false, Bool.and_true, Bool.true_and, Bool.and_false, Bool.false_and, Bool.and_self, and_self, rf]; exact ⟨by decide, rfl⟩)
    · refine z_ldc F (-1000001) dX5_refuses_13 zw_721 ?_
      refine z_goto F 32 dX5_refuses_15 (by decide) ?_
      refine hR _ _ _ _ dX5_refuses_32 rfl ?_
      try simp only [decide_eq_true_eq, decide_eq_false_iff_not] at *
      first
        | (simp only [s_ref, h1, Bool.false_eq_true, if_true, if_false, Bool.and_true, Bool.true_and, Bool.and_false, Bool.false_and, Bool.and_self, and_self, rf]; exact ⟨by decide, rfl⟩)
        | (simp only [s_ref, h1, h10, Bool.false_eq_true, if_true, if_false, Bool.and_true, Bool.true_and, Bool.and_false, Bool.false_and, Bool.and_self, and_self, rf]; exact ⟨by decide, rfl⟩)
        | (simp only [s_ref, h1, h10, h23, Bool.false_eq_true, if_true, if_false, Bool.and_true, Bool.true_and, Bool.and_false, Bool.false_and, Bool.and_self, and_self, rf]; exact ⟨by decide, rfl⟩)
theorem c5_refB (D : zD) (g : Bool) (x y : Int32) (h : ¬ (g && b_in x 1 y) = true) : z_CI SM zT yX5_refuses cX5_refuses 4 .int 1 [.ref 0, .int (z_b g), .int x, .int y] D (z_eq (-1000001) D) := by
  have := c5_refuses D g x y
  rw [s_ref, if_neg h] at this
  exact this
theorem c5_refL (D : zD) (g : Bool) (x y : Int32) (h : (g && b_in x 1 y) = true) (ht : 9999 < D.1 1 0 + x) : z_CI SM zT yX5_refuses cX5_refuses 4 .int 1 [.ref 0, .int (z_b g), .int x, .int y] D (z_eq (-1000005) D) := by
  have := c5_refuses D g x y
  rw [s_ref, if_pos h, if_pos ht] at this
  exact this
theorem c5_refO (D : zD) (g : Bool) (x y : Int32) (h : (g && b_in x 1 y) = true) (ht : ¬ 9999 < D.1 1 0 + x) : z_CI SM zT yX5_refuses cX5_refuses 4 .int 1 [.ref 0, .int (z_b g), .int x, .int y] D (z_eq 0 D) := by
  have := c5_refuses D g x y
  rw [s_ref, if_pos h, if_neg ht] at this
  exact this
set_option maxHeartbeats 4000000 in
set_option maxRecDepth 20000 in
theorem c5_tillTold (D : zD) (c : Int32) (fa : Bool) {N : Nat} (hN : D.1 1 4 = nI N) (h10 : N ≤ 10) : z_CI SM zT yX5_tillTold cX5_tillTold 4 .int 7 [.ref 0, .int c, .int (z_b fa)] D (z_qM D (o_till (D.1 1) N c fa)) := by
  refine z_startI SM_ok (by decide +kernel) (fun v hv => by simp at hv; rcases hv with rfl | rfl | rfl <;> rfl) (Nat.le_of_ble_eq_true rfl) (fun X F hR => ?_)
  show z_J X SM 0 [some (.ref 0), some (.int c), some (.int (z_b fa)), none] [] D
  refine z_aload0 F dX5_tillTold_0 ?_
  refine z_iload1 F dX5_tillTold_1 ?_
  refine z_callVI1 F (c5_isCoin _ _ hN h10) kX5_120 (by decide) ocM (Nat.le_of_ble_eq_true rfl) rfl dX5_tillTold_2 ?_
  refine z_ifb_ne F 15 dX5_tillTold_5 (by decide) (fun h5 => ?_) (fun h5 => ?_)
  · obtain ⟨j, hj, rfl⟩ := b_coin_ex h10 h5
    have hjn := i_n_n (j := j) (by omega)
    refine z_aload0 F dX5_tillTold_15 ?_
    refine z_callVI0 F (c5_isLate _) kX5_180 (by decide) ocM (Nat.le_of_ble_eq_true rfl) rfl dX5_tillTold_16 ?_
    refine z_ifb_eq F 29 dX5_tillTold_19 (by decide) (fun h19 => ?_) (fun h19 => ?_)
    · simp only [decide_eq_false_iff_not] at h19
      have hle : v_till (D.1 1) N j fa ≤ 101 := s_till_le _ _ _ 101 0
      refine z_aload0 F dX5_tillTold_29 ?_
      refine z_iload1 F dX5_tillTold_30 ?_
      refine z_iload2 F dX5_tillTold_31 ?_
      refine z_callVI2 F (c5_till _ j fa hN h10 (by omega)) kX5_184 (by decide) ocM (Nat.le_of_ble_eq_true rfl) rfl dX5_tillTold_32 ?_
      refine z_istore3 F dX5_tillTold_35 rfl ?_
      refine z_iload3 F dX5_tillTold_36 ?_
      refine z_bipush F 100 dX5_tillTold_37 zv_b_100 ?_
      refine z_ic_le F 51 dX5_tillTold_39 (by decide) (fun h39 => ?_) (fun h39 => ?_)
      · have hv : ¬ 100 < v_till (D.1 1) N j fa := by
          have := (nI_leI (a := v_till (D.1 1) N j fa) (b := 100) (by omega) (by decide)).mp h39
          omega
        refine z_iload3 F dX5_tillTold_51 ?_
        refine hR _ _ _ _ dX5_tillTold_52 rfl ?_
        simp only [o_till, h5, h19, hjn, hv, Bool.false_eq_true, if_true, if_false, Bool.and_true, Bool.true_and, Bool.and_false, Bool.false_and, Bool.and_self, and_self]; first | exact ⟨rfl, rfl⟩ | exact ⟨by decide, rfl⟩ | exact ⟨by decide, z_sm_r _⟩ | exact ⟨rfl, z_sm_r _⟩ | exact ⟨rfl, z_sm_as _⟩ | exact ⟨by decide, z_sm_fM _ (z_sm_as _)⟩
      · have hv : 100 < v_till (D.1 1) N j fa := by
          rcases Nat.lt_or_ge 100 (v_till (D.1 1) N j fa) with z | z
          · exact z
          · exact absurd (nI_le (a := v_till (D.1 1) N j fa) (b := 100) z (by decide)) h39
        refine z_aload0 F dX5_tillTold_42 ?_
        refine z_ldc F (-1000004) dX5_tillTold_43 zw_860 ?_
        refine z_callVI1 F (c5_finding _ _ 3 (by decide) (by decide)) kX5_93 (by decide) ocM (Nat.le_of_ble_eq_true rfl) rfl dX5_tillTold_45 ?_
        refine z_goto F 52 dX5_tillTold_48 (by decide) ?_
        refine hR _ _ _ _ dX5_tillTold_52 rfl ?_
        simp only [o_till, h5, h19, hjn, hv, Bool.false_eq_true, if_true, if_false, Bool.and_true, Bool.true_and, Bool.and_false, Bool.false_and, Bool.and_self, and_self]; first | exact ⟨rfl, rfl⟩ | exact ⟨by decide, rfl⟩ | exact ⟨by decide, z_sm_r _⟩ | exact ⟨rfl, z_sm_r _⟩ | exact ⟨rfl, z_sm_as _⟩ | exact ⟨by decide, z_sm_fM _ (z_sm_as _)⟩
    · simp only [decide_eq_true_eq] at h19
      refine z_aload0 F dX5_tillTold_22 ?_
      refine z_ldc F (-1000005) dX5_tillTold_23 zw_810 ?_
      refine z_callVI1 F (c5_finding _ _ 4 (by decide) (by decide)) kX5_93 (by decide) ocM (Nat.le_of_ble_eq_true rfl) rfl dX5_tillTold_25 ?_
      refine hR _ _ _ _ dX5_tillTold_28 rfl ?_
      simp only [o_till, h5, h19, Bool.false_eq_true, if_true, if_false, Bool.and_true, Bool.true_and, Bool.and_false, Bool.false_and, Bool.and_self, and_self]; first | exact ⟨rfl, rfl⟩ | exact ⟨by decide, rfl⟩ | exact ⟨by decide, z_sm_r _⟩ | exact ⟨rfl, z_sm_r _⟩ | exact ⟨rfl, z_sm_as _⟩ | exact ⟨by decide, z_sm_fM _ (z_sm_as _)⟩
  · refine z_aload0 F dX5_tillTold_8 ?_
    refine z_ldc F (-1000001) dX5_tillTold_9 zw_721 ?_
    refine z_callVI1 F (c5_finding _ _ 0 (by decide) (by decide)) kX5_93 (by decide) ocM (Nat.le_of_ble_eq_true rfl) rfl dX5_tillTold_11 ?_
    refine hR _ _ _ _ dX5_tillTold_14 rfl ?_
    simp only [o_till, h5, Bool.false_eq_true, if_true, if_false, Bool.and_true, Bool.true_and, Bool.and_false, Bool.false_and, Bool.and_self, and_self]; first | exact ⟨rfl, rfl⟩ | exact ⟨by decide, rfl⟩ | exact ⟨by decide, z_sm_r _⟩ | exact ⟨rfl, z_sm_r _⟩ | exact ⟨rfl, z_sm_as _⟩ | exact ⟨by decide, z_sm_fM _ (z_sm_as _)⟩
set_option maxHeartbeats 4000000 in
set_option maxRecDepth 20000 in
theorem c5_when (D : zD) (c : Int32) {N : Nat} (hN : D.1 1 4 = nI N) (h10 : N ≤ 10) : z_CI SM zT yX5_when cX5_when 2 .int 8 [.ref 0, .int c] D (z_qM D (o_till (D.1 1) N c false)) := by
  refine z_startI SM_ok (by decide +kernel) (fun v hv => by simp at hv; rcases hv with rfl | rfl <;> rfl) (Nat.le_of_ble_eq_true rfl) (fun X F hR => ?_)
  show z_J X SM 0 [some (.ref 0), some (.int c)] [] D
  refine z_aload0 F dX5_when_0 ?_
  refine z_iload1 F dX5_when_1 ?_
  refine z_iconst F 0 dX5_when_2 zv_i_0 ?_
  refine z_callVI2p F (c5_tillTold _ _ false hN h10) kX5_189 (by decide) ocM (Nat.le_of_ble_eq_true rfl) rfl dX5_when_3 (fun r E hp => ?_)
  refine hR _ _ _ _ dX5_when_6 rfl ?_
  exact hp
set_option maxHeartbeats 4000000 in
set_option maxRecDepth 20000 in
theorem c5_falls (D : zD) (c : Int32) {N : Nat} (hN : D.1 1 4 = nI N) (h10 : N ≤ 10) : z_CI SM zT yX5_falls cX5_falls 2 .int 8 [.ref 0, .int c] D (z_qM D (o_till (D.1 1) N c true)) := by
  refine z_startI SM_ok (by decide +kernel) (fun v hv => by simp at hv; rcases hv with rfl | rfl <;> rfl) (Nat.le_of_ble_eq_true rfl) (fun X F hR => ?_)
  show z_J X SM 0 [some (.ref 0), some (.int c)] [] D
  refine z_aload0 F dX5_falls_0 ?_
  refine z_iload1 F dX5_falls_1 ?_
  refine z_iconst F 1 dX5_falls_2 zv_i_1 ?_
  refine z_callVI2p F (c5_tillTold _ _ true hN h10) kX5_189 (by decide) ocM (Nat.le_of_ble_eq_true rfl) rfl dX5_falls_3 (fun r E hp => ?_)
  refine hR _ _ _ _ dX5_falls_6 rfl ?_
  exact hp
theorem i_min_n (a b : Nat) (ha : a < 2 ^ 31) (hb : b < 2 ^ 31) : i_min (nI a) (nI b) = nI (if a < b then a else b) := by
  unfold i_min
  by_cases h : a < b
  · rw [if_pos h, if_pos (nI_lt h hb)]
  · rw [if_neg h, if_neg (nI_nlt (by omega) ha)]
theorem s_first_le (σ : Nat → Int32) (N : Nat) : ∀ c, (s_first σ N c).2 ≤ 101
  | 0 => Nat.le_refl _
  | c + 1 => by
    have ih := s_first_le σ N c
    have hv : v_till σ N c false ≤ 101 := s_till_le _ _ _ 101 0
    show (if (if σ (16 + 8 * c + 4) = 0 then v_till σ N c false else 101) < (s_first σ N c).2 then (if σ (16 + 8 * c + 4) = 0 then v_till σ N c false else 101) else (s_first σ N c).2) ≤ 101
    by_cases h : σ (16 + 8 * c + 4) = 0
    · rw [if_pos h]; split <;> omega
    · rw [if_neg h]; split <;> omega
set_option maxHeartbeats 4000000 in
set_option maxRecDepth 20000 in
theorem c5_first (D : zD) {N : Nat} (hN : D.1 1 4 = nI N) (h10 : N ≤ 10) : z_CI SM zT yX5_first cX5_first 5 .int 7 [.ref 0] D (z_qM D (o_first (D.1 1) N)) := by
  refine z_startI SM_ok (by decide +kernel) (fun v hv => by simp at hv; subst hv; rfl) (Nat.le_of_ble_eq_true rfl) (fun X F hR => ?_)
  show z_J X SM 0 [some (.ref 0), none, none, none, none] [] D
  have h0 : (9899 < D.1 1 0) ∨ ¬ (9899 < D.1 1 0) := Classical.em _
  have key : ¬ (9899 < D.1 1 0) → z_J X SM 21 [some (.ref 0), some (.int (-1)), some (.int (101)), some (.int (0)), none] [] D := by
    intro h4
    have loop : ∀ (n c : Nat), c + n = N → ∀ (E : zD), z_sm D E → ∀ (a4 : Option Value), z_J X SM 21 [some (.ref 0), some (.int (s_first (D.1 1) N c).1), some (.int (nI (s_first (D.1 1) N c).2)), some (.int (nI c)), a4] [] E := by
      intro n
      induction n with
      | zero =>
        intro c hn E hs a4
        refine z_iload3 F dX5_first_21 ?_
        refine z_aload0 F dX5_first_22 ?_
        refine z_getR F M_now fX5_9 dX5_first_23 ?_
        refine z_iconst F 4 dX5_first_26 zv_i_4 ?_
        refine z_iald F aM_now (4) rfl (by omega) dX5_first_27 ?_
        refine z_ic_ge F 78 dX5_first_28 (by decide) (fun h28 => ?_) (fun h28 => ?_)
        · refine z_iload1 F dX5_first_78 ?_
          refine z_if_ge F 91 dX5_first_79 (by decide) (fun h79 => ?_) (fun h79 => ?_)
          · refine z_iload1 F dX5_first_91 ?_
            refine hR _ _ _ _ dX5_first_92 rfl ?_
            have ec : c = N := by omega
            subst ec
            simp only [o_first, h4, if_false]
            first
              | (have h79 := Int32.not_le.mp h79; rw [if_pos h79]; exact ⟨by decide, z_sm_fM _ hs⟩)
              | (rw [if_neg (Int32.not_lt.mpr h79)]; exact ⟨rfl, hs⟩)
          · refine z_aload0 F dX5_first_82 ?_
            refine z_ldc F (-1000004) dX5_first_83 zw_860 ?_
            refine z_callVI1 F (c5_finding _ _ 3 (by decide) (by decide)) kX5_93 (by decide) ocM (Nat.le_of_ble_eq_true rfl) rfl dX5_first_85 ?_
            refine z_goto F 92 dX5_first_88 (by decide) ?_
            refine hR _ _ _ _ dX5_first_92 rfl ?_
            have ec : c = N := by omega
            subst ec
            simp only [o_first, h4, if_false]
            first
              | (have h79 := Int32.not_le.mp h79; rw [if_pos h79]; exact ⟨by decide, z_sm_fM _ hs⟩)
              | (rw [if_neg (Int32.not_lt.mpr h79)]; exact ⟨rfl, hs⟩)
        · exact absurd (by rw [hs.1, hN]; exact nI_le (by omega) (by omega)) h28
      | succ n ih =>
        intro c hn E hs a4
        refine z_iload3 F dX5_first_21 ?_
        refine z_aload0 F dX5_first_22 ?_
        refine z_getR F M_now fX5_9 dX5_first_23 ?_
        refine z_iconst F 4 dX5_first_26 zv_i_4 ?_
        refine z_iald F aM_now (4) rfl (by omega) dX5_first_27 ?_
        refine z_ic_ge F 78 dX5_first_28 (by decide) (fun h28 => ?_) (fun h28 => ?_)
        · exact absurd h28 (by rw [hs.1, hN]; exact nI_ge (by omega) (by omega))
        · refine z_aload0 F dX5_first_31 ?_
          refine z_iload3 F dX5_first_32 ?_
          refine z_iconst F 0 dX5_first_33 zv_i_0 ?_
          refine z_callVI2 F (c5_isIn _ (c) _ (by omega)) kX5_135 (by decide) ocM (Nat.le_of_ble_eq_true rfl) rfl dX5_first_34 ?_
          refine z_ifb_eq F 49 dX5_first_37 (by decide) (fun h37 => ?_) (fun h37 => ?_)
          · simp only [decide_eq_false_iff_not, hs.1] at h37
            have hfl := s_first_le (D.1 1) N c
            refine z_bipush F 101 dX5_first_49 zv_b_101 ?_
            refine z_istore4 F dX5_first_51 rfl ?_
            refine z_iload4 F dX5_first_53 ?_
            refine z_iload2 F dX5_first_55 ?_
            refine z_ic_ge F 63 dX5_first_56 (by decide) (fun h56 => ?_) (fun h56 => ?_)
            · refine z_iload1 F dX5_first_63 ?_
              refine z_istore1 F dX5_first_64 rfl ?_
              refine z_iload2 F dX5_first_65 ?_
              refine z_iload4 F dX5_first_66 ?_
              refine z_min F zw_820 (by decide) rfl (Nat.le_of_ble_eq_true rfl) dX5_first_68 ?_
              refine z_istore2 F dX5_first_71 rfl ?_
              refine z_iinc3 F 1 dX5_first_72 rfl zv_i_1 ?_
              refine z_goto F 21 dX5_first_75 (by decide) ?_
              have h := ih (c + 1) (by omega) _ (z_sm_t hs (z_sm_r _)) (some (.int (nI 101)))
              have e1 : (s_first (D.1 1) N (c + 1)).1 = (s_first (D.1 1) N c).1 := by
                show (if (if D.1 1 (16 + 8 * c + 4) = 0 then v_till (D.1 1) N c false else 101) < (s_first (D.1 1) N c).2 then nI c else (s_first (D.1 1) N c).1) = _
                rw [if_neg h37]
                exact if_neg (fun q => Int32.not_lt.mpr h56 (nI_lt q (by omega)))
              have e2 : nI (s_first (D.1 1) N (c + 1)).2 = i_min (nI 101) (nI (s_first (D.1 1) N c).2) := by
                rw [i_min_n _ _ (by omega) (by omega)]
                show nI (if (if D.1 1 (16 + 8 * c + 4) = 0 then v_till (D.1 1) N c false else 101) < (s_first (D.1 1) N c).2 then (if D.1 1 (16 + 8 * c + 4) = 0 then v_till (D.1 1) N c false else 101) else (s_first (D.1 1) N c).2) = _
                rw [if_neg h37]
              rw [e1, e2, show nI (c + 1) = nI c + 1 from nI_succ c] at h
              exact h
            · refine z_iload3 F dX5_first_59 ?_
              refine z_goto F 64 dX5_first_60 (by decide) ?_
              refine z_istore1 F dX5_first_64 rfl ?_
              refine z_iload2 F dX5_first_65 ?_
              refine z_iload4 F dX5_first_66 ?_
              refine z_min F zw_820 (by decide) rfl (Nat.le_of_ble_eq_true rfl) dX5_first_68 ?_
              refine z_istore2 F dX5_first_71 rfl ?_
              refine z_iinc3 F 1 dX5_first_72 rfl zv_i_1 ?_
              refine z_goto F 21 dX5_first_75 (by decide) ?_
              have h := ih (c + 1) (by omega) _ (z_sm_t hs (z_sm_r _)) (some (.int (nI 101)))
              have e1 : (s_first (D.1 1) N (c + 1)).1 = nI c := by
                show (if (if D.1 1 (16 + 8 * c + 4) = 0 then v_till (D.1 1) N c false else 101) < (s_first (D.1 1) N c).2 then nI c else (s_first (D.1 1) N c).1) = _
                rw [if_neg h37]
                exact if_pos ((nI_ltI (a := 101) (b := (s_first (D.1 1) N c).2) (by omega) (by omega)).mp (Int32.not_le.mp h56))
              have e2 : nI (s_first (D.1 1) N (c + 1)).2 = i_min (nI 101) (nI (s_first (D.1 1) N c).2) := by
                rw [i_min_n _ _ (by omega) (by omega)]
                show nI (if (if D.1 1 (16 + 8 * c + 4) = 0 then v_till (D.1 1) N c false else 101) < (s_first (D.1 1) N c).2 then (if D.1 1 (16 + 8 * c + 4) = 0 then v_till (D.1 1) N c false else 101) else (s_first (D.1 1) N c).2) = _
                rw [if_neg h37]
              rw [e1, e2, show nI (c + 1) = nI c + 1 from nI_succ c] at h
              exact h
          · simp only [decide_eq_true_eq, hs.1] at h37
            have hle : v_till (D.1 1) N c false ≤ 101 := s_till_le _ _ _ 101 0
            have hfl := s_first_le (D.1 1) N c
            refine z_aload0 F dX5_first_40 ?_
            refine z_iload3 F dX5_first_41 ?_
            refine z_iconst F 0 dX5_first_42 zv_i_0 ?_
            refine z_callVI2 F (by have h := c5_till E c false (by rw [hs.1]; exact hN) h10 (by omega); rw [hs.1] at h; exact h) kX5_184 (by decide) ocM (Nat.le_of_ble_eq_true rfl) rfl dX5_first_43 ?_
            refine z_goto F 51 dX5_first_46 (by decide) ?_
            refine z_istore4 F dX5_first_51 rfl ?_
            refine z_iload4 F dX5_first_53 ?_
            refine z_iload2 F dX5_first_55 ?_
            refine z_ic_ge F 63 dX5_first_56 (by decide) (fun h56 => ?_) (fun h56 => ?_)
            · refine z_iload1 F dX5_first_63 ?_
              refine z_istore1 F dX5_first_64 rfl ?_
              refine z_iload2 F dX5_first_65 ?_
              refine z_iload4 F dX5_first_66 ?_
              refine z_min F zw_820 (by decide) rfl (Nat.le_of_ble_eq_true rfl) dX5_first_68 ?_
              refine z_istore2 F dX5_first_71 rfl ?_
              refine z_iinc3 F 1 dX5_first_72 rfl zv_i_1 ?_
              refine z_goto F 21 dX5_first_75 (by decide) ?_
              have h := ih (c + 1) (by omega) _ (z_sm_t hs (z_sm_as _)) (some (.int (nI (v_till (D.1 1) N c false))))
              have e1 : (s_first (D.1 1) N (c + 1)).1 = (s_first (D.1 1) N c).1 := by
                show (if (if D.1 1 (16 + 8 * c + 4) = 0 then v_till (D.1 1) N c false else 101) < (s_first (D.1 1) N c).2 then nI c else (s_first (D.1 1) N c).1) = _
                rw [if_pos h37]
                exact if_neg (fun q => Int32.not_lt.mpr h56 (nI_lt q (by omega)))
              have e2 : nI (s_first (D.1 1) N (c + 1)).2 = i_min (nI (v_till (D.1 1) N c false)) (nI (s_first (D.1 1) N c).2) := by
                rw [i_min_n _ _ (by omega) (by omega)]
                show nI (if (if D.1 1 (16 + 8 * c + 4) = 0 then v_till (D.1 1) N c false else 101) < (s_first (D.1 1) N c).2 then (if D.1 1 (16 + 8 * c + 4) = 0 then v_till (D.1 1) N c false else 101) else (s_first (D.1 1) N c).2) = _
                rw [if_pos h37]
              rw [e1, e2, show nI (c + 1) = nI c + 1 from nI_succ c] at h
              exact h
            · refine z_iload3 F dX5_first_59 ?_
              refine z_goto F 64 dX5_first_60 (by decide) ?_
              refine z_istore1 F dX5_first_64 rfl ?_
              refine z_iload2 F dX5_first_65 ?_
              refine z_iload4 F dX5_first_66 ?_
              refine z_min F zw_820 (by decide) rfl (Nat.le_of_ble_eq_true rfl) dX5_first_68 ?_
              refine z_istore2 F dX5_first_71 rfl ?_
              refine z_iinc3 F 1 dX5_first_72 rfl zv_i_1 ?_
              refine z_goto F 21 dX5_first_75 (by decide) ?_
              have h := ih (c + 1) (by omega) _ (z_sm_t hs (z_sm_as _)) (some (.int (nI (v_till (D.1 1) N c false))))
              have e1 : (s_first (D.1 1) N (c + 1)).1 = nI c := by
                show (if (if D.1 1 (16 + 8 * c + 4) = 0 then v_till (D.1 1) N c false else 101) < (s_first (D.1 1) N c).2 then nI c else (s_first (D.1 1) N c).1) = _
                rw [if_pos h37]
                exact if_pos ((nI_ltI (a := (v_till (D.1 1) N c false)) (b := (s_first (D.1 1) N c).2) (by omega) (by omega)).mp (Int32.not_le.mp h56))
              have e2 : nI (s_first (D.1 1) N (c + 1)).2 = i_min (nI (v_till (D.1 1) N c false)) (nI (s_first (D.1 1) N c).2) := by
                rw [i_min_n _ _ (by omega) (by omega)]
                show nI (if (if D.1 1 (16 + 8 * c + 4) = 0 then v_till (D.1 1) N c false else 101) < (s_first (D.1 1) N c).2 then (if D.1 1 (16 + 8 * c + 4) = 0 then v_till (D.1 1) N c false else 101) else (s_first (D.1 1) N c).2) = _
                rw [if_pos h37]
              rw [e1, e2, show nI (c + 1) = nI c + 1 from nI_succ c] at h
              exact h
    exact loop N 0 (by omega) D (z_sm_r D) none
  refine z_aload0 F dX5_first_0 ?_
  refine z_callVI0 F (c5_isLate _) kX5_180 (by decide) ocM (Nat.le_of_ble_eq_true rfl) rfl dX5_first_1 ?_
  refine z_ifb_eq F 14 dX5_first_4 (by decide) (fun h4 => ?_) (fun h4 => ?_)
  · simp only [decide_eq_false_iff_not] at h4
    refine z_iconst F (-1) dX5_first_14 zv_i_m1 ?_
    refine z_istore1 F dX5_first_15 rfl ?_
    refine z_bipush F 101 dX5_first_16 zv_b_101 ?_
    refine z_istore2 F dX5_first_18 rfl ?_
    refine z_iconst F 0 dX5_first_19 zv_i_0 ?_
    refine z_istore3 F dX5_first_20 rfl ?_
    exact key h4
  · refine z_aload0 F dX5_first_7 ?_
    refine z_ldc F (-1000005) dX5_first_8 zw_810 ?_
    refine z_callVI1 F (c5_finding _ _ 4 (by decide) (by decide)) kX5_93 (by decide) ocM (Nat.le_of_ble_eq_true rfl) rfl dX5_first_10 ?_
    refine hR _ _ _ _ dX5_first_13 rfl ?_
    simp only [decide_eq_true_eq] at h4
    simp only [o_first, h4, Bool.false_eq_true, if_true, if_false, Bool.and_true, Bool.true_and, Bool.and_false, Bool.false_and, Bool.and_self, and_self]; first | exact ⟨rfl, rfl⟩ | exact ⟨by decide, rfl⟩ | exact ⟨by decide, z_sm_r _⟩ | exact ⟨rfl, z_sm_r _⟩ | exact ⟨rfl, z_sm_as _⟩ | exact ⟨by decide, z_sm_fM _ (z_sm_as _)⟩
set_option maxHeartbeats 4000000 in
set_option maxRecDepth 20000 in
theorem c5_cell (D : zD) (c x : Int32) {N : Nat} (hN : D.1 1 4 = nI N) (h10 : N ≤ 10) : z_CI SM zT yX5_cell cX5_cell 5 .int 6 [.ref 0, .int c, .int x] D (z_qM D (o_cell (D.1 1) N c x)) := by
  refine z_startI SM_ok (by decide +kernel) (fun v hv => by simp at hv; rcases hv with rfl | rfl | rfl <;> rfl) (Nat.le_of_ble_eq_true rfl) (fun X F hR => ?_)
  show z_J X SM 0 [some (.ref 0), some (.int c), some (.int x), none, none] [] D
  refine z_aload0 F dX5_cell_0 ?_
  refine z_iload1 F dX5_cell_1 ?_
  refine z_callVI1 F (c5_isCoin _ _ hN h10) kX5_120 (by decide) ocM (Nat.le_of_ble_eq_true rfl) rfl dX5_cell_2 ?_
  refine z_ifb_eq F 18 dX5_cell_5 (by decide) (fun h5 => ?_) (fun h5 => ?_)
  · refine z_aload0 F dX5_cell_18 ?_
    refine z_ldc F (-1000001) dX5_cell_19 zw_721 ?_
    refine z_callVI1 F (c5_finding _ _ 0 (by decide) (by decide)) kX5_93 (by decide) ocM (Nat.le_of_ble_eq_true rfl) rfl dX5_cell_21 ?_
    refine hR _ _ _ _ dX5_cell_24 rfl ?_
    simp only [o_cell, h5, Bool.false_eq_true, if_true, if_false, Bool.and_true, Bool.true_and, Bool.and_false, Bool.false_and, Bool.and_self, and_self]; first | exact ⟨rfl, rfl⟩ | exact ⟨by decide, rfl⟩ | exact ⟨by decide, z_sm_r _⟩ | exact ⟨rfl, z_sm_r _⟩ | exact ⟨rfl, z_sm_as _⟩ | exact ⟨by decide, z_sm_fM _ (z_sm_as _)⟩
  · refine z_iload2 F dX5_cell_8 ?_
    refine z_iconst F 0 dX5_cell_9 zv_i_0 ?_
    refine z_bipush F 100 dX5_cell_10 zv_b_100 ?_
    refine z_callSI3 F (c5_within _ _ _ _) kX5_78 (by decide) (Nat.le_of_ble_eq_true rfl) rfl dX5_cell_12 ?_
    refine z_ifb_ne F 25 dX5_cell_15 (by decide) (fun h15 => ?_) (fun h15 => ?_)
    · obtain ⟨j, hj, rfl⟩ := b_coin_ex h10 h5
      obtain ⟨q, hq, rfl⟩ := b_in0 100 (by decide) h15
      have hjn := i_n_n (j := j) (by omega)
      have hqn := i_n_n (j := q) (by omega)
      refine z_aload0 F dX5_cell_25 ?_
      refine z_iload2 F dX5_cell_26 ?_
      refine z_callVI1 F (c5_isTooLate _ _) kX5_166 (by decide) ocM (Nat.le_of_ble_eq_true rfl) rfl dX5_cell_27 ?_
      refine z_ifb_eq F 40 dX5_cell_30 (by decide) (fun h30 => ?_) (fun h30 => ?_)
      · simp only [decide_eq_false_iff_not] at h30
        refine z_aload0 F dX5_cell_40 ?_
        refine z_getR F M_now fX5_9 dX5_cell_41 ?_
        refine z_aload0 F dX5_cell_44 ?_
        refine z_getR F M_aside fX5_16 dX5_cell_45 ?_
        refine z_callSV2 F (c5_aside D) kX5_74 (by decide) (Nat.le_of_ble_eq_true rfl) rfl dX5_cell_48 ?_
        rw [z_as_row D]
        refine z_aload0 F dX5_cell_51 ?_
        refine z_iload2 F dX5_cell_52 ?_
        refine z_callVI1 F (c5_stepsA D (D.1 1) q hN h10 (by omega)) kX5_170 (by decide) ocM (Nat.le_of_ble_eq_true rfl) rfl dX5_cell_53 ?_
        refine z_istore3 F dX5_cell_56 rfl ?_
        refine z_aload0 F dX5_cell_57 ?_
        refine z_iload3 F dX5_cell_58 ?_
        refine z_if_lt F 81 dX5_cell_59 (by decide) (fun h59 => ?_) (fun h59 => ?_)
        · exact absurd h59 (s_fell_nn _ h10 q)
        · refine z_aload0 F dX5_cell_62 ?_
          refine z_iload1 F dX5_cell_63 ?_
          refine z_iconst F 1 dX5_cell_64 zv_i_1 ?_
          refine z_callVI2 F (c5_isInA _ _ j _ (by omega)) kX5_135 (by decide) ocM (Nat.le_of_ble_eq_true rfl) rfl dX5_cell_65 ?_
          refine z_ifb_eq F 81 dX5_cell_68 (by decide) (fun h68 => ?_) (fun h68 => ?_)
          · simp only [decide_eq_false_iff_not] at h68
            refine z_iconst F (-1) dX5_cell_81 zv_i_m1 ?_
            refine z_callVI1 F (c5_putBackS D _ _ (fun i hi => s_steps_hi _ h10 hi q)) kX5_177 (by decide) ocM (Nat.le_of_ble_eq_true rfl) rfl dX5_cell_82 ?_
            refine z_istore4 F dX5_cell_85 rfl ?_
            refine z_iload4 F dX5_cell_87 ?_
            refine z_if_ge F 101 dX5_cell_89 (by decide) (fun h89 => ?_) (fun h89 => ?_)
            · exact absurd h89 (by decide)
            · refine z_aload0 F dX5_cell_92 ?_
              refine z_ldc F (-1000004) dX5_cell_93 zw_860 ?_
              refine z_callVI1 F (c5_finding _ _ 3 (by decide) (by decide)) kX5_93 (by decide) ocM (Nat.le_of_ble_eq_true rfl) rfl dX5_cell_95 ?_
              refine z_goto F 103 dX5_cell_98 (by decide) ?_
              refine hR _ _ _ _ dX5_cell_103 rfl ?_
              simp only [o_cell, h5, h15, h30, hjn, hqn, h68, Bool.false_eq_true, if_true, if_false, Bool.and_true, Bool.true_and, Bool.and_false, Bool.false_and, Bool.and_self, and_self]; first | exact ⟨rfl, rfl⟩ | exact ⟨by decide, rfl⟩ | exact ⟨by decide, z_sm_r _⟩ | exact ⟨rfl, z_sm_r _⟩ | exact ⟨rfl, z_sm_as _⟩ | exact ⟨by decide, z_sm_fM _ (z_sm_as _)⟩
          · simp only [decide_eq_true_eq] at h68
            refine z_aload0 F dX5_cell_71 ?_
            refine z_iload1 F dX5_cell_72 ?_
            refine z_bipush F 6 dX5_cell_73 zv_b_6 ?_
            refine z_callVI2 F (c5_coinIsA _ _ j 6 (by omega) (by decide)) kX5_105 (by decide) ocM (Nat.le_of_ble_eq_true rfl) rfl dX5_cell_75 ?_
            refine z_goto F 82 dX5_cell_78 (by decide) ?_
            refine z_callVI1 F (c5_putBackS D _ _ (fun i hi => s_steps_hi _ h10 hi q)) kX5_177 (by decide) ocM (Nat.le_of_ble_eq_true rfl) rfl dX5_cell_82 ?_
            refine z_istore4 F dX5_cell_85 rfl ?_
            refine z_iload4 F dX5_cell_87 ?_
            refine z_if_ge F 101 dX5_cell_89 (by decide) (fun h89 => ?_) (fun h89 => ?_)
            · have h89 := Int32.not_lt.mpr h89
              refine z_iload4 F dX5_cell_101 ?_
              refine hR _ _ _ _ dX5_cell_103 rfl ?_
              simp only [o_cell, h5, h15, h30, hjn, hqn, h68, h89, Bool.false_eq_true, if_true, if_false, Bool.and_true, Bool.true_and, Bool.and_false, Bool.false_and, Bool.and_self, and_self]; first | exact ⟨rfl, rfl⟩ | exact ⟨by decide, rfl⟩ | exact ⟨by decide, z_sm_r _⟩ | exact ⟨rfl, z_sm_r _⟩ | exact ⟨rfl, z_sm_as _⟩ | exact ⟨by decide, z_sm_fM _ (z_sm_as _)⟩
            · have h89 := Int32.not_le.mp h89
              refine z_aload0 F dX5_cell_92 ?_
              refine z_ldc F (-1000004) dX5_cell_93 zw_860 ?_
              refine z_callVI1 F (c5_finding _ _ 3 (by decide) (by decide)) kX5_93 (by decide) ocM (Nat.le_of_ble_eq_true rfl) rfl dX5_cell_95 ?_
              refine z_goto F 103 dX5_cell_98 (by decide) ?_
              refine hR _ _ _ _ dX5_cell_103 rfl ?_
              simp only [o_cell, h5, h15, h30, hjn, hqn, h68, h89, Bool.false_eq_true, if_true, if_false, Bool.and_true, Bool.true_and, Bool.and_false, Bool.false_and, Bool.and_self, and_self]; first | exact ⟨rfl, rfl⟩ | exact ⟨by decide, rfl⟩ | exact ⟨by decide, z_sm_r _⟩ | exact ⟨rfl, z_sm_r _⟩ | exact ⟨rfl, z_sm_as _⟩ | exact ⟨by decide, z_sm_fM _ (z_sm_as _)⟩
      · simp only [decide_eq_true_eq] at h30
        refine z_aload0 F dX5_cell_33 ?_
        refine z_ldc F (-1000005) dX5_cell_34 zw_810 ?_
        refine z_callVI1 F (c5_finding _ _ 4 (by decide) (by decide)) kX5_93 (by decide) ocM (Nat.le_of_ble_eq_true rfl) rfl dX5_cell_36 ?_
        refine hR _ _ _ _ dX5_cell_39 rfl ?_
        simp only [o_cell, h5, h15, h30, Bool.false_eq_true, if_true, if_false, Bool.and_true, Bool.true_and, Bool.and_false, Bool.false_and, Bool.and_self, and_self]; first | exact ⟨rfl, rfl⟩ | exact ⟨by decide, rfl⟩ | exact ⟨by decide, z_sm_r _⟩ | exact ⟨rfl, z_sm_r _⟩ | exact ⟨rfl, z_sm_as _⟩ | exact ⟨by decide, z_sm_fM _ (z_sm_as _)⟩
    · refine z_aload0 F dX5_cell_18 ?_
      refine z_ldc F (-1000001) dX5_cell_19 zw_721 ?_
      refine z_callVI1 F (c5_finding _ _ 0 (by decide) (by decide)) kX5_93 (by decide) ocM (Nat.le_of_ble_eq_true rfl) rfl dX5_cell_21 ?_
      refine hR _ _ _ _ dX5_cell_24 rfl ?_
      simp only [o_cell, h5, h15, Bool.false_eq_true, if_true, if_false, Bool.and_true, Bool.true_and, Bool.and_false, Bool.false_and, Bool.and_self, and_self]; first | exact ⟨rfl, rfl⟩ | exact ⟨by decide, rfl⟩ | exact ⟨by decide, z_sm_r _⟩ | exact ⟨rfl, z_sm_r _⟩ | exact ⟨rfl, z_sm_as _⟩ | exact ⟨by decide, z_sm_fM _ (z_sm_as _)⟩
