theorem s_ck_eq (σ : Nat → Int32) (c o : Nat) : (if s_ck σ o c = true then (1 : Int32) else 0) = if σ (16 + 8 * c + 4) = 1 ∧ σ (16 + 8 * o + 4) = 1 ∧ σ (16 + 8 * c + 6) = σ (16 + 8 * o + 6) then 1 else 0 := by
  by_cases h : σ (16 + 8 * c + 4) = 1 ∧ σ (16 + 8 * o + 4) = 1 ∧ σ (16 + 8 * c + 6) = σ (16 + 8 * o + 6)
  · rw [if_pos h, if_pos (by rw [s_ck, decide_eq_true h.2.1, decide_eq_true h.1, decide_eq_true h.2.2.symm]; rfl)]
  · rw [if_neg h, if_neg]
    intro g
    rw [s_ck, Bool.and_eq_true, Bool.and_eq_true, decide_eq_true_eq, decide_eq_true_eq, decide_eq_true_eq] at g
    exact h ⟨g.1.2, g.1.1, g.2.symm⟩
theorem s_ckX_succ (σ : Nat → Int32) (N : Nat) : ∀ c, c ≤ N → s_ckX σ (N + 1) c = s_ckX σ N c + s_clk1 σ N c
  | 0, _ => by rw [s_ckX, s_ckX, s_clk1]; rfl
  | c + 1, h => by
    rw [s_ckX, s_ckX, s_clk1, s_ckX_succ σ N c (by omega), show N + 1 - (c + 1) = (N - (c + 1)) + 1 by omega, s_ck1, show c + 1 + (N - (c + 1)) = N by omega, s_ck_eq]
    generalize s_ckX σ N c = a
    generalize s_clk1 σ N c = b
    generalize s_ck1 σ c (N - (c + 1)) = d
    generalize (if σ (16 + 8 * N + 4) = 1 ∧ σ (16 + 8 * c + 4) = 1 ∧ σ (16 + 8 * N + 6) = σ (16 + 8 * c + 6) then (1 : Int32) else 0) = e
    rw [Int32.add_assoc, Int32.add_assoc, ← Int32.add_assoc b, ← Int32.add_assoc d, Int32.add_comm b d, Int32.add_assoc d]
theorem s_ckX_clk (σ : Nat → Int32) : ∀ N, s_ckX σ N N = s_clk σ N
  | 0 => rfl
  | N + 1 => by
    rw [s_ckX, Nat.sub_self, s_ck1, i_add0, s_ckX_succ σ N N (Nat.le_refl _), s_ckX_clk σ N, s_clk]
set_option maxHeartbeats 1000000 in
set_option maxRecDepth 20000 in
theorem c0_clinks (D : zD) {r : Nat} (hr : z_R3 r) {N : Nat} (hN : D.1 r 4 = nI N) (h10 : N ≤ 10) : z_CI SX zT yX0_clinkingPairs cX0_clinkingPairs 4 .int 1 [.ref r] D (z_eq (s_clk (D.1 r) N) D) := by
  refine z_startI SX_ok (by decide +kernel) (fun v hv => by simp at hv; subst hv; rfl) (Nat.le_of_ble_eq_true rfl) (fun X F hR => ?_)
  show z_J X SX 0 [some (.ref r), none, none, none] [] D
  refine z_iconst F 0 dX0_clinkingPairs_0 zv_i_0 ?_
  refine z_istore1 F dX0_clinkingPairs_1 rfl ?_
  refine z_iconst F 0 dX0_clinkingPairs_2 zv_i_0 ?_
  refine z_istore2 F dX0_clinkingPairs_3 rfl ?_
  have loop : ∀ (n c : Nat), c + n = N → ∀ (a3 : Option Value), z_J X SX 4 [some (.ref r), some (.int (s_ckX (D.1 r) N c)), some (.int (nI c)), a3] [] D := by
    intro n
    induction n with
    | zero =>
      intro c hn a3
      refine z_iload2 F dX0_clinkingPairs_4 ?_
      refine z_aload0 F dX0_clinkingPairs_5 ?_
      refine z_getI F (C_coins hr) fX0_27 dX0_clinkingPairs_6 ?_
      refine z_ic_ge F 48 dX0_clinkingPairs_9 (by decide) (fun h9 => ?_) (fun h9 => ?_)
      · refine z_iload1 F dX0_clinkingPairs_48 ?_
        refine hR _ _ _ _ dX0_clinkingPairs_49 rfl ?_
        exact ⟨by rw [show c = N by omega, s_ckX_clk], rfl⟩
      · exact absurd (by rw [hN]; exact nI_le (by omega) (by omega)) h9
    | succ n ih =>
      intro c hn a3
      refine z_iload2 F dX0_clinkingPairs_4 ?_
      refine z_aload0 F dX0_clinkingPairs_5 ?_
      refine z_getI F (C_coins hr) fX0_27 dX0_clinkingPairs_6 ?_
      refine z_ic_ge F 48 dX0_clinkingPairs_9 (by decide) (fun h9 => ?_) (fun h9 => ?_)
      · exact absurd h9 (by rw [hN]; exact nI_ge (by omega) (by omega))
      · refine z_iload2 F dX0_clinkingPairs_12 ?_
        refine z_iconst F 1 dX0_clinkingPairs_13 zv_i_1 ?_
        refine z_iadd F dX0_clinkingPairs_14 ?_
        refine z_istore3 F dX0_clinkingPairs_15 rfl ?_
        have ih2 := ih
        have inner : ∀ (n i : Nat), i + n = N - (c + 1) → z_J X SX 16 [some (.ref r), some (.int (s_ckX (D.1 r) N c + s_ck1 (D.1 r) c i)), some (.int (nI c)), some (.int (nI (c + 1 + i)))] [] D := by
          intro n
          induction n with
          | zero =>
            intro i hn 
            refine z_iload3 F dX0_clinkingPairs_16 ?_
            refine z_aload0 F dX0_clinkingPairs_17 ?_
            refine z_getI F (C_coins hr) fX0_27 dX0_clinkingPairs_18 ?_
            refine z_ic_ge F 42 dX0_clinkingPairs_21 (by decide) (fun h21 => ?_) (fun h21 => ?_)
            · refine z_iinc2 F 1 dX0_clinkingPairs_42 rfl zv_i_1 ?_
              refine z_goto F 4 dX0_clinkingPairs_45 (by decide) ?_
              have h := ih2 (c + 1) (by omega) (some (.int (nI (c + 1 + i))))
              rw [show nI (c + 1) = nI c + 1 from nI_succ c, s_ckX, show N - (c + 1) = i by omega] at h
              exact h
            · exact absurd (by rw [hN]; exact nI_le (by omega) (by omega)) h21
          | succ n ih =>
            intro i hn 
            refine z_iload3 F dX0_clinkingPairs_16 ?_
            refine z_aload0 F dX0_clinkingPairs_17 ?_
            refine z_getI F (C_coins hr) fX0_27 dX0_clinkingPairs_18 ?_
            refine z_ic_ge F 42 dX0_clinkingPairs_21 (by decide) (fun h21 => ?_) (fun h21 => ?_)
            · exact absurd h21 (by rw [hN]; exact nI_ge (by omega) (by omega))
            · refine z_aload0 F dX0_clinkingPairs_24 ?_
              refine z_iload2 F dX0_clinkingPairs_25 ?_
              refine z_iload3 F dX0_clinkingPairs_26 ?_
              refine z_callVI2 F (c0_clink D hr hN h10 c (c + 1 + i) (by omega) (by omega)) kX0_81 (by decide) (ocC hr) (Nat.le_of_ble_eq_true rfl) rfl dX0_clinkingPairs_27 ?_
              refine z_ifb_eq F 36 dX0_clinkingPairs_30 (by decide) (fun h30 => ?_) (fun h30 => ?_)
              · refine z_iinc3 F 1 dX0_clinkingPairs_36 rfl zv_i_1 ?_
                refine z_goto F 16 dX0_clinkingPairs_39 (by decide) ?_
                have h := ih (i + 1) (by omega)
                rw [show nI (c + 1 + (i + 1)) = nI (c + 1 + i) + 1 from nI_succ _, s_ck1] at h
                first
                  | (rw [if_pos h30, ← Int32.add_assoc] at h; exact h)
                  | (rw [if_neg (by rw [h30]; decide), i_add0] at h; exact h)
              · refine z_iinc1 F 1 dX0_clinkingPairs_33 rfl zv_i_1 ?_
                refine z_iinc3 F 1 dX0_clinkingPairs_36 rfl zv_i_1 ?_
                refine z_goto F 16 dX0_clinkingPairs_39 (by decide) ?_
                have h := ih (i + 1) (by omega)
                rw [show nI (c + 1 + (i + 1)) = nI (c + 1 + i) + 1 from nI_succ _, s_ck1] at h
                first
                  | (rw [if_pos h30, ← Int32.add_assoc] at h; exact h)
                  | (rw [if_neg (by rw [h30]; decide), i_add0] at h; exact h)
        have h := inner (N - (c + 1)) 0 (by omega)
        rw [s_ck1, i_add0, show nI (c + 1 + 0) = nI c + 1 from nI_succ c] at h
        exact h
  exact loop N 0 (by omega) none
set_option maxHeartbeats 1000000 in
set_option maxRecDepth 20000 in
theorem c4_now (D : zD) (x : Int32) {N : Nat} (hN : D.1 1 4 = nI N) (h10 : N ≤ 10) : z_CI SX zT yX4_now cX4_now 2 .int 2 [.ref 0, .int x] D (z_eq (q_ans (o_now (D.1 1) N x)) (q_X D (o_now (D.1 1) N x))) := by
  refine z_startI SX_ok (by decide +kernel) (fun v hv => by simp at hv; rcases hv with rfl | rfl <;> rfl) (Nat.le_of_ble_eq_true rfl) (fun X F hR => ?_)
  show z_J X SX 0 [some (.ref 0), some (.int x)] [] D
  refine z_iload1 F dX4_now_0 ?_
  refine z_tsw_0_6 rfl (fun h1 => ?_) (fun h1 => ?_) (fun h1 => ?_) (fun h1 => ?_) (fun h1 => ?_) (fun h1 => ?_) (fun h1 => ?_) (fun h1 => ?_)
  · refine z_tabIn F 44 dX4_now_1 (by rw [h1]; decide) (by rw [h1]; decide) (by rw [h1]; rfl) (by decide) ?_
    refine z_aload0 F dX4_now_44 ?_
    refine z_getR F PH_coat fX4_10 dX4_now_45 ?_
    refine z_getI F (C_step z_r1) fX4_125 dX4_now_48 ?_
    refine hR _ _ _ _ dX4_now_51 rfl ?_
    first
      | (subst h1; exact ⟨rfl, rfl⟩)
      | (obtain ⟨n0, n1, n2, n3, n4, n5, n6⟩ := z_out06 h1; simp only [o_now, n0, n1, n2, n3, n4, n5, n6, if_false]; exact ⟨rfl, rfl⟩)
  · refine z_tabIn F 52 dX4_now_1 (by rw [h1]; decide) (by rw [h1]; decide) (by rw [h1]; rfl) (by decide) ?_
    refine z_aload0 F dX4_now_52 ?_
    refine z_getR F PH_coat fX4_10 dX4_now_53 ?_
    refine z_getI F (C_hole z_r1) fX4_75 dX4_now_56 ?_
    refine hR _ _ _ _ dX4_now_59 rfl ?_
    first
      | (subst h1; exact ⟨rfl, rfl⟩)
      | (obtain ⟨n0, n1, n2, n3, n4, n5, n6⟩ := z_out06 h1; simp only [o_now, n0, n1, n2, n3, n4, n5, n6, if_false]; exact ⟨rfl, rfl⟩)
  · refine z_tabIn F 60 dX4_now_1 (by rw [h1]; decide) (by rw [h1]; decide) (by rw [h1]; rfl) (by decide) ?_
    refine z_aload0 F dX4_now_60 ?_
    refine z_getR F PH_coat fX4_10 dX4_now_61 ?_
    refine z_getI F (C_gap z_r1) fX4_102 dX4_now_64 ?_
    refine hR _ _ _ _ dX4_now_67 rfl ?_
    first
      | (subst h1; exact ⟨rfl, rfl⟩)
      | (obtain ⟨n0, n1, n2, n3, n4, n5, n6⟩ := z_out06 h1; simp only [o_now, n0, n1, n2, n3, n4, n5, n6, if_false]; exact ⟨rfl, rfl⟩)
  · refine z_tabIn F 68 dX4_now_1 (by rw [h1]; decide) (by rw [h1]; decide) (by rw [h1]; rfl) (by decide) ?_
    refine z_aload0 F dX4_now_68 ?_
    refine z_getR F PH_coat fX4_10 dX4_now_69 ?_
    refine z_getI F (C_at z_r1) fX4_105 dX4_now_72 ?_
    refine hR _ _ _ _ dX4_now_75 rfl ?_
    first
      | (subst h1; exact ⟨rfl, rfl⟩)
      | (obtain ⟨n0, n1, n2, n3, n4, n5, n6⟩ := z_out06 h1; simp only [o_now, n0, n1, n2, n3, n4, n5, n6, if_false]; exact ⟨rfl, rfl⟩)
  · refine z_tabIn F 76 dX4_now_1 (by rw [h1]; decide) (by rw [h1]; decide) (by rw [h1]; rfl) (by decide) ?_
    refine z_aload0 F dX4_now_76 ?_
    refine z_getR F PH_coat fX4_10 dX4_now_77 ?_
    refine z_callVI0 F (c0_clinks _ z_r1 hN h10) kX4_128 (by decide) (ocC z_r1) (Nat.le_of_ble_eq_true rfl) rfl dX4_now_80 ?_
    refine hR _ _ _ _ dX4_now_83 rfl ?_
    first
      | (subst h1; exact ⟨rfl, rfl⟩)
      | (obtain ⟨n0, n1, n2, n3, n4, n5, n6⟩ := z_out06 h1; simp only [o_now, n0, n1, n2, n3, n4, n5, n6, if_false]; exact ⟨rfl, rfl⟩)
  · refine z_tabIn F 84 dX4_now_1 (by rw [h1]; decide) (by rw [h1]; decide) (by rw [h1]; rfl) (by decide) ?_
    refine z_aload0 F dX4_now_84 ?_
    refine z_getR F PH_coat fX4_10 dX4_now_85 ?_
    refine z_aload0 F dX4_now_88 ?_
    refine z_getR F PH_coat fX4_10 dX4_now_89 ?_
    refine z_iconst F 0 dX4_now_92 zv_i_0 ?_
    refine z_callVI1 F (c0_in _ z_r1 hN h10 _) kX4_108 (by decide) (ocC z_r1) (Nat.le_of_ble_eq_true rfl) rfl dX4_now_93 ?_
    refine z_aload0 F dX4_now_96 ?_
    refine z_getR F PH_coat fX4_10 dX4_now_97 ?_
    refine z_iconst F 1 dX4_now_100 zv_i_1 ?_
    refine z_callVI1 F (c0_in _ z_r1 hN h10 _) kX4_108 (by decide) (ocC z_r1) (Nat.le_of_ble_eq_true rfl) rfl dX4_now_101 ?_
    refine z_ior F dX4_now_104 ?_
    refine z_callVI1 F (c0_weightOf _ z_r1 hN h10 _) kX4_132 (by decide) (ocC z_r1) (Nat.le_of_ble_eq_true rfl) rfl dX4_now_105 ?_
    refine hR _ _ _ _ dX4_now_108 rfl ?_
    first
      | (subst h1; exact ⟨rfl, rfl⟩)
      | (obtain ⟨n0, n1, n2, n3, n4, n5, n6⟩ := z_out06 h1; simp only [o_now, n0, n1, n2, n3, n4, n5, n6, if_false]; exact ⟨rfl, rfl⟩)
  · refine z_tabIn F 109 dX4_now_1 (by rw [h1]; decide) (by rw [h1]; decide) (by rw [h1]; rfl) (by decide) ?_
    refine z_aload0 F dX4_now_109 ?_
    refine z_getR F PH_coat fX4_10 dX4_now_110 ?_
    refine z_aload0 F dX4_now_113 ?_
    refine z_getR F PH_coat fX4_10 dX4_now_114 ?_
    refine z_iconst F 3 dX4_now_117 zv_i_3 ?_
    refine z_callVI1 F (c0_in _ z_r1 hN h10 _) kX4_108 (by decide) (ocC z_r1) (Nat.le_of_ble_eq_true rfl) rfl dX4_now_118 ?_
    refine z_callVI1 F (c0_weightOf _ z_r1 hN h10 _) kX4_132 (by decide) (ocC z_r1) (Nat.le_of_ble_eq_true rfl) rfl dX4_now_121 ?_
    refine hR _ _ _ _ dX4_now_124 rfl ?_
    first
      | (subst h1; exact ⟨rfl, rfl⟩)
      | (obtain ⟨n0, n1, n2, n3, n4, n5, n6⟩ := z_out06 h1; simp only [o_now, n0, n1, n2, n3, n4, n5, n6, if_false]; exact ⟨rfl, rfl⟩)
  · refine z_tabOut F 125 dX4_now_1 h1 (by decide) ?_
    refine z_aload0 F dX4_now_125 ?_
    refine z_iconst F 0 dX4_now_126 zv_i_0 ?_
    refine z_callVI1 F (c4_finding _ 0 (by decide)) kX4_55 (by decide) ocPH (Nat.le_of_ble_eq_true rfl) rfl dX4_now_127 ?_
    refine hR _ _ _ _ dX4_now_130 rfl ?_
    first
      | (subst h1; exact ⟨rfl, rfl⟩)
      | (obtain ⟨n0, n1, n2, n3, n4, n5, n6⟩ := z_out06 h1; simp only [o_now, n0, n1, n2, n3, n4, n5, n6, if_false]; exact ⟨rfl, rfl⟩)
/-- what fell, as the class counts it: those on the ground that were not -/
theorem p_cnt_diff {a b : Nat} (h : ∀ i, b.testBit i = true → a.testBit i = true) : ∀ n, p_cnt (a ^^^ (a &&& b)) n = p_cnt a n - p_cnt b n ∧ p_cnt b n ≤ p_cnt a n
  | 0 => ⟨rfl, Nat.le_refl _⟩
  | n + 1 => by
    obtain ⟨h1, h2⟩ := p_cnt_diff h n
    rw [p_cnt, p_cnt, p_cnt, h1, Nat.testBit_xor, Nat.testBit_and]
    cases ea : a.testBit n <;> cases eb : b.testBit n
    · simp; exact h2
    · have := h n eb; rw [ea] at this; cases this
    · simp; omega
    · simp; omega
theorem s_fell_diff (σ : Nat → Int32) {N : Nat} (h10 : N ≤ 10) (n : Nat) : s_fell σ (s_steps σ N n) N = nI (p_pop (p_lie (s_steps σ N n) 2 N ^^^ (p_lie (s_steps σ N n) 2 N &&& p_lie σ 2 N))) := by
  rw [s_fell_n σ h10 n]
  congr 1
  exact ((p_cnt_diff (p_lie_gr σ h10 n) 10).1).symm
set_option maxHeartbeats 1000000 in
set_option maxRecDepth 20000 in
theorem c4_steps (D : zD) (x : Int32) {N : Nat} (hN : D.1 1 4 = nI N) (h10 : N ≤ 10) : z_CI SX zT yX4_steps cX4_steps 3 .int 5 [.ref 0, .int x] D (z_eq (r_ans (o_steps (D.1 1) N x)) (r_X D (o_steps (D.1 1) N x))) := by
  refine z_startI SX_ok (by decide +kernel) (fun v hv => by simp at hv; rcases hv with rfl | rfl <;> rfl) (Nat.le_of_ble_eq_true rfl) (fun X F hR => ?_)
  show z_J X SX 0 [some (.ref 0), some (.int x), none] [] D
  refine z_iload1 F dX4_steps_0 ?_
  refine z_iconst F 1 dX4_steps_1 zv_i_1 ?_
  refine z_bipush F 100 dX4_steps_2 zv_b_100 ?_
  refine z_callSI3 F (c4_isWithin _ _ _ _) kX4_51 (by decide) (Nat.le_of_ble_eq_true rfl) rfl dX4_steps_4 ?_
  refine z_ifb_ne F 16 dX4_steps_7 (by decide) (fun h7 => ?_) (fun h7 => ?_)
  · refine z_aload0 F dX4_steps_16 ?_
    refine z_iload1 F dX4_steps_17 ?_
    refine z_callVI1 F (c4_isTooFar _ _) kX4_114 (by decide) ocPH (Nat.le_of_ble_eq_true rfl) rfl dX4_steps_18 ?_
    refine z_ifb_eq F 30 dX4_steps_21 (by decide) (fun h21 => ?_) (fun h21 => ?_)
    · simp only [decide_eq_false_iff_not] at h21
      obtain ⟨q, hq1, hq, rfl⟩ := b_in1 100 (by decide) h7
      have hqn := i_n_n (j := q) (by omega)
      refine z_aload0 F dX4_steps_30 ?_
      refine z_getR F PH_coat fX4_10 dX4_steps_31 ?_
      refine z_iconst F 2 dX4_steps_34 zv_i_2 ?_
      refine z_callVI1 F (c0_in _ z_r1 hN h10 _) kX4_108 (by decide) (ocC z_r1) (Nat.le_of_ble_eq_true rfl) rfl dX4_steps_35 ?_
      refine z_istore2 F dX4_steps_38 rfl ?_
      refine z_aload0 F dX4_steps_39 ?_
      refine z_getR F PH_coat fX4_10 dX4_steps_40 ?_
      refine z_iload1 F dX4_steps_43 ?_
      refine z_callVV1 F (c0_go D z_r1 hN h10 q (by omega)) kX4_117 (by decide) (ocC z_r1) (Nat.le_of_ble_eq_true rfl) rfl dX4_steps_44 ?_
      refine z_aload0 F dX4_steps_47 ?_
      refine z_getR F PH_coat fX4_10 dX4_steps_48 ?_
      refine z_iconst F 2 dX4_steps_51 zv_i_2 ?_
      refine z_callVI1 F (by have h := c0_in (z_row D 1 (s_steps (D.1 1) N q)) z_r1 (N := N) (by rw [z_rowr]; exact s_steps_N hN q) h10 2; rw [z_rowr] at h; exact h) kX4_108 (by decide) (ocC z_r1) (Nat.le_of_ble_eq_true rfl) rfl dX4_steps_52 ?_
      refine z_iload2 F dX4_steps_55 ?_
      refine z_iconst F (-1) dX4_steps_56 zv_i_m1 ?_
      refine z_ixor F dX4_steps_57 ?_
      refine z_iand F dX4_steps_58 ?_
      rw [s_lie_n _ _ _ (by omega), s_lie_n _ _ _ (by omega), i_diff (p_lie_1024 _ _ h10)]
      refine z_callSI1 F (cj_bits _ _ (Nat.xor_lt_two_pow (n := 10) (p_lie_1024 (s_steps (D.1 1) N q) 2 h10) (Nat.lt_of_le_of_lt Nat.and_le_left (p_lie_1024 (s_steps (D.1 1) N q) 2 h10)))) kX4_120 (by decide) (Nat.le_of_ble_eq_true rfl) rfl dX4_steps_59 ?_
      refine hR _ _ _ _ dX4_steps_62 rfl ?_
      simp only [o_steps, h7, h21, hqn, Bool.false_eq_true, if_true, if_false, Bool.and_true, Bool.true_and, Bool.and_false, Bool.false_and, Bool.and_self, and_self]
      refine ⟨?_, rfl⟩
      rw [s_fell_diff _ h10]
      rfl
    · simp only [decide_eq_true_eq] at h21
      refine z_aload0 F dX4_steps_24 ?_
      refine z_iconst F 4 dX4_steps_25 zv_i_4 ?_
      refine z_callVI1 F (c4_finding _ 4 (by decide)) kX4_55 (by decide) ocPH (Nat.le_of_ble_eq_true rfl) rfl dX4_steps_26 ?_
      refine hR _ _ _ _ dX4_steps_29 rfl ?_
      simp only [o_steps, h7, h21, Bool.false_eq_true, if_true, if_false, Bool.and_true, Bool.true_and, Bool.and_false, Bool.false_and, Bool.and_self, and_self]; first | exact ⟨rfl, rfl⟩ | exact ⟨by decide, rfl⟩ | exact ⟨by decide, z_sm_r _⟩ | exact ⟨rfl, z_sm_r _⟩
  · refine z_aload0 F dX4_steps_10 ?_
    refine z_iconst F 0 dX4_steps_11 zv_i_0 ?_
    refine z_callVI1 F (c4_finding _ 0 (by decide)) kX4_55 (by decide) ocPH (Nat.le_of_ble_eq_true rfl) rfl dX4_steps_12 ?_
    refine hR _ _ _ _ dX4_steps_15 rfl ?_
    simp only [o_steps, h7, Bool.false_eq_true, if_true, if_false, Bool.and_true, Bool.true_and, Bool.and_false, Bool.false_and, Bool.and_self, and_self]; first | exact ⟨rfl, rfl⟩ | exact ⟨by decide, rfl⟩ | exact ⟨by decide, z_sm_r _⟩ | exact ⟨rfl, z_sm_r _⟩
