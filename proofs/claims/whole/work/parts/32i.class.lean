theorem s_cb_1 (σ : Nat → Int32) (m : Int32) (N : Nat) : s_cb σ m N 1 = 0 := by
  rw [s_cb]
  split <;> rfl
theorem s_wp_0 (σ : Nat → Int32) (m : Int32) (w : Nat) : s_wp σ m 0 w = -1 := rfl
theorem s_wp_out {σ : Nat → Int32} {m : Int32} {c : Nat} (h : ∀ w, w < 30 → b_cel σ m w c = false) (ρ : Nat → Int32) : (fun w => if w < 30 then s_wp σ m (c + 1) w else ρ w) = fun w => if w < 30 then s_wp σ m c w else ρ w := by
  funext w
  by_cases g : w < 30
  · rw [if_pos g, if_pos g, s_wp, s_wp, b_any, s_wsum, h w g, Bool.or_false]
    rfl
  · rw [if_neg g, if_neg g]
theorem s_wp_in {σ : Nat → Int32} {m : Int32} {c w N : Nat} (hc : c < N) (hpen : ∀ c, c < N → ∃ p, p ≤ 240 ∧ σ (16 + 8 * c + 3) = nI p) (hN : N ≤ 10) (hf : s_fallen σ c = true) (hb : s_bc σ c m = nI w) (hw : w < 30) (ρ : Nat → Int32) : upd (fun w => if w < 30 then s_wp σ m c w else ρ w) w (i_max (s_wp σ m c w) 0 + σ (16 + 8 * c + 3)) = fun w => if w < 30 then s_wp σ m (c + 1) w else ρ w := by
  have hi : b_cel σ m w c = true := (b_cel_iff σ m w c).mpr ⟨hf, hb⟩
  have ho : ∀ u, u < 30 → u ≠ w → b_cel σ m u c = false := by
    intro u hu hn
    cases g : b_cel σ m u c
    · rfl
    · have := ((b_cel_iff σ m u c).mp g).2
      rw [hb, nI_eq (by omega) (by omega)] at this
      exact absurd this.symm hn
  funext u
  by_cases e : u = w
  · subst e
    rw [u_eq, if_pos hw, show s_wp σ m (c + 1) u = s_wsum σ m u c + σ (16 + 8 * c + 3) by rw [s_wp, b_any, s_wsum, hi, Bool.or_true]; rfl]
    obtain ⟨k, hk, ek⟩ := s_wsum_n (m := m) (w := u) hpen c (by omega)
    congr 1
    cases g : b_any σ m u c
    · rw [s_wsum_no c g, s_wp, g]; show i_max (-1) 0 = 0; decide
    · rw [s_wp, if_pos g, ek]
      unfold i_max
      rw [if_neg (fun z => absurd (nI_pos' (n := k) (by omega)) (Int32.not_le.mpr z))]
  · rw [u_ne _ _ e]
    by_cases g : u < 30
    · rw [if_pos g, if_pos g, s_wp, s_wp, b_any, s_wsum, ho u g e, Bool.or_false]
      rfl
    · rw [if_neg g, if_neg g]
theorem z_fillw (ρ : Nat → Int32) (c : Nat) : upd (fun w => if w < c then (-1 : Int32) else ρ w) c (-1) = fun w => if w < c + 1 then -1 else ρ w := by
  funext u
  unfold upd
  by_cases e : u = c
  · subst e; simp
  · rw [if_neg e]
    show (if u < c then (-1 : Int32) else ρ u) = if u < c + 1 then -1 else ρ u
    by_cases g : u < c
    · rw [if_pos g, if_pos (by omega)]
    · rw [if_neg g, if_neg (by omega)]
theorem b_in_n29 {w : Nat} (h : w < 30) : b_in (nI w) 0 29 = true := by
  unfold b_in
  rw [decide_eq_true (nI_pos' (by omega)), decide_eq_true (show nI w ≤ 29 from nI_le (a := w) (b := 29) (by omega) (by decide))]
  rfl
set_option maxHeartbeats 1000000 in
set_option maxRecDepth 20000 in
theorem c4_richest (D : zD) (x : Int32) {N : Nat} (hN : D.1 1 4 = nI N) (h10 : N ≤ 10) (hfa : ∀ c, c < N → decide (¬ D.1 1 (16 + 8 * c + 7) = -1) = s_fallen (D.1 1) c) (hpen : ∀ c, c < N → ∃ p, p ≤ 240 ∧ D.1 1 (16 + 8 * c + 3) = nI p) : z_CI SX zT yX4_richest cX4_richest 4 .int 3 [.ref 0, .int x] D (z_qX D (o_richest (D.1 1) N x)) := by
  refine z_startI SX_ok (by decide +kernel) (fun v hv => by simp at hv; rcases hv with rfl | rfl <;> rfl) (Nat.le_of_ble_eq_true rfl) (fun X F hR => ?_)
  show z_J X SX 0 [some (.ref 0), some (.int x), none, none] [] D
  refine z_iload1 F dX4_richest_0 ?_
  refine z_iconst F 1 dX4_richest_1 zv_i_1 ?_
  refine z_bipush F 100 dX4_richest_2 zv_b_100 ?_
  refine z_callSI3 F (c4_isWithin _ _ _ _) kX4_51 (by decide) (Nat.le_of_ble_eq_true rfl) rfl dX4_richest_4 ?_
  refine z_ifb_ne F 16 dX4_richest_7 (by decide) (fun h7 => ?_) (fun h7 => ?_)
  · obtain ⟨y, hy1, hy2, eyx⟩ := b_in1 100 (by decide) h7
    have hx0 : ¬ x = 0 := fun e => by rw [eyx] at e; have := (nI_eq (a := y) (b := 0) (by omega) (by decide)).mp e; omega
    refine z_iconst F 0 dX4_richest_16 zv_i_0 ?_
    refine z_istore2 F dX4_richest_17 rfl ?_
    have loop3 : ∀ (n k : Nat), k + n = 30 → 1 ≤ k → z_J X SX 125 [some (.ref 0), some (.int x), some (.int (nI (s_cb (D.1 1) x N k))), some (.int (nI k))] [] (z_row D 16 (fun w => if w < 30 then s_wp (D.1 1) x N w else D.1 16 w)) := by
      intro n
      induction n with
      | zero =>
        intro k hn h1k
        refine z_iload3 F dX4_richest_125 ?_
        refine z_bipush F 30 dX4_richest_126 zv_b_30 ?_
        refine z_ic_ge F 154 dX4_richest_128 (by decide) (fun h128 => ?_) (fun h128 => ?_)
        · rw [show k = 30 by omega]
          have hcb := s_cb_lt (D.1 1) x N 30 (by decide)
          have hrc := s_rich_cb (m := x) h10 hpen 29 (Nat.le_refl _)
          refine z_aload0 F dX4_richest_154 ?_
          refine z_getR F PH_wayPence fX4_47 dX4_richest_155 ?_
          refine z_iload2 F dX4_richest_158 ?_
          refine z_iald F aWay (s_cb (D.1 1) x N 30) rfl hcb dX4_richest_159 ?_
          rw [z_rowr, if_pos hcb]
          refine z_iconst F (-1) dX4_richest_160 zv_i_m1 ?_
          refine z_ic_ne F 172 dX4_richest_161 (by decide) (fun h161 => ?_) (fun h161 => ?_)
          · rcases hrc with ⟨a1, a2⟩ | ⟨a1, a2⟩
            · exact absurd a1 h161
            · have hnn : ¬ nI (s_cb (D.1 1) x N 30) < 0 := nI_pos (by omega)
              refine z_iload2 F dX4_richest_172 ?_
              refine hR _ _ _ _ dX4_richest_173 rfl ?_
              simp only [o_richest, h7, Bool.false_eq_true, if_true, if_false, Bool.and_true, Bool.true_and, Bool.and_false, Bool.false_and, Bool.and_self, and_self]
              rw [show (30 : Nat) = 29 + 1 from rfl, a2]
              rw [if_neg hnn]
              exact ⟨rfl, z_sm_row D _ (Or.inr (Or.inr (Or.inr (Or.inr rfl))))⟩
          · rcases hrc with ⟨a1, a2⟩ | ⟨a1, a2⟩
            · refine z_aload0 F dX4_richest_164 ?_
              refine z_iconst F 3 dX4_richest_165 zv_i_3 ?_
              refine z_callVI1 F (c4_finding _ 3 (by decide)) kX4_55 (by decide) ocPH (Nat.le_of_ble_eq_true rfl) rfl dX4_richest_166 ?_
              refine z_goto F 173 dX4_richest_169 (by decide) ?_
              refine hR _ _ _ _ dX4_richest_173 rfl ?_
              simp only [o_richest, h7, Bool.false_eq_true, if_true, if_false, Bool.and_true, Bool.true_and, Bool.and_false, Bool.false_and, Bool.and_self, and_self]
              rw [show (30 : Nat) = 29 + 1 from rfl, a2]
              rw [if_pos (show (-1 : Int32) < 0 by decide)]
              exact ⟨rfl, z_sm_fX _ (z_sm_row D _ (Or.inr (Or.inr (Or.inr (Or.inr rfl)))))⟩
            · exact absurd (show (0 : Int32) ≤ -1 by rw [← h161]; exact a1) (by decide)
        · exact absurd (nI_le (a := 30) (b := k) (by omega) (by omega)) h128
      | succ n ih =>
        intro k hn h1k
        refine z_iload3 F dX4_richest_125 ?_
        refine z_bipush F 30 dX4_richest_126 zv_b_30 ?_
        refine z_ic_ge F 154 dX4_richest_128 (by decide) (fun h128 => ?_) (fun h128 => ?_)
        · exact absurd h128 (nI_ge (a := k) (b := 30) (by omega) (by omega))
        · refine z_aload0 F dX4_richest_131 ?_
          refine z_getR F PH_wayPence fX4_47 dX4_richest_132 ?_
          refine z_iload3 F dX4_richest_135 ?_
          refine z_iald F aWay (k) rfl (by omega) dX4_richest_136 ?_
          rw [z_rowr, if_pos (show k < 30 by omega)]
          have hcb := s_cb_lt (D.1 1) x N k h1k
          refine z_aload0 F dX4_richest_137 ?_
          refine z_getR F PH_wayPence fX4_47 dX4_richest_138 ?_
          refine z_iload2 F dX4_richest_141 ?_
          refine z_iald F aWay ((s_cb (D.1 1) x N k)) rfl (by omega) dX4_richest_142 ?_
          rw [z_rowr, if_pos (show (s_cb (D.1 1) x N k) < 30 by omega)]
          refine z_ic_le F 148 dX4_richest_143 (by decide) (fun h143 => ?_) (fun h143 => ?_)
          · refine z_iinc3 F 1 dX4_richest_148 rfl zv_i_1 ?_
            refine z_goto F 125 dX4_richest_151 (by decide) ?_
            have h := ih (k + 1) (by omega) (by omega)
            rw [show nI (k + 1) = nI k + 1 from nI_succ k, s_cb, if_neg (Int32.not_lt.mpr h143)] at h
            exact h
          · refine z_iload3 F dX4_richest_146 ?_
            refine z_istore2 F dX4_richest_147 rfl ?_
            refine z_iinc3 F 1 dX4_richest_148 rfl zv_i_1 ?_
            refine z_goto F 125 dX4_richest_151 (by decide) ?_
            have h := ih (k + 1) (by omega) (by omega)
            rw [show nI (k + 1) = nI k + 1 from nI_succ k, s_cb, if_pos (Int32.not_le.mp h143)] at h
            exact h
    have loop2 : ∀ (n c : Nat), c + n = N → ∀ (a3 : Option Value), z_J X SX 39 [some (.ref 0), some (.int x), some (.int (nI c)), a3] [] (z_row D 16 (fun w => if w < 30 then s_wp (D.1 1) x c w else D.1 16 w)) := by
      intro n
      induction n with
      | zero =>
        intro c hn a3
        refine z_iload2 F dX4_richest_39 ?_
        refine z_aload0 F dX4_richest_40 ?_
        refine z_getR F PH_coat fX4_10 dX4_richest_41 ?_
        refine z_getI F (C_coins z_r1) fX4_59 dX4_richest_44 ?_
        refine z_ic_ge F 121 dX4_richest_47 (by decide) (fun h47 => ?_) (fun h47 => ?_)
        · rw [show c = N by omega]
          refine z_iconst F 0 dX4_richest_121 zv_i_0 ?_
          refine z_istore2 F dX4_richest_122 rfl ?_
          refine z_iconst F 1 dX4_richest_123 zv_i_1 ?_
          refine z_istore3 F dX4_richest_124 rfl ?_
          have h := loop3 29 1 (by omega) (by omega)
          rw [show s_cb (D.1 1) x N 1 = 0 from s_cb_1 _ _ _] at h
          exact h
        · exact absurd (by rw [z_rowo _ _ (by decide), hN]; exact nI_le (by omega) (by omega)) h47
      | succ n ih =>
        intro c hn a3
        refine z_iload2 F dX4_richest_39 ?_
        refine z_aload0 F dX4_richest_40 ?_
        refine z_getR F PH_coat fX4_10 dX4_richest_41 ?_
        refine z_getI F (C_coins z_r1) fX4_59 dX4_richest_44 ?_
        refine z_ic_ge F 121 dX4_richest_47 (by decide) (fun h47 => ?_) (fun h47 => ?_)
        · exact absurd h47 (by rw [z_rowo _ _ (by decide), hN]; exact nI_ge (by omega) (by omega))
        · refine z_aload0 F dX4_richest_50 ?_
          refine z_getR F PH_coat fX4_10 dX4_richest_51 ?_
          refine z_iload2 F dX4_richest_54 ?_
          refine z_callVI1 F (by have h := c0_hasFallen (z_row D 16 (fun w => if w < 30 then s_wp (D.1 1) x c w else D.1 16 w)) z_r1 c (by omega); rw [z_rowo _ _ (by decide), hfa c (by omega)] at h; exact h) kX4_193 (by decide) (ocC z_r1) (Nat.le_of_ble_eq_true rfl) rfl dX4_richest_55 ?_
          refine z_ifb_eq F 73 dX4_richest_58 (by decide) (fun h58 => ?_) (fun h58 => ?_)
          · refine z_bipush F 30 dX4_richest_73 zv_b_30 ?_
            refine z_istore3 F dX4_richest_75 rfl ?_
            refine z_iload3 F dX4_richest_76 ?_
            refine z_iconst F 0 dX4_richest_77 zv_i_0 ?_
            refine z_bipush F 29 dX4_richest_78 zv_b_29 ?_
            refine z_callSI3 F (c4_isWithin _ _ _ _) kX4_51 (by decide) (Nat.le_of_ble_eq_true rfl) rfl dX4_richest_80 ?_
            refine z_ifb_eq F 115 dX4_richest_83 (by decide) (fun h83 => ?_) (fun h83 => ?_)
            · refine z_iinc2 F 1 dX4_richest_115 rfl zv_i_1 ?_
              refine z_goto F 39 dX4_richest_118 (by decide) ?_
              have h := ih (c + 1) (by omega) (some (.int 30))
              rw [show nI (c + 1) = nI c + 1 from nI_succ c, s_wp_out (fun w hw => by
                cases z : b_cel (D.1 1) x w c
                · rfl
                · have := (b_cel_iff (D.1 1) x w c).mp z
                  rw [h58] at this
                  cases this.1) (D.1 16)] at h
              exact h
            · exact absurd h83 (by decide)
          · refine z_aload0 F dX4_richest_61 ?_
            refine z_getR F PH_coat fX4_10 dX4_richest_62 ?_
            refine z_iload2 F dX4_richest_65 ?_
            refine z_iload1 F dX4_richest_66 ?_
            refine z_callVI2 F (by have h := c0_wayCell (z_row D 16 (fun w => if w < 30 then s_wp (D.1 1) x c w else D.1 16 w)) z_r1 c (by omega) x hx0; rw [z_rowo _ _ (by decide)] at h; exact h) kX4_196 (by decide) (ocC z_r1) (Nat.le_of_ble_eq_true rfl) rfl dX4_richest_67 ?_
            refine z_goto F 75 dX4_richest_70 (by decide) ?_
            refine z_istore3 F dX4_richest_75 rfl ?_
            refine z_iload3 F dX4_richest_76 ?_
            refine z_iconst F 0 dX4_richest_77 zv_i_0 ?_
            refine z_bipush F 29 dX4_richest_78 zv_b_29 ?_
            refine z_callSI3 F (c4_isWithin _ _ _ _) kX4_51 (by decide) (Nat.le_of_ble_eq_true rfl) rfl dX4_richest_80 ?_
            refine z_ifb_eq F 115 dX4_richest_83 (by decide) (fun h83 => ?_) (fun h83 => ?_)
            · refine z_iinc2 F 1 dX4_richest_115 rfl zv_i_1 ?_
              refine z_goto F 39 dX4_richest_118 (by decide) ?_
              have h := ih (c + 1) (by omega) (some (.int (s_bc (D.1 1) c x)))
              rw [show nI (c + 1) = nI c + 1 from nI_succ c, s_wp_out (fun w hw => by
                cases z : b_cel (D.1 1) x w c
                · rfl
                · have := (b_cel_iff (D.1 1) x w c).mp z
                  rw [this.2] at h83
                  have e := b_in_n29 hw
                  rw [e] at h83
                  cases h83) (D.1 16)] at h
              exact h
            · obtain ⟨u, hu29, hu⟩ := b_in0 29 (by decide) h83
              rw [hu]
              refine z_aload0 F dX4_richest_86 ?_
              refine z_getR F PH_wayPence fX4_47 dX4_richest_87 ?_
              refine z_iload3 F dX4_richest_90 ?_
              refine z_aload0 F dX4_richest_91 ?_
              refine z_getR F PH_wayPence fX4_47 dX4_richest_92 ?_
              refine z_iload3 F dX4_richest_95 ?_
              refine z_iald F aWay (u) rfl (by omega) dX4_richest_96 ?_
              rw [z_rowr, if_pos (show u < 30 by omega)]
              refine z_iconst F 0 dX4_richest_97 zv_i_0 ?_
              refine z_max F zw_452 (by decide) rfl (Nat.le_of_ble_eq_true rfl) dX4_richest_98 ?_
              refine z_aload0 F dX4_richest_101 ?_
              refine z_getR F PH_coat fX4_10 dX4_richest_102 ?_
              refine z_getR F (C_row z_r1) fX4_71 dX4_richest_105 ?_
              refine z_iload2 F dX4_richest_108 ?_
              refine z_aald F (aRow z_r1) (Or.inl rfl) (c) rfl (show c < 10 by omega) dX4_richest_109 ?_
              refine z_getI F (K_f z_r1 (show c < 10 by omega) 3 (by decide)) fX4_182 dX4_richest_110 ?_
              rw [z_rowo _ _ (by decide)]
              refine z_iadd F dX4_richest_113 ?_
              refine z_iast F aWay (u) rfl (by omega) dX4_richest_114 ?_
              rw [z_row_up, s_wp_in (show c < N by omega) hpen h10 h58 hu (show u < 30 by omega) (D.1 16)]
              refine z_iinc2 F 1 dX4_richest_115 rfl zv_i_1 ?_
              refine z_goto F 39 dX4_richest_118 (by decide) ?_
              have h := ih (c + 1) (by omega) (some (.int (nI u)))
              rw [show nI (c + 1) = nI c + 1 from nI_succ c] at h
              exact h
    have loop : ∀ (n c : Nat), c + n = 30 → z_J X SX 18 [some (.ref 0), some (.int x), some (.int (nI c)), none] [] (z_row D 16 (fun w => if w < c then -1 else D.1 16 w)) := by
      intro n
      induction n with
      | zero =>
        intro c hn 
        refine z_iload2 F dX4_richest_18 ?_
        refine z_bipush F 30 dX4_richest_19 zv_b_30 ?_
        refine z_ic_ge F 37 dX4_richest_21 (by decide) (fun h21 => ?_) (fun h21 => ?_)
        · rw [show c = 30 by omega]
          refine z_iconst F 0 dX4_richest_37 zv_i_0 ?_
          refine z_istore2 F dX4_richest_38 rfl ?_
          have h := loop2 N 0 (by omega) none
          exact h
        · exact absurd (nI_le (a := 30) (b := c) (by omega) (by omega)) h21
      | succ n ih =>
        intro c hn 
        refine z_iload2 F dX4_richest_18 ?_
        refine z_bipush F 30 dX4_richest_19 zv_b_30 ?_
        refine z_ic_ge F 37 dX4_richest_21 (by decide) (fun h21 => ?_) (fun h21 => ?_)
        · exact absurd h21 (nI_ge (a := c) (b := 30) (by omega) (by omega))
        · refine z_aload0 F dX4_richest_24 ?_
          refine z_getR F PH_wayPence fX4_47 dX4_richest_25 ?_
          refine z_iload2 F dX4_richest_28 ?_
          refine z_iconst F (-1) dX4_richest_29 zv_i_m1 ?_
          refine z_iast F aWay (c) rfl (by omega) dX4_richest_30 ?_
          rw [z_row_up, z_fillw]
          refine z_iinc2 F 1 dX4_richest_31 rfl zv_i_1 ?_
          refine z_goto F 18 dX4_richest_34 (by decide) ?_
          have h := ih (c + 1) (by omega)
          rw [show nI (c + 1) = nI c + 1 from nI_succ c] at h
          exact h
    have h := loop 30 0 (by omega)
    rw [show (fun w => if w < 0 then (-1 : Int32) else D.1 16 w) = D.1 16 from rfl, z_row_eq] at h
    exact h
  · refine z_aload0 F dX4_richest_10 ?_
    refine z_iconst F 0 dX4_richest_11 zv_i_0 ?_
    refine z_callVI1 F (c4_finding _ 0 (by decide)) kX4_55 (by decide) ocPH (Nat.le_of_ble_eq_true rfl) rfl dX4_richest_12 ?_
    refine hR _ _ _ _ dX4_richest_15 rfl ?_
    simp only [o_richest, h7, Bool.false_eq_true, if_true, if_false, Bool.and_true, Bool.true_and, Bool.and_false, Bool.false_and, Bool.and_self, and_self]; first | exact ⟨rfl, rfl⟩ | exact ⟨by decide, rfl⟩ | exact ⟨by decide, z_sm_r _⟩ | exact ⟨rfl, z_sm_r _⟩
