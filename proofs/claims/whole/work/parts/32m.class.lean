set_option maxHeartbeats 1000000 in
set_option maxRecDepth 20000 in
theorem c4_marks (D : zD) (M : Nat → Int64) (p : Nat) (hp : p ≤ 240) : z_CV SX zT yX4_markSumsWith cX4_markSumsWith 7 0 [.ref 0, .int (nI p)] ((D.1, M) : zD) (z_eqV (D.1, s_mk M p (p / 64))) := by
  refine z_startV SX_ok (by decide +kernel) (fun v hv => by simp at hv; rcases hv with rfl | rfl <;> rfl) (Nat.le_of_ble_eq_true rfl) (fun X F hR => ?_)
  show z_J X SX 0 [some (.ref 0), some (.int (nI p)), none, none, none, none, none] [] ((D.1, M) : zD)
  refine z_iload1 F dX4_markSumsWith_0 ?_
  refine z_bipush F 6 dX4_markSumsWith_1 zv_b_6 ?_
  refine z_ishr F dX4_markSumsWith_3 ?_
  rw [show (nI p >>> ((6 : Int32) &&& 31)) = nI (p / 64) from pk_shrN (by omega) _ 6 (i_shrc 6 (by decide))]
  refine z_istore2 F dX4_markSumsWith_4 rfl ?_
  refine z_iload1 F dX4_markSumsWith_5 ?_
  refine z_bipush F 63 dX4_markSumsWith_6 zv_b_63 ?_
  refine z_iand F dX4_markSumsWith_8 ?_
  rw [show nI p &&& (63 : Int32) = nI (p % 64) by rw [show (63 : Int32) = nI 63 from rfl, nx_and, show (63 : Nat) = 2 ^ 6 - 1 from rfl, Nat.and_two_pow_sub_one_eq_mod]]
  refine z_istore3 F dX4_markSumsWith_9 rfl ?_
  refine z_bipush F 37 dX4_markSumsWith_10 zv_b_37 ?_
  refine z_istore4 F dX4_markSumsWith_12 rfl ?_
  have loop : ∀ k, k ≤ 38 → p / 64 ≤ k → ∀ (a5 : Option Value), z_J X SX 14 [some (.ref 0), some (.int (nI p)), some (.int (nI (p / 64))), some (.int (nI (p % 64))), some (.int (nI k + (-1))), a5, none] [] (D.1, s_mk M p k) := by
    intro k
    induction k with
    | zero =>
      intro hk hw a5
      have hw0 : p / 64 = 0 := by omega
      refine z_iload4 F dX4_markSumsWith_14 ?_
      refine z_iload2 F dX4_markSumsWith_16 ?_
      refine z_ic_lt F 82 dX4_markSumsWith_17 (by decide) (fun h17 => ?_) (fun h17 => ?_)
      · refine hR _ _ _ dX4_markSumsWith_82 ?_
        rw [hw0]
        exact rfl
      · exact absurd (by rw [hw0]; decide) h17
    | succ k ih =>
      intro hk hw a5
      rw [pk_m1]
      refine z_iload4 F dX4_markSumsWith_14 ?_
      refine z_iload2 F dX4_markSumsWith_16 ?_
      refine z_ic_lt F 82 dX4_markSumsWith_17 (by decide) (fun h17 => ?_) (fun h17 => ?_)
      · have hkw : k + 1 = p / 64 := by
          have := (nI_ltI (a := k) (b := p / 64) (by omega) (by omega)).mp h17
          omega
        rw [hkw]
        refine hR _ _ _ dX4_markSumsWith_82 ?_
        exact rfl
      · have hkw : p / 64 ≤ k := (nI_leI (a := p / 64) (b := k) (by omega) (by omega)).mp (Int32.not_lt.mp h17)
        have tl : z_J X SX 64 [some (.ref 0), some (.int (nI p)), some (.int (nI (p / 64))), some (.int (nI (p % 64))), some (.int (nI k)), some (.long (s_mv M p k)), none] [] (D.1, s_mk M p (k + 1)) := by
          refine z_aload0 F dX4_markSumsWith_64 ?_
          refine z_getR F PH_sumMarks fX4_43 dX4_markSumsWith_65 ?_
          refine z_iload4 F dX4_markSumsWith_68 ?_
          refine z_dup2 F dX4_markSumsWith_70 rfl rfl ?_
          refine z_lald F (k := 52) (n := 38) (by decide) rfl rfl (by decide) (k) rfl (by omega) dX4_markSumsWith_71 ?_
          rw [show (D.1, s_mk M p (k + 1)).2 k = M k from s_mk_lo M p (Nat.lt_succ_self k)]
          refine z_lload5 F dX4_markSumsWith_72 ?_
          refine z_lor F dX4_markSumsWith_74 ?_
          refine z_last F (k := 52) (n := 38) (by decide) rfl rfl (by decide) SX_long (k) rfl (by omega) dX4_markSumsWith_75 ?_
          rw [show z_upL (D.1, s_mk M p (k + 1)) k (M k ||| s_mv M p k) = (D.1, s_mk M p k) from congrArg (fun x => (D.1, x)) (s_mk_up M p (by omega))]
          refine z_iinc4 F (-1) dX4_markSumsWith_76 rfl zv_i_m1 ?_
          refine z_goto F 14 dX4_markSumsWith_79 (by decide) ?_
          exact ih (by omega) (by omega) _
        refine z_aload0 F dX4_markSumsWith_20 ?_
        refine z_getR F PH_sumMarks fX4_43 dX4_markSumsWith_21 ?_
        refine z_iload4 F dX4_markSumsWith_24 ?_
        refine z_iload2 F dX4_markSumsWith_26 ?_
        refine z_isub F dX4_markSumsWith_27 ?_
        refine z_lald F (k := 52) (n := 38) (by decide) rfl rfl (by decide) (k - p / 64) (pk_sub (show p / 64 ≤ k by omega)) (by omega) dX4_markSumsWith_28 ?_
        rw [show (D.1, s_mk M p (k + 1)).2 (k - p / 64) = M (k - p / 64) from s_mk_lo M p (by omega)]
        refine z_iload3 F dX4_markSumsWith_29 ?_
        refine z_lshl F dX4_markSumsWith_30 ?_
        refine z_lstore5 F dX4_markSumsWith_31 rfl ?_
        refine z_iload3 F dX4_markSumsWith_33 ?_
        refine z_if_le F 64 dX4_markSumsWith_34 (by decide) (fun h34 => ?_) (fun h34 => ?_)
        · have e : s_mv M p k = M (k - p / 64) <<< ((nI (p % 64)).toInt64 &&& 63) := if_neg (fun z => absurd h34 (Int32.not_le.mpr (nI_lt (a := 0) (b := p % 64) z.1 (by omega))))
          rw [← e]
          exact tl
        · refine z_iload4 F dX4_markSumsWith_37 ?_
          refine z_iload2 F dX4_markSumsWith_39 ?_
          refine z_ic_le F 64 dX4_markSumsWith_40 (by decide) (fun h40 => ?_) (fun h40 => ?_)
          · have e : s_mv M p k = M (k - p / 64) <<< ((nI (p % 64)).toInt64 &&& 63) := if_neg (fun z => absurd h40 (Int32.not_le.mpr (nI_lt (a := p / 64) (b := k) z.2 (by omega))))
            rw [← e]
            exact tl
          · have hb0 : 0 < p % 64 := by
              rcases Nat.eq_zero_or_pos (p % 64) with z | z
              · rw [z] at h34; exact absurd (by decide) h34
              · exact z
            have hkw2 : p / 64 < k := (nI_ltI (a := p / 64) (b := k) (by omega) (by omega)).mp (Int32.not_le.mp h40)
            refine z_lload5 F dX4_markSumsWith_43 ?_
            refine z_aload0 F dX4_markSumsWith_45 ?_
            refine z_getR F PH_sumMarks fX4_43 dX4_markSumsWith_46 ?_
            refine z_iload4 F dX4_markSumsWith_49 ?_
            refine z_iload2 F dX4_markSumsWith_51 ?_
            refine z_isub F dX4_markSumsWith_52 ?_
            refine z_iconst F 1 dX4_markSumsWith_53 zv_i_1 ?_
            refine z_isub F dX4_markSumsWith_54 ?_
            refine z_lald F (k := 52) (n := 38) (by decide) rfl rfl (by decide) (k - p / 64 - 1) (by rw [pk_sub (show p / 64 ≤ k by omega)]; exact pk_sub (show 1 ≤ k - p / 64 by omega)) (by omega) dX4_markSumsWith_55 ?_
            rw [show (D.1, s_mk M p (k + 1)).2 (k - p / 64 - 1) = M (k - p / 64 - 1) from s_mk_lo M p (by omega)]
            refine z_bipush F 64 dX4_markSumsWith_56 zv_b_64 ?_
            refine z_iload3 F dX4_markSumsWith_58 ?_
            refine z_isub F dX4_markSumsWith_59 ?_
            refine z_lushr F dX4_markSumsWith_60 ?_
            refine z_lor F dX4_markSumsWith_61 ?_
            refine z_lstore5 F dX4_markSumsWith_62 rfl ?_
            have e : s_mv M p k = M (k - p / 64) <<< ((nI (p % 64)).toInt64 &&& 63) ||| l_us (M (k - p / 64 - 1)) (64 - nI (p % 64)) := if_pos ⟨hb0, hkw2⟩
            rw [e] at tl
            exact tl
  have h := loop 38 (Nat.le_refl _) (by omega) none
  rw [s_mk_38] at h
  exact h
def s_zer (M : Nat → Int64) (c j : Nat) : Int64 := if j < c then 0 else M j
theorem s_zer_up (M : Nat → Int64) (c : Nat) : vp_updL (s_zer M c) c 0 = s_zer M (c + 1) := by
  funext j
  unfold vp_updL s_zer
  by_cases e : j = c
  · subst e; rw [if_pos rfl, if_pos (by omega)]
  · rw [if_neg e]
    by_cases g : j < c
    · rw [if_pos g, if_pos (by omega)]
    · rw [if_neg g, if_neg (by omega)]
set_option maxHeartbeats 1000000 in
set_option maxRecDepth 20000 in
theorem c4_sums (D : zD) {N : Nat} (hN : D.1 1 4 = nI N) (h10 : N ≤ 10) (hpen : ∀ c, c < N → ∃ p, p ≤ 240 ∧ D.1 1 (16 + 8 * c + 3) = nI p) : z_CI SX zT yX4_sums cX4_sums 3 .int 1 [.ref 0] D (z_qX D (o_sums (D.1 1) N)) := by
  refine z_startI SX_ok (by decide +kernel) (fun v hv => by simp at hv; subst hv; rfl) (Nat.le_of_ble_eq_true rfl) (fun X F hR => ?_)
  show z_J X SX 0 [some (.ref 0), none, none] [] D
  refine z_iconst F 0 dX4_sums_0 zv_i_0 ?_
  refine z_istore1 F dX4_sums_1 rfl ?_
  have loop3w : ∀ M : Nat → Int64, (∀ s, s < 2432 → lb M s = s_sums (D.1 1) N s) → z_J X SX 82 [some (.ref 0), some (.int 0), some (.int 0)] [] ((D.1, M) : zD) := by
    intro M hM
    have loop3 : ∀ (n k : Nat), k + n = 38 → z_J X SX 82 [some (.ref 0), some (.int (nI (p_tally (lb M) (64 * k)))), some (.int (nI k))] [] ((D.1, M) : zD) := by
      intro n
      induction n with
      | zero =>
        intro k hn 
        refine z_iload2 F dX4_sums_82 ?_
        refine z_bipush F 38 dX4_sums_83 zv_b_38 ?_
        refine z_ic_ge F 106 dX4_sums_85 (by decide) (fun h85 => ?_) (fun h85 => ?_)
        · refine z_iload1 F dX4_sums_106 ?_
          refine hR _ _ _ _ dX4_sums_107 rfl ?_
          rw [show k = 38 by omega, s_sums_all h10 hpen hM]
          exact ⟨rfl, z_sm_r D⟩
        · exact absurd (nI_le (a := 38) (b := k) (by omega) (by omega)) h85
      | succ n ih =>
        intro k hn 
        refine z_iload2 F dX4_sums_82 ?_
        refine z_bipush F 38 dX4_sums_83 zv_b_38 ?_
        refine z_ic_ge F 106 dX4_sums_85 (by decide) (fun h85 => ?_) (fun h85 => ?_)
        · exact absurd h85 (nI_ge (a := k) (b := 38) (by omega) (by omega))
        · refine z_iload1 F dX4_sums_88 ?_
          refine z_aload0 F dX4_sums_89 ?_
          refine z_getR F PH_sumMarks fX4_43 dX4_sums_90 ?_
          refine z_iload2 F dX4_sums_93 ?_
          refine z_lald F (k := 52) (n := 38) (by decide) rfl rfl (by decide) (k) rfl (by omega) dX4_sums_94 ?_
          refine z_callSI1 F (cj_bitsL _ _) kX4_188 (by decide) (Nat.le_of_ble_eq_true rfl) rfl dX4_sums_95 ?_
          refine z_iadd F dX4_sums_98 ?_
          refine z_istore1 F dX4_sums_99 rfl ?_
          refine z_iinc2 F 1 dX4_sums_100 rfl zv_i_1 ?_
          refine z_goto F 82 dX4_sums_103 (by decide) ?_
          have h := ih (k + 1) (by omega)
          rw [show nI (k + 1) = nI k + 1 from nI_succ k, p_tally_64, ← nI_add] at h
          exact h
    
    exact loop3 38 0 (by omega)
  have loop2 : ∀ (n c : Nat), c + n = N → ∀ M : Nat → Int64, (∀ s, s < 2432 → lb M s = s_sums (D.1 1) c s) → z_J X SX 30 [some (.ref 0), some (.int (nI c)), none] [] ((D.1, M) : zD) := by
    intro n
    induction n with
    | zero =>
      intro c hn M hM
      refine z_iload1 F dX4_sums_30 ?_
      refine z_aload0 F dX4_sums_31 ?_
      refine z_getR F PH_coat fX4_10 dX4_sums_32 ?_
      refine z_getI F (C_coins z_r1) fX4_59 dX4_sums_35 ?_
      refine z_ic_ge F 78 dX4_sums_38 (by decide) (fun h38 => ?_) (fun h38 => ?_)
      · refine z_iconst F 0 dX4_sums_78 zv_i_0 ?_
        refine z_istore1 F dX4_sums_79 rfl ?_
        refine z_iconst F 0 dX4_sums_80 zv_i_0 ?_
        refine z_istore2 F dX4_sums_81 rfl ?_
        exact loop3w M (fun s hs => by rw [← show c = N by omega]; exact hM s hs)
      · exact absurd (by rw [hN]; exact nI_le (by omega) (by omega)) h38
    | succ n ih =>
      intro c hn M hM
      refine z_iload1 F dX4_sums_30 ?_
      refine z_aload0 F dX4_sums_31 ?_
      refine z_getR F PH_coat fX4_10 dX4_sums_32 ?_
      refine z_getI F (C_coins z_r1) fX4_59 dX4_sums_35 ?_
      refine z_ic_ge F 78 dX4_sums_38 (by decide) (fun h38 => ?_) (fun h38 => ?_)
      · exact absurd h38 (by rw [hN]; exact nI_ge (by omega) (by omega))
      · refine z_aload0 F dX4_sums_41 ?_
        refine z_getR F PH_coat fX4_10 dX4_sums_42 ?_
        refine z_getR F (C_row z_r1) fX4_71 dX4_sums_45 ?_
        refine z_iload1 F dX4_sums_48 ?_
        refine z_aald F (aRow z_r1) (Or.inl rfl) (c) rfl (show c < 10 by omega) dX4_sums_49 ?_
        refine z_getI F (K_f z_r1 (show c < 10 by omega) 4 (by decide)) fX4_95 dX4_sums_50 ?_
        obtain ⟨p, hp, ep⟩ := hpen c (by omega)
        refine z_if_ne F 72 dX4_sums_53 (by decide) (fun h53 => ?_) (fun h53 => ?_)
        · refine z_iinc1 F 1 dX4_sums_72 rfl zv_i_1 ?_
          refine z_goto F 30 dX4_sums_75 (by decide) ?_
          have h := ih (c + 1) (by omega) M (fun s hs => by rw [s_sums_out (D.1 1) h53]; exact hM s hs)
          rw [show nI (c + 1) = nI c + 1 from nI_succ c] at h
          exact h
        · refine z_aload0 F dX4_sums_56 ?_
          refine z_aload0 F dX4_sums_57 ?_
          refine z_getR F PH_coat fX4_10 dX4_sums_58 ?_
          refine z_getR F (C_row z_r1) fX4_71 dX4_sums_61 ?_
          refine z_iload1 F dX4_sums_64 ?_
          refine z_aald F (aRow z_r1) (Or.inl rfl) (c) rfl (show c < 10 by omega) dX4_sums_65 ?_
          refine z_getI F (K_f z_r1 (show c < 10 by omega) 3 (by decide)) fX4_182 dX4_sums_66 ?_
          rw [ep]
          refine z_callVV1 F (c4_marks D M p hp) kX4_185 (by decide) ocPH (Nat.le_of_ble_eq_true rfl) rfl dX4_sums_69 ?_
          refine z_iinc1 F 1 dX4_sums_72 rfl zv_i_1 ?_
          refine z_goto F 30 dX4_sums_75 (by decide) ?_
          have hmk : ∀ s, s < 2432 → lb (s_mk M p (p / 64)) s = s_sums (D.1 1) (c + 1) s := by
            intro s hs
            rw [lb_mk M hs, s_sums_in (D.1 1) h53 ep (by omega), hM s hs]
            by_cases z : p ≤ s
            · rw [hM (s - p) (by omega)]
            · rw [decide_eq_false z, Bool.false_and, Bool.false_and]
          have h := ih (c + 1) (by omega) (s_mk M p (p / 64)) hmk
          rw [show nI (c + 1) = nI c + 1 from nI_succ c] at h
          exact h
  have loop : ∀ (n c : Nat), c + n = 38 → z_J X SX 2 [some (.ref 0), some (.int (nI c)), none] [] ((D.1, s_zer D.2 c) : zD) := by
    intro n
    induction n with
    | zero =>
      intro c hn 
      refine z_iload1 F dX4_sums_2 ?_
      refine z_bipush F 38 dX4_sums_3 zv_b_38 ?_
      refine z_ic_ge F 21 dX4_sums_5 (by decide) (fun h5 => ?_) (fun h5 => ?_)
      · rw [show c = 38 by omega]
        refine z_aload0 F dX4_sums_21 ?_
        refine z_getR F PH_sumMarks fX4_43 dX4_sums_22 ?_
        refine z_iconst F 0 dX4_sums_25 zv_i_0 ?_
        refine z_lconst F 1 dX4_sums_26 rfl ?_
        refine z_last F (k := 52) (n := 38) (by decide) rfl rfl (by decide) SX_long (0) rfl (by decide) dX4_sums_27 ?_
        refine z_iconst F 0 dX4_sums_28 zv_i_0 ?_
        refine z_istore1 F dX4_sums_29 rfl ?_
        exact loop2 N 0 (by omega) (vp_updL (s_zer D.2 38) 0 1) (fun s hs => by rw [lb_0 (M := (vp_updL (s_zer D.2 38) 0 1)) rfl (fun j h1 h2 => by unfold vp_updL s_zer; rw [if_neg (by omega), if_pos h2]) hs]; rfl)
      · exact absurd (nI_le (a := 38) (b := c) (by omega) (by omega)) h5
    | succ n ih =>
      intro c hn 
      refine z_iload1 F dX4_sums_2 ?_
      refine z_bipush F 38 dX4_sums_3 zv_b_38 ?_
      refine z_ic_ge F 21 dX4_sums_5 (by decide) (fun h5 => ?_) (fun h5 => ?_)
      · exact absurd h5 (nI_ge (a := c) (b := 38) (by omega) (by omega))
      · refine z_aload0 F dX4_sums_8 ?_
        refine z_getR F PH_sumMarks fX4_43 dX4_sums_9 ?_
        refine z_iload1 F dX4_sums_12 ?_
        refine z_lconst F 0 dX4_sums_13 rfl ?_
        refine z_last F (k := 52) (n := 38) (by decide) rfl rfl (by decide) SX_long (c) rfl (by omega) dX4_sums_14 ?_
        rw [show z_upL (D.1, s_zer D.2 c) c 0 = (D.1, s_zer D.2 (c + 1)) from congrArg (fun x => (D.1, x)) (s_zer_up D.2 c)]
        refine z_iinc1 F 1 dX4_sums_15 rfl zv_i_1 ?_
        refine z_goto F 2 dX4_sums_18 (by decide) ?_
        have h := ih (c + 1) (by omega)
        rw [show nI (c + 1) = nI c + 1 from nI_succ c] at h
        exact h
  have h := loop 38 0 (by omega)
  rw [show ((D.1, s_zer D.2 0) : zD) = D from by unfold s_zer; rfl] at h
  exact h
