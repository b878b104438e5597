set_option maxHeartbeats 1000000 in
set_option maxRecDepth 20000 in
theorem c2_miss (D : zD) {s : Nat} (hs : s < 4) : z_CI SX zT yX2_isMissing cX2_isMissing 1 .boolean 0 [.ref (43 + s)] D (z_eq (z_b (decide (D.1 12 s = 0))) D) := by
  refine z_startI SX_ok (by decide +kernel) (fun v hv => by simp at hv; subst hv; rfl) (Nat.le_of_ble_eq_true rfl) (fun X F hR => ?_)
  show z_J X SX 0 [some (.ref (43 + s))] [] D
  refine z_aload0 F dX2_isMissing_0 ?_
  refine z_getI F (S_bits hs) fX2_9 dX2_isMissing_1 ?_
  refine z_if_ne F 11 dX2_isMissing_4 (by decide) (fun h4 => ?_) (fun h4 => ?_)
  · refine z_iconst F 0 dX2_isMissing_11 zv_i_0 ?_
    refine hR _ _ _ _ dX2_isMissing_12 rfl ?_
    exact ⟨by rw [decide_eq_false h4]; rfl, rfl⟩
  · refine z_iconst F 1 dX2_isMissing_7 zv_i_1 ?_
    refine z_goto F 12 dX2_isMissing_8 (by decide) ?_
    refine hR _ _ _ _ dX2_isMissing_12 rfl ?_
    exact ⟨by rw [decide_eq_true h4]; rfl, rfl⟩
set_option maxHeartbeats 1000000 in
set_option maxRecDepth 20000 in
theorem c2_renew (D : zD) {s : Nat} (hs : s < 4) (y z : Int32) : z_CV SX zT yX2_renew cX2_renew 4 0 [.ref (43 + s), .int y, .int z] D (z_eqV (z_sheet D s y (if y = 0 then 0 else z))) := by
  refine z_startV SX_ok (by decide +kernel) (fun v hv => by simp at hv; rcases hv with rfl | rfl | rfl <;> rfl) (Nat.le_of_ble_eq_true rfl) (fun X F hR => ?_)
  show z_J X SX 0 [some (.ref (43 + s)), some (.int y), some (.int z), none] [] D
  refine z_aload0 F dX2_renew_0 ?_
  refine z_iload1 F dX2_renew_1 ?_
  refine z_putI F (S_bits hs) fX2_9 rfl rfl dX2_renew_2 ?_
  refine z_aload0 F dX2_renew_5 ?_
  refine z_iload1 F dX2_renew_6 ?_
  refine z_if_ne F 14 dX2_renew_7 (by decide) (fun h7 => ?_) (fun h7 => ?_)
  · obtain ⟨l, hl⟩ : ∃ l : Int32, l = z := ⟨_, rfl⟩
    have loop : ∀ (n c : Nat), c + n = 40 → z_J X SX 20 [some (.ref (43 + s)), some (.int y), some (.int z), some (.int (nI c))] [] (z_row (z_up (z_up D 12 s y) 13 s l) 14 (s_wiped (D.1 14) s c)) := by
      intro n
      induction n with
      | zero =>
        intro c hn 
        refine z_iload3 F dX2_renew_20 ?_
        refine z_bipush F 40 dX2_renew_21 zv_b_40 ?_
        refine z_ic_ge F 39 dX2_renew_23 (by decide) (fun h23 => ?_) (fun h23 => ?_)
        · refine hR _ _ _ dX2_renew_39 ?_
          show _ = _
          rw [show c = 40 by omega, if_neg h7, ← hl]; rfl
        · exact absurd (nI_le (a := 40) (b := c) (by omega) (by omega)) h23
      | succ n ih =>
        intro c hn 
        refine z_iload3 F dX2_renew_20 ?_
        refine z_bipush F 40 dX2_renew_21 zv_b_40 ?_
        refine z_ic_ge F 39 dX2_renew_23 (by decide) (fun h23 => ?_) (fun h23 => ?_)
        · exact absurd h23 (nI_ge (a := c) (b := 40) (by omega) (by omega))
        · refine z_aload0 F dX2_renew_26 ?_
          refine z_getR F (S_numbers hs) fX2_18 dX2_renew_27 ?_
          refine z_iload3 F dX2_renew_30 ?_
          refine z_iconst F 0 dX2_renew_31 zv_i_0 ?_
          refine z_iast F (aNums hs) (c) rfl (by omega) dX2_renew_32 ?_
          refine z_iinc3 F 1 dX2_renew_33 rfl zv_i_1 ?_
          refine z_goto F 20 dX2_renew_36 (by decide) ?_
          have h := ih (c + 1) (by omega)
          rw [show nI (c + 1) = nI c + 1 from nI_succ c] at h
          rw [z_row_up, s_wiped_succ]
          exact h
    refine z_iload2 F dX2_renew_14 ?_
    rw [← hl]
    refine z_putI F (S_length hs) fX2_15 rfl rfl dX2_renew_15 ?_
    refine z_iconst F 0 dX2_renew_18 zv_i_0 ?_
    refine z_istore3 F dX2_renew_19 rfl ?_
    have h := loop 40 0 (by omega)
    have e : (z_up (z_up D 12 s y) 13 s l).1 14 = D.1 14 := by rw [z_upo _ _ _ (by decide), z_upo _ _ _ (by decide)]
    rw [s_wiped_0, ← e, z_row_eq] at h
    subst hl
    exact h
  · obtain ⟨l, hl⟩ : ∃ l : Int32, l = 0 := ⟨_, rfl⟩
    have loop : ∀ (n c : Nat), c + n = 40 → z_J X SX 20 [some (.ref (43 + s)), some (.int y), some (.int z), some (.int (nI c))] [] (z_row (z_up (z_up D 12 s y) 13 s l) 14 (s_wiped (D.1 14) s c)) := by
      intro n
      induction n with
      | zero =>
        intro c hn 
        refine z_iload3 F dX2_renew_20 ?_
        refine z_bipush F 40 dX2_renew_21 zv_b_40 ?_
        refine z_ic_ge F 39 dX2_renew_23 (by decide) (fun h23 => ?_) (fun h23 => ?_)
        · refine hR _ _ _ dX2_renew_39 ?_
          show _ = _
          rw [show c = 40 by omega, if_pos h7, ← hl]; rfl
        · exact absurd (nI_le (a := 40) (b := c) (by omega) (by omega)) h23
      | succ n ih =>
        intro c hn 
        refine z_iload3 F dX2_renew_20 ?_
        refine z_bipush F 40 dX2_renew_21 zv_b_40 ?_
        refine z_ic_ge F 39 dX2_renew_23 (by decide) (fun h23 => ?_) (fun h23 => ?_)
        · exact absurd h23 (nI_ge (a := c) (b := 40) (by omega) (by omega))
        · refine z_aload0 F dX2_renew_26 ?_
          refine z_getR F (S_numbers hs) fX2_18 dX2_renew_27 ?_
          refine z_iload3 F dX2_renew_30 ?_
          refine z_iconst F 0 dX2_renew_31 zv_i_0 ?_
          refine z_iast F (aNums hs) (c) rfl (by omega) dX2_renew_32 ?_
          refine z_iinc3 F 1 dX2_renew_33 rfl zv_i_1 ?_
          refine z_goto F 20 dX2_renew_36 (by decide) ?_
          have h := ih (c + 1) (by omega)
          rw [show nI (c + 1) = nI c + 1 from nI_succ c] at h
          rw [z_row_up, s_wiped_succ]
          exact h
    refine z_iconst F 0 dX2_renew_10 zv_i_0 ?_
    refine z_goto F 15 dX2_renew_11 (by decide) ?_
    rw [← hl]
    refine z_putI F (S_length hs) fX2_15 rfl rfl dX2_renew_15 ?_
    refine z_iconst F 0 dX2_renew_18 zv_i_0 ?_
    refine z_istore3 F dX2_renew_19 rfl ?_
    have h := loop 40 0 (by omega)
    have e : (z_up (z_up D 12 s y) 13 s l).1 14 = D.1 14 := by rw [z_upo _ _ _ (by decide), z_upo _ _ _ (by decide)]
    rw [s_wiped_0, ← e, z_row_eq] at h
    subst hl
    exact h
set_option maxHeartbeats 1000000 in
set_option maxRecDepth 20000 in
theorem c2_set (D : zD) {s : Nat} (hs : s < 4) (i : Nat) (hi : i < 40) (v : Int32) : z_CV SX zT yX2_set cX2_set 3 0 [.ref (43 + s), .int (nI i), .int v] D (z_eqV (z_up D 14 (40 * s + i) (i_cut v (D.1 12 s)))) := by
  refine z_startV SX_ok (by decide +kernel) (fun v hv => by simp at hv; rcases hv with rfl | rfl | rfl <;> rfl) (Nat.le_of_ble_eq_true rfl) (fun X F hR => ?_)
  show z_J X SX 0 [some (.ref (43 + s)), some (.int (nI i)), some (.int v)] [] D
  refine z_aload0 F dX2_set_0 ?_
  refine z_getI F (S_bits hs) fX2_9 dX2_set_1 ?_
  refine z_bipush F 8 dX2_set_4 zv_b_8 ?_
  refine z_ic_ne F 20 dX2_set_6 (by decide) (fun h6 => ?_) (fun h6 => ?_)
  · refine z_aload0 F dX2_set_20 ?_
    refine z_getI F (S_bits hs) fX2_9 dX2_set_21 ?_
    refine z_bipush F 16 dX2_set_24 zv_b_16 ?_
    refine z_ic_ne F 40 dX2_set_26 (by decide) (fun h26 => ?_) (fun h26 => ?_)
    · refine z_aload0 F dX2_set_40 ?_
      refine z_getR F (S_numbers hs) fX2_18 dX2_set_41 ?_
      refine z_iload1 F dX2_set_44 ?_
      refine z_iload2 F dX2_set_45 ?_
      refine z_iast F (aNums hs) (i) rfl hi dX2_set_46 ?_
      refine hR _ _ _ dX2_set_47 ?_
      show _ = _
      rw [i_cut, if_neg h6, if_neg h26]
    · refine z_aload0 F dX2_set_29 ?_
      refine z_getR F (S_numbers hs) fX2_18 dX2_set_30 ?_
      refine z_iload1 F dX2_set_33 ?_
      refine z_iload2 F dX2_set_34 ?_
      refine z_i2s F dX2_set_35 ?_
      refine z_iast F (aNums hs) (i) rfl hi dX2_set_36 ?_
      refine z_goto F 47 dX2_set_37 (by decide) ?_
      refine hR _ _ _ dX2_set_47 ?_
      show _ = _
      rw [i_cut, if_neg h6, if_pos h26]
  · refine z_aload0 F dX2_set_9 ?_
    refine z_getR F (S_numbers hs) fX2_18 dX2_set_10 ?_
    refine z_iload1 F dX2_set_13 ?_
    refine z_iload2 F dX2_set_14 ?_
    refine z_i2b F dX2_set_15 ?_
    refine z_iast F (aNums hs) (i) rfl hi dX2_set_16 ?_
    refine z_goto F 47 dX2_set_17 (by decide) ?_
    refine hR _ _ _ dX2_set_47 ?_
    show _ = _
    rw [i_cut, if_pos h6]
