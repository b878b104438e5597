/-- the set of those of N coins that lie in a place -/
def s_lie (σ : Nat → Int32) (pl : Int32) : Nat → Int32
  | 0 => 0
  | c + 1 => if σ (16 + 8 * c + 4) = pl then s_lie σ pl c ||| ((1 : Int32) <<< (nI c &&& 31)) else s_lie σ pl c
theorem i_or0 (x : Int32) : x ||| 0 = x := by
  apply Int32.toBitVec_inj.mp
  simp
set_option maxHeartbeats 4000000 in
set_option maxRecDepth 20000 in
theorem c5_at (D : zD) (c f : Nat) : z_CI SM zT yX5_at cX5_at 2 .int 0 [.int (nI c), .int (nI f)] D (z_eq (nI (16 + 8 * c + f)) D) := by
  refine z_startI SM_ok (by decide +kernel) (fun v hv => by simp at hv; rcases hv with rfl | rfl <;> rfl) (Nat.le_of_ble_eq_true rfl) (fun X F hR => ?_)
  show z_J X SM 0 [some (.int (nI c)), some (.int (nI f))] [] D
  refine z_bipush F 16 dX5_at_0 zv_b_16 ?_
  refine z_bipush F 8 dX5_at_2 zv_b_8 ?_
  refine z_iload0 F dX5_at_4 ?_
  refine z_imul F dX5_at_5 ?_
  refine z_iadd F dX5_at_6 ?_
  refine z_iload1 F dX5_at_7 ?_
  refine z_iadd F dX5_at_8 ?_
  refine hR _ _ _ _ dX5_at_9 rfl ?_
  exact ⟨by show nI 16 + nI 8 * nI c + nI f = _; rw [pk_mul, nI_add, nI_add], rfl⟩
set_option maxHeartbeats 4000000 in
set_option maxRecDepth 20000 in
theorem c5_coinIs (D : zD) (c f : Nat) (hc : c < 10) (hf : f < 8) : z_CI SM zT yX5_coinIs cX5_coinIs 3 .int 1 [.ref 0, .int (nI c), .int (nI f)] D (z_eq (D.1 1 (16 + 8 * c + f)) D) := by
  refine z_startI SM_ok (by decide +kernel) (fun v hv => by simp at hv; rcases hv with rfl | rfl | rfl <;> rfl) (Nat.le_of_ble_eq_true rfl) (fun X F hR => ?_)
  show z_J X SM 0 [some (.ref 0), some (.int (nI c)), some (.int (nI f))] [] D
  refine z_aload0 F dX5_coinIs_0 ?_
  refine z_getR F M_now fX5_9 dX5_coinIs_1 ?_
  refine z_iload1 F dX5_coinIs_4 ?_
  refine z_iload2 F dX5_coinIs_5 ?_
  refine z_callSI2 F (c5_at D c f) kX5_82 (by decide) (Nat.le_of_ble_eq_true rfl) rfl dX5_coinIs_6 ?_
  refine z_iald F aM_now (16 + 8 * c + f) rfl (by omega) dX5_coinIs_9 ?_
  refine hR _ _ _ _ dX5_coinIs_10 rfl ?_
  exact ⟨rfl, rfl⟩
set_option maxHeartbeats 4000000 in
set_option maxRecDepth 20000 in
theorem c5_isIn (D : zD) (c : Nat) (pl : Int32) (hc : c < 10) : z_CI SM zT yX5_isIn cX5_isIn 3 .boolean 2 [.ref 0, .int (nI c), .int pl] D (z_eq (z_b (decide (D.1 1 (16 + 8 * c + 4) = pl))) D) := by
  refine z_startI SM_ok (by decide +kernel) (fun v hv => by simp at hv; rcases hv with rfl | rfl | rfl <;> rfl) (Nat.le_of_ble_eq_true rfl) (fun X F hR => ?_)
  show z_J X SM 0 [some (.ref 0), some (.int (nI c)), some (.int pl)] [] D
  refine z_aload0 F dX5_isIn_0 ?_
  refine z_iload1 F dX5_isIn_1 ?_
  refine z_iconst F 4 dX5_isIn_2 zv_i_4 ?_
  refine z_callVI2 F (c5_coinIs D c 4 hc (by decide)) kX5_105 (by decide) ocM (Nat.le_of_ble_eq_true rfl) rfl dX5_isIn_3 ?_
  refine z_iload2 F dX5_isIn_6 ?_
  refine z_ic_ne F 14 dX5_isIn_7 (by decide) (fun h7 => ?_) (fun h7 => ?_)
  · refine z_iconst F 0 dX5_isIn_14 zv_i_0 ?_
    refine hR _ _ _ _ dX5_isIn_15 rfl ?_
    exact ⟨by simp [z_b, h7], rfl⟩
  · refine z_iconst F 1 dX5_isIn_10 zv_i_1 ?_
    refine z_goto F 15 dX5_isIn_11 (by decide) ?_
    refine hR _ _ _ _ dX5_isIn_15 rfl ?_
    exact ⟨by simp [z_b, h7], rfl⟩
set_option maxHeartbeats 4000000 in
set_option maxRecDepth 20000 in
theorem c5_lieIn (D : zD) (pl : Int32) {N : Nat} (hN : D.1 1 4 = nI N) (h10 : N ≤ 10) : z_CI SM zT yX5_lieIn cX5_lieIn 4 .int 3 [.ref 0, .int pl] D (z_eq (s_lie (D.1 1) pl N) D) := by
  refine z_startI SM_ok (by decide +kernel) (fun v hv => by simp at hv; rcases hv with rfl | rfl <;> rfl) (Nat.le_of_ble_eq_true rfl) (fun X F hR => ?_)
  show z_J X SM 0 [some (.ref 0), some (.int pl), none, none] [] D
  have loop : ∀ (n c : Nat), c + n = N → z_J X SM 4 [some (.ref 0), some (.int pl), some (.int (s_lie (D.1 1) pl c)), some (.int (nI c))] [] D := by
    intro n
    induction n with
    | zero =>
      intro c hn
      refine z_iload3 F dX5_lieIn_4 ?_
      refine z_aload0 F dX5_lieIn_5 ?_
      refine z_getR F M_now fX5_9 dX5_lieIn_6 ?_
      refine z_iconst F 4 dX5_lieIn_9 zv_i_4 ?_
      refine z_iald F aM_now (4) rfl (by decide) dX5_lieIn_10 ?_
      refine z_ic_ge F 39 dX5_lieIn_11 (by decide) (fun h11 => ?_) (fun h11 => ?_)
      · refine z_iload2 F dX5_lieIn_39 ?_
        refine hR _ _ _ _ dX5_lieIn_40 rfl ?_
        exact ⟨by rw [show c = N by omega], rfl⟩
      · exact absurd (by rw [hN]; exact nI_le (by omega) (by omega)) h11
    | succ n ih =>
      intro c hn
      refine z_iload3 F dX5_lieIn_4 ?_
      refine z_aload0 F dX5_lieIn_5 ?_
      refine z_getR F M_now fX5_9 dX5_lieIn_6 ?_
      refine z_iconst F 4 dX5_lieIn_9 zv_i_4 ?_
      refine z_iald F aM_now (4) rfl (by decide) dX5_lieIn_10 ?_
      refine z_ic_ge F 39 dX5_lieIn_11 (by decide) (fun h11 => ?_) (fun h11 => ?_)
      · exact absurd h11 (by rw [hN]; exact nI_ge (by omega) (by omega))
      · refine z_iload2 F dX5_lieIn_14 ?_
        refine z_aload0 F dX5_lieIn_15 ?_
        refine z_iload3 F dX5_lieIn_16 ?_
        refine z_iload1 F dX5_lieIn_17 ?_
        refine z_callVI2 F (c5_isIn D c pl (by omega)) kX5_135 (by decide) ocM (Nat.le_of_ble_eq_true rfl) rfl dX5_lieIn_18 ?_
        refine z_ifb_eq F 30 dX5_lieIn_21 (by decide) (fun h21 => ?_) (fun h21 => ?_)
        · refine z_iconst F 0 dX5_lieIn_30 zv_i_0 ?_
          refine z_ior F dX5_lieIn_31 ?_
          refine z_istore2 F dX5_lieIn_32 rfl ?_
          refine z_iinc3 F 1 dX5_lieIn_33 rfl zv_i_1 ?_
          refine z_goto F 4 dX5_lieIn_36 (by decide) ?_
          have h := ih (c + 1) (by omega)
          simp only [s_lie, nI_succ, of_decide_eq_true, h21] at h
          first | exact h | (simp at h21; simp only [h21, if_true, if_false, i_or0] at h ⊢; exact h)
        · refine z_iconst F 1 dX5_lieIn_24 zv_i_1 ?_
          refine z_iload3 F dX5_lieIn_25 ?_
          refine z_ishl F dX5_lieIn_26 ?_
          refine z_goto F 31 dX5_lieIn_27 (by decide) ?_
          refine z_ior F dX5_lieIn_31 ?_
          refine z_istore2 F dX5_lieIn_32 rfl ?_
          refine z_iinc3 F 1 dX5_lieIn_33 rfl zv_i_1 ?_
          refine z_goto F 4 dX5_lieIn_36 (by decide) ?_
          have h := ih (c + 1) (by omega)
          simp only [s_lie, nI_succ, of_decide_eq_true, h21] at h
          first | exact h | (simp at h21; simp only [h21, if_true, if_false, i_or0] at h ⊢; exact h)
  refine z_iconst F 0 dX5_lieIn_0 zv_i_0 ?_
  refine z_istore2 F dX5_lieIn_1 rfl ?_
  refine z_iconst F 0 dX5_lieIn_2 zv_i_0 ?_
  refine z_istore3 F dX5_lieIn_3 rfl ?_
  exact loop N 0 (by omega)
set_option maxHeartbeats 4000000 in
set_option maxRecDepth 20000 in
theorem c0_in (D : zD) {r : Nat} (hr : z_R3 r) (pl : Int32) {N : Nat} (hN : D.1 r 4 = nI N) (h10 : N ≤ 10) : z_CI SX zT yX0_in cX0_in 4 .int 1 [.ref r, .int pl] D (z_eq (s_lie (D.1 r) pl N) D) := by
  refine z_startI SX_ok (by decide +kernel) (fun v hv => by simp at hv; rcases hv with rfl | rfl <;> rfl) (Nat.le_of_ble_eq_true rfl) (fun X F hR => ?_)
  show z_J X SX 0 [some (.ref r), some (.int pl), none, none] [] D
  have loop : ∀ (n c : Nat), c + n = N → z_J X SX 4 [some (.ref r), some (.int pl), some (.int (s_lie (D.1 r) pl c)), some (.int (nI c))] [] D := by
    intro n
    induction n with
    | zero =>
      intro c hn
      refine z_iload3 F dX0_in_4 ?_
      refine z_aload0 F dX0_in_5 ?_
      refine z_getI F (C_coins hr) fX0_27 dX0_in_6 ?_
      refine z_ic_ge F 37 dX0_in_9 (by decide) (fun h9 => ?_) (fun h9 => ?_)
      · refine z_iload2 F dX0_in_37 ?_
        refine hR _ _ _ _ dX0_in_38 rfl ?_
        exact ⟨by rw [show c = N by omega], rfl⟩
      · exact absurd (by rw [hN]; exact nI_le (by omega) (by omega)) h9
    | succ n ih =>
      intro c hn
      refine z_iload3 F dX0_in_4 ?_
      refine z_aload0 F dX0_in_5 ?_
      refine z_getI F (C_coins hr) fX0_27 dX0_in_6 ?_
      refine z_ic_ge F 37 dX0_in_9 (by decide) (fun h9 => ?_) (fun h9 => ?_)
      · exact absurd h9 (by rw [hN]; exact nI_ge (by omega) (by omega))
      · refine z_aload0 F dX0_in_12 ?_
        refine z_getR F (C_row hr) fX0_32 dX0_in_13 ?_
        refine z_iload3 F dX0_in_16 ?_
        refine z_aald F (aRow hr) (Or.inl rfl) (c) rfl (show c < 10 by omega) dX0_in_17 ?_
        refine z_getI F (K_f hr (show c < 10 by omega) 4 (by decide)) fX0_59 dX0_in_18 ?_
        refine z_iload1 F dX0_in_21 ?_
        refine z_ic_ne F 31 dX0_in_22 (by decide) (fun h22 => ?_) (fun h22 => ?_)
        · refine z_iinc3 F 1 dX0_in_31 rfl zv_i_1 ?_
          refine z_goto F 4 dX0_in_34 (by decide) ?_
          have h := ih (c + 1) (by omega)
          simp only [s_lie, nI_succ, h22, if_true, if_false] at h
          exact h
        · refine z_iload2 F dX0_in_25 ?_
          refine z_iconst F 1 dX0_in_26 zv_i_1 ?_
          refine z_iload3 F dX0_in_27 ?_
          refine z_ishl F dX0_in_28 ?_
          refine z_ior F dX0_in_29 ?_
          refine z_istore2 F dX0_in_30 rfl ?_
          refine z_iinc3 F 1 dX0_in_31 rfl zv_i_1 ?_
          refine z_goto F 4 dX0_in_34 (by decide) ?_
          have h := ih (c + 1) (by omega)
          simp only [s_lie, nI_succ, h22, if_true, if_false] at h
          exact h
  refine z_iconst F 0 dX0_in_0 zv_i_0 ?_
  refine z_istore2 F dX0_in_1 rfl ?_
  refine z_iconst F 0 dX0_in_2 zv_i_0 ?_
  refine z_istore3 F dX0_in_3 rfl ?_
  exact loop N 0 (by omega)
