/-- findings told, all of them -/
def s_told (φ : Nat → Int32) : Nat → Int32
  | 0 => 0
  | k + 1 => s_told φ k + φ (1 + k)
def o_statX (φ : Nat → Int32) (w : Int32) : oQ := if b_in w (-1) 6 = true then .inr (if w = -1 then s_told φ 7 else φ (1 + i_n w)) else .inl 0
set_option maxHeartbeats 1000000 in
set_option maxRecDepth 20000 in
theorem c4_status (D : zD) (x : Int32) : z_CI SX zT yX4_status cX4_status 4 .int 1 [.ref 0, .int x] D (z_eq (q_ans (o_statX (D.1 4) x)) (q_X D (o_statX (D.1 4) x))) := by
  refine z_startI SX_ok (by decide +kernel) (fun v hv => by simp at hv; rcases hv with rfl | rfl <;> rfl) (Nat.le_of_ble_eq_true rfl) (fun X F hR => ?_)
  show z_J X SX 0 [some (.ref 0), some (.int x), none, none] [] D
  refine z_iload1 F dX4_status_0 ?_
  refine z_iconst F (-1) dX4_status_1 zv_i_m1 ?_
  refine z_bipush F 6 dX4_status_2 zv_b_6 ?_
  refine z_callSI3 F (c4_isWithin _ _ _ _) kX4_51 (by decide) (Nat.le_of_ble_eq_true rfl) rfl dX4_status_4 ?_
  refine z_ifb_ne F 16 dX4_status_7 (by decide) (fun h7 => ?_) (fun h7 => ?_)
  · refine z_iload1 F dX4_status_16 ?_
    refine z_if_lt F 27 dX4_status_17 (by decide) (fun h17 => ?_) (fun h17 => ?_)
    · have hx : x = -1 := by
        simp only [b_in, Bool.and_eq_true, decide_eq_true_eq] at h7
        apply Int32.toInt_inj.mp
        have a := h7.1
        rw [Int32.le_iff_toInt_le] at a
        rw [Int32.lt_iff_toInt_lt] at h17
        have e1 : (-1 : Int32).toInt = -1 := by decide
        have e0 : (0 : Int32).toInt = 0 := by decide
        omega
      refine z_iconst F 0 dX4_status_27 zv_i_0 ?_
      refine z_istore2 F dX4_status_28 rfl ?_
      refine z_iconst F 0 dX4_status_29 zv_i_0 ?_
      refine z_istore3 F dX4_status_30 rfl ?_
      have loop : ∀ (n c : Nat), c + n = 7 → z_J X SX 31 [some (.ref 0), some (.int x), some (.int (s_told (D.1 4) c)), some (.int (nI c))] [] D := by
        intro n
        induction n with
        | zero =>
          intro c hn 
          refine z_iload3 F dX4_status_31 ?_
          refine z_bipush F 7 dX4_status_32 zv_b_7 ?_
          refine z_ic_ge F 52 dX4_status_34 (by decide) (fun h34 => ?_) (fun h34 => ?_)
          · refine z_iload2 F dX4_status_52 ?_
            refine hR _ _ _ _ dX4_status_53 rfl ?_
            rw [show c = 7 by omega]
            simp only [o_statX, h7, hx, Bool.false_eq_true, if_true, if_false, Bool.and_true, Bool.true_and, Bool.and_false, Bool.false_and, Bool.and_self, and_self]
            exact ⟨rfl, rfl⟩
          · exact absurd (nI_le (a := 7) (b := c) (by omega) (by omega)) h34
        | succ n ih =>
          intro c hn 
          refine z_iload3 F dX4_status_31 ?_
          refine z_bipush F 7 dX4_status_32 zv_b_7 ?_
          refine z_ic_ge F 52 dX4_status_34 (by decide) (fun h34 => ?_) (fun h34 => ?_)
          · exact absurd h34 (nI_ge (a := c) (b := 7) (by omega) (by omega))
          · refine z_iload2 F dX4_status_37 ?_
            refine z_aload0 F dX4_status_38 ?_
            refine z_getR F PH_findingsTold fX4_39 dX4_status_39 ?_
            refine z_iload3 F dX4_status_42 ?_
            refine z_iald F aFound (c) rfl (by omega) dX4_status_43 ?_
            refine z_iadd F dX4_status_44 ?_
            refine z_istore2 F dX4_status_45 rfl ?_
            refine z_iinc3 F 1 dX4_status_46 rfl zv_i_1 ?_
            refine z_goto F 31 dX4_status_49 (by decide) ?_
            have h := ih (c + 1) (by omega)
            rw [show nI (c + 1) = nI c + 1 from nI_succ c, s_told] at h
            exact h
      exact loop 7 0 (by omega)
    · obtain ⟨j, hj31, rfl⟩ := nI_of h17
      have hj : j < 7 := by
        simp only [b_in, Bool.and_eq_true, decide_eq_true_eq] at h7
        have := (nI_leI (a := j) (b := 6) hj31 (by decide)).mp h7.2
        omega
      have hjn := i_n_n hj31
      have hm : ¬ nI j = -1 := fun e => h17 (by rw [e]; decide)
      refine z_aload0 F dX4_status_20 ?_
      refine z_getR F PH_findingsTold fX4_39 dX4_status_21 ?_
      refine z_iload1 F dX4_status_24 ?_
      refine z_iald F aFound (j) rfl hj dX4_status_25 ?_
      refine hR _ _ _ _ dX4_status_26 rfl ?_
      simp only [o_statX, h7, hm, hjn, Bool.false_eq_true, if_true, if_false, Bool.and_true, Bool.true_and, Bool.and_false, Bool.false_and, Bool.and_self, and_self]; exact ⟨rfl, rfl⟩
  · refine z_aload0 F dX4_status_10 ?_
    refine z_iconst F 0 dX4_status_11 zv_i_0 ?_
    refine z_callVI1 F (c4_finding _ 0 (by decide)) kX4_55 (by decide) ocPH (Nat.le_of_ble_eq_true rfl) rfl dX4_status_12 ?_
    refine hR _ _ _ _ dX4_status_15 rfl ?_
    simp only [o_statX, h7, Bool.false_eq_true, if_true, if_false, Bool.and_true, Bool.true_and, Bool.and_false, Bool.false_and, Bool.and_self, and_self]; first | exact ⟨rfl, rfl⟩ | exact ⟨by decide, rfl⟩ | exact ⟨by decide, z_sm_r _⟩ | exact ⟨rfl, z_sm_r _⟩
