set_option maxHeartbeats 1000000 in
set_option maxRecDepth 20000 in
theorem c1_thick (D : zD) {r : Nat} (hr : z_R3 r) (c : Nat) (hc : c < 10) : z_CI SX zT yX1_thickness cX1_thickness 1 .int 0 [.ref (10 * r + c)] D (z_eq (s_thick (D.1 r) c) D) := by
  refine z_startI SX_ok (by decide +kernel) (fun v hv => by simp at hv; subst hv; rfl) (Nat.le_of_ble_eq_true rfl) (fun X F hR => ?_)
  show z_J X SX 0 [some (.ref (10 * r + c))] [] D
  refine z_aload0 F dX1_thickness_0 ?_
  refine z_getI F (K_f hr hc 0 (by decide)) fX1_9 dX1_thickness_1 ?_
  refine z_tsw_1_6 rfl (fun h4 => ?_) (fun h4 => ?_) (fun h4 => ?_) (fun h4 => ?_) (fun h4 => ?_) (fun h4 => ?_) (fun h4 => ?_)
  · refine z_tabIn F 44 dX1_thickness_4 (by rw [h4]; decide) (by rw [h4]; decide) (by rw [h4]; rfl) (by decide) ?_
    refine z_iconst F 2 dX1_thickness_44 zv_i_2 ?_
    refine z_aload0 F dX1_thickness_45 ?_
    refine z_getI F (K_f hr hc 1 (by decide)) fX1_15 dX1_thickness_46 ?_
    refine z_imul F dX1_thickness_49 ?_
    refine hR _ _ _ _ dX1_thickness_50 rfl ?_
    refine ⟨?_, rfl⟩
    unfold s_thick
    generalize D.1 r (16 + 8 * c + 0) = x at *
    first
      | (subst h4; simp; done)
      | (subst h4; simp [*]; done)
      | (obtain ⟨n1, n2, n3, n4, n5, n6⟩ := z_out16 h4; simp [n1, n3, n5, n6]; done)
      | (obtain ⟨n1, n2, n3, n4, n5, n6⟩ := z_out16 h4; simp [n1, n3, n5, n6, *]; done)
  · refine z_tabIn F 79 dX1_thickness_4 (by rw [h4]; decide) (by rw [h4]; decide) (by rw [h4]; rfl) (by decide) ?_
    refine z_aload0 F dX1_thickness_79 ?_
    refine z_getI F (K_f hr hc 1 (by decide)) fX1_15 dX1_thickness_80 ?_
    refine hR _ _ _ _ dX1_thickness_83 rfl ?_
    refine ⟨?_, rfl⟩
    unfold s_thick
    generalize D.1 r (16 + 8 * c + 0) = x at *
    first
      | (subst h4; simp; done)
      | (subst h4; simp [*]; done)
      | (obtain ⟨n1, n2, n3, n4, n5, n6⟩ := z_out16 h4; simp [n1, n3, n5, n6]; done)
      | (obtain ⟨n1, n2, n3, n4, n5, n6⟩ := z_out16 h4; simp [n1, n3, n5, n6, *]; done)
  · refine z_tabIn F 51 dX1_thickness_4 (by rw [h4]; decide) (by rw [h4]; decide) (by rw [h4]; rfl) (by decide) ?_
    refine z_iconst F 2 dX1_thickness_51 zv_i_2 ?_
    refine z_aload0 F dX1_thickness_52 ?_
    refine z_getI F (K_f hr hc 1 (by decide)) fX1_15 dX1_thickness_53 ?_
    refine z_imul F dX1_thickness_56 ?_
    refine z_iconst F 3 dX1_thickness_57 zv_i_3 ?_
    refine z_iadd F dX1_thickness_58 ?_
    refine hR _ _ _ _ dX1_thickness_59 rfl ?_
    refine ⟨?_, rfl⟩
    unfold s_thick
    generalize D.1 r (16 + 8 * c + 0) = x at *
    first
      | (subst h4; simp; done)
      | (subst h4; simp [*]; done)
      | (obtain ⟨n1, n2, n3, n4, n5, n6⟩ := z_out16 h4; simp [n1, n3, n5, n6]; done)
      | (obtain ⟨n1, n2, n3, n4, n5, n6⟩ := z_out16 h4; simp [n1, n3, n5, n6, *]; done)
  · refine z_tabIn F 79 dX1_thickness_4 (by rw [h4]; decide) (by rw [h4]; decide) (by rw [h4]; rfl) (by decide) ?_
    refine z_aload0 F dX1_thickness_79 ?_
    refine z_getI F (K_f hr hc 1 (by decide)) fX1_15 dX1_thickness_80 ?_
    refine hR _ _ _ _ dX1_thickness_83 rfl ?_
    refine ⟨?_, rfl⟩
    unfold s_thick
    generalize D.1 r (16 + 8 * c + 0) = x at *
    first
      | (subst h4; simp; done)
      | (subst h4; simp [*]; done)
      | (obtain ⟨n1, n2, n3, n4, n5, n6⟩ := z_out16 h4; simp [n1, n3, n5, n6]; done)
      | (obtain ⟨n1, n2, n3, n4, n5, n6⟩ := z_out16 h4; simp [n1, n3, n5, n6, *]; done)
  · refine z_tabIn F 60 dX1_thickness_4 (by rw [h4]; decide) (by rw [h4]; decide) (by rw [h4]; rfl) (by decide) ?_
    refine z_aload0 F dX1_thickness_60 ?_
    refine z_getI F (K_f hr hc 1 (by decide)) fX1_15 dX1_thickness_61 ?_
    refine z_iconst F 1 dX1_thickness_64 zv_i_1 ?_
    refine z_ic_le F 77 dX1_thickness_65 (by decide) (fun h65 => ?_) (fun h65 => ?_)
    · have h65 := Int32.not_lt.mpr h65
      refine z_iconst F 1 dX1_thickness_77 zv_i_1 ?_
      refine hR _ _ _ _ dX1_thickness_78 rfl ?_
      refine ⟨?_, rfl⟩
      unfold s_thick
      generalize D.1 r (16 + 8 * c + 0) = x at *
      first
        | (subst h4; simp; done)
        | (subst h4; simp [*]; done)
        | (obtain ⟨n1, n2, n3, n4, n5, n6⟩ := z_out16 h4; simp [n1, n3, n5, n6]; done)
        | (obtain ⟨n1, n2, n3, n4, n5, n6⟩ := z_out16 h4; simp [n1, n3, n5, n6, *]; done)
    · have h65 := Int32.not_le.mp h65
      refine z_aload0 F dX1_thickness_68 ?_
      refine z_getI F (K_f hr hc 1 (by decide)) fX1_15 dX1_thickness_69 ?_
      refine z_iconst F 2 dX1_thickness_72 zv_i_2 ?_
      refine z_idiv F dX1_thickness_73 (by decide) ?_
      refine z_goto F 78 dX1_thickness_74 (by decide) ?_
      refine hR _ _ _ _ dX1_thickness_78 rfl ?_
      refine ⟨?_, rfl⟩
      unfold s_thick
      generalize D.1 r (16 + 8 * c + 0) = x at *
      first
        | (subst h4; simp; done)
        | (subst h4; simp [*]; done)
        | (obtain ⟨n1, n2, n3, n4, n5, n6⟩ := z_out16 h4; simp [n1, n3, n5, n6]; done)
        | (obtain ⟨n1, n2, n3, n4, n5, n6⟩ := z_out16 h4; simp [n1, n3, n5, n6, *]; done)
  · refine z_tabIn F 60 dX1_thickness_4 (by rw [h4]; decide) (by rw [h4]; decide) (by rw [h4]; rfl) (by decide) ?_
    refine z_aload0 F dX1_thickness_60 ?_
    refine z_getI F (K_f hr hc 1 (by decide)) fX1_15 dX1_thickness_61 ?_
    refine z_iconst F 1 dX1_thickness_64 zv_i_1 ?_
    refine z_ic_le F 77 dX1_thickness_65 (by decide) (fun h65 => ?_) (fun h65 => ?_)
    · have h65 := Int32.not_lt.mpr h65
      refine z_iconst F 1 dX1_thickness_77 zv_i_1 ?_
      refine hR _ _ _ _ dX1_thickness_78 rfl ?_
      refine ⟨?_, rfl⟩
      unfold s_thick
      generalize D.1 r (16 + 8 * c + 0) = x at *
      first
        | (subst h4; simp; done)
        | (subst h4; simp [*]; done)
        | (obtain ⟨n1, n2, n3, n4, n5, n6⟩ := z_out16 h4; simp [n1, n3, n5, n6]; done)
        | (obtain ⟨n1, n2, n3, n4, n5, n6⟩ := z_out16 h4; simp [n1, n3, n5, n6, *]; done)
    · have h65 := Int32.not_le.mp h65
      refine z_aload0 F dX1_thickness_68 ?_
      refine z_getI F (K_f hr hc 1 (by decide)) fX1_15 dX1_thickness_69 ?_
      refine z_iconst F 2 dX1_thickness_72 zv_i_2 ?_
      refine z_idiv F dX1_thickness_73 (by decide) ?_
      refine z_goto F 78 dX1_thickness_74 (by decide) ?_
      refine hR _ _ _ _ dX1_thickness_78 rfl ?_
      refine ⟨?_, rfl⟩
      unfold s_thick
      generalize D.1 r (16 + 8 * c + 0) = x at *
      first
        | (subst h4; simp; done)
        | (subst h4; simp [*]; done)
        | (obtain ⟨n1, n2, n3, n4, n5, n6⟩ := z_out16 h4; simp [n1, n3, n5, n6]; done)
        | (obtain ⟨n1, n2, n3, n4, n5, n6⟩ := z_out16 h4; simp [n1, n3, n5, n6, *]; done)
  · refine z_tabOut F 79 dX1_thickness_4 h4 (by decide) ?_
    refine z_aload0 F dX1_thickness_79 ?_
    refine z_getI F (K_f hr hc 1 (by decide)) fX1_15 dX1_thickness_80 ?_
    refine hR _ _ _ _ dX1_thickness_83 rfl ?_
    refine ⟨?_, rfl⟩
    unfold s_thick
    generalize D.1 r (16 + 8 * c + 0) = x at *
    first
      | (subst h4; simp; done)
      | (subst h4; simp [*]; done)
      | (obtain ⟨n1, n2, n3, n4, n5, n6⟩ := z_out16 h4; simp [n1, n3, n5, n6]; done)
      | (obtain ⟨n1, n2, n3, n4, n5, n6⟩ := z_out16 h4; simp [n1, n3, n5, n6, *]; done)
set_option maxHeartbeats 1000000 in
set_option maxRecDepth 20000 in
theorem c1_goes (D : zD) {r : Nat} (hr : z_R3 r) (c : Nat) (hc : c < 10) : z_CI SX zT yX1_pace cX1_pace 1 .int 0 [.ref (10 * r + c)] D (z_eq (s_goes (D.1 r) c) D) := by
  refine z_startI SX_ok (by decide +kernel) (fun v hv => by simp at hv; subst hv; rfl) (Nat.le_of_ble_eq_true rfl) (fun X F hR => ?_)
  show z_J X SX 0 [some (.ref (10 * r + c))] [] D
  refine z_aload0 F dX1_pace_0 ?_
  refine z_getI F (K_f hr hc 0 (by decide)) fX1_9 dX1_pace_1 ?_
  refine z_tsw_2_6 rfl (fun h4 => ?_) (fun h4 => ?_) (fun h4 => ?_) (fun h4 => ?_) (fun h4 => ?_) (fun h4 => ?_)
  · refine z_tabIn F 40 dX1_pace_4 (by rw [h4]; decide) (by rw [h4]; decide) (by rw [h4]; rfl) (by decide) ?_
    refine z_iconst F 2 dX1_pace_40 zv_i_2 ?_
    refine hR _ _ _ _ dX1_pace_41 rfl ?_
    refine ⟨?_, rfl⟩
    unfold s_goes
    generalize D.1 r (16 + 8 * c + 0) = x at *
    first
      | (subst h4; simp; done)
      | (subst h4; simp [*]; done)
      | (obtain ⟨n2, n3, n4, n5, n6⟩ := z_out26 h4; simp [n2, n4, n6]; done)
      | (obtain ⟨n2, n3, n4, n5, n6⟩ := z_out26 h4; simp [n2, n4, n6, *]; done)
  · refine z_tabIn F 44 dX1_pace_4 (by rw [h4]; decide) (by rw [h4]; decide) (by rw [h4]; rfl) (by decide) ?_
    refine z_iconst F 1 dX1_pace_44 zv_i_1 ?_
    refine hR _ _ _ _ dX1_pace_45 rfl ?_
    refine ⟨?_, rfl⟩
    unfold s_goes
    generalize D.1 r (16 + 8 * c + 0) = x at *
    first
      | (subst h4; simp; done)
      | (subst h4; simp [*]; done)
      | (obtain ⟨n2, n3, n4, n5, n6⟩ := z_out26 h4; simp [n2, n4, n6]; done)
      | (obtain ⟨n2, n3, n4, n5, n6⟩ := z_out26 h4; simp [n2, n4, n6, *]; done)
  · refine z_tabIn F 40 dX1_pace_4 (by rw [h4]; decide) (by rw [h4]; decide) (by rw [h4]; rfl) (by decide) ?_
    refine z_iconst F 2 dX1_pace_40 zv_i_2 ?_
    refine hR _ _ _ _ dX1_pace_41 rfl ?_
    refine ⟨?_, rfl⟩
    unfold s_goes
    generalize D.1 r (16 + 8 * c + 0) = x at *
    first
      | (subst h4; simp; done)
      | (subst h4; simp [*]; done)
      | (obtain ⟨n2, n3, n4, n5, n6⟩ := z_out26 h4; simp [n2, n4, n6]; done)
      | (obtain ⟨n2, n3, n4, n5, n6⟩ := z_out26 h4; simp [n2, n4, n6, *]; done)
  · refine z_tabIn F 44 dX1_pace_4 (by rw [h4]; decide) (by rw [h4]; decide) (by rw [h4]; rfl) (by decide) ?_
    refine z_iconst F 1 dX1_pace_44 zv_i_1 ?_
    refine hR _ _ _ _ dX1_pace_45 rfl ?_
    refine ⟨?_, rfl⟩
    unfold s_goes
    generalize D.1 r (16 + 8 * c + 0) = x at *
    first
      | (subst h4; simp; done)
      | (subst h4; simp [*]; done)
      | (obtain ⟨n2, n3, n4, n5, n6⟩ := z_out26 h4; simp [n2, n4, n6]; done)
      | (obtain ⟨n2, n3, n4, n5, n6⟩ := z_out26 h4; simp [n2, n4, n6, *]; done)
  · refine z_tabIn F 42 dX1_pace_4 (by rw [h4]; decide) (by rw [h4]; decide) (by rw [h4]; rfl) (by decide) ?_
    refine z_iconst F 0 dX1_pace_42 zv_i_0 ?_
    refine hR _ _ _ _ dX1_pace_43 rfl ?_
    refine ⟨?_, rfl⟩
    unfold s_goes
    generalize D.1 r (16 + 8 * c + 0) = x at *
    first
      | (subst h4; simp; done)
      | (subst h4; simp [*]; done)
      | (obtain ⟨n2, n3, n4, n5, n6⟩ := z_out26 h4; simp [n2, n4, n6]; done)
      | (obtain ⟨n2, n3, n4, n5, n6⟩ := z_out26 h4; simp [n2, n4, n6, *]; done)
  · refine z_tabOut F 44 dX1_pace_4 h4 (by decide) ?_
    refine z_iconst F 1 dX1_pace_44 zv_i_1 ?_
    refine hR _ _ _ _ dX1_pace_45 rfl ?_
    refine ⟨?_, rfl⟩
    unfold s_goes
    generalize D.1 r (16 + 8 * c + 0) = x at *
    first
      | (subst h4; simp; done)
      | (subst h4; simp [*]; done)
      | (obtain ⟨n2, n3, n4, n5, n6⟩ := z_out26 h4; simp [n2, n4, n6]; done)
      | (obtain ⟨n2, n3, n4, n5, n6⟩ := z_out26 h4; simp [n2, n4, n6, *]; done)
set_option maxHeartbeats 1000000 in
set_option maxRecDepth 20000 in
theorem c1_wears (D : zD) {r : Nat} (hr : z_R3 r) (c : Nat) (hc : c < 10) : z_CI SX zT yX1_wear cX1_wear 3 .int 1 [.ref (10 * r + c), .int (D.1 r 1)] D (z_eq (s_wears (D.1 r) c) D) := by
  refine z_startI SX_ok (by decide +kernel) (fun v hv => by simp at hv; rcases hv with rfl | rfl <;> rfl) (Nat.le_of_ble_eq_true rfl) (fun X F hR => ?_)
  show z_J X SX 0 [some (.ref (10 * r + c)), some (.int (D.1 r 1)), none] [] D
  refine z_iconst F 2 dX1_wear_0 zv_i_2 ?_
  refine z_aload0 F dX1_wear_1 ?_
  refine z_callVI0 F (c1_thick D hr c hc) kX1_40 (by decide) (ocK hr hc) (Nat.le_of_ble_eq_true rfl) rfl dX1_wear_2 ?_
  refine z_imul F dX1_wear_5 ?_
  refine z_iload1 F dX1_wear_6 ?_
  refine z_ic_lt F 14 dX1_wear_7 (by decide) (fun h7 => ?_) (fun h7 => ?_)
  · have pl : s_plain (D.1 r) c = 0 := by rw [s_plain, if_neg (Int32.not_le.mpr h7)]
    refine z_iconst F 0 dX1_wear_14 zv_i_0 ?_
    refine z_istore2 F dX1_wear_15 rfl ?_
    refine z_aload0 F dX1_wear_16 ?_
    refine z_getI F (K_f hr hc 0 (by decide)) fX1_9 dX1_wear_17 ?_
    refine z_tsw_1_4 rfl (fun h20 => ?_) (fun h20 => ?_) (fun h20 => ?_) (fun h20 => ?_) (fun h20 => ?_)
    · refine z_tabIn F 52 dX1_wear_20 (by rw [h20]; decide) (by rw [h20]; decide) (by rw [h20]; rfl) (by decide) ?_
      refine z_iconst F 0 dX1_wear_52 zv_i_0 ?_
      refine hR _ _ _ _ dX1_wear_53 rfl ?_
      refine ⟨?_, rfl⟩
      unfold s_wears
      rw [pl]
      generalize D.1 r (16 + 8 * c + 0) = x at *
      first
        | (subst h20; simp; done)
        | (subst h20; simp [*]; done)
        | (obtain ⟨n1, n2, n3, n4⟩ := z_out14 h20; simp [n1, n2, n3, n4]; done)
        | (obtain ⟨n1, n2, n3, n4⟩ := z_out14 h20; simp [n1, n2, n3, n4, *]; done)
    · refine z_tabIn F 54 dX1_wear_20 (by rw [h20]; decide) (by rw [h20]; decide) (by rw [h20]; rfl) (by decide) ?_
      refine z_iload2 F dX1_wear_54 ?_
      refine z_iconst F 1 dX1_wear_55 zv_i_1 ?_
      refine z_iadd F dX1_wear_56 ?_
      refine hR _ _ _ _ dX1_wear_57 rfl ?_
      refine ⟨?_, rfl⟩
      unfold s_wears
      rw [pl]
      generalize D.1 r (16 + 8 * c + 0) = x at *
      first
        | (subst h20; simp; done)
        | (subst h20; simp [*]; done)
        | (obtain ⟨n1, n2, n3, n4⟩ := z_out14 h20; simp [n1, n2, n3, n4]; done)
        | (obtain ⟨n1, n2, n3, n4⟩ := z_out14 h20; simp [n1, n2, n3, n4, *]; done)
    · refine z_tabIn F 52 dX1_wear_20 (by rw [h20]; decide) (by rw [h20]; decide) (by rw [h20]; rfl) (by decide) ?_
      refine z_iconst F 0 dX1_wear_52 zv_i_0 ?_
      refine hR _ _ _ _ dX1_wear_53 rfl ?_
      refine ⟨?_, rfl⟩
      unfold s_wears
      rw [pl]
      generalize D.1 r (16 + 8 * c + 0) = x at *
      first
        | (subst h20; simp; done)
        | (subst h20; simp [*]; done)
        | (obtain ⟨n1, n2, n3, n4⟩ := z_out14 h20; simp [n1, n2, n3, n4]; done)
        | (obtain ⟨n1, n2, n3, n4⟩ := z_out14 h20; simp [n1, n2, n3, n4, *]; done)
    · refine z_tabIn F 58 dX1_wear_20 (by rw [h20]; decide) (by rw [h20]; decide) (by rw [h20]; rfl) (by decide) ?_
      refine z_iload2 F dX1_wear_58 ?_
      refine z_iconst F 2 dX1_wear_59 zv_i_2 ?_
      refine z_iadd F dX1_wear_60 ?_
      refine hR _ _ _ _ dX1_wear_61 rfl ?_
      refine ⟨?_, rfl⟩
      unfold s_wears
      rw [pl]
      generalize D.1 r (16 + 8 * c + 0) = x at *
      first
        | (subst h20; simp; done)
        | (subst h20; simp [*]; done)
        | (obtain ⟨n1, n2, n3, n4⟩ := z_out14 h20; simp [n1, n2, n3, n4]; done)
        | (obtain ⟨n1, n2, n3, n4⟩ := z_out14 h20; simp [n1, n2, n3, n4, *]; done)
    · refine z_tabOut F 62 dX1_wear_20 h20 (by decide) ?_
      refine z_iload2 F dX1_wear_62 ?_
      refine hR _ _ _ _ dX1_wear_63 rfl ?_
      refine ⟨?_, rfl⟩
      unfold s_wears
      rw [pl]
      generalize D.1 r (16 + 8 * c + 0) = x at *
      first
        | (subst h20; simp; done)
        | (subst h20; simp [*]; done)
        | (obtain ⟨n1, n2, n3, n4⟩ := z_out14 h20; simp [n1, n2, n3, n4]; done)
        | (obtain ⟨n1, n2, n3, n4⟩ := z_out14 h20; simp [n1, n2, n3, n4, *]; done)
  · have pl : s_plain (D.1 r) c = 1 := by rw [s_plain, if_pos (Int32.not_lt.mp h7)]
    refine z_iconst F 1 dX1_wear_10 zv_i_1 ?_
    refine z_goto F 15 dX1_wear_11 (by decide) ?_
    refine z_istore2 F dX1_wear_15 rfl ?_
    refine z_aload0 F dX1_wear_16 ?_
    refine z_getI F (K_f hr hc 0 (by decide)) fX1_9 dX1_wear_17 ?_
    refine z_tsw_1_4 rfl (fun h20 => ?_) (fun h20 => ?_) (fun h20 => ?_) (fun h20 => ?_) (fun h20 => ?_)
    · refine z_tabIn F 52 dX1_wear_20 (by rw [h20]; decide) (by rw [h20]; decide) (by rw [h20]; rfl) (by decide) ?_
      refine z_iconst F 0 dX1_wear_52 zv_i_0 ?_
      refine hR _ _ _ _ dX1_wear_53 rfl ?_
      refine ⟨?_, rfl⟩
      unfold s_wears
      rw [pl]
      generalize D.1 r (16 + 8 * c + 0) = x at *
      first
        | (subst h20; simp; done)
        | (subst h20; simp [*]; done)
        | (obtain ⟨n1, n2, n3, n4⟩ := z_out14 h20; simp [n1, n2, n3, n4]; done)
        | (obtain ⟨n1, n2, n3, n4⟩ := z_out14 h20; simp [n1, n2, n3, n4, *]; done)
    · refine z_tabIn F 54 dX1_wear_20 (by rw [h20]; decide) (by rw [h20]; decide) (by rw [h20]; rfl) (by decide) ?_
      refine z_iload2 F dX1_wear_54 ?_
      refine z_iconst F 1 dX1_wear_55 zv_i_1 ?_
      refine z_iadd F dX1_wear_56 ?_
      refine hR _ _ _ _ dX1_wear_57 rfl ?_
      refine ⟨?_, rfl⟩
      unfold s_wears
      rw [pl]
      generalize D.1 r (16 + 8 * c + 0) = x at *
      first
        | (subst h20; simp; done)
        | (subst h20; simp [*]; done)
        | (obtain ⟨n1, n2, n3, n4⟩ := z_out14 h20; simp [n1, n2, n3, n4]; done)
        | (obtain ⟨n1, n2, n3, n4⟩ := z_out14 h20; simp [n1, n2, n3, n4, *]; done)
    · refine z_tabIn F 52 dX1_wear_20 (by rw [h20]; decide) (by rw [h20]; decide) (by rw [h20]; rfl) (by decide) ?_
      refine z_iconst F 0 dX1_wear_52 zv_i_0 ?_
      refine hR _ _ _ _ dX1_wear_53 rfl ?_
      refine ⟨?_, rfl⟩
      unfold s_wears
      rw [pl]
      generalize D.1 r (16 + 8 * c + 0) = x at *
      first
        | (subst h20; simp; done)
        | (subst h20; simp [*]; done)
        | (obtain ⟨n1, n2, n3, n4⟩ := z_out14 h20; simp [n1, n2, n3, n4]; done)
        | (obtain ⟨n1, n2, n3, n4⟩ := z_out14 h20; simp [n1, n2, n3, n4, *]; done)
    · refine z_tabIn F 58 dX1_wear_20 (by rw [h20]; decide) (by rw [h20]; decide) (by rw [h20]; rfl) (by decide) ?_
      refine z_iload2 F dX1_wear_58 ?_
      refine z_iconst F 2 dX1_wear_59 zv_i_2 ?_
      refine z_iadd F dX1_wear_60 ?_
      refine hR _ _ _ _ dX1_wear_61 rfl ?_
      refine ⟨?_, rfl⟩
      unfold s_wears
      rw [pl]
      generalize D.1 r (16 + 8 * c + 0) = x at *
      first
        | (subst h20; simp; done)
        | (subst h20; simp [*]; done)
        | (obtain ⟨n1, n2, n3, n4⟩ := z_out14 h20; simp [n1, n2, n3, n4]; done)
        | (obtain ⟨n1, n2, n3, n4⟩ := z_out14 h20; simp [n1, n2, n3, n4, *]; done)
    · refine z_tabOut F 62 dX1_wear_20 h20 (by decide) ?_
      refine z_iload2 F dX1_wear_62 ?_
      refine hR _ _ _ _ dX1_wear_63 rfl ?_
      refine ⟨?_, rfl⟩
      unfold s_wears
      rw [pl]
      generalize D.1 r (16 + 8 * c + 0) = x at *
      first
        | (subst h20; simp; done)
        | (subst h20; simp [*]; done)
        | (obtain ⟨n1, n2, n3, n4⟩ := z_out14 h20; simp [n1, n2, n3, n4]; done)
        | (obtain ⟨n1, n2, n3, n4⟩ := z_out14 h20; simp [n1, n2, n3, n4, *]; done)
set_option maxHeartbeats 1000000 in
set_option maxRecDepth 20000 in
theorem c1_moveTo (D : zD) {r : Nat} (hr : z_R3 r) (c : Nat) (hc : c < 10) (pl : Int32) : z_CV SX zT yX1_moveTo cX1_moveTo 2 0 [.ref (10 * r + c), .int pl] D (z_eqV (z_row D r (s_goTo (D.1 r) c pl))) := by
  refine z_startV SX_ok (by decide +kernel) (fun v hv => by simp at hv; rcases hv with rfl | rfl <;> rfl) (Nat.le_of_ble_eq_true rfl) (fun X F hR => ?_)
  show z_J X SX 0 [some (.ref (10 * r + c)), some (.int pl)] [] D
  refine z_aload0 F dX1_moveTo_0 ?_
  refine z_iload1 F dX1_moveTo_1 ?_
  refine z_putI F (K_f hr hc 4 (by decide)) fX1_28 rfl rfl dX1_moveTo_2 ?_
  refine z_aload0 F dX1_moveTo_5 ?_
  refine z_iconst F 0 dX1_moveTo_6 zv_i_0 ?_
  refine z_putI F (K_f hr hc 5 (by decide)) fX1_31 rfl rfl dX1_moveTo_7 ?_
  refine z_aload0 F dX1_moveTo_10 ?_
  refine z_iconst F 0 dX1_moveTo_11 zv_i_0 ?_
  refine z_putI F (K_f hr hc 6 (by decide)) fX1_34 rfl rfl dX1_moveTo_12 ?_
  refine z_aload0 F dX1_moveTo_15 ?_
  refine z_iconst F (-1) dX1_moveTo_16 zv_i_m1 ?_
  refine z_putI F (K_f hr hc 7 (by decide)) fX1_37 rfl rfl dX1_moveTo_17 ?_
  refine hR _ _ _ dX1_moveTo_20 ?_
  show _ = _
  simp only [z_up_row, z_row_row, z_rowr, s_move]
set_option maxHeartbeats 1000000 in
set_option maxRecDepth 20000 in
theorem c1_renew (D : zD) {r : Nat} (hr : z_R3 r) (c : Nat) (hc : c < 10) (k : Int32) : z_CV SX zT yX1_renew cX1_renew 2 1 [.ref (10 * r + c), .int k] D (z_eqV (z_row D r (s_goTo (upd (upd (upd (upd (D.1 r) (16 + 8 * c + 0) k) (16 + 8 * c + 1) 8) (16 + 8 * c + 2) 5) (16 + 8 * c + 3) 6) c 0))) := by
  refine z_startV SX_ok (by decide +kernel) (fun v hv => by simp at hv; rcases hv with rfl | rfl <;> rfl) (Nat.le_of_ble_eq_true rfl) (fun X F hR => ?_)
  show z_J X SX 0 [some (.ref (10 * r + c)), some (.int k)] [] D
  refine z_aload0 F dX1_renew_0 ?_
  refine z_iload1 F dX1_renew_1 ?_
  refine z_putI F (K_f hr hc 0 (by decide)) fX1_9 rfl rfl dX1_renew_2 ?_
  refine z_aload0 F dX1_renew_5 ?_
  refine z_bipush F 8 dX1_renew_6 zv_b_8 ?_
  refine z_putI F (K_f hr hc 1 (by decide)) fX1_15 rfl rfl dX1_renew_8 ?_
  refine z_aload0 F dX1_renew_11 ?_
  refine z_iconst F 5 dX1_renew_12 zv_i_5 ?_
  refine z_putI F (K_f hr hc 2 (by decide)) fX1_18 rfl rfl dX1_renew_13 ?_
  refine z_aload0 F dX1_renew_16 ?_
  refine z_bipush F 6 dX1_renew_17 zv_b_6 ?_
  refine z_putI F (K_f hr hc 3 (by decide)) fX1_21 rfl rfl dX1_renew_19 ?_
  simp only [z_up_row, z_row_row, z_rowr]
  refine z_aload0 F dX1_renew_22 ?_
  refine z_iconst F 0 dX1_renew_23 zv_i_0 ?_
  refine z_callVV1 F (by have h := c1_moveTo (z_row D r (upd (upd (upd (upd (D.1 r) (16 + 8 * c + 0) k) (16 + 8 * c + 1) 8) (16 + 8 * c + 2) 5) (16 + 8 * c + 3) 6)) hr c hc 0; rw [z_rowr, z_row_row] at h; exact h) kX1_24 (by decide) (ocK hr hc) (Nat.le_of_ble_eq_true rfl) rfl dX1_renew_24 ?_
  refine hR _ _ _ dX1_renew_27 ?_
  rfl
set_option maxHeartbeats 1000000 in
set_option maxRecDepth 20000 in
theorem c1_become (D : zD) {r q : Nat} (hr : z_R3 r) (hq : z_R3 q) (hqr : q ≠ r) (c : Nat) (hc : c < 10) : z_CV SX zT yX1_become cX1_become 2 0 [.ref (10 * r + c), .ref (10 * q + c)] D (z_eqV (z_row D r (s_cp (D.1 q) (D.1 r) c))) := by
  refine z_startV SX_ok (by decide +kernel) (fun v hv => by simp at hv; rcases hv with rfl | rfl <;> rfl) (Nat.le_of_ble_eq_true rfl) (fun X F hR => ?_)
  show z_J X SX 0 [some (.ref (10 * r + c)), some (.ref (10 * q + c))] [] D
  refine z_aload0 F dX1_become_0 ?_
  refine z_aload1 F dX1_become_1 ?_
  refine z_getI F (K_f hq hc 0 (by decide)) fX1_9 dX1_become_2 ?_
  refine z_putI F (K_f hr hc 0 (by decide)) fX1_9 rfl rfl dX1_become_5 ?_
  refine z_aload0 F dX1_become_8 ?_
  refine z_aload1 F dX1_become_9 ?_
  refine z_getI F (K_f hq hc 1 (by decide)) fX1_15 dX1_become_10 ?_
  refine z_putI F (K_f hr hc 1 (by decide)) fX1_15 rfl rfl dX1_become_13 ?_
  refine z_aload0 F dX1_become_16 ?_
  refine z_aload1 F dX1_become_17 ?_
  refine z_getI F (K_f hq hc 2 (by decide)) fX1_18 dX1_become_18 ?_
  refine z_putI F (K_f hr hc 2 (by decide)) fX1_18 rfl rfl dX1_become_21 ?_
  refine z_aload0 F dX1_become_24 ?_
  refine z_aload1 F dX1_become_25 ?_
  refine z_getI F (K_f hq hc 3 (by decide)) fX1_21 dX1_become_26 ?_
  refine z_putI F (K_f hr hc 3 (by decide)) fX1_21 rfl rfl dX1_become_29 ?_
  refine z_aload0 F dX1_become_32 ?_
  refine z_aload1 F dX1_become_33 ?_
  refine z_getI F (K_f hq hc 4 (by decide)) fX1_28 dX1_become_34 ?_
  refine z_putI F (K_f hr hc 4 (by decide)) fX1_28 rfl rfl dX1_become_37 ?_
  refine z_aload0 F dX1_become_40 ?_
  refine z_aload1 F dX1_become_41 ?_
  refine z_getI F (K_f hq hc 5 (by decide)) fX1_31 dX1_become_42 ?_
  refine z_putI F (K_f hr hc 5 (by decide)) fX1_31 rfl rfl dX1_become_45 ?_
  refine z_aload0 F dX1_become_48 ?_
  refine z_aload1 F dX1_become_49 ?_
  refine z_getI F (K_f hq hc 6 (by decide)) fX1_34 dX1_become_50 ?_
  refine z_putI F (K_f hr hc 6 (by decide)) fX1_34 rfl rfl dX1_become_53 ?_
  refine z_aload0 F dX1_become_56 ?_
  refine z_aload1 F dX1_become_57 ?_
  refine z_getI F (K_f hq hc 7 (by decide)) fX1_37 dX1_become_58 ?_
  refine z_putI F (K_f hr hc 7 (by decide)) fX1_37 rfl rfl dX1_become_61 ?_
  refine hR _ _ _ dX1_become_64 ?_
  show _ = _
  simp only [z_upo _ _ _ hqr]
  simp only [z_up_row, z_row_row, z_rowr]
  rw [s_cp_up]
set_option maxHeartbeats 1000000 in
set_option maxRecDepth 20000 in
theorem c1_is (D : zD) {r : Nat} (hr : z_R3 r) (c : Nat) (hc : c < 10) (k : Int32) : z_CI SX zT yX1_is cX1_is 2 .boolean 0 [.ref (10 * r + c), .int k] D (z_eq (z_b (s_isK (D.1 r (16 + 8 * c + 0)) k)) D) := by
  refine z_startI SX_ok (by decide +kernel) (fun v hv => by simp at hv; rcases hv with rfl | rfl <;> rfl) (Nat.le_of_ble_eq_true rfl) (fun X F hR => ?_)
  show z_J X SX 0 [some (.ref (10 * r + c)), some (.int k)] [] D
  refine z_iload1 F dX1_is_0 ?_
  refine z_if_eq F 52 dX1_is_1 (by decide) (fun h1 => ?_) (fun h1 => ?_)
  · refine z_iconst F 1 dX1_is_52 zv_i_1 ?_
    refine z_goto F 57 dX1_is_53 (by decide) ?_
    refine hR _ _ _ _ dX1_is_57 rfl ?_
    refine ⟨?_, rfl⟩
    unfold s_isK
    generalize D.1 r (16 + 8 * c + 0) = x at *
    simp_all [z_b]
  · refine z_iload1 F dX1_is_4 ?_
    refine z_aload0 F dX1_is_5 ?_
    refine z_getI F (K_f hr hc 0 (by decide)) fX1_9 dX1_is_6 ?_
    refine z_ic_eq F 52 dX1_is_9 (by decide) (fun h9 => ?_) (fun h9 => ?_)
    · refine z_iconst F 1 dX1_is_52 zv_i_1 ?_
      refine z_goto F 57 dX1_is_53 (by decide) ?_
      refine hR _ _ _ _ dX1_is_57 rfl ?_
      refine ⟨?_, rfl⟩
      unfold s_isK
      generalize D.1 r (16 + 8 * c + 0) = x at *
      simp_all [z_b]
    · refine z_iload1 F dX1_is_12 ?_
      refine z_iconst F 1 dX1_is_13 zv_i_1 ?_
      refine z_ic_ne F 25 dX1_is_14 (by decide) (fun h14 => ?_) (fun h14 => ?_)
      · refine z_iload1 F dX1_is_25 ?_
        refine z_iconst F 2 dX1_is_26 zv_i_2 ?_
        refine z_ic_ne F 38 dX1_is_27 (by decide) (fun h27 => ?_) (fun h27 => ?_)
        · refine z_iload1 F dX1_is_38 ?_
          refine z_iconst F 5 dX1_is_39 zv_i_5 ?_
          refine z_ic_ne F 56 dX1_is_40 (by decide) (fun h40 => ?_) (fun h40 => ?_)
          · refine z_iconst F 0 dX1_is_56 zv_i_0 ?_
            refine hR _ _ _ _ dX1_is_57 rfl ?_
            refine ⟨?_, rfl⟩
            unfold s_isK
            generalize D.1 r (16 + 8 * c + 0) = x at *
            simp_all [z_b]
          · refine z_aload0 F dX1_is_43 ?_
            refine z_getI F (K_f hr hc 0 (by decide)) fX1_9 dX1_is_44 ?_
            refine z_bipush F 6 dX1_is_47 zv_b_6 ?_
            refine z_ic_ne F 56 dX1_is_49 (by decide) (fun h49 => ?_) (fun h49 => ?_)
            · refine z_iconst F 0 dX1_is_56 zv_i_0 ?_
              refine hR _ _ _ _ dX1_is_57 rfl ?_
              refine ⟨?_, rfl⟩
              unfold s_isK
              generalize D.1 r (16 + 8 * c + 0) = x at *
              simp_all [z_b]
            · refine z_iconst F 1 dX1_is_52 zv_i_1 ?_
              refine z_goto F 57 dX1_is_53 (by decide) ?_
              refine hR _ _ _ _ dX1_is_57 rfl ?_
              refine ⟨?_, rfl⟩
              unfold s_isK
              generalize D.1 r (16 + 8 * c + 0) = x at *
              simp_all [z_b]
        · refine z_aload0 F dX1_is_30 ?_
          refine z_getI F (K_f hr hc 0 (by decide)) fX1_9 dX1_is_31 ?_
          refine z_iconst F 4 dX1_is_34 zv_i_4 ?_
          refine z_ic_eq F 52 dX1_is_35 (by decide) (fun h35 => ?_) (fun h35 => ?_)
          · refine z_iconst F 1 dX1_is_52 zv_i_1 ?_
            refine z_goto F 57 dX1_is_53 (by decide) ?_
            refine hR _ _ _ _ dX1_is_57 rfl ?_
            refine ⟨?_, rfl⟩
            unfold s_isK
            generalize D.1 r (16 + 8 * c + 0) = x at *
            simp_all [z_b]
          · refine z_iload1 F dX1_is_38 ?_
            refine z_iconst F 5 dX1_is_39 zv_i_5 ?_
            refine z_ic_ne F 56 dX1_is_40 (by decide) (fun h40 => ?_) (fun h40 => ?_)
            · refine z_iconst F 0 dX1_is_56 zv_i_0 ?_
              refine hR _ _ _ _ dX1_is_57 rfl ?_
              refine ⟨?_, rfl⟩
              unfold s_isK
              generalize D.1 r (16 + 8 * c + 0) = x at *
              simp_all [z_b]
            · refine z_aload0 F dX1_is_43 ?_
              refine z_getI F (K_f hr hc 0 (by decide)) fX1_9 dX1_is_44 ?_
              refine z_bipush F 6 dX1_is_47 zv_b_6 ?_
              refine z_ic_ne F 56 dX1_is_49 (by decide) (fun h49 => ?_) (fun h49 => ?_)
              · refine z_iconst F 0 dX1_is_56 zv_i_0 ?_
                refine hR _ _ _ _ dX1_is_57 rfl ?_
                refine ⟨?_, rfl⟩
                unfold s_isK
                generalize D.1 r (16 + 8 * c + 0) = x at *
                simp_all [z_b]
              · refine z_iconst F 1 dX1_is_52 zv_i_1 ?_
                refine z_goto F 57 dX1_is_53 (by decide) ?_
                refine hR _ _ _ _ dX1_is_57 rfl ?_
                refine ⟨?_, rfl⟩
                unfold s_isK
                generalize D.1 r (16 + 8 * c + 0) = x at *
                simp_all [z_b]
      · refine z_aload0 F dX1_is_17 ?_
        refine z_getI F (K_f hr hc 0 (by decide)) fX1_9 dX1_is_18 ?_
        refine z_iconst F 3 dX1_is_21 zv_i_3 ?_
        refine z_ic_eq F 52 dX1_is_22 (by decide) (fun h22 => ?_) (fun h22 => ?_)
        · refine z_iconst F 1 dX1_is_52 zv_i_1 ?_
          refine z_goto F 57 dX1_is_53 (by decide) ?_
          refine hR _ _ _ _ dX1_is_57 rfl ?_
          refine ⟨?_, rfl⟩
          unfold s_isK
          generalize D.1 r (16 + 8 * c + 0) = x at *
          simp_all [z_b]
        · refine z_iload1 F dX1_is_25 ?_
          refine z_iconst F 2 dX1_is_26 zv_i_2 ?_
          refine z_ic_ne F 38 dX1_is_27 (by decide) (fun h27 => ?_) (fun h27 => ?_)
          · refine z_iload1 F dX1_is_38 ?_
            refine z_iconst F 5 dX1_is_39 zv_i_5 ?_
            refine z_ic_ne F 56 dX1_is_40 (by decide) (fun h40 => ?_) (fun h40 => ?_)
            · refine z_iconst F 0 dX1_is_56 zv_i_0 ?_
              refine hR _ _ _ _ dX1_is_57 rfl ?_
              refine ⟨?_, rfl⟩
              unfold s_isK
              generalize D.1 r (16 + 8 * c + 0) = x at *
              simp_all [z_b]
            · refine z_aload0 F dX1_is_43 ?_
              refine z_getI F (K_f hr hc 0 (by decide)) fX1_9 dX1_is_44 ?_
              refine z_bipush F 6 dX1_is_47 zv_b_6 ?_
              refine z_ic_ne F 56 dX1_is_49 (by decide) (fun h49 => ?_) (fun h49 => ?_)
              · refine z_iconst F 0 dX1_is_56 zv_i_0 ?_
                refine hR _ _ _ _ dX1_is_57 rfl ?_
                refine ⟨?_, rfl⟩
                unfold s_isK
                generalize D.1 r (16 + 8 * c + 0) = x at *
                simp_all [z_b]
              · refine z_iconst F 1 dX1_is_52 zv_i_1 ?_
                refine z_goto F 57 dX1_is_53 (by decide) ?_
                refine hR _ _ _ _ dX1_is_57 rfl ?_
                refine ⟨?_, rfl⟩
                unfold s_isK
                generalize D.1 r (16 + 8 * c + 0) = x at *
                simp_all [z_b]
          · refine z_aload0 F dX1_is_30 ?_
            refine z_getI F (K_f hr hc 0 (by decide)) fX1_9 dX1_is_31 ?_
            refine z_iconst F 4 dX1_is_34 zv_i_4 ?_
            refine z_ic_eq F 52 dX1_is_35 (by decide) (fun h35 => ?_) (fun h35 => ?_)
            · refine z_iconst F 1 dX1_is_52 zv_i_1 ?_
              refine z_goto F 57 dX1_is_53 (by decide) ?_
              refine hR _ _ _ _ dX1_is_57 rfl ?_
              refine ⟨?_, rfl⟩
              unfold s_isK
              generalize D.1 r (16 + 8 * c + 0) = x at *
              simp_all [z_b]
            · refine z_iload1 F dX1_is_38 ?_
              refine z_iconst F 5 dX1_is_39 zv_i_5 ?_
              refine z_ic_ne F 56 dX1_is_40 (by decide) (fun h40 => ?_) (fun h40 => ?_)
              · refine z_iconst F 0 dX1_is_56 zv_i_0 ?_
                refine hR _ _ _ _ dX1_is_57 rfl ?_
                refine ⟨?_, rfl⟩
                unfold s_isK
                generalize D.1 r (16 + 8 * c + 0) = x at *
                simp_all [z_b]
              · refine z_aload0 F dX1_is_43 ?_
                refine z_getI F (K_f hr hc 0 (by decide)) fX1_9 dX1_is_44 ?_
                refine z_bipush F 6 dX1_is_47 zv_b_6 ?_
                refine z_ic_ne F 56 dX1_is_49 (by decide) (fun h49 => ?_) (fun h49 => ?_)
                · refine z_iconst F 0 dX1_is_56 zv_i_0 ?_
                  refine hR _ _ _ _ dX1_is_57 rfl ?_
                  refine ⟨?_, rfl⟩
                  unfold s_isK
                  generalize D.1 r (16 + 8 * c + 0) = x at *
                  simp_all [z_b]
                · refine z_iconst F 1 dX1_is_52 zv_i_1 ?_
                  refine z_goto F 57 dX1_is_53 (by decide) ?_
                  refine hR _ _ _ _ dX1_is_57 rfl ?_
                  refine ⟨?_, rfl⟩
                  unfold s_isK
                  generalize D.1 r (16 + 8 * c + 0) = x at *
                  simp_all [z_b]
set_option maxHeartbeats 1000000 in
set_option maxRecDepth 20000 in
theorem c1_told (D : zD) {r : Nat} (hr : z_R3 r) (c : Nat) (hc : c < 10) (x : Int32) (hx : b_in x 0 10 = true) : z_CI SX zT yX1_told cX1_told 3 .int 2 [.ref (10 * r + c), .int x, .int (D.1 r 1)] D (z_eq (v_of (D.1 r) (nI c) x) D) := by
  refine z_startI SX_ok (by decide +kernel) (fun v hv => by simp at hv; rcases hv with rfl | rfl | rfl <;> rfl) (Nat.le_of_ble_eq_true rfl) (fun X F hR => ?_)
  show z_J X SX 0 [some (.ref (10 * r + c)), some (.int x), some (.int (D.1 r 1))] [] D
  refine z_iload1 F dX1_told_0 ?_
  refine z_tsw_0_9 rfl (fun h1 => ?_) (fun h1 => ?_) (fun h1 => ?_) (fun h1 => ?_) (fun h1 => ?_) (fun h1 => ?_) (fun h1 => ?_) (fun h1 => ?_) (fun h1 => ?_) (fun h1 => ?_) (fun h1 => ?_)
  · refine z_tabIn F 56 dX1_told_1 (by rw [h1]; decide) (by rw [h1]; decide) (by rw [h1]; rfl) (by decide) ?_
    refine z_aload0 F dX1_told_56 ?_
    refine z_getI F (K_f hr hc 0 (by decide)) fX1_9 dX1_told_57 ?_
    refine hR _ _ _ _ dX1_told_60 rfl ?_
    refine ⟨?_, rfl⟩
    first
      | (subst h1; rw [v_of, i_n_n (by omega)]; rfl)
      | (obtain ⟨n0, n1, n2, n3, n4, n5, n6, n7, n8, n9⟩ := z_out09 h1
         have e : x = 10 := by
           obtain ⟨j, hj, rfl⟩ := b_in0 10 (by decide) hx
           rcases (show j = 0 ∨ j = 1 ∨ j = 2 ∨ j = 3 ∨ j = 4 ∨ j = 5 ∨ j = 6 ∨ j = 7 ∨ j = 8 ∨ j = 9 ∨ j = 10 by omega) with rfl | rfl | rfl | rfl | rfl | rfl | rfl | rfl | rfl | rfl | rfl
           all_goals first | rfl | (exfalso; first | exact n0 rfl | exact n1 rfl | exact n2 rfl | exact n3 rfl | exact n4 rfl | exact n5 rfl | exact n6 rfl | exact n7 rfl | exact n8 rfl | exact n9 rfl)
         subst e
         rw [v_of, i_n_n (by omega)]
         rfl)
  · refine z_tabIn F 61 dX1_told_1 (by rw [h1]; decide) (by rw [h1]; decide) (by rw [h1]; rfl) (by decide) ?_
    refine z_aload0 F dX1_told_61 ?_
    refine z_getI F (K_f hr hc 1 (by decide)) fX1_15 dX1_told_62 ?_
    refine hR _ _ _ _ dX1_told_65 rfl ?_
    refine ⟨?_, rfl⟩
    first
      | (subst h1; rw [v_of, i_n_n (by omega)]; rfl)
      | (obtain ⟨n0, n1, n2, n3, n4, n5, n6, n7, n8, n9⟩ := z_out09 h1
         have e : x = 10 := by
           obtain ⟨j, hj, rfl⟩ := b_in0 10 (by decide) hx
           rcases (show j = 0 ∨ j = 1 ∨ j = 2 ∨ j = 3 ∨ j = 4 ∨ j = 5 ∨ j = 6 ∨ j = 7 ∨ j = 8 ∨ j = 9 ∨ j = 10 by omega) with rfl | rfl | rfl | rfl | rfl | rfl | rfl | rfl | rfl | rfl | rfl
           all_goals first | rfl | (exfalso; first | exact n0 rfl | exact n1 rfl | exact n2 rfl | exact n3 rfl | exact n4 rfl | exact n5 rfl | exact n6 rfl | exact n7 rfl | exact n8 rfl | exact n9 rfl)
         subst e
         rw [v_of, i_n_n (by omega)]
         rfl)
  · refine z_tabIn F 66 dX1_told_1 (by rw [h1]; decide) (by rw [h1]; decide) (by rw [h1]; rfl) (by decide) ?_
    refine z_aload0 F dX1_told_66 ?_
    refine z_getI F (K_f hr hc 2 (by decide)) fX1_18 dX1_told_67 ?_
    refine hR _ _ _ _ dX1_told_70 rfl ?_
    refine ⟨?_, rfl⟩
    first
      | (subst h1; rw [v_of, i_n_n (by omega)]; rfl)
      | (obtain ⟨n0, n1, n2, n3, n4, n5, n6, n7, n8, n9⟩ := z_out09 h1
         have e : x = 10 := by
           obtain ⟨j, hj, rfl⟩ := b_in0 10 (by decide) hx
           rcases (show j = 0 ∨ j = 1 ∨ j = 2 ∨ j = 3 ∨ j = 4 ∨ j = 5 ∨ j = 6 ∨ j = 7 ∨ j = 8 ∨ j = 9 ∨ j = 10 by omega) with rfl | rfl | rfl | rfl | rfl | rfl | rfl | rfl | rfl | rfl | rfl
           all_goals first | rfl | (exfalso; first | exact n0 rfl | exact n1 rfl | exact n2 rfl | exact n3 rfl | exact n4 rfl | exact n5 rfl | exact n6 rfl | exact n7 rfl | exact n8 rfl | exact n9 rfl)
         subst e
         rw [v_of, i_n_n (by omega)]
         rfl)
  · refine z_tabIn F 71 dX1_told_1 (by rw [h1]; decide) (by rw [h1]; decide) (by rw [h1]; rfl) (by decide) ?_
    refine z_aload0 F dX1_told_71 ?_
    refine z_getI F (K_f hr hc 3 (by decide)) fX1_21 dX1_told_72 ?_
    refine hR _ _ _ _ dX1_told_75 rfl ?_
    refine ⟨?_, rfl⟩
    first
      | (subst h1; rw [v_of, i_n_n (by omega)]; rfl)
      | (obtain ⟨n0, n1, n2, n3, n4, n5, n6, n7, n8, n9⟩ := z_out09 h1
         have e : x = 10 := by
           obtain ⟨j, hj, rfl⟩ := b_in0 10 (by decide) hx
           rcases (show j = 0 ∨ j = 1 ∨ j = 2 ∨ j = 3 ∨ j = 4 ∨ j = 5 ∨ j = 6 ∨ j = 7 ∨ j = 8 ∨ j = 9 ∨ j = 10 by omega) with rfl | rfl | rfl | rfl | rfl | rfl | rfl | rfl | rfl | rfl | rfl
           all_goals first | rfl | (exfalso; first | exact n0 rfl | exact n1 rfl | exact n2 rfl | exact n3 rfl | exact n4 rfl | exact n5 rfl | exact n6 rfl | exact n7 rfl | exact n8 rfl | exact n9 rfl)
         subst e
         rw [v_of, i_n_n (by omega)]
         rfl)
  · refine z_tabIn F 76 dX1_told_1 (by rw [h1]; decide) (by rw [h1]; decide) (by rw [h1]; rfl) (by decide) ?_
    refine z_aload0 F dX1_told_76 ?_
    refine z_getI F (K_f hr hc 4 (by decide)) fX1_28 dX1_told_77 ?_
    refine hR _ _ _ _ dX1_told_80 rfl ?_
    refine ⟨?_, rfl⟩
    first
      | (subst h1; rw [v_of, i_n_n (by omega)]; rfl)
      | (obtain ⟨n0, n1, n2, n3, n4, n5, n6, n7, n8, n9⟩ := z_out09 h1
         have e : x = 10 := by
           obtain ⟨j, hj, rfl⟩ := b_in0 10 (by decide) hx
           rcases (show j = 0 ∨ j = 1 ∨ j = 2 ∨ j = 3 ∨ j = 4 ∨ j = 5 ∨ j = 6 ∨ j = 7 ∨ j = 8 ∨ j = 9 ∨ j = 10 by omega) with rfl | rfl | rfl | rfl | rfl | rfl | rfl | rfl | rfl | rfl | rfl
           all_goals first | rfl | (exfalso; first | exact n0 rfl | exact n1 rfl | exact n2 rfl | exact n3 rfl | exact n4 rfl | exact n5 rfl | exact n6 rfl | exact n7 rfl | exact n8 rfl | exact n9 rfl)
         subst e
         rw [v_of, i_n_n (by omega)]
         rfl)
  · refine z_tabIn F 81 dX1_told_1 (by rw [h1]; decide) (by rw [h1]; decide) (by rw [h1]; rfl) (by decide) ?_
    refine z_aload0 F dX1_told_81 ?_
    refine z_getI F (K_f hr hc 5 (by decide)) fX1_31 dX1_told_82 ?_
    refine hR _ _ _ _ dX1_told_85 rfl ?_
    refine ⟨?_, rfl⟩
    first
      | (subst h1; rw [v_of, i_n_n (by omega)]; rfl)
      | (obtain ⟨n0, n1, n2, n3, n4, n5, n6, n7, n8, n9⟩ := z_out09 h1
         have e : x = 10 := by
           obtain ⟨j, hj, rfl⟩ := b_in0 10 (by decide) hx
           rcases (show j = 0 ∨ j = 1 ∨ j = 2 ∨ j = 3 ∨ j = 4 ∨ j = 5 ∨ j = 6 ∨ j = 7 ∨ j = 8 ∨ j = 9 ∨ j = 10 by omega) with rfl | rfl | rfl | rfl | rfl | rfl | rfl | rfl | rfl | rfl | rfl
           all_goals first | rfl | (exfalso; first | exact n0 rfl | exact n1 rfl | exact n2 rfl | exact n3 rfl | exact n4 rfl | exact n5 rfl | exact n6 rfl | exact n7 rfl | exact n8 rfl | exact n9 rfl)
         subst e
         rw [v_of, i_n_n (by omega)]
         rfl)
  · refine z_tabIn F 86 dX1_told_1 (by rw [h1]; decide) (by rw [h1]; decide) (by rw [h1]; rfl) (by decide) ?_
    refine z_aload0 F dX1_told_86 ?_
    refine z_getI F (K_f hr hc 6 (by decide)) fX1_34 dX1_told_87 ?_
    refine hR _ _ _ _ dX1_told_90 rfl ?_
    refine ⟨?_, rfl⟩
    first
      | (subst h1; rw [v_of, i_n_n (by omega)]; rfl)
      | (obtain ⟨n0, n1, n2, n3, n4, n5, n6, n7, n8, n9⟩ := z_out09 h1
         have e : x = 10 := by
           obtain ⟨j, hj, rfl⟩ := b_in0 10 (by decide) hx
           rcases (show j = 0 ∨ j = 1 ∨ j = 2 ∨ j = 3 ∨ j = 4 ∨ j = 5 ∨ j = 6 ∨ j = 7 ∨ j = 8 ∨ j = 9 ∨ j = 10 by omega) with rfl | rfl | rfl | rfl | rfl | rfl | rfl | rfl | rfl | rfl | rfl
           all_goals first | rfl | (exfalso; first | exact n0 rfl | exact n1 rfl | exact n2 rfl | exact n3 rfl | exact n4 rfl | exact n5 rfl | exact n6 rfl | exact n7 rfl | exact n8 rfl | exact n9 rfl)
         subst e
         rw [v_of, i_n_n (by omega)]
         rfl)
  · refine z_tabIn F 91 dX1_told_1 (by rw [h1]; decide) (by rw [h1]; decide) (by rw [h1]; rfl) (by decide) ?_
    refine z_aload0 F dX1_told_91 ?_
    refine z_getI F (K_f hr hc 7 (by decide)) fX1_37 dX1_told_92 ?_
    refine hR _ _ _ _ dX1_told_95 rfl ?_
    refine ⟨?_, rfl⟩
    first
      | (subst h1; rw [v_of, i_n_n (by omega)]; rfl)
      | (obtain ⟨n0, n1, n2, n3, n4, n5, n6, n7, n8, n9⟩ := z_out09 h1
         have e : x = 10 := by
           obtain ⟨j, hj, rfl⟩ := b_in0 10 (by decide) hx
           rcases (show j = 0 ∨ j = 1 ∨ j = 2 ∨ j = 3 ∨ j = 4 ∨ j = 5 ∨ j = 6 ∨ j = 7 ∨ j = 8 ∨ j = 9 ∨ j = 10 by omega) with rfl | rfl | rfl | rfl | rfl | rfl | rfl | rfl | rfl | rfl | rfl
           all_goals first | rfl | (exfalso; first | exact n0 rfl | exact n1 rfl | exact n2 rfl | exact n3 rfl | exact n4 rfl | exact n5 rfl | exact n6 rfl | exact n7 rfl | exact n8 rfl | exact n9 rfl)
         subst e
         rw [v_of, i_n_n (by omega)]
         rfl)
  · refine z_tabIn F 96 dX1_told_1 (by rw [h1]; decide) (by rw [h1]; decide) (by rw [h1]; rfl) (by decide) ?_
    refine z_aload0 F dX1_told_96 ?_
    refine z_callVI0 F (c1_thick D hr c hc) kX1_40 (by decide) (ocK hr hc) (Nat.le_of_ble_eq_true rfl) rfl dX1_told_97 ?_
    refine hR _ _ _ _ dX1_told_100 rfl ?_
    refine ⟨?_, rfl⟩
    first
      | (subst h1; rw [v_of, i_n_n (by omega)]; rfl)
      | (obtain ⟨n0, n1, n2, n3, n4, n5, n6, n7, n8, n9⟩ := z_out09 h1
         have e : x = 10 := by
           obtain ⟨j, hj, rfl⟩ := b_in0 10 (by decide) hx
           rcases (show j = 0 ∨ j = 1 ∨ j = 2 ∨ j = 3 ∨ j = 4 ∨ j = 5 ∨ j = 6 ∨ j = 7 ∨ j = 8 ∨ j = 9 ∨ j = 10 by omega) with rfl | rfl | rfl | rfl | rfl | rfl | rfl | rfl | rfl | rfl | rfl
           all_goals first | rfl | (exfalso; first | exact n0 rfl | exact n1 rfl | exact n2 rfl | exact n3 rfl | exact n4 rfl | exact n5 rfl | exact n6 rfl | exact n7 rfl | exact n8 rfl | exact n9 rfl)
         subst e
         rw [v_of, i_n_n (by omega)]
         rfl)
  · refine z_tabIn F 101 dX1_told_1 (by rw [h1]; decide) (by rw [h1]; decide) (by rw [h1]; rfl) (by decide) ?_
    refine z_aload0 F dX1_told_101 ?_
    refine z_callVI0 F (c1_goes D hr c hc) kX1_44 (by decide) (ocK hr hc) (Nat.le_of_ble_eq_true rfl) rfl dX1_told_102 ?_
    refine hR _ _ _ _ dX1_told_105 rfl ?_
    refine ⟨?_, rfl⟩
    first
      | (subst h1; rw [v_of, i_n_n (by omega)]; rfl)
      | (obtain ⟨n0, n1, n2, n3, n4, n5, n6, n7, n8, n9⟩ := z_out09 h1
         have e : x = 10 := by
           obtain ⟨j, hj, rfl⟩ := b_in0 10 (by decide) hx
           rcases (show j = 0 ∨ j = 1 ∨ j = 2 ∨ j = 3 ∨ j = 4 ∨ j = 5 ∨ j = 6 ∨ j = 7 ∨ j = 8 ∨ j = 9 ∨ j = 10 by omega) with rfl | rfl | rfl | rfl | rfl | rfl | rfl | rfl | rfl | rfl | rfl
           all_goals first | rfl | (exfalso; first | exact n0 rfl | exact n1 rfl | exact n2 rfl | exact n3 rfl | exact n4 rfl | exact n5 rfl | exact n6 rfl | exact n7 rfl | exact n8 rfl | exact n9 rfl)
         subst e
         rw [v_of, i_n_n (by omega)]
         rfl)
  · refine z_tabOut F 106 dX1_told_1 h1 (by decide) ?_
    refine z_aload0 F dX1_told_106 ?_
    refine z_iload2 F dX1_told_107 ?_
    refine z_callVI1 F (c1_wears D hr c hc) kX1_47 (by decide) (ocK hr hc) (Nat.le_of_ble_eq_true rfl) rfl dX1_told_108 ?_
    refine hR _ _ _ _ dX1_told_111 rfl ?_
    refine ⟨?_, rfl⟩
    first
      | (subst h1; rw [v_of, i_n_n (by omega)]; rfl)
      | (obtain ⟨n0, n1, n2, n3, n4, n5, n6, n7, n8, n9⟩ := z_out09 h1
         have e : x = 10 := by
           obtain ⟨j, hj, rfl⟩ := b_in0 10 (by decide) hx
           rcases (show j = 0 ∨ j = 1 ∨ j = 2 ∨ j = 3 ∨ j = 4 ∨ j = 5 ∨ j = 6 ∨ j = 7 ∨ j = 8 ∨ j = 9 ∨ j = 10 by omega) with rfl | rfl | rfl | rfl | rfl | rfl | rfl | rfl | rfl | rfl | rfl
           all_goals first | rfl | (exfalso; first | exact n0 rfl | exact n1 rfl | exact n2 rfl | exact n3 rfl | exact n4 rfl | exact n5 rfl | exact n6 rfl | exact n7 rfl | exact n8 rfl | exact n9 rfl)
         subst e
         rw [v_of, i_n_n (by omega)]
         rfl)
set_option maxHeartbeats 1000000 in
set_option maxRecDepth 20000 in
theorem c1_set (D : zD) {r : Nat} (hr : z_R3 r) (c : Nat) (hc : c < 10) (x v : Int32) (hx : b_may x v = true) : z_CV SX zT yX1_set cX1_set 3 0 [.ref (10 * r + c), .int x, .int v] D (z_eqV (z_row D r (upd (D.1 r) (16 + 8 * c + i_n x) v))) := by
  refine z_startV SX_ok (by decide +kernel) (fun v hv => by simp at hv; rcases hv with rfl | rfl | rfl <;> rfl) (Nat.le_of_ble_eq_true rfl) (fun X F hR => ?_)
  show z_J X SX 0 [some (.ref (10 * r + c)), some (.int x), some (.int v)] [] D
  refine z_iload1 F dX1_set_0 ?_
  refine z_tsw_0_6 rfl (fun h1 => ?_) (fun h1 => ?_) (fun h1 => ?_) (fun h1 => ?_) (fun h1 => ?_) (fun h1 => ?_) (fun h1 => ?_) (fun h1 => ?_)
  · refine z_tabIn F 44 dX1_set_1 (by rw [h1]; decide) (by rw [h1]; decide) (by rw [h1]; rfl) (by decide) ?_
    refine z_aload0 F dX1_set_44 ?_
    refine z_iload2 F dX1_set_45 ?_
    refine z_putI F (K_f hr hc 0 (by decide)) fX1_9 rfl rfl dX1_set_46 ?_
    refine z_goto F 92 dX1_set_49 (by decide) ?_
    refine hR _ _ _ dX1_set_92 ?_
    show _ = _
    first
      | (subst h1; exact z_up_row _ _ _ _)
      | (subst h1; exact absurd hx (by simp [b_may]))
      | (obtain ⟨n0, n1, n2, n3, n4, n5, n6⟩ := z_out06 h1; exact absurd hx (by simp [b_may, n0, n1, n2, n3, n5, n6]))
  · refine z_tabIn F 52 dX1_set_1 (by rw [h1]; decide) (by rw [h1]; decide) (by rw [h1]; rfl) (by decide) ?_
    refine z_aload0 F dX1_set_52 ?_
    refine z_iload2 F dX1_set_53 ?_
    refine z_putI F (K_f hr hc 1 (by decide)) fX1_15 rfl rfl dX1_set_54 ?_
    refine z_goto F 92 dX1_set_57 (by decide) ?_
    refine hR _ _ _ dX1_set_92 ?_
    show _ = _
    first
      | (subst h1; exact z_up_row _ _ _ _)
      | (subst h1; exact absurd hx (by simp [b_may]))
      | (obtain ⟨n0, n1, n2, n3, n4, n5, n6⟩ := z_out06 h1; exact absurd hx (by simp [b_may, n0, n1, n2, n3, n5, n6]))
  · refine z_tabIn F 60 dX1_set_1 (by rw [h1]; decide) (by rw [h1]; decide) (by rw [h1]; rfl) (by decide) ?_
    refine z_aload0 F dX1_set_60 ?_
    refine z_iload2 F dX1_set_61 ?_
    refine z_putI F (K_f hr hc 2 (by decide)) fX1_18 rfl rfl dX1_set_62 ?_
    refine z_goto F 92 dX1_set_65 (by decide) ?_
    refine hR _ _ _ dX1_set_92 ?_
    show _ = _
    first
      | (subst h1; exact z_up_row _ _ _ _)
      | (subst h1; exact absurd hx (by simp [b_may]))
      | (obtain ⟨n0, n1, n2, n3, n4, n5, n6⟩ := z_out06 h1; exact absurd hx (by simp [b_may, n0, n1, n2, n3, n5, n6]))
  · refine z_tabIn F 68 dX1_set_1 (by rw [h1]; decide) (by rw [h1]; decide) (by rw [h1]; rfl) (by decide) ?_
    refine z_aload0 F dX1_set_68 ?_
    refine z_iload2 F dX1_set_69 ?_
    refine z_putI F (K_f hr hc 3 (by decide)) fX1_21 rfl rfl dX1_set_70 ?_
    refine z_goto F 92 dX1_set_73 (by decide) ?_
    refine hR _ _ _ dX1_set_92 ?_
    show _ = _
    first
      | (subst h1; exact z_up_row _ _ _ _)
      | (subst h1; exact absurd hx (by simp [b_may]))
      | (obtain ⟨n0, n1, n2, n3, n4, n5, n6⟩ := z_out06 h1; exact absurd hx (by simp [b_may, n0, n1, n2, n3, n5, n6]))
  · refine z_tabIn F 92 dX1_set_1 (by rw [h1]; decide) (by rw [h1]; decide) (by rw [h1]; rfl) (by decide) ?_
    refine hR _ _ _ dX1_set_92 ?_
    show _ = _
    first
      | (subst h1; exact z_up_row _ _ _ _)
      | (subst h1; exact absurd hx (by simp [b_may]))
      | (obtain ⟨n0, n1, n2, n3, n4, n5, n6⟩ := z_out06 h1; exact absurd hx (by simp [b_may, n0, n1, n2, n3, n5, n6]))
  · refine z_tabIn F 76 dX1_set_1 (by rw [h1]; decide) (by rw [h1]; decide) (by rw [h1]; rfl) (by decide) ?_
    refine z_aload0 F dX1_set_76 ?_
    refine z_iload2 F dX1_set_77 ?_
    refine z_putI F (K_f hr hc 5 (by decide)) fX1_31 rfl rfl dX1_set_78 ?_
    refine z_goto F 92 dX1_set_81 (by decide) ?_
    refine hR _ _ _ dX1_set_92 ?_
    show _ = _
    first
      | (subst h1; exact z_up_row _ _ _ _)
      | (subst h1; exact absurd hx (by simp [b_may]))
      | (obtain ⟨n0, n1, n2, n3, n4, n5, n6⟩ := z_out06 h1; exact absurd hx (by simp [b_may, n0, n1, n2, n3, n5, n6]))
  · refine z_tabIn F 84 dX1_set_1 (by rw [h1]; decide) (by rw [h1]; decide) (by rw [h1]; rfl) (by decide) ?_
    refine z_aload0 F dX1_set_84 ?_
    refine z_iload2 F dX1_set_85 ?_
    refine z_putI F (K_f hr hc 6 (by decide)) fX1_34 rfl rfl dX1_set_86 ?_
    refine z_goto F 92 dX1_set_89 (by decide) ?_
    refine hR _ _ _ dX1_set_92 ?_
    show _ = _
    first
      | (subst h1; exact z_up_row _ _ _ _)
      | (subst h1; exact absurd hx (by simp [b_may]))
      | (obtain ⟨n0, n1, n2, n3, n4, n5, n6⟩ := z_out06 h1; exact absurd hx (by simp [b_may, n0, n1, n2, n3, n5, n6]))
  · refine z_tabOut F 92 dX1_set_1 h1 (by decide) ?_
    refine hR _ _ _ dX1_set_92 ?_
    show _ = _
    first
      | (subst h1; exact z_up_row _ _ _ _)
      | (subst h1; exact absurd hx (by simp [b_may]))
      | (obtain ⟨n0, n1, n2, n3, n4, n5, n6⟩ := z_out06 h1; exact absurd hx (by simp [b_may, n0, n1, n2, n3, n5, n6]))
