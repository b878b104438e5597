set_option maxHeartbeats 1000000 in
set_option maxRecDepth 20000 in
theorem c4_write (D : zD) (x y z : Int32) (hsz : ∀ s, s < 4 → ∃ k, k ≤ 40 ∧ D.1 13 s = nI k) : z_CI SX zT yX4_write cX4_write 4 .int 2 [.ref 0, .int x, .int y, .int z] D (z_eq (a_ans (o_write D x y z)) (a_X D (o_write D x y z))) := by
  refine z_startI SX_ok (by decide +kernel) (fun v hv => by simp at hv; rcases hv with rfl | rfl | rfl | rfl <;> rfl) (Nat.le_of_ble_eq_true rfl) (fun X F hR => ?_)
  show z_J X SX 0 [some (.ref 0), some (.int x), some (.int y), some (.int z)] [] D
  refine z_iload1 F dX4_write_0 ?_
  refine z_callSI1 F (c4_isSheet _ _) kX4_226 (by decide) (Nat.le_of_ble_eq_true rfl) rfl dX4_write_1 ?_
  refine z_ifb_ne F 13 dX4_write_4 (by decide) (fun h4 => ?_) (fun h4 => ?_)
  · obtain ⟨j, hj, rfl⟩ := b_in0 3 (by decide) h4
    have hjn := i_n_n (j := j) (by omega)
    obtain ⟨k, hk, ek⟩ := hsz j (by omega)
    refine z_aload0 F dX4_write_13 ?_
    refine z_getR F PH_sheets fX4_35 dX4_write_14 ?_
    refine z_iload1 F dX4_write_17 ?_
    refine z_aald F aSheets (Or.inr (Or.inl rfl)) (j) rfl (show j < 4 by omega) dX4_write_18 ?_
    refine z_callVI0 F (c2_miss _ (show j < 4 by omega)) kX4_233 (by decide) (ocS (show j < 4 by omega)) (Nat.le_of_ble_eq_true rfl) rfl dX4_write_19 ?_
    refine z_ifb_eq F 31 dX4_write_22 (by decide) (fun h22 => ?_) (fun h22 => ?_)
    · have h22 := of_decide_eq_false h22
      refine z_iload2 F dX4_write_31 ?_
      refine z_iconst F 0 dX4_write_32 zv_i_0 ?_
      refine z_aload0 F dX4_write_33 ?_
      refine z_getR F PH_sheets fX4_35 dX4_write_34 ?_
      refine z_iload1 F dX4_write_37 ?_
      refine z_aald F aSheets (Or.inr (Or.inl rfl)) (j) rfl (show j < 4 by omega) dX4_write_38 ?_
      refine z_getI F (S_length (show j < 4 by omega)) fX4_232 dX4_write_39 ?_
      rw [ek]
      refine z_iconst F 1 dX4_write_42 zv_i_1 ?_
      refine z_isub F dX4_write_43 ?_
      refine z_callSI3 F (c4_isWithin _ _ _ _) kX4_51 (by decide) (Nat.le_of_ble_eq_true rfl) rfl dX4_write_44 ?_
      refine z_ifb_ne F 56 dX4_write_47 (by decide) (fun h47 => ?_) (fun h47 => ?_)
      · obtain ⟨i, hi, rfl⟩ := b_in_k hk h47
        have hin := i_n_n (j := i) (by omega)
        refine z_aload0 F dX4_write_56 ?_
        refine z_getR F PH_sheets fX4_35 dX4_write_57 ?_
        refine z_iload1 F dX4_write_60 ?_
        refine z_aald F aSheets (Or.inr (Or.inl rfl)) (j) rfl (show j < 4 by omega) dX4_write_61 ?_
        refine z_iload2 F dX4_write_62 ?_
        refine z_iload3 F dX4_write_63 ?_
        refine z_callVV2 F (c2_set D (show j < 4 by omega) i (by omega) z) kX4_236 (by decide) (ocS (show j < 4 by omega)) (Nat.le_of_ble_eq_true rfl) rfl dX4_write_64 ?_
        refine z_iconst F 1 dX4_write_67 zv_i_1 ?_
        refine hR _ _ _ _ dX4_write_68 rfl ?_
        simp only [o_write, h4, hjn, h22, ek, h47, hin, Bool.false_eq_true, if_true, if_false, Bool.and_true, Bool.true_and, Bool.and_false, Bool.false_and, Bool.and_self, and_self]; exact ⟨rfl, rfl⟩
      · refine z_aload0 F dX4_write_50 ?_
        refine z_iconst F 0 dX4_write_51 zv_i_0 ?_
        refine z_callVI1 F (c4_finding _ 0 (by decide)) kX4_55 (by decide) ocPH (Nat.le_of_ble_eq_true rfl) rfl dX4_write_52 ?_
        refine hR _ _ _ _ dX4_write_55 rfl ?_
        simp only [o_write, h4, hjn, h22, ek, h47, Bool.false_eq_true, if_true, if_false, Bool.and_true, Bool.true_and, Bool.and_false, Bool.false_and, Bool.and_self, and_self]; first | exact ⟨rfl, rfl⟩ | exact ⟨by decide, rfl⟩ | exact ⟨by decide, z_sm_r _⟩ | exact ⟨rfl, z_sm_r _⟩
    · have h22 := of_decide_eq_true h22
      refine z_aload0 F dX4_write_25 ?_
      refine z_iconst F 5 dX4_write_26 zv_i_5 ?_
      refine z_callVI1 F (c4_finding _ 5 (by decide)) kX4_55 (by decide) ocPH (Nat.le_of_ble_eq_true rfl) rfl dX4_write_27 ?_
      refine hR _ _ _ _ dX4_write_30 rfl ?_
      simp only [o_write, h4, hjn, h22, Bool.false_eq_true, if_true, if_false, Bool.and_true, Bool.true_and, Bool.and_false, Bool.false_and, Bool.and_self, and_self]; first | exact ⟨rfl, rfl⟩ | exact ⟨by decide, rfl⟩ | exact ⟨by decide, z_sm_r _⟩ | exact ⟨rfl, z_sm_r _⟩
  · refine z_aload0 F dX4_write_7 ?_
    refine z_iconst F 0 dX4_write_8 zv_i_0 ?_
    refine z_callVI1 F (c4_finding _ 0 (by decide)) kX4_55 (by decide) ocPH (Nat.le_of_ble_eq_true rfl) rfl dX4_write_9 ?_
    refine hR _ _ _ _ dX4_write_12 rfl ?_
    simp only [o_write, h4, Bool.false_eq_true, if_true, if_false, Bool.and_true, Bool.true_and, Bool.and_false, Bool.false_and, Bool.and_self, and_self]; first | exact ⟨rfl, rfl⟩ | exact ⟨by decide, rfl⟩ | exact ⟨by decide, z_sm_r _⟩ | exact ⟨rfl, z_sm_r _⟩
set_option maxHeartbeats 1000000 in
set_option maxRecDepth 20000 in
theorem c4_sheet (D : zD) (x y z : Int32) : z_CI SX zT yX4_sheet cX4_sheet 4 .int 2 [.ref 0, .int x, .int y, .int z] D (z_eq (a_ans (o_sheet D x y z)) (a_X D (o_sheet D x y z))) := by
  refine z_startI SX_ok (by decide +kernel) (fun v hv => by simp at hv; rcases hv with rfl | rfl | rfl | rfl <;> rfl) (Nat.le_of_ble_eq_true rfl) (fun X F hR => ?_)
  show z_J X SX 0 [some (.ref 0), some (.int x), some (.int y), some (.int z)] [] D
  refine z_iload1 F dX4_sheet_0 ?_
  refine z_callSI1 F (c4_isSheet _ _) kX4_226 (by decide) (Nat.le_of_ble_eq_true rfl) rfl dX4_sheet_1 ?_
  refine z_ifb_eq F 29 dX4_sheet_4 (by decide) (fun h4 => ?_) (fun h4 => ?_)
  · refine z_aload0 F dX4_sheet_29 ?_
    refine z_iconst F 0 dX4_sheet_30 zv_i_0 ?_
    refine z_callVI1 F (c4_finding _ 0 (by decide)) kX4_55 (by decide) ocPH (Nat.le_of_ble_eq_true rfl) rfl dX4_sheet_31 ?_
    refine hR _ _ _ _ dX4_sheet_34 rfl ?_
    simp only [o_sheet, h4, Bool.false_eq_true, if_true, if_false, Bool.and_true, Bool.true_and, Bool.and_false, Bool.false_and, Bool.and_self, and_self]; first | exact ⟨rfl, rfl⟩ | exact ⟨by decide, rfl⟩ | exact ⟨by decide, z_sm_r _⟩ | exact ⟨rfl, z_sm_r _⟩
  · refine z_iload2 F dX4_sheet_7 ?_
    refine z_if_eq F 35 dX4_sheet_8 (by decide) (fun h8 => ?_) (fun h8 => ?_)
    · have hbits : b_bits y = true := by simp [b_bits, h8]
      refine z_iload3 F dX4_sheet_35 ?_
      refine z_if_ge F 46 dX4_sheet_36 (by decide) (fun h36 => ?_) (fun h36 => ?_)
      · refine z_iload3 F dX4_sheet_46 ?_
        refine z_bipush F 40 dX4_sheet_47 zv_b_40 ?_
        refine z_ic_le F 58 dX4_sheet_49 (by decide) (fun h49 => ?_) (fun h49 => ?_)
        · have h36n := Int32.not_lt.mpr h36
          obtain ⟨j, hj, rfl⟩ := b_in0 3 (by decide) h4
          have hjn := i_n_n (j := j) (by omega)
          have h49n := Int32.not_lt.mpr h49
          refine z_aload0 F dX4_sheet_58 ?_
          refine z_getR F PH_sheets fX4_35 dX4_sheet_59 ?_
          refine z_iload1 F dX4_sheet_62 ?_
          refine z_aald F aSheets (Or.inr (Or.inl rfl)) (j) rfl (show j < 4 by omega) dX4_sheet_63 ?_
          refine z_iload2 F dX4_sheet_64 ?_
          refine z_iload3 F dX4_sheet_65 ?_
          refine z_callVV2 F (c2_renew D (show j < 4 by omega) y z) kX4_229 (by decide) (ocS (show j < 4 by omega)) (Nat.le_of_ble_eq_true rfl) rfl dX4_sheet_66 ?_
          refine z_aload0 F dX4_sheet_69 ?_
          refine z_getR F PH_sheets fX4_35 dX4_sheet_70 ?_
          refine z_iload1 F dX4_sheet_73 ?_
          refine z_aald F aSheets (Or.inr (Or.inl rfl)) (j) rfl (show j < 4 by omega) dX4_sheet_74 ?_
          refine z_getI F (S_length (show j < 4 by omega)) fX4_232 dX4_sheet_75 ?_
          refine hR _ _ _ _ dX4_sheet_78 rfl ?_
          simp only [o_sheet, h4, hbits, h36n, h49n, hjn, Bool.false_eq_true, if_true, if_false, Bool.and_true, Bool.true_and, Bool.and_false, Bool.false_and, Bool.and_self, and_self]
          refine ⟨?_, rfl⟩
          rw [z_sheet, z_rowo _ _ (by decide), z_upr, u_eq]
          rfl
        · have h36n := Int32.not_lt.mpr h36
          have h49 := Int32.not_le.mp h49
          refine z_aload0 F dX4_sheet_52 ?_
          refine z_iconst F 0 dX4_sheet_53 zv_i_0 ?_
          refine z_callVI1 F (c4_finding _ 0 (by decide)) kX4_55 (by decide) ocPH (Nat.le_of_ble_eq_true rfl) rfl dX4_sheet_54 ?_
          refine hR _ _ _ _ dX4_sheet_57 rfl ?_
          simp only [o_sheet, h4, hbits, h36n, h49, Bool.false_eq_true, if_true, if_false, Bool.and_true, Bool.true_and, Bool.and_false, Bool.false_and, Bool.and_self, and_self]; first | exact ⟨rfl, rfl⟩ | exact ⟨by decide, rfl⟩ | exact ⟨by decide, z_sm_r _⟩ | exact ⟨rfl, z_sm_r _⟩
      · have h36 := Int32.not_le.mp h36
        refine z_aload0 F dX4_sheet_39 ?_
        refine z_bipush F 6 dX4_sheet_40 zv_b_6 ?_
        refine z_callVI1 F (c4_finding _ 6 (by decide)) kX4_55 (by decide) ocPH (Nat.le_of_ble_eq_true rfl) rfl dX4_sheet_42 ?_
        refine hR _ _ _ _ dX4_sheet_45 rfl ?_
        simp only [o_sheet, h4, hbits, h36, Bool.false_eq_true, if_true, if_false, Bool.and_true, Bool.true_and, Bool.and_false, Bool.false_and, Bool.and_self, and_self]; first | exact ⟨rfl, rfl⟩ | exact ⟨by decide, rfl⟩ | exact ⟨by decide, z_sm_r _⟩ | exact ⟨rfl, z_sm_r _⟩
    · refine z_iload2 F dX4_sheet_11 ?_
      refine z_bipush F 8 dX4_sheet_12 zv_b_8 ?_
      refine z_ic_eq F 35 dX4_sheet_14 (by decide) (fun h14 => ?_) (fun h14 => ?_)
      · have hbits : b_bits y = true := by simp [b_bits, h14]
        refine z_iload3 F dX4_sheet_35 ?_
        refine z_if_ge F 46 dX4_sheet_36 (by decide) (fun h36 => ?_) (fun h36 => ?_)
        · refine z_iload3 F dX4_sheet_46 ?_
          refine z_bipush F 40 dX4_sheet_47 zv_b_40 ?_
          refine z_ic_le F 58 dX4_sheet_49 (by decide) (fun h49 => ?_) (fun h49 => ?_)
          · have h36n := Int32.not_lt.mpr h36
            obtain ⟨j, hj, rfl⟩ := b_in0 3 (by decide) h4
            have hjn := i_n_n (j := j) (by omega)
            have h49n := Int32.not_lt.mpr h49
            refine z_aload0 F dX4_sheet_58 ?_
            refine z_getR F PH_sheets fX4_35 dX4_sheet_59 ?_
            refine z_iload1 F dX4_sheet_62 ?_
            refine z_aald F aSheets (Or.inr (Or.inl rfl)) (j) rfl (show j < 4 by omega) dX4_sheet_63 ?_
            refine z_iload2 F dX4_sheet_64 ?_
            refine z_iload3 F dX4_sheet_65 ?_
            refine z_callVV2 F (c2_renew D (show j < 4 by omega) y z) kX4_229 (by decide) (ocS (show j < 4 by omega)) (Nat.le_of_ble_eq_true rfl) rfl dX4_sheet_66 ?_
            refine z_aload0 F dX4_sheet_69 ?_
            refine z_getR F PH_sheets fX4_35 dX4_sheet_70 ?_
            refine z_iload1 F dX4_sheet_73 ?_
            refine z_aald F aSheets (Or.inr (Or.inl rfl)) (j) rfl (show j < 4 by omega) dX4_sheet_74 ?_
            refine z_getI F (S_length (show j < 4 by omega)) fX4_232 dX4_sheet_75 ?_
            refine hR _ _ _ _ dX4_sheet_78 rfl ?_
            simp only [o_sheet, h4, hbits, h36n, h49n, hjn, Bool.false_eq_true, if_true, if_false, Bool.and_true, Bool.true_and, Bool.and_false, Bool.false_and, Bool.and_self, and_self]
            refine ⟨?_, rfl⟩
            rw [z_sheet, z_rowo _ _ (by decide), z_upr, u_eq]
            rfl
          · have h36n := Int32.not_lt.mpr h36
            have h49 := Int32.not_le.mp h49
            refine z_aload0 F dX4_sheet_52 ?_
            refine z_iconst F 0 dX4_sheet_53 zv_i_0 ?_
            refine z_callVI1 F (c4_finding _ 0 (by decide)) kX4_55 (by decide) ocPH (Nat.le_of_ble_eq_true rfl) rfl dX4_sheet_54 ?_
            refine hR _ _ _ _ dX4_sheet_57 rfl ?_
            simp only [o_sheet, h4, hbits, h36n, h49, Bool.false_eq_true, if_true, if_false, Bool.and_true, Bool.true_and, Bool.and_false, Bool.false_and, Bool.and_self, and_self]; first | exact ⟨rfl, rfl⟩ | exact ⟨by decide, rfl⟩ | exact ⟨by decide, z_sm_r _⟩ | exact ⟨rfl, z_sm_r _⟩
        · have h36 := Int32.not_le.mp h36
          refine z_aload0 F dX4_sheet_39 ?_
          refine z_bipush F 6 dX4_sheet_40 zv_b_6 ?_
          refine z_callVI1 F (c4_finding _ 6 (by decide)) kX4_55 (by decide) ocPH (Nat.le_of_ble_eq_true rfl) rfl dX4_sheet_42 ?_
          refine hR _ _ _ _ dX4_sheet_45 rfl ?_
          simp only [o_sheet, h4, hbits, h36, Bool.false_eq_true, if_true, if_false, Bool.and_true, Bool.true_and, Bool.and_false, Bool.false_and, Bool.and_self, and_self]; first | exact ⟨rfl, rfl⟩ | exact ⟨by decide, rfl⟩ | exact ⟨by decide, z_sm_r _⟩ | exact ⟨rfl, z_sm_r _⟩
      · refine z_iload2 F dX4_sheet_17 ?_
        refine z_bipush F 16 dX4_sheet_18 zv_b_16 ?_
        refine z_ic_eq F 35 dX4_sheet_20 (by decide) (fun h20 => ?_) (fun h20 => ?_)
        · have hbits : b_bits y = true := by simp [b_bits, h20]
          refine z_iload3 F dX4_sheet_35 ?_
          refine z_if_ge F 46 dX4_sheet_36 (by decide) (fun h36 => ?_) (fun h36 => ?_)
          · refine z_iload3 F dX4_sheet_46 ?_
            refine z_bipush F 40 dX4_sheet_47 zv_b_40 ?_
            refine z_ic_le F 58 dX4_sheet_49 (by decide) (fun h49 => ?_) (fun h49 => ?_)
            · have h36n := Int32.not_lt.mpr h36
              obtain ⟨j, hj, rfl⟩ := b_in0 3 (by decide) h4
              have hjn := i_n_n (j := j) (by omega)
              have h49n := Int32.not_lt.mpr h49
              refine z_aload0 F dX4_sheet_58 ?_
              refine z_getR F PH_sheets fX4_35 dX4_sheet_59 ?_
              refine z_iload1 F dX4_sheet_62 ?_
              refine z_aald F aSheets (Or.inr (Or.inl rfl)) (j) rfl (show j < 4 by omega) dX4_sheet_63 ?_
              refine z_iload2 F dX4_sheet_64 ?_
              refine z_iload3 F dX4_sheet_65 ?_
              refine z_callVV2 F (c2_renew D (show j < 4 by omega) y z) kX4_229 (by decide) (ocS (show j < 4 by omega)) (Nat.le_of_ble_eq_true rfl) rfl dX4_sheet_66 ?_
              refine z_aload0 F dX4_sheet_69 ?_
              refine z_getR F PH_sheets fX4_35 dX4_sheet_70 ?_
              refine z_iload1 F dX4_sheet_73 ?_
              refine z_aald F aSheets (Or.inr (Or.inl rfl)) (j) rfl (show j < 4 by omega) dX4_sheet_74 ?_
              refine z_getI F (S_length (show j < 4 by omega)) fX4_232 dX4_sheet_75 ?_
              refine hR _ _ _ _ dX4_sheet_78 rfl ?_
              simp only [o_sheet, h4, hbits, h36n, h49n, hjn, Bool.false_eq_true, if_true, if_false, Bool.and_true, Bool.true_and, Bool.and_false, Bool.false_and, Bool.and_self, and_self]
              refine ⟨?_, rfl⟩
              rw [z_sheet, z_rowo _ _ (by decide), z_upr, u_eq]
              rfl
            · have h36n := Int32.not_lt.mpr h36
              have h49 := Int32.not_le.mp h49
              refine z_aload0 F dX4_sheet_52 ?_
              refine z_iconst F 0 dX4_sheet_53 zv_i_0 ?_
              refine z_callVI1 F (c4_finding _ 0 (by decide)) kX4_55 (by decide) ocPH (Nat.le_of_ble_eq_true rfl) rfl dX4_sheet_54 ?_
              refine hR _ _ _ _ dX4_sheet_57 rfl ?_
              simp only [o_sheet, h4, hbits, h36n, h49, Bool.false_eq_true, if_true, if_false, Bool.and_true, Bool.true_and, Bool.and_false, Bool.false_and, Bool.and_self, and_self]; first | exact ⟨rfl, rfl⟩ | exact ⟨by decide, rfl⟩ | exact ⟨by decide, z_sm_r _⟩ | exact ⟨rfl, z_sm_r _⟩
          · have h36 := Int32.not_le.mp h36
            refine z_aload0 F dX4_sheet_39 ?_
            refine z_bipush F 6 dX4_sheet_40 zv_b_6 ?_
            refine z_callVI1 F (c4_finding _ 6 (by decide)) kX4_55 (by decide) ocPH (Nat.le_of_ble_eq_true rfl) rfl dX4_sheet_42 ?_
            refine hR _ _ _ _ dX4_sheet_45 rfl ?_
            simp only [o_sheet, h4, hbits, h36, Bool.false_eq_true, if_true, if_false, Bool.and_true, Bool.true_and, Bool.and_false, Bool.false_and, Bool.and_self, and_self]; first | exact ⟨rfl, rfl⟩ | exact ⟨by decide, rfl⟩ | exact ⟨by decide, z_sm_r _⟩ | exact ⟨rfl, z_sm_r _⟩
        · refine z_iload2 F dX4_sheet_23 ?_
          refine z_bipush F 32 dX4_sheet_24 zv_b_32 ?_
          refine z_ic_eq F 35 dX4_sheet_26 (by decide) (fun h26 => ?_) (fun h26 => ?_)
          · have hbits : b_bits y = true := by simp [b_bits, h26]
            refine z_iload3 F dX4_sheet_35 ?_
            refine z_if_ge F 46 dX4_sheet_36 (by decide) (fun h36 => ?_) (fun h36 => ?_)
            · refine z_iload3 F dX4_sheet_46 ?_
              refine z_bipush F 40 dX4_sheet_47 zv_b_40 ?_
              refine z_ic_le F 58 dX4_sheet_49 (by decide) (fun h49 => ?_) (fun h49 => ?_)
              · have h36n := Int32.not_lt.mpr h36
                obtain ⟨j, hj, rfl⟩ := b_in0 3 (by decide) h4
                have hjn := i_n_n (j := j) (by omega)
                have h49n := Int32.not_lt.mpr h49
                refine z_aload0 F dX4_sheet_58 ?_
                refine z_getR F PH_sheets fX4_35 dX4_sheet_59 ?_
                refine z_iload1 F dX4_sheet_62 ?_
                refine z_aald F aSheets (Or.inr (Or.inl rfl)) (j) rfl (show j < 4 by omega) dX4_sheet_63 ?_
                refine z_iload2 F dX4_sheet_64 ?_
                refine z_iload3 F dX4_sheet_65 ?_
                refine z_callVV2 F (c2_renew D (show j < 4 by omega) y z) kX4_229 (by decide) (ocS (show j < 4 by omega)) (Nat.le_of_ble_eq_true rfl) rfl dX4_sheet_66 ?_
                refine z_aload0 F dX4_sheet_69 ?_
                refine z_getR F PH_sheets fX4_35 dX4_sheet_70 ?_
                refine z_iload1 F dX4_sheet_73 ?_
                refine z_aald F aSheets (Or.inr (Or.inl rfl)) (j) rfl (show j < 4 by omega) dX4_sheet_74 ?_
                refine z_getI F (S_length (show j < 4 by omega)) fX4_232 dX4_sheet_75 ?_
                refine hR _ _ _ _ dX4_sheet_78 rfl ?_
                simp only [o_sheet, h4, hbits, h36n, h49n, hjn, Bool.false_eq_true, if_true, if_false, Bool.and_true, Bool.true_and, Bool.and_false, Bool.false_and, Bool.and_self, and_self]
                refine ⟨?_, rfl⟩
                rw [z_sheet, z_rowo _ _ (by decide), z_upr, u_eq]
                rfl
              · have h36n := Int32.not_lt.mpr h36
                have h49 := Int32.not_le.mp h49
                refine z_aload0 F dX4_sheet_52 ?_
                refine z_iconst F 0 dX4_sheet_53 zv_i_0 ?_
                refine z_callVI1 F (c4_finding _ 0 (by decide)) kX4_55 (by decide) ocPH (Nat.le_of_ble_eq_true rfl) rfl dX4_sheet_54 ?_
                refine hR _ _ _ _ dX4_sheet_57 rfl ?_
                simp only [o_sheet, h4, hbits, h36n, h49, Bool.false_eq_true, if_true, if_false, Bool.and_true, Bool.true_and, Bool.and_false, Bool.false_and, Bool.and_self, and_self]; first | exact ⟨rfl, rfl⟩ | exact ⟨by decide, rfl⟩ | exact ⟨by decide, z_sm_r _⟩ | exact ⟨rfl, z_sm_r _⟩
            · have h36 := Int32.not_le.mp h36
              refine z_aload0 F dX4_sheet_39 ?_
              refine z_bipush F 6 dX4_sheet_40 zv_b_6 ?_
              refine z_callVI1 F (c4_finding _ 6 (by decide)) kX4_55 (by decide) ocPH (Nat.le_of_ble_eq_true rfl) rfl dX4_sheet_42 ?_
              refine hR _ _ _ _ dX4_sheet_45 rfl ?_
              simp only [o_sheet, h4, hbits, h36, Bool.false_eq_true, if_true, if_false, Bool.and_true, Bool.true_and, Bool.and_false, Bool.false_and, Bool.and_self, and_self]; first | exact ⟨rfl, rfl⟩ | exact ⟨by decide, rfl⟩ | exact ⟨by decide, z_sm_r _⟩ | exact ⟨rfl, z_sm_r _⟩
          · have hbits : b_bits y = false := by simp [b_bits, h8, h14, h20, h26]
            refine z_aload0 F dX4_sheet_29 ?_
            refine z_iconst F 0 dX4_sheet_30 zv_i_0 ?_
            refine z_callVI1 F (c4_finding _ 0 (by decide)) kX4_55 (by decide) ocPH (Nat.le_of_ble_eq_true rfl) rfl dX4_sheet_31 ?_
            refine hR _ _ _ _ dX4_sheet_34 rfl ?_
            simp only [o_sheet, h4, hbits, Bool.false_eq_true, if_true, if_false, Bool.and_true, Bool.true_and, Bool.and_false, Bool.false_and, Bool.and_self, and_self]; first | exact ⟨rfl, rfl⟩ | exact ⟨by decide, rfl⟩ | exact ⟨by decide, z_sm_r _⟩ | exact ⟨rfl, z_sm_r _⟩
