theorem z_sl2 : ∀ i, i < 14 → 0 < z_sl.getD i 0 ∧ z_sl.getD i 0 < 8 := by decide
theorem s_eqw_mono {τ : Nat → Int32} {b i : Nat} : ∀ n, s_eqw τ b i n = true → ∀ j, j ≤ n → s_eqw τ b i j = true
  | 0, h, j, hj => by rw [show j = 0 by omega]; exact h
  | n + 1, h, j, hj => by
    by_cases e : j = n + 1
    · rw [e]; exact h
    · rw [s_eqw, Bool.and_eq_true] at h
      exact s_eqw_mono n h.1 j (by omega)
theorem z_p21' (D : zD) (ρ : Nat → Int32) (k : zTk) (w : Bool) (m : Nat) (c : Int32) (m' : Nat) : z_up (z_row D 0 (s_r0 ρ k w m c)) 0 21 (nI m') = z_row D 0 (s_r0 ρ k w m' c) := z_p21 D ρ k.1 k.2.1 k.2.2.1 k.2.2.2 w m c m'
theorem z_p22' (D : zD) (ρ : Nat → Int32) (k : zTk) (w : Bool) (m : Nat) (c c' : Int32) : z_up (z_row D 0 (s_r0 ρ k w m c)) 0 22 c' = z_row D 0 (s_r0 ρ k w m c') := z_p22 D ρ k.1 k.2.1 k.2.2.1 k.2.2.2 w m c c'
theorem z_p17t (D : zD) (ρ : Nat → Int32) (k : zTk) (w : Bool) (m : Nat) (c : Int32) : z_up (z_row D 0 (s_r0 ρ k w m c)) 0 17 1 = z_row D 0 (s_r0 ρ k true m c) := z_p17 D ρ k.1 k.2.1 k.2.2.1 k.2.2.2 w m c true
theorem z_p17f (D : zD) (ρ : Nat → Int32) (k : zTk) (w : Bool) (m : Nat) (c : Int32) : z_up (z_row D 0 (s_r0 ρ k w m c)) 0 17 0 = z_row D 0 (s_r0 ρ k false m c) := z_p17 D ρ k.1 k.2.1 k.2.2.1 k.2.2.2 w m c false
theorem z_11 (D : zD) (R : Nat → Int32) (x : Nat) (v : Int32) : z_up (z_row D 0 R) 11 x v = z_row (z_up D 11 x v) 0 R := by
  rw [z_up_row, z_up_row D, z_rowo _ _ (by decide), z_row_cm _ _ _ (by decide)]
set_option maxHeartbeats 1000000 in
set_option maxRecDepth 20000 in
theorem c5_isWord (D : zD) (ρ : Nat → Int32) (s : zRd) (m : Nat) (c : Int32) {t : Nat} (hρ : ρ 12 = nI t) (ht : t ≤ 120) (hs : t_ok t s.1) {i : Nat} (hi : i < 14) : z_CI SM zT yX5_isWord cX5_isWord 4 .boolean 4 [.ref 0, .ref (1000 + i)] (z_row D 0 (s_r0 ρ s.1 s.2 m c)) (z_eq (z_b (s_isw (D.1 8) s.1 i)) (z_row D 0 (s_r0 ρ s.1 s.2 m c))) := by
  refine z_startI SM_ok (by decide +kernel) (fun v hv => by simp at hv; rcases hv with rfl | rfl <;> rfl) (Nat.le_of_ble_eq_true rfl) (fun X F hR => ?_)
  show z_J X SM 0 [some (.ref 0), some (.ref (1000 + i)), none, none] [] (z_row D 0 (s_r0 ρ s.1 s.2 m c))
  obtain ⟨hbe, het, hne⟩ := hs
  have hlen := z_sl2 i hi
  have no : (s_isw (D.1 8) s.1 i) = false → ∀ j, z_J X SM 32 [some (.ref 0), some (.ref (1000 + i)), some (.int 0), some (.int (nI j))] [] (z_row D 0 (s_r0 ρ s.1 s.2 m c)) := by
    intro hf j
    refine z_iload3 F dX5_isWord_32 ?_
    refine z_aload1 F dX5_isWord_33 ?_
    refine z_callTI0 F (cj_length SM_ok _ hi) kX5_253 (by decide) hi rfl (Nat.le_of_ble_eq_true rfl) rfl dX5_isWord_34 ?_
    refine z_ic_ge F 75 dX5_isWord_37 (by decide) (fun h37 => ?_) (fun h37 => ?_)
    · refine z_iload2 F dX5_isWord_75 ?_
      refine hR _ _ _ _ dX5_isWord_76 rfl ?_
      exact ⟨by rw [hf]; rfl, rfl⟩
    · refine z_iload2 F dX5_isWord_40 ?_
      refine z_if_eq F 75 dX5_isWord_41 (by decide) (fun h41 => ?_) (fun h41 => ?_)
      · refine z_iload2 F dX5_isWord_75 ?_
        refine hR _ _ _ _ dX5_isWord_76 rfl ?_
        exact ⟨by rw [hf]; rfl, rfl⟩
      · exact absurd h41 (by decide)
  
  refine z_aload0 F dX5_isWord_0 ?_
  refine z_getI F M_sort fX5_250 dX5_isWord_1 ?_
  simp only [z_r15]
  refine z_iconst F 1 dX5_isWord_4 zv_i_1 ?_
  refine z_ic_ne F 28 dX5_isWord_5 (by decide) (fun h5 => ?_) (fun h5 => ?_)
  · refine z_iconst F 0 dX5_isWord_28 zv_i_0 ?_
    refine z_istore2 F dX5_isWord_29 rfl ?_
    refine z_iconst F 0 dX5_isWord_30 zv_i_0 ?_
    refine z_istore3 F dX5_isWord_31 rfl ?_
    have h := no (by rw [s_isw, decide_eq_false h5]; first | rfl | (rw [Bool.and_false]; rfl)) 0
    exact h
  · refine z_aload0 F dX5_isWord_8 ?_
    refine z_getI F M_ends fX5_238 dX5_isWord_9 ?_
    simp only [z_r14]
    refine z_aload0 F dX5_isWord_12 ?_
    refine z_getI F M_begins fX5_241 dX5_isWord_13 ?_
    simp only [z_r13]
    refine z_isub F dX5_isWord_16 ?_
    rw [pk_sub hbe]
    refine z_aload1 F dX5_isWord_17 ?_
    refine z_callTI0 F (cj_length SM_ok _ hi) kX5_253 (by decide) hi rfl (Nat.le_of_ble_eq_true rfl) rfl dX5_isWord_18 ?_
    refine z_ic_ne F 28 dX5_isWord_21 (by decide) (fun h21 => ?_) (fun h21 => ?_)
    · refine z_iconst F 0 dX5_isWord_28 zv_i_0 ?_
      refine z_istore2 F dX5_isWord_29 rfl ?_
      refine z_iconst F 0 dX5_isWord_30 zv_i_0 ?_
      refine z_istore3 F dX5_isWord_31 rfl ?_
      have h := no (by rw [s_isw, decide_eq_false (show ¬ s.1.2.1 = s.1.1 + z_sl.getD i 0 from fun e => h21 (by rw [e, Nat.add_sub_cancel_left]))]; first | rfl | (rw [Bool.and_false]; rfl)) 0
      exact h
    · have he : s.1.2.1 = s.1.1 + z_sl.getD i 0 := by
        have := (nI_eq (a := s.1.2.1 - s.1.1) (b := z_sl.getD i 0) (by omega) (by omega)).mp h21
        omega
      refine z_iconst F 1 dX5_isWord_24 zv_i_1 ?_
      refine z_goto F 29 dX5_isWord_25 (by decide) ?_
      refine z_istore2 F dX5_isWord_29 rfl ?_
      refine z_iconst F 0 dX5_isWord_30 zv_i_0 ?_
      refine z_istore3 F dX5_isWord_31 rfl ?_
      have loop : ∀ (n j : Nat), j + n = z_sl.getD i 0 → s_eqw (D.1 8) s.1.1 i j = true → z_J X SM 32 [some (.ref 0), some (.ref (1000 + i)), some (.int 1), some (.int (nI j))] [] (z_row D 0 (s_r0 ρ s.1 s.2 m c)) := by
        intro n
        induction n with
        | zero =>
          intro j hn hq
          refine z_iload3 F dX5_isWord_32 ?_
          refine z_aload1 F dX5_isWord_33 ?_
          refine z_callTI0 F (cj_length SM_ok _ hi) kX5_253 (by decide) hi rfl (Nat.le_of_ble_eq_true rfl) rfl dX5_isWord_34 ?_
          refine z_ic_ge F 75 dX5_isWord_37 (by decide) (fun h37 => ?_) (fun h37 => ?_)
          · refine z_iload2 F dX5_isWord_75 ?_
            refine hR _ _ _ _ dX5_isWord_76 rfl ?_
            exact ⟨by rw [s_isw, decide_eq_true h5, decide_eq_true he, show z_sl.getD i 0 = j by omega, hq]; rfl, rfl⟩
          · exact absurd (nI_le (by omega) (by omega)) h37
        | succ n ih =>
          intro j hn hq
          refine z_iload3 F dX5_isWord_32 ?_
          refine z_aload1 F dX5_isWord_33 ?_
          refine z_callTI0 F (cj_length SM_ok _ hi) kX5_253 (by decide) hi rfl (Nat.le_of_ble_eq_true rfl) rfl dX5_isWord_34 ?_
          refine z_ic_ge F 75 dX5_isWord_37 (by decide) (fun h37 => ?_) (fun h37 => ?_)
          · exact absurd h37 (nI_ge (by omega) (by omega))
          · refine z_iload2 F dX5_isWord_40 ?_
            refine z_if_eq F 75 dX5_isWord_41 (by decide) (fun h41 => ?_) (fun h41 => ?_)
            · exact absurd h41 (by decide)
            · refine z_aload0 F dX5_isWord_44 ?_
              refine z_getR F M_tape fX5_32 dX5_isWord_45 ?_
              refine z_aload0 F dX5_isWord_48 ?_
              refine z_getI F M_begins fX5_241 dX5_isWord_49 ?_
              refine z_iload3 F dX5_isWord_52 ?_
              simp only [z_r13]
              refine z_iadd F dX5_isWord_53 ?_
              refine z_iald F aM_tape (s.1.1 + j) (nI_add _ _) (by omega) dX5_isWord_54 ?_
              rw [z_rowo _ _ (by decide)]
              refine z_aload1 F dX5_isWord_55 ?_
              refine z_iload3 F dX5_isWord_56 ?_
              refine z_callTI1 F (cj_charAt SM_ok _ hi (show j < z_sl.getD i 0 by omega)) kX5_256 (by decide) hi rfl (Nat.le_of_ble_eq_true rfl) rfl dX5_isWord_57 ?_
              refine z_ic_ne F 67 dX5_isWord_60 (by decide) (fun h60 => ?_) (fun h60 => ?_)
              · refine z_iconst F 0 dX5_isWord_67 zv_i_0 ?_
                refine z_istore2 F dX5_isWord_68 rfl ?_
                refine z_iinc3 F 1 dX5_isWord_69 rfl zv_i_1 ?_
                refine z_goto F 32 dX5_isWord_72 (by decide) ?_
                have h := no (by
                  rw [s_isw]
                  have : s_eqw (D.1 8) s.1.1 i (z_sl.getD i 0) = false := by
                    cases q : s_eqw (D.1 8) s.1.1 i (z_sl.getD i 0) with
                    | false => rfl
                    | true =>
                      have := s_eqw_mono _ q (j + 1) (by omega)
                      rw [s_eqw, Bool.and_eq_true, decide_eq_true_eq] at this
                      exact absurd this.2 h60
                  rw [this, Bool.and_false]) (j + 1)
                rw [nI_succ] at h
                exact h
              · refine z_iconst F 1 dX5_isWord_63 zv_i_1 ?_
                refine z_goto F 68 dX5_isWord_64 (by decide) ?_
                refine z_istore2 F dX5_isWord_68 rfl ?_
                refine z_iinc3 F 1 dX5_isWord_69 rfl zv_i_1 ?_
                refine z_goto F 32 dX5_isWord_72 (by decide) ?_
                have h := ih (j + 1) (by omega) (by rw [s_eqw, hq, decide_eq_true h60]; rfl)
                rw [show nI (j + 1) = nI j + 1 from nI_succ j] at h
                exact h
      exact loop (z_sl.getD i 0) 0 (by omega) rfl
set_option maxHeartbeats 1000000 in
set_option maxRecDepth 20000 in
theorem c5_must (D : zD) (ρ : Nat → Int32) (s : zRd) (m : Nat) (c : Int32) {t : Nat} (hρ : ρ 12 = nI t) (ht : t ≤ 120) (hs : t_ok t s.1) (is : Bool) : z_CV SM zT yX5_must cX5_must 2 2 [.ref 0, .int (z_b is)] (z_row D 0 (s_r0 ρ s.1 s.2 m c)) (z_eqV (z_row D 0 (s_r0 ρ (m_must (D.1 8) t s is).1 (m_must (D.1 8) t s is).2 m c))) := by
  refine z_startV SM_ok (by decide +kernel) (fun v hv => by simp at hv; rcases hv with rfl | rfl <;> rfl) (Nat.le_of_ble_eq_true rfl) (fun X F hR => ?_)
  show z_J X SM 0 [some (.ref 0), some (.int (z_b is))] [] (z_row D 0 (s_r0 ρ s.1 s.2 m c))
  refine z_aload0 F dX5_must_0 ?_
  refine z_aload0 F dX5_must_1 ?_
  refine z_getI F M_isWrong fX5_260 dX5_must_2 ?_
  simp only [z_r17]
  refine z_if_ne F 12 dX5_must_5 (by decide) (fun h5 => ?_) (fun h5 => ?_)
  · refine z_iconst F 1 dX5_must_12 zv_i_1 ?_
    refine z_goto F 17 dX5_must_13 (by decide) ?_
    refine z_putI F M_isWrong fX5_260 rfl rfl dX5_must_17 ?_
    rw [z_p17t]
    refine z_aload0 F dX5_must_20 ?_
    refine z_getI F M_isWrong fX5_260 dX5_must_21 ?_
    simp only [z_r17]
    refine z_if_ne F 31 dX5_must_24 (by decide) (fun h24 => ?_) (fun h24 => ?_)
    · refine hR _ _ _ dX5_must_31 ?_
      show _ = _
      rw [m_must, if_pos (by rw [(z_bn _).mp h5]; rfl)]
    · exact absurd h24 (by decide)
  · refine z_iload1 F dX5_must_8 ?_
    refine z_ifb_ne F 16 dX5_must_9 (by decide) (fun h9 => ?_) (fun h9 => ?_)
    · refine z_iconst F 0 dX5_must_16 zv_i_0 ?_
      refine z_putI F M_isWrong fX5_260 rfl rfl dX5_must_17 ?_
      rw [z_p17f]
      refine z_aload0 F dX5_must_20 ?_
      refine z_getI F M_isWrong fX5_260 dX5_must_21 ?_
      simp only [z_r17]
      refine z_if_ne F 31 dX5_must_24 (by decide) (fun h24 => ?_) (fun h24 => ?_)
      · exact absurd rfl h24
      · refine z_aload0 F dX5_must_27 ?_
        refine z_callVV0 F (c5_next D ρ s.1 false m c hρ ht hs.2.1) kX5_264 (by decide) ocM (Nat.le_of_ble_eq_true rfl) rfl dX5_must_28 ?_
        refine hR _ _ _ dX5_must_31 ?_
        show _ = _
        rw [m_must, if_neg (by rw [(z_b0 _).mp h5, h9]; decide)]
    · refine z_iconst F 1 dX5_must_12 zv_i_1 ?_
      refine z_goto F 17 dX5_must_13 (by decide) ?_
      refine z_putI F M_isWrong fX5_260 rfl rfl dX5_must_17 ?_
      rw [z_p17t]
      refine z_aload0 F dX5_must_20 ?_
      refine z_getI F M_isWrong fX5_260 dX5_must_21 ?_
      simp only [z_r17]
      refine z_if_ne F 31 dX5_must_24 (by decide) (fun h24 => ?_) (fun h24 => ?_)
      · refine hR _ _ _ dX5_must_31 ?_
        show _ = _
        rw [m_must, if_pos (by rw [h9]; simp)]
      · exact absurd h24 (by decide)
set_option maxHeartbeats 1000000 in
set_option maxRecDepth 20000 in
theorem c5_number (D : zD) (ρ : Nat → Int32) (s : zRd) (m : Nat) (c : Int32) {t : Nat} (hρ : ρ 12 = nI t) (ht : t ≤ 120) (hs : t_ok t s.1) (lo hi : Int32) : z_CI SM zT yX5_number cX5_number 4 .int 3 [.ref 0, .int lo, .int hi] (z_row D 0 (s_r0 ρ s.1 s.2 m c)) (z_eq s.1.2.2.2 (z_row D 0 (s_r0 ρ (m_num (D.1 8) t s lo hi).1 (m_num (D.1 8) t s lo hi).2 m c))) := by
  refine z_startI SM_ok (by decide +kernel) (fun v hv => by simp at hv; rcases hv with rfl | rfl | rfl <;> rfl) (Nat.le_of_ble_eq_true rfl) (fun X F hR => ?_)
  show z_J X SM 0 [some (.ref 0), some (.int lo), some (.int hi), none] [] (z_row D 0 (s_r0 ρ s.1 s.2 m c))
  refine z_aload0 F dX5_number_0 ?_
  refine z_getI F M_value fX5_247 dX5_number_1 ?_
  simp only [z_r16]
  refine z_istore3 F dX5_number_4 rfl ?_
  refine z_aload0 F dX5_number_5 ?_
  refine z_aload0 F dX5_number_6 ?_
  refine z_getI F M_sort fX5_250 dX5_number_7 ?_
  simp only [z_r15]
  refine z_iconst F 2 dX5_number_10 zv_i_2 ?_
  refine z_ic_ne F 27 dX5_number_11 (by decide) (fun h11 => ?_) (fun h11 => ?_)
  · refine z_iconst F 0 dX5_number_27 zv_i_0 ?_
    refine z_callVV1 F (c5_must D ρ s m c hρ ht hs false) kX5_267 (by decide) ocM (Nat.le_of_ble_eq_true rfl) rfl dX5_number_28 ?_
    refine z_iload3 F dX5_number_31 ?_
    refine hR _ _ _ _ dX5_number_32 rfl ?_
    exact ⟨rfl, by rw [m_num, decide_eq_false h11]; rfl⟩
  · refine z_iload3 F dX5_number_14 ?_
    refine z_iload1 F dX5_number_15 ?_
    refine z_iload2 F dX5_number_16 ?_
    refine z_callSI3 F (c5_within _ _ _ _) kX5_78 (by decide) (Nat.le_of_ble_eq_true rfl) rfl dX5_number_17 ?_
    refine z_ifb_eq F 27 dX5_number_20 (by decide) (fun h20 => ?_) (fun h20 => ?_)
    · refine z_iconst F 0 dX5_number_27 zv_i_0 ?_
      refine z_callVV1 F (c5_must D ρ s m c hρ ht hs false) kX5_267 (by decide) ocM (Nat.le_of_ble_eq_true rfl) rfl dX5_number_28 ?_
      refine z_iload3 F dX5_number_31 ?_
      refine hR _ _ _ _ dX5_number_32 rfl ?_
      exact ⟨rfl, by rw [m_num, h20, Bool.and_false]⟩
    · refine z_iconst F 1 dX5_number_23 zv_i_1 ?_
      refine z_goto F 28 dX5_number_24 (by decide) ?_
      refine z_callVV1 F (c5_must D ρ s m c hρ ht hs true) kX5_267 (by decide) ocM (Nat.le_of_ble_eq_true rfl) rfl dX5_number_28 ?_
      refine z_iload3 F dX5_number_31 ?_
      refine hR _ _ _ _ dX5_number_32 rfl ?_
      exact ⟨rfl, by rw [m_num, h20, decide_eq_true h11]; rfl⟩
set_option maxHeartbeats 1000000 in
set_option maxRecDepth 20000 in
theorem c5_isNext (D : zD) (ρ : Nat → Int32) (s : zRd) (m : Nat) (c : Int32) {t : Nat} (hρ : ρ 12 = nI t) (ht : t ≤ 120) (hs : t_ok t s.1) {i : Nat} (hi : i < 14) : z_CI SM zT yX5_isNext cX5_isNext 3 .boolean 5 [.ref 0, .ref (1000 + i)] (z_row D 0 (s_r0 ρ s.1 s.2 m c)) (z_eq (z_b (m_isn (D.1 8) s i)) (z_row D 0 (s_r0 ρ (m_next (D.1 8) t s i).1 (m_next (D.1 8) t s i).2 m c))) := by
  refine z_startI SM_ok (by decide +kernel) (fun v hv => by simp at hv; rcases hv with rfl | rfl <;> rfl) (Nat.le_of_ble_eq_true rfl) (fun X F hR => ?_)
  show z_J X SM 0 [some (.ref 0), some (.ref (1000 + i)), none] [] (z_row D 0 (s_r0 ρ s.1 s.2 m c))
  refine z_aload0 F dX5_isNext_0 ?_
  refine z_getI F M_isWrong fX5_260 dX5_isNext_1 ?_
  simp only [z_r17]
  refine z_if_ne F 19 dX5_isNext_4 (by decide) (fun h4 => ?_) (fun h4 => ?_)
  · refine z_iconst F 0 dX5_isNext_19 zv_i_0 ?_
    refine z_istore2 F dX5_isNext_20 rfl ?_
    refine z_iload2 F dX5_isNext_21 ?_
    refine z_if_eq F 30 dX5_isNext_22 (by decide) (fun h22 => ?_) (fun h22 => ?_)
    · refine z_iload2 F dX5_isNext_30 ?_
      refine hR _ _ _ _ dX5_isNext_31 rfl ?_
      have hf : (m_isn (D.1 8) s i) = false := by rw [m_isn, (z_bn _).mp h4, Bool.not_true, Bool.false_and]
      exact ⟨by rw [hf]; rfl, by rw [m_next, if_neg (by rw [hf]; decide)]⟩
    · exact absurd h22 (by decide)
  · refine z_aload0 F dX5_isNext_7 ?_
    refine z_aload1 F dX5_isNext_8 ?_
    refine z_callVI1 F (c5_isWord D ρ s m c hρ ht hs hi) kX5_274 (by decide) ocM (Nat.le_of_ble_eq_true rfl) rfl dX5_isNext_9 ?_
    refine z_ifb_eq F 19 dX5_isNext_12 (by decide) (fun h12 => ?_) (fun h12 => ?_)
    · refine z_iconst F 0 dX5_isNext_19 zv_i_0 ?_
      refine z_istore2 F dX5_isNext_20 rfl ?_
      refine z_iload2 F dX5_isNext_21 ?_
      refine z_if_eq F 30 dX5_isNext_22 (by decide) (fun h22 => ?_) (fun h22 => ?_)
      · refine z_iload2 F dX5_isNext_30 ?_
        refine hR _ _ _ _ dX5_isNext_31 rfl ?_
        have hf : (m_isn (D.1 8) s i) = false := by rw [m_isn, h12, Bool.and_false]
        exact ⟨by rw [hf]; rfl, by rw [m_next, if_neg (by rw [hf]; decide)]⟩
      · exact absurd h22 (by decide)
    · refine z_iconst F 1 dX5_isNext_15 zv_i_1 ?_
      refine z_goto F 20 dX5_isNext_16 (by decide) ?_
      refine z_istore2 F dX5_isNext_20 rfl ?_
      refine z_iload2 F dX5_isNext_21 ?_
      refine z_if_eq F 30 dX5_isNext_22 (by decide) (fun h22 => ?_) (fun h22 => ?_)
      · exact absurd h22 (by decide)
      · refine z_aload0 F dX5_isNext_25 ?_
        refine z_iconst F 1 dX5_isNext_26 zv_i_1 ?_
        refine z_callVV1 F (c5_must D ρ s m c hρ ht hs true) kX5_267 (by decide) ocM (Nat.le_of_ble_eq_true rfl) rfl dX5_isNext_27 ?_
        refine z_iload2 F dX5_isNext_30 ?_
        refine hR _ _ _ _ dX5_isNext_31 rfl ?_
        have hf : (m_isn (D.1 8) s i) = true := by rw [m_isn, (z_b0 _).mp h4, h12]; rfl
        exact ⟨by rw [hf]; rfl, by rw [m_next, if_pos hf, m_must, if_neg (by rw [(z_b0 _).mp h4]; decide)]⟩
set_option maxHeartbeats 1000000 in
set_option maxRecDepth 20000 in
theorem c5_item (D : zD) (ρ : Nat → Int32) (k : zTk) (w : Bool) (m : Nat) (c : Int32) (a1 a2 a3 a4 a5 : Int32) (hm : m ≤ 119) : z_CV SM zT yX5_item cX5_item 7 0 [.ref 0, .int a1, .int a2, .int a3, .int a4, .int a5] (z_row D 0 (s_r0 ρ k w m c)) (z_eqV (z_row (z_row D 11 (s_item (D.1 11) m (a1, a2, a3, a4, a5))) 0 (s_r0 ρ k w (m + 1) c))) := by
  refine z_startV SM_ok (by decide +kernel) (fun v hv => by simp at hv; rcases hv with rfl | rfl | rfl | rfl | rfl | rfl <;> rfl) (Nat.le_of_ble_eq_true rfl) (fun X F hR => ?_)
  show z_J X SM 0 [some (.ref 0), some (.int a1), some (.int a2), some (.int a3), some (.int a4), some (.int a5), none] [] (z_row D 0 (s_r0 ρ k w m c))
  refine z_iconst F 5 dX5_item_0 zv_i_5 ?_
  refine z_aload0 F dX5_item_1 ?_
  refine z_getI F M_itemMany fX5_271 dX5_item_2 ?_
  simp only [z_r21]
  refine z_imul F dX5_item_5 ?_
  refine z_istore6 F dX5_item_6 rfl ?_
  refine z_aload0 F dX5_item_8 ?_
  refine z_getR F M_items fX5_58 dX5_item_9 ?_
  refine z_iload6 F dX5_item_12 ?_
  refine z_iload1 F dX5_item_14 ?_
  refine z_iast F aM_items (5 * m) (by rw [show (5 : Int32) = nI 5 from rfl, pk_mul]) (by omega) dX5_item_15 ?_
  rw [z_11]
  refine z_aload0 F dX5_item_16 ?_
  refine z_getR F M_items fX5_58 dX5_item_17 ?_
  refine z_iload6 F dX5_item_20 ?_
  refine z_iconst F 1 dX5_item_22 zv_i_1 ?_
  refine z_iadd F dX5_item_23 ?_
  refine z_iload2 F dX5_item_24 ?_
  refine z_iast F aM_items (5 * m + 1) (by rw [show (5 : Int32) = nI 5 from rfl, pk_mul]; exact nI_add _ _) (by omega) dX5_item_25 ?_
  rw [z_11]
  refine z_aload0 F dX5_item_26 ?_
  refine z_getR F M_items fX5_58 dX5_item_27 ?_
  refine z_iload6 F dX5_item_30 ?_
  refine z_iconst F 2 dX5_item_32 zv_i_2 ?_
  refine z_iadd F dX5_item_33 ?_
  refine z_iload3 F dX5_item_34 ?_
  refine z_iast F aM_items (5 * m + 2) (by rw [show (5 : Int32) = nI 5 from rfl, pk_mul]; exact nI_add _ _) (by omega) dX5_item_35 ?_
  rw [z_11]
  refine z_aload0 F dX5_item_36 ?_
  refine z_getR F M_items fX5_58 dX5_item_37 ?_
  refine z_iload6 F dX5_item_40 ?_
  refine z_iconst F 3 dX5_item_42 zv_i_3 ?_
  refine z_iadd F dX5_item_43 ?_
  refine z_iload4 F dX5_item_44 ?_
  refine z_iast F aM_items (5 * m + 3) (by rw [show (5 : Int32) = nI 5 from rfl, pk_mul]; exact nI_add _ _) (by omega) dX5_item_46 ?_
  rw [z_11]
  refine z_aload0 F dX5_item_47 ?_
  refine z_getR F M_items fX5_58 dX5_item_48 ?_
  refine z_iload6 F dX5_item_51 ?_
  refine z_iconst F 4 dX5_item_53 zv_i_4 ?_
  refine z_iadd F dX5_item_54 ?_
  refine z_iload5 F dX5_item_55 ?_
  refine z_iast F aM_items (5 * m + 4) (by rw [show (5 : Int32) = nI 5 from rfl, pk_mul]; exact nI_add _ _) (by omega) dX5_item_57 ?_
  rw [z_11]
  refine z_aload0 F dX5_item_58 ?_
  refine z_dup F dX5_item_59 rfl ?_
  refine z_getI F M_itemMany fX5_271 dX5_item_60 ?_
  simp only [z_r21]
  refine z_iconst F 1 dX5_item_63 zv_i_1 ?_
  refine z_iadd F dX5_item_64 ?_
  refine z_putI F M_itemMany fX5_271 rfl rfl dX5_item_65 ?_
  rw [← nI_succ, z_p21']
  refine hR _ _ _ dX5_item_68 ?_
  show _ = _
  rw [s_item]
  simp only [z_up_row, z_row_row, z_rowr]
theorem z_SMs : ∀ j, j < 7 → SMs j = 1000 + m_kix j ∧ m_kix j < 14 := by decide
set_option maxHeartbeats 1000000 in
set_option maxRecDepth 20000 in
theorem c5_kindTold (D : zD) (ρ : Nat → Int32) (s : zRd) (m : Nat) (c : Int32) {t : Nat} (hρ : ρ 12 = nI t) (ht : t ≤ 120) (hs : t_ok t s.1) (hko : ∀ j, j < 7 → D.1 10 j = [0, 1, 2, 5, 3, 4, 6].getD j 0) : z_CI SM zT yX5_kindTold cX5_kindTold 3 .int 5 [.ref 0] (z_row D 0 (s_r0 ρ s.1 s.2 m c)) (z_eq (m_kd (D.1 8) s.1 7) (z_row D 0 (s_r0 ρ s.1 s.2 m c))) := by
  refine z_startI SM_ok (by decide +kernel) (fun v hv => by simp at hv; subst hv; rfl) (Nat.le_of_ble_eq_true rfl) (fun X F hR => ?_)
  show z_J X SM 0 [some (.ref 0), none, none] [] (z_row D 0 (s_r0 ρ s.1 s.2 m c))
  refine z_iconst F (-1) dX5_kindTold_0 zv_i_m1 ?_
  refine z_istore1 F dX5_kindTold_1 rfl ?_
  refine z_iconst F 0 dX5_kindTold_2 zv_i_0 ?_
  refine z_istore2 F dX5_kindTold_3 rfl ?_
  have loop : ∀ (n j : Nat), j + n = 7 → z_J X SM 4 [some (.ref 0), some (.int (m_kd (D.1 8) s.1 j)), some (.int (nI j))] [] (z_row D 0 (s_r0 ρ s.1 s.2 m c)) := by
    intro n
    induction n with
    | zero =>
      intro j hn 
      refine z_iload2 F dX5_kindTold_4 ?_
      refine z_aload0 F dX5_kindTold_5 ?_
      refine z_getR F M_kinds fX5_51 dX5_kindTold_6 ?_
      refine z_alen F aM_kinds dX5_kindTold_9 ?_
      refine z_ic_ge F 43 dX5_kindTold_10 (by decide) (fun h10 => ?_) (fun h10 => ?_)
      · refine z_iload1 F dX5_kindTold_43 ?_
        refine hR _ _ _ _ dX5_kindTold_44 rfl ?_
        exact ⟨by rw [show j = 7 by omega], rfl⟩
      · exact absurd (nI_le (by omega) (by omega)) h10
    | succ n ih =>
      intro j hn 
      refine z_iload2 F dX5_kindTold_4 ?_
      refine z_aload0 F dX5_kindTold_5 ?_
      refine z_getR F M_kinds fX5_51 dX5_kindTold_6 ?_
      refine z_alen F aM_kinds dX5_kindTold_9 ?_
      refine z_ic_ge F 43 dX5_kindTold_10 (by decide) (fun h10 => ?_) (fun h10 => ?_)
      · exact absurd h10 (nI_ge (by omega) (by omega))
      · refine z_aload0 F dX5_kindTold_13 ?_
        refine z_aload0 F dX5_kindTold_14 ?_
        refine z_getR F M_kinds fX5_51 dX5_kindTold_15 ?_
        refine z_iload2 F dX5_kindTold_18 ?_
        refine z_aald F aM_kinds (Or.inr (Or.inr rfl)) (j) rfl (by omega) dX5_kindTold_19 ?_
        have hS := z_SMs j (by omega)
        rw [hS.1]
        refine z_callVI1 F (c5_isWord D ρ s m c hρ ht hs hS.2) kX5_274 (by decide) ocM (Nat.le_of_ble_eq_true rfl) rfl dX5_kindTold_20 ?_
        refine z_ifb_eq F 35 dX5_kindTold_23 (by decide) (fun h23 => ?_) (fun h23 => ?_)
        · refine z_iload1 F dX5_kindTold_35 ?_
          refine z_istore1 F dX5_kindTold_36 rfl ?_
          refine z_iinc2 F 1 dX5_kindTold_37 rfl zv_i_1 ?_
          refine z_goto F 4 dX5_kindTold_40 (by decide) ?_
          have h := ih (j + 1) (by omega)
          rw [show nI (j + 1) = nI j + 1 from nI_succ j, m_kd] at h
          simp only [h23, Bool.false_eq_true, if_true, if_false, Bool.and_true, Bool.true_and, Bool.and_false, Bool.false_and, Bool.and_self, and_self] at h
          exact h
        · refine z_aload0 F dX5_kindTold_26 ?_
          refine z_getR F M_kindOf fX5_55 dX5_kindTold_27 ?_
          refine z_iload2 F dX5_kindTold_30 ?_
          refine z_iald F aM_kindOf (j) rfl (by omega) dX5_kindTold_31 ?_
          rw [z_rowo _ _ (by decide), hko j (by omega)]
          refine z_goto F 36 dX5_kindTold_32 (by decide) ?_
          refine z_istore1 F dX5_kindTold_36 rfl ?_
          refine z_iinc2 F 1 dX5_kindTold_37 rfl zv_i_1 ?_
          refine z_goto F 4 dX5_kindTold_40 (by decide) ?_
          have h := ih (j + 1) (by omega)
          rw [show nI (j + 1) = nI j + 1 from nI_succ j, m_kd] at h
          simp only [h23, Bool.false_eq_true, if_true, if_false, Bool.and_true, Bool.true_and, Bool.and_false, Bool.false_and, Bool.and_self, and_self] at h
          exact h
  exact loop 7 0 (by omega)
theorem m_num_ok {τ : Nat → Int32} {t : Nat} {s : zRd} {lo hi : Int32} (h : t_ok t s.1) : t_ok t (m_num τ t s lo hi).1 ∧ s.1.1 ≤ (m_num τ t s lo hi).1.1 := m_must_ok h
theorem m_kix_lt : ∀ j, m_kix j < 14 := fun j => by
  unfold m_kix
  rcases (show j = 0 ∨ j = 1 ∨ j = 2 ∨ j = 3 ∨ j = 4 ∨ j = 5 ∨ j = 6 ∨ 7 ≤ j by omega) with rfl | rfl | rfl | rfl | rfl | rfl | rfl | h
  all_goals first | decide | (rw [List.getD_eq_getElem?_getD, List.getElem?_eq_none (by simpa using h)]; decide)
set_option maxHeartbeats 1000000 in
set_option maxRecDepth 20000 in
theorem c5_readItem (D : zD) (ρ : Nat → Int32) (s : zRd) (m : Nat) (c : Int32) {t : Nat} (hρ : ρ 12 = nI t) (ht : t ≤ 120) (hs : t_ok t s.1) (hko : ∀ j, j < 7 → D.1 10 j = [0, 1, 2, 5, 3, 4, 6].getD j 0) (hm : m ≤ 119) : z_CV SM zT yX5_readItem cX5_readItem 5 6 [.ref 0] (z_row D 0 (s_r0 ρ s.1 s.2 m c)) (z_eqV (z_row (z_row D 11 (s_item (D.1 11) m (m_read (D.1 8) t s c).1)) 0 (s_r0 ρ (m_read (D.1 8) t s c).2.1 (m_read (D.1 8) t s c).2.2 (m + 1) (m_then (D.1 8) s c)))) := by
  refine z_startV SM_ok (by decide +kernel) (fun v hv => by simp at hv; subst hv; rfl) (Nat.le_of_ble_eq_true rfl) (fun X F hR => ?_)
  show z_J X SM 0 [some (.ref 0), none, none, none, none] [] (z_row D 0 (s_r0 ρ s.1 s.2 m c))
  refine z_aload0 F dX5_readItem_0 ?_
  refine z_callVI0 F (c5_kindTold D ρ s m c hρ ht hs hko) kX5_278 (by decide) ocM (Nat.le_of_ble_eq_true rfl) rfl dX5_readItem_1 ?_
  refine z_istore1 F dX5_readItem_4 rfl ?_
  refine z_iload1 F dX5_readItem_5 ?_
  refine z_if_lt F 134 dX5_readItem_6 (by decide) (fun h6 => ?_) (fun h6 => ?_)
  · refine z_aload0 F dX5_readItem_134 ?_
    refine z_ldcwS F sT_25 dX5_readItem_135 ?_
    refine z_callVI1 F (c5_isNext D ρ s m c hρ ht hs (i := 0) (by decide)) kX5_286 (by decide) ocM (Nat.le_of_ble_eq_true rfl) rfl dX5_readItem_138 ?_
    refine z_ifb_eq F 163 dX5_readItem_141 (by decide) (fun h141 => ?_) (fun h141 => ?_)
    · have e0 : (m_next (D.1 8) t s 0) = s := by rw [m_next, if_neg (by rw [h141]; decide)]
      rw [e0]
      have hg1 := m_must_ok (τ := D.1 8) (is := s_isw (D.1 8) s.1 1) hs
      have hg2 := m_num_ok (τ := D.1 8) (lo := 0) (hi := 99) hg1.1
      have hg3 := m_must_ok (τ := D.1 8) (is := s_isw (D.1 8) (m_num (D.1 8) t (m_must (D.1 8) t s (s_isw (D.1 8) s.1 1)) 0 99).1 2) hg2.1
      refine z_aload0 F dX5_readItem_163 ?_
      refine z_aload0 F dX5_readItem_164 ?_
      refine z_ldcwS F sT_26 dX5_readItem_165 ?_
      refine z_callVI1 F (c5_isWord D ρ s m c hρ ht hs (i := 1) (by decide)) kX5_274 (by decide) ocM (Nat.le_of_ble_eq_true rfl) rfl dX5_readItem_168 ?_
      refine z_callVV1 F (c5_must D ρ s m c hρ ht hs _) kX5_267 (by decide) ocM (Nat.le_of_ble_eq_true rfl) rfl dX5_readItem_171 ?_
      refine z_aload0 F dX5_readItem_174 ?_
      refine z_iconst F 0 dX5_readItem_175 zv_i_0 ?_
      refine z_bipush F 99 dX5_readItem_176 zv_b_99 ?_
      refine z_callVI2 F (c5_number D ρ (m_must (D.1 8) t s (s_isw (D.1 8) s.1 1)) m c hρ ht hg1.1 0 99) kX5_289 (by decide) ocM (Nat.le_of_ble_eq_true rfl) rfl dX5_readItem_178 ?_
      refine z_istore2 F dX5_readItem_181 rfl ?_
      refine z_aload0 F dX5_readItem_182 ?_
      refine z_aload0 F dX5_readItem_183 ?_
      refine z_ldcwS F sT_27 dX5_readItem_184 ?_
      refine z_callVI1 F (c5_isWord D ρ (m_num (D.1 8) t (m_must (D.1 8) t s (s_isw (D.1 8) s.1 1)) 0 99) m c hρ ht hg2.1 (i := 2) (by decide)) kX5_274 (by decide) ocM (Nat.le_of_ble_eq_true rfl) rfl dX5_readItem_187 ?_
      refine z_callVV1 F (c5_must D ρ (m_num (D.1 8) t (m_must (D.1 8) t s (s_isw (D.1 8) s.1 1)) 0 99) m c hρ ht hg2.1 _) kX5_267 (by decide) ocM (Nat.le_of_ble_eq_true rfl) rfl dX5_readItem_190 ?_
      refine z_aload0 F dX5_readItem_193 ?_
      refine z_bipush F 11 dX5_readItem_194 zv_b_11 ?_
      refine z_iload2 F dX5_readItem_196 ?_
      refine z_aload0 F dX5_readItem_197 ?_
      refine z_iconst F 0 dX5_readItem_198 zv_i_0 ?_
      refine z_bipush F 7 dX5_readItem_199 zv_b_7 ?_
      refine z_callVI2 F (c5_number D ρ (m_must (D.1 8) t (m_num (D.1 8) t (m_must (D.1 8) t s (s_isw (D.1 8) s.1 1)) 0 99) (s_isw (D.1 8) (m_num (D.1 8) t (m_must (D.1 8) t s (s_isw (D.1 8) s.1 1)) 0 99).1 2)) m c hρ ht hg3.1 0 7) kX5_289 (by decide) ocM (Nat.le_of_ble_eq_true rfl) rfl dX5_readItem_201 ?_
      refine z_iconst F 0 dX5_readItem_204 zv_i_0 ?_
      refine z_iconst F 0 dX5_readItem_205 zv_i_0 ?_
      refine z_callVV5 F (c5_item D ρ (m_num (D.1 8) t (m_must (D.1 8) t (m_num (D.1 8) t (m_must (D.1 8) t s (s_isw (D.1 8) s.1 1)) 0 99) (s_isw (D.1 8) (m_num (D.1 8) t (m_must (D.1 8) t s (s_isw (D.1 8) s.1 1)) 0 99).1 2)) 0 7).1 (m_num (D.1 8) t (m_must (D.1 8) t (m_num (D.1 8) t (m_must (D.1 8) t s (s_isw (D.1 8) s.1 1)) 0 99) (s_isw (D.1 8) (m_num (D.1 8) t (m_must (D.1 8) t s (s_isw (D.1 8) s.1 1)) 0 99).1 2)) 0 7).2 m c 11 (m_must (D.1 8) t s (s_isw (D.1 8) s.1 1)).1.2.2.2 (m_must (D.1 8) t (m_num (D.1 8) t (m_must (D.1 8) t s (s_isw (D.1 8) s.1 1)) 0 99) (s_isw (D.1 8) (m_num (D.1 8) t (m_must (D.1 8) t s (s_isw (D.1 8) s.1 1)) 0 99).1 2)).1.2.2.2 0 0 hm) kX5_298 (by decide) ocM (Nat.le_of_ble_eq_true rfl) rfl dX5_readItem_206 ?_
      refine hR _ _ _ dX5_readItem_209 ?_
      show _ = _
      rw [m_read, m_then, if_pos h6, if_pos h6, if_neg (by rw [h141]; decide), m_gap]
    · refine z_aload0 F dX5_readItem_144 ?_
      refine z_bipush F 10 dX5_readItem_145 zv_b_10 ?_
      refine z_aload0 F dX5_readItem_147 ?_
      refine z_iconst F 0 dX5_readItem_148 zv_i_0 ?_
      refine z_bipush F 99 dX5_readItem_149 zv_b_99 ?_
      refine z_callVI2 F (c5_number D ρ (m_next (D.1 8) t s 0) m c hρ ht (m_next_ok (τ := D.1 8) hs).1 0 99) kX5_289 (by decide) ocM (Nat.le_of_ble_eq_true rfl) rfl dX5_readItem_151 ?_
      refine z_iconst F 0 dX5_readItem_154 zv_i_0 ?_
      refine z_iconst F 0 dX5_readItem_155 zv_i_0 ?_
      refine z_iconst F 0 dX5_readItem_156 zv_i_0 ?_
      refine z_callVV5 F (c5_item D ρ (m_num (D.1 8) t (m_next (D.1 8) t s 0) 0 99).1 (m_num (D.1 8) t (m_next (D.1 8) t s 0) 0 99).2 m c 10 (m_next (D.1 8) t s 0).1.2.2.2 0 0 0 hm) kX5_298 (by decide) ocM (Nat.le_of_ble_eq_true rfl) rfl dX5_readItem_157 ?_
      refine z_goto F 209 dX5_readItem_160 (by decide) ?_
      refine hR _ _ _ dX5_readItem_209 ?_
      show _ = _
      rw [m_read, m_then, if_pos h6, if_pos h6, if_pos h141, m_hole]
  · obtain ⟨p1, hp1⟩ : ∃ p1, p1 = m_part (D.1 8) t (m_must (D.1 8) t s (decide (c < 10))) 10 1 40 8 := ⟨_, rfl⟩
    obtain ⟨p2, hp2⟩ : ∃ p2, p2 = m_part (D.1 8) t p1.2 11 1 50 5 := ⟨_, rfl⟩
    obtain ⟨p3, hp3⟩ : ∃ p3, p3 = m_part (D.1 8) t p2.2 12 0 240 6 := ⟨_, rfl⟩
    have hs0 := m_must_ok (τ := D.1 8) (is := decide (c < 10)) hs
    have hs1 : t_ok t p1.2.1 := by rw [hp1]; exact (m_part_ok hs0.1).1
    have hs2 : t_ok t p2.2.1 := by rw [hp2]; exact (m_part_ok hs1).1
    have hs3 : t_ok t p3.2.1 := by rw [hp3]; exact (m_part_ok hs2).1
    have c105 : z_J X SM 107 [some (.ref 0), some (.int (m_kd (D.1 8) s.1 7)), some (.int p1.1), some (.int p2.1), some (.int p3.1)] [] (z_row D 0 (s_r0 ρ p3.2.1 p3.2.2 m (c + 1))) := by
      refine z_aload0 F dX5_readItem_107 ?_
      refine z_iload1 F dX5_readItem_108 ?_
      refine z_iload2 F dX5_readItem_109 ?_
      refine z_iload3 F dX5_readItem_110 ?_
      refine z_iload4 F dX5_readItem_111 ?_
      refine z_aload0 F dX5_readItem_113 ?_
      refine z_ldcwS F sT_24 dX5_readItem_114 ?_
      refine z_callVI1 F (c5_isNext D ρ p3.2 m (c + 1) hρ ht hs3 (i := 13) (by decide)) kX5_286 (by decide) ocM (Nat.le_of_ble_eq_true rfl) rfl dX5_readItem_117 ?_
      refine z_ifb_eq F 127 dX5_readItem_120 (by decide) (fun h120 => ?_) (fun h120 => ?_)
      · refine z_iconst F 0 dX5_readItem_127 zv_i_0 ?_
        refine z_callVV5 F (c5_item D ρ (m_next (D.1 8) t p3.2 13).1 (m_next (D.1 8) t p3.2 13).2 m (c + 1) (m_kd (D.1 8) s.1 7) p1.1 p2.1 p3.1 0 hm) kX5_298 (by decide) ocM (Nat.le_of_ble_eq_true rfl) rfl dX5_readItem_128 ?_
        refine z_goto F 209 dX5_readItem_131 (by decide) ?_
        refine hR _ _ _ dX5_readItem_209 ?_
        have e : m_coin (D.1 8) t s (m_kd (D.1 8) s.1 7) c = (((m_kd (D.1 8) s.1 7), p1.1, p2.1, p3.1, 0), m_next (D.1 8) t p3.2 13) := by
          rw [m_coin, ← hp1, ← hp2, ← hp3, if_neg (by rw [h120]; decide)]
        show _ = _
        rw [m_read, m_then, if_neg h6, if_neg h6, e]
      · refine z_iconst F 3 dX5_readItem_123 zv_i_3 ?_
        refine z_goto F 128 dX5_readItem_124 (by decide) ?_
        refine z_callVV5 F (c5_item D ρ (m_next (D.1 8) t p3.2 13).1 (m_next (D.1 8) t p3.2 13).2 m (c + 1) (m_kd (D.1 8) s.1 7) p1.1 p2.1 p3.1 3 hm) kX5_298 (by decide) ocM (Nat.le_of_ble_eq_true rfl) rfl dX5_readItem_128 ?_
        refine z_goto F 209 dX5_readItem_131 (by decide) ?_
        refine hR _ _ _ dX5_readItem_209 ?_
        have e : m_coin (D.1 8) t s (m_kd (D.1 8) s.1 7) c = (((m_kd (D.1 8) s.1 7), p1.1, p2.1, p3.1, 3), m_next (D.1 8) t p3.2 13) := by
          rw [m_coin, ← hp1, ← hp2, ← hp3, if_pos h120]
        show _ = _
        rw [m_read, m_then, if_neg h6, if_neg h6, e]
    have c81 : z_J X SM 82 [some (.ref 0), some (.int (m_kd (D.1 8) s.1 7)), some (.int p1.1), some (.int p2.1), none] [] (z_row D 0 (s_r0 ρ p2.2.1 p2.2.2 m (c + 1))) := by
      refine z_aload0 F dX5_readItem_82 ?_
      refine z_ldcwS F sT_23 dX5_readItem_83 ?_
      refine z_callVI1 F (c5_isNext D ρ p2.2 m (c + 1) hρ ht hs2 (i := 12) (by decide)) kX5_286 (by decide) ocM (Nat.le_of_ble_eq_true rfl) rfl dX5_readItem_86 ?_
      refine z_ifb_eq F 103 dX5_readItem_89 (by decide) (fun h89 => ?_) (fun h89 => ?_)
      · refine z_bipush F 6 dX5_readItem_103 zv_b_6 ?_
        rw [show (6 : Int32) = p3.1 from by rw [hp3, m_part, if_neg (by rw [h89]; decide)], show (m_next (D.1 8) t p2.2 12) = p3.2 from by rw [hp3, m_part, m_next, if_neg (by rw [h89]; decide), if_neg (by rw [h89]; decide)]]
        refine z_istore4 F dX5_readItem_105 rfl ?_
        exact c105
      · refine z_aload0 F dX5_readItem_92 ?_
        refine z_iconst F 0 dX5_readItem_93 zv_i_0 ?_
        refine z_sipush F 240 dX5_readItem_94 zv_s_240 ?_
        refine z_callVI2 F (c5_number D ρ (m_next (D.1 8) t p2.2 12) m (c + 1) hρ ht (m_next_ok (τ := D.1 8) hs2).1 0 240) kX5_289 (by decide) ocM (Nat.le_of_ble_eq_true rfl) rfl dX5_readItem_97 ?_
        refine z_goto F 105 dX5_readItem_100 (by decide) ?_
        rw [show (m_next (D.1 8) t p2.2 12).1.2.2.2 = p3.1 from by rw [hp3, m_part, if_pos h89], show m_num (D.1 8) t (m_next (D.1 8) t p2.2 12) 0 240 = p3.2 from by rw [hp3, m_part, if_pos h89]]
        refine z_istore4 F dX5_readItem_105 rfl ?_
        exact c105
    have c59 : z_J X SM 60 [some (.ref 0), some (.int (m_kd (D.1 8) s.1 7)), some (.int p1.1), none, none] [] (z_row D 0 (s_r0 ρ p1.2.1 p1.2.2 m (c + 1))) := by
      refine z_aload0 F dX5_readItem_60 ?_
      refine z_ldcwS F sT_22 dX5_readItem_61 ?_
      refine z_callVI1 F (c5_isNext D ρ p1.2 m (c + 1) hρ ht hs1 (i := 11) (by decide)) kX5_286 (by decide) ocM (Nat.le_of_ble_eq_true rfl) rfl dX5_readItem_64 ?_
      refine z_ifb_eq F 80 dX5_readItem_67 (by decide) (fun h67 => ?_) (fun h67 => ?_)
      · refine z_iconst F 5 dX5_readItem_80 zv_i_5 ?_
        rw [show (5 : Int32) = p2.1 from by rw [hp2, m_part, if_neg (by rw [h67]; decide)], show (m_next (D.1 8) t p1.2 11) = p2.2 from by rw [hp2, m_part, m_next, if_neg (by rw [h67]; decide), if_neg (by rw [h67]; decide)]]
        refine z_istore3 F dX5_readItem_81 rfl ?_
        exact c81
      · refine z_aload0 F dX5_readItem_70 ?_
        refine z_iconst F 1 dX5_readItem_71 zv_i_1 ?_
        refine z_bipush F 50 dX5_readItem_72 zv_b_50 ?_
        refine z_callVI2 F (c5_number D ρ (m_next (D.1 8) t p1.2 11) m (c + 1) hρ ht (m_next_ok (τ := D.1 8) hs1).1 1 50) kX5_289 (by decide) ocM (Nat.le_of_ble_eq_true rfl) rfl dX5_readItem_74 ?_
        refine z_goto F 81 dX5_readItem_77 (by decide) ?_
        rw [show (m_next (D.1 8) t p1.2 11).1.2.2.2 = p2.1 from by rw [hp2, m_part, if_pos h67], show m_num (D.1 8) t (m_next (D.1 8) t p1.2 11) 1 50 = p2.2 from by rw [hp2, m_part, if_pos h67]]
        refine z_istore3 F dX5_readItem_81 rfl ?_
        exact c81
    have c37 : z_J X SM 37 [some (.ref 0), some (.int (m_kd (D.1 8) s.1 7)), none, none, none] [] (z_row D 0 (s_r0 ρ (m_must (D.1 8) t s (decide (c < 10))).1 (m_must (D.1 8) t s (decide (c < 10))).2 m (c + 1))) := by
      refine z_aload0 F dX5_readItem_37 ?_
      refine z_ldcwS F sT_21 dX5_readItem_38 ?_
      refine z_callVI1 F (c5_isNext D ρ (m_must (D.1 8) t s (decide (c < 10))) m (c + 1) hρ ht hs0.1 (i := 10) (by decide)) kX5_286 (by decide) ocM (Nat.le_of_ble_eq_true rfl) rfl dX5_readItem_41 ?_
      refine z_ifb_eq F 57 dX5_readItem_44 (by decide) (fun h44 => ?_) (fun h44 => ?_)
      · refine z_bipush F 8 dX5_readItem_57 zv_b_8 ?_
        rw [show (8 : Int32) = p1.1 from by rw [hp1, m_part, if_neg (by rw [h44]; decide)], show (m_next (D.1 8) t (m_must (D.1 8) t s (decide (c < 10))) 10) = p1.2 from by rw [hp1, m_part, m_next, if_neg (by rw [h44]; decide), if_neg (by rw [h44]; decide)]]
        refine z_istore2 F dX5_readItem_59 rfl ?_
        exact c59
      · refine z_aload0 F dX5_readItem_47 ?_
        refine z_iconst F 1 dX5_readItem_48 zv_i_1 ?_
        refine z_bipush F 40 dX5_readItem_49 zv_b_40 ?_
        refine z_callVI2 F (c5_number D ρ (m_next (D.1 8) t (m_must (D.1 8) t s (decide (c < 10))) 10) m (c + 1) hρ ht (m_next_ok (τ := D.1 8) hs0.1).1 1 40) kX5_289 (by decide) ocM (Nat.le_of_ble_eq_true rfl) rfl dX5_readItem_51 ?_
        refine z_goto F 59 dX5_readItem_54 (by decide) ?_
        rw [show (m_next (D.1 8) t (m_must (D.1 8) t s (decide (c < 10))) 10).1.2.2.2 = p1.1 from by rw [hp1, m_part, if_pos h44], show m_num (D.1 8) t (m_next (D.1 8) t (m_must (D.1 8) t s (decide (c < 10))) 10) 1 40 = p1.2 from by rw [hp1, m_part, if_pos h44]]
        refine z_istore2 F dX5_readItem_59 rfl ?_
        exact c59
    refine z_aload0 F dX5_readItem_9 ?_
    refine z_aload0 F dX5_readItem_10 ?_
    refine z_getI F M_coinThen fX5_281 dX5_readItem_11 ?_
    simp only [z_r22]
    refine z_bipush F 10 dX5_readItem_14 zv_b_10 ?_
    refine z_ic_ge F 23 dX5_readItem_16 (by decide) (fun h16 => ?_) (fun h16 => ?_)
    · refine z_iconst F 0 dX5_readItem_23 zv_i_0 ?_
      refine z_callVV1 F (c5_must D ρ s m c hρ ht hs false) kX5_267 (by decide) ocM (Nat.le_of_ble_eq_true rfl) rfl dX5_readItem_24 ?_
      refine z_aload0 F dX5_readItem_27 ?_
      refine z_dup F dX5_readItem_28 rfl ?_
      refine z_getI F M_coinThen fX5_281 dX5_readItem_29 ?_
      simp only [z_r22]
      refine z_iconst F 1 dX5_readItem_32 zv_i_1 ?_
      refine z_iadd F dX5_readItem_33 ?_
      refine z_putI F M_coinThen fX5_281 rfl rfl dX5_readItem_34 ?_
      rw [z_p22']
      rw [show (false : Bool) = decide (c < 10) from (decide_eq_false (Int32.not_lt.mpr h16)).symm]
      exact c37
    · refine z_iconst F 1 dX5_readItem_19 zv_i_1 ?_
      refine z_goto F 24 dX5_readItem_20 (by decide) ?_
      refine z_callVV1 F (c5_must D ρ s m c hρ ht hs true) kX5_267 (by decide) ocM (Nat.le_of_ble_eq_true rfl) rfl dX5_readItem_24 ?_
      refine z_aload0 F dX5_readItem_27 ?_
      refine z_dup F dX5_readItem_28 rfl ?_
      refine z_getI F M_coinThen fX5_281 dX5_readItem_29 ?_
      simp only [z_r22]
      refine z_iconst F 1 dX5_readItem_32 zv_i_1 ?_
      refine z_iadd F dX5_readItem_33 ?_
      refine z_putI F M_coinThen fX5_281 rfl rfl dX5_readItem_34 ?_
      rw [z_p22']
      rw [show (true : Bool) = decide (c < 10) from (decide_eq_true (Int32.not_le.mp h16)).symm]
      exact c37
