theorem z_sm_text (D : zD) (T : Nat → Int32) (kk : zTk) : z_sm (z_up D 0 12 0) (z_row (z_row D 2 T) 0 (upd (s_q0 (D.1 0) kk) 12 0)) := by
  have n : ∀ k, k ≠ 0 → k ≠ 2 → (z_row (z_row D 2 T) 0 (upd (s_q0 (D.1 0) kk) 12 0)).1 k = (z_up D 0 12 0).1 k := fun k h0 h2 => by rw [z_rowo _ _ h0, z_rowo _ _ h2, z_upo _ _ _ h0]
  refine ⟨n _ (by decide) (by decide), n _ (by decide) (by decide), n _ (by decide) (by decide), n _ (by decide) (by decide), n _ (by decide) (by decide), n _ (by decide) (by decide), n _ (by decide) (by decide), n _ (by decide) (by decide), n _ (by decide) (by decide), n _ (by decide) (by decide), ?_, ?_⟩
  · rw [z_rowr, z_upr, u_ne _ _ (by decide), u_ne _ _ (by decide)]; rfl
  · rw [z_rowr, z_upr, u_eq, u_eq]
theorem z_sm_1 {D E : zD} (R : Nat → Int32) (h : z_sm D E) : z_sm (z_row D 1 R) (z_row E 1 R) := by
  obtain ⟨h1, h2, h3, h4, h5, h6, h7, h8, h9, h10, h11, h12⟩ := h
  have n : ∀ (F : zD) k, k ≠ 1 → (z_row F 1 R).1 k = F.1 k := fun F k hk => z_rowo F R hk
  refine ⟨by rw [z_rowr, z_rowr], ?_, ?_, ?_, ?_, ?_, ?_, ?_, ?_, ?_, ?_, ?_⟩ <;> rw [n _ _ (by decide), n _ _ (by decide)] <;> assumption
set_option maxHeartbeats 1000000 in
set_option maxRecDepth 20000 in
theorem c4_text (D : zD) {N : Nat} (hN : D.1 1 4 = nI N) (h10 : N ≤ 10) {t : Nat} (ht : D.1 0 12 = nI t) (ht120 : t ≤ 120) (hby : s_by (D.1 8) t) (ω : Nat → Int32) : z_CI SX zT yX4_text cX4_text 2 .int 9 [.ref 0] D (fun r E => r = (if (m_must (D.1 8) t (m_all (D.1 8) t (nI N) ω).1 (decide ((m_all (D.1 8) t (nI N) ω).1.1.2.2.1 = 0))).2 = true then -1 - nI (m_must (D.1 8) t (m_all (D.1 8) t (nI N) ω).1 (decide ((m_all (D.1 8) t (nI N) ω).1.1.2.2.1 = 0))).1.1 else nI (m_all (D.1 8) t (nI N) ω).2.2.2) ∧ ((m_must (D.1 8) t (m_all (D.1 8) t (nI N) ω).1 (decide ((m_all (D.1 8) t (nI N) ω).1.1.2.2.1 = 0))).2 = true → z_sm (z_up D 0 12 0) E) ∧ ((m_must (D.1 8) t (m_all (D.1 8) t (nI N) ω).1 (decide ((m_all (D.1 8) t (nI N) ω).1.1.2.2.1 = 0))).2 = false → ∃ R N2, N2 ≤ 10 ∧ R 4 = nI N2 ∧ ag N2 R (s_sos (D.1 1) (m_all (D.1 8) t (nI N) ω).2.2.1 (m_all (D.1 8) t (nI N) ω).2.2.2) ∧ z_sm (z_row (z_up D 0 12 0) 1 R) E)) := by
  refine z_startI SX_ok (by decide +kernel) (fun v hv => by simp at hv; subst hv; rfl) (Nat.le_of_ble_eq_true rfl) (fun X F hR => ?_)
  show z_J X SX 0 [some (.ref 0), none] [] D
  refine z_aload0 F dX4_text_0 ?_
  refine z_getR F PH_trial fX4_16 dX4_text_1 ?_
  refine z_aload0 F dX4_text_4 ?_
  refine z_getR F PH_coat fX4_10 dX4_text_5 ?_
  refine z_callVV1 F (by have h := c4_tbec2 D (D.1 2) hN h10; rw [z_row_eq] at h; exact h) kX4_135 (by decide) (ocC z_r2) (Nat.le_of_ble_eq_true rfl) rfl dX4_text_8 ?_
  have hz : z_row (z_row D 2 (s_bec (D.1 1) (D.1 2) N)) 0 (s_q0 (D.1 0) (i_u (D.1 0 13), i_u (D.1 0 14), D.1 0 15, D.1 0 16)) = z_row D 2 (s_bec (D.1 1) (D.1 2) N) := z_row_id _ (by rw [z_rowo _ _ (by decide)]; exact (s_q0_id (D.1 0) (i_u_n _).symm (i_u_n _).symm rfl rfl).symm)
  rw [← hz]
  refine z_aload0 F dX4_text_11 ?_
  refine z_getR F PH_tape fX4_29 dX4_text_12 ?_
  refine z_aload0 F dX4_text_15 ?_
  refine z_getR F PH_trial fX4_16 dX4_text_16 ?_
  refine z_callVI1p F (c3_readInto D rfl (D.1 0) ht ht120 hby (s_bec (D.1 1) (D.1 2) N) (D.1 1) ω (i_u (D.1 0 13)) (i_u (D.1 0 14)) (D.1 0 15) (D.1 0 16) (by rw [s_bec_4]; exact hN) h10 (s_bec_ag _ _ _)) kX4_216 (by decide) ocT (Nat.le_of_ble_eq_true rfl) rfl dX4_text_19 (fun r E hE => ?_)
  obtain ⟨rfl, kk, T2, rfl, hT2⟩ := hE
  have hAi := m_all_inv (D.1 8) t (nI N) ω
  have hWok := (m_must_ok (τ := D.1 8) (is := decide ((m_all (D.1 8) t (nI N) ω).1.1.2.2.1 = 0)) hAi.1).1
  cases hW : (m_must (D.1 8) t (m_all (D.1 8) t (nI N) ω).1 (decide ((m_all (D.1 8) t (nI N) ω).1.1.2.2.1 = 0))).2 with
  | true =>
    have hb : (m_must (D.1 8) t (m_all (D.1 8) t (nI N) ω).1 (decide ((m_all (D.1 8) t (nI N) ω).1.1.2.2.1 = 0))).1.1 < 2 ^ 31 := by
      have a := hWok.1
      have b := hWok.2.1
      omega
    have hneg : -1 - nI (m_must (D.1 8) t (m_all (D.1 8) t (nI N) ω).1 (decide ((m_all (D.1 8) t (nI N) ω).1.1.2.2.1 = 0))).1.1 < 0 := by
      have e1 := nI_toInt hb
      rw [Int32.lt_iff_toInt_lt, Int32.toInt_sub, e1, show (-1 : Int32).toInt = -1 by decide, show (0 : Int32).toInt = 0 by decide, Int.bmod_eq_of_le (by omega) (by omega)]
      omega
    rw [if_pos rfl]
    refine z_istore1 F dX4_text_22 rfl ?_
    refine z_aload0 F dX4_text_23 ?_
    refine z_getR F PH_tape fX4_29 dX4_text_24 ?_
    refine z_iconst F 0 dX4_text_27 zv_i_0 ?_
    refine z_putI F T_length fX4_210 rfl rfl dX4_text_28 ?_
    rw [z_row_up]
    refine z_iload1 F dX4_text_31 ?_
    refine z_if_lt F 46 dX4_text_32 (by decide) (fun h32 => ?_) (fun h32 => ?_)
    · refine z_iload1 F dX4_text_46 ?_
      refine hR _ _ _ _ dX4_text_47 rfl ?_
      refine ⟨by rw [hW, if_pos rfl], fun _ => z_sm_text D T2 kk, fun z => ?_⟩
      rw [hW] at z
      cases z
    · exact absurd hneg h32
  | false =>
    obtain ⟨N2, hN2, h4, hag⟩ := hT2 hW
    have hnum : (m_all (D.1 8) t (nI N) ω).2.2.2 ≤ 120 := by
      have a := (hAi.2 (m_must_w hW).1).1
      have b := hAi.1.1
      have c := hAi.1.2.1
      omega
    rw [if_neg (by decide)]
    refine z_istore1 F dX4_text_22 rfl ?_
    refine z_aload0 F dX4_text_23 ?_
    refine z_getR F PH_tape fX4_29 dX4_text_24 ?_
    refine z_iconst F 0 dX4_text_27 zv_i_0 ?_
    refine z_putI F T_length fX4_210 rfl rfl dX4_text_28 ?_
    rw [z_row_up]
    refine z_iload1 F dX4_text_31 ?_
    refine z_if_lt F 46 dX4_text_32 (by decide) (fun h32 => ?_) (fun h32 => ?_)
    · exact absurd h32 (nI_pos (by omega))
    · refine z_aload0 F dX4_text_35 ?_
      refine z_getR F PH_coat fX4_10 dX4_text_36 ?_
      refine z_aload0 F dX4_text_39 ?_
      refine z_getR F PH_trial fX4_16 dX4_text_40 ?_
      refine z_callVV1 F (by have h := c0_become (z_row (z_row D 2 T2) 0 (upd (s_q0 (D.1 0) kk) 12 0)) z_r1 z_r2 (by decide) (N := N2) (by rw [z_202]; exact h4) hN2; rw [z_202, z_rowo _ _ (by decide), z_rowo _ _ (by decide)] at h; exact h) kX4_135 (by decide) (ocC z_r1) (Nat.le_of_ble_eq_true rfl) rfl dX4_text_43 ?_
      refine z_iload1 F dX4_text_46 ?_
      refine hR _ _ _ _ dX4_text_47 rfl ?_
      refine ⟨by rw [hW, if_neg (by decide)], fun z => ?_, fun _ => ⟨s_bec T2 (D.1 1) N2, N2, hN2, ?_, ag_t (s_bec_ag _ _ _) hag, z_sm_1 _ (z_sm_text D T2 kk)⟩⟩
      · rw [hW] at z; cases z
      · rw [s_bec_4]; exact h4
