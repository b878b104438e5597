set_option maxHeartbeats 1000000 in
set_option maxRecDepth 20000 in
theorem c3_coinN (D : zD) {τ : Nat → Int32} (hτ : D.1 8 = τ) (ρ : Nat → Int32) {t : Nat} (hρ : ρ 12 = nI t) (ht : t ≤ 120) (hby : s_by τ t) (T : Nat → Int32) (v : Int32) (k : zTk) (hk : t_ok t k) (hkd : (m_kd τ k 7) < 0) : z_CI SX zT yX3_readsCoin cX3_readsCoin 4 .boolean 6 [.ref 40, .ref 2] (z_row (z_row D 2 T) 0 (s_q0 ρ (x_of τ v k))) (z_eq 0 (z_row (z_row D 2 T) 0 (s_q0 ρ (x_of τ v k)))) := by
  refine z_startI SX_ok (by decide +kernel) (fun v hv => by simp at hv; rcases hv with rfl | rfl <;> rfl) (Nat.le_of_ble_eq_true rfl) (fun X F hR => ?_)
  show z_J X SX 0 [some (.ref 40), some (.ref 2), none, none] [] (z_row (z_row D 2 T) 0 (s_q0 ρ (x_of τ v k)))
  have hm1 : m_kd τ k 7 = -1 := (m_kd_in τ k 7 (by decide)).elim id (fun z => by
    obtain ⟨j, hj, ej⟩ := b_in0 6 (by decide) z.1
    rw [ej] at hkd
    exact absurd (nI_pos' (by omega)) (Int32.not_le.mpr hkd))
  refine z_aload0 F dX3_readsCoin_0 ?_
  refine z_callVI0 F (c3_kind (z_row D 2 T) (by rw [z_rowo _ _ (by decide)]; exact hτ) ρ hρ ht hby v k hk) kX3_66 (by decide) ocT (Nat.le_of_ble_eq_true rfl) rfl dX3_readsCoin_1 ?_
  refine z_istore2 F dX3_readsCoin_4 rfl ?_
  refine z_iload2 F dX3_readsCoin_5 ?_
  refine z_iconst F (-1) dX3_readsCoin_6 zv_i_m1 ?_
  refine z_ic_eq F 19 dX3_readsCoin_7 (by decide) (fun h7 => ?_) (fun h7 => ?_)
  · refine z_iconst F 0 dX3_readsCoin_19 zv_i_0 ?_
    refine hR _ _ _ _ dX3_readsCoin_20 rfl ?_
    exact ⟨rfl, rfl⟩
  · exact absurd hm1 h7
theorem m_coin_full {τ : Nat → Int32} {t : Nat} {k : zTk} {kd c : Int32} (h : ¬ c < 10) : (m_coin τ t (k, false) kd c).2 = (k, true) := by
  unfold m_coin
  rw [m_must_f, decide_eq_false h]
  show m_next τ t (m_part τ t (m_part τ t (m_part τ t (k, true) 10 1 40 8).2 11 1 50 5).2 12 0 240 6).2 13 = (k, true)
  rw [m_part_t (s := (k, true)) rfl, m_part_t (s := (k, true)) rfl, m_part_t (s := (k, true)) rfl, m_next_t (s := (k, true)) rfl]
theorem m_coin_room {τ : Nat → Int32} {t : Nat} {k : zTk} {kd c : Int32} (h : c < 10) {p1 p2 p3 : Int32 × zRd} (h1 : p1 = m_part τ t (s_tok τ t k.2.1, false) 10 1 40 8) (h2 : p2 = m_part τ t p1.2 11 1 50 5) (h3 : p3 = m_part τ t p2.2 12 0 240 6) : m_coin τ t (k, false) kd c = ((kd, p1.1, p2.1, p3.1, if m_isn τ p3.2 13 = true then 3 else 0), m_next τ t p3.2 13) := by
  unfold m_coin
  rw [m_must_f, decide_eq_true h, h3, h2, h1]
  rfl
theorem b_may_1 (x : Int32) (h : b_in x 1 40 = true) : b_may (nI 1) x = true := h
theorem b_may_2 (x : Int32) (h : b_in x 1 50 = true) : b_may (nI 2) x = true := h
theorem b_may_3 (x : Int32) (h : b_in x 0 240 = true) : b_may (nI 3) x = true := h
set_option maxHeartbeats 1000000 in
set_option maxRecDepth 20000 in
theorem c3_coinY (D : zD) {τ : Nat → Int32} (hτ : D.1 8 = τ) (ρ : Nat → Int32) {t : Nat} (hρ : ρ 12 = nI t) (ht : t ≤ 120) (hby : s_by τ t) (T : Nat → Int32) (v : Int32) (k : zTk) (hk : t_ok t k) {N : Nat} (hT : T 4 = nI N) (h10 : N ≤ 10) (hkd : ¬ (m_kd τ k 7) < 0) : z_CI SX zT yX3_readsCoin cX3_readsCoin 4 .boolean 7 [.ref 40, .ref 2] (z_row (z_row D 2 T) 0 (s_q0 ρ (x_of τ v k))) (fun r E => r = z_b (!((m_coin τ t (k, false) (m_kd τ k 7) (nI N)).2).2) ∧ ∃ v2 T2, E = (z_row (z_row D 2 T2) 0 (s_q0 ρ (x_of τ v2 ((m_coin τ t (k, false) (m_kd τ k 7) (nI N)).2).1))) ∧ (((m_coin τ t (k, false) (m_kd τ k 7) (nI N)).2).2 = false → T2 = s_come T N (m_coin τ t (k, false) (m_kd τ k 7) (nI N)).1.1 (m_coin τ t (k, false) (m_kd τ k 7) (nI N)).1.2.1 (m_coin τ t (k, false) (m_kd τ k 7) (nI N)).1.2.2.1 (m_coin τ t (k, false) (m_kd τ k 7) (nI N)).1.2.2.2.1 (m_coin τ t (k, false) (m_kd τ k 7) (nI N)).1.2.2.2.2)) := by
  refine z_startI SX_ok (by decide +kernel) (fun v hv => by simp at hv; rcases hv with rfl | rfl <;> rfl) (Nat.le_of_ble_eq_true rfl) (fun X F hR => ?_)
  show z_J X SX 0 [some (.ref 40), some (.ref 2), none, none] [] (z_row (z_row D 2 T) 0 (s_q0 ρ (x_of τ v k)))
  have hkm : ¬ (m_kd τ k 7) = -1 := fun e => hkd (by rw [e]; decide)
  refine z_aload0 F dX3_readsCoin_0 ?_
  refine z_callVI0 F (c3_kind (z_row D 2 T) (by rw [z_rowo _ _ (by decide)]; exact hτ) ρ hρ ht hby v k hk) kX3_66 (by decide) ocT (Nat.le_of_ble_eq_true rfl) rfl dX3_readsCoin_1 ?_
  refine z_istore2 F dX3_readsCoin_4 rfl ?_
  refine z_iload2 F dX3_readsCoin_5 ?_
  refine z_iconst F (-1) dX3_readsCoin_6 zv_i_m1 ?_
  refine z_ic_eq F 19 dX3_readsCoin_7 (by decide) (fun h7 => ?_) (fun h7 => ?_)
  · exact absurd h7 hkm
  · refine z_aload1 F dX3_readsCoin_10 ?_
    refine z_getI F (C_coins z_r2) fX3_70 dX3_readsCoin_11 ?_
    rw [z_202, hT]
    refine z_bipush F 10 dX3_readsCoin_14 zv_b_10 ?_
    refine z_ic_lt F 21 dX3_readsCoin_16 (by decide) (fun h16 => ?_) (fun h16 => ?_)
    · have hlt : N < 10 := (nI_ltI (a := N) (b := 10) (by omega) (by decide)).mp h16
      refine z_aload0 F dX3_readsCoin_21 ?_
      refine z_callVV0p F (c3_next (z_row D 2 T) (by rw [z_rowo _ _ (by decide)]; exact hτ) ρ hρ ht hby (x_of τ v k) hk.2.1) kX3_31 (by decide) ocT (Nat.le_of_ble_eq_true rfl) rfl dX3_readsCoin_22 (fun E hE => ?_)
      obtain ⟨v1, rfl⟩ := hE
      rw [show (x_of τ v k).2.1 = k.2.1 from rfl]
      obtain ⟨k1, ek1⟩ : ∃ k1, k1 = s_tok τ t k.2.1 := ⟨_, rfl⟩
      have hk1 : t_ok t k1 := by rw [ek1]; exact (s_tok_ok hk.2.1).1
      rw [← ek1]
      obtain ⟨p1, hp1⟩ : ∃ p, p = m_part τ t (k1, false) 10 1 40 8 := ⟨_, rfl⟩
      obtain ⟨p2, hp2⟩ : ∃ p, p = m_part τ t p1.2 11 1 50 5 := ⟨_, rfl⟩
      obtain ⟨p3, hp3⟩ : ∃ p, p = m_part τ t p2.2 12 0 240 6 := ⟨_, rfl⟩
      have hmc := m_coin_room (kd := (m_kd τ k 7)) h16 (by rw [← ek1]; exact hp1) hp2 hp3
      refine z_aload1 F dX3_readsCoin_25 ?_
      refine z_iload2 F dX3_readsCoin_26 ?_
      refine z_callVR1 F (by have h := c0_newCoin (z_row (z_row D 2 T) 0 (s_q0 ρ (x_of τ v1 k1))) z_r2 (N := N) (by rw [z_202]; exact hT) hlt (m_kd τ k 7); rw [z_202, z_20r] at h; exact h) kX3_73 (by decide) (ocC z_r2) (Nat.le_of_ble_eq_true rfl) rfl dX3_readsCoin_27 ?_
      refine z_astore3 F dX3_readsCoin_30 rfl ?_
      refine z_aload0 F dX3_readsCoin_31 ?_
      refine z_aload3 F dX3_readsCoin_32 ?_
      refine z_ldcS F sT_10 dX3_readsCoin_33 ?_
      refine z_iconst F 1 dX3_readsCoin_35 zv_i_1 ?_
      refine z_iconst F 1 dX3_readsCoin_36 zv_i_1 ?_
      refine z_bipush F 40 dX3_readsCoin_37 zv_b_40 ?_
      refine z_callVI5p F (by have h := c3_part D hτ ρ hρ ht hby (s_come T N (m_kd τ k 7) 8 5 6 0) v1 k1 hk1 N hlt 1 10 (by decide) (by decide) 1 40 8 (by decide) (s_come_r1 _ _ _ _ _ _ _) b_may_1; rw [← hp1] at h; exact h) kX3_79 (by decide) ocT (Nat.le_of_ble_eq_true rfl) rfl dX3_readsCoin_39 (fun r E hE => ?_)
      obtain ⟨rfl, v2, T2, rfl, hT2⟩ := hE
      refine z_ifb_eq F 74 dX3_readsCoin_42 (by decide) (fun h42 => ?_) (fun h42 => ?_)
      · have hw : p1.2.2 = true := by simpa using h42
        have em : (m_coin τ t (k, false) (m_kd τ k 7) (nI N)).2 = p1.2 := by
          rw [hmc]
          show m_next τ t p3.2 13 = _
          have a2 : p2 = (5, p1.2) := by rw [hp2]; exact m_part_t hw
          have a3 : p3 = (6, p1.2) := by rw [hp3, a2]; exact m_part_t hw
          rw [a3]
          exact m_next_t hw
        refine z_iconst F 0 dX3_readsCoin_74 zv_i_0 ?_
        refine hR _ _ _ _ dX3_readsCoin_75 rfl ?_
        refine ⟨by rw [em, hw]; rfl, v2, T2, by rw [em], fun z => ?_⟩
        rw [em, hw] at z
        cases z
      · have hw1 : p1.2.2 = false := by simpa using h42
        have hk2 := (m_part_ok (τ := τ) (s := (k1, false)) (i := 10) (lo := 1) (hi := 40) (df := 8) hk1).1
        rw [← hp1] at hk2
        obtain ⟨k2, ek2⟩ : ∃ k2, k2 = p1.2.1 := ⟨_, rfl⟩
        rw [← ek2] at hk2
        rw [show p1.2 = (k2, false) by rw [ek2]; exact s_pair hw1] at hp2
        rw [← ek2, hT2 hw1, s_come_1]
        refine z_aload0 F dX3_readsCoin_45 ?_
        refine z_aload3 F dX3_readsCoin_46 ?_
        refine z_ldcS F sT_11 dX3_readsCoin_47 ?_
        refine z_iconst F 2 dX3_readsCoin_49 zv_i_2 ?_
        refine z_iconst F 1 dX3_readsCoin_50 zv_i_1 ?_
        refine z_bipush F 50 dX3_readsCoin_51 zv_b_50 ?_
        refine z_callVI5p F (by have h := c3_part D hτ ρ hρ ht hby (s_come T N (m_kd τ k 7) p1.1 5 6 0) v2 k2 hk2 N hlt 2 11 (by decide) (by decide) 1 50 5 (by decide) (s_come_r2 _ _ _ _ _ _ _) b_may_2; rw [← hp2] at h; exact h) kX3_79 (by decide) ocT (Nat.le_of_ble_eq_true rfl) rfl dX3_readsCoin_53 (fun r E hE => ?_)
        obtain ⟨rfl, v3, T3, rfl, hT3⟩ := hE
        refine z_ifb_eq F 74 dX3_readsCoin_56 (by decide) (fun h56 => ?_) (fun h56 => ?_)
        · have hw : p2.2.2 = true := by simpa using h56
          have em : (m_coin τ t (k, false) (m_kd τ k 7) (nI N)).2 = p2.2 := by
            rw [hmc]
            show m_next τ t p3.2 13 = _
            have a3 : p3 = (6, p2.2) := by rw [hp3]; exact m_part_t hw
            rw [a3]
            exact m_next_t hw
          refine z_iconst F 0 dX3_readsCoin_74 zv_i_0 ?_
          refine hR _ _ _ _ dX3_readsCoin_75 rfl ?_
          refine ⟨by rw [em, hw]; rfl, v3, T3, by rw [em], fun z => ?_⟩
          rw [em, hw] at z
          cases z
        · have hw2 : p2.2.2 = false := by simpa using h56
          have hk3 := (m_part_ok (τ := τ) (s := (k2, false)) (i := 11) (lo := 1) (hi := 50) (df := 5) hk2).1
          rw [← hp2] at hk3
          obtain ⟨k3, ek3⟩ : ∃ k3, k3 = p2.2.1 := ⟨_, rfl⟩
          rw [← ek3] at hk3
          rw [show p2.2 = (k3, false) by rw [ek3]; exact s_pair hw2] at hp3
          rw [← ek3, hT3 hw2, s_come_2]
          refine z_aload0 F dX3_readsCoin_59 ?_
          refine z_aload3 F dX3_readsCoin_60 ?_
          refine z_ldcS F sT_12 dX3_readsCoin_61 ?_
          refine z_iconst F 3 dX3_readsCoin_63 zv_i_3 ?_
          refine z_iconst F 0 dX3_readsCoin_64 zv_i_0 ?_
          refine z_sipush F 240 dX3_readsCoin_65 zv_s_240 ?_
          refine z_callVI5p F (by have h := c3_part D hτ ρ hρ ht hby (s_come T N (m_kd τ k 7) p1.1 p2.1 6 0) v3 k3 hk3 N hlt 3 12 (by decide) (by decide) 0 240 6 (by decide) (s_come_r3 _ _ _ _ _ _ _) b_may_3; rw [← hp3] at h; exact h) kX3_79 (by decide) ocT (Nat.le_of_ble_eq_true rfl) rfl dX3_readsCoin_68 (fun r E hE => ?_)
          obtain ⟨rfl, v4, T4, rfl, hT4⟩ := hE
          refine z_ifb_ne F 76 dX3_readsCoin_71 (by decide) (fun h71 => ?_) (fun h71 => ?_)
          · have hw3 : p3.2.2 = false := by simpa using h71
            have hk4 := (m_part_ok (τ := τ) (s := (k3, false)) (i := 12) (lo := 0) (hi := 240) (df := 6) hk3).1
            rw [← hp3] at hk4
            obtain ⟨k4, ek4⟩ : ∃ k4, k4 = p3.2.1 := ⟨_, rfl⟩
            rw [← ek4] at hk4
            rw [show p3.2 = (k4, false) by rw [ek4]; exact s_pair hw3] at hmc
            rw [← ek4, hT4 hw3, s_come_3]
            refine z_aload0 F dX3_readsCoin_76 ?_
            refine z_ldcS F sT_13 dX3_readsCoin_77 ?_
            refine z_callVI1p F (c3_takes (z_row D 2 (s_come T N (m_kd τ k 7) p1.1 p2.1 p3.1 0)) (by rw [z_rowo _ _ (by decide)]; exact hτ) ρ hρ ht hby v4 k4 hk4 (i := 13) (by decide)) kX3_36 (by decide) ocT (Nat.le_of_ble_eq_true rfl) rfl dX3_readsCoin_79 (fun r E hE => ?_)
            obtain ⟨rfl, v5, rfl⟩ := hE
            refine z_ifb_eq F 90 dX3_readsCoin_82 (by decide) (fun h82 => ?_) (fun h82 => ?_)
            · refine z_iconst F 1 dX3_readsCoin_90 zv_i_1 ?_
              refine hR _ _ _ _ dX3_readsCoin_91 rfl ?_
              refine ⟨by rw [hmc, m_next_f]; rfl, v5, s_come T N (m_kd τ k 7) p1.1 p2.1 p3.1 0, by rw [hmc], fun _ => ?_⟩
              rw [hmc]
              show _ = s_come T N (m_kd τ k 7) p1.1 p2.1 p3.1 (if m_isn τ (k4, false) 13 = true then 3 else 0)
              rw [show m_isn τ (k4, false) 13 = false by unfold m_isn; rw [h82]; rfl]
              rfl
            · refine z_aload3 F dX3_readsCoin_85 ?_
              refine z_iconst F 3 dX3_readsCoin_86 zv_i_3 ?_
              refine z_callVV1 F (by have h := c1_moveTo (z_row (z_row D 2 (s_come T N (m_kd τ k 7) p1.1 p2.1 p3.1 0)) 0 (s_q0 ρ (x_of τ v5 (m_next τ t (k4, false) 13).1))) z_r2 N hlt 3; rw [z_202, z_20r, s_come_go] at h; exact h) kX3_89 (by decide) (ocK z_r2 hlt) (Nat.le_of_ble_eq_true rfl) rfl dX3_readsCoin_87 ?_
              refine z_iconst F 1 dX3_readsCoin_90 zv_i_1 ?_
              refine hR _ _ _ _ dX3_readsCoin_91 rfl ?_
              refine ⟨by rw [hmc, m_next_f]; rfl, v5, s_come T N (m_kd τ k 7) p1.1 p2.1 p3.1 3, by rw [hmc], fun _ => ?_⟩
              rw [hmc]
              show _ = s_come T N (m_kd τ k 7) p1.1 p2.1 p3.1 (if m_isn τ (k4, false) 13 = true then 3 else 0)
              rw [show m_isn τ (k4, false) 13 = true by unfold m_isn; rw [h82]; rfl]
              rfl
          · have hw : p3.2.2 = true := by simpa using h71
            have em : (m_coin τ t (k, false) (m_kd τ k 7) (nI N)).2 = p3.2 := by
              rw [hmc]
              exact m_next_t hw
            refine z_iconst F 0 dX3_readsCoin_74 zv_i_0 ?_
            refine hR _ _ _ _ dX3_readsCoin_75 rfl ?_
            refine ⟨by rw [em, hw]; rfl, v4, T4, by rw [em], fun z => ?_⟩
            rw [em, hw] at z
            cases z
    · have hge : ¬ nI N < 10 := h16
      refine z_iconst F 0 dX3_readsCoin_19 zv_i_0 ?_
      refine hR _ _ _ _ dX3_readsCoin_20 rfl ?_
      refine ⟨by rw [m_coin_full hge]; rfl, v, T, by rw [m_coin_full hge], fun z => ?_⟩
      rw [m_coin_full hge] at z
      cases z
