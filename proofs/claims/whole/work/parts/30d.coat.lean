set_option maxHeartbeats 1000000 in
set_option maxRecDepth 20000 in
theorem c0_go (D : zD) {r : Nat} (hr : z_R3 r) {N : Nat} (hN : D.1 r 4 = nI N) (h10 : N ≤ 10) (q : Nat) (hq : q < 2 ^ 31) : z_CV SX zT yX0_go cX0_go 5 4 [.ref r, .int (nI q)] D (z_eqV (z_row D r (s_steps (D.1 r) N q))) := by
  refine z_startV SX_ok (by decide +kernel) (fun v hv => by simp at hv; rcases hv with rfl | rfl <;> rfl) (Nat.le_of_ble_eq_true rfl) (fun X F hR => ?_)
  show z_J X SX 0 [some (.ref r), some (.int (nI q)), none, none, none] [] D
  refine z_iconst F 0 dX0_go_0 zv_i_0 ?_
  refine z_istore2 F dX0_go_1 rfl ?_
  have loop : ∀ (n c : Nat), c + n = q → ∀ (a3 a4 : Option Value), z_J X SX 2 [some (.ref r), some (.int (nI q)), some (.int (nI c)), a3, a4] [] (z_row D r (s_steps (D.1 r) N c)) := by
    intro n
    induction n with
    | zero =>
      intro c hn a3 a4
      refine z_iload2 F dX0_go_2 ?_
      refine z_iload1 F dX0_go_3 ?_
      refine z_ic_ge F 37 dX0_go_4 (by decide) (fun h4 => ?_) (fun h4 => ?_)
      · refine hR _ _ _ dX0_go_37 ?_
        show _ = _
        rw [show c = q by omega]
      · exact absurd (nI_le (by omega) (by omega)) h4
    | succ n ih =>
      intro c hn a3 a4
      refine z_iload2 F dX0_go_2 ?_
      refine z_iload1 F dX0_go_3 ?_
      refine z_ic_ge F 37 dX0_go_4 (by decide) (fun h4 => ?_) (fun h4 => ?_)
      · exact absurd h4 (nI_ge (by omega) (by omega))
      · refine z_aload0 F dX0_go_7 ?_
        refine z_getI F (C_step hr) fX0_21 dX0_go_8 ?_
        refine z_istore3 F dX0_go_11 rfl ?_
        simp only [z_rowr]
        refine z_aload0 F dX0_go_12 ?_
        refine z_iconst F 1 dX0_go_13 zv_i_1 ?_
        refine z_callVI1 F (by have h := c0_in (z_row D r (s_steps (D.1 r) N c)) hr (by rw [z_rowr]; exact s_steps_N hN c) h10 1; rw [z_rowr] at h; exact h) kX0_68 (by decide) (ocC hr) (Nat.le_of_ble_eq_true rfl) rfl dX0_go_14 ?_
        refine z_istore4 F dX0_go_17 rfl ?_
        refine z_aload0 F dX0_go_19 ?_
        refine z_callVI0 F (by have h := c0_goPocket (z_row D r (s_steps (D.1 r) N c)) hr (by rw [z_rowr]; exact s_steps_N hN c) h10; rw [z_rowr, z_row_row] at h; exact h) kX0_89 (by decide) (ocC hr) (Nat.le_of_ble_eq_true rfl) rfl dX0_go_20 ?_
        refine z_pop F dX0_go_23 rfl ?_
        refine z_aload0 F dX0_go_24 ?_
        refine z_iload4 F dX0_go_25 ?_
        refine z_iload3 F dX0_go_27 ?_
        have hset : ∀ d, d < N → s_has (s_lie (s_steps (D.1 r) N c) 1 N) d = true → (z_row D r (s_goP (s_steps (D.1 r) N c) N)).1 r (16 + 8 * d + 4) = 1 := fun d hdN hd => by
          rw [s_has_lie _ _ h10 (by omega), Bool.and_eq_true, decide_eq_true_eq, decide_eq_true_eq] at hd
          rw [z_rowr, s_goP, u_ne _ _ (by omega), s_pk_out _ (by decide) (by rw [hd.2]; decide)]
          exact hd.2
        refine z_callVV2 F (by have h := c0_goLining (z_row D r (s_goP (s_steps (D.1 r) N c) N)) hr (N := N) (by rw [z_rowr, s_goP, u_ne _ _ (by decide), s_pk_lo _ (by decide) (by decide)]; exact s_steps_N hN c) h10 (s_lie (s_steps (D.1 r) N c) 1 N) ((s_steps (D.1 r) N c) 0) hset; rw [z_rowr, z_row_row] at h; exact h) kX0_93 (by decide) (ocC hr) (Nat.le_of_ble_eq_true rfl) rfl dX0_go_28 ?_
        refine z_iinc2 F 1 dX0_go_31 rfl zv_i_1 ?_
        refine z_goto F 2 dX0_go_34 (by decide) ?_
        have h := ih (c + 1) (by omega)
        rw [show nI (c + 1) = nI c + 1 from nI_succ c] at h
        rw [show s_ln (s_goP (s_steps (D.1 r) N c) N) N (s_lie (s_steps (D.1 r) N c) 1 N) ((s_steps (D.1 r) N c) 0) N = s_steps (D.1 r) N (c + 1) from by rw [s_goP, s_ln_0]; rfl]
        exact h _ _
  have h := loop q 0 (by omega) none none
  rw [s_steps, z_row_eq] at h
  exact h
theorem s_goTo_up (σ : Nat → Int32) {c x : Nat} (pl v : Int32) (h : x < 16) : upd (s_goTo σ c pl) x v = s_goTo (upd σ x v) c pl := by
  unfold s_goTo
  rw [← u_cm _ v pl (by omega), ← u_cm _ v (-1) (by omega), ← u_cm _ v 0 (by omega), ← u_cm _ v 0 (by omega)]
set_option maxHeartbeats 1000000 in
set_option maxRecDepth 20000 in
theorem c0_newCoin (D : zD) {r : Nat} (hr : z_R3 r) {N : Nat} (hN : D.1 r 4 = nI N) (hlt : N < 10) (k : Int32) : z_CR SX zT yX0_newCoin cX0_newCoin 3 (.object "PocketHole$Coin") 2 [.ref r, .int k] D (10 * r + N) (z_eqV (z_row D r (s_come (D.1 r) N k 8 5 6 0))) := by
  refine z_startR SX_ok (by decide +kernel) (fun v hv => by simp at hv; rcases hv with rfl | rfl <;> rfl) (Nat.le_of_ble_eq_true rfl) (fun X F hR => ?_)
  show z_J X SX 0 [some (.ref r), some (.int k), none] [] D
  refine z_aload0 F dX0_newCoin_0 ?_
  refine z_getR F (C_row hr) fX0_32 dX0_newCoin_1 ?_
  refine z_aload0 F dX0_newCoin_4 ?_
  refine z_getI F (C_coins hr) fX0_27 dX0_newCoin_5 ?_
  rw [hN]
  refine z_aald F (aRow hr) (Or.inl rfl) (N) rfl hlt dX0_newCoin_8 ?_
  refine z_astore2 F dX0_newCoin_9 rfl ?_
  refine z_aload2 F dX0_newCoin_10 ?_
  refine z_iload1 F dX0_newCoin_11 ?_
  refine z_callVV1 F (c1_renew D hr N hlt k) kX0_51 (by decide) (ocK hr hlt) (Nat.le_of_ble_eq_true rfl) rfl dX0_newCoin_12 ?_
  refine z_aload0 F dX0_newCoin_15 ?_
  refine z_dup F dX0_newCoin_16 rfl ?_
  refine z_getI F (C_coins hr) fX0_27 dX0_newCoin_17 ?_
  rw [z_rowr, s_goTo_lo _ _ (by decide), u_ne _ _ (by omega), u_ne _ _ (by omega), u_ne _ _ (by omega), u_ne _ _ (by omega), hN]
  refine z_iconst F 1 dX0_newCoin_20 zv_i_1 ?_
  refine z_iadd F dX0_newCoin_21 ?_
  refine z_putI F (C_coins hr) fX0_27 rfl rfl dX0_newCoin_22 ?_
  refine z_aload2 F dX0_newCoin_25 ?_
  refine hR _ _ _ dX0_newCoin_26 ?_
  show _ = _
  rw [z_row_up, s_goTo_up _ _ _ (by decide), s_come]
