set_option maxHeartbeats 4000000 in
set_option maxRecDepth 20000 in
theorem c5_lieIn (D : zD) (pl : Int32) {N : Nat} (hN : D.1 1 4 = nI N) (h10 : N ≤ 10) : z_CI SM zT yX5_lieIn cX5_lieIn 4 .int 3 [.ref 0, .int pl] D (z_eq (s_lie (D.1 1) pl N) D) := by
  refine z_startI SM_ok (by decide +kernel) (fun v hv => by simp at hv; rcases hv with rfl | rfl <;> rfl) (Nat.le_of_ble_eq_true rfl) (fun X F hR => ?_)
  show z_J X SM 0 [some (.ref 0), some (.int pl), none, none] [] D
  have loop : ∀ (n c : Nat), c + n = N → z_J X SM 4 [some (.ref 0), some (.int pl), some (.int (s_lie (D.1 1) pl c)), some (.int (nI c))] [] D := by
    intro n
    induction n with
    | zero =>
      intro c hn
      refine z_iload3 F dX5_lieIn_4 ?_
      refine z_aload0 F dX5_lieIn_5 ?_
      refine z_getR F M_now fX5_9 dX5_lieIn_6 ?_
      refine z_iconst F 4 dX5_lieIn_9 zv_i_4 ?_
      refine z_iald F aM_now (4) rfl (by omega) dX5_lieIn_10 ?_
      refine z_ic_ge F 39 dX5_lieIn_11 (by decide) (fun h11 => ?_) (fun h11 => ?_)
      · refine z_iload2 F dX5_lieIn_39 ?_
        refine hR _ _ _ _ dX5_lieIn_40 rfl ?_
        exact ⟨by rw [show c = N by omega], rfl⟩
      · exact absurd (by rw [hN]; exact nI_le (by omega) (by omega)) h11
    | succ n ih =>
      intro c hn
      refine z_iload3 F dX5_lieIn_4 ?_
      refine z_aload0 F dX5_lieIn_5 ?_
      refine z_getR F M_now fX5_9 dX5_lieIn_6 ?_
      refine z_iconst F 4 dX5_lieIn_9 zv_i_4 ?_
      refine z_iald F aM_now (4) rfl (by omega) dX5_lieIn_10 ?_
      refine z_ic_ge F 39 dX5_lieIn_11 (by decide) (fun h11 => ?_) (fun h11 => ?_)
      · exact absurd h11 (by rw [hN]; exact nI_ge (by omega) (by omega))
      · refine z_iload2 F dX5_lieIn_14 ?_
        refine z_aload0 F dX5_lieIn_15 ?_
        refine z_iload3 F dX5_lieIn_16 ?_
        refine z_iload1 F dX5_lieIn_17 ?_
        refine z_callVI2 F (c5_isIn _ (c) _ (by omega)) kX5_135 (by decide) ocM (Nat.le_of_ble_eq_true rfl) rfl dX5_lieIn_18 ?_
        refine z_ifb_eq F 30 dX5_lieIn_21 (by decide) (fun h21 => ?_) (fun h21 => ?_)
        · refine z_iconst F 0 dX5_lieIn_30 zv_i_0 ?_
          refine z_ior F dX5_lieIn_31 ?_
          refine z_istore2 F dX5_lieIn_32 rfl ?_
          refine z_iinc3 F 1 dX5_lieIn_33 rfl zv_i_1 ?_
          refine z_goto F 4 dX5_lieIn_36 (by decide) ?_
          have h := ih (c + 1) (by omega)
          simp only [decide_eq_true_eq, decide_eq_false_iff_not] at h21
          simp only [s_lie, nI_succ, h21, if_true, if_false, i_or0] at h ⊢
          exact h
        · refine z_iconst F 1 dX5_lieIn_24 zv_i_1 ?_
          refine z_iload3 F dX5_lieIn_25 ?_
          refine z_ishl F dX5_lieIn_26 ?_
          refine z_goto F 31 dX5_lieIn_27 (by decide) ?_
          refine z_ior F dX5_lieIn_31 ?_
          refine z_istore2 F dX5_lieIn_32 rfl ?_
          refine z_iinc3 F 1 dX5_lieIn_33 rfl zv_i_1 ?_
          refine z_goto F 4 dX5_lieIn_36 (by decide) ?_
          have h := ih (c + 1) (by omega)
          simp only [decide_eq_true_eq, decide_eq_false_iff_not] at h21
          simp only [s_lie, nI_succ, h21, if_true, if_false, i_or0] at h ⊢
          exact h
  refine z_iconst F 0 dX5_lieIn_0 zv_i_0 ?_
  refine z_istore2 F dX5_lieIn_1 rfl ?_
  refine z_iconst F 0 dX5_lieIn_2 zv_i_0 ?_
  refine z_istore3 F dX5_lieIn_3 rfl ?_
  exact loop N 0 (by omega)
set_option maxHeartbeats 4000000 in
set_option maxRecDepth 20000 in
theorem c5_sumOf (D : zD) (f : Nat) (set : Int32) {N : Nat} (hN : D.1 1 4 = nI N) (h10 : N ≤ 10) (hf : f < 8) : z_CI SM zT yX5_sumOf cX5_sumOf 5 .int 2 [.ref 0, .int set, .int (nI f)] D (z_eq (s_sum (D.1 1) f set N) D) := by
  refine z_startI SM_ok (by decide +kernel) (fun v hv => by simp at hv; rcases hv with rfl | rfl | rfl <;> rfl) (Nat.le_of_ble_eq_true rfl) (fun X F hR => ?_)
  show z_J X SM 0 [some (.ref 0), some (.int set), some (.int (nI f)), none, none] [] D
  have loop : ∀ (n c : Nat), c + n = N → z_J X SM 5 [some (.ref 0), some (.int set), some (.int (nI f)), some (.int (s_sum (D.1 1) f set c)), some (.int (nI c))] [] D := by
    intro n
    induction n with
    | zero =>
      intro c hn
      refine z_iload4 F dX5_sumOf_5 ?_
      refine z_aload0 F dX5_sumOf_7 ?_
      refine z_getR F M_now fX5_9 dX5_sumOf_8 ?_
      refine z_iconst F 4 dX5_sumOf_11 zv_i_4 ?_
      refine z_iald F aM_now (4) rfl (by omega) dX5_sumOf_12 ?_
      refine z_ic_ge F 45 dX5_sumOf_13 (by decide) (fun h13 => ?_) (fun h13 => ?_)
      · refine z_iload3 F dX5_sumOf_45 ?_
        refine hR _ _ _ _ dX5_sumOf_46 rfl ?_
        exact ⟨by rw [show c = N by omega], rfl⟩
      · exact absurd (by rw [hN]; exact nI_le (by omega) (by omega)) h13
    | succ n ih =>
      intro c hn
      refine z_iload4 F dX5_sumOf_5 ?_
      refine z_aload0 F dX5_sumOf_7 ?_
      refine z_getR F M_now fX5_9 dX5_sumOf_8 ?_
      refine z_iconst F 4 dX5_sumOf_11 zv_i_4 ?_
      refine z_iald F aM_now (4) rfl (by omega) dX5_sumOf_12 ?_
      refine z_ic_ge F 45 dX5_sumOf_13 (by decide) (fun h13 => ?_) (fun h13 => ?_)
      · exact absurd h13 (by rw [hN]; exact nI_ge (by omega) (by omega))
      · refine z_iload3 F dX5_sumOf_16 ?_
        refine z_iload1 F dX5_sumOf_17 ?_
        refine z_iload4 F dX5_sumOf_18 ?_
        refine z_callSI2 F (c5_has _ _ (c)) kX5_138 (by decide) (Nat.le_of_ble_eq_true rfl) rfl dX5_sumOf_20 ?_
        refine z_ifb_eq F 36 dX5_sumOf_23 (by decide) (fun h23 => ?_) (fun h23 => ?_)
        · refine z_iconst F 0 dX5_sumOf_36 zv_i_0 ?_
          refine z_iadd F dX5_sumOf_37 ?_
          refine z_istore3 F dX5_sumOf_38 rfl ?_
          refine z_iinc4 F 1 dX5_sumOf_39 rfl zv_i_1 ?_
          refine z_goto F 5 dX5_sumOf_42 (by decide) ?_
          have h := ih (c + 1) (by omega)
          simp only [s_sum, nI_succ, h23, if_true, if_false, i_add0, Bool.false_eq_true] at h ⊢
          exact h
        · refine z_aload0 F dX5_sumOf_26 ?_
          refine z_iload4 F dX5_sumOf_27 ?_
          refine z_iload2 F dX5_sumOf_29 ?_
          refine z_callVI2 F (c5_coinIs _ c f (by omega) hf) kX5_105 (by decide) ocM (Nat.le_of_ble_eq_true rfl) rfl dX5_sumOf_30 ?_
          refine z_goto F 37 dX5_sumOf_33 (by decide) ?_
          refine z_iadd F dX5_sumOf_37 ?_
          refine z_istore3 F dX5_sumOf_38 rfl ?_
          refine z_iinc4 F 1 dX5_sumOf_39 rfl zv_i_1 ?_
          refine z_goto F 5 dX5_sumOf_42 (by decide) ?_
          have h := ih (c + 1) (by omega)
          simp only [s_sum, nI_succ, h23, if_true, if_false, i_add0, Bool.false_eq_true] at h ⊢
          exact h
  refine z_iconst F 0 dX5_sumOf_0 zv_i_0 ?_
  refine z_istore3 F dX5_sumOf_1 rfl ?_
  refine z_iconst F 0 dX5_sumOf_2 zv_i_0 ?_
  refine z_istore4 F dX5_sumOf_3 rfl ?_
  exact loop N 0 (by omega)
set_option maxHeartbeats 4000000 in
set_option maxRecDepth 20000 in
theorem c5_bits (D : zD) (x : Int32) (m0 : Nat) (hx : x = nI m0) (hm0 : m0 < 1024) : z_CI SM zT yX5_bits cX5_bits 3 .int 0 [.int x] D (z_eq (nI (p_pop m0)) D) := by
  refine z_startI SM_ok (by decide +kernel) (fun v hv => by simp at hv; subst hv; rfl) (Nat.le_of_ble_eq_true rfl) (fun X F hR => ?_)
  show z_J X SM 0 [some (.int x), none, none] [] D
  subst hx
  have loop : ∀ (n m a : Nat), m ≤ n → m < 1024 → a + p_pop m = p_pop m0 → z_J X SM 4 [some (.int (nI m0)), some (.int (nI a)), some (.int (nI m))] [] D := by
    intro n
    induction n with
    | zero =>
      intro m a hn hm ha
      have e : m = 0 := by omega
      subst e
      refine z_iload2 F dX5_bits_4 ?_
      refine z_if_eq F 20 dX5_bits_5 (by decide) (fun h5 => ?_) (fun h5 => ?_)
      · refine z_iload1 F dX5_bits_20 ?_
        refine hR _ _ _ _ dX5_bits_21 rfl ?_
        exact ⟨by rw [show p_pop m0 = a by rw [← ha]; rfl], rfl⟩
      · exact absurd rfl h5
    | succ n ih =>
      intro m a hn hm ha
      refine z_iload2 F dX5_bits_4 ?_
      refine z_if_eq F 20 dX5_bits_5 (by decide) (fun h5 => ?_) (fun h5 => ?_)
      · refine z_iload1 F dX5_bits_20 ?_
        refine hR _ _ _ _ dX5_bits_21 rfl ?_
        have e : m = 0 := (nI_eq (a := m) (b := 0) (by omega) (by omega)).mp h5
        subst e
        exact ⟨by rw [show p_pop m0 = a by rw [← ha]; rfl], rfl⟩
      · refine z_iinc1 F 1 dX5_bits_8 rfl zv_i_1 ?_
        have hp : 0 < m := by
          rcases Nat.eq_zero_or_pos m with q | q
          · exact absurd (by rw [q]; rfl) h5
          · exact q
        obtain ⟨q1, q2⟩ := p_bits m hm hp
        refine z_iload2 F dX5_bits_11 ?_
        refine z_iload2 F dX5_bits_12 ?_
        refine z_iconst F 1 dX5_bits_13 zv_i_1 ?_
        refine z_isub F dX5_bits_14 ?_
        refine z_iand F dX5_bits_15 ?_
        refine z_istore2 F dX5_bits_16 rfl ?_
        refine z_goto F 4 dX5_bits_17 (by decide) ?_
        have h := ih (m &&& (m - 1)) (a + 1) (by omega) (by omega) (by omega)
        rw [← nx_and, ← pk_sub (show 1 ≤ m by omega), ← nI_1] at h
        exact h
  refine z_iconst F 0 dX5_bits_0 zv_i_0 ?_
  refine z_istore1 F dX5_bits_1 rfl ?_
  refine z_iload0 F dX5_bits_2 ?_
  refine z_istore2 F dX5_bits_3 rfl ?_
  exact loop m0 m0 0 (Nat.le_refl _) hm0 (by omega)
theorem z_rowfill (D : zD) (r : Nat) (f : Nat → Int32) (n : Nat) : z_up (z_row D r (fun k => if k < n then f k else D.1 r k)) r n (f n) = z_row D r (fun k => if k < n + 1 then f k else D.1 r k) := by
  rw [z_row_up]
  congr 1
  funext k
  unfold upd
  show (if k = n then f n else if k < n then f k else D.1 r k) = if k < n + 1 then f k else D.1 r k
  by_cases h : k = n
  · subst h; simp
  · by_cases q : k < n
    · rw [if_neg h, if_pos q, if_pos (by omega)]
    · rw [if_neg h, if_neg q, if_neg (by omega)]
set_option maxHeartbeats 4000000 in
set_option maxRecDepth 20000 in
theorem c5_copyRow (D : zD) (a b : Nat) (ha : z_Ar SM a 6 96 a (fun j => j)) (hb : z_Ar SM b 6 96 b (fun j => j)) (hab : a ≠ b) : z_CV SM zT yX5_copyRow cX5_copyRow 3 0 [.ref a, .ref b] D (z_eqV (z_row D b (fun k => if k < 96 then D.1 a k else D.1 b k))) := by
  refine z_startV SM_ok (by decide +kernel) (fun v hv => by simp at hv; rcases hv with rfl | rfl <;> rfl) (Nat.le_of_ble_eq_true rfl) (fun X F hR => ?_)
  show z_J X SM 0 [some (.ref a), some (.ref b), none] [] D
  have loop : ∀ (n c : Nat), c + n = 96 → z_J X SM 2 [some (.ref a), some (.ref b), some (.int (nI c))] [] (z_row D b (fun k => if k < c then D.1 a k else D.1 b k)) := by
    intro n
    induction n with
    | zero =>
      intro c hn
      refine z_iload2 F dX5_copyRow_2 ?_
      refine z_bipush F 96 dX5_copyRow_3 zv_b_96 ?_
      refine z_ic_ge F 20 dX5_copyRow_5 (by decide) (fun h5 => ?_) (fun h5 => ?_)
      · refine hR _ _ _ dX5_copyRow_20 ?_
        show _ = _
        rw [show c = 96 by omega]
      · exact absurd (show (96 : Int32) ≤ nI c from nI_le (a := 96) (by omega) (by omega)) h5
    | succ n ih =>
      intro c hn
      refine z_iload2 F dX5_copyRow_2 ?_
      refine z_bipush F 96 dX5_copyRow_3 zv_b_96 ?_
      refine z_ic_ge F 20 dX5_copyRow_5 (by decide) (fun h5 => ?_) (fun h5 => ?_)
      · exact absurd h5 (nI_ge (a := c) (b := 96) (by omega) (by omega))
      · refine z_aload1 F dX5_copyRow_8 ?_
        refine z_iload2 F dX5_copyRow_9 ?_
        refine z_aload0 F dX5_copyRow_10 ?_
        refine z_iload2 F dX5_copyRow_11 ?_
        refine z_iald F ha (c) rfl (by omega) dX5_copyRow_12 ?_
        refine z_iast F hb (c) rfl (by omega) dX5_copyRow_13 ?_
        refine z_iinc2 F 1 dX5_copyRow_14 rfl zv_i_1 ?_
        refine z_goto F 2 dX5_copyRow_17 (by decide) ?_
        have h := ih (c + 1) (by omega)
        rw [nI_succ] at h
        rw [z_rowo _ _ hab, z_rowfill]
        exact h
  refine z_iconst F 0 dX5_copyRow_0 zv_i_0 ?_
  refine z_istore2 F dX5_copyRow_1 rfl ?_
  have h := loop 96 0 (by omega)
  simp only [Nat.not_lt_zero, if_false] at h
  rw [z_row_eq] at h
  exact h
set_option maxHeartbeats 4000000 in
set_option maxRecDepth 20000 in
theorem c5_isCoin (D : zD) (c : Int32) {N : Nat} (hN : D.1 1 4 = nI N) (h10 : N ≤ 10) : z_CI SM zT yX5_isCoin cX5_isCoin 2 .boolean 1 [.ref 0, .int c] D (z_eq (z_b (b_coin c N)) D) := by
  refine z_startI SM_ok (by decide +kernel) (fun v hv => by simp at hv; rcases hv with rfl | rfl <;> rfl) (Nat.le_of_ble_eq_true rfl) (fun X F hR => ?_)
  show z_J X SM 0 [some (.ref 0), some (.int c)] [] D
  refine z_iload1 F dX5_isCoin_0 ?_
  refine z_iconst F 0 dX5_isCoin_1 zv_i_0 ?_
  refine z_aload0 F dX5_isCoin_2 ?_
  refine z_getR F M_now fX5_9 dX5_isCoin_3 ?_
  refine z_iconst F 4 dX5_isCoin_6 zv_i_4 ?_
  refine z_iald F aM_now (4) rfl (by omega) dX5_isCoin_7 ?_
  refine z_iconst F 1 dX5_isCoin_8 zv_i_1 ?_
  refine z_isub F dX5_isCoin_9 ?_
  refine z_callSI3 F (c5_within _ _ _ _) kX5_78 (by decide) (Nat.le_of_ble_eq_true rfl) rfl dX5_isCoin_10 ?_
  refine hR _ _ _ _ dX5_isCoin_13 (z_narB _) ?_
  exact ⟨by rw [hN, b_coin_in c h10], rfl⟩
set_option maxHeartbeats 4000000 in
set_option maxRecDepth 20000 in
theorem c5_isKind (D : zD) (k : Int32) : z_CI SM zT yX5_isKind cX5_isKind 1 .boolean 1 [.int k] D (z_eq (z_b (b_in k 0 6)) D) := by
  refine z_startI SM_ok (by decide +kernel) (fun v hv => by simp at hv; subst hv; rfl) (Nat.le_of_ble_eq_true rfl) (fun X F hR => ?_)
  show z_J X SM 0 [some (.int k)] [] D
  refine z_iload0 F dX5_isKind_0 ?_
  refine z_iconst F 0 dX5_isKind_1 zv_i_0 ?_
  refine z_bipush F 6 dX5_isKind_2 zv_b_6 ?_
  refine z_callSI3 F (c5_within _ _ _ _) kX5_78 (by decide) (Nat.le_of_ble_eq_true rfl) rfl dX5_isKind_4 ?_
  refine hR _ _ _ _ dX5_isKind_7 (z_narB _) ?_
  exact ⟨rfl, rfl⟩
set_option maxHeartbeats 4000000 in
set_option maxRecDepth 20000 in
theorem c5_isPlace (D : zD) (k : Int32) : z_CI SM zT yX5_isPlace cX5_isPlace 1 .boolean 1 [.int k] D (z_eq (z_b (b_in k 0 4)) D) := by
  refine z_startI SM_ok (by decide +kernel) (fun v hv => by simp at hv; subst hv; rfl) (Nat.le_of_ble_eq_true rfl) (fun X F hR => ?_)
  show z_J X SM 0 [some (.int k)] [] D
  refine z_iload0 F dX5_isPlace_0 ?_
  refine z_iconst F 0 dX5_isPlace_1 zv_i_0 ?_
  refine z_iconst F 4 dX5_isPlace_2 zv_i_4 ?_
  refine z_callSI3 F (c5_within _ _ _ _) kX5_78 (by decide) (Nat.le_of_ble_eq_true rfl) rfl dX5_isPlace_3 ?_
  refine hR _ _ _ _ dX5_isPlace_6 (z_narB _) ?_
  exact ⟨rfl, rfl⟩
set_option maxHeartbeats 4000000 in
set_option maxRecDepth 20000 in
theorem c5_isTooLate (D : zD) (k : Int32) : z_CI SM zT yX5_isTooLate cX5_isTooLate 2 .boolean 0 [.ref 0, .int k] D (z_eq (z_b (decide (9999 < D.1 1 0 + k))) D) := by
  refine z_startI SM_ok (by decide +kernel) (fun v hv => by simp at hv; rcases hv with rfl | rfl <;> rfl) (Nat.le_of_ble_eq_true rfl) (fun X F hR => ?_)
  show z_J X SM 0 [some (.ref 0), some (.int k)] [] D
  refine z_aload0 F dX5_isTooLate_0 ?_
  refine z_getR F M_now fX5_9 dX5_isTooLate_1 ?_
  refine z_iconst F 0 dX5_isTooLate_4 zv_i_0 ?_
  refine z_iald F aM_now (0) rfl (by omega) dX5_isTooLate_5 ?_
  refine z_iload1 F dX5_isTooLate_6 ?_
  refine z_iadd F dX5_isTooLate_7 ?_
  refine z_sipush F 9999 dX5_isTooLate_8 zv_s_9999 ?_
  refine z_ic_le F 18 dX5_isTooLate_11 (by decide) (fun h11 => ?_) (fun h11 => ?_)
  · refine z_iconst F 0 dX5_isTooLate_18 zv_i_0 ?_
    refine hR _ _ _ _ dX5_isTooLate_19 rfl ?_
    exact ⟨by simp only [← Int32.not_le]; simp [z_b, h11], rfl⟩
  · refine z_iconst F 1 dX5_isTooLate_14 zv_i_1 ?_
    refine z_goto F 19 dX5_isTooLate_15 (by decide) ?_
    refine hR _ _ _ _ dX5_isTooLate_19 rfl ?_
    exact ⟨by simp only [← Int32.not_le]; simp [z_b, h11], rfl⟩
set_option maxHeartbeats 4000000 in
set_option maxRecDepth 20000 in
theorem c5_isLate (D : zD) : z_CI SM zT yX5_isLate cX5_isLate 1 .boolean 0 [.ref 0] D (z_eq (z_b (decide (9899 < D.1 1 0))) D) := by
  refine z_startI SM_ok (by decide +kernel) (fun v hv => by simp at hv; subst hv; rfl) (Nat.le_of_ble_eq_true rfl) (fun X F hR => ?_)
  show z_J X SM 0 [some (.ref 0)] [] D
  refine z_aload0 F dX5_isLate_0 ?_
  refine z_getR F M_now fX5_9 dX5_isLate_1 ?_
  refine z_iconst F 0 dX5_isLate_4 zv_i_0 ?_
  refine z_iald F aM_now (0) rfl (by omega) dX5_isLate_5 ?_
  refine z_sipush F 9899 dX5_isLate_6 zv_s_9899 ?_
  refine z_ic_le F 16 dX5_isLate_9 (by decide) (fun h9 => ?_) (fun h9 => ?_)
  · refine z_iconst F 0 dX5_isLate_16 zv_i_0 ?_
    refine hR _ _ _ _ dX5_isLate_17 rfl ?_
    exact ⟨by simp only [← Int32.not_le]; simp [z_b, *], rfl⟩
  · refine z_iconst F 1 dX5_isLate_12 zv_i_1 ?_
    refine z_goto F 17 dX5_isLate_13 (by decide) ?_
    refine hR _ _ _ _ dX5_isLate_17 rfl ?_
    exact ⟨by simp only [← Int32.not_le]; simp [z_b, *], rfl⟩
set_option maxHeartbeats 4000000 in
set_option maxRecDepth 20000 in
theorem c5_inPocket (D : zD) (c : Nat) (hc : c < 10) : z_CV SM zT yX5_inPocket cX5_inPocket 3 4 [.ref 0, .int (nI c)] D (z_eqV (z_row D 1 (s_inP (D.1 1) c))) := by
  refine z_startV SM_ok (by decide +kernel) (fun v hv => by simp at hv; rcases hv with rfl | rfl <;> rfl) (Nat.le_of_ble_eq_true rfl) (fun X F hR => ?_)
  show z_J X SM 0 [some (.ref 0), some (.int (nI c)), none] [] D
  refine z_aload0 F dX5_inPocket_0 ?_
  refine z_getR F M_now fX5_9 dX5_inPocket_1 ?_
  refine z_iload1 F dX5_inPocket_4 ?_
  refine z_iconst F 5 dX5_inPocket_5 zv_i_5 ?_
  refine z_callSI2 F (c5_at _ (c) 5) kX5_82 (by decide) (Nat.le_of_ble_eq_true rfl) rfl dX5_inPocket_6 ?_
  refine z_bipush F 9 dX5_inPocket_9 zv_b_9 ?_
  refine z_aload0 F dX5_inPocket_11 ?_
  refine z_iload1 F dX5_inPocket_12 ?_
  refine z_iconst F 5 dX5_inPocket_13 zv_i_5 ?_
  refine z_callVI2 F (c5_coinIs _ (c) 5 (by omega) (by decide)) kX5_105 (by decide) ocM (Nat.le_of_ble_eq_true rfl) rfl dX5_inPocket_14 ?_
  refine z_aload0 F dX5_inPocket_17 ?_
  refine z_iload1 F dX5_inPocket_18 ?_
  refine z_callVI1 F (c5_goes _ (c) (by omega)) kX5_123 (by decide) ocM (Nat.le_of_ble_eq_true rfl) rfl dX5_inPocket_19 ?_
  refine z_iadd F dX5_inPocket_22 ?_
  refine z_min F zw_820 (by decide) rfl (Nat.le_of_ble_eq_true rfl) dX5_inPocket_23 ?_
  refine z_iast F aM_now (16 + 8 * c + 5) rfl (by omega) dX5_inPocket_26 ?_
  refine z_aload0 F dX5_inPocket_27 ?_
  refine z_iload1 F dX5_inPocket_28 ?_
  refine z_iconst F 5 dX5_inPocket_29 zv_i_5 ?_
  refine z_callVI2 F (c5_coinIs _ (c) 5 (by omega) (by decide)) kX5_105 (by decide) ocM (Nat.le_of_ble_eq_true rfl) rfl dX5_inPocket_30 ?_
  refine z_iconst F 3 dX5_inPocket_33 zv_i_3 ?_
  refine z_ic_ge F 38 dX5_inPocket_34 (by decide) (fun h34 => ?_) (fun h34 => ?_)
  · refine z_aload0 F dX5_inPocket_38 ?_
    refine z_iload1 F dX5_inPocket_39 ?_
    refine z_callVI1 F (c5_thick _ (c) (by omega)) kX5_117 (by decide) ocM (Nat.le_of_ble_eq_true rfl) rfl dX5_inPocket_40 ?_
    refine z_aload0 F dX5_inPocket_43 ?_
    refine z_getR F M_now fX5_9 dX5_inPocket_44 ?_
    refine z_iconst F 1 dX5_inPocket_47 zv_i_1 ?_
    refine z_iald F aM_now (1) rfl (by omega) dX5_inPocket_48 ?_
    refine z_ic_gt F 89 dX5_inPocket_49 (by decide) (fun h49 => ?_) (fun h49 => ?_)
    · refine z_aload0 F dX5_inPocket_89 ?_
      refine z_iload1 F dX5_inPocket_90 ?_
      refine z_iconst F 0 dX5_inPocket_91 zv_i_0 ?_
      refine z_callVI2 F (c5_coinIs _ (c) 0 (by omega) (by decide)) kX5_105 (by decide) ocM (Nat.le_of_ble_eq_true rfl) rfl dX5_inPocket_92 ?_
      refine z_iconst F 4 dX5_inPocket_95 zv_i_4 ?_
      refine z_ic_ne F 115 dX5_inPocket_96 (by decide) (fun h96 => ?_) (fun h96 => ?_)
      · refine hR _ _ _ dX5_inPocket_115 ?_
        simp only [z_upr, s_thick_u _ _ (show 16 + 8 * c + 5 ≠ 16 + 8 * c + 0 by omega) (show 16 + 8 * c + 5 ≠ 16 + 8 * c + 1 by omega), u_eq, u_ne _ _ (show 1 ≠ 16 + 8 * c + 5 by omega), u_ne _ _ (show 0 ≠ 16 + 8 * c + 5 by omega), u_ne _ _ (show 16 + 8 * c + 0 ≠ 16 + 8 * c + 5 by omega)] at h34 h49 h96
        have h34 : ¬ s_near (D.1 1) c < 3 := Int32.not_lt.mpr h34
        have h49 : ¬ s_thick (D.1 1) c ≤ D.1 1 1 := Int32.not_le.mpr h49
        show _ = _
        rw [s_inP, if_neg h34, if_neg h49, if_neg (fun q => h96 q.1)]
        simp only [z_up_row, z_row_row, z_rowr, s_near]
      · refine z_aload0 F dX5_inPocket_99 ?_
        refine z_getR F M_now fX5_9 dX5_inPocket_100 ?_
        refine z_iconst F 0 dX5_inPocket_103 zv_i_0 ?_
        refine z_iald F aM_now (0) rfl (by omega) dX5_inPocket_104 ?_
        refine z_iconst F 4 dX5_inPocket_105 zv_i_4 ?_
        refine z_irem F dX5_inPocket_106 (by decide) ?_
        refine z_if_ne F 115 dX5_inPocket_107 (by decide) (fun h107 => ?_) (fun h107 => ?_)
        · refine hR _ _ _ dX5_inPocket_115 ?_
          simp only [z_upr, s_thick_u _ _ (show 16 + 8 * c + 5 ≠ 16 + 8 * c + 0 by omega) (show 16 + 8 * c + 5 ≠ 16 + 8 * c + 1 by omega), u_eq, u_ne _ _ (show 1 ≠ 16 + 8 * c + 5 by omega), u_ne _ _ (show 0 ≠ 16 + 8 * c + 5 by omega), u_ne _ _ (show 16 + 8 * c + 0 ≠ 16 + 8 * c + 5 by omega)] at h34 h49 h96 h107
          have h34 : ¬ s_near (D.1 1) c < 3 := Int32.not_lt.mpr h34
          have h49 : ¬ s_thick (D.1 1) c ≤ D.1 1 1 := Int32.not_le.mpr h49
          show _ = _
          rw [s_inP, if_neg h34, if_neg h49, if_neg (fun q => h107 q.2)]
          simp only [z_up_row, z_row_row, z_rowr, s_near]
        · refine z_aload0 F dX5_inPocket_110 ?_
          refine z_iconst F 1 dX5_inPocket_111 zv_i_1 ?_
          refine z_callVV1 F (c5_wider _ _) kX5_150 (by decide) ocM (Nat.le_of_ble_eq_true rfl) rfl dX5_inPocket_112 ?_
          refine hR _ _ _ dX5_inPocket_115 ?_
          simp only [z_upr, s_thick_u _ _ (show 16 + 8 * c + 5 ≠ 16 + 8 * c + 0 by omega) (show 16 + 8 * c + 5 ≠ 16 + 8 * c + 1 by omega), u_eq, u_ne _ _ (show 1 ≠ 16 + 8 * c + 5 by omega), u_ne _ _ (show 0 ≠ 16 + 8 * c + 5 by omega), u_ne _ _ (show 16 + 8 * c + 0 ≠ 16 + 8 * c + 5 by omega)] at h34 h49 h96 h107
          have h34 : ¬ s_near (D.1 1) c < 3 := Int32.not_lt.mpr h34
          have h49 : ¬ s_thick (D.1 1) c ≤ D.1 1 1 := Int32.not_le.mpr h49
          show _ = _
          rw [s_inP, if_neg h34, if_neg h49, if_pos ⟨h96, h107⟩]
          simp only [z_up_row, z_row_row, z_rowr, s_near, u_ne _ _ (show 1 ≠ 16 + 8 * c + 5 by omega)]
    · refine z_aload0 F dX5_inPocket_52 ?_
      refine z_iload1 F dX5_inPocket_53 ?_
      refine z_callVI1 F (c5_wears _ (c) (by omega)) kX5_126 (by decide) ocM (Nat.le_of_ble_eq_true rfl) rfl dX5_inPocket_54 ?_
      refine z_istore2 F dX5_inPocket_57 rfl ?_
      refine z_aload0 F dX5_inPocket_58 ?_
      refine z_getR F M_now fX5_9 dX5_inPocket_59 ?_
      refine z_iload1 F dX5_inPocket_62 ?_
      refine z_iconst F 4 dX5_inPocket_63 zv_i_4 ?_
      refine z_callSI2 F (c5_at _ (c) 4) kX5_82 (by decide) (Nat.le_of_ble_eq_true rfl) rfl dX5_inPocket_64 ?_
      refine z_iconst F 1 dX5_inPocket_67 zv_i_1 ?_
      refine z_iast F aM_now (16 + 8 * c + 4) rfl (by omega) dX5_inPocket_68 ?_
      refine z_aload0 F dX5_inPocket_69 ?_
      refine z_getR F M_now fX5_9 dX5_inPocket_70 ?_
      refine z_iload1 F dX5_inPocket_73 ?_
      refine z_bipush F 6 dX5_inPocket_74 zv_b_6 ?_
      refine z_callSI2 F (c5_at _ (c) 6) kX5_82 (by decide) (Nat.le_of_ble_eq_true rfl) rfl dX5_inPocket_76 ?_
      refine z_iconst F 0 dX5_inPocket_79 zv_i_0 ?_
      refine z_iast F aM_now (16 + 8 * c + 6) rfl (by omega) dX5_inPocket_80 ?_
      refine z_aload0 F dX5_inPocket_81 ?_
      refine z_iload2 F dX5_inPocket_82 ?_
      refine z_callVV1 F (c5_wider _ _) kX5_150 (by decide) ocM (Nat.le_of_ble_eq_true rfl) rfl dX5_inPocket_83 ?_
      refine z_goto F 115 dX5_inPocket_86 (by decide) ?_
      refine hR _ _ _ dX5_inPocket_115 ?_
      simp only [z_upr, s_thick_u _ _ (show 16 + 8 * c + 5 ≠ 16 + 8 * c + 0 by omega) (show 16 + 8 * c + 5 ≠ 16 + 8 * c + 1 by omega), u_eq, u_ne _ _ (show 1 ≠ 16 + 8 * c + 5 by omega), u_ne _ _ (show 0 ≠ 16 + 8 * c + 5 by omega), u_ne _ _ (show 16 + 8 * c + 0 ≠ 16 + 8 * c + 5 by omega)] at h34 h49
      have h34 : ¬ s_near (D.1 1) c < 3 := Int32.not_lt.mpr h34
      have h49 : s_thick (D.1 1) c ≤ D.1 1 1 := Int32.not_lt.mp h49
      show _ = _
      rw [s_inP, if_neg h34, if_pos h49]
      simp only [z_up_row, z_row_row, z_rowr, s_near, s_wears_u _ _ (show 16 + 8 * c + 5 ≠ 16 + 8 * c + 0 by omega) (show 16 + 8 * c + 5 ≠ 16 + 8 * c + 1 by omega) (show 16 + 8 * c + 5 ≠ 1 by omega), u_ne _ _ (show 1 ≠ 16 + 8 * c + 5 by omega), u_ne _ _ (show 1 ≠ 16 + 8 * c + 4 by omega), u_ne _ _ (show 1 ≠ 16 + 8 * c + 6 by omega)]
  · refine hR _ _ _ dX5_inPocket_37 ?_
    simp only [z_upr, s_thick_u _ _ (show 16 + 8 * c + 5 ≠ 16 + 8 * c + 0 by omega) (show 16 + 8 * c + 5 ≠ 16 + 8 * c + 1 by omega), u_eq, u_ne _ _ (show 1 ≠ 16 + 8 * c + 5 by omega), u_ne _ _ (show 0 ≠ 16 + 8 * c + 5 by omega), u_ne _ _ (show 16 + 8 * c + 0 ≠ 16 + 8 * c + 5 by omega)] at h34
    have h34 : s_near (D.1 1) c < 3 := Int32.not_le.mp h34
    show _ = _
    rw [z_up_row, s_inP, if_pos h34]
    rfl
set_option maxHeartbeats 4000000 in
set_option maxRecDepth 20000 in
theorem c5_hasCompany (D : zD) (c : Nat) {N : Nat} (hN : D.1 1 4 = nI N) (h10 : N ≤ 10) (hc : c < 10) : z_CI SM zT yX5_hasCompany cX5_hasCompany 4 .boolean 3 [.ref 0, .int (nI c)] D (z_eq (z_b (s_comp (D.1 1) c N)) D) := by
  refine z_startI SM_ok (by decide +kernel) (fun v hv => by simp at hv; rcases hv with rfl | rfl <;> rfl) (Nat.le_of_ble_eq_true rfl) (fun X F hR => ?_)
  show z_J X SM 0 [some (.ref 0), some (.int (nI c)), none, none] [] D
  have loop : ∀ (n q : Nat), q + n = N → z_J X SM 4 [some (.ref 0), some (.int (nI c)), some (.int (z_b (s_comp (D.1 1) c q))), some (.int (nI q))] [] D := by
    intro n
    induction n with
    | zero =>
      intro q hn
      refine z_iload3 F dX5_hasCompany_4 ?_
      refine z_aload0 F dX5_hasCompany_5 ?_
      refine z_getR F M_now fX5_9 dX5_hasCompany_6 ?_
      refine z_iconst F 4 dX5_hasCompany_9 zv_i_4 ?_
      refine z_iald F aM_now (4) rfl (by omega) dX5_hasCompany_10 ?_
      refine z_ic_ge F 61 dX5_hasCompany_11 (by decide) (fun h11 => ?_) (fun h11 => ?_)
      · refine z_iload2 F dX5_hasCompany_61 ?_
        refine hR _ _ _ _ dX5_hasCompany_62 (z_narB _) ?_
        exact ⟨by rw [show q = N by omega], rfl⟩
      · exact absurd (by rw [hN]; exact nI_le (by omega) (by omega)) h11
    | succ n ih =>
      intro q hn
      refine z_iload3 F dX5_hasCompany_4 ?_
      refine z_aload0 F dX5_hasCompany_5 ?_
      refine z_getR F M_now fX5_9 dX5_hasCompany_6 ?_
      refine z_iconst F 4 dX5_hasCompany_9 zv_i_4 ?_
      refine z_iald F aM_now (4) rfl (by omega) dX5_hasCompany_10 ?_
      refine z_ic_ge F 61 dX5_hasCompany_11 (by decide) (fun h11 => ?_) (fun h11 => ?_)
      · exact absurd h11 (by rw [hN]; exact nI_ge (by omega) (by omega))
      · refine z_iload2 F dX5_hasCompany_14 ?_
        refine z_ifb_ne F 49 dX5_hasCompany_15 (by decide) (fun h15 => ?_) (fun h15 => ?_)
        · refine z_iconst F 1 dX5_hasCompany_49 zv_i_1 ?_
          refine z_goto F 54 dX5_hasCompany_50 (by decide) ?_
          refine z_istore2 F dX5_hasCompany_54 rfl ?_
          refine z_iinc3 F 1 dX5_hasCompany_55 rfl zv_i_1 ?_
          refine z_goto F 4 dX5_hasCompany_58 (by decide) ?_
          have h := ih (q + 1) (by omega)
          rw [nI_succ] at h
          try simp only [nI_eq (show q < 2 ^ 31 by omega) (show c < 2 ^ 31 by omega), decide_eq_true_eq, decide_eq_false_iff_not] at *
          have e : s_comp (D.1 1) c (q + 1) = true ∨ s_comp (D.1 1) c (q + 1) = false := by cases s_comp (D.1 1) c (q + 1) <;> simp
          rcases e with e | e <;> rw [e] at h <;> first | exact h | (exfalso; simp_all [s_comp])
        · refine z_iload3 F dX5_hasCompany_18 ?_
          refine z_iload1 F dX5_hasCompany_19 ?_
          refine z_ic_eq F 53 dX5_hasCompany_20 (by decide) (fun h20 => ?_) (fun h20 => ?_)
          · refine z_iconst F 0 dX5_hasCompany_53 zv_i_0 ?_
            refine z_istore2 F dX5_hasCompany_54 rfl ?_
            refine z_iinc3 F 1 dX5_hasCompany_55 rfl zv_i_1 ?_
            refine z_goto F 4 dX5_hasCompany_58 (by decide) ?_
            have h := ih (q + 1) (by omega)
            rw [nI_succ] at h
            try simp only [nI_eq (show q < 2 ^ 31 by omega) (show c < 2 ^ 31 by omega), decide_eq_true_eq, decide_eq_false_iff_not] at *
            have e : s_comp (D.1 1) c (q + 1) = true ∨ s_comp (D.1 1) c (q + 1) = false := by cases s_comp (D.1 1) c (q + 1) <;> simp
            rcases e with e | e <;> rw [e] at h <;> first | exact h | (exfalso; simp_all [s_comp])
          · refine z_aload0 F dX5_hasCompany_23 ?_
            refine z_iload3 F dX5_hasCompany_24 ?_
            refine z_iconst F 1 dX5_hasCompany_25 zv_i_1 ?_
            refine z_callVI2 F (c5_isIn _ (q) _ (by omega)) kX5_135 (by decide) ocM (Nat.le_of_ble_eq_true rfl) rfl dX5_hasCompany_26 ?_
            refine z_ifb_eq F 53 dX5_hasCompany_29 (by decide) (fun h29 => ?_) (fun h29 => ?_)
            · refine z_iconst F 0 dX5_hasCompany_53 zv_i_0 ?_
              refine z_istore2 F dX5_hasCompany_54 rfl ?_
              refine z_iinc3 F 1 dX5_hasCompany_55 rfl zv_i_1 ?_
              refine z_goto F 4 dX5_hasCompany_58 (by decide) ?_
              have h := ih (q + 1) (by omega)
              rw [nI_succ] at h
              try simp only [nI_eq (show q < 2 ^ 31 by omega) (show c < 2 ^ 31 by omega), decide_eq_true_eq, decide_eq_false_iff_not] at *
              have e : s_comp (D.1 1) c (q + 1) = true ∨ s_comp (D.1 1) c (q + 1) = false := by cases s_comp (D.1 1) c (q + 1) <;> simp
              rcases e with e | e <;> rw [e] at h <;> first | exact h | (exfalso; simp_all [s_comp])
            · refine z_aload0 F dX5_hasCompany_32 ?_
              refine z_iload3 F dX5_hasCompany_33 ?_
              refine z_bipush F 6 dX5_hasCompany_34 zv_b_6 ?_
              refine z_callVI2 F (c5_coinIs _ (q) 6 (by omega) (by decide)) kX5_105 (by decide) ocM (Nat.le_of_ble_eq_true rfl) rfl dX5_hasCompany_36 ?_
              refine z_aload0 F dX5_hasCompany_39 ?_
              refine z_iload1 F dX5_hasCompany_40 ?_
              refine z_bipush F 6 dX5_hasCompany_41 zv_b_6 ?_
              refine z_callVI2 F (c5_coinIs _ (c) 6 (by omega) (by decide)) kX5_105 (by decide) ocM (Nat.le_of_ble_eq_true rfl) rfl dX5_hasCompany_43 ?_
              refine z_ic_ne F 53 dX5_hasCompany_46 (by decide) (fun h46 => ?_) (fun h46 => ?_)
              · refine z_iconst F 0 dX5_hasCompany_53 zv_i_0 ?_
                refine z_istore2 F dX5_hasCompany_54 rfl ?_
                refine z_iinc3 F 1 dX5_hasCompany_55 rfl zv_i_1 ?_
                refine z_goto F 4 dX5_hasCompany_58 (by decide) ?_
                have h := ih (q + 1) (by omega)
                rw [nI_succ] at h
                try simp only [nI_eq (show q < 2 ^ 31 by omega) (show c < 2 ^ 31 by omega), decide_eq_true_eq, decide_eq_false_iff_not] at *
                have e : s_comp (D.1 1) c (q + 1) = true ∨ s_comp (D.1 1) c (q + 1) = false := by cases s_comp (D.1 1) c (q + 1) <;> simp
                rcases e with e | e <;> rw [e] at h <;> first | exact h | (exfalso; simp_all [s_comp])
              · refine z_iconst F 1 dX5_hasCompany_49 zv_i_1 ?_
                refine z_goto F 54 dX5_hasCompany_50 (by decide) ?_
                refine z_istore2 F dX5_hasCompany_54 rfl ?_
                refine z_iinc3 F 1 dX5_hasCompany_55 rfl zv_i_1 ?_
                refine z_goto F 4 dX5_hasCompany_58 (by decide) ?_
                have h := ih (q + 1) (by omega)
                rw [nI_succ] at h
                try simp only [nI_eq (show q < 2 ^ 31 by omega) (show c < 2 ^ 31 by omega), decide_eq_true_eq, decide_eq_false_iff_not] at *
                have e : s_comp (D.1 1) c (q + 1) = true ∨ s_comp (D.1 1) c (q + 1) = false := by cases s_comp (D.1 1) c (q + 1) <;> simp
                rcases e with e | e <;> rw [e] at h <;> first | exact h | (exfalso; simp_all [s_comp])
  refine z_iconst F 0 dX5_hasCompany_0 zv_i_0 ?_
  refine z_istore2 F dX5_hasCompany_1 rfl ?_
  refine z_iconst F 0 dX5_hasCompany_2 zv_i_0 ?_
  refine z_istore3 F dX5_hasCompany_3 rfl ?_
  exact loop N 0 (by omega)
