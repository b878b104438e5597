theorem c5_byteR (D : zD) (ρ : Nat → Int32) (k : zTk) (w : Bool) (m : Nat) (c : Int32) {t : Nat} (hρ : ρ 12 = nI t) (ht : t ≤ 120) (j : Nat) (hj : j < 2 ^ 31) : z_CI SM zT yX5_byteAt cX5_byteAt 2 .int 0 [.ref 0, .int (nI j)] (z_row D 0 (s_r0 ρ k w m c)) (z_eq (s_att (D.1 8) t j) (z_row D 0 (s_r0 ρ k w m c))) := by
  have h := c5_byteAt (z_row D 0 (s_r0 ρ k w m c)) j (t := t) (by rw [z_rRo _ _ _ _ _ _ (by decide)]; exact hρ) ht hj
  rw [show s_at (z_row D 0 (s_r0 ρ k w m c)) t j = s_att (D.1 8) t j from by unfold s_at s_att; rw [z_rowo _ _ (by decide)]] at h
  exact h
set_option maxHeartbeats 1000000 in
set_option maxRecDepth 20000 in
theorem c5_next (D : zD) (ρ : Nat → Int32) (k : zTk) (w : Bool) (m : Nat) (c : Int32) {t : Nat} (hρ : ρ 12 = nI t) (ht : t ≤ 120) (hk : k.2.1 ≤ t) : z_CV SM zT yX5_next cX5_next 2 1 [.ref 0] (z_row D 0 (s_r0 ρ k w m c)) (z_eqV (z_row D 0 (s_r0 ρ (s_tok (D.1 8) t k.2.1) w m c))) := by
  refine z_startV SM_ok (by decide +kernel) (fun v hv => by simp at hv; subst hv; rfl) (Nat.le_of_ble_eq_true rfl) (fun X F hR => ?_)
  show z_J X SM 0 [some (.ref 0), none] [] (z_row D 0 (s_r0 ρ k w m c))
  obtain ⟨b0, e0, so, v0⟩ := k
  simp only at hk
  obtain ⟨b, hb⟩ : ∃ b, b = t_b (D.1 8) t e0 := ⟨_, rfl⟩
  have hbt : b ≤ t := by rw [hb]; exact t_b_le hk
  change z_RV X SM cX5_next (z_eqV (z_row D 0 (s_r0 ρ (s_tok (D.1 8) t e0) w m c))) at hR
  have aft : ∀ (a1 : Option Value), z_J X SM 34 [some (.ref 0), a1] [] (z_row D 0 (s_r0 ρ (b, e0, so, v0) w m c)) := by
    intro a1
    have l2 : t_le (D.1 8) t b = true → ¬ s_att (D.1 8) t b < 0 → ∀ f x, x + f = b + 121 → s_upto (t_le (D.1 8) t) f x = s_upto (t_le (D.1 8) t) 121 b → ∀ (a1 : Option Value), z_J X SM 84 [some (.ref 0), a1] [] (z_row D 0 (s_r0 ρ (b, x, 1, 0) w m c)) := by
      intro hle hn0 f
      induction f with
      | zero =>
        intro x hx he a1
        refine z_aload0 F dX5_next_84 ?_
        refine z_aload0 F dX5_next_85 ?_
        refine z_getI F M_ends fX5_238 dX5_next_86 ?_
        simp only [z_r14]
        refine z_callVI1 F (c5_byteR D ρ (b, x, 1, 0) w m c hρ ht x (by omega)) kX5_244 (by decide) ocM (Nat.le_of_ble_eq_true rfl) rfl dX5_next_89 ?_
        refine z_bipush F 97 dX5_next_92 zv_b_97 ?_
        refine z_bipush F 122 dX5_next_94 zv_b_122 ?_
        refine z_callSI3 F (c5_within _ _ _ _) kX5_78 (by decide) (Nat.le_of_ble_eq_true rfl) rfl dX5_next_96 ?_
        refine z_ifb_eq F 206 dX5_next_99 (by decide) (fun h99 => ?_) (fun h99 => ?_)
        · refine hR _ _ _ dX5_next_206 ?_
          show _ = _
          rw [hb, s_tok, ← hb, if_neg hn0, if_pos hle, ← he]
          rfl
        · exact absurd (t_le_lt (τ := D.1 8) (t := t) (k := x) h99) (by omega)
      | succ f ih =>
        intro x hx he a1
        refine z_aload0 F dX5_next_84 ?_
        refine z_aload0 F dX5_next_85 ?_
        refine z_getI F M_ends fX5_238 dX5_next_86 ?_
        simp only [z_r14]
        refine z_callVI1 F (c5_byteR D ρ (b, x, 1, 0) w m c hρ ht x (by omega)) kX5_244 (by decide) ocM (Nat.le_of_ble_eq_true rfl) rfl dX5_next_89 ?_
        refine z_bipush F 97 dX5_next_92 zv_b_97 ?_
        refine z_bipush F 122 dX5_next_94 zv_b_122 ?_
        refine z_callSI3 F (c5_within _ _ _ _) kX5_78 (by decide) (Nat.le_of_ble_eq_true rfl) rfl dX5_next_96 ?_
        refine z_ifb_eq F 206 dX5_next_99 (by decide) (fun h99 => ?_) (fun h99 => ?_)
        · refine hR _ _ _ dX5_next_206 ?_
          show _ = _
          rw [s_upto, if_neg (by rw [show t_le (D.1 8) t x = false from h99]; decide)] at he
          rw [hb, s_tok, ← hb, if_neg hn0, if_pos hle, ← he]
        · refine z_aload0 F dX5_next_102 ?_
          refine z_dup F dX5_next_103 rfl ?_
          refine z_getI F M_ends fX5_238 dX5_next_104 ?_
          simp only [z_r14]
          refine z_iconst F 1 dX5_next_107 zv_i_1 ?_
          refine z_iadd F dX5_next_108 ?_
          refine z_putI F M_ends fX5_238 rfl rfl dX5_next_109 ?_
          rw [← nI_succ, z_p14]
          refine z_goto F 84 dX5_next_112 (by decide) ?_
          exact ih (x + 1) (by omega) (by rw [← he, s_upto, if_pos (show t_le (D.1 8) t x = true from h99)]) _
    have l3 : t_le (D.1 8) t b = false → t_di (D.1 8) t b = true → ¬ s_att (D.1 8) t b < 0 → ∀ f n, n + f = 121 → s_upto (t_di (D.1 8) t) f (b + n) = s_upto (t_di (D.1 8) t) 121 b → ∀ (a1 : Option Value), z_J X SM 131 [some (.ref 0), a1] [] (z_row D 0 (s_r0 ρ (b, (b + n), 2, (s_val (D.1 8) t b n)) w m c)) := by
      intro hle hdi hn0 f
      induction f with
      | zero =>
        intro n hx he a1
        refine z_aload0 F dX5_next_131 ?_
        refine z_aload0 F dX5_next_132 ?_
        refine z_getI F M_ends fX5_238 dX5_next_133 ?_
        simp only [z_r14]
        refine z_callVI1 F (c5_byteR D ρ (b, (b + n), 2, (s_val (D.1 8) t b n)) w m c hρ ht (b + n) (by omega)) kX5_244 (by decide) ocM (Nat.le_of_ble_eq_true rfl) rfl dX5_next_136 ?_
        refine z_bipush F 48 dX5_next_139 zv_b_48 ?_
        refine z_bipush F 57 dX5_next_141 zv_b_57 ?_
        refine z_callSI3 F (c5_within _ _ _ _) kX5_78 (by decide) (Nat.le_of_ble_eq_true rfl) rfl dX5_next_143 ?_
        refine z_ifb_eq F 206 dX5_next_146 (by decide) (fun h146 => ?_) (fun h146 => ?_)
        · refine hR _ _ _ dX5_next_206 ?_
          show _ = _
          rw [hb, s_tok, ← hb, if_neg hn0, if_neg (by rw [hle]; decide), if_pos hdi, ← he, s_upto, Nat.add_sub_cancel_left]
        · exact absurd (t_di_lt (τ := D.1 8) (t := t) (k := b + n) h146) (by omega)
      | succ f ih =>
        intro n hx he a1
        refine z_aload0 F dX5_next_131 ?_
        refine z_aload0 F dX5_next_132 ?_
        refine z_getI F M_ends fX5_238 dX5_next_133 ?_
        simp only [z_r14]
        refine z_callVI1 F (c5_byteR D ρ (b, (b + n), 2, (s_val (D.1 8) t b n)) w m c hρ ht (b + n) (by omega)) kX5_244 (by decide) ocM (Nat.le_of_ble_eq_true rfl) rfl dX5_next_136 ?_
        refine z_bipush F 48 dX5_next_139 zv_b_48 ?_
        refine z_bipush F 57 dX5_next_141 zv_b_57 ?_
        refine z_callSI3 F (c5_within _ _ _ _) kX5_78 (by decide) (Nat.le_of_ble_eq_true rfl) rfl dX5_next_143 ?_
        refine z_ifb_eq F 206 dX5_next_146 (by decide) (fun h146 => ?_) (fun h146 => ?_)
        · refine hR _ _ _ dX5_next_206 ?_
          show _ = _
          rw [s_upto, if_neg (by rw [show t_di (D.1 8) t (b + n) = false from h146]; decide)] at he
          rw [hb, s_tok, ← hb, if_neg hn0, if_neg (by rw [hle]; decide), if_pos hdi, ← he, Nat.add_sub_cancel_left]
        · refine z_aload0 F dX5_next_149 ?_
          refine z_sipush F 1000 dX5_next_150 zv_s_1000 ?_
          refine z_bipush F 10 dX5_next_153 zv_b_10 ?_
          refine z_aload0 F dX5_next_155 ?_
          refine z_getI F M_value fX5_247 dX5_next_156 ?_
          simp only [z_r16]
          refine z_imul F dX5_next_159 ?_
          refine z_aload0 F dX5_next_160 ?_
          refine z_aload0 F dX5_next_161 ?_
          refine z_getI F M_ends fX5_238 dX5_next_162 ?_
          simp only [z_r14]
          refine z_callVI1 F (c5_byteR D ρ (b, (b + n), 2, (s_val (D.1 8) t b n)) w m c hρ ht (b + n) (by omega)) kX5_244 (by decide) ocM (Nat.le_of_ble_eq_true rfl) rfl dX5_next_165 ?_
          refine z_iadd F dX5_next_168 ?_
          refine z_bipush F 48 dX5_next_169 zv_b_48 ?_
          refine z_isub F dX5_next_171 ?_
          refine z_min F zw_820 (by decide) rfl (Nat.le_of_ble_eq_true rfl) dX5_next_172 ?_
          refine z_putI F M_value fX5_247 rfl rfl dX5_next_175 ?_
          rw [z_p16, i_min_c]
          refine z_aload0 F dX5_next_178 ?_
          refine z_dup F dX5_next_179 rfl ?_
          refine z_getI F M_ends fX5_238 dX5_next_180 ?_
          simp only [z_r14]
          refine z_iconst F 1 dX5_next_183 zv_i_1 ?_
          refine z_iadd F dX5_next_184 ?_
          refine z_putI F M_ends fX5_238 rfl rfl dX5_next_185 ?_
          rw [← nI_succ, z_p14]
          refine z_goto F 131 dX5_next_188 (by decide) ?_
          exact ih (n + 1) (by omega) (by rw [← he, s_upto, if_pos (show t_di (D.1 8) t (b + n) = true from h146)]; rfl) _
    refine z_aload0 F dX5_next_34 ?_
    refine z_aload0 F dX5_next_35 ?_
    refine z_getI F M_begins fX5_241 dX5_next_36 ?_
    simp only [z_r13]
    refine z_callVI1 F (c5_byteR D ρ (b, e0, so, v0) w m c hρ ht b (by omega)) kX5_244 (by decide) ocM (Nat.le_of_ble_eq_true rfl) rfl dX5_next_39 ?_
    refine z_istore1 F dX5_next_42 rfl ?_
    refine z_aload0 F dX5_next_43 ?_
    refine z_aload0 F dX5_next_44 ?_
    refine z_getI F M_begins fX5_241 dX5_next_45 ?_
    simp only [z_r13]
    refine z_putI F M_ends fX5_238 rfl rfl dX5_next_48 ?_
    rw [z_p14]
    refine z_aload0 F dX5_next_51 ?_
    refine z_iconst F 0 dX5_next_52 zv_i_0 ?_
    refine z_putI F M_value fX5_247 rfl rfl dX5_next_53 ?_
    rw [z_p16]
    refine z_iload1 F dX5_next_56 ?_
    refine z_if_ge F 68 dX5_next_57 (by decide) (fun h57 => ?_) (fun h57 => ?_)
    · have hn0 := Int32.not_lt.mpr h57
      refine z_iload1 F dX5_next_68 ?_
      refine z_bipush F 97 dX5_next_69 zv_b_97 ?_
      refine z_bipush F 122 dX5_next_71 zv_b_122 ?_
      refine z_callSI3 F (c5_within _ _ _ _) kX5_78 (by decide) (Nat.le_of_ble_eq_true rfl) rfl dX5_next_73 ?_
      refine z_ifb_eq F 115 dX5_next_76 (by decide) (fun h76 => ?_) (fun h76 => ?_)
      · refine z_iload1 F dX5_next_115 ?_
        refine z_bipush F 48 dX5_next_116 zv_b_48 ?_
        refine z_bipush F 57 dX5_next_118 zv_b_57 ?_
        refine z_callSI3 F (c5_within _ _ _ _) kX5_78 (by decide) (Nat.le_of_ble_eq_true rfl) rfl dX5_next_120 ?_
        refine z_ifb_eq F 191 dX5_next_123 (by decide) (fun h123 => ?_) (fun h123 => ?_)
        · refine z_aload0 F dX5_next_191 ?_
          refine z_iconst F 3 dX5_next_192 zv_i_3 ?_
          refine z_putI F M_sort fX5_250 rfl rfl dX5_next_193 ?_
          rw [z_p15]
          refine z_aload0 F dX5_next_196 ?_
          refine z_dup F dX5_next_197 rfl ?_
          refine z_getI F M_ends fX5_238 dX5_next_198 ?_
          simp only [z_r14]
          refine z_iconst F 1 dX5_next_201 zv_i_1 ?_
          refine z_iadd F dX5_next_202 ?_
          refine z_putI F M_ends fX5_238 rfl rfl dX5_next_203 ?_
          refine hR _ _ _ dX5_next_206 ?_
          rw [← nI_succ, z_p14]
          show _ = _
          rw [hb, s_tok, ← hb, if_neg hn0, if_neg (by rw [show t_le (D.1 8) t b = false from h76]; decide), if_neg (by rw [show t_di (D.1 8) t b = false from h123]; decide)]
        · refine z_aload0 F dX5_next_126 ?_
          refine z_iconst F 2 dX5_next_127 zv_i_2 ?_
          refine z_putI F M_sort fX5_250 rfl rfl dX5_next_128 ?_
          exact l3 (show t_le (D.1 8) t b = false from h76) (show t_di (D.1 8) t b = true from h123) hn0 121 0 rfl rfl _
      · refine z_aload0 F dX5_next_79 ?_
        refine z_iconst F 1 dX5_next_80 zv_i_1 ?_
        refine z_putI F M_sort fX5_250 rfl rfl dX5_next_81 ?_
        exact l2 (show t_le (D.1 8) t b = true from h76) hn0 121 b rfl rfl _
    · have hn0 := Int32.not_le.mp h57
      refine z_aload0 F dX5_next_60 ?_
      refine z_iconst F 0 dX5_next_61 zv_i_0 ?_
      refine z_putI F M_sort fX5_250 rfl rfl dX5_next_62 ?_
      rw [z_p15]
      refine z_goto F 206 dX5_next_65 (by decide) ?_
      refine hR _ _ _ dX5_next_206 ?_
      show _ = _
      rw [hb, s_tok, ← hb, if_pos hn0]
  
  have l1 : ∀ f x, x + f = e0 + 121 → s_upto (t_sp (D.1 8) t) f x = s_upto (t_sp (D.1 8) t) 121 e0 → ∀ (a1 : Option Value), z_J X SM 8 [some (.ref 0), a1] [] (z_row D 0 (s_r0 ρ (x, e0, so, v0) w m c)) := by
    intro f
    induction f with
    | zero =>
      intro x hx he a1
      refine z_aload0 F dX5_next_8 ?_
      refine z_aload0 F dX5_next_9 ?_
      refine z_getI F M_begins fX5_241 dX5_next_10 ?_
      simp only [z_r13]
      refine z_callVI1 F (c5_byteR D ρ (x, e0, so, v0) w m c hρ ht x (by omega)) kX5_244 (by decide) ocM (Nat.le_of_ble_eq_true rfl) rfl dX5_next_13 ?_
      refine z_bipush F 32 dX5_next_16 zv_b_32 ?_
      refine z_ic_ne F 34 dX5_next_18 (by decide) (fun h18 => ?_) (fun h18 => ?_)
      · rw [show x = b from he.trans hb.symm]
        exact aft _
      · exact absurd (t_sp_lt (τ := D.1 8) (t := t) (k := x) (decide_eq_true h18)) (by omega)
    | succ f ih =>
      intro x hx he a1
      refine z_aload0 F dX5_next_8 ?_
      refine z_aload0 F dX5_next_9 ?_
      refine z_getI F M_begins fX5_241 dX5_next_10 ?_
      simp only [z_r13]
      refine z_callVI1 F (c5_byteR D ρ (x, e0, so, v0) w m c hρ ht x (by omega)) kX5_244 (by decide) ocM (Nat.le_of_ble_eq_true rfl) rfl dX5_next_13 ?_
      refine z_bipush F 32 dX5_next_16 zv_b_32 ?_
      refine z_ic_ne F 34 dX5_next_18 (by decide) (fun h18 => ?_) (fun h18 => ?_)
      · rw [s_upto, if_neg (by rw [show t_sp (D.1 8) t x = false from decide_eq_false h18]; decide)] at he
        rw [show x = b from he.trans hb.symm]
        exact aft _
      · refine z_aload0 F dX5_next_21 ?_
        refine z_dup F dX5_next_22 rfl ?_
        refine z_getI F M_begins fX5_241 dX5_next_23 ?_
        simp only [z_r13]
        refine z_iconst F 1 dX5_next_26 zv_i_1 ?_
        refine z_iadd F dX5_next_27 ?_
        refine z_putI F M_begins fX5_241 rfl rfl dX5_next_28 ?_
        rw [← nI_succ, z_p13]
        refine z_goto F 8 dX5_next_31 (by decide) ?_
        exact ih (x + 1) (by omega) (by rw [← he, s_upto, if_pos (show t_sp (D.1 8) t x = true from decide_eq_true h18)]) _
  
  refine z_aload0 F dX5_next_0 ?_
  refine z_aload0 F dX5_next_1 ?_
  refine z_getI F M_ends fX5_238 dX5_next_2 ?_
  simp only [z_r14]
  refine z_putI F M_begins fX5_241 rfl rfl dX5_next_5 ?_
  rw [z_p13]
  exact l1 121 e0 rfl rfl none
