set_option maxHeartbeats 1000000 in
set_option maxRecDepth 20000 in
theorem c3_isLetter (D : zD) (x : Int32) : z_CI SX zT yX3_isLetter cX3_isLetter 1 .boolean 0 [.int x] D (z_eq (z_b (b_in x 97 122)) D) := by
  refine z_startI SX_ok (by decide +kernel) (fun v hv => by simp at hv; subst hv; rfl) (Nat.le_of_ble_eq_true rfl) (fun X F hR => ?_)
  show z_J X SX 0 [some (.int x)] [] D
  refine z_iload0 F dX3_isLetter_0 ?_
  refine z_bipush F 97 dX3_isLetter_1 zv_b_97 ?_
  refine z_ic_lt F 16 dX3_isLetter_3 (by decide) (fun h3 => ?_) (fun h3 => ?_)
  · refine z_iconst F 0 dX3_isLetter_16 zv_i_0 ?_
    refine hR _ _ _ _ dX3_isLetter_17 rfl ?_
    exact ⟨by rw [b_in, decide_eq_false (Int32.not_le.mpr h3)]; simp [z_b], rfl⟩
  · refine z_iload0 F dX3_isLetter_6 ?_
    refine z_bipush F 122 dX3_isLetter_7 zv_b_122 ?_
    refine z_ic_gt F 16 dX3_isLetter_9 (by decide) (fun h9 => ?_) (fun h9 => ?_)
    · refine z_iconst F 0 dX3_isLetter_16 zv_i_0 ?_
      refine hR _ _ _ _ dX3_isLetter_17 rfl ?_
      exact ⟨by rw [b_in, decide_eq_false (Int32.not_le.mpr h9)]; simp [z_b], rfl⟩
    · refine z_iconst F 1 dX3_isLetter_12 zv_i_1 ?_
      refine z_goto F 17 dX3_isLetter_13 (by decide) ?_
      refine hR _ _ _ _ dX3_isLetter_17 rfl ?_
      exact ⟨by rw [b_in, decide_eq_true (Int32.not_lt.mp h3), decide_eq_true (Int32.not_lt.mp h9)]; rfl, rfl⟩
set_option maxHeartbeats 1000000 in
set_option maxRecDepth 20000 in
theorem c3_isDigit (D : zD) (x : Int32) : z_CI SX zT yX3_isDigit cX3_isDigit 1 .boolean 0 [.int x] D (z_eq (z_b (b_in x 48 57)) D) := by
  refine z_startI SX_ok (by decide +kernel) (fun v hv => by simp at hv; subst hv; rfl) (Nat.le_of_ble_eq_true rfl) (fun X F hR => ?_)
  show z_J X SX 0 [some (.int x)] [] D
  refine z_iload0 F dX3_isDigit_0 ?_
  refine z_bipush F 48 dX3_isDigit_1 zv_b_48 ?_
  refine z_ic_lt F 16 dX3_isDigit_3 (by decide) (fun h3 => ?_) (fun h3 => ?_)
  · refine z_iconst F 0 dX3_isDigit_16 zv_i_0 ?_
    refine hR _ _ _ _ dX3_isDigit_17 rfl ?_
    exact ⟨by rw [b_in, decide_eq_false (Int32.not_le.mpr h3)]; simp [z_b], rfl⟩
  · refine z_iload0 F dX3_isDigit_6 ?_
    refine z_bipush F 57 dX3_isDigit_7 zv_b_57 ?_
    refine z_ic_gt F 16 dX3_isDigit_9 (by decide) (fun h9 => ?_) (fun h9 => ?_)
    · refine z_iconst F 0 dX3_isDigit_16 zv_i_0 ?_
      refine hR _ _ _ _ dX3_isDigit_17 rfl ?_
      exact ⟨by rw [b_in, decide_eq_false (Int32.not_le.mpr h9)]; simp [z_b], rfl⟩
    · refine z_iconst F 1 dX3_isDigit_12 zv_i_1 ?_
      refine z_goto F 17 dX3_isDigit_13 (by decide) ?_
      refine hR _ _ _ _ dX3_isDigit_17 rfl ?_
      exact ⟨by rw [b_in, decide_eq_true (Int32.not_lt.mp h3), decide_eq_true (Int32.not_lt.mp h9)]; rfl, rfl⟩
set_option maxHeartbeats 1000000 in
set_option maxRecDepth 20000 in
theorem c3_next0 (D : zD) {τ : Nat → Int32} (hτ : D.1 8 = τ) (ρ : Nat → Int32) {t : Nat} (hρ : ρ 12 = nI t) (ht : t ≤ 120) (hby : s_by τ t) (b0 e0 : Nat) (so v0 : Int32) (hk : e0 ≤ t) : z_CV SX zT yX3_toNextToken cX3_toNextToken 1 1 [.ref 40] (z_row D 0 (s_q0 ρ (b0, e0, so, v0))) (fun E => ∃ v, E = z_row D 0 (s_q0 ρ (x_of τ v (s_tok τ t e0)))) := by
  refine z_startV SX_ok (by decide +kernel) (fun v hv => by simp at hv; subst hv; rfl) (Nat.le_of_ble_eq_true rfl) (fun X F hR => ?_)
  show z_J X SX 0 [some (.ref 40)] [] (z_row D 0 (s_q0 ρ (b0, e0, so, v0)))
  obtain ⟨b, hb⟩ : ∃ b, b = t_b τ t e0 := ⟨_, rfl⟩
  have hbt : b ≤ t := by rw [hb]; exact t_b_le hk
  have aft : z_J X SX 46 [some (.ref 40)] [] (z_row D 0 (s_q0 ρ (b, e0, so, v0))) := by
    have l2 : t_le τ t b = true → ¬ s_att τ t b < 0 → ∀ f x, x + f = b + 121 → x ≤ t → s_upto (t_le τ t) f x = s_upto (t_le τ t) 121 b → z_J X SX 93 [some (.ref 40)] [] (z_row D 0 (s_q0 ρ (b, x, 1, v0))) := by
      intro hle hn0 f
      induction f with
      | zero =>
        intro x hx hxt he
        exact absurd hx (by omega)
      | succ f ih =>
        intro x hx hxt2 he
        refine z_aload0 F dX3_toNextToken_93 ?_
        refine z_getI F T_end fX3_22 dX3_toNextToken_94 ?_
        simp only [z_g14]
        refine z_aload0 F dX3_toNextToken_97 ?_
        refine z_getI F T_length fX3_15 dX3_toNextToken_98 ?_
        rw [z_gR _ _ _ (by decide), hρ]
        refine z_ic_ge F 259 dX3_toNextToken_101 (by decide) (fun h101 => ?_) (fun h101 => ?_)
        · have hxt : t ≤ x := (nI_leI (by omega) (by omega)).mp h101
          have hp : t_le τ t x = false := by
            cases z : t_le τ t x with
            | false => rfl
            | true => exact absurd (t_le_lt z) (Nat.not_lt.mpr hxt)
          refine hR _ _ _ dX3_toNextToken_259 ?_
          refine ⟨v0, ?_⟩
          rw [xt_word v0 hb hn0 hle, ← he, s_upto, if_neg (by rw [hp]; decide)]
        · have hxl : x < t := (nI_ltI (by omega) (by omega)).mp (Int32.not_le.mp h101)
          refine z_aload0 F dX3_toNextToken_104 ?_
          refine z_getR F T_bytes fX3_9 dX3_toNextToken_105 ?_
          refine z_aload0 F dX3_toNextToken_108 ?_
          refine z_getI F T_end fX3_22 dX3_toNextToken_109 ?_
          simp only [z_g14]
          refine z_iald F aBytes (x) rfl (by omega) dX3_toNextToken_112 ?_
          rw [z_rowo _ _ (by decide), hτ]
          refine z_callSI1 F (c3_isLetter _ _) kX3_132 (by decide) (Nat.le_of_ble_eq_true rfl) rfl dX3_toNextToken_113 ?_
          refine z_ifb_eq F 259 dX3_toNextToken_116 (by decide) (fun h116 => ?_) (fun h116 => ?_)
          · have hp : t_le τ t x = false := (by rw [t_le, s_att_lt hxl]; exact h116)
            refine hR _ _ _ dX3_toNextToken_259 ?_
            refine ⟨v0, ?_⟩
            rw [xt_word v0 hb hn0 hle, ← he, s_upto, if_neg (by rw [hp]; decide)]
          · refine z_aload0 F dX3_toNextToken_119 ?_
            refine z_dup F dX3_toNextToken_120 rfl ?_
            refine z_getI F T_end fX3_22 dX3_toNextToken_121 ?_
            simp only [z_g14]
            refine z_iconst F 1 dX3_toNextToken_124 zv_i_1 ?_
            refine z_iadd F dX3_toNextToken_125 ?_
            refine z_putI F T_end fX3_22 rfl rfl dX3_toNextToken_126 ?_
            rw [← nI_succ, z_h14]
            refine z_goto F 93 dX3_toNextToken_129 (by decide) ?_
            exact ih (x + 1) (by omega) (by omega) (by rw [← he, s_upto, if_pos (show t_le τ t x = true by rw [t_le, s_att_lt hxl]; exact h116)])
    have l3 : t_le τ t b = false → t_di τ t b = true → ¬ s_att τ t b < 0 → ∀ f n, n + f = 121 → b + n ≤ t → s_upto (t_di τ t) f (b + n) = s_upto (t_di τ t) 121 b → z_J X SX 157 [some (.ref 40)] [] (z_row D 0 (s_q0 ρ (b, (b + n), 2, (s_val τ t b n)))) := by
      intro hle hdi hn0 f
      induction f with
      | zero =>
        intro n hx hxt he
        exact absurd hx (by omega)
      | succ f ih =>
        intro n hx hxt2 he
        refine z_aload0 F dX3_toNextToken_157 ?_
        refine z_getI F T_end fX3_22 dX3_toNextToken_158 ?_
        simp only [z_g14]
        refine z_aload0 F dX3_toNextToken_161 ?_
        refine z_getI F T_length fX3_15 dX3_toNextToken_162 ?_
        rw [z_gR _ _ _ (by decide), hρ]
        refine z_ic_ge F 259 dX3_toNextToken_165 (by decide) (fun h165 => ?_) (fun h165 => ?_)
        · have hxt : t ≤ b + n := (nI_leI (by omega) (by omega)).mp h165
          have hp : t_di τ t (b + n) = false := by
            cases z : t_di τ t (b + n) with
            | false => rfl
            | true => exact absurd (t_di_lt z) (Nat.not_lt.mpr hxt)
          refine hR _ _ _ dX3_toNextToken_259 ?_
          refine ⟨v0, ?_⟩
          rw [xt_num v0 hb hn0 hle hdi, ← he, s_upto, if_neg (by rw [hp]; decide), Nat.add_sub_cancel_left]
        · have hxl : b + n < t := (nI_ltI (by omega) (by omega)).mp (Int32.not_le.mp h165)
          refine z_aload0 F dX3_toNextToken_168 ?_
          refine z_getR F T_bytes fX3_9 dX3_toNextToken_169 ?_
          refine z_aload0 F dX3_toNextToken_172 ?_
          refine z_getI F T_end fX3_22 dX3_toNextToken_173 ?_
          simp only [z_g14]
          refine z_iald F aBytes (b + n) rfl (by omega) dX3_toNextToken_176 ?_
          rw [z_rowo _ _ (by decide), hτ]
          refine z_callSI1 F (c3_isDigit _ _) kX3_136 (by decide) (Nat.le_of_ble_eq_true rfl) rfl dX3_toNextToken_177 ?_
          refine z_ifb_eq F 259 dX3_toNextToken_180 (by decide) (fun h180 => ?_) (fun h180 => ?_)
          · have hp : t_di τ t (b + n) = false := (by rw [t_di, s_att_lt hxl]; exact h180)
            refine hR _ _ _ dX3_toNextToken_259 ?_
            refine ⟨v0, ?_⟩
            rw [xt_num v0 hb hn0 hle hdi, ← he, s_upto, if_neg (by rw [hp]; decide), Nat.add_sub_cancel_left]
          · refine z_aload0 F dX3_toNextToken_183 ?_
            refine z_aload0 F dX3_toNextToken_184 ?_
            refine z_getI F T_value fX3_28 dX3_toNextToken_185 ?_
            simp only [z_g16]
            refine z_bipush F 10 dX3_toNextToken_188 zv_b_10 ?_
            refine z_imul F dX3_toNextToken_190 ?_
            refine z_aload0 F dX3_toNextToken_191 ?_
            refine z_getR F T_bytes fX3_9 dX3_toNextToken_192 ?_
            refine z_aload0 F dX3_toNextToken_195 ?_
            refine z_getI F T_end fX3_22 dX3_toNextToken_196 ?_
            simp only [z_g14]
            refine z_iald F aBytes (b + n) rfl (by omega) dX3_toNextToken_199 ?_
            rw [z_rowo _ _ (by decide), hτ]
            refine z_iadd F dX3_toNextToken_200 ?_
            refine z_bipush F 48 dX3_toNextToken_201 zv_b_48 ?_
            refine z_isub F dX3_toNextToken_203 ?_
            refine z_sipush F 1000 dX3_toNextToken_204 zv_s_1000 ?_
            refine z_min F zw_497 (by decide) rfl (Nat.le_of_ble_eq_true rfl) dX3_toNextToken_207 ?_
            refine z_putI F T_value fX3_28 rfl rfl dX3_toNextToken_210 ?_
            rw [z_h16, show i_min 1000 (s_val τ t b n * 10 + τ (b + n) - 48) = s_val τ t b (n + 1) by rw [s_val, s_att_lt hxl, Int32.mul_comm]]
            refine z_aload0 F dX3_toNextToken_213 ?_
            refine z_dup F dX3_toNextToken_214 rfl ?_
            refine z_getI F T_end fX3_22 dX3_toNextToken_215 ?_
            simp only [z_g14]
            refine z_iconst F 1 dX3_toNextToken_218 zv_i_1 ?_
            refine z_iadd F dX3_toNextToken_219 ?_
            refine z_putI F T_end fX3_22 rfl rfl dX3_toNextToken_220 ?_
            rw [← nI_succ, z_h14]
            refine z_goto F 157 dX3_toNextToken_223 (by decide) ?_
            exact ih (n + 1) (by omega) (by omega) (by rw [← he, s_upto, if_pos (show t_di τ t (b + n) = true by rw [t_di, s_att_lt hxl]; exact h180)]; rfl)
    refine z_aload0 F dX3_toNextToken_46 ?_
    refine z_aload0 F dX3_toNextToken_47 ?_
    refine z_getI F T_begin fX3_19 dX3_toNextToken_48 ?_
    simp only [z_g13]
    refine z_putI F T_end fX3_22 rfl rfl dX3_toNextToken_51 ?_
    rw [z_h14]
    refine z_aload0 F dX3_toNextToken_54 ?_
    refine z_getI F T_begin fX3_19 dX3_toNextToken_55 ?_
    simp only [z_g13]
    refine z_aload0 F dX3_toNextToken_58 ?_
    refine z_getI F T_length fX3_15 dX3_toNextToken_59 ?_
    rw [z_gR _ _ _ (by decide), hρ]
    refine z_ic_lt F 73 dX3_toNextToken_62 (by decide) (fun h62 => ?_) (fun h62 => ?_)
    · have hbl : b < t := (nI_ltI (by omega) (by omega)).mp h62
      have hn0 : ¬ s_att τ t b < 0 := by rw [s_att_lt hbl]; exact Int32.not_lt.mpr (hby b hbl)
      refine z_aload0 F dX3_toNextToken_73 ?_
      refine z_getR F T_bytes fX3_9 dX3_toNextToken_74 ?_
      refine z_aload0 F dX3_toNextToken_77 ?_
      refine z_getI F T_begin fX3_19 dX3_toNextToken_78 ?_
      simp only [z_g13]
      refine z_iald F aBytes (b) rfl (by omega) dX3_toNextToken_81 ?_
      rw [z_rowo _ _ (by decide), hτ]
      refine z_callSI1 F (c3_isLetter _ _) kX3_132 (by decide) (Nat.le_of_ble_eq_true rfl) rfl dX3_toNextToken_82 ?_
      refine z_ifb_eq F 132 dX3_toNextToken_85 (by decide) (fun h85 => ?_) (fun h85 => ?_)
      · have hle : t_le τ t b = false := by rw [t_le, s_att_lt hbl]; exact h85
        refine z_aload0 F dX3_toNextToken_132 ?_
        refine z_getR F T_bytes fX3_9 dX3_toNextToken_133 ?_
        refine z_aload0 F dX3_toNextToken_136 ?_
        refine z_getI F T_begin fX3_19 dX3_toNextToken_137 ?_
        simp only [z_g13]
        refine z_iald F aBytes (b) rfl (by omega) dX3_toNextToken_140 ?_
        rw [z_rowo _ _ (by decide), hτ]
        refine z_callSI1 F (c3_isDigit _ _) kX3_136 (by decide) (Nat.le_of_ble_eq_true rfl) rfl dX3_toNextToken_141 ?_
        refine z_ifb_eq F 226 dX3_toNextToken_144 (by decide) (fun h144 => ?_) (fun h144 => ?_)
        · have hdi : t_di τ t b = false := by rw [t_di, s_att_lt hbl]; exact h144
          refine z_aload0 F dX3_toNextToken_226 ?_
          refine z_aload0 F dX3_toNextToken_227 ?_
          refine z_getR F T_bytes fX3_9 dX3_toNextToken_228 ?_
          refine z_aload0 F dX3_toNextToken_231 ?_
          refine z_getI F T_begin fX3_19 dX3_toNextToken_232 ?_
          simp only [z_g13]
          refine z_iald F aBytes (b) rfl (by omega) dX3_toNextToken_235 ?_
          rw [z_rowo _ _ (by decide), hτ]
          refine z_bipush F 59 dX3_toNextToken_236 zv_b_59 ?_
          refine z_ic_ne F 245 dX3_toNextToken_238 (by decide) (fun h238 => ?_) (fun h238 => ?_)
          · refine z_iconst F 4 dX3_toNextToken_245 zv_i_4 ?_
            refine z_putI F T_sort fX3_25 rfl rfl dX3_toNextToken_246 ?_
            rw [z_h15]
            refine z_aload0 F dX3_toNextToken_249 ?_
            refine z_dup F dX3_toNextToken_250 rfl ?_
            refine z_getI F T_end fX3_22 dX3_toNextToken_251 ?_
            simp only [z_g14]
            refine z_iconst F 1 dX3_toNextToken_254 zv_i_1 ?_
            refine z_iadd F dX3_toNextToken_255 ?_
            refine z_putI F T_end fX3_22 rfl rfl dX3_toNextToken_256 ?_
            rw [← nI_succ, z_h14]
            refine hR _ _ _ dX3_toNextToken_259 ?_
            refine ⟨v0, ?_⟩
            rw [xt_sign v0 hb hn0 hle hdi, if_neg h238]
          · refine z_iconst F 3 dX3_toNextToken_241 zv_i_3 ?_
            refine z_goto F 246 dX3_toNextToken_242 (by decide) ?_
            refine z_putI F T_sort fX3_25 rfl rfl dX3_toNextToken_246 ?_
            rw [z_h15]
            refine z_aload0 F dX3_toNextToken_249 ?_
            refine z_dup F dX3_toNextToken_250 rfl ?_
            refine z_getI F T_end fX3_22 dX3_toNextToken_251 ?_
            simp only [z_g14]
            refine z_iconst F 1 dX3_toNextToken_254 zv_i_1 ?_
            refine z_iadd F dX3_toNextToken_255 ?_
            refine z_putI F T_end fX3_22 rfl rfl dX3_toNextToken_256 ?_
            rw [← nI_succ, z_h14]
            refine hR _ _ _ dX3_toNextToken_259 ?_
            refine ⟨v0, ?_⟩
            rw [xt_sign v0 hb hn0 hle hdi, if_pos h238]
        · refine z_aload0 F dX3_toNextToken_147 ?_
          refine z_iconst F 2 dX3_toNextToken_148 zv_i_2 ?_
          refine z_putI F T_sort fX3_25 rfl rfl dX3_toNextToken_149 ?_
          rw [z_h15]
          refine z_aload0 F dX3_toNextToken_152 ?_
          refine z_iconst F 0 dX3_toNextToken_153 zv_i_0 ?_
          refine z_putI F T_value fX3_28 rfl rfl dX3_toNextToken_154 ?_
          rw [z_h16]
          exact l3 hle (by rw [t_di, s_att_lt hbl]; exact h144) hn0 121 0 rfl hbt rfl
      · refine z_aload0 F dX3_toNextToken_88 ?_
        refine z_iconst F 1 dX3_toNextToken_89 zv_i_1 ?_
        refine z_putI F T_sort fX3_25 rfl rfl dX3_toNextToken_90 ?_
        rw [z_h15]
        exact l2 (by rw [t_le, s_att_lt hbl]; exact h85) hn0 121 b rfl hbt rfl
    · have hbt2 : t ≤ b := (nI_leI (by omega) (by omega)).mp (Int32.not_lt.mp h62)
      refine z_aload0 F dX3_toNextToken_65 ?_
      refine z_iconst F 0 dX3_toNextToken_66 zv_i_0 ?_
      refine z_putI F T_sort fX3_25 rfl rfl dX3_toNextToken_67 ?_
      rw [z_h15]
      refine z_goto F 259 dX3_toNextToken_70 (by decide) ?_
      refine hR _ _ _ dX3_toNextToken_259 ?_
      refine ⟨v0, ?_⟩
      rw [xt_end v0 hb hbt2]
  
  have l1 : ∀ f x, x + f = e0 + 121 → x ≤ t → s_upto (t_sp τ t) f x = s_upto (t_sp τ t) 121 e0 → z_J X SX 8 [some (.ref 40)] [] (z_row D 0 (s_q0 ρ (x, e0, so, v0))) := by
    intro f
    induction f with
    | zero =>
      intro x hx hxt he
      exact absurd hx (by omega)
    | succ f ih =>
      intro x hx hxt2 he
      refine z_aload0 F dX3_toNextToken_8 ?_
      refine z_getI F T_begin fX3_19 dX3_toNextToken_9 ?_
      simp only [z_g13]
      refine z_aload0 F dX3_toNextToken_12 ?_
      refine z_getI F T_length fX3_15 dX3_toNextToken_13 ?_
      rw [z_gR _ _ _ (by decide), hρ]
      refine z_ic_ge F 46 dX3_toNextToken_16 (by decide) (fun h16 => ?_) (fun h16 => ?_)
      · have hxt : t ≤ x := (nI_leI (by omega) (by omega)).mp h16
        have hp : t_sp τ t x = false := by
          cases z : t_sp τ t x with
          | false => rfl
          | true => exact absurd (t_sp_lt z) (Nat.not_lt.mpr hxt)
        rw [s_upto, if_neg (by rw [hp]; decide)] at he
        rw [show x = b from he.trans hb.symm]
        exact aft
      · have hxl : x < t := (nI_ltI (by omega) (by omega)).mp (Int32.not_le.mp h16)
        refine z_aload0 F dX3_toNextToken_19 ?_
        refine z_getR F T_bytes fX3_9 dX3_toNextToken_20 ?_
        refine z_aload0 F dX3_toNextToken_23 ?_
        refine z_getI F T_begin fX3_19 dX3_toNextToken_24 ?_
        simp only [z_g13]
        refine z_iald F aBytes (x) rfl (by omega) dX3_toNextToken_27 ?_
        rw [z_rowo _ _ (by decide), hτ]
        refine z_bipush F 32 dX3_toNextToken_28 zv_b_32 ?_
        refine z_ic_ne F 46 dX3_toNextToken_30 (by decide) (fun h30 => ?_) (fun h30 => ?_)
        · have hp : t_sp τ t x = false := (by rw [t_sp, s_att_lt hxl]; exact decide_eq_false h30)
          rw [s_upto, if_neg (by rw [hp]; decide)] at he
          rw [show x = b from he.trans hb.symm]
          exact aft
        · refine z_aload0 F dX3_toNextToken_33 ?_
          refine z_dup F dX3_toNextToken_34 rfl ?_
          refine z_getI F T_begin fX3_19 dX3_toNextToken_35 ?_
          simp only [z_g13]
          refine z_iconst F 1 dX3_toNextToken_38 zv_i_1 ?_
          refine z_iadd F dX3_toNextToken_39 ?_
          refine z_putI F T_begin fX3_19 rfl rfl dX3_toNextToken_40 ?_
          rw [← nI_succ, z_h13]
          refine z_goto F 8 dX3_toNextToken_43 (by decide) ?_
          exact ih (x + 1) (by omega) (by omega) (by rw [← he, s_upto, if_pos (show t_sp τ t x = true by rw [t_sp, s_att_lt hxl]; exact decide_eq_true h30)])
  
  refine z_aload0 F dX3_toNextToken_0 ?_
  refine z_aload0 F dX3_toNextToken_1 ?_
  refine z_getI F T_end fX3_22 dX3_toNextToken_2 ?_
  simp only [z_g14]
  refine z_putI F T_begin fX3_19 rfl rfl dX3_toNextToken_5 ?_
  rw [z_h13]
  exact l1 121 e0 rfl hk rfl
theorem c3_next (D : zD) {τ : Nat → Int32} (hτ : D.1 8 = τ) (ρ : Nat → Int32) {t : Nat} (hρ : ρ 12 = nI t) (ht : t ≤ 120) (hby : s_by τ t) (kk : zTk) (hk : kk.2.1 ≤ t) : z_CV SX zT yX3_toNextToken cX3_toNextToken 1 1 [.ref 40] (z_row D 0 (s_q0 ρ kk)) (fun E => ∃ v, E = z_row D 0 (s_q0 ρ (x_of τ v (s_tok τ t kk.2.1)))) := c3_next0 D hτ ρ hρ ht hby kk.1 kk.2.1 kk.2.2.1 kk.2.2.2 hk
set_option maxHeartbeats 1000000 in
set_option maxRecDepth 20000 in
theorem c3_isWord (D : zD) {τ : Nat → Int32} (hτ : D.1 8 = τ) (ρ : Nat → Int32) {t : Nat} (hρ : ρ 12 = nI t) (ht : t ≤ 120) (hby : s_by τ t) (v : Int32) (k : zTk) (hk : t_ok t k) {i : Nat} (hi : i < 14) : z_CI SX zT yX3_isWord cX3_isWord 3 .boolean 4 [.ref 40, .ref (1000 + i)] (z_row D 0 (s_q0 ρ (x_of τ v k))) (z_eq (z_b (s_isw τ k i)) (z_row D 0 (s_q0 ρ (x_of τ v k)))) := by
  refine z_startI SX_ok (by decide +kernel) (fun v hv => by simp at hv; rcases hv with rfl | rfl <;> rfl) (Nat.le_of_ble_eq_true rfl) (fun X F hR => ?_)
  show z_J X SX 0 [some (.ref 40), some (.ref (1000 + i)), none] [] (z_row D 0 (s_q0 ρ (x_of τ v k)))
  obtain ⟨hbe, het, hne⟩ := hk
  have hlen := z_sl2 i hi
  refine z_aload0 F dX3_isWord_0 ?_
  refine z_getI F T_sort fX3_25 dX3_isWord_1 ?_
  rw [z_g15]
  refine z_iconst F 1 dX3_isWord_4 zv_i_1 ?_
  refine z_ic_ne F 24 dX3_isWord_5 (by decide) (fun h5 => ?_) (fun h5 => ?_)
  · refine z_iconst F 0 dX3_isWord_24 zv_i_0 ?_
    refine hR _ _ _ _ dX3_isWord_25 rfl ?_
    exact ⟨by rw [s_isw, decide_eq_false (fun z => h5 (x_so1.mpr z))]; rfl, rfl⟩
  · have hs1 : k.2.2.1 = 1 := x_so1.mp h5
    refine z_aload0 F dX3_isWord_8 ?_
    refine z_getI F T_end fX3_22 dX3_isWord_9 ?_
    rw [z_g14]
    refine z_aload0 F dX3_isWord_12 ?_
    refine z_getI F T_begin fX3_19 dX3_isWord_13 ?_
    rw [z_g13]
    refine z_isub F dX3_isWord_16 ?_
    rw [show nI (x_of τ v k).2.1 - nI (x_of τ v k).1 = nI (k.2.1 - k.1) from pk_sub hbe]
    refine z_aload1 F dX3_isWord_17 ?_
    refine z_callTI0 F (cj_length SX_ok _ hi) kX3_120 (by decide) hi rfl (Nat.le_of_ble_eq_true rfl) rfl dX3_isWord_18 ?_
    refine z_ic_eq F 26 dX3_isWord_21 (by decide) (fun h21 => ?_) (fun h21 => ?_)
    · have he : k.2.1 = k.1 + z_sl.getD i 0 := by
        have := (nI_eq (a := k.2.1 - k.1) (b := z_sl.getD i 0) (by omega) (by omega)).mp h21
        omega
      refine z_iconst F 0 dX3_isWord_26 zv_i_0 ?_
      refine z_istore2 F dX3_isWord_27 rfl ?_
      have loop : ∀ (n j : Nat), j + n = z_sl.getD i 0 → s_eqw τ k.1 i j = true → z_J X SX 28 [some (.ref 40), some (.ref (1000 + i)), some (.int (nI j))] [] (z_row D 0 (s_q0 ρ (x_of τ v k))) := by
        intro n
        induction n with
        | zero =>
          intro j hn hq
          refine z_iload2 F dX3_isWord_28 ?_
          refine z_aload1 F dX3_isWord_29 ?_
          refine z_callTI0 F (cj_length SX_ok _ hi) kX3_120 (by decide) hi rfl (Nat.le_of_ble_eq_true rfl) rfl dX3_isWord_30 ?_
          refine z_ic_ge F 63 dX3_isWord_33 (by decide) (fun h33 => ?_) (fun h33 => ?_)
          · refine z_iconst F 1 dX3_isWord_63 zv_i_1 ?_
            refine hR _ _ _ _ dX3_isWord_64 rfl ?_
            exact ⟨by rw [s_isw, decide_eq_true hs1, decide_eq_true he, show z_sl.getD i 0 = j by omega, hq]; rfl, rfl⟩
          · exact absurd (nI_le (by omega) (by omega)) h33
        | succ n ih =>
          intro j hn hq
          refine z_iload2 F dX3_isWord_28 ?_
          refine z_aload1 F dX3_isWord_29 ?_
          refine z_callTI0 F (cj_length SX_ok _ hi) kX3_120 (by decide) hi rfl (Nat.le_of_ble_eq_true rfl) rfl dX3_isWord_30 ?_
          refine z_ic_ge F 63 dX3_isWord_33 (by decide) (fun h33 => ?_) (fun h33 => ?_)
          · exact absurd h33 (nI_ge (by omega) (by omega))
          · refine z_aload0 F dX3_isWord_36 ?_
            refine z_getR F T_bytes fX3_9 dX3_isWord_37 ?_
            refine z_aload0 F dX3_isWord_40 ?_
            refine z_getI F T_begin fX3_19 dX3_isWord_41 ?_
            rw [z_g13]
            refine z_iload2 F dX3_isWord_44 ?_
            refine z_iadd F dX3_isWord_45 ?_
            refine z_iald F aBytes (k.1 + j) (nI_add _ _) (by omega) dX3_isWord_46 ?_
            rw [z_rowo _ _ (by decide), hτ]
            refine z_aload1 F dX3_isWord_47 ?_
            refine z_iload2 F dX3_isWord_48 ?_
            refine z_callTI1 F (cj_charAt SX_ok _ hi (show j < z_sl.getD i 0 by omega)) kX3_124 (by decide) hi rfl (Nat.le_of_ble_eq_true rfl) rfl dX3_isWord_49 ?_
            refine z_ic_eq F 57 dX3_isWord_52 (by decide) (fun h52 => ?_) (fun h52 => ?_)
            · refine z_iinc2 F 1 dX3_isWord_57 rfl zv_i_1 ?_
              refine z_goto F 28 dX3_isWord_60 (by decide) ?_
              have h := ih (j + 1) (by omega) (by rw [s_eqw, hq, decide_eq_true h52]; rfl)
              rw [show nI (j + 1) = nI j + 1 from nI_succ j] at h
              exact h
            · refine z_iconst F 0 dX3_isWord_55 zv_i_0 ?_
              refine hR _ _ _ _ dX3_isWord_56 rfl ?_
              refine ⟨?_, rfl⟩
              have hq2 : s_eqw τ k.1 i (z_sl.getD i 0) = false := by
                cases q : s_eqw τ k.1 i (z_sl.getD i 0) with
                | false => rfl
                | true => exact absurd (s_eqw_at q (show j < z_sl.getD i 0 by omega)) h52
              rw [s_isw, hq2, Bool.and_false]
              rfl
      exact loop (z_sl.getD i 0) 0 (by omega) rfl
    · refine z_iconst F 0 dX3_isWord_24 zv_i_0 ?_
      refine hR _ _ _ _ dX3_isWord_25 rfl ?_
      exact ⟨by rw [s_isw, decide_eq_false (show ¬ k.2.1 = k.1 + z_sl.getD i 0 from fun e => h21 (by rw [e, Nat.add_sub_cancel_left])), Bool.and_false]; rfl, rfl⟩
