/-! a nest mate's private static -/
section ZNN
variable {X : zX} {S : zS} {T : List (String × Nat × Nat)} {cc : ByteArray} {own : String} {nL d pc : Nat} {L : List (Option Value)} {st : List Value} {D : zD}
theorem z_callSNIg (F : z_F X S T cc own nL d) {y : MethodName} {b : ByteArray} {n idx d2 idx2 : Nat} {own2 host : String} {ret : FieldType} {as : List Value} {Post : Int32 → zD → Prop} (hnl : Cond.methodLinkNest own idx y host ∈ zNst) (hL : z_LS own2 idx2 y b n (some ret) as.length) (hC : z_CI S T y b n ret d2 as D Post) (hd2 : d2 < d) (hcat : (st.map fun v => v.category).sum ≤ 8) (hn : L.length = nL) (hd : decode cc pc = .ok (.invokestatic idx, 3)) (K : ∀ r E, Post r E → z_J X S (pc + 3) L (.int r :: st) E) : z_J X S pc L (as.reverse ++ st) D := by
  obtain ⟨p, l, e, R, s, m, args, below, meth, co, Q, G, cy, ad⟩ := X
  obtain ⟨hx, hb, hml, hown, hts, hK, hin, ok, hR, hT⟩ := F
  intro H locs ls hP hS hl
  subst hR
  obtain ⟨hw, hcode, hy, hn20⟩ := hL
  have e1 : (as.reverse ++ st).map (z_v ad) = (as.map (z_v ad)).reverse ++ st.map (z_v ad) := by rw [List.map_append, List.map_reverse]
  rw [e1]
  have hsts : Cond.static y ∈ wsL_law := hw _ (List.mem_cons_of_mem _ List.mem_cons_self)
  have hini : Cond.initialized y.cls ∈ wsL_law := hw _ (List.mem_cons_of_mem _ (List.mem_cons_of_mem _ List.mem_cons_self))
  exact va_calli (va_runSN (As := as.map (z_v ad)) (rest := st.map (z_v ad)) ⟨hx, hb, hml, hown, hts⟩ (hC l G cy ad hin) ⟨va_cnB as.length hts (z_goodIn (ws := []) hcode (fun _ h => absurd h List.not_mem_nil)) rfl rfl rfl (hT.2.2.1 _ hnl) (hts _ hini) hy ⟨by show d2 + 1 ≤ d; omega, by show 8 + (n + 11) + 40 * d2 ≤ 40 * d; omega⟩, hts _ hsts, trivial⟩ ⟨z_Bblind, fun U hU hW => ⟨rfl, by rw [hU]; exact hP, va_K.moved hW.alike hK, by rw [hU]; exact (hT.warm hW).kept hS.2.1⟩⟩ rfl (by simp) (hl.1.trans hn) rfl (lv_room (by rw [z_v_sum]; exact hcat)) hd ⟨Nat.le_refl _, Nat.le_refl _⟩) hS (fun _ _ q => q) (fun _ q => q) (fun r u t H1 locs1 ht hvm hp hB hz hk hS1 => K r u hp H1 locs1 ls (by rw [← ht]; exact hB) hS1 hl)
theorem z_callSNI3 (F : z_F X S T cc own nL d) {y : MethodName} {b : ByteArray} {n idx d2 idx2 : Nat} {own2 host : String} {ret : FieldType} {v1 v2 v3 : Value} {r : Int32} {E : zD} (hC : z_CI S T y b n ret d2 [v1, v2, v3] D (z_eq r E)) (hnl : Cond.methodLinkNest own idx y host ∈ zNst) (hL : z_LS own2 idx2 y b n (some ret) 3) (hd2 : d2 < d) (hcat : (st.map fun v => v.category).sum ≤ 8) (hn : L.length = nL) (hd : decode cc pc = .ok (.invokestatic idx, 3)) (K : z_J X S (pc + 3) L (.int r :: st) E) : z_J X S pc L (v3 :: v2 :: v1 :: st) D := z_callSNIg F (as := [v1, v2, v3]) hnl hL hC hd2 hcat hn hd (fun r2 E2 q => by obtain ⟨rfl, rfl⟩ := q; exact K)
end ZNN
set_option maxHeartbeats 1000000 in
set_option maxRecDepth 20000 in
theorem c3_takes (D : zD) {τ : Nat → Int32} (hτ : D.1 8 = τ) (ρ : Nat → Int32) {t : Nat} (hρ : ρ 12 = nI t) (ht : t ≤ 120) (hby : s_by τ t) (v : Int32) (k : zTk) (hk : t_ok t k) {i : Nat} (hi : i < 14) : z_CI SX zT yX3_takesWord cX3_takesWord 2 .boolean 5 [.ref 40, .ref (1000 + i)] (z_row D 0 (s_q0 ρ (x_of τ v k))) (fun r E => r = z_b (s_isw τ k i) ∧ ∃ v2, E = z_row D 0 (s_q0 ρ (x_of τ v2 (m_next τ t (k, false) i).1))) := by
  refine z_startI SX_ok (by decide +kernel) (fun v hv => by simp at hv; rcases hv with rfl | rfl <;> rfl) (Nat.le_of_ble_eq_true rfl) (fun X F hR => ?_)
  show z_J X SX 0 [some (.ref 40), some (.ref (1000 + i))] [] (z_row D 0 (s_q0 ρ (x_of τ v k)))
  refine z_aload0 F dX3_takesWord_0 ?_
  refine z_aload1 F dX3_takesWord_1 ?_
  refine z_callVI1 F (c3_isWord D hτ ρ hρ ht hby v k hk hi) kX3_103 (by decide) ocT (Nat.le_of_ble_eq_true rfl) rfl dX3_takesWord_2 ?_
  refine z_ifb_ne F 10 dX3_takesWord_5 (by decide) (fun h5 => ?_) (fun h5 => ?_)
  · refine z_aload0 F dX3_takesWord_10 ?_
    refine z_callVV0p F (c3_next D hτ ρ hρ ht hby (x_of τ v k) hk.2.1) kX3_31 (by decide) ocT (Nat.le_of_ble_eq_true rfl) rfl dX3_takesWord_11 (fun E hE => ?_)
    obtain ⟨v2, rfl⟩ := hE
    refine z_iconst F 1 dX3_takesWord_14 zv_i_1 ?_
    refine hR _ _ _ _ dX3_takesWord_15 rfl ?_
    exact ⟨by rw [h5]; rfl, v2, by rw [m_next_f, h5]; rfl⟩
  · refine z_iconst F 0 dX3_takesWord_8 zv_i_0 ?_
    refine hR _ _ _ _ dX3_takesWord_9 rfl ?_
    exact ⟨by rw [h5]; rfl, v, by rw [m_next_f, h5]; rfl⟩
set_option maxHeartbeats 1000000 in
set_option maxRecDepth 20000 in
theorem c3_taken (D : zD) {τ : Nat → Int32} (hτ : D.1 8 = τ) (ρ : Nat → Int32) {t : Nat} (hρ : ρ 12 = nI t) (ht : t ≤ 120) (hby : s_by τ t) (v : Int32) (k : zTk) (hk : t_ok t k) (lo hi : Int32) : z_CI SX zT yX3_takenNumber cX3_takenNumber 4 .int 2 [.ref 40, .int lo, .int hi] (z_row D 0 (s_q0 ρ (x_of τ v k))) (fun r E => r = (if (m_num τ t (k, false) lo hi).2 = true then -1 else k.2.2.2) ∧ ∃ v2, E = z_row D 0 (s_q0 ρ (x_of τ v2 (m_num τ t (k, false) lo hi).1))) := by
  refine z_startI SX_ok (by decide +kernel) (fun v hv => by simp at hv; rcases hv with rfl | rfl | rfl <;> rfl) (Nat.le_of_ble_eq_true rfl) (fun X F hR => ?_)
  show z_J X SX 0 [some (.ref 40), some (.int lo), some (.int hi), none] [] (z_row D 0 (s_q0 ρ (x_of τ v k)))
  refine z_aload0 F dX3_takenNumber_0 ?_
  refine z_getI F T_sort fX3_25 dX3_takenNumber_1 ?_
  rw [z_g15]
  refine z_iconst F 2 dX3_takenNumber_4 zv_i_2 ?_
  refine z_ic_ne F 20 dX3_takenNumber_5 (by decide) (fun h5 => ?_) (fun h5 => ?_)
  · refine z_iconst F (-1) dX3_takenNumber_20 zv_i_m1 ?_
    refine hR _ _ _ _ dX3_takenNumber_21 rfl ?_
    have e : (decide (k.2.2.1 = 2) && b_in k.2.2.2 lo hi) = false := by rw [decide_eq_false (fun z => h5 (x_so2.mpr z)), Bool.false_and]
    exact ⟨by rw [m_num_f, e]; rfl, v, by rw [m_num_f, e]; rfl⟩
  · have hs2 : k.2.2.1 = 2 := x_so2.mp h5
    refine z_aload0 F dX3_takenNumber_8 ?_
    refine z_getI F T_value fX3_28 dX3_takenNumber_9 ?_
    rw [z_g16, x_v2 hs2]
    refine z_iload1 F dX3_takenNumber_12 ?_
    refine z_iload2 F dX3_takenNumber_13 ?_
    refine z_callSNI3 F (c4_isWithin _ _ _ _) zw_553 kX4_51 (by decide) (Nat.le_of_ble_eq_true rfl) rfl dX3_takenNumber_14 ?_
    refine z_ifb_ne F 22 dX3_takenNumber_17 (by decide) (fun h17 => ?_) (fun h17 => ?_)
    · refine z_aload0 F dX3_takenNumber_22 ?_
      refine z_getI F T_value fX3_28 dX3_takenNumber_23 ?_
      rw [z_g16, x_v2 hs2]
      have e : (decide (k.2.2.1 = 2) && b_in k.2.2.2 lo hi) = true := by rw [decide_eq_true hs2, h17]; rfl
      refine z_istore3 F dX3_takenNumber_26 rfl ?_
      refine z_aload0 F dX3_takenNumber_27 ?_
      refine z_callVV0p F (c3_next D hτ ρ hρ ht hby (x_of τ v k) hk.2.1) kX3_31 (by decide) ocT (Nat.le_of_ble_eq_true rfl) rfl dX3_takenNumber_28 (fun E hE => ?_)
      obtain ⟨v2, rfl⟩ := hE
      refine z_iload3 F dX3_takenNumber_31 ?_
      refine hR _ _ _ _ dX3_takenNumber_32 rfl ?_
      exact ⟨by rw [m_num_f, e]; rfl, v2, by rw [m_num_f, e]; rfl⟩
    · refine z_iconst F (-1) dX3_takenNumber_20 zv_i_m1 ?_
      refine hR _ _ _ _ dX3_takenNumber_21 rfl ?_
      have e : (decide (k.2.2.1 = 2) && b_in k.2.2.2 lo hi) = false := by rw [h17, Bool.and_false]
      exact ⟨by rw [m_num_f, e]; rfl, v, by rw [m_num_f, e]; rfl⟩
set_option maxHeartbeats 1000000 in
set_option maxRecDepth 20000 in
theorem c3_nameOf (D : zD) (j : Nat) (hj : j < 7) : z_CR SX zT yX3_nameOf cX3_nameOf 1 (.object "java/lang/String") 0 [.int (nI j)] D (1000 + (3 + j)) (z_eqV D) := by
  refine z_startR SX_ok (by decide +kernel) (fun v hv => by simp at hv; subst hv; rfl) (Nat.le_of_ble_eq_true rfl) (fun X F hR => ?_)
  show z_J X SX 0 [some (.int (nI j))] [] D
  refine z_iload0 F dX3_nameOf_0 ?_
  refine z_tsw_0_5 rfl (fun h1 => ?_) (fun h1 => ?_) (fun h1 => ?_) (fun h1 => ?_) (fun h1 => ?_) (fun h1 => ?_) (fun h1 => ?_)
  · refine z_tabIn F 40 dX3_nameOf_1 (by rw [h1]; decide) (by rw [h1]; decide) (by rw [h1]; rfl) (by decide) ?_
    have ej : j = 0 := (nI_eq (a := j) (b := 0) (by omega) (by decide)).mp h1
    subst ej
    refine z_ldcS F sT_3 dX3_nameOf_40 ?_
    refine hR _ _ _ dX3_nameOf_42 ?_
    exact rfl
  · refine z_tabIn F 43 dX3_nameOf_1 (by rw [h1]; decide) (by rw [h1]; decide) (by rw [h1]; rfl) (by decide) ?_
    have ej : j = 1 := (nI_eq (a := j) (b := 1) (by omega) (by decide)).mp h1
    subst ej
    refine z_ldcS F sT_4 dX3_nameOf_43 ?_
    refine hR _ _ _ dX3_nameOf_45 ?_
    exact rfl
  · refine z_tabIn F 46 dX3_nameOf_1 (by rw [h1]; decide) (by rw [h1]; decide) (by rw [h1]; rfl) (by decide) ?_
    have ej : j = 2 := (nI_eq (a := j) (b := 2) (by omega) (by decide)).mp h1
    subst ej
    refine z_ldcS F sT_5 dX3_nameOf_46 ?_
    refine hR _ _ _ dX3_nameOf_48 ?_
    exact rfl
  · refine z_tabIn F 49 dX3_nameOf_1 (by rw [h1]; decide) (by rw [h1]; decide) (by rw [h1]; rfl) (by decide) ?_
    have ej : j = 3 := (nI_eq (a := j) (b := 3) (by omega) (by decide)).mp h1
    subst ej
    refine z_ldcS F sT_6 dX3_nameOf_49 ?_
    refine hR _ _ _ dX3_nameOf_51 ?_
    exact rfl
  · refine z_tabIn F 52 dX3_nameOf_1 (by rw [h1]; decide) (by rw [h1]; decide) (by rw [h1]; rfl) (by decide) ?_
    have ej : j = 4 := (nI_eq (a := j) (b := 4) (by omega) (by decide)).mp h1
    subst ej
    refine z_ldcS F sT_7 dX3_nameOf_52 ?_
    refine hR _ _ _ dX3_nameOf_54 ?_
    exact rfl
  · refine z_tabIn F 55 dX3_nameOf_1 (by rw [h1]; decide) (by rw [h1]; decide) (by rw [h1]; rfl) (by decide) ?_
    have ej : j = 5 := (nI_eq (a := j) (b := 5) (by omega) (by decide)).mp h1
    subst ej
    refine z_ldcS F sT_8 dX3_nameOf_55 ?_
    refine hR _ _ _ dX3_nameOf_57 ?_
    exact rfl
  · refine z_tabOut F 58 dX3_nameOf_1 h1 (by decide) ?_
    have ej : j = 6 := by
      rw [nI_toInt (n := j) (by omega)] at h1
      omega
    subst ej
    refine z_ldcS F sT_9 dX3_nameOf_58 ?_
    refine hR _ _ _ dX3_nameOf_60 ?_
    exact rfl
set_option maxHeartbeats 1000000 in
set_option maxRecDepth 20000 in
theorem c3_kind (D : zD) {τ : Nat → Int32} (hτ : D.1 8 = τ) (ρ : Nat → Int32) {t : Nat} (hρ : ρ 12 = nI t) (ht : t ≤ 120) (hby : s_by τ t) (v : Int32) (k : zTk) (hk : t_ok t k) : z_CI SX zT yX3_kindTold cX3_kindTold 2 .int 5 [.ref 40] (z_row D 0 (s_q0 ρ (x_of τ v k))) (z_eq (m_kd τ k 7) (z_row D 0 (s_q0 ρ (x_of τ v k)))) := by
  refine z_startI SX_ok (by decide +kernel) (fun v hv => by simp at hv; subst hv; rfl) (Nat.le_of_ble_eq_true rfl) (fun X F hR => ?_)
  show z_J X SX 0 [some (.ref 40), none] [] (z_row D 0 (s_q0 ρ (x_of τ v k)))
  refine z_iconst F 0 dX3_kindTold_0 zv_i_0 ?_
  refine z_istore1 F dX3_kindTold_1 rfl ?_
  have loop : ∀ (n j : Nat), j + n = 7 → (∀ i, i < j → s_isw τ k (3 + i) = false) → z_J X SX 2 [some (.ref 40), some (.int (nI j))] [] (z_row D 0 (s_q0 ρ (x_of τ v k))) := by
    intro n
    induction n with
    | zero =>
      intro j hn hq
      refine z_iload1 F dX3_kindTold_2 ?_
      refine z_bipush F 6 dX3_kindTold_3 zv_b_6 ?_
      refine z_ic_gt F 27 dX3_kindTold_5 (by decide) (fun h5 => ?_) (fun h5 => ?_)
      · refine z_iconst F (-1) dX3_kindTold_27 zv_i_m1 ?_
        refine hR _ _ _ _ dX3_kindTold_28 rfl ?_
        exact ⟨(m_kd_no (fun i hi => hq i (by omega))).symm, rfl⟩
      · exact absurd (nI_lt (a := 6) (b := j) (by omega) (by omega)) h5
    | succ n ih =>
      intro j hn hq
      refine z_iload1 F dX3_kindTold_2 ?_
      refine z_bipush F 6 dX3_kindTold_3 zv_b_6 ?_
      refine z_ic_gt F 27 dX3_kindTold_5 (by decide) (fun h5 => ?_) (fun h5 => ?_)
      · exact absurd h5 (nI_nlt (a := 6) (b := j) (by omega) (by omega))
      · refine z_aload0 F dX3_kindTold_8 ?_
        refine z_iload1 F dX3_kindTold_9 ?_
        refine z_callSR1 F (c3_nameOf _ j (by omega)) kX3_99 (by decide) (Nat.le_of_ble_eq_true rfl) rfl dX3_kindTold_10 ?_
        refine z_callVI1 F (c3_isWord D hτ ρ hρ ht hby v k hk (i := 3 + j) (by omega)) kX3_103 (by decide) ocT (Nat.le_of_ble_eq_true rfl) rfl dX3_kindTold_13 ?_
        refine z_ifb_eq F 21 dX3_kindTold_16 (by decide) (fun h16 => ?_) (fun h16 => ?_)
        · refine z_iinc1 F 1 dX3_kindTold_21 rfl zv_i_1 ?_
          refine z_goto F 2 dX3_kindTold_24 (by decide) ?_
          have h := ih (j + 1) (by omega) (fun i hi => by
            rcases Nat.lt_or_ge i j with z | z
            · exact hq i z
            · rw [show i = j by omega]; exact h16)
          rw [show nI (j + 1) = nI j + 1 from nI_succ j] at h
          exact h
        · refine z_iload1 F dX3_kindTold_19 ?_
          refine hR _ _ _ _ dX3_kindTold_20 rfl ?_
          exact ⟨(m_kd_at j (by omega) h16).symm, rfl⟩
  exact loop 7 0 (by omega) (fun i hi => absurd hi (by omega))
set_option maxHeartbeats 1000000 in
set_option maxRecDepth 20000 in
theorem c3_hole (D : zD) {τ : Nat → Int32} (hτ : D.1 8 = τ) (ρ : Nat → Int32) {t : Nat} (hρ : ρ 12 = nI t) (ht : t ≤ 120) (hby : s_by τ t) (T : Nat → Int32) (v : Int32) (k : zTk) (hk : t_ok t k) : z_CI SX zT yX3_readsHole cX3_readsHole 3 .boolean 3 [.ref 40, .ref 2] (z_row (z_row D 2 T) 0 (s_q0 ρ (x_of τ v k))) (fun r E => r = z_b (!(m_num τ t (k, false) 0 99).2) ∧ ∃ v2 T2, E = (z_row (z_row D 2 T2) 0 (s_q0 ρ (x_of τ v2 (m_num τ t (k, false) 0 99).1))) ∧ ((m_num τ t (k, false) 0 99).2 = false → T2 = upd T 1 k.2.2.2)) := by
  refine z_startI SX_ok (by decide +kernel) (fun v hv => by simp at hv; rcases hv with rfl | rfl <;> rfl) (Nat.le_of_ble_eq_true rfl) (fun X F hR => ?_)
  show z_J X SX 0 [some (.ref 40), some (.ref 2), none] [] (z_row (z_row D 2 T) 0 (s_q0 ρ (x_of τ v k)))
  refine z_aload0 F dX3_readsHole_0 ?_
  refine z_iconst F 0 dX3_readsHole_1 zv_i_0 ?_
  refine z_bipush F 99 dX3_readsHole_2 zv_b_99 ?_
  refine z_callVI2p F (c3_taken (z_row D 2 T) (by rw [z_rowo _ _ (by decide)]; exact hτ) ρ hρ ht hby v k hk 0 99) kX3_52 (by decide) ocT (Nat.le_of_ble_eq_true rfl) rfl dX3_readsHole_4 (fun r E hE => ?_)
  obtain ⟨rfl, v2, rfl⟩ := hE
  cases hw : (m_num τ t (k, false) 0 99).2 with
  | true =>
    rw [if_pos rfl]
    refine z_istore2 F dX3_readsHole_7 rfl ?_
    refine z_iload2 F dX3_readsHole_8 ?_
    refine z_iconst F (-1) dX3_readsHole_9 zv_i_m1 ?_
    refine z_ic_ne F 15 dX3_readsHole_10 (by decide) (fun h10 => ?_) (fun h10 => ?_)
    · exact absurd rfl h10
    · refine z_iconst F 0 dX3_readsHole_13 zv_i_0 ?_
      refine hR _ _ _ _ dX3_readsHole_14 rfl ?_
      exact ⟨by rw [hw]; rfl, v2, T, rfl, fun z => by rw [hw] at z; cases z⟩
  | false =>
    rw [if_neg (by decide)]
    have hv := b_in_m1 (by decide) (m_num_w hw).2
    refine z_istore2 F dX3_readsHole_7 rfl ?_
    refine z_iload2 F dX3_readsHole_8 ?_
    refine z_iconst F (-1) dX3_readsHole_9 zv_i_m1 ?_
    refine z_ic_ne F 15 dX3_readsHole_10 (by decide) (fun h10 => ?_) (fun h10 => ?_)
    · refine z_aload1 F dX3_readsHole_15 ?_
      refine z_iload2 F dX3_readsHole_16 ?_
      refine z_putI F (C_hole z_r2) fX3_56 rfl rfl dX3_readsHole_17 ?_
      rw [z_20u]
      refine z_iconst F 1 dX3_readsHole_20 zv_i_1 ?_
      refine hR _ _ _ _ dX3_readsHole_21 rfl ?_
      exact ⟨by rw [hw]; rfl, v2, _, rfl, fun _ => rfl⟩
    · exact absurd h10 hv
set_option maxHeartbeats 1000000 in
set_option maxRecDepth 20000 in
theorem c3_gap (D : zD) {τ : Nat → Int32} (hτ : D.1 8 = τ) (ρ : Nat → Int32) {t : Nat} (hρ : ρ 12 = nI t) (ht : t ≤ 120) (hby : s_by τ t) (T : Nat → Int32) (v : Int32) (k : zTk) (hk : t_ok t k) : z_CI SX zT yX3_readsGap cX3_readsGap 4 .boolean 6 [.ref 40, .ref 2] (z_row (z_row D 2 T) 0 (s_q0 ρ (x_of τ v k))) (fun r E => r = z_b (!(m_num τ t (m_must τ t (m_num τ t (k, false) 0 99) (s_isw τ (m_num τ t (k, false) 0 99).1 2)) 0 7).2) ∧ ∃ v2 T2, E = (z_row (z_row D 2 T2) 0 (s_q0 ρ (x_of τ v2 (m_num τ t (m_must τ t (m_num τ t (k, false) 0 99) (s_isw τ (m_num τ t (k, false) 0 99).1 2)) 0 7).1))) ∧ ((m_num τ t (m_must τ t (m_num τ t (k, false) 0 99) (s_isw τ (m_num τ t (k, false) 0 99).1 2)) 0 7).2 = false → T2 = upd (upd T 2 k.2.2.2) 3 (m_must τ t (m_num τ t (k, false) 0 99) (s_isw τ (m_num τ t (k, false) 0 99).1 2)).1.2.2.2)) := by
  refine z_startI SX_ok (by decide +kernel) (fun v hv => by simp at hv; rcases hv with rfl | rfl <;> rfl) (Nat.le_of_ble_eq_true rfl) (fun X F hR => ?_)
  show z_J X SX 0 [some (.ref 40), some (.ref 2), none, none] [] (z_row (z_row D 2 T) 0 (s_q0 ρ (x_of τ v k)))
  refine z_aload0 F dX3_readsGap_0 ?_
  refine z_iconst F 0 dX3_readsGap_1 zv_i_0 ?_
  refine z_bipush F 99 dX3_readsGap_2 zv_b_99 ?_
  refine z_callVI2p F (c3_taken (z_row D 2 T) (by rw [z_rowo _ _ (by decide)]; exact hτ) ρ hρ ht hby v k hk 0 99) kX3_52 (by decide) ocT (Nat.le_of_ble_eq_true rfl) rfl dX3_readsGap_4 (fun r E hE => ?_)
  obtain ⟨rfl, v2, rfl⟩ := hE
  cases hw : (m_num τ t (k, false) 0 99).2 with
  | true =>
    rw [if_pos rfl]
    have e1 : m_must τ t (m_num τ t (k, false) 0 99) (s_isw τ (m_num τ t (k, false) 0 99).1 2) = m_num τ t (k, false) 0 99 := m_must_t hw
    have e2 : (m_must τ t (m_num τ t (k, false) 0 99) (s_isw τ (m_num τ t (k, false) 0 99).1 2)).2 = true := by rw [e1, hw]
    have e3 : m_num τ t (m_must τ t (m_num τ t (k, false) 0 99) (s_isw τ (m_num τ t (k, false) 0 99).1 2)) 0 7 = m_must τ t (m_num τ t (k, false) 0 99) (s_isw τ (m_num τ t (k, false) 0 99).1 2) := m_num_t e2
    
    refine z_istore2 F dX3_readsGap_7 rfl ?_
    refine z_iload2 F dX3_readsGap_8 ?_
    refine z_iconst F (-1) dX3_readsGap_9 zv_i_m1 ?_
    refine z_ic_eq F 22 dX3_readsGap_10 (by decide) (fun h10 => ?_) (fun h10 => ?_)
    · refine z_iconst F 0 dX3_readsGap_22 zv_i_0 ?_
      refine hR _ _ _ _ dX3_readsGap_23 rfl ?_
      refine ⟨by rw [e3, e2]; rfl, v2, T, ?_, fun z => by rw [e3, e2] at z; cases z⟩
      rw [e3, e1]
    · exact absurd rfl h10
  | false =>
    rw [if_neg (by decide)]
    have hv := b_in_m1 (by decide) (m_num_w hw).2
    obtain ⟨k2, ek2⟩ : ∃ k2, k2 = (m_num τ t (k, false) 0 99).1 := ⟨_, rfl⟩
    have hs : m_num τ t (k, false) 0 99 = (k2, false) := by rw [ek2]; exact s_pair hw
    have hk2 : t_ok t k2 := by rw [ek2]; exact (m_must_ok hk).1
    rw [← ek2]
    refine z_istore2 F dX3_readsGap_7 rfl ?_
    refine z_iload2 F dX3_readsGap_8 ?_
    refine z_iconst F (-1) dX3_readsGap_9 zv_i_m1 ?_
    refine z_ic_eq F 22 dX3_readsGap_10 (by decide) (fun h10 => ?_) (fun h10 => ?_)
    · exact absurd h10 hv
    · refine z_aload0 F dX3_readsGap_13 ?_
      refine z_ldcS F sT_2 dX3_readsGap_14 ?_
      refine z_callVI1p F (c3_takes (z_row D 2 T) (by rw [z_rowo _ _ (by decide)]; exact hτ) ρ hρ ht hby v2 k2 hk2 (i := 2) (by decide)) kX3_36 (by decide) ocT (Nat.le_of_ble_eq_true rfl) rfl dX3_readsGap_16 (fun r E hE => ?_)
      obtain ⟨rfl, v3, rfl⟩ := hE
      refine z_ifb_ne F 24 dX3_readsGap_19 (by decide) (fun h19 => ?_) (fun h19 => ?_)
      · have e2a : m_must τ t (m_num τ t (k, false) 0 99) (s_isw τ (m_num τ t (k, false) 0 99).1 2) = (s_tok τ t k2.2.1, false) := by rw [hs, m_must_f]; show (if s_isw τ k2 2 = true then _ else _) = _; rw [h19]; rfl
        rw [m_next_f, h19, show (if true = true then s_tok τ t k2.2.1 else k2, false).1 = s_tok τ t k2.2.1 from rfl]
        obtain ⟨k3, ek3⟩ : ∃ k3, k3 = s_tok τ t k2.2.1 := ⟨_, rfl⟩
        have hk3 : t_ok t k3 := by rw [ek3]; exact (s_tok_ok hk2.2.1).1
        rw [← ek3]
        rw [← ek3] at e2a
        refine z_aload0 F dX3_readsGap_24 ?_
        refine z_iconst F 0 dX3_readsGap_25 zv_i_0 ?_
        refine z_bipush F 7 dX3_readsGap_26 zv_b_7 ?_
        refine z_callVI2p F (c3_taken (z_row D 2 T) (by rw [z_rowo _ _ (by decide)]; exact hτ) ρ hρ ht hby v3 k3 hk3 0 7) kX3_52 (by decide) ocT (Nat.le_of_ble_eq_true rfl) rfl dX3_readsGap_28 (fun r E hE => ?_)
        obtain ⟨rfl, v4, rfl⟩ := hE
        have e3a : m_num τ t (m_must τ t (m_num τ t (k, false) 0 99) (s_isw τ (m_num τ t (k, false) 0 99).1 2)) 0 7 = m_num τ t (k3, false) 0 7 := by rw [e2a]
        cases hw2 : (m_num τ t (k3, false) 0 7).2 with
        | true =>
          rw [if_pos rfl]
          refine z_istore3 F dX3_readsGap_31 rfl ?_
          refine z_iload3 F dX3_readsGap_32 ?_
          refine z_iconst F (-1) dX3_readsGap_33 zv_i_m1 ?_
          refine z_ic_ne F 39 dX3_readsGap_34 (by decide) (fun h34 => ?_) (fun h34 => ?_)
          · exact absurd rfl h34
          · refine z_iconst F 0 dX3_readsGap_37 zv_i_0 ?_
            refine hR _ _ _ _ dX3_readsGap_38 rfl ?_
            refine ⟨by rw [e3a, hw2]; rfl, v4, T, ?_, fun z => by rw [e3a, hw2] at z; cases z⟩
            rw [e3a]
        | false =>
          rw [if_neg (by decide)]
          have hv2 := b_in_m1 (by decide) (m_num_w hw2).2
          refine z_istore3 F dX3_readsGap_31 rfl ?_
          refine z_iload3 F dX3_readsGap_32 ?_
          refine z_iconst F (-1) dX3_readsGap_33 zv_i_m1 ?_
          refine z_ic_ne F 39 dX3_readsGap_34 (by decide) (fun h34 => ?_) (fun h34 => ?_)
          · refine z_aload1 F dX3_readsGap_39 ?_
            refine z_iload2 F dX3_readsGap_40 ?_
            refine z_putI F (C_gap z_r2) fX3_62 rfl rfl dX3_readsGap_41 ?_
            rw [z_20u]
            refine z_aload1 F dX3_readsGap_44 ?_
            refine z_iload3 F dX3_readsGap_45 ?_
            refine z_putI F (C_at z_r2) fX3_64 rfl rfl dX3_readsGap_46 ?_
            rw [z_20u]
            refine z_iconst F 1 dX3_readsGap_49 zv_i_1 ?_
            refine hR _ _ _ _ dX3_readsGap_50 rfl ?_
            refine ⟨by rw [e3a, hw2]; rfl, v4, upd (upd T 2 k.2.2.2) 3 k3.2.2.2, ?_, fun _ => ?_⟩
            · rw [e3a]
            · rw [e2a]
          · exact absurd h34 hv2
      · have e2a : m_must τ t (m_num τ t (k, false) 0 99) (s_isw τ (m_num τ t (k, false) 0 99).1 2) = (k2, true) := by rw [hs, m_must_f]; show (if s_isw τ k2 2 = true then _ else _) = _; rw [h19]; rfl
        have e2 : (m_must τ t (m_num τ t (k, false) 0 99) (s_isw τ (m_num τ t (k, false) 0 99).1 2)).2 = true := by rw [e2a]
        have e3 : m_num τ t (m_must τ t (m_num τ t (k, false) 0 99) (s_isw τ (m_num τ t (k, false) 0 99).1 2)) 0 7 = m_must τ t (m_num τ t (k, false) 0 99) (s_isw τ (m_num τ t (k, false) 0 99).1 2) := m_num_t e2
        refine z_iconst F 0 dX3_readsGap_22 zv_i_0 ?_
        refine hR _ _ _ _ dX3_readsGap_23 rfl ?_
        refine ⟨by rw [e3, e2]; rfl, v3, T, ?_, fun z => by rw [e3, e2] at z; cases z⟩
        rw [e3, e2a, m_next_f, h19]
        rfl
set_option maxHeartbeats 1000000 in
set_option maxRecDepth 20000 in
theorem c3_part (D : zD) {τ : Nat → Int32} (hτ : D.1 8 = τ) (ρ : Nat → Int32) {t : Nat} (hρ : ρ 12 = nI t) (ht : t ≤ 120) (hby : s_by τ t) (T : Nat → Int32) (v : Int32) (k : zTk) (hk : t_ok t k) (N : Nat) (hN : N < 10) (f i : Nat) (hi : i < 14) (hfn : i_n (nI f) = f) (lo hi_ df : Int32) (hlo : 0 ≤ lo) (hdf : T (16 + 8 * N + f) = df) (hmay : ∀ x, b_in x lo hi_ = true → b_may (nI f) x = true) : z_CI SX zT yX3_readsPart cX3_readsPart 7 .boolean 6 [.ref 40, .ref (10 * 2 + N), .ref (1000 + i), .int (nI f), .int lo, .int hi_] (z_row (z_row D 2 T) 0 (s_q0 ρ (x_of τ v k))) (fun r E => r = z_b (!((m_part τ t (k, false) i lo hi_ df).2).2) ∧ ∃ v2 T2, E = (z_row (z_row D 2 T2) 0 (s_q0 ρ (x_of τ v2 ((m_part τ t (k, false) i lo hi_ df).2).1))) ∧ (((m_part τ t (k, false) i lo hi_ df).2).2 = false → T2 = upd T (16 + 8 * N + f) (m_part τ t (k, false) i lo hi_ df).1)) := by
  refine z_startI SX_ok (by decide +kernel) (fun v hv => by simp at hv; rcases hv with rfl | rfl | rfl | rfl | rfl | rfl <;> rfl) (Nat.le_of_ble_eq_true rfl) (fun X F hR => ?_)
  show z_J X SX 0 [some (.ref 40), some (.ref (10 * 2 + N)), some (.ref (1000 + i)), some (.int (nI f)), some (.int lo), some (.int hi_), none] [] (z_row (z_row D 2 T) 0 (s_q0 ρ (x_of τ v k)))
  refine z_aload0 F dX3_readsPart_0 ?_
  refine z_aload2 F dX3_readsPart_1 ?_
  refine z_callVI1p F (c3_takes (z_row D 2 T) (by rw [z_rowo _ _ (by decide)]; exact hτ) ρ hρ ht hby v k hk hi) kX3_36 (by decide) ocT (Nat.le_of_ble_eq_true rfl) rfl dX3_readsPart_2 (fun r E hE => ?_)
  obtain ⟨rfl, v2, rfl⟩ := hE
  refine z_ifb_ne F 10 dX3_readsPart_5 (by decide) (fun h5 => ?_) (fun h5 => ?_)
  · have e : m_part τ t (k, false) i lo hi_ df = ((s_tok τ t k.2.1).2.2.2, m_num τ t (s_tok τ t k.2.1, false) lo hi_) := by rw [m_part_f, h5]; rfl
    rw [m_next_f, h5, show (if true = true then s_tok τ t k.2.1 else k, false).1 = s_tok τ t k.2.1 from rfl]
    obtain ⟨k2, ek2⟩ : ∃ k2, k2 = s_tok τ t k.2.1 := ⟨_, rfl⟩
    have hk2 : t_ok t k2 := by rw [ek2]; exact (s_tok_ok hk.2.1).1
    rw [← ek2]
    rw [← ek2] at e
    refine z_aload0 F dX3_readsPart_10 ?_
    refine z_iload4 F dX3_readsPart_11 ?_
    refine z_iload5 F dX3_readsPart_13 ?_
    refine z_callVI2p F (c3_taken (z_row D 2 T) (by rw [z_rowo _ _ (by decide)]; exact hτ) ρ hρ ht hby v2 k2 hk2 lo hi_) kX3_52 (by decide) ocT (Nat.le_of_ble_eq_true rfl) rfl dX3_readsPart_15 (fun r E hE => ?_)
    obtain ⟨rfl, v3, rfl⟩ := hE
    cases hw : (m_num τ t (k2, false) lo hi_).2 with
    | true =>
      rw [if_pos rfl]
      refine z_istore6 F dX3_readsPart_18 rfl ?_
      refine z_iload6 F dX3_readsPart_20 ?_
      refine z_iconst F (-1) dX3_readsPart_22 zv_i_m1 ?_
      refine z_ic_ne F 28 dX3_readsPart_23 (by decide) (fun h23 => ?_) (fun h23 => ?_)
      · exact absurd rfl h23
      · refine z_iconst F 0 dX3_readsPart_26 zv_i_0 ?_
        refine hR _ _ _ _ dX3_readsPart_27 rfl ?_
        refine ⟨by rw [e]; show _ = z_b (!(m_num τ t (k2, false) lo hi_).2); rw [hw]; rfl, v3, T, by rw [e], fun z => ?_⟩
        rw [e] at z
        exact absurd (z.symm.trans hw) (by decide)
    | false =>
      rw [if_neg (by decide)]
      have hv := b_in_m1 hlo (m_num_w hw).2
      refine z_istore6 F dX3_readsPart_18 rfl ?_
      refine z_iload6 F dX3_readsPart_20 ?_
      refine z_iconst F (-1) dX3_readsPart_22 zv_i_m1 ?_
      refine z_ic_ne F 28 dX3_readsPart_23 (by decide) (fun h23 => ?_) (fun h23 => ?_)
      · refine z_aload1 F dX3_readsPart_28 ?_
        refine z_iload3 F dX3_readsPart_29 ?_
        refine z_iload6 F dX3_readsPart_30 ?_
        refine z_callVV2 F (by have h := c1_set (z_row (z_row D 2 T) 0 (s_q0 ρ (x_of τ v3 (m_num τ t (k2, false) lo hi_).1))) z_r2 N hN (nI f) k2.2.2.2 (hmay _ (m_num_w hw).2); rw [z_202, z_20r, hfn] at h; exact h) kX3_95 (by decide) (ocK z_r2 hN) (Nat.le_of_ble_eq_true rfl) rfl dX3_readsPart_32 ?_
        refine z_iconst F 1 dX3_readsPart_35 zv_i_1 ?_
        refine hR _ _ _ _ dX3_readsPart_36 rfl ?_
        refine ⟨by rw [e]; show _ = z_b (!(m_num τ t (k2, false) lo hi_).2); rw [hw]; rfl, v3, _, by rw [e], fun _ => by rw [e]⟩
      · exact absurd h23 hv
  · refine z_iconst F 1 dX3_readsPart_8 zv_i_1 ?_
    refine hR _ _ _ _ dX3_readsPart_9 rfl ?_
    have e : m_part τ t (k, false) i lo hi_ df = (df, (k, false)) := by rw [m_part_f, h5]; rfl
    refine ⟨by rw [e]; rfl, v2, T, ?_, fun _ => ?_⟩
    · rw [e, m_next_f, h5]; rfl
    · rw [e, ← hdf, u_self]
