/-! STRINGS: rows on the constants, the JDK members asked of them -/
section ZQ
variable {X : zX} {S : zS} {T : List (String × Nat × Nat)} {cc : ByteArray} {own : String} {nL d pc : Nat} {L : List (Option Value)} {st : List Value} {D : zD}
theorem z_sval (F : z_F X S T cc own nL d) {idx i : Nat} (hi : i < 14) (hw : Cond.fieldLink own idx "java/lang/String" "value" "[B" ∈ wsL_law) (hd : decode cc pc = .ok (.getfield idx, 3)) (K : z_J X S (pc + 3) L (.ref (2000 + i) :: st) D) : z_J X S pc L (.ref (1000 + i) :: st) D := by
  obtain ⟨p, l, e, R, s, m, args, below, meth, co, Q, G, cy, ad⟩ := X
  obtain ⟨hx, hb, hml, hown, hts, hK, hin, ok, hR, hT⟩ := F
  intro H locs ls hP hS hl
  exact vk_getf hx hb (hT.1 i hi).2.2.1 hS hown (hts _ hw) (fun _ q => q) hd (K H locs ls hP hS hl)
theorem z_scod (F : z_F X S T cc own nL d) {idx i : Nat} (hi : i < 14) (hw : Cond.fieldLink own idx "java/lang/String" "coder" "B" ∈ wsL_law) (hd : decode cc pc = .ok (.getfield idx, 3)) (K : z_J X S (pc + 3) L (.int 0 :: st) D) : z_J X S pc L (.ref (1000 + i) :: st) D := by
  obtain ⟨p, l, e, R, s, m, args, below, meth, co, Q, G, cy, ad⟩ := X
  obtain ⟨hx, hb, hml, hown, hts, hK, hin, ok, hR, hT⟩ := F
  intro H locs ls hP hS hl
  exact vk_getf hx hb (hT.1 i hi).2.1 hS hown (hts _ hw) (fun _ q => q) hd (K H locs ls hP hS hl)
theorem z_slen (F : z_F X S T cc own nL d) {i : Nat} (hi : i < 14) (hd : decode cc pc = .ok (.arraylength, 1)) (K : z_J X S (pc + 1) L (.int (nI (z_sl.getD i 0)) :: st) D) : z_J X S pc L (.ref (2000 + i) :: st) D := by
  obtain ⟨p, l, e, R, s, m, args, below, meth, co, Q, G, cy, ad⟩ := X
  obtain ⟨hx, hb, hml, hown, hts, hK, hin, ok, hR, hT⟩ := F
  intro H locs ls hP hS hl
  exact va_tlen hx hb (hT.1 i hi).2.2.2 hS rfl hd (K H locs ls hP hS hl)
theorem z_sbald (F : z_F X S T cc own nL d) {i : Nat} (j : Nat) (hi : i < 14) (hj : j < z_sl.getD i 0) (h31 : z_sl.getD i 0 < 2 ^ 31) (hd : decode cc pc = .ok (.baload, 1)) (K : z_J X S (pc + 1) L (.int ((z_sb.getD i []).getD j 0) :: st) D) : z_J X S pc L (.int (nI j) :: .ref (2000 + i) :: st) D := by
  obtain ⟨p, l, e, R, s, m, args, below, meth, co, Q, G, cy, ad⟩ := X
  obtain ⟨hx, hb, hml, hown, hts, hK, hin, ok, hR, hT⟩ := F
  intro H locs ls hP hS hl
  exact va_tb hx hb (hT.1 i hi).2.2.2 hS (vp_in_nI hj h31) (congrArg (fun k => Value.int ((z_sb.getD i []).getD k 0)) (nI_clamp (Nat.lt_trans hj h31))) hd (K H locs ls hP hS hl)
theorem z_sgetZ (F : z_F X S T cc own nL d) {idx : Nat} (hw : Cond.fieldLink own idx "java/lang/String" "COMPACT_STRINGS" "Z" ∈ wsL_law) (hd : decode cc pc = .ok (.getstatic idx, 3)) (K : z_J X S (pc + 3) L (.int 1 :: st) D) : z_J X S pc L (st) D := by
  obtain ⟨p, l, e, R, s, m, args, below, meth, co, Q, G, cy, ad⟩ := X
  obtain ⟨hx, hb, hml, hown, hts, hK, hin, ok, hR, hT⟩ := F
  intro H locs ls hP hS hl
  exact va_gets hx hb hT.2.2.2.1 hS hown (hts _ hw) (fun _ q => q) hd (K H locs ls hP hS hl)
theorem z_sgetP (F : z_F X S T cc own nL d) {idx : Nat} (hw : Cond.fieldLink own idx "jdk/internal/util/Preconditions" "SIOOBE_FORMATTER" "Ljava/util/function/BiFunction;" ∈ wsL_law) (hd : decode cc pc = .ok (.getstatic idx, 3)) (K : z_J X S (pc + 3) L (.ref 3000 :: st) D) (K2 : z_J X S (pc + 3) L (.null :: st) D) : z_J X S pc L st D := by
  obtain ⟨p, l, e, R, s, m, args, below, meth, co, Q, G, cy, ad⟩ := X
  obtain ⟨hx, hb, hml, hown, hts, hK, hin, ok, hR, hT⟩ := F
  intro H locs ls hP hS hl
  obtain ⟨v, hv, hZ⟩ := hT.2.2.2.2
  rcases hv with rfl | rfl
  · exact va_gets hx hb hZ hS hown (hts _ hw) (fun _ q => q) hd (K H locs ls hP hS hl)
  · exact va_gets hx hb hZ hS hown (hts _ hw) (fun _ q => q) hd (K2 H locs ls hP hS hl)
theorem z_i2c (F : z_F X S T cc own nL d) {x : Int32}  (hd : decode cc pc = .ok (.i2c, 1)) (K : z_J X S (pc + 1) L (.int (x.toUInt32 % 65536).toInt32 :: st) D) : z_J X S pc L (.int x :: st) D := by
  obtain ⟨p, l, e, R, s, m, args, below, meth, co, Q, G, cy, ad⟩ := X
  obtain ⟨hx, hb, hml, hown, hts, hK, hin, ok, hR, hT⟩ := F
  intro H locs ls hP hS hl
  exact lv_i2c hx hb hd rfl (K H locs ls hP hS hl)
theorem z_callTIg (F : z_F X S T cc own nL d) {y : MethodName} {b : ByteArray} {n idx d2 i : Nat} {ret : FieldType} {as : List Value} {Post : Int32 → zD → Prop} (hL : z_LV own idx y b n (some ret) as.length) (hC : z_CI S T y b n ret d2 (.ref (1000 + i) :: as) D Post) (hd2 : d2 < d) (hi : i < 14) (hcl : y.cls = "java/lang/String") (hcat : (st.map fun v => v.category).sum ≤ 8) (hn : L.length = nL) (hd : decode cc pc = .ok (.invokevirtual idx, 3)) (K : ∀ r E, Post r E → z_J X S (pc + 3) L (.int r :: st) E) : z_J X S pc L (as.reverse ++ .ref (1000 + i) :: st) D := by
  obtain ⟨p, l, e, R, s, m, args, below, meth, co, Q, G, cy, ad⟩ := X
  obtain ⟨hx, hb, hml, hown, hts, hK, hin, ok, hR, hT⟩ := F
  intro H locs ls hP hS hl
  subst hR
  obtain ⟨hw, hcode, hy, hn20⟩ := hL
  have e1 : (as.reverse ++ .ref (1000 + i) :: st).map (z_v ad) = (as.map (z_v ad)).reverse ++ .ref (ad (1000 + i)) :: st.map (z_v ad) := by rw [List.map_append, List.map_reverse]; rfl
  rw [e1]
  refine va_calli (va_runV (As := as.map (z_v ad)) (rest := st.map (z_v ad)) (C := y.cls) ⟨hx, hb, hml, hown, hts⟩ (hC l G cy ad hin) (cwV as.length hts (z_goodIn hcode hw) rfl rfl rfl ⟨rfl, hy⟩ ⟨by show d2 + 1 ≤ d; omega, by show 8 + (n + 11) + 40 * d2 ≤ 40 * d; omega⟩) ⟨z_Bblind, ?_, fun U hU hW => ⟨rfl, by rw [hU]; exact hP, va_K.moved hW.alike hK, by rw [hU]; exact (hT.warm hW).kept hS.2.1⟩⟩ rfl (by simp) (hl.1.trans hn) rfl (lv_room (by rw [z_v_sum]; exact hcat)) hd ⟨Nat.le_refl _, Nat.le_refl _⟩) hS (fun _ _ q => q) (fun _ q => q) (fun r u t H1 locs1 ht hvm hp hB hz hk hS1 => K r u hp H1 locs1 ls (by rw [← ht]; exact hB) hS1 hl)
  rw [hcl]
  exact va_Orecv (hT.1 i hi).1 hS
theorem z_callTI0 (F : z_F X S T cc own nL d) {y : MethodName} {b : ByteArray} {n idx d2 i : Nat} {ret : FieldType} {r : Int32} {E : zD} (hC : z_CI S T y b n ret d2 [.ref (1000 + i)] D (z_eq r E)) (hL : z_LV own idx y b n (some ret) 0) (hd2 : d2 < d) (hi : i < 14) (hcl : y.cls = "java/lang/String") (hcat : (st.map fun v => v.category).sum ≤ 8) (hn : L.length = nL) (hd : decode cc pc = .ok (.invokevirtual idx, 3)) (K : z_J X S (pc + 3) L (.int r :: st) E) : z_J X S pc L (.ref (1000 + i) :: st) D := z_callTIg F (as := []) hL hC hd2 hi hcl hcat hn hd (fun r2 E2 q => by obtain ⟨rfl, rfl⟩ := q; exact K)
theorem z_callTI1 (F : z_F X S T cc own nL d) {y : MethodName} {b : ByteArray} {n idx d2 i : Nat} {ret : FieldType} {v1 : Value} {r : Int32} {E : zD} (hC : z_CI S T y b n ret d2 [.ref (1000 + i), v1] D (z_eq r E)) (hL : z_LV own idx y b n (some ret) 1) (hd2 : d2 < d) (hi : i < 14) (hcl : y.cls = "java/lang/String") (hcat : (st.map fun v => v.category).sum ≤ 8) (hn : L.length = nL) (hd : decode cc pc = .ok (.invokevirtual idx, 3)) (K : z_J X S (pc + 3) L (.int r :: st) E) : z_J X S pc L (v1 :: .ref (1000 + i) :: st) D := z_callTIg F (as := [v1]) hL hC hd2 hi hcl hcat hn hd (fun r2 E2 q => by obtain ⟨rfl, rfl⟩ := q; exact K)
end ZQ
set_option maxHeartbeats 1000000 in
theorem cj_coder {S : zS} {T : List (String × Nat × Nat)} (hok : z_ok S) (D : zD) {i : Nat} (hi : i < 14) : z_CI S T yJ0_coder_7d493 cJ0_coder_7d493 1 .byte 0 [.ref (1000 + i)] D (z_eq 0 D) := by
  refine z_startI hok (by decide +kernel) (fun v hv => by simp at hv; subst hv; rfl) (Nat.le_of_ble_eq_true rfl) (fun X F hR => ?_)
  show z_J X S 0 [some (.ref (1000 + i))] [] D
  refine z_sgetZ F zw_512 dJ0_coder_7d493_0 ?_
  refine z_if_eq F 13 dJ0_coder_7d493_3 (by decide) (fun h3 => ?_) (fun h3 => ?_)
  · exact absurd h3 (by decide)
  · refine z_aload0 F dJ0_coder_7d493_6 ?_
    refine z_scod F hi zw_1089 dJ0_coder_7d493_7 ?_
    refine z_goto F 14 dJ0_coder_7d493_10 (by decide) ?_
    refine hR _ _ _ _ dJ0_coder_7d493_14 rfl ⟨rfl, rfl⟩
theorem z_sl31 (i : Nat) : z_sl.getD i 0 < 2 ^ 31 := by
  have h : ∀ x ∈ z_sl, x < 2 ^ 31 := by decide
  rw [List.getD_eq_getElem?_getD]
  cases e : z_sl[i]? with
  | none => decide
  | some x => exact h x (List.mem_of_getElem? e)
set_option maxHeartbeats 1000000 in
theorem cj_length {S : zS} {T : List (String × Nat × Nat)} (hok : z_ok S) (D : zD) {i : Nat} (hi : i < 14) : z_CI S T yJ0_length_8abf5 cJ0_length_8abf5 1 .int 1 [.ref (1000 + i)] D (z_eq (nI (z_sl.getD i 0)) D) := by
  refine z_startI hok (by decide +kernel) (fun v hv => by simp at hv; subst hv; rfl) (Nat.le_of_ble_eq_true rfl) (fun X F hR => ?_)
  show z_J X S 0 [some (.ref (1000 + i))] [] D
  refine z_aload0 F dJ0_length_8abf5_0 ?_
  refine z_sval F hi zw_1088 dJ0_length_8abf5_1 ?_
  refine z_slen F hi dJ0_length_8abf5_4 ?_
  refine z_aload0 F dJ0_length_8abf5_5 ?_
  refine z_callTI0 F (cj_coder hok D hi) kJ0_335 (by decide) hi rfl (Nat.le_of_ble_eq_true rfl) rfl dJ0_length_8abf5_6 ?_
  refine z_ishr F dJ0_length_8abf5_9 ?_
  refine hR _ _ _ _ dJ0_length_8abf5_10 rfl ⟨?_, rfl⟩
  rw [show (0 : Int32) &&& 31 = 0 by decide]
  exact Int32.shiftRight_zero
set_option maxHeartbeats 1000000 in
theorem cj_latin {S : zS} {T : List (String × Nat × Nat)} (hok : z_ok S) (D : zD) {i : Nat} (hi : i < 14) : z_CI S T yJ0_isLatin1_aae02 cJ0_isLatin1_aae02 1 .boolean 0 [.ref (1000 + i)] D (z_eq 1 D) := by
  refine z_startI hok (by decide +kernel) (fun v hv => by simp at hv; subst hv; rfl) (Nat.le_of_ble_eq_true rfl) (fun X F hR => ?_)
  show z_J X S 0 [some (.ref (1000 + i))] [] D
  refine z_sgetZ F zw_512 dJ0_isLatin1_aae02_0 ?_
  refine z_if_eq F 17 dJ0_isLatin1_aae02_3 (by decide) (fun h3 => ?_) (fun h3 => ?_)
  · exact absurd h3 (by decide)
  · refine z_aload0 F dJ0_isLatin1_aae02_6 ?_
    refine z_scod F hi zw_1089 dJ0_isLatin1_aae02_7 ?_
    refine z_if_ne F 17 dJ0_isLatin1_aae02_10 (by decide) (fun h10 => ?_) (fun h10 => ?_)
    · exact absurd rfl h10
    · refine z_iconst F 1 dJ0_isLatin1_aae02_13 zv_i_1 ?_
      refine z_goto F 18 dJ0_isLatin1_aae02_14 (by decide) ?_
      refine hR _ _ _ _ dJ0_isLatin1_aae02_18 rfl ⟨rfl, rfl⟩
set_option maxHeartbeats 1000000 in
theorem cj_check3 {S : zS} {T : List (String × Nat × Nat)} (hok : z_ok S) (D : zD) {k n : Nat} (hk : k < n) (hn : n < 2 ^ 31) : z_CI S T yJ3_checkIndex_8e157 cJ3_checkIndex_8e157 3 .int 0 [.int (nI k), .int (nI n), .ref 3000] D (z_eq (nI k) D) := by
  refine z_startI hok (by decide +kernel) (fun v hv => by simp at hv; rcases hv with rfl | rfl | rfl <;> rfl) (Nat.le_of_ble_eq_true rfl) (fun X F hR => ?_)
  show z_J X S 0 [some (.int (nI k)), some (.int (nI n)), some (.ref 3000)] [] D
  refine z_iload0 F dJ3_checkIndex_8e157_0 ?_
  refine z_if_lt F 9 dJ3_checkIndex_8e157_1 (by decide) (fun h1 => ?_) (fun h1 => ?_)
  · exact absurd h1 (Int32.not_lt.mpr (nI_pos' (by omega)))
  · refine z_iload0 F dJ3_checkIndex_8e157_4 ?_
    refine z_iload1 F dJ3_checkIndex_8e157_5 ?_
    refine z_ic_lt F 16 dJ3_checkIndex_8e157_6 (by decide) (fun h6 => ?_) (fun h6 => ?_)
    · refine z_iload0 F dJ3_checkIndex_8e157_16 ?_
      refine hR _ _ _ _ dJ3_checkIndex_8e157_17 rfl ⟨rfl, rfl⟩
    · exact absurd (nI_lt hk hn) h6
set_option maxHeartbeats 1000000 in
theorem cj_check3n {S : zS} {T : List (String × Nat × Nat)} (hok : z_ok S) (D : zD) {k n : Nat} (hk : k < n) (hn : n < 2 ^ 31) : z_CI S T yJ3_checkIndex_8e157 cJ3_checkIndex_8e157 3 .int 0 [.int (nI k), .int (nI n), .null] D (z_eq (nI k) D) := by
  refine z_startI hok (by decide +kernel) (fun v hv => by simp at hv; rcases hv with rfl | rfl | rfl <;> rfl) (Nat.le_of_ble_eq_true rfl) (fun X F hR => ?_)
  show z_J X S 0 [some (.int (nI k)), some (.int (nI n)), some (.null)] [] D
  refine z_iload0 F dJ3_checkIndex_8e157_0 ?_
  refine z_if_lt F 9 dJ3_checkIndex_8e157_1 (by decide) (fun h1 => ?_) (fun h1 => ?_)
  · exact absurd h1 (Int32.not_lt.mpr (nI_pos' (by omega)))
  · refine z_iload0 F dJ3_checkIndex_8e157_4 ?_
    refine z_iload1 F dJ3_checkIndex_8e157_5 ?_
    refine z_ic_lt F 16 dJ3_checkIndex_8e157_6 (by decide) (fun h6 => ?_) (fun h6 => ?_)
    · refine z_iload0 F dJ3_checkIndex_8e157_16 ?_
      refine hR _ _ _ _ dJ3_checkIndex_8e157_17 rfl ⟨rfl, rfl⟩
    · exact absurd (nI_lt hk hn) h6
set_option maxHeartbeats 1000000 in
theorem cj_check0 {S : zS} {T : List (String × Nat × Nat)} (hok : z_ok S) (D : zD) {k n : Nat} (hk : k < n) (hn : n < 2 ^ 31) : z_CV S T yJ0_checkIndex_df160 cJ0_checkIndex_df160 2 1 [.int (nI k), .int (nI n)] D (z_eqV D) := by
  refine z_startV hok (by decide +kernel) (fun v hv => by simp at hv; rcases hv with rfl | rfl <;> rfl) (Nat.le_of_ble_eq_true rfl) (fun X F hR => ?_)
  show z_J X S 0 [some (.int (nI k)), some (.int (nI n))] [] D
  refine z_iload0 F dJ0_checkIndex_df160_0 ?_
  refine z_iload1 F dJ0_checkIndex_df160_1 ?_
  refine z_sgetP F zw_527 dJ0_checkIndex_df160_2 ?_ ?_
  · refine z_callSI3 F (cj_check3 hok D hk hn) kJ0_1059 (by decide) (Nat.le_of_ble_eq_true rfl) rfl dJ0_checkIndex_df160_5 ?_
    refine z_pop F dJ0_checkIndex_df160_8 rfl ?_
    exact hR _ _ _ dJ0_checkIndex_df160_9 rfl
  · refine z_callSI3 F (cj_check3n hok D hk hn) kJ0_1059 (by decide) (Nat.le_of_ble_eq_true rfl) rfl dJ0_checkIndex_df160_5 ?_
    refine z_pop F dJ0_checkIndex_df160_8 rfl ?_
    exact hR _ _ _ dJ0_checkIndex_df160_9 rfl
theorem z_sbc : ∀ i, i < 14 → ∀ j, j < z_sl.getD i 0 → (((((z_sb.getD i []).getD j 0) &&& 255).toUInt32 % 65536).toInt32 = (z_sb.getD i []).getD j 0 ∧ narrow .char (.int ((z_sb.getD i []).getD j 0)) = .int ((z_sb.getD i []).getD j 0)) := by decide +kernel
set_option maxHeartbeats 1000000 in
theorem cj_char1 {S : zS} {T : List (String × Nat × Nat)} (hok : z_ok S) (D : zD) {i j : Nat} (hi : i < 14) (hj : j < z_sl.getD i 0) : z_CI S T yJ1_charAt_3b067 cJ1_charAt_3b067 2 .char 2 [.ref (2000 + i), .int (nI j)] D (z_eq ((z_sb.getD i []).getD j 0) D) := by
  refine z_startI hok (by decide +kernel) (fun v hv => by simp at hv; rcases hv with rfl | rfl <;> rfl) (Nat.le_of_ble_eq_true rfl) (fun X F hR => ?_)
  show z_J X S 0 [some (.ref (2000 + i)), some (.int (nI j))] [] D
  have hl := z_sl31 i
  refine z_iload1 F dJ1_charAt_3b067_0 ?_
  refine z_aload0 F dJ1_charAt_3b067_1 ?_
  refine z_slen F hi dJ1_charAt_3b067_2 ?_
  refine z_callSV2 F (cj_check0 hok D hj hl) kJ1_9 (by decide) (Nat.le_of_ble_eq_true rfl) rfl dJ1_charAt_3b067_3 ?_
  refine z_aload0 F dJ1_charAt_3b067_6 ?_
  refine z_iload1 F dJ1_charAt_3b067_7 ?_
  refine z_sbald F j hi hj hl dJ1_charAt_3b067_8 ?_
  refine z_sipush F 255 dJ1_charAt_3b067_9 zv_s_255 ?_
  refine z_iand F dJ1_charAt_3b067_12 ?_
  refine z_i2c F dJ1_charAt_3b067_13 ?_
  rw [(z_sbc i hi j hj).1]
  exact hR _ _ _ _ dJ1_charAt_3b067_14 (z_sbc i hi j hj).2 ⟨rfl, rfl⟩
set_option maxHeartbeats 1000000 in
theorem cj_charAt {S : zS} {T : List (String × Nat × Nat)} (hok : z_ok S) (D : zD) {i j : Nat} (hi : i < 14) (hj : j < z_sl.getD i 0) : z_CI S T yJ0_charAt_5068e cJ0_charAt_5068e 2 .char 3 [.ref (1000 + i), .int (nI j)] D (z_eq ((z_sb.getD i []).getD j 0) D) := by
  refine z_startI hok (by decide +kernel) (fun v hv => by simp at hv; rcases hv with rfl | rfl <;> rfl) (Nat.le_of_ble_eq_true rfl) (fun X F hR => ?_)
  show z_J X S 0 [some (.ref (1000 + i)), some (.int (nI j))] [] D
  refine z_aload0 F dJ0_charAt_5068e_0 ?_
  refine z_callTI0 F (cj_latin hok D hi) kJ0_492 (by decide) hi rfl (Nat.le_of_ble_eq_true rfl) rfl dJ0_charAt_5068e_1 ?_
  refine z_if_eq F 16 dJ0_charAt_5068e_4 (by decide) (fun h4 => ?_) (fun h4 => ?_)
  · exact absurd h4 (by decide)
  · refine z_aload0 F dJ0_charAt_5068e_7 ?_
    refine z_sval F hi zw_1088 dJ0_charAt_5068e_8 ?_
    refine z_iload1 F dJ0_charAt_5068e_11 ?_
    refine z_callSI2 F (cj_char1 hok D hi hj) kJ0_495 (by decide) (Nat.le_of_ble_eq_true rfl) rfl dJ0_charAt_5068e_12 ?_
    exact hR _ _ _ _ dJ0_charAt_5068e_15 (z_sbc i hi j hj).2 ⟨rfl, rfl⟩
