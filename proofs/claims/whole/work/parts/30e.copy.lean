/-! System.arraycopy between int rows -/
def s_cpx (τ ν : Nat → Int32) (x y n k : Nat) : Int32 := if y ≤ k ∧ k < y + n then τ (x + (k - y)) else ν k
theorem z_cel_eq {S : zS} {cy : Nat → ClassId} {ad : Nat → Nat} {D D' : zD} (q : Nat) (h : ∀ i, i < zl S q → zk S q ≠ 7 → D'.1 (zo S q i).1 (zo S q i).2 = D.1 (zo S q i).1 (zo S q i).2) (h2 : D'.2 = D.2) : z_cel S cy ad D' q = z_cel S cy ad D q := by
  unfold z_cel
  by_cases h6 : zk S q < 6
  · rw [if_pos h6, if_pos h6]
    congr 2
    refine List.map_congr_left fun i hi => ?_
    unfold z_val
    cases zr S q i with
    | some r => rfl
    | none => simp only [h i (List.mem_range.mp hi) (by omega)]
  · rw [if_neg h6, if_neg h6]
    by_cases h8 : zk S q = 7
    · rw [if_pos h8, if_pos h8, h2]
    · rw [if_neg h8, if_neg h8]
      by_cases h9 : zk S q < 9
      · rw [if_pos h9, if_pos h9]
        congr 4
        funext i
        by_cases hi : i < zl S q
        · simp only [if_pos hi, h i hi h8]
        · simp only [if_neg hi]
      · rw [if_neg h9, if_neg h9]
theorem z_setA {S : zS} {cy : Nat → ClassId} {ad : Nat → Nat} {D : zD} {k n1 r1 b1 n2 r2 b2 : Nat} {k1 : Nat} (ok : z_ok S) (ha1 : z_Ar S k1 6 n1 r1 (fun j => b1 + j)) (ha : z_Ar S k 6 n2 r2 (fun j => b2 + j)) (sp dp m : Nat) (h1 : sp + m ≤ n1) (h2 : dp + m ≤ n2) :
    (z_w S cy ad D).set k (ad k, .inl (cy 6, n2, .inl (va_cpy (fun j => if j < n1 then D.1 r1 (b1 + j) else 0) (fun j => if j < n2 then D.1 r2 (b2 + j) else 0) sp dp m))) = z_w S cy ad (z_row D r2 (s_cpx (D.1 r1) (D.1 r2) (b1 + sp) (b2 + dp) m)) := by
  have h7 : zk S k ≠ 7 := by have := ha.2.1; omega
  refine z_w_set ha.1 ?_ (fun q hq hne => z_cel_eq q (fun i hi h8 => ?_) rfl)
  · rw [z_celI ha (Or.inl rfl)]
    congr 4
    funext i
    unfold va_cpy
    rw [z_rowr]
    unfold s_cpx
    by_cases g : dp ≤ i ∧ i < dp + m
    · rw [if_pos g, if_pos (show i < n2 by omega)]
      dsimp only
      rw [if_pos (show sp + (i - dp) < n1 by omega), if_pos (by omega), show b1 + (sp + (i - dp)) = b1 + sp + (b2 + i - (b2 + dp)) by omega]
    · rw [if_neg g]
      dsimp only
      by_cases hn : i < n2
      · rw [if_pos hn, if_pos hn, if_neg (by omega)]
      · rw [if_neg hn, if_neg hn]
  · by_cases e : (zo S q i).1 = r2
    · rw [e, z_rowr]
      unfold s_cpx
      rw [if_neg]
      rintro ⟨g1, g2⟩
      have hj : (zo S q i).2 - b2 < n2 := by omega
      have := ha.2.2.2.2 ((zo S q i).2 - b2) hj
      exact hne (ok q i k ((zo S q i).2 - b2) hq ha.1 hi (by rw [ha.2.2.1]; exact hj) h8 h7 (by rw [this]; exact Prod.ext e (by show _ = b2 + _; omega))).1
    · rw [z_rowo _ _ e]
section ZY
variable {X : zX} {S : zS} {T : List (String × Nat × Nat)} {cc : ByteArray} {own : String} {nL d pc : Nat} {L : List (Option Value)} {st : List Value} {D : zD}
theorem z_acopy (F : z_F X S T cc own nL d) {idx k1 k2 n1 r1 b1 n2 r2 b2 : Nat} (ha1 : z_Ar S k1 6 n1 r1 (fun j => b1 + j)) (ha2 : z_Ar S k2 6 n2 r2 (fun j => b2 + j)) (sp dp u : Nat) (h1 : sp + u ≤ n1) (h2 : dp + u ≤ n2) (hw : Cond.methodLink own idx (⟨"java/lang/System", "arraycopy", "(Ljava/lang/Object;ILjava/lang/Object;II)V"⟩ : MethodName) ∈ wsL_law) (h0 : 1 ≤ d) (hn : L.length = nL) (hcat : (st.map fun v => v.category).sum ≤ 8) (hd : decode cc pc = .ok (.invokestatic idx, 3)) (K : z_J X S (pc + 3) L st (z_row D r2 (s_cpx (D.1 r1) (D.1 r2) (b1 + sp) (b2 + dp) u))) : z_J X S pc L (.int (nI u) :: .int (nI dp) :: .ref k2 :: .int (nI sp) :: .ref k1 :: st) D := by
  obtain ⟨p, l, e, R, s, m, args, below, meth, co, Q, G, cy, ad⟩ := X
  obtain ⟨hx, hb, hml, hown, hts, hK, hin, ok, hR, hT⟩ := F
  intro H locs ls hP hS hl
  subst hR
  have g1 := ha1.2.2.2.1
  have g2 := ha2.2.2.2.1
  have hs : sp < 2 ^ 31 := by omega
  have hp : dp < 2 ^ 31 := by omega
  have hm : u < 2 ^ 31 := by omega
  refine va_copyi (ty := .int) hx hb (by rw [hml, ← hn]; exact hl.1.symm) hown (hts _ hw) (hts _ zw_307) (hts _ zw_306) (hts _ zw_9) hK hP (z_wD hin) hS k1 k2 0 0 (c0 := cy 6) (c1 := cy 6) (n0 := n1) (n1 := n2) ((z_w_at ha1.1).trans (by rw [z_celI ha1 (Or.inl rfl)])) ((z_w_at ha2.1).trans (by rw [z_celI ha2 (Or.inl rfl)])) rfl rfl rfl (Int32.not_lt.mpr (nI_pos' hs)) (Int32.not_lt.mpr (nI_pos' hp)) (Int32.not_lt.mpr (nI_pos' hm)) (by rw [nI_clamp hs, nI_clamp hm]; exact h1) (by rw [nI_clamp hp, nI_clamp hm]; exact h2) (fun i _ => rfl) h0 (by rw [z_v_sum]; show _ + (nativeFrameWords "java/lang/System" "arraycopy" 5 + 11) ≤ 40 * d; have : nativeFrameWords "java/lang/System" "arraycopy" 5 ≤ 20 := (by decide); omega) hd (fun H1 locs1 hP1 hD1 hS1 => ?_)
  rw [nI_clamp hs, nI_clamp hp, nI_clamp hm, z_setA ok ha1 ha2 sp dp u h1 h2] at hP1
  exact K H1 locs1 ls hP1 hS1 hl
end ZY
def s_cps (τ σ : Nat → Int32) (c i : Nat) : Int32 := if 16 ≤ i ∧ i < 16 + 8 * c then τ i else σ i
theorem s_cps_succ (τ σ : Nat → Int32) (c : Nat) : s_cp τ (s_cps τ σ c) c = s_cps τ σ (c + 1) := by
  funext i
  unfold s_cp s_cps
  by_cases h : 16 + 8 * c ≤ i ∧ i < 16 + 8 * c + 8
  · rw [if_pos h, if_pos (by omega)]
  · rw [if_neg h]
    by_cases g : 16 ≤ i ∧ i < 16 + 8 * c
    · rw [if_pos g, if_pos (by omega)]
    · rw [if_neg g, if_neg (by omega)]
def s_six (τ σ : Nat → Int32) : Nat → Int32 := upd (upd (upd (upd (upd (upd σ 1 (τ 1)) 2 (τ 2)) 3 (τ 3)) 0 (τ 0)) 5 (τ 5)) 4 (τ 4)
theorem s_bec_eq (τ σ : Nat → Int32) (N : Nat) : s_cpx τ (s_cps τ (s_six τ σ) N) 6 6 10 = s_bec τ σ N := by
  funext i
  unfold s_cpx s_bec
  by_cases h : 6 ≤ i ∧ i < 6 + 10
  · rw [if_pos h, if_pos (by omega), show 6 + (i - 6) = i by omega]
  · rw [if_neg h]
    unfold s_cps
    by_cases g : 16 ≤ i ∧ i < 16 + 8 * N
    · rw [if_pos g, if_pos (by omega)]
    · rw [if_neg g]
      by_cases k : i < 6
      · rw [if_pos (by omega)]
        unfold s_six
        rcases (show i = 0 ∨ i = 1 ∨ i = 2 ∨ i = 3 ∨ i = 4 ∨ i = 5 by omega) with rfl | rfl | rfl | rfl | rfl | rfl
        all_goals repeat (first | rw [u_eq] | rw [u_ne _ _ (by decide)])
      · rw [if_neg (by omega)]
        unfold s_six
        rw [u_ne _ _ (by omega), u_ne _ _ (by omega), u_ne _ _ (by omega), u_ne _ _ (by omega), u_ne _ _ (by omega), u_ne _ _ (by omega)]
theorem s_cps_4 (τ σ : Nat → Int32) (c : Nat) : s_cps τ (s_six τ σ) c 4 = τ 4 := by
  unfold s_cps
  rw [if_neg (by omega), s_six, u_eq]
theorem s_cps_0 (τ σ : Nat → Int32) : s_cps τ σ 0 = σ := by
  funext i
  unfold s_cps
  rw [if_neg (by omega)]
set_option maxHeartbeats 1000000 in
set_option maxRecDepth 20000 in
theorem c0_become (D : zD) {r q : Nat} (hr : z_R3 r) (hq : z_R3 q) (hqr : q ≠ r) {N : Nat} (hN : D.1 q 4 = nI N) (h10 : N ≤ 10) : z_CV SX zT yX0_become cX0_become 3 2 [.ref r, .ref q] D (z_eqV (z_row D r (s_bec (D.1 q) (D.1 r) N))) := by
  refine z_startV SX_ok (by decide +kernel) (fun v hv => by simp at hv; rcases hv with rfl | rfl <;> rfl) (Nat.le_of_ble_eq_true rfl) (fun X F hR => ?_)
  show z_J X SX 0 [some (.ref r), some (.ref q), none] [] D
  refine z_aload0 F dX0_become_0 ?_
  refine z_aload1 F dX0_become_1 ?_
  refine z_getI F (C_hole hq) fX0_9 dX0_become_2 ?_
  refine z_putI F (C_hole hr) fX0_9 rfl rfl dX0_become_5 ?_
  refine z_aload0 F dX0_become_8 ?_
  refine z_aload1 F dX0_become_9 ?_
  refine z_getI F (C_gap hq) fX0_15 dX0_become_10 ?_
  refine z_putI F (C_gap hr) fX0_15 rfl rfl dX0_become_13 ?_
  refine z_aload0 F dX0_become_16 ?_
  refine z_aload1 F dX0_become_17 ?_
  refine z_getI F (C_at hq) fX0_18 dX0_become_18 ?_
  refine z_putI F (C_at hr) fX0_18 rfl rfl dX0_become_21 ?_
  refine z_aload0 F dX0_become_24 ?_
  refine z_aload1 F dX0_become_25 ?_
  refine z_getI F (C_step hq) fX0_21 dX0_become_26 ?_
  refine z_putI F (C_step hr) fX0_21 rfl rfl dX0_become_29 ?_
  refine z_aload0 F dX0_become_32 ?_
  refine z_aload1 F dX0_become_33 ?_
  refine z_getI F (C_z hq) fX0_24 dX0_become_34 ?_
  refine z_putI F (C_z hr) fX0_24 rfl rfl dX0_become_37 ?_
  refine z_aload0 F dX0_become_40 ?_
  refine z_aload1 F dX0_become_41 ?_
  refine z_getI F (C_coins hq) fX0_27 dX0_become_42 ?_
  refine z_putI F (C_coins hr) fX0_27 rfl rfl dX0_become_45 ?_
  refine z_iconst F 0 dX0_become_48 zv_i_0 ?_
  refine z_istore2 F dX0_become_49 rfl ?_
  have loop : ∀ (n c : Nat), c + n = N → z_J X SX 50 [some (.ref r), some (.ref q), some (.int (nI c))] [] (z_row D r (s_cps (D.1 q) (s_six (D.1 q) (D.1 r)) c)) := by
    intro n
    induction n with
    | zero =>
      intro c hn 
      refine z_iload2 F dX0_become_50 ?_
      refine z_aload0 F dX0_become_51 ?_
      refine z_getI F (C_coins hr) fX0_27 dX0_become_52 ?_
      refine z_ic_ge F 79 dX0_become_55 (by decide) (fun h55 => ?_) (fun h55 => ?_)
      · refine z_aload1 F dX0_become_79 ?_
        refine z_getR F (C_spots hq) fX0_36 dX0_become_80 ?_
        refine z_iconst F 0 dX0_become_83 zv_i_0 ?_
        refine z_aload0 F dX0_become_84 ?_
        refine z_getR F (C_spots hr) fX0_36 dX0_become_85 ?_
        refine z_iconst F 0 dX0_become_88 zv_i_0 ?_
        refine z_bipush F 10 dX0_become_89 zv_b_10 ?_
        refine z_acopy F (aSpots hq) (aSpots hr) 0 0 10 (by decide) (by decide) zw_305 (by decide) rfl (Nat.le_of_ble_eq_true rfl) dX0_become_91 ?_
        refine hR _ _ _ dX0_become_94 ?_
        show _ = _
        rw [z_rowr, z_rowo _ _ hqr, z_row_row, show c = N by omega, s_bec_eq]
      · exact absurd (by rw [z_rowr, s_cps_4, hN]; exact nI_le (by omega) (by omega)) h55
    | succ n ih =>
      intro c hn 
      refine z_iload2 F dX0_become_50 ?_
      refine z_aload0 F dX0_become_51 ?_
      refine z_getI F (C_coins hr) fX0_27 dX0_become_52 ?_
      refine z_ic_ge F 79 dX0_become_55 (by decide) (fun h55 => ?_) (fun h55 => ?_)
      · exact absurd h55 (by rw [z_rowr, s_cps_4, hN]; exact nI_ge (by omega) (by omega))
      · refine z_aload0 F dX0_become_58 ?_
        refine z_getR F (C_row hr) fX0_32 dX0_become_59 ?_
        refine z_iload2 F dX0_become_62 ?_
        refine z_aald F (aRow hr) (Or.inl rfl) (c) rfl (show c < 10 by omega) dX0_become_63 ?_
        refine z_aload1 F dX0_become_64 ?_
        refine z_getR F (C_row hq) fX0_32 dX0_become_65 ?_
        refine z_iload2 F dX0_become_68 ?_
        refine z_aald F (aRow hq) (Or.inl rfl) (c) rfl (show c < 10 by omega) dX0_become_69 ?_
        refine z_callVV1 F (by have h := c1_become (z_row D r (s_cps (D.1 q) (s_six (D.1 q) (D.1 r)) c)) hr hq hqr c (by omega); rw [z_rowr, z_rowo _ _ hqr, z_row_row, s_cps_succ] at h; exact h) kX0_41 (by decide) (ocK hr (show c < 10 by omega)) (Nat.le_of_ble_eq_true rfl) rfl dX0_become_70 ?_
        refine z_iinc2 F 1 dX0_become_73 rfl zv_i_1 ?_
        refine z_goto F 50 dX0_become_76 (by decide) ?_
        have h := ih (c + 1) (by omega)
        rw [show nI (c + 1) = nI c + 1 from nI_succ c] at h
        exact h
  have h := loop N 0 (by omega)
  rw [s_cps_0] at h
  simp only [z_upo _ _ _ hqr]
  simp only [z_up_row, z_row_row, z_rowr]
  exact h
