
theorem k_aX_s {h fr : Nat} {g f1 f2 f3 sa sv : Nat → Nat} (i : Nat) (hi : i < 14) : k_aX h g f1 f2 f3 sa sv fr (1000 + i) = sa i := by
  unfold k_aX
  repeat rw [if_neg (by omega)]
  rw [if_pos (by omega), Nat.add_sub_cancel_left]
theorem k_aX_v {h fr : Nat} {g f1 f2 f3 sa sv : Nat → Nat} (i : Nat) (hi : i < 14) : k_aX h g f1 f2 f3 sa sv fr (2000 + i) = sv i := by
  unfold k_aX
  repeat rw [if_neg (by omega)]
  rw [if_pos (by omega), Nat.add_sub_cancel_left]
theorem k_aM_s {h fr : Nat} {g sa sv : Nat → Nat} (i : Nat) (hi : i < 14) : k_aM h g sa sv fr (1000 + i) = sa i := by
  unfold k_aM
  repeat rw [if_neg (by omega)]
  rw [if_pos (by omega), Nat.add_sub_cancel_left]
theorem k_aM_v {h fr : Nat} {g sa sv : Nat → Nat} (i : Nat) (hi : i < 14) : k_aM h g sa sv fr (2000 + i) = sv i := by
  unfold k_aM
  repeat rw [if_neg (by omega)]
  rw [if_pos (by omega), Nat.add_sub_cancel_left]
theorem k_zT14 : ∀ q ∈ zT, q.2.2 < 14 := by decide +kernel
theorem k_zT {s : State} {args : Array Value} {adp : Nat → Nat × Nat} {fr : Nat} {vf : Value} {ad : Nat → Nat} {A : Nat → Prop} (had : ∀ i, i < 14 → (Term.string "PocketHole$Tape" (k_tp.getD i 0)).eval args s none [] s = some (.ref (adp i).1) ∧ va_O "java/lang/String" (adp i).1 (fun q : Nat => s.heap.size ≤ q) s s.heap ∧ va_OF "java/lang/String" "coder" "B" (.int 0) (adp i).1 (fun q : Nat => s.heap.size ≤ q) s s.heap ∧ va_OF "java/lang/String" "value" "[B" (.ref (adp i).2) (adp i).1 (fun q : Nat => s.heap.size ≤ q) s s.heap ∧ va_T .byte (adp i).2 (z_sl.getD i 0) (fun j => .int ((z_sb.getD i []).getD j 0)) (fun q : Nat => s.heap.size ≤ q) s s.heap) (hR : ∀ q ∈ zT, vk_R q.1 q.2.1 (z_st.getD q.2.2 "") (adp q.2.2).1 s) (hN : n_N s) (hcs : va_Z "java/lang/String" "COMPACT_STRINGS" "Z" (.int 1) (fun q : Nat => s.heap.size ≤ q) s s.heap) (hvf : vf = .ref fr ∨ vf = .null) (hfm : va_Z "jdk/internal/util/Preconditions" "SIOOBE_FORMATTER" "Ljava/util/function/BiFunction;" vf (fun q : Nat => s.heap.size ≤ q) s s.heap) (e1 : ∀ i, i < 14 → ad (1000 + i) = (adp i).1) (e2 : ∀ i, i < 14 → ad (2000 + i) = (adp i).2) (e3 : ad 3000 = fr) (hA : ∀ q, A q → s.heap.size ≤ q) : z_T zT ad A s s.heap := by
  refine ⟨fun i hi => ?_, fun q hq => ?_, hN, hcs.narrow hA, vf, ?_, hfm.narrow hA⟩
  · rw [e1 i hi, e2 i hi]
    obtain ⟨_, h1, h2, h3, h4⟩ := had i hi
    exact ⟨h1.narrow hA, h2.narrow hA, h3.narrow hA, h4.narrow hA⟩
  · rw [e1 _ (k_zT14 q hq)]
    exact hR q hq
  · rw [e3]; exact hvf
set_option maxHeartbeats 4000000 in
set_option maxRecDepth 100000 in
/-- THE LAW, from its entry -/
theorem whole_start {p : Program} {e : Env} {s : State} {m : MethodId} {below : List Frame} {meth : Method} {c : Code} (l : Launch) (hflags : l.flags = flags0) {b L : Nat} {xs : Nat → Int32} (hL : L ≤ 3072) (C0 : lw_At p s m meth c b L xs) : W p l e room_1 s m #[Value.ref b] below meth c s.heap [] 0 0 (lw_Z below #[Value.ref b] s) (entryFrame m ([Value.ref b] : List Value).toArray 4) := by
  obtain ⟨hx, hb, hr, hml, hown, htl, hX, hbl, hlocks, hgv⟩ := C0
  have hts : ∀ w ∈ wsL_law, w.before #[Value.ref b] s = true := fun w hw => htl w (wsL_law_in w hw)
  have hT : ∀ w ∈ tables_1, w.before #[Value.ref b] s = true := fun w hw => htl w (List.mem_append_right _ hw)
  have hs : ∀ w ∈ k_pr, w.before #[Value.ref b] s = true := flat_of_before _ hgv
  have hown : s.vm.findClass RL = some m.cls := hown
  obtain ⟨dC, dI, hKc⟩ := k_known hts
  have hO := k_nO hT
  have hN := k_nN hT
  obtain ⟨cy, hcy⟩ := k_cys hts hO
  have hK : va_K (dC, dI) vwCl (z_tys cy) s := ⟨hKc, hcy⟩
  have hnA : ∀ a : Nat, a < s.heap.size → ¬ (fun q : Nat => s.heap.size ≤ q) a := fun a h => Nat.not_le.mpr h
  obtain ⟨adp, had⟩ := k_strs hs hnA
  have hR := k_refs hs hT (sa := fun i => (adp i).1) (fun i hi => (had i hi).1)
  have hcs := k_cs hs hts hT hnA
  obtain ⟨fr, vf, hvf, hfm⟩ := k_fm hs hts hT hnA
  have F : n_F p e room_1 s m #[Value.ref b] meth c (dC, dI) cy (fun q : Nat => s.heap.size ≤ q) cL_law RL 4 := ⟨hx, hb, hml, hown, hts, hK, fun q h => h, hN, hO⟩
  have hS : va_S (fun q : Nat => s.heap.size ≤ q) s.heap s.heap [] := va_S.rf
  have hP : va_P (dC, dI) vwCl (([] : va_W) ++ []) s.heap := fun k q h => by simp at h
  have hD : va_D (fun q : Nat => s.heap.size ≤ q) (([] : va_W) ++ []) := ⟨fun i j p q h => by simp at h, fun k q h => by simp at h⟩
  have hl := lv_entry ([.ref b]) (n := 4) (Nat.le_of_ble_eq_true rfl)
  rw [lg_entry_eq]
  generalize (lg_sl ([.ref b]) ++ List.replicate (4 - (lg_sl ([.ref b])).length) Slot.unset).toArray = ls at hl ⊢
  have hl : lv_has ls 4 [(0, .ref b)] := hl
  refine n_new F (ws := []) (pl := []) [.null, .null, .null, .int 0, .null, .null, .null, .null, .null] clX4 hP hD hS zw_15 zw_16 zw_1 n_df4 (Nat.le_of_ble_eq_true rfl) (Nat.le_of_ble_eq_true rfl) dL_law_0 (fun x0 H hP hD hS => ?_)
  refine lv_dup hx hb dL_law_3 rfl ?_
  refine n_ctor F (ws := []) (pl := []) (fun i => (adp i).1) n_ph hP hD hS (fun _ _ _ => trivial) (fun _ _ _ _ q => q) zw_19 zw_18 zw_1 rfl (by refine ⟨by decide +kernel, by decide +kernel, by decide +kernel⟩) (Or.inl zw_17) ⟨(Nat.le_of_ble_eq_true rfl), (Nat.le_of_ble_eq_true rfl)⟩ hl.1 (Nat.le_of_ble_eq_true rfl) ⟨(Nat.le_of_ble_eq_true rfl), (Nat.le_of_ble_eq_true rfl)⟩ dL_law_4 (fun w1 H locs hw hP hD hS => ?_)
  obtain ⟨g, f1, f2, f3, rfl⟩ := hw
  refine lv_astore_n (lv' := [(1, .ref x0), (0, .ref b)]) hx hb dL_law_7 rfl hl (by decide) rfl (fun ls hl => ?_)
  have hP : va_P (dC, dI) vwCl ([] ++ n_phW cy x0 g f1 f2 f3) H := hP
  have hD : va_D (fun q : Nat => s.heap.size ≤ q) ([] ++ n_phW cy x0 g f1 f2 f3) := hD
  refine n_new F (ws := []) (pl := n_phW cy x0 g f1 f2 f3) [.null, .null, .null, .int 0, .null, .null, .null, .int 0, .int 0, .null, .int 0, .null, .int 0, .int 0, .int 0, .int 0, .int 0, .int 0, .null, .null, .null, .int 0, .int 0, .null, .null, .null, .null] clX5 hP hD hS zw_649 zw_650 zw_6 n_df5 (Nat.le_of_ble_eq_true rfl) (Nat.le_of_ble_eq_true rfl) dL_law_8 (fun m0 H hP hD hS => ?_)
  refine lv_dup hx hb dL_law_11 rfl ?_
  refine n_ctor F (ws := []) (pl := n_phW cy x0 g f1 f2 f3) (fun i => (adp i).1) n_mo hP hD hS (fun U hU hW => ⟨⟨s.heap.size, hD.2 0 _ rfl, fun i hi => by rw [hU]; exact (va_O.moved hW.alike (had i hi).2.1).kept hS.2.1⟩, fun q hq => (hR q hq).warm hW⟩) (fun a U g mk q => ⟨by
    obtain ⟨⟨B, h1, h2⟩, _⟩ := q
    exact ⟨B, h1, fun i hi => va_O.moved (u := U) (U := U.calling g mk a) (Vm.Alike.refl U.vm) (h2 i hi)⟩, fun q2 hq => vk_R.same rfl (q.2 q2 hq)⟩) zw_653 zw_652 zw_6 rfl (by refine ⟨by decide +kernel, by decide +kernel, by decide +kernel⟩) (Or.inl zw_651) ⟨(Nat.le_of_ble_eq_true rfl), (Nat.le_of_ble_eq_true rfl)⟩ hl.1 (Nat.le_of_ble_eq_true rfl) ⟨(Nat.le_of_ble_eq_true rfl), (Nat.le_of_ble_eq_true rfl)⟩ dL_law_12 (fun w2 H locs hw hP hD hS => ?_)
  obtain ⟨g2, rfl⟩ := hw
  refine lv_astore_n (lv' := [(2, .ref m0), (1, .ref x0), (0, .ref b)]) hx hb dL_law_15 rfl hl (by decide) rfl (fun ls hl => ?_)
  refine lv_iconst (v := nI 0) hx hb dL_law_16 (by decide) ?_
  refine lv_istore_n (lv' := [(3, .int (nI 0)), (2, .ref m0), (1, .ref x0), (0, .ref b)]) hx hb dL_law_17 rfl hl (by decide) rfl (fun ls hl => ?_)
  have hP : va_P (dC, dI) vwCl (n_phW cy x0 g f1 f2 f3 ++ n_moW (fun i => (adp i).1) cy m0 g2) H := hP
  have hD : va_D (fun q : Nat => s.heap.size ≤ q) (n_phW cy x0 g f1 f2 f3 ++ n_moW (fun i => (adp i).1) cy m0 g2) := hD
  obtain ⟨dX, dM, -⟩ := n_Dl hD
  have hPX : va_P (dC, dI) vwCl (n_phW cy x0 g f1 f2 f3) H := n_P_sub hP (fun q hq => List.mem_append_left _ hq)
  have hPM : va_P (dC, dI) vwCl (n_moW (fun i => (adp i).1) cy m0 g2) H := n_P_sub hP (fun q hq => List.mem_append_right _ hq)
  refine W.widen (k := 600000) (n := 7302250) (Nat.le_of_ble_eq_true rfl) (Nat.le_of_ble_eq_true rfl) ?_
  have hTX : z_T zT (k_aX x0 g f1 f2 f3 (fun i => (adp i).1) (fun i => (adp i).2) fr) (z_A SX (k_aX x0 g f1 f2 f3 (fun i => (adp i).1) (fun i => (adp i).2) fr)) s s.heap := k_zT had hR hN hcs hvf hfm (fun i hi => k_aX_s i hi) (fun i hi => k_aX_v i hi) rfl (k_XA dX)
  have hTM : z_T zT (k_aM m0 g2 (fun i => (adp i).1) (fun i => (adp i).2) fr) (z_A SM (k_aM m0 g2 (fun i => (adp i).1) (fun i => (adp i).2) fr)) s s.heap := k_zT had hR hN hcs hvf hfm (fun i hi => k_aM_s i hi) (fun i hi => k_aM_v i hi) rfl (k_MA dM)
  have Fk : k_F (p, l, e, s, m, below, meth, c, b, L, xs, (dC, dI), cy, k_aX x0 g f1 f2 f3 (fun i => (adp i).1) (fun i => (adp i).2) fr, k_aM m0 g2 (fun i => (adp i).1) (fun i => (adp i).2) fr) := ⟨hx, hb, hr, hml, hown, hts, hX, hbl, hlocks, hL, hK, k_Xin dX, k_Min dM, hTX, hTM, k_XA dX, k_MA dM, k_XM hD⟩
  exact k_loop Fk (L + 1) 0 k_D0 k_E0 v_Inv0 (Nat.zero_le _) (show L < 0 + (L + 1) by omega) H locs ls (k_Xw hPX) (k_Mw hPM) hS hl
