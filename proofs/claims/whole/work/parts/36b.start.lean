/-! WHAT HOLDS AT THE LAW'S ENTRY -/
section EN
variable {s : State} {args : Array Value}
theorem k_known (hts : ∀ w ∈ wsL_law, w.before args s = true) : ∃ (dC : Nat → ClassId) (dI : Nat → Nat → Nat), ∀ (k : Nat) (q : vw_C), vwCl[k]? = some q → u_Kn s q.1 q.2.1 q.2.2 (dC k) (dI k) := by
  obtain ⟨c0, i0, h0⟩ := u_known (C := RX0) (T := TX0) (N := 8) (n := 8) hts inlX0 (hts _ zw_24)
  obtain ⟨c1, i1, h1⟩ := u_known (C := RX1) (T := TX1) (N := 8) (n := 8) hts inlX1 (hts _ zw_30)
  obtain ⟨c2, i2, h2⟩ := u_known (C := RX2) (T := TX2) (N := 3) (n := 3) hts inlX2 (hts _ zw_112)
  obtain ⟨c3, i3, h3⟩ := u_known (C := RX3) (T := TX3) (N := 6) (n := 6) hts inlX3 (hts _ zw_93)
  obtain ⟨c4, i4, h4⟩ := u_known (C := RX4) (T := TX4) (N := 9) (n := 9) hts inlX4 (hts _ zw_16)
  obtain ⟨c5, i5, h5⟩ := u_known (C := RX5) (T := TX5) (N := 27) (n := 27) hts inlX5 (hts _ zw_650)
  refine ⟨fun k => if k = 0 then c0 else if k = 1 then c1 else if k = 2 then c2 else if k = 3 then c3 else if k = 4 then c4 else c5, fun k => if k = 0 then i0 else if k = 1 then i1 else if k = 2 then i2 else if k = 3 then i3 else if k = 4 then i4 else i5, ?_⟩
  intro k q hq
  match k, hq with
  | 0, hq => cases hq; exact h0
  | 1, hq => cases hq; exact h1
  | 2, hq => cases hq; exact h2
  | 3, hq => cases hq; exact h3
  | 4, hq => cases hq; exact h4
  | 5, hq => cases hq; exact h5
  | k + 6, hq => simp [vwCl] at hq
theorem k_ac {ty : FieldType} (h : (Cond.arrayClass ty).before args s = true) : ∃ c : ClassId, ArrOfT s c ty ∧ s.vm.findClass ("[" ++ ty.toString) = some c := by
  obtain ⟨c, k, comp, e1, e2, e3⟩ := Cond.arrayClass_spec h
  exact ⟨c, fun n z => ⟨fun k h => (by cases h), k, e2, comp, e3⟩, e1⟩
theorem k_ao {C : String} (h : (Cond.arrayOver (.object C)).before args s = true) : ∃ c : ClassId, ArrOfT s c (.object C) ∧ va_RA s c (.object C) := by
  obtain ⟨comp, c, k, e1, e2, e3, e4, e5⟩ := Cond.arrayOver_spec h
  exact ⟨c, fun n z => ⟨fun k h => (by cases h), k, e3, comp, e4⟩, k, comp, e3, e4, e1, e5⟩
theorem k_cys (hts : ∀ w ∈ wsL_law, w.before args s = true) (hO : n_O s) : ∃ cy : Nat → ClassId, ∀ (k : Nat) (q : ClassId × FieldType), (z_tys cy)[k]? = some q → ArrOfT s q.1 q.2 ∧ va_RA s q.1 q.2 := by
  obtain ⟨c6, h6⟩ := k_ac (hts _ zw_63)
  obtain ⟨c7, h7⟩ := k_ac (hts _ zw_126)
  obtain ⟨c8, h8⟩ := k_ac (hts _ zw_710)
  obtain ⟨c9, h9⟩ := k_ao (va_AO.use (A := #[]) hO.1)
  obtain ⟨c10, h10⟩ := k_ao (va_AO.use (A := #[]) hO.2.1)
  obtain ⟨c11, h11⟩ := k_ao (va_AO.use (A := #[]) hO.2.2)
  refine ⟨fun t => if t = 6 then c6 else if t = 7 then c7 else if t = 8 then c8 else if t = 9 then c9 else if t = 10 then c10 else c11, ?_⟩
  intro k q hq
  match k, hq with
  | 0, hq => cases hq; exact h6
  | 1, hq => cases hq; exact h7
  | 2, hq => cases hq; exact h8
  | 3, hq => cases hq; exact h9
  | 4, hq => cases hq; exact h10
  | 5, hq => cases hq; exact h11
  | k + 6, hq => simp [z_tys] at hq
theorem k_nO (hT : ∀ w ∈ tables_1, w.before args s = true) : n_O s := ⟨va_AO.of (hT _ (List.mem_of_getElem? (i := 30) (by decide +kernel))), va_AO.of (hT _ (List.mem_of_getElem? (i := 138) (by decide +kernel))), va_AO.of (hT _ (List.mem_of_getElem? (i := 737) (by decide +kernel)))⟩
theorem k_nN (hT : ∀ w ∈ tables_1, w.before args s = true) : n_N s := fun w hw => va_Nw.of (z_nstW hw) (hT w (List.mem_filter.mp hw).1)
theorem k_str1 {tm : Term} {len : Nat} {byt : List Int32} {A : Nat → Prop} (hN : len < 2 ^ 31) (hex : (Cond.exactly tm "java/lang/String").before args s = true) (hco : (Cond.eq (.field tm "java/lang/String" "coder" "B") (.int 0)).before args s = true) (har : (Cond.arrayOf (.field tm "java/lang/String" "value" "[B") .byte).before args s = true) (hle : (Cond.eq (.length (.field tm "java/lang/String" "value" "[B")) (.int (Int32.ofNat len))).before args s = true) (hel : ∀ j : Nat, j < len → (Cond.eq (.elem (.field tm "java/lang/String" "value" "[B") (.int (Int32.ofNat j))) (.int (byt.getD j 0))).before args s = true) (hA : ∀ a : Nat, a < s.heap.size → ¬ A a) : ∃ q : Nat × Nat, tm.eval args s none [] s = some (.ref q.1) ∧ va_O "java/lang/String" q.1 A s s.heap ∧ va_OF "java/lang/String" "coder" "B" (.int 0) q.1 A s s.heap ∧ va_OF "java/lang/String" "value" "[B" (.ref q.2) q.1 A s s.heap ∧ va_T .byte q.2 len (fun j => .int (byt.getD j 0)) A s s.heap := by
  obtain ⟨aK, aV, hS, hE⟩ := vk_Sof (N := 1) (tm := fun _ => tm) (len := [len]) (byt := [byt]) (A := A) (args := args) (s := s) (fun i hi => by
    have e : i = 0 := by omega
    subst e
    exact hN) (fun i hi => hex) (fun i hi => hco) (fun i hi => har) (fun i hi => by
    have e : i = 0 := by omega
    subst e
    exact hle) (fun i hi j hj => by
    have e : i = 0 := by omega
    subst e
    exact hel j hj) (fun i j hi hj hij => absurd (show i = j by omega) hij) hA
  obtain ⟨h1, h2, h3, h4⟩ := hS.1 0 (by decide)
  exact ⟨(aK 0, aV 0), hE 0 (by decide), h1, h2, h3, h4⟩
theorem k_eqr {a b : Term} {v : Value} (h : (Cond.eq a b).before args s = true) (ha : a.eval args s none [] s = some v) : b.eval args s none [] s = some v := by
  obtain ⟨y, h1, h2⟩ := Cond.eq_one h
  rw [h1] at ha
  rw [h2, ha]
def k_tp : List Nat := [34, 44, 60, 106, 108, 110, 112, 114, 116, 118, 77, 83, 85, 87]
/-- the premises, one by one -/
def k_pr : List Cond := flatC (Jvm.Cond.and given_1 narrow_1)
theorem k_s0 (hs : ∀ w ∈ k_pr, w.before args s = true) {A : Nat → Prop} (hA : ∀ a : Nat, a < s.heap.size → ¬ A a) : ∃ q : Nat × Nat, (Term.string "PocketHole$Tape" 34).eval args s none [] s = some (.ref q.1) ∧ va_O "java/lang/String" q.1 A s s.heap ∧ va_OF "java/lang/String" "coder" "B" (.int 0) q.1 A s s.heap ∧ va_OF "java/lang/String" "value" "[B" (.ref q.2) q.1 A s s.heap ∧ va_T .byte q.2 (z_sl.getD 0 0) (fun j => .int ((z_sb.getD 0 []).getD j 0)) A s s.heap :=
  k_str1 (len := z_sl.getD 0 0) (byt := z_sb.getD 0 []) (by decide) (hs _ (by decide +kernel)) (hs _ (by decide +kernel)) (hs _ (by decide +kernel)) (hs _ (by decide +kernel)) (fun j hj => by
    have hj : j < 4 := hj
    rcases (show j = 0 ∨ j = 1 ∨ j = 2 ∨ j = 3 by omega) with rfl | rfl | rfl | rfl <;> exact hs _ (by decide +kernel)) hA
theorem k_s1 (hs : ∀ w ∈ k_pr, w.before args s = true) {A : Nat → Prop} (hA : ∀ a : Nat, a < s.heap.size → ¬ A a) : ∃ q : Nat × Nat, (Term.string "PocketHole$Tape" 44).eval args s none [] s = some (.ref q.1) ∧ va_O "java/lang/String" q.1 A s s.heap ∧ va_OF "java/lang/String" "coder" "B" (.int 0) q.1 A s s.heap ∧ va_OF "java/lang/String" "value" "[B" (.ref q.2) q.1 A s s.heap ∧ va_T .byte q.2 (z_sl.getD 1 0) (fun j => .int ((z_sb.getD 1 []).getD j 0)) A s s.heap :=
  k_str1 (len := z_sl.getD 1 0) (byt := z_sb.getD 1 []) (by decide) (hs _ (by decide +kernel)) (hs _ (by decide +kernel)) (hs _ (by decide +kernel)) (hs _ (by decide +kernel)) (fun j hj => by
    have hj : j < 3 := hj
    rcases (show j = 0 ∨ j = 1 ∨ j = 2 by omega) with rfl | rfl | rfl <;> exact hs _ (by decide +kernel)) hA
theorem k_s2 (hs : ∀ w ∈ k_pr, w.before args s = true) {A : Nat → Prop} (hA : ∀ a : Nat, a < s.heap.size → ¬ A a) : ∃ q : Nat × Nat, (Term.string "PocketHole$Tape" 60).eval args s none [] s = some (.ref q.1) ∧ va_O "java/lang/String" q.1 A s s.heap ∧ va_OF "java/lang/String" "coder" "B" (.int 0) q.1 A s s.heap ∧ va_OF "java/lang/String" "value" "[B" (.ref q.2) q.1 A s s.heap ∧ va_T .byte q.2 (z_sl.getD 2 0) (fun j => .int ((z_sb.getD 2 []).getD j 0)) A s s.heap :=
  k_str1 (len := z_sl.getD 2 0) (byt := z_sb.getD 2 []) (by decide) (hs _ (by decide +kernel)) (hs _ (by decide +kernel)) (hs _ (by decide +kernel)) (hs _ (by decide +kernel)) (fun j hj => by
    have hj : j < 2 := hj
    rcases (show j = 0 ∨ j = 1 by omega) with rfl | rfl <;> exact hs _ (by decide +kernel)) hA
theorem k_s3 (hs : ∀ w ∈ k_pr, w.before args s = true) {A : Nat → Prop} (hA : ∀ a : Nat, a < s.heap.size → ¬ A a) : ∃ q : Nat × Nat, (Term.string "PocketHole$Tape" 106).eval args s none [] s = some (.ref q.1) ∧ va_O "java/lang/String" q.1 A s s.heap ∧ va_OF "java/lang/String" "coder" "B" (.int 0) q.1 A s s.heap ∧ va_OF "java/lang/String" "value" "[B" (.ref q.2) q.1 A s s.heap ∧ va_T .byte q.2 (z_sl.getD 3 0) (fun j => .int ((z_sb.getD 3 []).getD j 0)) A s s.heap :=
  k_str1 (len := z_sl.getD 3 0) (byt := z_sb.getD 3 []) (by decide) (hs _ (by decide +kernel)) (hs _ (by decide +kernel)) (hs _ (by decide +kernel)) (hs _ (by decide +kernel)) (fun j hj => by
    have hj : j < 4 := hj
    rcases (show j = 0 ∨ j = 1 ∨ j = 2 ∨ j = 3 by omega) with rfl | rfl | rfl | rfl <;> exact hs _ (by decide +kernel)) hA
theorem k_s4 (hs : ∀ w ∈ k_pr, w.before args s = true) {A : Nat → Prop} (hA : ∀ a : Nat, a < s.heap.size → ¬ A a) : ∃ q : Nat × Nat, (Term.string "PocketHole$Tape" 108).eval args s none [] s = some (.ref q.1) ∧ va_O "java/lang/String" q.1 A s s.heap ∧ va_OF "java/lang/String" "coder" "B" (.int 0) q.1 A s s.heap ∧ va_OF "java/lang/String" "value" "[B" (.ref q.2) q.1 A s s.heap ∧ va_T .byte q.2 (z_sl.getD 4 0) (fun j => .int ((z_sb.getD 4 []).getD j 0)) A s s.heap :=
  k_str1 (len := z_sl.getD 4 0) (byt := z_sb.getD 4 []) (by decide) (hs _ (by decide +kernel)) (hs _ (by decide +kernel)) (hs _ (by decide +kernel)) (hs _ (by decide +kernel)) (fun j hj => by
    have hj : j < 7 := hj
    rcases (show j = 0 ∨ j = 1 ∨ j = 2 ∨ j = 3 ∨ j = 4 ∨ j = 5 ∨ j = 6 by omega) with rfl | rfl | rfl | rfl | rfl | rfl | rfl <;> exact hs _ (by decide +kernel)) hA
theorem k_s5 (hs : ∀ w ∈ k_pr, w.before args s = true) {A : Nat → Prop} (hA : ∀ a : Nat, a < s.heap.size → ¬ A a) : ∃ q : Nat × Nat, (Term.string "PocketHole$Tape" 110).eval args s none [] s = some (.ref q.1) ∧ va_O "java/lang/String" q.1 A s s.heap ∧ va_OF "java/lang/String" "coder" "B" (.int 0) q.1 A s s.heap ∧ va_OF "java/lang/String" "value" "[B" (.ref q.2) q.1 A s s.heap ∧ va_T .byte q.2 (z_sl.getD 5 0) (fun j => .int ((z_sb.getD 5 []).getD j 0)) A s s.heap :=
  k_str1 (len := z_sl.getD 5 0) (byt := z_sb.getD 5 []) (by decide) (hs _ (by decide +kernel)) (hs _ (by decide +kernel)) (hs _ (by decide +kernel)) (hs _ (by decide +kernel)) (fun j hj => by
    have hj : j < 5 := hj
    rcases (show j = 0 ∨ j = 1 ∨ j = 2 ∨ j = 3 ∨ j = 4 by omega) with rfl | rfl | rfl | rfl | rfl <;> exact hs _ (by decide +kernel)) hA
theorem k_s6 (hs : ∀ w ∈ k_pr, w.before args s = true) {A : Nat → Prop} (hA : ∀ a : Nat, a < s.heap.size → ¬ A a) : ∃ q : Nat × Nat, (Term.string "PocketHole$Tape" 112).eval args s none [] s = some (.ref q.1) ∧ va_O "java/lang/String" q.1 A s s.heap ∧ va_OF "java/lang/String" "coder" "B" (.int 0) q.1 A s s.heap ∧ va_OF "java/lang/String" "value" "[B" (.ref q.2) q.1 A s s.heap ∧ va_T .byte q.2 (z_sl.getD 6 0) (fun j => .int ((z_sb.getD 6 []).getD j 0)) A s s.heap :=
  k_str1 (len := z_sl.getD 6 0) (byt := z_sb.getD 6 []) (by decide) (hs _ (by decide +kernel)) (hs _ (by decide +kernel)) (hs _ (by decide +kernel)) (hs _ (by decide +kernel)) (fun j hj => by
    have hj : j < 7 := hj
    rcases (show j = 0 ∨ j = 1 ∨ j = 2 ∨ j = 3 ∨ j = 4 ∨ j = 5 ∨ j = 6 by omega) with rfl | rfl | rfl | rfl | rfl | rfl | rfl <;> exact hs _ (by decide +kernel)) hA
theorem k_s7 (hs : ∀ w ∈ k_pr, w.before args s = true) {A : Nat → Prop} (hA : ∀ a : Nat, a < s.heap.size → ¬ A a) : ∃ q : Nat × Nat, (Term.string "PocketHole$Tape" 114).eval args s none [] s = some (.ref q.1) ∧ va_O "java/lang/String" q.1 A s s.heap ∧ va_OF "java/lang/String" "coder" "B" (.int 0) q.1 A s s.heap ∧ va_OF "java/lang/String" "value" "[B" (.ref q.2) q.1 A s s.heap ∧ va_T .byte q.2 (z_sl.getD 7 0) (fun j => .int ((z_sb.getD 7 []).getD j 0)) A s s.heap :=
  k_str1 (len := z_sl.getD 7 0) (byt := z_sb.getD 7 []) (by decide) (hs _ (by decide +kernel)) (hs _ (by decide +kernel)) (hs _ (by decide +kernel)) (hs _ (by decide +kernel)) (fun j hj => by
    have hj : j < 3 := hj
    rcases (show j = 0 ∨ j = 1 ∨ j = 2 by omega) with rfl | rfl | rfl <;> exact hs _ (by decide +kernel)) hA
theorem k_s8 (hs : ∀ w ∈ k_pr, w.before args s = true) {A : Nat → Prop} (hA : ∀ a : Nat, a < s.heap.size → ¬ A a) : ∃ q : Nat × Nat, (Term.string "PocketHole$Tape" 116).eval args s none [] s = some (.ref q.1) ∧ va_O "java/lang/String" q.1 A s s.heap ∧ va_OF "java/lang/String" "coder" "B" (.int 0) q.1 A s s.heap ∧ va_OF "java/lang/String" "value" "[B" (.ref q.2) q.1 A s s.heap ∧ va_T .byte q.2 (z_sl.getD 8 0) (fun j => .int ((z_sb.getD 8 []).getD j 0)) A s s.heap :=
  k_str1 (len := z_sl.getD 8 0) (byt := z_sb.getD 8 []) (by decide) (hs _ (by decide +kernel)) (hs _ (by decide +kernel)) (hs _ (by decide +kernel)) (hs _ (by decide +kernel)) (fun j hj => by
    have hj : j < 4 := hj
    rcases (show j = 0 ∨ j = 1 ∨ j = 2 ∨ j = 3 by omega) with rfl | rfl | rfl | rfl <;> exact hs _ (by decide +kernel)) hA
theorem k_s9 (hs : ∀ w ∈ k_pr, w.before args s = true) {A : Nat → Prop} (hA : ∀ a : Nat, a < s.heap.size → ¬ A a) : ∃ q : Nat × Nat, (Term.string "PocketHole$Tape" 118).eval args s none [] s = some (.ref q.1) ∧ va_O "java/lang/String" q.1 A s s.heap ∧ va_OF "java/lang/String" "coder" "B" (.int 0) q.1 A s s.heap ∧ va_OF "java/lang/String" "value" "[B" (.ref q.2) q.1 A s s.heap ∧ va_T .byte q.2 (z_sl.getD 9 0) (fun j => .int ((z_sb.getD 9 []).getD j 0)) A s s.heap :=
  k_str1 (len := z_sl.getD 9 0) (byt := z_sb.getD 9 []) (by decide) (hs _ (by decide +kernel)) (hs _ (by decide +kernel)) (hs _ (by decide +kernel)) (hs _ (by decide +kernel)) (fun j hj => by
    have hj : j < 6 := hj
    rcases (show j = 0 ∨ j = 1 ∨ j = 2 ∨ j = 3 ∨ j = 4 ∨ j = 5 by omega) with rfl | rfl | rfl | rfl | rfl | rfl <;> exact hs _ (by decide +kernel)) hA
theorem k_s10 (hs : ∀ w ∈ k_pr, w.before args s = true) {A : Nat → Prop} (hA : ∀ a : Nat, a < s.heap.size → ¬ A a) : ∃ q : Nat × Nat, (Term.string "PocketHole$Tape" 77).eval args s none [] s = some (.ref q.1) ∧ va_O "java/lang/String" q.1 A s s.heap ∧ va_OF "java/lang/String" "coder" "B" (.int 0) q.1 A s s.heap ∧ va_OF "java/lang/String" "value" "[B" (.ref q.2) q.1 A s s.heap ∧ va_T .byte q.2 (z_sl.getD 10 0) (fun j => .int ((z_sb.getD 10 []).getD j 0)) A s s.heap :=
  k_str1 (len := z_sl.getD 10 0) (byt := z_sb.getD 10 []) (by decide) (hs _ (by decide +kernel)) (hs _ (by decide +kernel)) (hs _ (by decide +kernel)) (hs _ (by decide +kernel)) (fun j hj => by
    have hj : j < 4 := hj
    rcases (show j = 0 ∨ j = 1 ∨ j = 2 ∨ j = 3 by omega) with rfl | rfl | rfl | rfl <;> exact hs _ (by decide +kernel)) hA
theorem k_s11 (hs : ∀ w ∈ k_pr, w.before args s = true) {A : Nat → Prop} (hA : ∀ a : Nat, a < s.heap.size → ¬ A a) : ∃ q : Nat × Nat, (Term.string "PocketHole$Tape" 83).eval args s none [] s = some (.ref q.1) ∧ va_O "java/lang/String" q.1 A s s.heap ∧ va_OF "java/lang/String" "coder" "B" (.int 0) q.1 A s s.heap ∧ va_OF "java/lang/String" "value" "[B" (.ref q.2) q.1 A s s.heap ∧ va_T .byte q.2 (z_sl.getD 11 0) (fun j => .int ((z_sb.getD 11 []).getD j 0)) A s s.heap :=
  k_str1 (len := z_sl.getD 11 0) (byt := z_sb.getD 11 []) (by decide) (hs _ (by decide +kernel)) (hs _ (by decide +kernel)) (hs _ (by decide +kernel)) (hs _ (by decide +kernel)) (fun j hj => by
    have hj : j < 6 := hj
    rcases (show j = 0 ∨ j = 1 ∨ j = 2 ∨ j = 3 ∨ j = 4 ∨ j = 5 by omega) with rfl | rfl | rfl | rfl | rfl | rfl <;> exact hs _ (by decide +kernel)) hA
theorem k_s12 (hs : ∀ w ∈ k_pr, w.before args s = true) {A : Nat → Prop} (hA : ∀ a : Nat, a < s.heap.size → ¬ A a) : ∃ q : Nat × Nat, (Term.string "PocketHole$Tape" 85).eval args s none [] s = some (.ref q.1) ∧ va_O "java/lang/String" q.1 A s s.heap ∧ va_OF "java/lang/String" "coder" "B" (.int 0) q.1 A s s.heap ∧ va_OF "java/lang/String" "value" "[B" (.ref q.2) q.1 A s s.heap ∧ va_T .byte q.2 (z_sl.getD 12 0) (fun j => .int ((z_sb.getD 12 []).getD j 0)) A s s.heap :=
  k_str1 (len := z_sl.getD 12 0) (byt := z_sb.getD 12 []) (by decide) (hs _ (by decide +kernel)) (hs _ (by decide +kernel)) (hs _ (by decide +kernel)) (hs _ (by decide +kernel)) (fun j hj => by
    have hj : j < 5 := hj
    rcases (show j = 0 ∨ j = 1 ∨ j = 2 ∨ j = 3 ∨ j = 4 by omega) with rfl | rfl | rfl | rfl | rfl <;> exact hs _ (by decide +kernel)) hA
theorem k_s13 (hs : ∀ w ∈ k_pr, w.before args s = true) {A : Nat → Prop} (hA : ∀ a : Nat, a < s.heap.size → ¬ A a) : ∃ q : Nat × Nat, (Term.string "PocketHole$Tape" 87).eval args s none [] s = some (.ref q.1) ∧ va_O "java/lang/String" q.1 A s s.heap ∧ va_OF "java/lang/String" "coder" "B" (.int 0) q.1 A s s.heap ∧ va_OF "java/lang/String" "value" "[B" (.ref q.2) q.1 A s s.heap ∧ va_T .byte q.2 (z_sl.getD 13 0) (fun j => .int ((z_sb.getD 13 []).getD j 0)) A s s.heap :=
  k_str1 (len := z_sl.getD 13 0) (byt := z_sb.getD 13 []) (by decide) (hs _ (by decide +kernel)) (hs _ (by decide +kernel)) (hs _ (by decide +kernel)) (hs _ (by decide +kernel)) (fun j hj => by
    have hj : j < 4 := hj
    rcases (show j = 0 ∨ j = 1 ∨ j = 2 ∨ j = 3 by omega) with rfl | rfl | rfl | rfl <;> exact hs _ (by decide +kernel)) hA
theorem k_strs (hs : ∀ w ∈ k_pr, w.before args s = true) {A : Nat → Prop} (hA : ∀ a : Nat, a < s.heap.size → ¬ A a) : ∃ ad : Nat → Nat × Nat, ∀ i, i < 14 → (Term.string "PocketHole$Tape" (k_tp.getD i 0)).eval args s none [] s = some (.ref (ad i).1) ∧ va_O "java/lang/String" (ad i).1 A s s.heap ∧ va_OF "java/lang/String" "coder" "B" (.int 0) (ad i).1 A s s.heap ∧ va_OF "java/lang/String" "value" "[B" (.ref (ad i).2) (ad i).1 A s s.heap ∧ va_T .byte (ad i).2 (z_sl.getD i 0) (fun j => .int ((z_sb.getD i []).getD j 0)) A s s.heap := by
  refine Classical.axiomOfChoice (r := fun i (q : Nat × Nat) => i < 14 → (Term.string "PocketHole$Tape" (k_tp.getD i 0)).eval args s none [] s = some (.ref q.1) ∧ va_O "java/lang/String" q.1 A s s.heap ∧ va_OF "java/lang/String" "coder" "B" (.int 0) q.1 A s s.heap ∧ va_OF "java/lang/String" "value" "[B" (.ref q.2) q.1 A s s.heap ∧ va_T .byte q.2 (z_sl.getD i 0) (fun j => .int ((z_sb.getD i []).getD j 0)) A s s.heap) (fun i => ?_)
  match i with
  | 0 => obtain ⟨q, h⟩ := k_s0 hs hA; exact ⟨q, fun _ => h⟩
  | 1 => obtain ⟨q, h⟩ := k_s1 hs hA; exact ⟨q, fun _ => h⟩
  | 2 => obtain ⟨q, h⟩ := k_s2 hs hA; exact ⟨q, fun _ => h⟩
  | 3 => obtain ⟨q, h⟩ := k_s3 hs hA; exact ⟨q, fun _ => h⟩
  | 4 => obtain ⟨q, h⟩ := k_s4 hs hA; exact ⟨q, fun _ => h⟩
  | 5 => obtain ⟨q, h⟩ := k_s5 hs hA; exact ⟨q, fun _ => h⟩
  | 6 => obtain ⟨q, h⟩ := k_s6 hs hA; exact ⟨q, fun _ => h⟩
  | 7 => obtain ⟨q, h⟩ := k_s7 hs hA; exact ⟨q, fun _ => h⟩
  | 8 => obtain ⟨q, h⟩ := k_s8 hs hA; exact ⟨q, fun _ => h⟩
  | 9 => obtain ⟨q, h⟩ := k_s9 hs hA; exact ⟨q, fun _ => h⟩
  | 10 => obtain ⟨q, h⟩ := k_s10 hs hA; exact ⟨q, fun _ => h⟩
  | 11 => obtain ⟨q, h⟩ := k_s11 hs hA; exact ⟨q, fun _ => h⟩
  | 12 => obtain ⟨q, h⟩ := k_s12 hs hA; exact ⟨q, fun _ => h⟩
  | 13 => obtain ⟨q, h⟩ := k_s13 hs hA; exact ⟨q, fun _ => h⟩
  | n + 14 => exact ⟨(0, 0), fun h => absurd h (by omega)⟩
theorem k_refs (hs : ∀ w ∈ k_pr, w.before args s = true) (hT : ∀ w ∈ tables_1, w.before args s = true) {sa : Nat → Nat} (he : ∀ i, i < 14 → (Term.string "PocketHole$Tape" (k_tp.getD i 0)).eval args s none [] s = some (.ref (sa i))) : ∀ q ∈ zT, vk_R q.1 q.2.1 (z_st.getD q.2.2 "") (sa q.2.2) s := by
  exact List.forall_mem_cons.mpr ⟨vk_R.of (hT _ (List.mem_of_getElem? (i := 552) (by decide +kernel))) (he 0 (by decide)), List.forall_mem_cons.mpr ⟨vk_R.of (hT _ (List.mem_of_getElem? (i := 618) (by decide +kernel))) (he 1 (by decide)), List.forall_mem_cons.mpr ⟨vk_R.of (hT _ (List.mem_of_getElem? (i := 623) (by decide +kernel))) (he 2 (by decide)), List.forall_mem_cons.mpr ⟨vk_R.of (hT _ (List.mem_of_getElem? (i := 635) (by decide +kernel))) (he 3 (by decide)), List.forall_mem_cons.mpr ⟨vk_R.of (hT _ (List.mem_of_getElem? (i := 636) (by decide +kernel))) (he 4 (by decide)), List.forall_mem_cons.mpr ⟨vk_R.of (hT _ (List.mem_of_getElem? (i := 637) (by decide +kernel))) (he 5 (by decide)), List.forall_mem_cons.mpr ⟨vk_R.of (hT _ (List.mem_of_getElem? (i := 638) (by decide +kernel))) (he 6 (by decide)), List.forall_mem_cons.mpr ⟨vk_R.of (hT _ (List.mem_of_getElem? (i := 639) (by decide +kernel))) (he 7 (by decide)), List.forall_mem_cons.mpr ⟨vk_R.of (hT _ (List.mem_of_getElem? (i := 640) (by decide +kernel))) (he 8 (by decide)), List.forall_mem_cons.mpr ⟨vk_R.of (hT _ (List.mem_of_getElem? (i := 641) (by decide +kernel))) (he 9 (by decide)), List.forall_mem_cons.mpr ⟨vk_R.of (hT _ (List.mem_of_getElem? (i := 643) (by decide +kernel))) (he 10 (by decide)), List.forall_mem_cons.mpr ⟨vk_R.of (hT _ (List.mem_of_getElem? (i := 649) (by decide +kernel))) (he 11 (by decide)), List.forall_mem_cons.mpr ⟨vk_R.of (hT _ (List.mem_of_getElem? (i := 650) (by decide +kernel))) (he 12 (by decide)), List.forall_mem_cons.mpr ⟨vk_R.of (hT _ (List.mem_of_getElem? (i := 651) (by decide +kernel))) (he 13 (by decide)), List.forall_mem_cons.mpr ⟨vk_R.of (hT _ (List.mem_of_getElem? (i := 738) (by decide +kernel))) (k_eqr (hs (Cond.eq (.string "PocketHole$Tape" 106) (.string "PocketHoleModel" 37)) (by decide +kernel)) (he 3 (by decide))), List.forall_mem_cons.mpr ⟨vk_R.of (hT _ (List.mem_of_getElem? (i := 739) (by decide +kernel))) (k_eqr (hs (Cond.eq (.string "PocketHole$Tape" 108) (.string "PocketHoleModel" 39)) (by decide +kernel)) (he 4 (by decide))), List.forall_mem_cons.mpr ⟨vk_R.of (hT _ (List.mem_of_getElem? (i := 740) (by decide +kernel))) (k_eqr (hs (Cond.eq (.string "PocketHole$Tape" 110) (.string "PocketHoleModel" 41)) (by decide +kernel)) (he 5 (by decide))), List.forall_mem_cons.mpr ⟨vk_R.of (hT _ (List.mem_of_getElem? (i := 741) (by decide +kernel))) (k_eqr (hs (Cond.eq (.string "PocketHole$Tape" 116) (.string "PocketHoleModel" 43)) (by decide +kernel)) (he 8 (by decide))), List.forall_mem_cons.mpr ⟨vk_R.of (hT _ (List.mem_of_getElem? (i := 742) (by decide +kernel))) (k_eqr (hs (Cond.eq (.string "PocketHole$Tape" 112) (.string "PocketHoleModel" 45)) (by decide +kernel)) (he 6 (by decide))), List.forall_mem_cons.mpr ⟨vk_R.of (hT _ (List.mem_of_getElem? (i := 743) (by decide +kernel))) (k_eqr (hs (Cond.eq (.string "PocketHole$Tape" 114) (.string "PocketHoleModel" 47)) (by decide +kernel)) (he 7 (by decide))), List.forall_mem_cons.mpr ⟨vk_R.of (hT _ (List.mem_of_getElem? (i := 744) (by decide +kernel))) (k_eqr (hs (Cond.eq (.string "PocketHole$Tape" 118) (.string "PocketHoleModel" 49)) (by decide +kernel)) (he 9 (by decide))), List.forall_mem_cons.mpr ⟨vk_R.of (hT _ (List.mem_of_getElem? (i := 1172) (by decide +kernel))) (k_eqr (hs (Cond.eq (.string "PocketHole$Tape" 77) (.string "PocketHoleModel" 284)) (by decide +kernel)) (he 10 (by decide))), List.forall_mem_cons.mpr ⟨vk_R.of (hT _ (List.mem_of_getElem? (i := 1181) (by decide +kernel))) (k_eqr (hs (Cond.eq (.string "PocketHole$Tape" 83) (.string "PocketHoleModel" 292)) (by decide +kernel)) (he 11 (by decide))), List.forall_mem_cons.mpr ⟨vk_R.of (hT _ (List.mem_of_getElem? (i := 1182) (by decide +kernel))) (k_eqr (hs (Cond.eq (.string "PocketHole$Tape" 85) (.string "PocketHoleModel" 294)) (by decide +kernel)) (he 12 (by decide))), List.forall_mem_cons.mpr ⟨vk_R.of (hT _ (List.mem_of_getElem? (i := 1183) (by decide +kernel))) (k_eqr (hs (Cond.eq (.string "PocketHole$Tape" 87) (.string "PocketHoleModel" 296)) (by decide +kernel)) (he 13 (by decide))), List.forall_mem_cons.mpr ⟨vk_R.of (hT _ (List.mem_of_getElem? (i := 1188) (by decide +kernel))) (k_eqr (hs (Cond.eq (.string "PocketHole$Tape" 34) (.string "PocketHoleModel" 302)) (by decide +kernel)) (he 0 (by decide))), List.forall_mem_cons.mpr ⟨vk_R.of (hT _ (List.mem_of_getElem? (i := 1189) (by decide +kernel))) (k_eqr (hs (Cond.eq (.string "PocketHole$Tape" 44) (.string "PocketHoleModel" 304)) (by decide +kernel)) (he 1 (by decide))), List.forall_mem_cons.mpr ⟨vk_R.of (hT _ (List.mem_of_getElem? (i := 1190) (by decide +kernel))) (k_eqr (hs (Cond.eq (.string "PocketHole$Tape" 60) (.string "PocketHoleModel" 306)) (by decide +kernel)) (he 2 (by decide))), fun _ h => absurd h List.not_mem_nil⟩⟩⟩⟩⟩⟩⟩⟩⟩⟩⟩⟩⟩⟩⟩⟩⟩⟩⟩⟩⟩⟩⟩⟩⟩⟩⟩⟩
theorem k_cs (hs : ∀ w ∈ k_pr, w.before args s = true) (hts : ∀ w ∈ wsL_law, w.before args s = true) (hT : ∀ w ∈ tables_1, w.before args s = true) {A : Nat → Prop} (hA : ∀ a : Nat, a < s.heap.size → ¬ A a) : va_Z "java/lang/String" "COMPACT_STRINGS" "Z" (.int 1) A s s.heap := va_Zof (hT _ (List.mem_of_getElem? (i := 570) (by decide +kernel))) (hts _ zw_11) (va_eqt (hs _ (by decide +kernel))) hA
theorem k_fm (hs : ∀ w ∈ k_pr, w.before args s = true) (hts : ∀ w ∈ wsL_law, w.before args s = true) (hT : ∀ w ∈ tables_1, w.before args s = true) {A : Nat → Prop} (hA : ∀ a : Nat, a < s.heap.size → ¬ A a) : ∃ (fr : Nat) (v : Value), (v = .ref fr ∨ v = .null) ∧ va_Z "jdk/internal/util/Preconditions" "SIOOBE_FORMATTER" "Ljava/util/function/BiFunction;" v A s s.heap := by
  obtain ⟨v, h1, h2⟩ := Cond.isRef_spec (hs (.isRef (.static "jdk/internal/util/Preconditions" "SIOOBE_FORMATTER" "Ljava/util/function/BiFunction;")) (by decide +kernel))
  have hZ := va_Zof (hT _ (List.mem_of_getElem? (i := 586) (by decide +kernel))) (hts _ zw_13) h1 hA
  cases v with
  | ref a => exact ⟨a, _, Or.inl rfl, hZ⟩
  | null => exact ⟨0, _, Or.inr rfl, hZ⟩
  | _ => exact absurd h2 (by simp [Value.isRef])
end EN
