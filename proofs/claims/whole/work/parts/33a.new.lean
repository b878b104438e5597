
/-! CONSTRUCTORS: worlds that grow: ws in front, pl behind -/
def n_O (s : State) : Prop := va_AO "PocketHole$Coin" s ∧ va_AO "PocketHole$Sheet" s ∧ va_AO "java/lang/String" s
def n_N (s : State) : Prop := ∀ w ∈ zNst, va_Nw w s
theorem n_O.moved {u U : State} (hvm : u.vm.Alike U.vm) (h : n_O u) : n_O U := ⟨h.1.moved hvm, h.2.1.moved hvm, h.2.2.moved hvm⟩
theorem n_N.warm {s U : State} (hW : s.WarmedH U.vm) (h : n_N s) : n_N U := fun w hw => z_nstWarm hw hW (h w hw)
/-- the world as members -/
theorem n_Pm {G : va_G} {cl : List vw_C} {ws : va_W} {H : Heap} : va_P G cl ws H ↔ ∀ q ∈ ws, va_at G cl q H := by
  constructor
  · intro h q hq
    obtain ⟨k, hk⟩ := List.getElem?_of_mem hq
    exact h k q hk
  · intro h k q hk
    exact h q (List.mem_of_getElem? hk)
theorem n_P_sub {G : va_G} {cl : List vw_C} {ws w2 : va_W} {H : Heap} (h : va_P G cl ws H) (hs : ∀ q ∈ w2, q ∈ ws) : va_P G cl w2 H := n_Pm.mpr (fun q hq => n_Pm.mp h q (hs q hq))
theorem n_Dl {A : Nat → Prop} {a b : va_W} (h : va_D A (a ++ b)) : va_D A a ∧ va_D A b ∧ ∀ (i j : Nat) (p q : Nat × va_E), a[i]? = some p → b[j]? = some q → p.1 ≠ q.1 := by
  have ha : ∀ i p, a[i]? = some p → (a ++ b)[i]? = some p := fun i p hp => by
    rw [List.getElem?_append_left (List.getElem?_eq_some_iff.mp hp).1]; exact hp
  have hb : ∀ i p, b[i]? = some p → (a ++ b)[a.length + i]? = some p := fun i p hp => by
    rw [List.getElem?_append_right (by omega), Nat.add_sub_cancel_left]; exact hp
  refine ⟨⟨fun i j p q hp hq e => h.1 i j p q (ha i p hp) (ha j q hq) e, fun k q hk => h.2 k q (ha k q hk)⟩, ⟨fun i j p q hp hq e => ?_, fun k q hk => h.2 _ q (hb k q hk)⟩, fun i j p q hp hq e => ?_⟩
  · have := h.1 _ _ p q (hb i p hp) (hb j q hq) e; omega
  · have h1 := h.1 _ _ p q (ha i p hp) (hb j q hq) e
    have h2 := (List.getElem?_eq_some_iff.mp hp).1
    omega
/-- only the addresses count -/
theorem n_Dc {A : Nat → Prop} {ws w2 : va_W} (h : va_D A ws) (he : w2.map (fun q => q.1) = ws.map (fun q => q.1)) : va_D A w2 := by
  have key : ∀ (i : Nat) (p : Nat × va_E), w2[i]? = some p → ∃ p2, ws[i]? = some p2 ∧ p2.1 = p.1 := by
    intro i p hp
    have h1 : (w2.map (fun q => q.1))[i]? = some p.1 := by rw [List.getElem?_map, hp]; rfl
    rw [he, List.getElem?_map] at h1
    cases h2 : ws[i]? with
    | none => rw [h2] at h1; cases h1
    | some u => rw [h2] at h1; exact ⟨u, rfl, Option.some.inj h1⟩
  refine ⟨fun i j p q hp hq e => ?_, fun k q hk => ?_⟩
  · obtain ⟨p2, h1, h2⟩ := key i p hp
    obtain ⟨q2, h3, h4⟩ := key j q hq
    exact h.1 i j p2 q2 h1 h3 (by rw [h2, h4, e])
  · obtain ⟨q2, h1, h2⟩ := key k q hk
    rw [← h2]
    exact h.2 k q2 h1
theorem n_cell_q {cA : ClassId} {n : Nat} {f g : Nat → Option Nat} (h : ∀ j, j < n → f j = g j) : vp_cell cA (n, .inr (.inr (.inr (.inr f)))) = vp_cell cA (n, .inr (.inr (.inr (.inr g)))) := by
  rw [vp_cell_q, vp_cell_q]
  unfold arrV
  congr 2
  funext j
  show va_rf (f j.val) = va_rf (g j.val)
  rw [h j.val j.isLt]
theorem n_cell_i {cA : ClassId} {n : Nat} {f g : Nat → Int32} (h : ∀ j, j < n → f j = g j) : vp_cell cA (n, .inl f) = vp_cell cA (n, .inl g) := by
  rw [vp_cell_i, vp_cell_i]
  unfold arrV
  congr 2
  funext j
  show Value.int (f j.val) = Value.int (g j.val)
  rw [h j.val j.isLt]
theorem n_at_q {G : va_G} {cl : List vw_C} {a : Nat} {cA : ClassId} {n : Nat} {f g : Nat → Option Nat} {H : Heap} (h : ∀ j, j < n → f j = g j) (hp : va_at G cl (a, .inl (cA, n, .inr (.inr (.inr (.inr f))))) H) : va_at G cl (a, .inl (cA, n, .inr (.inr (.inr (.inr g))))) H := by
  show H[a]? = some _
  rw [← n_cell_q h]
  exact hp
theorem n_at_i {G : va_G} {cl : List vw_C} {a : Nat} {cA : ClassId} {n : Nat} {f g : Nat → Int32} {H : Heap} (h : ∀ j, j < n → f j = g j) (hp : va_at G cl (a, .inl (cA, n, .inl f)) H) : va_at G cl (a, .inl (cA, n, .inl g)) H := by
  show H[a]? = some _
  rw [← n_cell_i h]
  exact hp
/-- a String may lie in a row of Strings -/
theorem n_Any {E : String} {s : State} {H : Heap} {A : Nat → Prop} {t : Nat} (h : va_O E t A s H) : va_Any E s H t := by
  obtain ⟨cell, h1, h2, h3, h4⟩ := h
  obtain ⟨kC, hkC, -⟩ := Vm.findClass_spec h3
  refine ⟨cell, h1, h2, ⟨kC, hkC⟩, fun comp hc => ?_⟩
  cases h3.symm.trans hc
  exact va_asg _ _
/-- a constructor's contract: the object comes as it is made; w is the world behind -/
def n_CC (y : MethodName) (b : ByteArray) (nL ci : Nat) (fs0 : List Value) (d mc ms : Nat) (X : State → (Nat → Nat) → Nat → Prop) (Post : (Nat → Nat) → (Nat → ClassId) → Nat → va_W → Prop) : Prop :=
  ∀ (l : Launch) (G : va_G) (cy : Nat → ClassId) (h sz : Nat) (sa : Nat → Nat), Met l y (.code y b nL none :: wsL_law) { frames := d, cells := mc, slots := ms, locals := 40 * d }
    (va_Pc [.ref h] (fun U => U.heap.size = sz ∧ va_P G vwCl [(h, .inr (ci, fs0))] U.heap ∧ va_K G vwCl (z_tys cy) U ∧ n_N U ∧ n_O U ∧ X U sa h))
    (va_Qv (fun w : va_W => Post sa cy h w) (fun w t => va_P G vwCl w t.heap ∧ va_D (va_A [(h, .inr (ci, fs0))] sz) w) (va_A [(h, .inr (ci, fs0))] sz)) mc ms (va_A [(h, .inr (ci, fs0))] sz)
/-- what is fixed in a constructor's walk -/
def n_F (p : Program) (e : Env) (R : Room) (s : State) (m : MethodId) (args : Array Value) (meth : Method) (c : Code) (G : va_G) (cy : Nat → ClassId) (A : Nat → Prop) (cc : ByteArray) (own : String) (nL : Nat) : Prop :=
  p.tables.exec = Jvm.exec ∧ c.code = cc ∧ c.maxLocals = nL ∧ s.vm.findClass own = some m.cls ∧ (∀ w ∈ wsL_law, w.before args s = true) ∧ va_K G vwCl (z_tys cy) s ∧ (∀ q : Nat, s.heap.size ≤ q → A q) ∧ n_N s ∧ n_O s
section NR
variable {p : Program} {l : Launch} {e : Env} {R : Room} {s : State} {m : MethodId} {args : Array Value} {below : List Frame} {meth : Method} {c : Code} {G : va_G} {cy : Nat → ClassId} {A : Nat → Prop} {cc : ByteArray} {own : String} {nL : Nat} {Q : State → Prop} {H : Heap} {locs : List Loc} {ls : Array Slot} {pc k n : Nat} {rest : List Value} {a : Nat} {w : va_W}
theorem n_put (F : n_F p e R s m args meth c G cy A cc own nL) {idx ci j N : Nat} {C : String} {Tb : u_T} {ty : Nat → FieldType} {t : FieldType} {v : Value} {fs : List Value} {w2 : va_W} (hcl : z_Cl ci C Tb N ty) (q0 : Nat) (hP : va_P G vwCl w H) (hD : va_D A w) (hS : va_S A s.heap H locs) (he : w[q0]? = some (a, .inr (ci, fs))) (hj : j < N) (hlk : Cond.fieldLink own idx (Tb j).1 (Tb j).2.1 (Tb j).2.2.1 ∈ wsL_law) (hfin : (Tb j).2.2.2 = false) (ht : ty j = t) (hn : narrow t v = v) (hft : fits t v = true) (hl : j < fs.length) (hd : decode cc pc = .ok (.putfield idx, 3)) (hw : w.set q0 (a, .inr (ci, fs.set j v)) = w2)
    (kk : ∀ (H : Heap) (locs : List Loc), va_P G vwCl w2 H → va_D A w2 → va_S A s.heap H locs → W p l e R s m args below meth c H locs k n Q (F0 m (pc + 3) ls rest)) : W p l e R s m args below meth c H locs k n Q (F0 m pc ls (v :: .ref a :: rest)) := by
  obtain ⟨hx, hb, hml, hown, hts, hK, hA, hN, hO⟩ := F
  obtain ⟨h1, h2, h3, h4⟩ := hcl
  subst hw
  exact va_put hx hb hts h2 ty h3 h4 hown hK hP hD hS q0 he h1 j hj (hts _ hlk) (fun _ q => q) hfin (ty := t) (by rw [h3 j hj, ht]) hn hft hl hd kk
theorem n_putF (F : n_F p e R s m args meth c G cy A cc own nL) {idx ci j N : Nat} {C : String} {Tb : u_T} {ty : Nat → FieldType} {t : FieldType} {v : Value} {fs : List Value} {w2 : va_W} (hcl : z_Cl ci C Tb N ty) (q0 : Nat) (hP : va_P G vwCl w H) (hD : va_D A w) (hS : va_S A s.heap H locs) (he : w[q0]? = some (a, .inr (ci, fs))) (hj : j < N) (hlk : Cond.fieldLink own idx (Tb j).1 (Tb j).2.1 (Tb j).2.2.1 ∈ wsL_law) (hfin : (Tb j).2.2.2 = true) (hini : meth.name = "<init>") (hdecl : (Tb j).1 = own) (ht : ty j = t) (hn : narrow t v = v) (hft : fits t v = true) (hl : j < fs.length) (hd : decode cc pc = .ok (.putfield idx, 3)) (hw : w.set q0 (a, .inr (ci, fs.set j v)) = w2)
    (kk : ∀ (H : Heap) (locs : List Loc), va_P G vwCl w2 H → va_D A w2 → va_S A s.heap H locs → W p l e R s m args below meth c H locs k n Q (F0 m (pc + 3) ls rest)) : W p l e R s m args below meth c H locs k n Q (F0 m pc ls (v :: .ref a :: rest)) := by
  obtain ⟨hx, hb, hml, hown, hts, hK, hA, hN, hO⟩ := F
  obtain ⟨h1, h2, h3, h4⟩ := hcl
  subst hw
  exact va_putF hx hb hts h2 ty h3 h4 hown hK hP hD hS q0 he h1 j hj (hts _ hlk) (fun _ q => q) hfin hini hdecl (ty := t) (by rw [h3 j hj, ht]) hn hft hl hd kk
theorem n_get (F : n_F p e R s m args meth c G cy A cc own nL) {idx ci j N : Nat} {C : String} {Tb : u_T} {ty : Nat → FieldType} {v : Value} {fs : List Value} (hcl : z_Cl ci C Tb N ty) (q0 : Nat) (hP : va_P G vwCl w H) (he : w[q0]? = some (a, .inr (ci, fs))) (hj : j < N) (hlk : Cond.fieldLink own idx (Tb j).1 (Tb j).2.1 (Tb j).2.2.1 ∈ wsL_law) (hv : fs[j]? = some v) (hd : decode cc pc = .ok (.getfield idx, 3))
    (kk : W p l e R s m args below meth c H locs k n Q (F0 m (pc + 3) ls (v :: rest))) : W p l e R s m args below meth c H locs k n Q (F0 m pc ls (.ref a :: rest)) := by
  obtain ⟨hx, hb, hml, hown, hts, hK, hA, hN, hO⟩ := F
  obtain ⟨h1, h2, h3, h4⟩ := hcl
  exact va_get hx hb hts h2 hown hK hP q0 he h1 j hj (hts _ hlk) (fun _ q => q) hv hd kk
theorem n_new (F : n_F p e R s m args meth c G cy A cc own nL) {idx ci N : Nat} {C : String} {Tb : u_T} {ty : Nat → FieldType} {ws pl : va_W} (fs : List Value) (hcl : z_Cl ci C Tb N ty) (hP : va_P G vwCl (ws ++ pl) H) (hD : va_D A (ws ++ pl)) (hS : va_S A s.heap H locs) (hlk : Cond.classLink own idx C ∈ wsL_law) (hinst : Cond.instantiable C N ∈ wsL_law) (hini : Cond.initialized C ∈ wsL_law) (hfs : ∀ j, j < N → defaultValue (ty j) = vp_V fs j) (hc : k + 1 ≤ R.cells) (hs : n + N ≤ R.slots) (hd : decode cc pc = .ok (.new idx, 3))
    (kk : ∀ (q : Nat) (H : Heap), va_P G vwCl ((ws ++ [(q, .inr (ci, fs))]) ++ pl) H → va_D A ((ws ++ [(q, .inr (ci, fs))]) ++ pl) → va_S A s.heap H locs → W p l e R s m args below meth c H locs (k + 1) (n + N) Q (F0 m (pc + 3) ls (.ref q :: rest))) : W p l e R s m args below meth c H locs k n Q (F0 m pc ls rest) := by
  obtain ⟨hx, hb, hml, hown, hts, hK, hA, hN, hO⟩ := F
  obtain ⟨h1, h2, h3, h4⟩ := hcl
  exact va_new hx hb hts h2 ty h3 hown (hts _ hlk) (hts _ hinst) (hts _ hini) hK hP hD hS hA h1 hfs hc hs hd (fun q H1 hP1 hD1 hS1 => kk q H1 hP1.swap hD1.swap hS1)
/-- an array class is one -/
theorem n_cy {t : Nat} {ty : FieldType} {cA : ClassId} {tys : List (ClassId × FieldType)} (hK : va_K G vwCl tys s) (ht : tys[t]? = some (cy (6 + t), ty)) (hK2 : va_K G vwCl (tys ++ [(cA, ty)]) s) : cA = cy (6 + t) := by
  have h1 := (hK.2 t _ ht).2
  have h2 := (hK2.2 tys.length (cA, ty) (by rw [List.getElem?_append_right (Nat.le_refl _), Nat.sub_self]; rfl)).2
  cases ty with
  | object C =>
    obtain ⟨_, _, _, _, _, a4⟩ := h1
    obtain ⟨_, _, _, _, _, b4⟩ := h2
    exact Option.some.inj (b4.symm.trans a4)
  | _ =>
    have h1' : s.vm.findClass _ = some _ := h1
    have h2' : s.vm.findClass _ = some _ := h2
    exact Option.some.inj (h2'.symm.trans h1')
theorem n_newi (F : n_F p e R s m args meth c G cy A cc own nL) {ws pl : va_W} {i : Int32} (N : Nat) (hi : i = nI N) (h31 : N < 100000) (hP : va_P G vwCl (ws ++ pl) H) (hD : va_D A (ws ++ pl)) (hS : va_S A s.heap H locs) (hc : k + 1 ≤ R.cells) (hs : n + N ≤ R.slots) (hd : decode cc pc = .ok (.newarray .int, 2))
    (kk : ∀ (q : Nat) (H : Heap), va_P G vwCl ((ws ++ [(q, .inl (cy 6, N, .inl (fun _ => 0)))]) ++ pl) H → va_D A ((ws ++ [(q, .inl (cy 6, N, .inl (fun _ => 0)))]) ++ pl) → va_S A s.heap H locs → W p l e R s m args below meth c H locs (k + 1) (n + N) Q (F0 m (pc + 2) ls (.ref q :: rest))) : W p l e R s m args below meth c H locs k n Q (F0 m pc ls (.int i :: rest)) := by
  obtain ⟨hx, hb, hml, hown, hts, hK, hA, hN, hO⟩ := F
  subst hi
  refine va_newa (atype := .int) (ty := .int) (N' := N) (a0 := (N, .inl (fun _ => 0))) hx hb (hts _ zw_63) rfl hK hP hD hS hA (fun cA => rfl) (nI_pos (by omega)) (nI_clamp (by omega)) (by show N * 4 ≤ _; omega) hc hs hd (fun q cA H1 hK1 hP1 hD1 hS1 => ?_)
  have e := n_cy (t := 0) hK rfl hK1
  subst e
  exact kk q H1 hP1.swap hD1.swap hS1
theorem n_newl (F : n_F p e R s m args meth c G cy A cc own nL) {ws pl : va_W} {i : Int32} (N : Nat) (hi : i = nI N) (h31 : N < 100000) (hP : va_P G vwCl (ws ++ pl) H) (hD : va_D A (ws ++ pl)) (hS : va_S A s.heap H locs) (hc : k + 1 ≤ R.cells) (hs : n + N ≤ R.slots) (hd : decode cc pc = .ok (.newarray .long, 2))
    (kk : ∀ (q : Nat) (H : Heap), va_P G vwCl ((ws ++ [(q, .inl (cy 7, N, .inr (.inl (fun _ => 0))))]) ++ pl) H → va_D A ((ws ++ [(q, .inl (cy 7, N, .inr (.inl (fun _ => 0))))]) ++ pl) → va_S A s.heap H locs → W p l e R s m args below meth c H locs (k + 1) (n + N) Q (F0 m (pc + 2) ls (.ref q :: rest))) : W p l e R s m args below meth c H locs k n Q (F0 m pc ls (.int i :: rest)) := by
  obtain ⟨hx, hb, hml, hown, hts, hK, hA, hN, hO⟩ := F
  subst hi
  refine va_newa (atype := .long) (ty := .long) (N' := N) (a0 := (N, .inr (.inl (fun _ => 0)))) hx hb (hts _ zw_126) rfl hK hP hD hS hA (fun cA => rfl) (nI_pos (by omega)) (nI_clamp (by omega)) (by show N * 8 ≤ _; omega) hc hs hd (fun q cA H1 hK1 hP1 hD1 hS1 => ?_)
  have e := n_cy (t := 1) hK rfl hK1
  subst e
  exact kk q H1 hP1.swap hD1.swap hS1
theorem n_newz (F : n_F p e R s m args meth c G cy A cc own nL) {ws pl : va_W} {i : Int32} (N : Nat) (hi : i = nI N) (h31 : N < 100000) (hP : va_P G vwCl (ws ++ pl) H) (hD : va_D A (ws ++ pl)) (hS : va_S A s.heap H locs) (hc : k + 1 ≤ R.cells) (hs : n + N ≤ R.slots) (hd : decode cc pc = .ok (.newarray .boolean, 2))
    (kk : ∀ (q : Nat) (H : Heap), va_P G vwCl ((ws ++ [(q, .inl (cy 8, N, .inl (fun _ => 0)))]) ++ pl) H → va_D A ((ws ++ [(q, .inl (cy 8, N, .inl (fun _ => 0)))]) ++ pl) → va_S A s.heap H locs → W p l e R s m args below meth c H locs (k + 1) (n + N) Q (F0 m (pc + 2) ls (.ref q :: rest))) : W p l e R s m args below meth c H locs k n Q (F0 m pc ls (.int i :: rest)) := by
  obtain ⟨hx, hb, hml, hown, hts, hK, hA, hN, hO⟩ := F
  subst hi
  refine va_newa (atype := .boolean) (ty := .boolean) (N' := N) (a0 := (N, .inl (fun _ => 0))) hx hb (hts _ zw_710) rfl hK hP hD hS hA (fun cA => rfl) (nI_pos (by omega)) (nI_clamp (by omega)) (by show N * 1 ≤ _; omega) hc hs hd (fun q cA H1 hK1 hP1 hD1 hS1 => ?_)
  have e := n_cy (t := 2) hK rfl hK1
  subst e
  exact kk q H1 hP1.swap hD1.swap hS1
theorem n_newq (F : n_F p e R s m args meth c G cy A cc own nL) {ws pl : va_W} {i : Int32} {C : String} {idx : Nat} (t : Nat) (ht : (z_tys cy)[t]? = some (cy (6 + t), .object C)) (hover : va_AO C s) (hlk : Cond.classLink own idx C ∈ wsL_law) (N : Nat) (hi : i = nI N) (h31 : N < 100000) (hP : va_P G vwCl (ws ++ pl) H) (hD : va_D A (ws ++ pl)) (hS : va_S A s.heap H locs) (hc : k + 1 ≤ R.cells) (hs : n + N ≤ R.slots) (hd : decode cc pc = .ok (.anewarray idx, 3))
    (kk : ∀ (q : Nat) (H : Heap), va_P G vwCl ((ws ++ [(q, .inl (cy (6 + t), N, .inr (.inr (.inr (.inr (fun _ => none))))))]) ++ pl) H → va_D A ((ws ++ [(q, .inl (cy (6 + t), N, .inr (.inr (.inr (.inr (fun _ => none))))))]) ++ pl) → va_S A s.heap H locs → W p l e R s m args below meth c H locs (k + 1) (n + N) Q (F0 m (pc + 3) ls (.ref q :: rest))) : W p l e R s m args below meth c H locs k n Q (F0 m pc ls (.int i :: rest)) := by
  obtain ⟨hx, hb, hml, hown, hts, hK, hA, hN, hO⟩ := F
  subst hi
  refine va_newq (N' := N) hx hb hown (hts _ hlk) hover hK hP hD hS hA (nI_pos (by omega)) (nI_clamp (by omega)) (by omega) hc hs hd (fun q cA H1 hK1 hP1 hD1 hS1 => ?_)
  have e := n_cy (t := t) hK ht hK1
  subst e
  exact kk q H1 hP1.swap hD1.swap hS1
theorem n_iast (F : n_F p e R s m args meth c G cy A cc own nL) {N : Nat} {f : Nat → Int32} {w2 : va_W} (q0 : Nat) (hP : va_P G vwCl w H) (hD : va_D A w) (hS : va_S A s.heap H locs) (ha : w[q0]? = some (a, .inl (cy 6, N, .inl f))) {i x : Int32} (j : Nat) (hi : i = nI j) (hj : j < N) (h31 : N < 100000) (hd : decode cc pc = .ok (.iastore, 1)) (hw : w.set q0 (a, .inl (cy 6, N, .inl (upd f j x))) = w2)
    (kk : ∀ (H : Heap) (locs : List Loc), va_P G vwCl w2 H → va_D A w2 → va_S A s.heap H locs → W p l e R s m args below meth c H locs k n Q (F0 m (pc + 1) ls rest)) : W p l e R s m args below meth c H locs k n Q (F0 m pc ls (.int x :: .int i :: .ref a :: rest)) := by
  obtain ⟨hx, hb, hml, hown, hts, hK, hA, hN, hO⟩ := F
  subst hi
  subst hw
  refine va_iast hx hb hK hP hD hS q0 0 ha rfl (vp_in_nI hj (by omega)) hd (fun H1 locs1 hP1 hD1 hS1 => ?_)
  rw [nI_clamp (by omega)] at hP1 hD1
  exact kk H1 locs1 hP1 hD1 hS1
theorem n_aast (F : n_F p e R s m args meth c G cy A cc own nL) {N v t : Nat} {E : String} {f : Nat → Option Nat} {w2 : va_W} (q0 : Nat) (ht : (z_tys cy)[t]? = some (cy (6 + t), .object E)) (hP : va_P G vwCl w H) (hD : va_D A w) (hS : va_S A s.heap H locs) (ha : w[q0]? = some (a, .inl (cy (6 + t), N, .inr (.inr (.inr (.inr f)))))) (hr : va_Any E s H v) {i : Int32} (j : Nat) (hi : i = nI j) (hj : j < N) (h31 : N < 100000) (hd : decode cc pc = .ok (.aastore, 1)) (hw : w.set q0 (a, .inl (cy (6 + t), N, .inr (.inr (.inr (.inr (va_up f j (some v))))))) = w2)
    (kk : ∀ (H : Heap) (locs : List Loc), va_P G vwCl w2 H → va_D A w2 → va_S A s.heap H locs → W p l e R s m args below meth c H locs k n Q (F0 m (pc + 1) ls rest)) : W p l e R s m args below meth c H locs k n Q (F0 m pc ls (.ref v :: .int i :: .ref a :: rest)) := by
  obtain ⟨hx, hb, hml, hown, hts, hK, hA, hN, hO⟩ := F
  subst hi
  subst hw
  refine va_astqM hx hb hK hP hD hS q0 t ha ht hr (vp_in_nI hj (by omega)) hd (fun H1 locs1 hP1 hD1 hS1 => ?_)
  rw [nI_clamp (by omega)] at hP1 hD1
  exact kk H1 locs1 hP1 hD1 hS1
theorem n_any (F : n_F p e R s m args meth c G cy A cc own nL) {ci N : Nat} {C : String} {Tb : u_T} {ty : Nat → FieldType} {fs : List Value} (hcl : z_Cl ci C Tb N ty) (q0 : Nat) (hP : va_P G vwCl w H) (he : w[q0]? = some (a, .inr (ci, fs))) : va_Any C s H a := by
  obtain ⟨hx, hb, hml, hown, hts, hK, hA, hN, hO⟩ := F
  refine va_rAny hK hP he hcl.1 (fun comp c0 h1 h2 => ?_)
  cases h1.symm.trans h2
  exact va_asg _ _
/-- behind a constructor's call -/
theorem n_join {ws pl w1 : va_W} {o : va_E} {H1 : Heap} (hP : va_P G vwCl ((ws ++ [(a, o)]) ++ pl) H) (hD : va_D A ((ws ++ [(a, o)]) ++ pl)) (hk : ∀ q : Nat, q < H.size → ¬ va_A [(a, o)] H.size q → H1[q]? = H[q]?) (hF : ∀ q, va_A [(a, o)] H.size q → A q) (hP1 : va_P G vwCl w1 H1) (hD1 : va_D (va_A [(a, o)] H.size) w1) : va_P G vwCl (ws ++ (pl ++ w1)) H1 ∧ va_D A (ws ++ (pl ++ w1)) := by
  have hD2 := hD.swap
  obtain ⟨d1, d2, d3⟩ := n_Dl hD2
  have hlt : ∀ q ∈ (ws ++ pl), q.1 < H.size ∧ q.1 ≠ a := by
    intro q hq
    obtain ⟨i, hi⟩ := List.getElem?_of_mem hq
    refine ⟨?_, d3 i 0 q (a, o) hi rfl⟩
    have : q ∈ (ws ++ [(a, o)]) ++ pl := by
      rcases List.mem_append.mp hq with z | z
      · exact List.mem_append_left _ (List.mem_append_left _ z)
      · exact List.mem_append_right _ z
    exact (n_Pm.mp hP q this).lt
  have hnA : ∀ q ∈ (ws ++ pl), ¬ va_A [(a, o)] H.size q.1 := by
    intro q hq z
    rcases z with ⟨i, e, z⟩ | z
    · match i, z with
      | 0, z => cases z; exact (hlt q hq).2 rfl
      | i + 1, z => cases z
    · exact absurd (hlt q hq).1 (Nat.not_lt.mpr z)
  refine ⟨?_, ?_⟩
  · rw [← List.append_assoc]
    refine (n_Pm.mpr (fun q hq => ?_)).app hP1
    have : q ∈ (ws ++ [(a, o)]) ++ pl := by
      rcases List.mem_append.mp hq with z | z
      · exact List.mem_append_left _ (List.mem_append_left _ z)
      · exact List.mem_append_right _ z
    exact (n_Pm.mp hP q this).kept (hk q.1 (hlt q hq).1 (hnA q hq))
  · rw [← List.append_assoc]
    refine d1.app (hD1.weaken (fun _ _ _ z => hF _ z)) (fun i j x y hx hy e => ?_)
    have h1 := hD1.2 j y hy
    rw [← e] at h1
    exact hnA x (List.mem_of_getElem? hx) h1
theorem n_ctor (F : n_F p e R s m args meth c G cy A cc own nL) {y : MethodName} {b : ByteArray} {n2 ci idx d mc ms : Nat} {fs0 : List Value} {Xp : State → (Nat → Nat) → Nat → Prop} {Post : (Nat → Nat) → (Nat → ClassId) → Nat → va_W → Prop} {ws pl : va_W} (sa : Nat → Nat) (hM : n_CC y b n2 ci fs0 d mc ms Xp Post) (hP : va_P G vwCl ((ws ++ [(a, .inr (ci, fs0))]) ++ pl) H) (hD : va_D A ((ws ++ [(a, .inr (ci, fs0))]) ++ pl)) (hS : va_S A s.heap H locs)
    (hX : ∀ U : State, U.heap = H → s.WarmedH U.vm → Xp U sa a) (hXb : FrameBlind (fun (_ : Array Value) (U : State) => Xp U sa a)) (hcode : Cond.code y b n2 none ∈ wsL_law) (hin : Cond.instanceMethod y ∈ wsL_law) (hini : Cond.initialized y.cls ∈ wsL_law) (hy1 : y.name = "<init>") (hdd : y.cls ≠ "java/lang/invoke/MethodHandle" ∧ y.cls ≠ "java/lang/invoke/VarHandle" ∧ (parseMethodDescriptor y.desc).map (fun d => d.parameters.length) = some 0) (hlk : Cond.methodLink own idx y ∈ wsL_law ∨ ∃ host, Cond.methodLinkNest own idx y host ∈ zNst)
    (hR : d + 1 ≤ R.frames ∧ 8 + (n2 + 11) + 40 * d ≤ R.locals) (hlv : ls.size = nL) (hcat : (rest.map fun v => v.category).sum ≤ 8) (hf : k + mc ≤ R.cells ∧ n + ms ≤ R.slots) (hd : decode cc pc = .ok (.invokespecial idx, 3))
    (kk : ∀ (w1 : va_W) (H : Heap) (locs : List Loc), Post sa cy a w1 → va_P G vwCl (ws ++ (pl ++ w1)) H → va_D A (ws ++ (pl ++ w1)) → va_S A s.heap H locs → W p l e R s m args below meth c H locs (k + mc) (n + ms) Q (F0 m (pc + 3) ls rest)) : W p l e R s m args below meth c H locs k n Q (F0 m pc ls (.ref a :: rest)) := by
  obtain ⟨hx, hb, hml, hown, hts, hK, hA, hN, hO⟩ := F
  have hPc : va_P G vwCl [(a, .inr (ci, fs0))] H := n_P_sub hP (fun q hq => List.mem_append_left _ (List.mem_append_right _ hq))
  have hF : ∀ q, va_A [(a, .inr (ci, fs0))] H.size q → A q := by
    intro q z
    rcases z with ⟨i, e0, z⟩ | z
    · match i, z with
      | 0, z =>
        cases z
        obtain ⟨d1, d2, d3⟩ := n_Dl hD.swap
        exact d2.2 0 (a, .inr (ci, fs0)) rfl
      | i + 1, z => cases z
    · exact hA q (Nat.le_trans hS.1 z)
  have hG : GoodIn wsL_law (Cond.code y b n2 none :: wsL_law) := z_goodIn (ws := []) hcode (fun _ h => absurd h List.not_mem_nil)
  have hbl : FrameBlind (va_Pc [.ref a] (fun U => U.heap.size = H.size ∧ va_P G vwCl [(a, .inr (ci, fs0))] U.heap ∧ va_K G vwCl (z_tys cy) U ∧ n_N U ∧ n_O U ∧ Xp U sa a)) := fun a' U g mk q => ⟨q.1, q.2.1, q.2.2.1, va_K.moved (u := U) (U := U.calling g mk a') (Vm.Alike.refl U.vm) q.2.2.2.1, fun w hw => va_Nw.same (z_nstW hw) (u := U) (U := U.calling g mk a') rfl (q.2.2.2.2.1 w hw), n_O.moved (u := U) (U := U.calling g mk a') (Vm.Alike.refl U.vm) q.2.2.2.2.2.1, hXb a' U g mk q.2.2.2.2.2.2⟩
  have hpre : PreS s H (va_Pc [.ref a] (fun U => U.heap.size = H.size ∧ va_P G vwCl [(a, .inr (ci, fs0))] U.heap ∧ va_K G vwCl (z_tys cy) U ∧ n_N U ∧ n_O U ∧ Xp U sa a)) [.ref a] := ⟨hbl, fun U hU hW => ⟨rfl, by rw [hU], by rw [hU]; exact hPc, va_K.moved hW.alike hK, n_N.warm hW hN, n_O.moved hW.alike hO, hX U hU hW⟩⟩
  have fin : ∀ (u : va_W) (t : State) (H1 : Heap) (locs1 : List Loc), t.heap = H1 → s.vm.Alike t.vm → Post sa cy a u → (va_P G vwCl u t.heap ∧ va_D (va_A [(a, .inr (ci, fs0))] H.size) u) → H.size ≤ H1.size → (∀ q : Nat, q < H.size → ¬ va_A [(a, .inr (ci, fs0))] H.size q → H1[q]? = H[q]?) → va_S A s.heap H1 locs1 → W p l e R s m args below meth c H1 locs1 (k + mc) (n + ms) Q (F0 m (pc + 3) ls rest) := by
    intro u t H1 locs1 ht hvm hp hB hz hk1 hS1
    rw [ht] at hB
    obtain ⟨j1, j2⟩ := n_join hP hD hk1 hF hB.1 hB.2
    exact kk u H1 locs1 hp j1 j2 hS1
  rcases hlk with hlk | ⟨host, hlk⟩
  · exact va_callv (va_runI (As := []) (rest := rest) ⟨hx, hb, hml, hown, hts⟩ (hM l G cy a H.size sa) (cwI 0 hts hG rfl rfl rfl (hts _ hini) (hts _ hlk) (hts _ hin) hy1 hdd hR) hpre rfl rfl hlv rfl (lv_room hcat) hd hf) hS (fun q _ h => hF q h) hF fin
  · exact va_callv (va_runIN (As := []) (rest := rest) ⟨hx, hb, hml, hown, hts⟩ (hM l G cy a H.size sa) ⟨va_cnB 0 hts hG rfl rfl rfl (hN _ hlk) (hts _ hini) hdd hR, hy1, hts _ hin⟩ hpre rfl rfl hlv rfl (lv_room hcat) hd hf) hS (fun q _ h => hF q h) hF fin
end NR
