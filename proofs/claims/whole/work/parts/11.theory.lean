/-! THE THEORY: a world of fixed objects by a schema (number of objects, kind, length, fixed references, where an int lies in the store); the judgement z_J over pure data; a row an instruction -/
abbrev zS : Type := Nat × (Nat → Nat) × (Nat → Nat) × (Nat → Nat → Option Nat) × (Nat → Nat → Nat × Nat)
abbrev zN (S : zS) : Nat := S.1
abbrev zk (S : zS) : Nat → Nat := S.2.1
abbrev zl (S : zS) : Nat → Nat := S.2.2.1
abbrev zr (S : zS) : Nat → Nat → Option Nat := S.2.2.2.1
abbrev zo (S : zS) : Nat → Nat → Nat × Nat := S.2.2.2.2
/-- the store: ints by region and place; the one row of longs -/
abbrev zD : Type := (Nat → Nat → Int32) × (Nat → Int64)
def z_up (D : zD) (r x : Nat) (v : Int32) : zD := (fun r' x' => if r' = r ∧ x' = x then v else D.1 r' x', D.2)
def z_row (D : zD) (r : Nat) (σ : Nat → Int32) : zD := (fun r' => if r' = r then σ else D.1 r', D.2)
def z_upL (D : zD) (x : Nat) (v : Int64) : zD := (D.1, vp_updL D.2 x v)
def z_v (ad : Nat → Nat) : Value → Value
  | .ref k => .ref (ad k)
  | v => v
theorem z_v_cat (ad : Nat → Nat) (v : Value) : (z_v ad v).category = v.category := by cases v <;> rfl
theorem z_v_sum (ad : Nat → Nat) (l : List Value) : ((l.map (z_v ad)).map fun v => v.category).sum = (l.map fun v => v.category).sum := by
  induction l with
  | nil => rfl
  | cons a l ih => simp only [List.map_cons, List.sum_cons, z_v_cat, ih]
def z_val (S : zS) (ad : Nat → Nat) (D : zD) (k j : Nat) : Value := match zr S k j with
  | some r => .ref (ad r)
  | none => .int (D.1 (zo S k j).1 (zo S k j).2)
def z_cel (S : zS) (cy : Nat → ClassId) (ad : Nat → Nat) (D : zD) (k : Nat) : va_E :=
  if zk S k < 6 then .inr (zk S k, (List.range (zl S k)).map (z_val S ad D k))
  else .inl (cy (zk S k), zl S k, if zk S k = 7 then .inr (.inl D.2) else if zk S k < 9 then .inl (fun j => if j < zl S k then D.1 (zo S k j).1 (zo S k j).2 else 0) else .inr (.inr (.inr (.inr (fun j => (zr S k j).map ad)))))
def z_w (S : zS) (cy : Nat → ClassId) (ad : Nat → Nat) (D : zD) : va_W := (List.range (zN S)).map (fun k => (ad k, z_cel S cy ad D k))
theorem z_w_at {S : zS} {cy : Nat → ClassId} {ad : Nat → Nat} {D : zD} {k : Nat} (hk : k < zN S) : (z_w S cy ad D)[k]? = some (ad k, z_cel S cy ad D k) := by simp [z_w, hk]
theorem z_w_set {S : zS} {cy : Nat → ClassId} {ad : Nat → Nat} {D D' : zD} {k : Nat} {e : va_E} (hk : k < zN S) (he : e = z_cel S cy ad D' k) (h : ∀ q, q < zN S → q ≠ k → z_cel S cy ad D' q = z_cel S cy ad D q) : (z_w S cy ad D).set k (ad k, e) = z_w S cy ad D' := by
  subst he
  refine List.ext_getElem? fun i => ?_
  by_cases hik : i = k
  · subst hik
    rw [List.getElem?_set_self (by simp [z_w, hk]), z_w_at hk]
  · rw [List.getElem?_set_ne (Ne.symm hik)]
    by_cases hi : i < zN S
    · rw [z_w_at hi, z_w_at hi, h i hi hik]
    · simp [z_w, hi]
def z_A (S : zS) (ad : Nat → Nat) : Nat → Prop := fun q => ∃ k, k < zN S ∧ q = ad k
def z_in (S : zS) (ad : Nat → Nat) : Prop := ∀ i j, i < zN S → j < zN S → ad i = ad j → i = j
def z_ok (S : zS) : Prop := ∀ k j q i, k < zN S → q < zN S → j < zl S k → i < zl S q → zk S k ≠ 7 → zk S q ≠ 7 → zo S k j = zo S q i → k = q ∧ j = i
theorem z_wD {S : zS} {cy : Nat → ClassId} {ad : Nat → Nat} {D : zD} (h : z_in S ad) : va_D (z_A S ad) (z_w S cy ad D) := by
  have key : ∀ (i : Nat) (p : Nat × va_E), (z_w S cy ad D)[i]? = some p → i < zN S ∧ p.1 = ad i := by
    intro i p hp
    have hi : i < zN S := by have := (List.getElem?_eq_some_iff.mp hp).1; simpa [z_w] using this
    rw [z_w_at hi] at hp
    cases hp
    exact ⟨hi, rfl⟩
  refine ⟨fun i j p q hp hq e => ?_, fun k q hq => ?_⟩
  · obtain ⟨h1, h2⟩ := key i p hp
    obtain ⟨h3, h4⟩ := key j q hq
    exact h i j h1 h3 (by rw [← h2, ← h4, e])
  · obtain ⟨h1, h2⟩ := key k q hq
    exact ⟨k, h1, h2⟩
/-- one int of the store changes: no other object does -/
theorem z_cel_up {S : zS} {cy : Nat → ClassId} {ad : Nat → Nat} {D : zD} {k j : Nat} {v : Int32} (ok : z_ok S) (hk : k < zN S) (hj : j < zl S k) (h7 : zk S k ≠ 7) : ∀ q, q < zN S → q ≠ k → z_cel S cy ad (z_up D (zo S k j).1 (zo S k j).2 v) q = z_cel S cy ad D q := by
  intro q hq hn
  have ne : ∀ i, i < zl S q → zk S q ≠ 7 → ¬ ((zo S q i).1 = (zo S k j).1 ∧ (zo S q i).2 = (zo S k j).2) := fun i hi h8 e => hn (ok q i k j hq hk hi hj h8 h7 (Prod.ext e.1 e.2)).1
  unfold z_cel
  by_cases h6 : zk S q < 6
  · rw [if_pos h6, if_pos h6]
    congr 2
    refine List.map_congr_left fun i hi => ?_
    unfold z_val
    cases zr S q i with
    | some r => rfl
    | none => simp only [z_up, if_neg (ne i (List.mem_range.mp hi) (by omega))]
  · rw [if_neg h6, if_neg h6]
    by_cases h8 : zk S q = 7
    · rw [if_pos h8, if_pos h8]
      rfl
    · rw [if_neg h8, if_neg h8]
      by_cases h9 : zk S q < 9
      · rw [if_pos h9, if_pos h9]
        congr 4
        funext i
        by_cases hi : i < zl S q
        · simp only [if_pos hi, z_up, if_neg (ne i hi h8)]
        · simp only [if_neg hi]
      · rw [if_neg h9, if_neg h9]
def z_tys (cy : Nat → ClassId) : List (ClassId × FieldType) := [(cy 6, .int), (cy 7, .long), (cy 8, .boolean), (cy 9, .object "PocketHole$Coin"), (cy 10, .object "PocketHole$Sheet"), (cy 11, .object "java/lang/String")]
/-- the String constants: text, length, bytes -/
def z_sl : List Nat := [4, 3, 2, 4, 7, 5, 7, 3, 4, 6, 4, 6, 5, 4]
def z_sb : List (List Int32) := [[104, 111, 108, 101], [103, 97, 112], [97, 116], [99, 111, 105, 110], [119, 114, 97, 112, 112, 101, 100], [104, 101, 97, 118, 121], [107, 110, 111, 116, 116, 101, 100], [107, 101, 121], [102, 108, 97, 116], [116, 105, 99, 107, 101, 116], [115, 105, 122, 101], [119, 101, 105, 103, 104, 116], [112, 101, 110, 99, 101], [108, 101, 102, 116]]
def z_st : List String := ["hole", "gap", "at", "coin", "wrapped", "heavy", "knotted", "key", "flat", "ticket", "size", "weight", "pence", "left"]
/-- the formatter: an object, or none -/
def z_Zf (ad : Nat → Nat) (A : Nat → Prop) (U : State) (H : Heap) : Prop := ∃ v : Value, (v = .ref (ad 3000) ∨ v = .null) ∧ va_Z "jdk/internal/util/Preconditions" "SIOOBE_FORMATTER" "Ljava/util/function/BiFunction;" v A U H
theorem z_Zf.kept {ad : Nat → Nat} {A : Nat → Prop} {U : State} {H H1 : Heap} (h : z_Zf ad A U H) (hq : ∀ a : Nat, a < H.size → ¬ A a → H1[a]? = H[a]?) : z_Zf ad A U H1 := by
  obtain ⟨v, hv, h1⟩ := h
  exact ⟨v, hv, h1.kept hq⟩
theorem z_Zf.moved {ad : Nat → Nat} {A : Nat → Prop} {u U : State} {H : Heap} (hvm : u.vm.Alike U.vm) (h : z_Zf ad A u H) : z_Zf ad A U H := by
  obtain ⟨v, hv, h1⟩ := h
  exact ⟨v, hv, va_Z.moved hvm h1⟩
/-- String i stands at ad (1000 + i), its bytes at ad (2000 + i); T: which constants (class, pool place) are which String -/
def z_T (T : List (String × Nat × Nat)) (ad : Nat → Nat) (A : Nat → Prop) (U : State) (H : Heap) : Prop :=
  (∀ i, i < 14 → va_O "java/lang/String" (ad (1000 + i)) A U H ∧ va_OF "java/lang/String" "coder" "B" (.int 0) (ad (1000 + i)) A U H ∧ va_OF "java/lang/String" "value" "[B" (.ref (ad (2000 + i))) (ad (1000 + i)) A U H ∧ va_T .byte (ad (2000 + i)) (z_sl.getD i 0) (fun j => .int ((z_sb.getD i []).getD j 0)) A U H) ∧ (∀ q ∈ T, vk_R q.1 q.2.1 (z_st.getD q.2.2 "") (ad (1000 + q.2.2)) U) ∧ (∀ w ∈ zNst, va_Nw w U) ∧ va_Z "java/lang/String" "COMPACT_STRINGS" "Z" (.int 1) A U H ∧ z_Zf ad A U H
theorem z_nstW {w : Cond} (h : w ∈ zNst) : w.onTables = true := by
  have := (List.mem_filter.mp h).2
  cases w <;> first | rfl | cases this
theorem z_nstWarm {w : Cond} (h : w ∈ zNst) {s U : State} (hW : s.WarmedH U.vm) (hZ : va_Nw w s) : va_Nw w U := by
  have := (List.mem_filter.mp h).2
  cases w <;> first | exact va_Nw.warmF hW hZ | exact va_Nw.warmM hW hZ | cases this
theorem z_T.kept {T : List (String × Nat × Nat)} {ad : Nat → Nat} {A : Nat → Prop} {U : State} {H H1 : Heap} (h : z_T T ad A U H) (hq : ∀ a : Nat, a < H.size → ¬ A a → H1[a]? = H[a]?) : z_T T ad A U H1 :=
  ⟨fun i hi => by obtain ⟨h1, h2, h3, h4⟩ := h.1 i hi; exact ⟨h1.kept hq, h2.kept hq, h3.kept hq, h4.kept hq⟩, h.2.1, h.2.2.1, h.2.2.2.1.kept hq, h.2.2.2.2.kept hq⟩
theorem z_T.warm {T : List (String × Nat × Nat)} {ad : Nat → Nat} {A : Nat → Prop} {s U : State} {H : Heap} (hW : s.WarmedH U.vm) (h : z_T T ad A s H) : z_T T ad A U H :=
  ⟨fun i hi => by obtain ⟨h1, h2, h3, h4⟩ := h.1 i hi; exact ⟨va_O.moved hW.alike h1, va_OF.moved hW.alike h2, va_OF.moved hW.alike h3, va_T.moved hW.alike h4⟩, fun q hq => (h.2.1 q hq).warm hW, fun w hw => z_nstWarm hw hW (h.2.2.1 w hw), va_Z.moved hW.alike h.2.2.2.1, z_Zf.moved hW.alike h.2.2.2.2⟩
theorem z_T.calling {T : List (String × Nat × Nat)} {ad : Nat → Nat} {A : Nat → Prop} {U : State} {H : Heap} {g : JFrame} {mk : MethodId} {a : Array Value} (h : z_T T ad A U H) : z_T T ad A (U.calling g mk a) H :=
  ⟨fun i hi => by obtain ⟨h1, h2, h3, h4⟩ := h.1 i hi; exact ⟨va_O.moved (u := U) (U := U.calling g mk a) (Vm.Alike.refl U.vm) h1, va_OF.moved (u := U) (U := U.calling g mk a) (Vm.Alike.refl U.vm) h2, va_OF.moved (u := U) (U := U.calling g mk a) (Vm.Alike.refl U.vm) h3, va_T.moved (u := U) (U := U.calling g mk a) (Vm.Alike.refl U.vm) h4⟩, fun q hq => vk_R.same rfl (h.2.1 q hq), fun w hw => va_Nw.same (u := U) (U := U.calling g mk a) (z_nstW hw) rfl (h.2.2.1 w hw), va_Z.moved (u := U) (U := U.calling g mk a) (Vm.Alike.refl U.vm) h.2.2.2.1, z_Zf.moved (u := U) (U := U.calling g mk a) (Vm.Alike.refl U.vm) h.2.2.2.2⟩
def z_lv (ad : Nat → Nat) : Nat → List (Option Value) → List (Nat × Value)
  | _, [] => []
  | i, none :: t => z_lv ad (i + 1) t
  | i, some v :: t => (i, z_v ad v) :: z_lv ad (i + 1) t
theorem z_lv_mem (ad : Nat → Nat) : ∀ (L : List (Option Value)) (i k : Nat) (v : Value), L[k]? = some (some v) → (i + k, z_v ad v) ∈ z_lv ad i L
  | [], i, k, v, h => by simp at h
  | none :: t, i, 0, v, h => by simp at h
  | some w :: t, i, 0, v, h => by
    have e : w = v := by simpa using h
    subst e
    exact List.mem_cons_self
  | none :: t, i, k + 1, v, h => by
    have := z_lv_mem ad t (i + 1) k v (by simpa using h)
    rw [show i + (k + 1) = i + 1 + k by omega]
    exact this
  | some w :: t, i, k + 1, v, h => by
    have := z_lv_mem ad t (i + 1) k v (by simpa using h)
    rw [show i + (k + 1) = i + 1 + k by omega]
    exact List.mem_cons_of_mem _ this
theorem z_lv_of (ad : Nat → Nat) : ∀ (L : List (Option Value)) (i : Nat) (q : Nat × Value), q ∈ z_lv ad i L → ∃ k v, L[k]? = some (some v) ∧ q = (i + k, z_v ad v)
  | [], i, q, h => by cases h
  | none :: t, i, q, h => by
    obtain ⟨k, v, h1, h2⟩ := z_lv_of ad t (i + 1) q h
    exact ⟨k + 1, v, by simpa using h1, by rw [h2]; congr 1; omega⟩
  | some w :: t, i, q, h => by
    rcases List.mem_cons.mp h with rfl | h
    · exact ⟨0, w, rfl, rfl⟩
    · obtain ⟨k, v, h1, h2⟩ := z_lv_of ad t (i + 1) q h
      exact ⟨k + 1, v, by simpa using h1, by rw [h2]; congr 1; omega⟩
theorem z_lvAt {ad : Nat → Nat} {ls : Array Slot} {n : Nat} {L : List (Option Value)} (h : lv_has ls n (z_lv ad 0 L)) (k : Nat) {v : Value} (hk : L[k]? = some (some v)) : ls[k]? = some (.val (z_v ad v)) := by
  have := h.2.2 _ (z_lv_mem ad L 0 k v hk)
  simpa using this
def z_c1 : Option Value → Bool
  | some v => v.category == 1
  | none => true
theorem z_lvMono {ls : Array Slot} {n : Nat} {l l' : List (Nat × Value)} (h : lv_has ls n l) (hm : ∀ q ∈ l', q ∈ l) : lv_has ls n l' := ⟨h.1, h.2.1, fun q hq => h.2.2 q (hm q hq)⟩
theorem z_lvSet (ad : Nat → Nat) {L : List (Option Value)} {i : Nat} {v : Value} (h2 : ∀ j o, j + 1 = i → L[j]? = some o → z_c1 o = true) : ∀ q ∈ z_lv ad 0 (L.set i (some v)), q ∈ (i, z_v ad v) :: (z_lv ad 0 L).filter (fun q => !(q.1 == i) && !(q.1 + 1 == i && q.2.category == 2)) := by
  intro q hq
  obtain ⟨k, w, h1, rfl⟩ := z_lv_of ad _ 0 q hq
  by_cases hk : k = i
  · subst hk
    have hl : k < L.length := by
      have := (List.getElem?_eq_some_iff.mp h1).1
      simpa using this
    rw [List.getElem?_set_self hl] at h1
    cases h1
    simp
  · rw [List.getElem?_set_ne (Ne.symm hk)] at h1
    refine List.mem_cons_of_mem _ (List.mem_filter.mpr ⟨z_lv_mem ad L 0 k w h1, ?_⟩)
    by_cases hj : k + 1 = i
    · have hc : w.category = 1 := by
        have := h2 k _ hj h1
        simpa [z_c1] using this
      simp [z_v_cat, hc, hk]
    · simp [hk, hj]
theorem z_lvSetL (ad : Nat → Nat) {L : List (Option Value)} {i : Nat} {v : Value} (h2 : ∀ j o, j + 1 = i → L[j]? = some o → z_c1 o = true) : ∀ q ∈ z_lv ad 0 ((L.set i (some v)).set (i + 1) none), q ∈ (i, z_v ad v) :: (z_lv ad 0 L).filter (fun q => !(q.1 == i) && (!(q.1 == i + 1) && !(q.1 + 1 == i && q.2.category == 2))) := by
  intro q hq
  obtain ⟨k, w, h1, rfl⟩ := z_lv_of ad _ 0 q hq
  have hk1 : ¬ k = i + 1 := by
    intro e
    subst e
    by_cases hl : i + 1 < (L.set i (some v)).length
    · rw [List.getElem?_set_self hl] at h1
      cases h1
    · have := (List.getElem?_eq_some_iff.mp h1).1
      simp at this hl
      omega
  rw [List.getElem?_set_ne (Ne.symm hk1)] at h1
  by_cases hk : k = i
  · subst hk
    have hl : k < L.length := by
      have := (List.getElem?_eq_some_iff.mp h1).1
      simpa using this
    rw [List.getElem?_set_self hl] at h1
    cases h1
    simp
  · rw [List.getElem?_set_ne (Ne.symm hk)] at h1
    refine List.mem_cons_of_mem _ (List.mem_filter.mpr ⟨z_lv_mem ad L 0 k w h1, ?_⟩)
    by_cases hj : k + 1 = i
    · have hc : w.category = 1 := by
        have := h2 k _ hj h1
        simpa [z_c1] using this
      simp [z_v_cat, hc, hk, hk1]
    · simp [hk, hj, hk1]
theorem z_prev {L : List (Option Value)} {i : Nat} {o : Option Value} (hL : L[i]? = some o) (h : z_c1 o = true) : ∀ j o2, j + 1 = i + 1 → L[j]? = some o2 → z_c1 o2 = true := by
  intro j o2 hj ho
  have e : j = i := by omega
  subst e
  rw [hL] at ho
  cases ho
  exact h
theorem z_prev0 {L : List (Option Value)} : ∀ j o2, j + 1 = 0 → L[j]? = some o2 → z_c1 o2 = true := fun j _ h => absurd h (by omega)
/-- what is fixed in a walk: program .. code, goal, class ids and slots, array classes, addresses -/
abbrev zX : Type := Program × Launch × Env × Room × State × MethodId × Array Value × List Frame × Method × Code × (State → Prop) × va_G × (Nat → ClassId) × (Nat → Nat)
def z_rm (d : Nat) : Room := { frames := d, cells := 0, slots := 0, locals := 40 * d }
def z_J (X : zX) (S : zS) (pc : Nat) (L : List (Option Value)) (st : List Value) (D : zD) : Prop :=
  match X with
  | (p, l, e, R, s, m, args, below, meth, c, Q, G, cy, ad) => ∀ (H : Heap) (locs : List Loc) (ls : Array Slot), va_P G vwCl (z_w S cy ad D) H → va_S (z_A S ad) s.heap H locs → lv_has ls L.length (z_lv ad 0 L) → W p l e R s m args below meth c H locs 0 0 Q (F0 m pc ls (st.map (z_v ad)))
def z_F (X : zX) (S : zS) (T : List (String × Nat × Nat)) (cc : ByteArray) (own : String) (nL d : Nat) : Prop :=
  match X with
  | (p, l, e, R, s, m, args, below, meth, c, Q, G, cy, ad) => p.tables.exec = Jvm.exec ∧ c.code = cc ∧ c.maxLocals = nL ∧ s.vm.findClass own = some m.cls ∧ (∀ w ∈ wsL_law, w.before args s = true) ∧ va_K G vwCl (z_tys cy) s ∧ z_in S ad ∧ z_ok S ∧ R = z_rm d ∧ z_T T ad (z_A S ad) s s.heap
/-- a method's start: the world, the classes, the constants -/
def z_B (S : zS) (T : List (String × Nat × Nat)) (G : va_G) (cy : Nat → ClassId) (ad : Nat → Nat) (D : zD) (U : State) : Prop := va_P G vwCl (z_w S cy ad D) U.heap ∧ va_K G vwCl (z_tys cy) U ∧ z_T T ad (z_A S ad) U U.heap
def z_E (S : zS) (G : va_G) (cy : Nat → ClassId) (ad : Nat → Nat) (D : zD) (t : State) : Prop := va_P G vwCl (z_w S cy ad D) t.heap
/-- contracts: an int (or boolean) answered; nothing answered; an object answered -/
def z_CI (S : zS) (T : List (String × Nat × Nat)) (y : MethodName) (b : ByteArray) (n : Nat) (ret : FieldType) (d : Nat) (as : List Value) (D : zD) (Post : Int32 → zD → Prop) : Prop :=
  ∀ (l : Launch) (G : va_G) (cy : Nat → ClassId) (ad : Nat → Nat), z_in S ad → Met l y (.code y b n (some ret) :: wsL_law) (z_rm d) (va_Pc (as.map (z_v ad)) (z_B S T G cy ad D)) (va_Qi Post (fun E t => z_E S G cy ad E t) (z_A S ad)) 0 0 (z_A S ad)
def z_CV (S : zS) (T : List (String × Nat × Nat)) (y : MethodName) (b : ByteArray) (n : Nat) (d : Nat) (as : List Value) (D : zD) (Post : zD → Prop) : Prop :=
  ∀ (l : Launch) (G : va_G) (cy : Nat → ClassId) (ad : Nat → Nat), z_in S ad → Met l y (.code y b n none :: wsL_law) (z_rm d) (va_Pc (as.map (z_v ad)) (z_B S T G cy ad D)) (va_Qv Post (fun E t => z_E S G cy ad E t) (z_A S ad)) 0 0 (z_A S ad)
def z_CR (S : zS) (T : List (String × Nat × Nat)) (y : MethodName) (b : ByteArray) (n : Nat) (ret : FieldType) (d : Nat) (as : List Value) (D : zD) (k : Nat) (Post : zD → Prop) : Prop :=
  ∀ (l : Launch) (G : va_G) (cy : Nat → ClassId) (ad : Nat → Nat), z_in S ad → Met l y (.code y b n (some ret) :: wsL_law) (z_rm d) (va_Pc (as.map (z_v ad)) (z_B S T G cy ad D)) (va_Qr Post (fun E a t => z_E S G cy ad E t ∧ a = ad k) (z_A S ad)) 0 0 (z_A S ad)
theorem z_minS : Cond.static Lib.Math.min.name ∈ wsL_law := zw_260
theorem z_maxS : Cond.static Lib.Math.max.name ∈ wsL_law := zw_453
theorem z_mathI : Cond.initialized "java/lang/Math" ∈ wsL_law := zw_7
theorem z_minC : Cond.code Lib.Math.min.name Lib.Math.min.code 2 (some .int) ∈ wsL_law := zw_261
theorem z_maxC : Cond.code Lib.Math.max.name Lib.Math.max.code 2 (some .int) ∈ wsL_law := zw_454
theorem z_good : ∀ w ∈ wsL_law, ((w.onTables && w.keeps) = true ∨ ∃ ty, w = .arrayClass ty) := fun w h => good_of_word (List.mem_filter.mp h).2
theorem z_goodIn {y : MethodName} {b : ByteArray} {n : Nat} {ret : Option FieldType} (hc : Cond.code y b n ret ∈ wsL_law) {ws : List Cond} (h : ∀ w ∈ ws, w ∈ wsL_law) : GoodIn wsL_law (ws ++ (.code y b n ret :: wsL_law)) := by
  intro w hw
  have hm : w ∈ wsL_law := by
    rcases List.mem_append.mp hw with q | q
    · exact h w q
    · rcases List.mem_cons.mp q with rfl | q
      · exact hc
      · exact q
  exact ⟨hm, z_good w hm⟩
theorem z_Bblind {S : zS} {T : List (String × Nat × Nat)} {G : va_G} {cy : Nat → ClassId} {ad : Nat → Nat} {D : zD} {as : List Value} : FrameBlind (va_Pc as (z_B S T G cy ad D)) := fun a U g mk q => ⟨q.1, q.2.1, va_K.moved (u := U) (U := U.calling g mk a) (Vm.Alike.refl U.vm) q.2.2.1, q.2.2.2.calling⟩
/-- a method's walk from its entry -/
def z_RI (X : zX) (S : zS) (cc : ByteArray) (ret : FieldType) (Post : Int32 → zD → Prop) : Prop := ∀ (pc : Nat) (L : List (Option Value)) (r : Int32) (D : zD), decode cc pc = .ok (.ireturn, 1) → narrow ret (.int r) = .int r → Post r D → z_J X S pc L [.int r] D
def z_RV (X : zX) (S : zS) (cc : ByteArray) (Post : zD → Prop) : Prop := ∀ (pc : Nat) (L : List (Option Value)) (D : zD), decode cc pc = .ok (.return_, 1) → Post D → z_J X S pc L [] D
def z_RR (X : zX) (S : zS) (cc : ByteArray) (k : Nat) (Post : zD → Prop) : Prop := ∀ (pc : Nat) (L : List (Option Value)) (D : zD), decode cc pc = .ok (.areturn, 1) → Post D → z_J X S pc L [.ref k] D
def z_L0 (as : List Value) (n : Nat) : List (Option Value) := as.map some ++ List.replicate (n - as.length) none
theorem z_entry {S : zS} {ad : Nat → Nat} {as : List Value} {n : Nat} (h1 : ∀ v ∈ as, v.category = 1) (hn : as.length ≤ n) : lv_has ((lg_sl (as.map (z_v ad)) ++ List.replicate (n - (lg_sl (as.map (z_v ad))).length) Slot.unset).toArray) (z_L0 as n).length (z_lv ad 0 (z_L0 as n)) := by
  have hsl : ∀ l : List Value, (∀ v ∈ l, v.category = 1) → (lg_sl (l.map (z_v ad))).length = l.length := by
    intro l
    induction l with
    | nil => intro _; rfl
    | cons a l ih =>
      intro h
      have ha : (z_v ad a).category ≠ 2 := by rw [z_v_cat, h a List.mem_cons_self]; decide
      have hi := ih (fun v hv => h v (List.mem_cons_of_mem _ hv))
      simp only [lg_sl, List.map_cons, List.flatMap_cons, if_neg ha, List.length_append, List.length_cons, List.length_nil] at hi ⊢
      omega
  have hlen := hsl as h1
  have h0 := lv_entry (as.map (z_v ad)) (n := n) (by rw [hlen]; exact hn)
  have hL : (z_L0 as n).length = n := by simp [z_L0]; omega
  rw [hL]
  refine z_lvMono h0 fun q hq => ?_
  obtain ⟨k, v, hk, rfl⟩ := z_lv_of ad _ 0 q hq
  have hkl : k < as.length := by
    by_cases c : k < as.length
    · exact c
    · exfalso
      rw [z_L0, List.getElem?_append_right (by simpa using c)] at hk
      have := List.mem_of_getElem? hk
      have e := List.eq_of_mem_replicate this
      cases e
  have hv : as[k]? = some v := by
    rw [z_L0, List.getElem?_append_left (by simpa using hkl), List.getElem?_map] at hk
    cases ha : as[k]? with
    | none => rw [ha] at hk; cases hk
    | some u => rw [ha] at hk; cases hk; rfl
  have key : ∀ (l : List Value) (i k : Nat) (v : Value), (∀ v ∈ l, v.category = 1) → l[k]? = some v → (i + k, z_v ad v) ∈ lv_args i (l.map (z_v ad)) := by
    intro l
    induction l with
    | nil => intro i k v _ h; simp at h
    | cons a l ih =>
      intro i k v hc h
      have ha : (z_v ad a).category ≠ 2 := by rw [z_v_cat, hc a List.mem_cons_self]; decide
      simp only [List.map_cons, lv_args, if_neg ha]
      cases k with
      | zero =>
        have e : a = v := by simpa using h
        subst e
        exact List.mem_cons_self
      | succ k =>
        have := ih (i + 1) k v (fun v hv => hc v (List.mem_cons_of_mem _ hv)) (by simpa using h)
        rw [show i + (k + 1) = i + 1 + k by omega]
        exact List.mem_cons_of_mem _ this
  exact key as 0 k v h1 hv
theorem z_startI {S : zS} {T : List (String × Nat × Nat)} {y : MethodName} {b : ByteArray} {n : Nat} {ret : FieldType} {d : Nat} {as : List Value} {D : zD} {Post : Int32 → zD → Prop} (ok : z_ok S) (hy : plainName y.cls = true) (h1 : ∀ v ∈ as, v.category = 1) (hn : as.length ≤ n)
    (body : ∀ X : zX, z_F X S T b y.cls n d → z_RI X S b ret Post → z_J X S 0 (z_L0 as n) [] D) : z_CI S T y b n ret d as D Post := by
  intro l G cy ad hin
  refine Met.ofW (cc := b) (maxL := n) (ret := some ret) hy rfl ?_
  intro p e s m args below meth c s₁ B hml hv
  obtain ⟨rfl, hP, hK, hT⟩ := hv
  have hts := atoms_spec (ws := .code y b n (some ret) :: wsL_law) B.pre
  have hown : s.vm.findClass y.cls = some m.cls := findClass_of_methodNamed B.named
  have hlocks := B.notSynchronized
  have hr := B.returns
  have K := body (p, l, e, z_rm d, s, m, (as.map (z_v ad)).toArray, below, meth, c, MQ below (va_Qi Post (fun E t => z_E S G cy ad E t) (z_A S ad)) (as.map (z_v ad)).toArray s 0 0 (z_A S ad), G, cy, ad)
    ⟨B.exec, B.bytes, hml, hown, fun w hw => hts w (List.mem_cons_of_mem _ hw), hK, hin, ok, rfl, hT⟩
    (fun pc L r E hd hnr hp H locs ls hP2 hS hl => by
      refine W.zret (v := r) B.exec B.bytes hr hnr (fun t ht hW => ⟨⟨r, E, rfl, hp, ?_⟩, hS.F ht⟩) hS.2.2 hd
      show va_P G vwCl (z_w S cy ad E) t.heap
      rw [ht]
      exact hP2)
  rw [lg_entry_eq]
  exact K s.heap [] _ hP va_S.rf (z_entry (S := S) h1 hn)
theorem z_startV {S : zS} {T : List (String × Nat × Nat)} {y : MethodName} {b : ByteArray} {n : Nat} {d : Nat} {as : List Value} {D : zD} {Post : zD → Prop} (ok : z_ok S) (hy : plainName y.cls = true) (h1 : ∀ v ∈ as, v.category = 1) (hn : as.length ≤ n)
    (body : ∀ X : zX, z_F X S T b y.cls n d → z_RV X S b Post → z_J X S 0 (z_L0 as n) [] D) : z_CV S T y b n d as D Post := by
  intro l G cy ad hin
  refine Met.ofW (cc := b) (maxL := n) (ret := none) hy rfl ?_
  intro p e s m args below meth c s₁ B hml hv
  obtain ⟨rfl, hP, hK, hT⟩ := hv
  have hts := atoms_spec (ws := .code y b n none :: wsL_law) B.pre
  have hown : s.vm.findClass y.cls = some m.cls := findClass_of_methodNamed B.named
  have hlocks := B.notSynchronized
  have hr := B.returns
  have K := body (p, l, e, z_rm d, s, m, (as.map (z_v ad)).toArray, below, meth, c, MQ below (va_Qv Post (fun E t => z_E S G cy ad E t) (z_A S ad)) (as.map (z_v ad)).toArray s 0 0 (z_A S ad), G, cy, ad)
    ⟨B.exec, B.bytes, hml, hown, fun w hw => hts w (List.mem_cons_of_mem _ hw), hK, hin, ok, rfl, hT⟩
    (fun pc L E hd hp H locs ls hP2 hS hl => by
      refine W.vret B.exec B.bytes hr (fun t ht hW => ⟨⟨E, rfl, hp, ?_⟩, hS.F ht⟩) hS.2.2 hd
      show va_P G vwCl (z_w S cy ad E) t.heap
      rw [ht]
      exact hP2)
  rw [lg_entry_eq]
  exact K s.heap [] _ hP va_S.rf (z_entry (S := S) h1 hn)
theorem z_startR {S : zS} {T : List (String × Nat × Nat)} {y : MethodName} {b : ByteArray} {n : Nat} {rt : String} {d : Nat} {as : List Value} {D : zD} {k : Nat} {Post : zD → Prop} (ok : z_ok S) (hy : plainName y.cls = true) (h1 : ∀ v ∈ as, v.category = 1) (hn : as.length ≤ n)
    (body : ∀ X : zX, z_F X S T b y.cls n d → z_RR X S b k Post → z_J X S 0 (z_L0 as n) [] D) : z_CR S T y b n (.object rt) d as D k Post := by
  intro l G cy ad hin
  refine Met.ofW (cc := b) (maxL := n) (ret := some (.object rt)) hy rfl ?_
  intro p e s m args below meth c s₁ B hml hv
  obtain ⟨rfl, hP, hK, hT⟩ := hv
  have hts := atoms_spec (ws := .code y b n (some (.object rt)) :: wsL_law) B.pre
  have hown : s.vm.findClass y.cls = some m.cls := findClass_of_methodNamed B.named
  have hlocks := B.notSynchronized
  have hr := B.returns
  have K := body (p, l, e, z_rm d, s, m, (as.map (z_v ad)).toArray, below, meth, c, MQ below (va_Qr Post (fun E a t => z_E S G cy ad E t ∧ a = ad k) (z_A S ad)) (as.map (z_v ad)).toArray s 0 0 (z_A S ad), G, cy, ad)
    ⟨B.exec, B.bytes, hml, hown, fun w hw => hts w (List.mem_cons_of_mem _ hw), hK, hin, ok, rfl, hT⟩
    (fun pc L E hd hp H locs ls hP2 hS hl => by
      refine W.aret (v := .ref (ad k)) B.exec B.bytes hr (Or.inl ⟨_, rfl⟩) (Or.inr ⟨_, rfl⟩) (fun t ht hW => ⟨⟨E, ad k, rfl, hp, ?_, rfl⟩, hS.F ht⟩) hS.2.2 hd
      show va_P G vwCl (z_w S cy ad E) t.heap
      rw [ht]
      exact hP2)
  rw [lg_entry_eq]
  exact K s.heap [] _ hP va_S.rf (z_entry (S := S) h1 hn)

def z_b (e : Bool) : Int32 := if e then 1 else 0
theorem z_b0 (e : Bool) : z_b e = 0 ↔ e = false := by cases e <;> simp [z_b]
theorem z_bn (e : Bool) : ¬ z_b e = 0 ↔ e = true := by cases e <;> simp [z_b]
theorem z_narB (e : Bool) : narrow .boolean (.int (z_b e)) = .int (z_b e) := by cases e <;> rfl
section ZR
variable {X : zX} {S : zS} {T : List (String × Nat × Nat)} {cc : ByteArray} {own : String} {nL d pc : Nat} {L : List (Option Value)} {st : List Value} {D : zD}
theorem z_iadd (F : z_F X S T cc own nL d) {x y : Int32} (hd : decode cc pc = .ok (.iadd, 1))  (K : z_J X S (pc + 1) L (.int (x + y) :: st) D) : z_J X S pc L (.int y :: .int x :: st) D := by
  obtain ⟨p, l, e, R, s, m, args, below, meth, co, Q, G, cy, ad⟩ := X
  obtain ⟨hx, hb, hml, hown, hts, hK, hin, ok, hR, hT⟩ := F
  intro H locs ls hP hS hl
  exact lv_iadd hx hb hd (K H locs ls hP hS hl)
theorem z_isub (F : z_F X S T cc own nL d) {x y : Int32} (hd : decode cc pc = .ok (.isub, 1))  (K : z_J X S (pc + 1) L (.int (x - y) :: st) D) : z_J X S pc L (.int y :: .int x :: st) D := by
  obtain ⟨p, l, e, R, s, m, args, below, meth, co, Q, G, cy, ad⟩ := X
  obtain ⟨hx, hb, hml, hown, hts, hK, hin, ok, hR, hT⟩ := F
  intro H locs ls hP hS hl
  exact lv_isub hx hb hd (K H locs ls hP hS hl)
theorem z_imul (F : z_F X S T cc own nL d) {x y : Int32} (hd : decode cc pc = .ok (.imul, 1))  (K : z_J X S (pc + 1) L (.int (x * y) :: st) D) : z_J X S pc L (.int y :: .int x :: st) D := by
  obtain ⟨p, l, e, R, s, m, args, below, meth, co, Q, G, cy, ad⟩ := X
  obtain ⟨hx, hb, hml, hown, hts, hK, hin, ok, hR, hT⟩ := F
  intro H locs ls hP hS hl
  exact lv_imul hx hb hd (K H locs ls hP hS hl)
theorem z_iand (F : z_F X S T cc own nL d) {x y : Int32} (hd : decode cc pc = .ok (.iand, 1))  (K : z_J X S (pc + 1) L (.int (x &&& y) :: st) D) : z_J X S pc L (.int y :: .int x :: st) D := by
  obtain ⟨p, l, e, R, s, m, args, below, meth, co, Q, G, cy, ad⟩ := X
  obtain ⟨hx, hb, hml, hown, hts, hK, hin, ok, hR, hT⟩ := F
  intro H locs ls hP hS hl
  exact lv_iand hx hb hd (K H locs ls hP hS hl)
theorem z_ior (F : z_F X S T cc own nL d) {x y : Int32} (hd : decode cc pc = .ok (.ior, 1))  (K : z_J X S (pc + 1) L (.int (x ||| y) :: st) D) : z_J X S pc L (.int y :: .int x :: st) D := by
  obtain ⟨p, l, e, R, s, m, args, below, meth, co, Q, G, cy, ad⟩ := X
  obtain ⟨hx, hb, hml, hown, hts, hK, hin, ok, hR, hT⟩ := F
  intro H locs ls hP hS hl
  exact lv_ior hx hb hd (K H locs ls hP hS hl)
theorem z_ixor (F : z_F X S T cc own nL d) {x y : Int32} (hd : decode cc pc = .ok (.ixor, 1))  (K : z_J X S (pc + 1) L (.int (x ^^^ y) :: st) D) : z_J X S pc L (.int y :: .int x :: st) D := by
  obtain ⟨p, l, e, R, s, m, args, below, meth, co, Q, G, cy, ad⟩ := X
  obtain ⟨hx, hb, hml, hown, hts, hK, hin, ok, hR, hT⟩ := F
  intro H locs ls hP hS hl
  exact lv_ixor hx hb hd (K H locs ls hP hS hl)
theorem z_ishl (F : z_F X S T cc own nL d) {x y : Int32} (hd : decode cc pc = .ok (.ishl, 1))  (K : z_J X S (pc + 1) L (.int (x <<< (y &&& 31)) :: st) D) : z_J X S pc L (.int y :: .int x :: st) D := by
  obtain ⟨p, l, e, R, s, m, args, below, meth, co, Q, G, cy, ad⟩ := X
  obtain ⟨hx, hb, hml, hown, hts, hK, hin, ok, hR, hT⟩ := F
  intro H locs ls hP hS hl
  exact lv_ishl hx hb hd (K H locs ls hP hS hl)
theorem z_ishr (F : z_F X S T cc own nL d) {x y : Int32} (hd : decode cc pc = .ok (.ishr, 1))  (K : z_J X S (pc + 1) L (.int (x >>> (y &&& 31)) :: st) D) : z_J X S pc L (.int y :: .int x :: st) D := by
  obtain ⟨p, l, e, R, s, m, args, below, meth, co, Q, G, cy, ad⟩ := X
  obtain ⟨hx, hb, hml, hown, hts, hK, hin, ok, hR, hT⟩ := F
  intro H locs ls hP hS hl
  exact lv_ishr hx hb hd (K H locs ls hP hS hl)
theorem z_iushr (F : z_F X S T cc own nL d) {x y : Int32} (hd : decode cc pc = .ok (.iushr, 1))  (K : z_J X S (pc + 1) L (.int ((x.toUInt32 >>> (y.toUInt32 &&& Int32.toUInt32 31)).toInt32) :: st) D) : z_J X S pc L (.int y :: .int x :: st) D := by
  obtain ⟨p, l, e, R, s, m, args, below, meth, co, Q, G, cy, ad⟩ := X
  obtain ⟨hx, hb, hml, hown, hts, hK, hin, ok, hR, hT⟩ := F
  intro H locs ls hP hS hl
  exact lv_iushr hx hb hd rfl (K H locs ls hP hS hl)
theorem z_idiv (F : z_F X S T cc own nL d) {x y : Int32} (hd : decode cc pc = .ok (.idiv, 1)) (hne : ¬ y = 0) (K : z_J X S (pc + 1) L (.int (x / y) :: st) D) : z_J X S pc L (.int y :: .int x :: st) D := by
  obtain ⟨p, l, e, R, s, m, args, below, meth, co, Q, G, cy, ad⟩ := X
  obtain ⟨hx, hb, hml, hown, hts, hK, hin, ok, hR, hT⟩ := F
  intro H locs ls hP hS hl
  exact lv_idiv hx hb hd hne (K H locs ls hP hS hl)
theorem z_irem (F : z_F X S T cc own nL d) {x y : Int32} (hd : decode cc pc = .ok (.irem, 1)) (hne : ¬ y = 0) (K : z_J X S (pc + 1) L (.int (x - x / y * y) :: st) D) : z_J X S pc L (.int y :: .int x :: st) D := by
  obtain ⟨p, l, e, R, s, m, args, below, meth, co, Q, G, cy, ad⟩ := X
  obtain ⟨hx, hb, hml, hown, hts, hK, hin, ok, hR, hT⟩ := F
  intro H locs ls hP hS hl
  exact lv_irem hx hb hd hne (K H locs ls hP hS hl)
theorem z_ladd (F : z_F X S T cc own nL d) {x y : Int64} (hd : decode cc pc = .ok (.ladd, 1))  (K : z_J X S (pc + 1) L (.long (x + y) :: st) D) : z_J X S pc L (.long y :: .long x :: st) D := by
  obtain ⟨p, l, e, R, s, m, args, below, meth, co, Q, G, cy, ad⟩ := X
  obtain ⟨hx, hb, hml, hown, hts, hK, hin, ok, hR, hT⟩ := F
  intro H locs ls hP hS hl
  exact lv_ladd hx hb hd (K H locs ls hP hS hl)
theorem z_lor (F : z_F X S T cc own nL d) {x y : Int64} (hd : decode cc pc = .ok (.lor, 1))  (K : z_J X S (pc + 1) L (.long (x ||| y) :: st) D) : z_J X S pc L (.long y :: .long x :: st) D := by
  obtain ⟨p, l, e, R, s, m, args, below, meth, co, Q, G, cy, ad⟩ := X
  obtain ⟨hx, hb, hml, hown, hts, hK, hin, ok, hR, hT⟩ := F
  intro H locs ls hP hS hl
  exact lv_lor hx hb hd (K H locs ls hP hS hl)
theorem z_lshl (F : z_F X S T cc own nL d) {x : Int64} {y : Int32} (hd : decode cc pc = .ok (.lshl, 1))  (K : z_J X S (pc + 1) L (.long (x <<< (y.toInt64 &&& 63)) :: st) D) : z_J X S pc L (.int y :: .long x :: st) D := by
  obtain ⟨p, l, e, R, s, m, args, below, meth, co, Q, G, cy, ad⟩ := X
  obtain ⟨hx, hb, hml, hown, hts, hK, hin, ok, hR, hT⟩ := F
  intro H locs ls hP hS hl
  exact lv_lshl hx hb hd rfl (K H locs ls hP hS hl)
theorem z_lushr (F : z_F X S T cc own nL d) {x : Int64} {y : Int32} (hd : decode cc pc = .ok (.lushr, 1))  (K : z_J X S (pc + 1) L (.long ((x.toUInt64 >>> (y.toInt64.toUInt64 &&& Int64.toUInt64 63)).toInt64) :: st) D) : z_J X S pc L (.int y :: .long x :: st) D := by
  obtain ⟨p, l, e, R, s, m, args, below, meth, co, Q, G, cy, ad⟩ := X
  obtain ⟨hx, hb, hml, hown, hts, hK, hin, ok, hR, hT⟩ := F
  intro H locs ls hP hS hl
  exact lv_lushr hx hb hd rfl (K H locs ls hP hS hl)
theorem z_lcmp (F : z_F X S T cc own nL d) {x y : Int64} (hd : decode cc pc = .ok (.lcmp, 1))  (K : z_J X S (pc + 1) L (.int (lg_cmp x y) :: st) D) : z_J X S pc L (.long y :: .long x :: st) D := by
  obtain ⟨p, l, e, R, s, m, args, below, meth, co, Q, G, cy, ad⟩ := X
  obtain ⟨hx, hb, hml, hown, hts, hK, hin, ok, hR, hT⟩ := F
  intro H locs ls hP hS hl
  exact W.lcmp hx hb hd (K H locs ls hP hS hl)
theorem z_i2l (F : z_F X S T cc own nL d) {x : Int32} (hd : decode cc pc = .ok (.i2l, 1))  (K : z_J X S (pc + 1) L (.long x.toInt64 :: st) D) : z_J X S pc L (.int x :: st) D := by
  obtain ⟨p, l, e, R, s, m, args, below, meth, co, Q, G, cy, ad⟩ := X
  obtain ⟨hx, hb, hml, hown, hts, hK, hin, ok, hR, hT⟩ := F
  intro H locs ls hP hS hl
  exact lv_i2l hx hb hd rfl (K H locs ls hP hS hl)
theorem z_i2b (F : z_F X S T cc own nL d) {x : Int32} (hd : decode cc pc = .ok (.i2b, 1))  (K : z_J X S (pc + 1) L (.int x.toInt8.toInt32 :: st) D) : z_J X S pc L (.int x :: st) D := by
  obtain ⟨p, l, e, R, s, m, args, below, meth, co, Q, G, cy, ad⟩ := X
  obtain ⟨hx, hb, hml, hown, hts, hK, hin, ok, hR, hT⟩ := F
  intro H locs ls hP hS hl
  exact lv_i2b hx hb hd rfl (K H locs ls hP hS hl)
theorem z_i2s (F : z_F X S T cc own nL d) {x : Int32} (hd : decode cc pc = .ok (.i2s, 1))  (K : z_J X S (pc + 1) L (.int x.toInt16.toInt32 :: st) D) : z_J X S pc L (.int x :: st) D := by
  obtain ⟨p, l, e, R, s, m, args, below, meth, co, Q, G, cy, ad⟩ := X
  obtain ⟨hx, hb, hml, hown, hts, hK, hin, ok, hR, hT⟩ := F
  intro H locs ls hP hS hl
  exact lv_i2s hx hb hd rfl (K H locs ls hP hS hl)
theorem z_dup (F : z_F X S T cc own nL d) {v : Value} (hd : decode cc pc = .ok (.dup, 1)) (hc : v.category = 1) (K : z_J X S (pc + 1) L (v :: v :: st) D) : z_J X S pc L (v :: st) D := by
  obtain ⟨p, l, e, R, s, m, args, below, meth, co, Q, G, cy, ad⟩ := X
  obtain ⟨hx, hb, hml, hown, hts, hK, hin, ok, hR, hT⟩ := F
  intro H locs ls hP hS hl
  exact lv_dup hx hb hd ((z_v_cat ad v).trans hc) (K H locs ls hP hS hl)
theorem z_dup2 (F : z_F X S T cc own nL d) {v u : Value} (hd : decode cc pc = .ok (.dup2, 1)) (hc : v.category = 1) (hc2 : u.category = 1) (K : z_J X S (pc + 1) L (v :: u :: v :: u :: st) D) : z_J X S pc L (v :: u :: st) D := by
  obtain ⟨p, l, e, R, s, m, args, below, meth, co, Q, G, cy, ad⟩ := X
  obtain ⟨hx, hb, hml, hown, hts, hK, hin, ok, hR, hT⟩ := F
  intro H locs ls hP hS hl
  exact lv_dup2_11 hx hb hd ((z_v_cat ad v).trans hc) ((z_v_cat ad u).trans hc2) (K H locs ls hP hS hl)
theorem z_pop (F : z_F X S T cc own nL d) {v : Value} (hd : decode cc pc = .ok (.pop, 1)) (hc : v.category = 1) (K : z_J X S (pc + 1) L (st) D) : z_J X S pc L (v :: st) D := by
  obtain ⟨p, l, e, R, s, m, args, below, meth, co, Q, G, cy, ad⟩ := X
  obtain ⟨hx, hb, hml, hown, hts, hK, hin, ok, hR, hT⟩ := F
  intro H locs ls hP hS hl
  exact lv_pop hx hb hd ((z_v_cat ad v).trans hc) (K H locs ls hP hS hl)
theorem z_iconst (F : z_F X S T cc own nL d) {n : Int} (v : Int32) (hd : decode cc pc = .ok (.iconst n, 1)) (hv : Int32.ofInt n = v) (K : z_J X S (pc + 1) L (.int v :: st) D) : z_J X S pc L (st) D := by
  obtain ⟨p, l, e, R, s, m, args, below, meth, co, Q, G, cy, ad⟩ := X
  obtain ⟨hx, hb, hml, hown, hts, hK, hin, ok, hR, hT⟩ := F
  intro H locs ls hP hS hl
  exact lv_iconst hx hb hd hv (K H locs ls hP hS hl)
theorem z_bipush (F : z_F X S T cc own nL d) {n : Int} (v : Int32) (hd : decode cc pc = .ok (.bipush n, 2)) (hv : (Int8.ofInt n).toInt32 = v) (K : z_J X S (pc + 2) L (.int v :: st) D) : z_J X S pc L (st) D := by
  obtain ⟨p, l, e, R, s, m, args, below, meth, co, Q, G, cy, ad⟩ := X
  obtain ⟨hx, hb, hml, hown, hts, hK, hin, ok, hR, hT⟩ := F
  intro H locs ls hP hS hl
  exact lv_bipush hx hb hd hv (K H locs ls hP hS hl)
theorem z_sipush (F : z_F X S T cc own nL d) {n : Int} (v : Int32) (hd : decode cc pc = .ok (.sipush n, 3)) (hv : (Int16.ofInt n).toInt32 = v) (K : z_J X S (pc + 3) L (.int v :: st) D) : z_J X S pc L (st) D := by
  obtain ⟨p, l, e, R, s, m, args, below, meth, co, Q, G, cy, ad⟩ := X
  obtain ⟨hx, hb, hml, hown, hts, hK, hin, ok, hR, hT⟩ := F
  intro H locs ls hP hS hl
  exact lv_sipush hx hb hd hv (K H locs ls hP hS hl)
theorem z_lconst (F : z_F X S T cc own nL d) {n : Fin 2} (v : Int64) (hd : decode cc pc = .ok (.lconst n, 1)) (hv : Int64.ofNat (n : Nat) = v) (K : z_J X S (pc + 1) L (.long v :: st) D) : z_J X S pc L (st) D := by
  obtain ⟨p, l, e, R, s, m, args, below, meth, co, Q, G, cy, ad⟩ := X
  obtain ⟨hx, hb, hml, hown, hts, hK, hin, ok, hR, hT⟩ := F
  intro H locs ls hP hS hl
  exact lv_lconst hx hb hd hv (K H locs ls hP hS hl)
theorem z_ldc (F : z_F X S T cc own nL d) {i : Nat} (v : Int32) (hd : decode cc pc = .ok (.ldc i, 2)) (hw : Cond.constant own i v ∈ wsL_law) (K : z_J X S (pc + 2) L (.int v :: st) D) : z_J X S pc L (st) D := by
  obtain ⟨p, l, e, R, s, m, args, below, meth, co, Q, G, cy, ad⟩ := X
  obtain ⟨hx, hb, hml, hown, hts, hK, hin, ok, hR, hT⟩ := F
  intro H locs ls hP hS hl
  exact lv_ldc hx hb hown (hts _ hw) hd (K H locs ls hP hS hl)
theorem z_ldcw (F : z_F X S T cc own nL d) {i : Nat} (v : Int32) (hd : decode cc pc = .ok (.ldc_w i, 3)) (hw : Cond.constant own i v ∈ wsL_law) (K : z_J X S (pc + 3) L (.int v :: st) D) : z_J X S pc L (st) D := by
  obtain ⟨p, l, e, R, s, m, args, below, meth, co, Q, G, cy, ad⟩ := X
  obtain ⟨hx, hb, hml, hown, hts, hK, hin, ok, hR, hT⟩ := F
  intro H locs ls hP hS hl
  exact lv_ldcw hx hb hown (hts _ hw) hd (K H locs ls hP hS hl)
theorem z_if_eq (F : z_F X S T cc own nL d) {x : Int32} {off : Int} (tgt : Nat) (hd : decode cc pc = .ok (.ifCond .eq off, 3)) (ht : (pc : Int) + off = (tgt : Int)) (kt : x = 0 → z_J X S tgt L st D) (kf : ¬ x = 0 → z_J X S (pc + 3) L st D) : z_J X S pc L (.int x :: st) D := by
  obtain ⟨p, l, e, R, s, m, args, below, meth, co, Q, G, cy, ad⟩ := X
  obtain ⟨hx, hb, hml, hown, hts, hK, hin, ok, hR, hT⟩ := F
  intro H locs ls hP hS hl
  exact lv_if_eq hx hb hd ht (fun q => kt q H locs ls hP hS hl) (fun q => kf q H locs ls hP hS hl)
theorem z_if_ne (F : z_F X S T cc own nL d) {x : Int32} {off : Int} (tgt : Nat) (hd : decode cc pc = .ok (.ifCond .ne off, 3)) (ht : (pc : Int) + off = (tgt : Int)) (kt : ¬ x = 0 → z_J X S tgt L st D) (kf : x = 0 → z_J X S (pc + 3) L st D) : z_J X S pc L (.int x :: st) D := by
  obtain ⟨p, l, e, R, s, m, args, below, meth, co, Q, G, cy, ad⟩ := X
  obtain ⟨hx, hb, hml, hown, hts, hK, hin, ok, hR, hT⟩ := F
  intro H locs ls hP hS hl
  exact lv_if_ne hx hb hd ht (fun q => kt q H locs ls hP hS hl) (fun q => kf q H locs ls hP hS hl)
theorem z_if_lt (F : z_F X S T cc own nL d) {x : Int32} {off : Int} (tgt : Nat) (hd : decode cc pc = .ok (.ifCond .lt off, 3)) (ht : (pc : Int) + off = (tgt : Int)) (kt : x < 0 → z_J X S tgt L st D) (kf : ¬ x < 0 → z_J X S (pc + 3) L st D) : z_J X S pc L (.int x :: st) D := by
  obtain ⟨p, l, e, R, s, m, args, below, meth, co, Q, G, cy, ad⟩ := X
  obtain ⟨hx, hb, hml, hown, hts, hK, hin, ok, hR, hT⟩ := F
  intro H locs ls hP hS hl
  exact lv_if_lt hx hb hd ht (fun q => kt q H locs ls hP hS hl) (fun q => kf q H locs ls hP hS hl)
theorem z_if_ge (F : z_F X S T cc own nL d) {x : Int32} {off : Int} (tgt : Nat) (hd : decode cc pc = .ok (.ifCond .ge off, 3)) (ht : (pc : Int) + off = (tgt : Int)) (kt : 0 ≤ x → z_J X S tgt L st D) (kf : ¬ 0 ≤ x → z_J X S (pc + 3) L st D) : z_J X S pc L (.int x :: st) D := by
  obtain ⟨p, l, e, R, s, m, args, below, meth, co, Q, G, cy, ad⟩ := X
  obtain ⟨hx, hb, hml, hown, hts, hK, hin, ok, hR, hT⟩ := F
  intro H locs ls hP hS hl
  exact lv_if_ge hx hb hd ht (fun q => kt q H locs ls hP hS hl) (fun q => kf q H locs ls hP hS hl)
theorem z_if_gt (F : z_F X S T cc own nL d) {x : Int32} {off : Int} (tgt : Nat) (hd : decode cc pc = .ok (.ifCond .gt off, 3)) (ht : (pc : Int) + off = (tgt : Int)) (kt : 0 < x → z_J X S tgt L st D) (kf : ¬ 0 < x → z_J X S (pc + 3) L st D) : z_J X S pc L (.int x :: st) D := by
  obtain ⟨p, l, e, R, s, m, args, below, meth, co, Q, G, cy, ad⟩ := X
  obtain ⟨hx, hb, hml, hown, hts, hK, hin, ok, hR, hT⟩ := F
  intro H locs ls hP hS hl
  exact lv_if_gt hx hb hd ht (fun q => kt q H locs ls hP hS hl) (fun q => kf q H locs ls hP hS hl)
theorem z_if_le (F : z_F X S T cc own nL d) {x : Int32} {off : Int} (tgt : Nat) (hd : decode cc pc = .ok (.ifCond .le off, 3)) (ht : (pc : Int) + off = (tgt : Int)) (kt : x ≤ 0 → z_J X S tgt L st D) (kf : ¬ x ≤ 0 → z_J X S (pc + 3) L st D) : z_J X S pc L (.int x :: st) D := by
  obtain ⟨p, l, e, R, s, m, args, below, meth, co, Q, G, cy, ad⟩ := X
  obtain ⟨hx, hb, hml, hown, hts, hK, hin, ok, hR, hT⟩ := F
  intro H locs ls hP hS hl
  exact lv_if_le hx hb hd ht (fun q => kt q H locs ls hP hS hl) (fun q => kf q H locs ls hP hS hl)
theorem z_ic_eq (F : z_F X S T cc own nL d) {x y : Int32} {off : Int} (tgt : Nat) (hd : decode cc pc = .ok (.if_icmp .eq off, 3)) (ht : (pc : Int) + off = (tgt : Int)) (kt : x = y → z_J X S tgt L st D) (kf : ¬ x = y → z_J X S (pc + 3) L st D) : z_J X S pc L (.int y :: .int x :: st) D := by
  obtain ⟨p, l, e, R, s, m, args, below, meth, co, Q, G, cy, ad⟩ := X
  obtain ⟨hx, hb, hml, hown, hts, hK, hin, ok, hR, hT⟩ := F
  intro H locs ls hP hS hl
  exact lv_icmp_eq hx hb hd ht (fun q => kt q H locs ls hP hS hl) (fun q => kf q H locs ls hP hS hl)
theorem z_ic_ne (F : z_F X S T cc own nL d) {x y : Int32} {off : Int} (tgt : Nat) (hd : decode cc pc = .ok (.if_icmp .ne off, 3)) (ht : (pc : Int) + off = (tgt : Int)) (kt : ¬ x = y → z_J X S tgt L st D) (kf : x = y → z_J X S (pc + 3) L st D) : z_J X S pc L (.int y :: .int x :: st) D := by
  obtain ⟨p, l, e, R, s, m, args, below, meth, co, Q, G, cy, ad⟩ := X
  obtain ⟨hx, hb, hml, hown, hts, hK, hin, ok, hR, hT⟩ := F
  intro H locs ls hP hS hl
  exact lv_icmp_ne hx hb hd ht (fun q => kt q H locs ls hP hS hl) (fun q => kf q H locs ls hP hS hl)
theorem z_ic_lt (F : z_F X S T cc own nL d) {x y : Int32} {off : Int} (tgt : Nat) (hd : decode cc pc = .ok (.if_icmp .lt off, 3)) (ht : (pc : Int) + off = (tgt : Int)) (kt : x < y → z_J X S tgt L st D) (kf : ¬ x < y → z_J X S (pc + 3) L st D) : z_J X S pc L (.int y :: .int x :: st) D := by
  obtain ⟨p, l, e, R, s, m, args, below, meth, co, Q, G, cy, ad⟩ := X
  obtain ⟨hx, hb, hml, hown, hts, hK, hin, ok, hR, hT⟩ := F
  intro H locs ls hP hS hl
  exact lv_icmp_lt hx hb hd ht (fun q => kt q H locs ls hP hS hl) (fun q => kf q H locs ls hP hS hl)
theorem z_ic_ge (F : z_F X S T cc own nL d) {x y : Int32} {off : Int} (tgt : Nat) (hd : decode cc pc = .ok (.if_icmp .ge off, 3)) (ht : (pc : Int) + off = (tgt : Int)) (kt : y ≤ x → z_J X S tgt L st D) (kf : ¬ y ≤ x → z_J X S (pc + 3) L st D) : z_J X S pc L (.int y :: .int x :: st) D := by
  obtain ⟨p, l, e, R, s, m, args, below, meth, co, Q, G, cy, ad⟩ := X
  obtain ⟨hx, hb, hml, hown, hts, hK, hin, ok, hR, hT⟩ := F
  intro H locs ls hP hS hl
  exact lv_icmp_ge hx hb hd ht (fun q => kt q H locs ls hP hS hl) (fun q => kf q H locs ls hP hS hl)
theorem z_ic_gt (F : z_F X S T cc own nL d) {x y : Int32} {off : Int} (tgt : Nat) (hd : decode cc pc = .ok (.if_icmp .gt off, 3)) (ht : (pc : Int) + off = (tgt : Int)) (kt : y < x → z_J X S tgt L st D) (kf : ¬ y < x → z_J X S (pc + 3) L st D) : z_J X S pc L (.int y :: .int x :: st) D := by
  obtain ⟨p, l, e, R, s, m, args, below, meth, co, Q, G, cy, ad⟩ := X
  obtain ⟨hx, hb, hml, hown, hts, hK, hin, ok, hR, hT⟩ := F
  intro H locs ls hP hS hl
  exact lv_icmp_gt hx hb hd ht (fun q => kt q H locs ls hP hS hl) (fun q => kf q H locs ls hP hS hl)
theorem z_ic_le (F : z_F X S T cc own nL d) {x y : Int32} {off : Int} (tgt : Nat) (hd : decode cc pc = .ok (.if_icmp .le off, 3)) (ht : (pc : Int) + off = (tgt : Int)) (kt : x ≤ y → z_J X S tgt L st D) (kf : ¬ x ≤ y → z_J X S (pc + 3) L st D) : z_J X S pc L (.int y :: .int x :: st) D := by
  obtain ⟨p, l, e, R, s, m, args, below, meth, co, Q, G, cy, ad⟩ := X
  obtain ⟨hx, hb, hml, hown, hts, hK, hin, ok, hR, hT⟩ := F
  intro H locs ls hP hS hl
  exact lv_icmp_le hx hb hd ht (fun q => kt q H locs ls hP hS hl) (fun q => kf q H locs ls hP hS hl)
theorem z_ifb_eq (F : z_F X S T cc own nL d) {e : Bool} {off : Int} (tgt : Nat) (hd : decode cc pc = .ok (.ifCond .eq off, 3)) (ht : (pc : Int) + off = (tgt : Int)) (kt : e = false → z_J X S tgt L st D) (kf : e = true → z_J X S (pc + 3) L st D) : z_J X S pc L (.int (z_b e) :: st) D := z_if_eq F tgt hd ht (fun q => kt ((z_b0 e).mp q)) (fun q => kf ((z_bn e).mp q))
theorem z_ifb_ne (F : z_F X S T cc own nL d) {e : Bool} {off : Int} (tgt : Nat) (hd : decode cc pc = .ok (.ifCond .ne off, 3)) (ht : (pc : Int) + off = (tgt : Int)) (kt : e = true → z_J X S tgt L st D) (kf : e = false → z_J X S (pc + 3) L st D) : z_J X S pc L (.int (z_b e) :: st) D := z_if_ne F tgt hd ht (fun q => kt ((z_bn e).mp q)) (fun q => kf ((z_b0 e).mp q))
theorem z_tsw_0_4 {x : Int32} {pc : Nat} {G : Prop} (hG : G = z_J X S pc L (.int x :: st) D) (h0 : x = 0 → G) (h1 : x = 1 → G) (h2 : x = 2 → G) (h3 : x = 3 → G) (h4 : x = 4 → G) (ho : (x.toInt < 0 ∨ 4 < x.toInt) → G) : z_J X S pc L (.int x :: st) D := by
  rw [← hG]
  by_cases q : x.toInt < 0 ∨ 4 < x.toInt
  · exact ho q
  · rcases (show x.toInt = 0 ∨ x.toInt = 1 ∨ x.toInt = 2 ∨ x.toInt = 3 ∨ x.toInt = 4 by omega) with q | q | q | q | q
    · exact h0 (Int32.toInt_inj.mp q)
    · exact h1 (Int32.toInt_inj.mp q)
    · exact h2 (Int32.toInt_inj.mp q)
    · exact h3 (Int32.toInt_inj.mp q)
    · exact h4 (Int32.toInt_inj.mp q)
theorem z_tsw_0_5 {x : Int32} {pc : Nat} {G : Prop} (hG : G = z_J X S pc L (.int x :: st) D) (h0 : x = 0 → G) (h1 : x = 1 → G) (h2 : x = 2 → G) (h3 : x = 3 → G) (h4 : x = 4 → G) (h5 : x = 5 → G) (ho : (x.toInt < 0 ∨ 5 < x.toInt) → G) : z_J X S pc L (.int x :: st) D := by
  rw [← hG]
  by_cases q : x.toInt < 0 ∨ 5 < x.toInt
  · exact ho q
  · rcases (show x.toInt = 0 ∨ x.toInt = 1 ∨ x.toInt = 2 ∨ x.toInt = 3 ∨ x.toInt = 4 ∨ x.toInt = 5 by omega) with q | q | q | q | q | q
    · exact h0 (Int32.toInt_inj.mp q)
    · exact h1 (Int32.toInt_inj.mp q)
    · exact h2 (Int32.toInt_inj.mp q)
    · exact h3 (Int32.toInt_inj.mp q)
    · exact h4 (Int32.toInt_inj.mp q)
    · exact h5 (Int32.toInt_inj.mp q)
theorem z_tsw_0_6 {x : Int32} {pc : Nat} {G : Prop} (hG : G = z_J X S pc L (.int x :: st) D) (h0 : x = 0 → G) (h1 : x = 1 → G) (h2 : x = 2 → G) (h3 : x = 3 → G) (h4 : x = 4 → G) (h5 : x = 5 → G) (h6 : x = 6 → G) (ho : (x.toInt < 0 ∨ 6 < x.toInt) → G) : z_J X S pc L (.int x :: st) D := by
  rw [← hG]
  by_cases q : x.toInt < 0 ∨ 6 < x.toInt
  · exact ho q
  · rcases (show x.toInt = 0 ∨ x.toInt = 1 ∨ x.toInt = 2 ∨ x.toInt = 3 ∨ x.toInt = 4 ∨ x.toInt = 5 ∨ x.toInt = 6 by omega) with q | q | q | q | q | q | q
    · exact h0 (Int32.toInt_inj.mp q)
    · exact h1 (Int32.toInt_inj.mp q)
    · exact h2 (Int32.toInt_inj.mp q)
    · exact h3 (Int32.toInt_inj.mp q)
    · exact h4 (Int32.toInt_inj.mp q)
    · exact h5 (Int32.toInt_inj.mp q)
    · exact h6 (Int32.toInt_inj.mp q)
theorem z_tsw_0_7 {x : Int32} {pc : Nat} {G : Prop} (hG : G = z_J X S pc L (.int x :: st) D) (h0 : x = 0 → G) (h1 : x = 1 → G) (h2 : x = 2 → G) (h3 : x = 3 → G) (h4 : x = 4 → G) (h5 : x = 5 → G) (h6 : x = 6 → G) (h7 : x = 7 → G) (ho : (x.toInt < 0 ∨ 7 < x.toInt) → G) : z_J X S pc L (.int x :: st) D := by
  rw [← hG]
  by_cases q : x.toInt < 0 ∨ 7 < x.toInt
  · exact ho q
  · rcases (show x.toInt = 0 ∨ x.toInt = 1 ∨ x.toInt = 2 ∨ x.toInt = 3 ∨ x.toInt = 4 ∨ x.toInt = 5 ∨ x.toInt = 6 ∨ x.toInt = 7 by omega) with q | q | q | q | q | q | q | q
    · exact h0 (Int32.toInt_inj.mp q)
    · exact h1 (Int32.toInt_inj.mp q)
    · exact h2 (Int32.toInt_inj.mp q)
    · exact h3 (Int32.toInt_inj.mp q)
    · exact h4 (Int32.toInt_inj.mp q)
    · exact h5 (Int32.toInt_inj.mp q)
    · exact h6 (Int32.toInt_inj.mp q)
    · exact h7 (Int32.toInt_inj.mp q)
theorem z_tsw_0_9 {x : Int32} {pc : Nat} {G : Prop} (hG : G = z_J X S pc L (.int x :: st) D) (h0 : x = 0 → G) (h1 : x = 1 → G) (h2 : x = 2 → G) (h3 : x = 3 → G) (h4 : x = 4 → G) (h5 : x = 5 → G) (h6 : x = 6 → G) (h7 : x = 7 → G) (h8 : x = 8 → G) (h9 : x = 9 → G) (ho : (x.toInt < 0 ∨ 9 < x.toInt) → G) : z_J X S pc L (.int x :: st) D := by
  rw [← hG]
  by_cases q : x.toInt < 0 ∨ 9 < x.toInt
  · exact ho q
  · rcases (show x.toInt = 0 ∨ x.toInt = 1 ∨ x.toInt = 2 ∨ x.toInt = 3 ∨ x.toInt = 4 ∨ x.toInt = 5 ∨ x.toInt = 6 ∨ x.toInt = 7 ∨ x.toInt = 8 ∨ x.toInt = 9 by omega) with q | q | q | q | q | q | q | q | q | q
    · exact h0 (Int32.toInt_inj.mp q)
    · exact h1 (Int32.toInt_inj.mp q)
    · exact h2 (Int32.toInt_inj.mp q)
    · exact h3 (Int32.toInt_inj.mp q)
    · exact h4 (Int32.toInt_inj.mp q)
    · exact h5 (Int32.toInt_inj.mp q)
    · exact h6 (Int32.toInt_inj.mp q)
    · exact h7 (Int32.toInt_inj.mp q)
    · exact h8 (Int32.toInt_inj.mp q)
    · exact h9 (Int32.toInt_inj.mp q)
theorem z_tsw_1_4 {x : Int32} {pc : Nat} {G : Prop} (hG : G = z_J X S pc L (.int x :: st) D) (h1 : x = 1 → G) (h2 : x = 2 → G) (h3 : x = 3 → G) (h4 : x = 4 → G) (ho : (x.toInt < 1 ∨ 4 < x.toInt) → G) : z_J X S pc L (.int x :: st) D := by
  rw [← hG]
  by_cases q : x.toInt < 1 ∨ 4 < x.toInt
  · exact ho q
  · rcases (show x.toInt = 1 ∨ x.toInt = 2 ∨ x.toInt = 3 ∨ x.toInt = 4 by omega) with q | q | q | q
    · exact h1 (Int32.toInt_inj.mp q)
    · exact h2 (Int32.toInt_inj.mp q)
    · exact h3 (Int32.toInt_inj.mp q)
    · exact h4 (Int32.toInt_inj.mp q)
theorem z_tsw_1_6 {x : Int32} {pc : Nat} {G : Prop} (hG : G = z_J X S pc L (.int x :: st) D) (h1 : x = 1 → G) (h2 : x = 2 → G) (h3 : x = 3 → G) (h4 : x = 4 → G) (h5 : x = 5 → G) (h6 : x = 6 → G) (ho : (x.toInt < 1 ∨ 6 < x.toInt) → G) : z_J X S pc L (.int x :: st) D := by
  rw [← hG]
  by_cases q : x.toInt < 1 ∨ 6 < x.toInt
  · exact ho q
  · rcases (show x.toInt = 1 ∨ x.toInt = 2 ∨ x.toInt = 3 ∨ x.toInt = 4 ∨ x.toInt = 5 ∨ x.toInt = 6 by omega) with q | q | q | q | q | q
    · exact h1 (Int32.toInt_inj.mp q)
    · exact h2 (Int32.toInt_inj.mp q)
    · exact h3 (Int32.toInt_inj.mp q)
    · exact h4 (Int32.toInt_inj.mp q)
    · exact h5 (Int32.toInt_inj.mp q)
    · exact h6 (Int32.toInt_inj.mp q)
theorem z_tsw_2_6 {x : Int32} {pc : Nat} {G : Prop} (hG : G = z_J X S pc L (.int x :: st) D) (h2 : x = 2 → G) (h3 : x = 3 → G) (h4 : x = 4 → G) (h5 : x = 5 → G) (h6 : x = 6 → G) (ho : (x.toInt < 2 ∨ 6 < x.toInt) → G) : z_J X S pc L (.int x :: st) D := by
  rw [← hG]
  by_cases q : x.toInt < 2 ∨ 6 < x.toInt
  · exact ho q
  · rcases (show x.toInt = 2 ∨ x.toInt = 3 ∨ x.toInt = 4 ∨ x.toInt = 5 ∨ x.toInt = 6 by omega) with q | q | q | q | q
    · exact h2 (Int32.toInt_inj.mp q)
    · exact h3 (Int32.toInt_inj.mp q)
    · exact h4 (Int32.toInt_inj.mp q)
    · exact h5 (Int32.toInt_inj.mp q)
    · exact h6 (Int32.toInt_inj.mp q)
theorem z_goto (F : z_F X S T cc own nL d) {off : Int} (tgt : Nat) (hd : decode cc pc = .ok (.goto off, 3)) (ht : (pc : Int) + off = (tgt : Int)) (K : z_J X S tgt L st D) : z_J X S pc L st D := by
  obtain ⟨p, l, e, R, s, m, args, below, meth, co, Q, G, cy, ad⟩ := X
  obtain ⟨hx, hb, hml, hown, hts, hK, hin, ok, hR, hT⟩ := F
  intro H locs ls hP hS hl
  exact lv_goto hx hb hd ht (K H locs ls hP hS hl)
theorem z_tabIn (F : z_F X S T cc own nL d) {dflt lo hi : Int} {offs : Array Int} {len : Nat} {x : Int32} {off : Int} (tgt : Nat) (hd : decode cc pc = .ok (.tableswitch dflt lo hi offs, len)) (h1 : ¬ x.toInt < lo) (h2 : ¬ hi < x.toInt) (ho : offs[(x.toInt - lo).toNat]? = some off) (ht : (pc : Int) + off = (tgt : Int)) (K : z_J X S tgt L st D) : z_J X S pc L (.int x :: st) D := by
  obtain ⟨p, l, e, R, s, m, args, below, meth, co, Q, G, cy, ad⟩ := X
  obtain ⟨hx, hb, hml, hown, hts, hK, hin, ok, hR, hT⟩ := F
  intro H locs ls hP hS hl
  exact lv_tableIn hx hb hd h1 h2 ho ht (K H locs ls hP hS hl)
theorem z_tabOut (F : z_F X S T cc own nL d) {dflt lo hi : Int} {offs : Array Int} {len : Nat} {x : Int32} (tgt : Nat) (hd : decode cc pc = .ok (.tableswitch dflt lo hi offs, len)) (h : x.toInt < lo ∨ hi < x.toInt) (ht : (pc : Int) + dflt = (tgt : Int)) (K : z_J X S tgt L st D) : z_J X S pc L (.int x :: st) D := by
  obtain ⟨p, l, e, R, s, m, args, below, meth, co, Q, G, cy, ad⟩ := X
  obtain ⟨hx, hb, hml, hown, hts, hK, hin, ok, hR, hT⟩ := F
  intro H locs ls hP hS hl
  exact lv_tableOut hx hb hd h ht (K H locs ls hP hS hl)
theorem z_lookup (F : z_F X S T cc own nL d) {dflt : Int} {ps : Array (Int × Int)} {len : Nat} {x : Int32} {off : Int} (tgt : Nat) (hd : decode cc pc = .ok (.lookupswitch dflt ps, len)) (hp : (ps.toList.zip (ps.toList.drop 1)).all (fun (a, next) => a.1 < next.1) = true) (ho : Op.lookupswitch.offset ps.toList dflt x.toInt = off) (ht : (pc : Int) + off = (tgt : Int)) (K : z_J X S tgt L st D) : z_J X S pc L (.int x :: st) D := by
  obtain ⟨p, l, e, R, s, m, args, below, meth, co, Q, G, cy, ad⟩ := X
  obtain ⟨hx, hb, hml, hown, hts, hK, hin, ok, hR, hT⟩ := F
  intro H locs ls hP hS hl
  exact lv_lookup hx hb hd hp ho ht (K H locs ls hP hS hl)
theorem z_iload0 (F : z_F X S T cc own nL d) {x : Int32} {r : List (Option Value)} (hd : decode cc pc = .ok (.iload_n 0, 1)) (K : z_J X S (pc + 1) (some (.int x) :: r) (.int x :: st) D) : z_J X S pc (some (.int x) :: r) st D := by
  obtain ⟨p, l, e, R, s, m, args, below, meth, co, Q, G, cy, ad⟩ := X
  obtain ⟨hx, hb, hml, hown, hts, hK, hin, ok, hR, hT⟩ := F
  intro H locs ls hP hS hl
  exact lv_iload_n hx hb hd rfl (z_lvAt hl 0 rfl) (K H locs ls hP hS hl)
theorem z_aload0 (F : z_F X S T cc own nL d) {k : Nat} {r : List (Option Value)} (hd : decode cc pc = .ok (.aload_n 0, 1)) (K : z_J X S (pc + 1) (some (.ref k) :: r) (.ref k :: st) D) : z_J X S pc (some (.ref k) :: r) st D := by
  obtain ⟨p, l, e, R, s, m, args, below, meth, co, Q, G, cy, ad⟩ := X
  obtain ⟨hx, hb, hml, hown, hts, hK, hin, ok, hR, hT⟩ := F
  intro H locs ls hP hS hl
  exact lv_aload_n hx hb hd rfl (z_lvAt hl 0 rfl) (K H locs ls hP hS hl)
theorem z_istore0 (F : z_F X S T cc own nL d) {x : Int32} {b : Option Value} {r : List (Option Value)} (hd : decode cc pc = .ok (.istore_n 0, 1)) (K : z_J X S (pc + 1) (some (.int x) :: r) st D) : z_J X S pc (b :: r) (.int x :: st) D := by
  obtain ⟨p, l, e, R, s, m, args, below, meth, co, Q, G, cy, ad⟩ := X
  obtain ⟨hx, hb, hml, hown, hts, hK, hin, ok, hR, hT⟩ := F
  intro H locs ls hP hS hl
  exact lv_istore_n hx hb hd rfl hl (show 0 < _ by simp only [List.length_cons]; omega) rfl (fun ls2 hl2 => K H locs ls2 hP hS (z_lvMono hl2 (z_lvSet ad (L := b :: r) (i := 0) (v := .int x) z_prev0)))
theorem z_astore0 (F : z_F X S T cc own nL d) {k : Nat} {b : Option Value} {r : List (Option Value)} (hd : decode cc pc = .ok (.astore_n 0, 1)) (K : z_J X S (pc + 1) (some (.ref k) :: r) st D) : z_J X S pc (b :: r) (.ref k :: st) D := by
  obtain ⟨p, l, e, R, s, m, args, below, meth, co, Q, G, cy, ad⟩ := X
  obtain ⟨hx, hb, hml, hown, hts, hK, hin, ok, hR, hT⟩ := F
  intro H locs ls hP hS hl
  exact lv_astore_n hx hb hd rfl hl (show 0 < _ by simp only [List.length_cons]; omega) rfl (fun ls2 hl2 => K H locs ls2 hP hS (z_lvMono hl2 (z_lvSet ad (L := b :: r) (i := 0) (v := .ref k) z_prev0)))
theorem z_iinc0 (F : z_F X S T cc own nL d) {x : Int32} {n : Int} (v : Int32) {r : List (Option Value)} (hd : decode cc pc = .ok (.iinc 0 n, 3)) (hv : Int32.ofInt n = v) (K : z_J X S (pc + 3) (some (.int (x + v)) :: r) st D) : z_J X S pc (some (.int x) :: r) st D := by
  obtain ⟨p, l, e, R, s, m, args, below, meth, co, Q, G, cy, ad⟩ := X
  obtain ⟨hx, hb, hml, hown, hts, hK, hin, ok, hR, hT⟩ := F
  intro H locs ls hP hS hl
  have hm : (0, Value.int x) ∈ z_lv ad 0 (some (.int x) :: r) := by
    have h := z_lv_mem ad (some (.int x) :: r) 0 0 (.int x) rfl
    rw [Nat.zero_add] at h
    exact h
  obtain ⟨q, hq⟩ := List.getElem?_of_mem hm
  exact lv_iinc hx hb hd hl hq (by rw [hv]) (by simp) rfl (fun ls2 hl2 => K H locs ls2 hP hS (z_lvMono hl2 (z_lvSet ad (L := some (.int x) :: r) (i := 0) (v := .int (x + v)) z_prev0)))
theorem z_iload1 (F : z_F X S T cc own nL d) {x : Int32} {a0 : Option Value} {r : List (Option Value)} (hd : decode cc pc = .ok (.iload_n 1, 1)) (K : z_J X S (pc + 1) (a0 :: some (.int x) :: r) (.int x :: st) D) : z_J X S pc (a0 :: some (.int x) :: r) st D := by
  obtain ⟨p, l, e, R, s, m, args, below, meth, co, Q, G, cy, ad⟩ := X
  obtain ⟨hx, hb, hml, hown, hts, hK, hin, ok, hR, hT⟩ := F
  intro H locs ls hP hS hl
  exact lv_iload_n hx hb hd rfl (z_lvAt hl 1 rfl) (K H locs ls hP hS hl)
theorem z_aload1 (F : z_F X S T cc own nL d) {k : Nat} {a0 : Option Value} {r : List (Option Value)} (hd : decode cc pc = .ok (.aload_n 1, 1)) (K : z_J X S (pc + 1) (a0 :: some (.ref k) :: r) (.ref k :: st) D) : z_J X S pc (a0 :: some (.ref k) :: r) st D := by
  obtain ⟨p, l, e, R, s, m, args, below, meth, co, Q, G, cy, ad⟩ := X
  obtain ⟨hx, hb, hml, hown, hts, hK, hin, ok, hR, hT⟩ := F
  intro H locs ls hP hS hl
  exact lv_aload_n hx hb hd rfl (z_lvAt hl 1 rfl) (K H locs ls hP hS hl)
theorem z_istore1 (F : z_F X S T cc own nL d) {x : Int32} {a0 b : Option Value} {r : List (Option Value)} (hd : decode cc pc = .ok (.istore_n 1, 1)) (h2 : z_c1 a0 = true) (K : z_J X S (pc + 1) (a0 :: some (.int x) :: r) st D) : z_J X S pc (a0 :: b :: r) (.int x :: st) D := by
  obtain ⟨p, l, e, R, s, m, args, below, meth, co, Q, G, cy, ad⟩ := X
  obtain ⟨hx, hb, hml, hown, hts, hK, hin, ok, hR, hT⟩ := F
  intro H locs ls hP hS hl
  exact lv_istore_n hx hb hd rfl hl (show 1 < _ by simp only [List.length_cons]; omega) rfl (fun ls2 hl2 => K H locs ls2 hP hS (z_lvMono hl2 (z_lvSet ad (L := a0 :: b :: r) (i := 1) (v := .int x) (z_prev (i := 0) rfl h2))))
theorem z_astore1 (F : z_F X S T cc own nL d) {k : Nat} {a0 b : Option Value} {r : List (Option Value)} (hd : decode cc pc = .ok (.astore_n 1, 1)) (h2 : z_c1 a0 = true) (K : z_J X S (pc + 1) (a0 :: some (.ref k) :: r) st D) : z_J X S pc (a0 :: b :: r) (.ref k :: st) D := by
  obtain ⟨p, l, e, R, s, m, args, below, meth, co, Q, G, cy, ad⟩ := X
  obtain ⟨hx, hb, hml, hown, hts, hK, hin, ok, hR, hT⟩ := F
  intro H locs ls hP hS hl
  exact lv_astore_n hx hb hd rfl hl (show 1 < _ by simp only [List.length_cons]; omega) rfl (fun ls2 hl2 => K H locs ls2 hP hS (z_lvMono hl2 (z_lvSet ad (L := a0 :: b :: r) (i := 1) (v := .ref k) (z_prev (i := 0) rfl h2))))
theorem z_iinc1 (F : z_F X S T cc own nL d) {x : Int32} {n : Int} (v : Int32) {a0 : Option Value} {r : List (Option Value)} (hd : decode cc pc = .ok (.iinc 1 n, 3)) (h2 : z_c1 a0 = true) (hv : Int32.ofInt n = v) (K : z_J X S (pc + 3) (a0 :: some (.int (x + v)) :: r) st D) : z_J X S pc (a0 :: some (.int x) :: r) st D := by
  obtain ⟨p, l, e, R, s, m, args, below, meth, co, Q, G, cy, ad⟩ := X
  obtain ⟨hx, hb, hml, hown, hts, hK, hin, ok, hR, hT⟩ := F
  intro H locs ls hP hS hl
  have hm : (1, Value.int x) ∈ z_lv ad 0 (a0 :: some (.int x) :: r) := by
    have h := z_lv_mem ad (a0 :: some (.int x) :: r) 0 1 (.int x) rfl
    rw [Nat.zero_add] at h
    exact h
  obtain ⟨q, hq⟩ := List.getElem?_of_mem hm
  exact lv_iinc hx hb hd hl hq (by rw [hv]) (by simp) rfl (fun ls2 hl2 => K H locs ls2 hP hS (z_lvMono hl2 (z_lvSet ad (L := a0 :: some (.int x) :: r) (i := 1) (v := .int (x + v)) (z_prev (i := 0) rfl h2))))
theorem z_iload2 (F : z_F X S T cc own nL d) {x : Int32} {a0 a1 : Option Value} {r : List (Option Value)} (hd : decode cc pc = .ok (.iload_n 2, 1)) (K : z_J X S (pc + 1) (a0 :: a1 :: some (.int x) :: r) (.int x :: st) D) : z_J X S pc (a0 :: a1 :: some (.int x) :: r) st D := by
  obtain ⟨p, l, e, R, s, m, args, below, meth, co, Q, G, cy, ad⟩ := X
  obtain ⟨hx, hb, hml, hown, hts, hK, hin, ok, hR, hT⟩ := F
  intro H locs ls hP hS hl
  exact lv_iload_n hx hb hd rfl (z_lvAt hl 2 rfl) (K H locs ls hP hS hl)
theorem z_aload2 (F : z_F X S T cc own nL d) {k : Nat} {a0 a1 : Option Value} {r : List (Option Value)} (hd : decode cc pc = .ok (.aload_n 2, 1)) (K : z_J X S (pc + 1) (a0 :: a1 :: some (.ref k) :: r) (.ref k :: st) D) : z_J X S pc (a0 :: a1 :: some (.ref k) :: r) st D := by
  obtain ⟨p, l, e, R, s, m, args, below, meth, co, Q, G, cy, ad⟩ := X
  obtain ⟨hx, hb, hml, hown, hts, hK, hin, ok, hR, hT⟩ := F
  intro H locs ls hP hS hl
  exact lv_aload_n hx hb hd rfl (z_lvAt hl 2 rfl) (K H locs ls hP hS hl)
theorem z_istore2 (F : z_F X S T cc own nL d) {x : Int32} {a0 a1 b : Option Value} {r : List (Option Value)} (hd : decode cc pc = .ok (.istore_n 2, 1)) (h2 : z_c1 a1 = true) (K : z_J X S (pc + 1) (a0 :: a1 :: some (.int x) :: r) st D) : z_J X S pc (a0 :: a1 :: b :: r) (.int x :: st) D := by
  obtain ⟨p, l, e, R, s, m, args, below, meth, co, Q, G, cy, ad⟩ := X
  obtain ⟨hx, hb, hml, hown, hts, hK, hin, ok, hR, hT⟩ := F
  intro H locs ls hP hS hl
  exact lv_istore_n hx hb hd rfl hl (show 2 < _ by simp only [List.length_cons]; omega) rfl (fun ls2 hl2 => K H locs ls2 hP hS (z_lvMono hl2 (z_lvSet ad (L := a0 :: a1 :: b :: r) (i := 2) (v := .int x) (z_prev (i := 1) rfl h2))))
theorem z_astore2 (F : z_F X S T cc own nL d) {k : Nat} {a0 a1 b : Option Value} {r : List (Option Value)} (hd : decode cc pc = .ok (.astore_n 2, 1)) (h2 : z_c1 a1 = true) (K : z_J X S (pc + 1) (a0 :: a1 :: some (.ref k) :: r) st D) : z_J X S pc (a0 :: a1 :: b :: r) (.ref k :: st) D := by
  obtain ⟨p, l, e, R, s, m, args, below, meth, co, Q, G, cy, ad⟩ := X
  obtain ⟨hx, hb, hml, hown, hts, hK, hin, ok, hR, hT⟩ := F
  intro H locs ls hP hS hl
  exact lv_astore_n hx hb hd rfl hl (show 2 < _ by simp only [List.length_cons]; omega) rfl (fun ls2 hl2 => K H locs ls2 hP hS (z_lvMono hl2 (z_lvSet ad (L := a0 :: a1 :: b :: r) (i := 2) (v := .ref k) (z_prev (i := 1) rfl h2))))
theorem z_iinc2 (F : z_F X S T cc own nL d) {x : Int32} {n : Int} (v : Int32) {a0 a1 : Option Value} {r : List (Option Value)} (hd : decode cc pc = .ok (.iinc 2 n, 3)) (h2 : z_c1 a1 = true) (hv : Int32.ofInt n = v) (K : z_J X S (pc + 3) (a0 :: a1 :: some (.int (x + v)) :: r) st D) : z_J X S pc (a0 :: a1 :: some (.int x) :: r) st D := by
  obtain ⟨p, l, e, R, s, m, args, below, meth, co, Q, G, cy, ad⟩ := X
  obtain ⟨hx, hb, hml, hown, hts, hK, hin, ok, hR, hT⟩ := F
  intro H locs ls hP hS hl
  have hm : (2, Value.int x) ∈ z_lv ad 0 (a0 :: a1 :: some (.int x) :: r) := by
    have h := z_lv_mem ad (a0 :: a1 :: some (.int x) :: r) 0 2 (.int x) rfl
    rw [Nat.zero_add] at h
    exact h
  obtain ⟨q, hq⟩ := List.getElem?_of_mem hm
  exact lv_iinc hx hb hd hl hq (by rw [hv]) (by simp) rfl (fun ls2 hl2 => K H locs ls2 hP hS (z_lvMono hl2 (z_lvSet ad (L := a0 :: a1 :: some (.int x) :: r) (i := 2) (v := .int (x + v)) (z_prev (i := 1) rfl h2))))
theorem z_iload3 (F : z_F X S T cc own nL d) {x : Int32} {a0 a1 a2 : Option Value} {r : List (Option Value)} (hd : decode cc pc = .ok (.iload_n 3, 1)) (K : z_J X S (pc + 1) (a0 :: a1 :: a2 :: some (.int x) :: r) (.int x :: st) D) : z_J X S pc (a0 :: a1 :: a2 :: some (.int x) :: r) st D := by
  obtain ⟨p, l, e, R, s, m, args, below, meth, co, Q, G, cy, ad⟩ := X
  obtain ⟨hx, hb, hml, hown, hts, hK, hin, ok, hR, hT⟩ := F
  intro H locs ls hP hS hl
  exact lv_iload_n hx hb hd rfl (z_lvAt hl 3 rfl) (K H locs ls hP hS hl)
theorem z_aload3 (F : z_F X S T cc own nL d) {k : Nat} {a0 a1 a2 : Option Value} {r : List (Option Value)} (hd : decode cc pc = .ok (.aload_n 3, 1)) (K : z_J X S (pc + 1) (a0 :: a1 :: a2 :: some (.ref k) :: r) (.ref k :: st) D) : z_J X S pc (a0 :: a1 :: a2 :: some (.ref k) :: r) st D := by
  obtain ⟨p, l, e, R, s, m, args, below, meth, co, Q, G, cy, ad⟩ := X
  obtain ⟨hx, hb, hml, hown, hts, hK, hin, ok, hR, hT⟩ := F
  intro H locs ls hP hS hl
  exact lv_aload_n hx hb hd rfl (z_lvAt hl 3 rfl) (K H locs ls hP hS hl)
theorem z_istore3 (F : z_F X S T cc own nL d) {x : Int32} {a0 a1 a2 b : Option Value} {r : List (Option Value)} (hd : decode cc pc = .ok (.istore_n 3, 1)) (h2 : z_c1 a2 = true) (K : z_J X S (pc + 1) (a0 :: a1 :: a2 :: some (.int x) :: r) st D) : z_J X S pc (a0 :: a1 :: a2 :: b :: r) (.int x :: st) D := by
  obtain ⟨p, l, e, R, s, m, args, below, meth, co, Q, G, cy, ad⟩ := X
  obtain ⟨hx, hb, hml, hown, hts, hK, hin, ok, hR, hT⟩ := F
  intro H locs ls hP hS hl
  exact lv_istore_n hx hb hd rfl hl (show 3 < _ by simp only [List.length_cons]; omega) rfl (fun ls2 hl2 => K H locs ls2 hP hS (z_lvMono hl2 (z_lvSet ad (L := a0 :: a1 :: a2 :: b :: r) (i := 3) (v := .int x) (z_prev (i := 2) rfl h2))))
theorem z_astore3 (F : z_F X S T cc own nL d) {k : Nat} {a0 a1 a2 b : Option Value} {r : List (Option Value)} (hd : decode cc pc = .ok (.astore_n 3, 1)) (h2 : z_c1 a2 = true) (K : z_J X S (pc + 1) (a0 :: a1 :: a2 :: some (.ref k) :: r) st D) : z_J X S pc (a0 :: a1 :: a2 :: b :: r) (.ref k :: st) D := by
  obtain ⟨p, l, e, R, s, m, args, below, meth, co, Q, G, cy, ad⟩ := X
  obtain ⟨hx, hb, hml, hown, hts, hK, hin, ok, hR, hT⟩ := F
  intro H locs ls hP hS hl
  exact lv_astore_n hx hb hd rfl hl (show 3 < _ by simp only [List.length_cons]; omega) rfl (fun ls2 hl2 => K H locs ls2 hP hS (z_lvMono hl2 (z_lvSet ad (L := a0 :: a1 :: a2 :: b :: r) (i := 3) (v := .ref k) (z_prev (i := 2) rfl h2))))
theorem z_iinc3 (F : z_F X S T cc own nL d) {x : Int32} {n : Int} (v : Int32) {a0 a1 a2 : Option Value} {r : List (Option Value)} (hd : decode cc pc = .ok (.iinc 3 n, 3)) (h2 : z_c1 a2 = true) (hv : Int32.ofInt n = v) (K : z_J X S (pc + 3) (a0 :: a1 :: a2 :: some (.int (x + v)) :: r) st D) : z_J X S pc (a0 :: a1 :: a2 :: some (.int x) :: r) st D := by
  obtain ⟨p, l, e, R, s, m, args, below, meth, co, Q, G, cy, ad⟩ := X
  obtain ⟨hx, hb, hml, hown, hts, hK, hin, ok, hR, hT⟩ := F
  intro H locs ls hP hS hl
  have hm : (3, Value.int x) ∈ z_lv ad 0 (a0 :: a1 :: a2 :: some (.int x) :: r) := by
    have h := z_lv_mem ad (a0 :: a1 :: a2 :: some (.int x) :: r) 0 3 (.int x) rfl
    rw [Nat.zero_add] at h
    exact h
  obtain ⟨q, hq⟩ := List.getElem?_of_mem hm
  exact lv_iinc hx hb hd hl hq (by rw [hv]) (by simp) rfl (fun ls2 hl2 => K H locs ls2 hP hS (z_lvMono hl2 (z_lvSet ad (L := a0 :: a1 :: a2 :: some (.int x) :: r) (i := 3) (v := .int (x + v)) (z_prev (i := 2) rfl h2))))
theorem z_iload4 (F : z_F X S T cc own nL d) {x : Int32} {a0 a1 a2 a3 : Option Value} {r : List (Option Value)} (hd : decode cc pc = .ok (.iload 4, 2)) (K : z_J X S (pc + 2) (a0 :: a1 :: a2 :: a3 :: some (.int x) :: r) (.int x :: st) D) : z_J X S pc (a0 :: a1 :: a2 :: a3 :: some (.int x) :: r) st D := by
  obtain ⟨p, l, e, R, s, m, args, below, meth, co, Q, G, cy, ad⟩ := X
  obtain ⟨hx, hb, hml, hown, hts, hK, hin, ok, hR, hT⟩ := F
  intro H locs ls hP hS hl
  exact lv_iload hx hb hd (z_lvAt hl 4 rfl) (K H locs ls hP hS hl)
theorem z_aload4 (F : z_F X S T cc own nL d) {k : Nat} {a0 a1 a2 a3 : Option Value} {r : List (Option Value)} (hd : decode cc pc = .ok (.aload 4, 2)) (K : z_J X S (pc + 2) (a0 :: a1 :: a2 :: a3 :: some (.ref k) :: r) (.ref k :: st) D) : z_J X S pc (a0 :: a1 :: a2 :: a3 :: some (.ref k) :: r) st D := by
  obtain ⟨p, l, e, R, s, m, args, below, meth, co, Q, G, cy, ad⟩ := X
  obtain ⟨hx, hb, hml, hown, hts, hK, hin, ok, hR, hT⟩ := F
  intro H locs ls hP hS hl
  exact lv_aload hx hb hd (z_lvAt hl 4 rfl) (K H locs ls hP hS hl)
theorem z_istore4 (F : z_F X S T cc own nL d) {x : Int32} {a0 a1 a2 a3 b : Option Value} {r : List (Option Value)} (hd : decode cc pc = .ok (.istore 4, 2)) (h2 : z_c1 a3 = true) (K : z_J X S (pc + 2) (a0 :: a1 :: a2 :: a3 :: some (.int x) :: r) st D) : z_J X S pc (a0 :: a1 :: a2 :: a3 :: b :: r) (.int x :: st) D := by
  obtain ⟨p, l, e, R, s, m, args, below, meth, co, Q, G, cy, ad⟩ := X
  obtain ⟨hx, hb, hml, hown, hts, hK, hin, ok, hR, hT⟩ := F
  intro H locs ls hP hS hl
  exact lv_istore hx hb hd hl (show 4 < _ by simp only [List.length_cons]; omega) rfl (fun ls2 hl2 => K H locs ls2 hP hS (z_lvMono hl2 (z_lvSet ad (L := a0 :: a1 :: a2 :: a3 :: b :: r) (i := 4) (v := .int x) (z_prev (i := 3) rfl h2))))
theorem z_astore4 (F : z_F X S T cc own nL d) {k : Nat} {a0 a1 a2 a3 b : Option Value} {r : List (Option Value)} (hd : decode cc pc = .ok (.astore 4, 2)) (h2 : z_c1 a3 = true) (K : z_J X S (pc + 2) (a0 :: a1 :: a2 :: a3 :: some (.ref k) :: r) st D) : z_J X S pc (a0 :: a1 :: a2 :: a3 :: b :: r) (.ref k :: st) D := by
  obtain ⟨p, l, e, R, s, m, args, below, meth, co, Q, G, cy, ad⟩ := X
  obtain ⟨hx, hb, hml, hown, hts, hK, hin, ok, hR, hT⟩ := F
  intro H locs ls hP hS hl
  exact lv_astore hx hb hd hl (show 4 < _ by simp only [List.length_cons]; omega) rfl (fun ls2 hl2 => K H locs ls2 hP hS (z_lvMono hl2 (z_lvSet ad (L := a0 :: a1 :: a2 :: a3 :: b :: r) (i := 4) (v := .ref k) (z_prev (i := 3) rfl h2))))
theorem z_iinc4 (F : z_F X S T cc own nL d) {x : Int32} {n : Int} (v : Int32) {a0 a1 a2 a3 : Option Value} {r : List (Option Value)} (hd : decode cc pc = .ok (.iinc 4 n, 3)) (h2 : z_c1 a3 = true) (hv : Int32.ofInt n = v) (K : z_J X S (pc + 3) (a0 :: a1 :: a2 :: a3 :: some (.int (x + v)) :: r) st D) : z_J X S pc (a0 :: a1 :: a2 :: a3 :: some (.int x) :: r) st D := by
  obtain ⟨p, l, e, R, s, m, args, below, meth, co, Q, G, cy, ad⟩ := X
  obtain ⟨hx, hb, hml, hown, hts, hK, hin, ok, hR, hT⟩ := F
  intro H locs ls hP hS hl
  have hm : (4, Value.int x) ∈ z_lv ad 0 (a0 :: a1 :: a2 :: a3 :: some (.int x) :: r) := by
    have h := z_lv_mem ad (a0 :: a1 :: a2 :: a3 :: some (.int x) :: r) 0 4 (.int x) rfl
    rw [Nat.zero_add] at h
    exact h
  obtain ⟨q, hq⟩ := List.getElem?_of_mem hm
  exact lv_iinc hx hb hd hl hq (by rw [hv]) (by simp) rfl (fun ls2 hl2 => K H locs ls2 hP hS (z_lvMono hl2 (z_lvSet ad (L := a0 :: a1 :: a2 :: a3 :: some (.int x) :: r) (i := 4) (v := .int (x + v)) (z_prev (i := 3) rfl h2))))
theorem z_iload5 (F : z_F X S T cc own nL d) {x : Int32} {a0 a1 a2 a3 a4 : Option Value} {r : List (Option Value)} (hd : decode cc pc = .ok (.iload 5, 2)) (K : z_J X S (pc + 2) (a0 :: a1 :: a2 :: a3 :: a4 :: some (.int x) :: r) (.int x :: st) D) : z_J X S pc (a0 :: a1 :: a2 :: a3 :: a4 :: some (.int x) :: r) st D := by
  obtain ⟨p, l, e, R, s, m, args, below, meth, co, Q, G, cy, ad⟩ := X
  obtain ⟨hx, hb, hml, hown, hts, hK, hin, ok, hR, hT⟩ := F
  intro H locs ls hP hS hl
  exact lv_iload hx hb hd (z_lvAt hl 5 rfl) (K H locs ls hP hS hl)
theorem z_aload5 (F : z_F X S T cc own nL d) {k : Nat} {a0 a1 a2 a3 a4 : Option Value} {r : List (Option Value)} (hd : decode cc pc = .ok (.aload 5, 2)) (K : z_J X S (pc + 2) (a0 :: a1 :: a2 :: a3 :: a4 :: some (.ref k) :: r) (.ref k :: st) D) : z_J X S pc (a0 :: a1 :: a2 :: a3 :: a4 :: some (.ref k) :: r) st D := by
  obtain ⟨p, l, e, R, s, m, args, below, meth, co, Q, G, cy, ad⟩ := X
  obtain ⟨hx, hb, hml, hown, hts, hK, hin, ok, hR, hT⟩ := F
  intro H locs ls hP hS hl
  exact lv_aload hx hb hd (z_lvAt hl 5 rfl) (K H locs ls hP hS hl)
theorem z_istore5 (F : z_F X S T cc own nL d) {x : Int32} {a0 a1 a2 a3 a4 b : Option Value} {r : List (Option Value)} (hd : decode cc pc = .ok (.istore 5, 2)) (h2 : z_c1 a4 = true) (K : z_J X S (pc + 2) (a0 :: a1 :: a2 :: a3 :: a4 :: some (.int x) :: r) st D) : z_J X S pc (a0 :: a1 :: a2 :: a3 :: a4 :: b :: r) (.int x :: st) D := by
  obtain ⟨p, l, e, R, s, m, args, below, meth, co, Q, G, cy, ad⟩ := X
  obtain ⟨hx, hb, hml, hown, hts, hK, hin, ok, hR, hT⟩ := F
  intro H locs ls hP hS hl
  exact lv_istore hx hb hd hl (show 5 < _ by simp only [List.length_cons]; omega) rfl (fun ls2 hl2 => K H locs ls2 hP hS (z_lvMono hl2 (z_lvSet ad (L := a0 :: a1 :: a2 :: a3 :: a4 :: b :: r) (i := 5) (v := .int x) (z_prev (i := 4) rfl h2))))
theorem z_astore5 (F : z_F X S T cc own nL d) {k : Nat} {a0 a1 a2 a3 a4 b : Option Value} {r : List (Option Value)} (hd : decode cc pc = .ok (.astore 5, 2)) (h2 : z_c1 a4 = true) (K : z_J X S (pc + 2) (a0 :: a1 :: a2 :: a3 :: a4 :: some (.ref k) :: r) st D) : z_J X S pc (a0 :: a1 :: a2 :: a3 :: a4 :: b :: r) (.ref k :: st) D := by
  obtain ⟨p, l, e, R, s, m, args, below, meth, co, Q, G, cy, ad⟩ := X
  obtain ⟨hx, hb, hml, hown, hts, hK, hin, ok, hR, hT⟩ := F
  intro H locs ls hP hS hl
  exact lv_astore hx hb hd hl (show 5 < _ by simp only [List.length_cons]; omega) rfl (fun ls2 hl2 => K H locs ls2 hP hS (z_lvMono hl2 (z_lvSet ad (L := a0 :: a1 :: a2 :: a3 :: a4 :: b :: r) (i := 5) (v := .ref k) (z_prev (i := 4) rfl h2))))
theorem z_iinc5 (F : z_F X S T cc own nL d) {x : Int32} {n : Int} (v : Int32) {a0 a1 a2 a3 a4 : Option Value} {r : List (Option Value)} (hd : decode cc pc = .ok (.iinc 5 n, 3)) (h2 : z_c1 a4 = true) (hv : Int32.ofInt n = v) (K : z_J X S (pc + 3) (a0 :: a1 :: a2 :: a3 :: a4 :: some (.int (x + v)) :: r) st D) : z_J X S pc (a0 :: a1 :: a2 :: a3 :: a4 :: some (.int x) :: r) st D := by
  obtain ⟨p, l, e, R, s, m, args, below, meth, co, Q, G, cy, ad⟩ := X
  obtain ⟨hx, hb, hml, hown, hts, hK, hin, ok, hR, hT⟩ := F
  intro H locs ls hP hS hl
  have hm : (5, Value.int x) ∈ z_lv ad 0 (a0 :: a1 :: a2 :: a3 :: a4 :: some (.int x) :: r) := by
    have h := z_lv_mem ad (a0 :: a1 :: a2 :: a3 :: a4 :: some (.int x) :: r) 0 5 (.int x) rfl
    rw [Nat.zero_add] at h
    exact h
  obtain ⟨q, hq⟩ := List.getElem?_of_mem hm
  exact lv_iinc hx hb hd hl hq (by rw [hv]) (by simp) rfl (fun ls2 hl2 => K H locs ls2 hP hS (z_lvMono hl2 (z_lvSet ad (L := a0 :: a1 :: a2 :: a3 :: a4 :: some (.int x) :: r) (i := 5) (v := .int (x + v)) (z_prev (i := 4) rfl h2))))
theorem z_iload6 (F : z_F X S T cc own nL d) {x : Int32} {a0 a1 a2 a3 a4 a5 : Option Value} {r : List (Option Value)} (hd : decode cc pc = .ok (.iload 6, 2)) (K : z_J X S (pc + 2) (a0 :: a1 :: a2 :: a3 :: a4 :: a5 :: some (.int x) :: r) (.int x :: st) D) : z_J X S pc (a0 :: a1 :: a2 :: a3 :: a4 :: a5 :: some (.int x) :: r) st D := by
  obtain ⟨p, l, e, R, s, m, args, below, meth, co, Q, G, cy, ad⟩ := X
  obtain ⟨hx, hb, hml, hown, hts, hK, hin, ok, hR, hT⟩ := F
  intro H locs ls hP hS hl
  exact lv_iload hx hb hd (z_lvAt hl 6 rfl) (K H locs ls hP hS hl)
theorem z_aload6 (F : z_F X S T cc own nL d) {k : Nat} {a0 a1 a2 a3 a4 a5 : Option Value} {r : List (Option Value)} (hd : decode cc pc = .ok (.aload 6, 2)) (K : z_J X S (pc + 2) (a0 :: a1 :: a2 :: a3 :: a4 :: a5 :: some (.ref k) :: r) (.ref k :: st) D) : z_J X S pc (a0 :: a1 :: a2 :: a3 :: a4 :: a5 :: some (.ref k) :: r) st D := by
  obtain ⟨p, l, e, R, s, m, args, below, meth, co, Q, G, cy, ad⟩ := X
  obtain ⟨hx, hb, hml, hown, hts, hK, hin, ok, hR, hT⟩ := F
  intro H locs ls hP hS hl
  exact lv_aload hx hb hd (z_lvAt hl 6 rfl) (K H locs ls hP hS hl)
theorem z_istore6 (F : z_F X S T cc own nL d) {x : Int32} {a0 a1 a2 a3 a4 a5 b : Option Value} {r : List (Option Value)} (hd : decode cc pc = .ok (.istore 6, 2)) (h2 : z_c1 a5 = true) (K : z_J X S (pc + 2) (a0 :: a1 :: a2 :: a3 :: a4 :: a5 :: some (.int x) :: r) st D) : z_J X S pc (a0 :: a1 :: a2 :: a3 :: a4 :: a5 :: b :: r) (.int x :: st) D := by
  obtain ⟨p, l, e, R, s, m, args, below, meth, co, Q, G, cy, ad⟩ := X
  obtain ⟨hx, hb, hml, hown, hts, hK, hin, ok, hR, hT⟩ := F
  intro H locs ls hP hS hl
  exact lv_istore hx hb hd hl (show 6 < _ by simp only [List.length_cons]; omega) rfl (fun ls2 hl2 => K H locs ls2 hP hS (z_lvMono hl2 (z_lvSet ad (L := a0 :: a1 :: a2 :: a3 :: a4 :: a5 :: b :: r) (i := 6) (v := .int x) (z_prev (i := 5) rfl h2))))
theorem z_astore6 (F : z_F X S T cc own nL d) {k : Nat} {a0 a1 a2 a3 a4 a5 b : Option Value} {r : List (Option Value)} (hd : decode cc pc = .ok (.astore 6, 2)) (h2 : z_c1 a5 = true) (K : z_J X S (pc + 2) (a0 :: a1 :: a2 :: a3 :: a4 :: a5 :: some (.ref k) :: r) st D) : z_J X S pc (a0 :: a1 :: a2 :: a3 :: a4 :: a5 :: b :: r) (.ref k :: st) D := by
  obtain ⟨p, l, e, R, s, m, args, below, meth, co, Q, G, cy, ad⟩ := X
  obtain ⟨hx, hb, hml, hown, hts, hK, hin, ok, hR, hT⟩ := F
  intro H locs ls hP hS hl
  exact lv_astore hx hb hd hl (show 6 < _ by simp only [List.length_cons]; omega) rfl (fun ls2 hl2 => K H locs ls2 hP hS (z_lvMono hl2 (z_lvSet ad (L := a0 :: a1 :: a2 :: a3 :: a4 :: a5 :: b :: r) (i := 6) (v := .ref k) (z_prev (i := 5) rfl h2))))
theorem z_iinc6 (F : z_F X S T cc own nL d) {x : Int32} {n : Int} (v : Int32) {a0 a1 a2 a3 a4 a5 : Option Value} {r : List (Option Value)} (hd : decode cc pc = .ok (.iinc 6 n, 3)) (h2 : z_c1 a5 = true) (hv : Int32.ofInt n = v) (K : z_J X S (pc + 3) (a0 :: a1 :: a2 :: a3 :: a4 :: a5 :: some (.int (x + v)) :: r) st D) : z_J X S pc (a0 :: a1 :: a2 :: a3 :: a4 :: a5 :: some (.int x) :: r) st D := by
  obtain ⟨p, l, e, R, s, m, args, below, meth, co, Q, G, cy, ad⟩ := X
  obtain ⟨hx, hb, hml, hown, hts, hK, hin, ok, hR, hT⟩ := F
  intro H locs ls hP hS hl
  have hm : (6, Value.int x) ∈ z_lv ad 0 (a0 :: a1 :: a2 :: a3 :: a4 :: a5 :: some (.int x) :: r) := by
    have h := z_lv_mem ad (a0 :: a1 :: a2 :: a3 :: a4 :: a5 :: some (.int x) :: r) 0 6 (.int x) rfl
    rw [Nat.zero_add] at h
    exact h
  obtain ⟨q, hq⟩ := List.getElem?_of_mem hm
  exact lv_iinc hx hb hd hl hq (by rw [hv]) (by simp) rfl (fun ls2 hl2 => K H locs ls2 hP hS (z_lvMono hl2 (z_lvSet ad (L := a0 :: a1 :: a2 :: a3 :: a4 :: a5 :: some (.int x) :: r) (i := 6) (v := .int (x + v)) (z_prev (i := 5) rfl h2))))
theorem z_iload7 (F : z_F X S T cc own nL d) {x : Int32} {a0 a1 a2 a3 a4 a5 a6 : Option Value} {r : List (Option Value)} (hd : decode cc pc = .ok (.iload 7, 2)) (K : z_J X S (pc + 2) (a0 :: a1 :: a2 :: a3 :: a4 :: a5 :: a6 :: some (.int x) :: r) (.int x :: st) D) : z_J X S pc (a0 :: a1 :: a2 :: a3 :: a4 :: a5 :: a6 :: some (.int x) :: r) st D := by
  obtain ⟨p, l, e, R, s, m, args, below, meth, co, Q, G, cy, ad⟩ := X
  obtain ⟨hx, hb, hml, hown, hts, hK, hin, ok, hR, hT⟩ := F
  intro H locs ls hP hS hl
  exact lv_iload hx hb hd (z_lvAt hl 7 rfl) (K H locs ls hP hS hl)
theorem z_aload7 (F : z_F X S T cc own nL d) {k : Nat} {a0 a1 a2 a3 a4 a5 a6 : Option Value} {r : List (Option Value)} (hd : decode cc pc = .ok (.aload 7, 2)) (K : z_J X S (pc + 2) (a0 :: a1 :: a2 :: a3 :: a4 :: a5 :: a6 :: some (.ref k) :: r) (.ref k :: st) D) : z_J X S pc (a0 :: a1 :: a2 :: a3 :: a4 :: a5 :: a6 :: some (.ref k) :: r) st D := by
  obtain ⟨p, l, e, R, s, m, args, below, meth, co, Q, G, cy, ad⟩ := X
  obtain ⟨hx, hb, hml, hown, hts, hK, hin, ok, hR, hT⟩ := F
  intro H locs ls hP hS hl
  exact lv_aload hx hb hd (z_lvAt hl 7 rfl) (K H locs ls hP hS hl)
theorem z_istore7 (F : z_F X S T cc own nL d) {x : Int32} {a0 a1 a2 a3 a4 a5 a6 b : Option Value} {r : List (Option Value)} (hd : decode cc pc = .ok (.istore 7, 2)) (h2 : z_c1 a6 = true) (K : z_J X S (pc + 2) (a0 :: a1 :: a2 :: a3 :: a4 :: a5 :: a6 :: some (.int x) :: r) st D) : z_J X S pc (a0 :: a1 :: a2 :: a3 :: a4 :: a5 :: a6 :: b :: r) (.int x :: st) D := by
  obtain ⟨p, l, e, R, s, m, args, below, meth, co, Q, G, cy, ad⟩ := X
  obtain ⟨hx, hb, hml, hown, hts, hK, hin, ok, hR, hT⟩ := F
  intro H locs ls hP hS hl
  exact lv_istore hx hb hd hl (show 7 < _ by simp only [List.length_cons]; omega) rfl (fun ls2 hl2 => K H locs ls2 hP hS (z_lvMono hl2 (z_lvSet ad (L := a0 :: a1 :: a2 :: a3 :: a4 :: a5 :: a6 :: b :: r) (i := 7) (v := .int x) (z_prev (i := 6) rfl h2))))
theorem z_astore7 (F : z_F X S T cc own nL d) {k : Nat} {a0 a1 a2 a3 a4 a5 a6 b : Option Value} {r : List (Option Value)} (hd : decode cc pc = .ok (.astore 7, 2)) (h2 : z_c1 a6 = true) (K : z_J X S (pc + 2) (a0 :: a1 :: a2 :: a3 :: a4 :: a5 :: a6 :: some (.ref k) :: r) st D) : z_J X S pc (a0 :: a1 :: a2 :: a3 :: a4 :: a5 :: a6 :: b :: r) (.ref k :: st) D := by
  obtain ⟨p, l, e, R, s, m, args, below, meth, co, Q, G, cy, ad⟩ := X
  obtain ⟨hx, hb, hml, hown, hts, hK, hin, ok, hR, hT⟩ := F
  intro H locs ls hP hS hl
  exact lv_astore hx hb hd hl (show 7 < _ by simp only [List.length_cons]; omega) rfl (fun ls2 hl2 => K H locs ls2 hP hS (z_lvMono hl2 (z_lvSet ad (L := a0 :: a1 :: a2 :: a3 :: a4 :: a5 :: a6 :: b :: r) (i := 7) (v := .ref k) (z_prev (i := 6) rfl h2))))
theorem z_iinc7 (F : z_F X S T cc own nL d) {x : Int32} {n : Int} (v : Int32) {a0 a1 a2 a3 a4 a5 a6 : Option Value} {r : List (Option Value)} (hd : decode cc pc = .ok (.iinc 7 n, 3)) (h2 : z_c1 a6 = true) (hv : Int32.ofInt n = v) (K : z_J X S (pc + 3) (a0 :: a1 :: a2 :: a3 :: a4 :: a5 :: a6 :: some (.int (x + v)) :: r) st D) : z_J X S pc (a0 :: a1 :: a2 :: a3 :: a4 :: a5 :: a6 :: some (.int x) :: r) st D := by
  obtain ⟨p, l, e, R, s, m, args, below, meth, co, Q, G, cy, ad⟩ := X
  obtain ⟨hx, hb, hml, hown, hts, hK, hin, ok, hR, hT⟩ := F
  intro H locs ls hP hS hl
  have hm : (7, Value.int x) ∈ z_lv ad 0 (a0 :: a1 :: a2 :: a3 :: a4 :: a5 :: a6 :: some (.int x) :: r) := by
    have h := z_lv_mem ad (a0 :: a1 :: a2 :: a3 :: a4 :: a5 :: a6 :: some (.int x) :: r) 0 7 (.int x) rfl
    rw [Nat.zero_add] at h
    exact h
  obtain ⟨q, hq⟩ := List.getElem?_of_mem hm
  exact lv_iinc hx hb hd hl hq (by rw [hv]) (by simp) rfl (fun ls2 hl2 => K H locs ls2 hP hS (z_lvMono hl2 (z_lvSet ad (L := a0 :: a1 :: a2 :: a3 :: a4 :: a5 :: a6 :: some (.int x) :: r) (i := 7) (v := .int (x + v)) (z_prev (i := 6) rfl h2))))
theorem z_iload8 (F : z_F X S T cc own nL d) {x : Int32} {a0 a1 a2 a3 a4 a5 a6 a7 : Option Value} {r : List (Option Value)} (hd : decode cc pc = .ok (.iload 8, 2)) (K : z_J X S (pc + 2) (a0 :: a1 :: a2 :: a3 :: a4 :: a5 :: a6 :: a7 :: some (.int x) :: r) (.int x :: st) D) : z_J X S pc (a0 :: a1 :: a2 :: a3 :: a4 :: a5 :: a6 :: a7 :: some (.int x) :: r) st D := by
  obtain ⟨p, l, e, R, s, m, args, below, meth, co, Q, G, cy, ad⟩ := X
  obtain ⟨hx, hb, hml, hown, hts, hK, hin, ok, hR, hT⟩ := F
  intro H locs ls hP hS hl
  exact lv_iload hx hb hd (z_lvAt hl 8 rfl) (K H locs ls hP hS hl)
theorem z_aload8 (F : z_F X S T cc own nL d) {k : Nat} {a0 a1 a2 a3 a4 a5 a6 a7 : Option Value} {r : List (Option Value)} (hd : decode cc pc = .ok (.aload 8, 2)) (K : z_J X S (pc + 2) (a0 :: a1 :: a2 :: a3 :: a4 :: a5 :: a6 :: a7 :: some (.ref k) :: r) (.ref k :: st) D) : z_J X S pc (a0 :: a1 :: a2 :: a3 :: a4 :: a5 :: a6 :: a7 :: some (.ref k) :: r) st D := by
  obtain ⟨p, l, e, R, s, m, args, below, meth, co, Q, G, cy, ad⟩ := X
  obtain ⟨hx, hb, hml, hown, hts, hK, hin, ok, hR, hT⟩ := F
  intro H locs ls hP hS hl
  exact lv_aload hx hb hd (z_lvAt hl 8 rfl) (K H locs ls hP hS hl)
theorem z_istore8 (F : z_F X S T cc own nL d) {x : Int32} {a0 a1 a2 a3 a4 a5 a6 a7 b : Option Value} {r : List (Option Value)} (hd : decode cc pc = .ok (.istore 8, 2)) (h2 : z_c1 a7 = true) (K : z_J X S (pc + 2) (a0 :: a1 :: a2 :: a3 :: a4 :: a5 :: a6 :: a7 :: some (.int x) :: r) st D) : z_J X S pc (a0 :: a1 :: a2 :: a3 :: a4 :: a5 :: a6 :: a7 :: b :: r) (.int x :: st) D := by
  obtain ⟨p, l, e, R, s, m, args, below, meth, co, Q, G, cy, ad⟩ := X
  obtain ⟨hx, hb, hml, hown, hts, hK, hin, ok, hR, hT⟩ := F
  intro H locs ls hP hS hl
  exact lv_istore hx hb hd hl (show 8 < _ by simp only [List.length_cons]; omega) rfl (fun ls2 hl2 => K H locs ls2 hP hS (z_lvMono hl2 (z_lvSet ad (L := a0 :: a1 :: a2 :: a3 :: a4 :: a5 :: a6 :: a7 :: b :: r) (i := 8) (v := .int x) (z_prev (i := 7) rfl h2))))
theorem z_astore8 (F : z_F X S T cc own nL d) {k : Nat} {a0 a1 a2 a3 a4 a5 a6 a7 b : Option Value} {r : List (Option Value)} (hd : decode cc pc = .ok (.astore 8, 2)) (h2 : z_c1 a7 = true) (K : z_J X S (pc + 2) (a0 :: a1 :: a2 :: a3 :: a4 :: a5 :: a6 :: a7 :: some (.ref k) :: r) st D) : z_J X S pc (a0 :: a1 :: a2 :: a3 :: a4 :: a5 :: a6 :: a7 :: b :: r) (.ref k :: st) D := by
  obtain ⟨p, l, e, R, s, m, args, below, meth, co, Q, G, cy, ad⟩ := X
  obtain ⟨hx, hb, hml, hown, hts, hK, hin, ok, hR, hT⟩ := F
  intro H locs ls hP hS hl
  exact lv_astore hx hb hd hl (show 8 < _ by simp only [List.length_cons]; omega) rfl (fun ls2 hl2 => K H locs ls2 hP hS (z_lvMono hl2 (z_lvSet ad (L := a0 :: a1 :: a2 :: a3 :: a4 :: a5 :: a6 :: a7 :: b :: r) (i := 8) (v := .ref k) (z_prev (i := 7) rfl h2))))
theorem z_iinc8 (F : z_F X S T cc own nL d) {x : Int32} {n : Int} (v : Int32) {a0 a1 a2 a3 a4 a5 a6 a7 : Option Value} {r : List (Option Value)} (hd : decode cc pc = .ok (.iinc 8 n, 3)) (h2 : z_c1 a7 = true) (hv : Int32.ofInt n = v) (K : z_J X S (pc + 3) (a0 :: a1 :: a2 :: a3 :: a4 :: a5 :: a6 :: a7 :: some (.int (x + v)) :: r) st D) : z_J X S pc (a0 :: a1 :: a2 :: a3 :: a4 :: a5 :: a6 :: a7 :: some (.int x) :: r) st D := by
  obtain ⟨p, l, e, R, s, m, args, below, meth, co, Q, G, cy, ad⟩ := X
  obtain ⟨hx, hb, hml, hown, hts, hK, hin, ok, hR, hT⟩ := F
  intro H locs ls hP hS hl
  have hm : (8, Value.int x) ∈ z_lv ad 0 (a0 :: a1 :: a2 :: a3 :: a4 :: a5 :: a6 :: a7 :: some (.int x) :: r) := by
    have h := z_lv_mem ad (a0 :: a1 :: a2 :: a3 :: a4 :: a5 :: a6 :: a7 :: some (.int x) :: r) 0 8 (.int x) rfl
    rw [Nat.zero_add] at h
    exact h
  obtain ⟨q, hq⟩ := List.getElem?_of_mem hm
  exact lv_iinc hx hb hd hl hq (by rw [hv]) (by simp) rfl (fun ls2 hl2 => K H locs ls2 hP hS (z_lvMono hl2 (z_lvSet ad (L := a0 :: a1 :: a2 :: a3 :: a4 :: a5 :: a6 :: a7 :: some (.int x) :: r) (i := 8) (v := .int (x + v)) (z_prev (i := 7) rfl h2))))
theorem z_iload9 (F : z_F X S T cc own nL d) {x : Int32} {a0 a1 a2 a3 a4 a5 a6 a7 a8 : Option Value} {r : List (Option Value)} (hd : decode cc pc = .ok (.iload 9, 2)) (K : z_J X S (pc + 2) (a0 :: a1 :: a2 :: a3 :: a4 :: a5 :: a6 :: a7 :: a8 :: some (.int x) :: r) (.int x :: st) D) : z_J X S pc (a0 :: a1 :: a2 :: a3 :: a4 :: a5 :: a6 :: a7 :: a8 :: some (.int x) :: r) st D := by
  obtain ⟨p, l, e, R, s, m, args, below, meth, co, Q, G, cy, ad⟩ := X
  obtain ⟨hx, hb, hml, hown, hts, hK, hin, ok, hR, hT⟩ := F
  intro H locs ls hP hS hl
  exact lv_iload hx hb hd (z_lvAt hl 9 rfl) (K H locs ls hP hS hl)
theorem z_aload9 (F : z_F X S T cc own nL d) {k : Nat} {a0 a1 a2 a3 a4 a5 a6 a7 a8 : Option Value} {r : List (Option Value)} (hd : decode cc pc = .ok (.aload 9, 2)) (K : z_J X S (pc + 2) (a0 :: a1 :: a2 :: a3 :: a4 :: a5 :: a6 :: a7 :: a8 :: some (.ref k) :: r) (.ref k :: st) D) : z_J X S pc (a0 :: a1 :: a2 :: a3 :: a4 :: a5 :: a6 :: a7 :: a8 :: some (.ref k) :: r) st D := by
  obtain ⟨p, l, e, R, s, m, args, below, meth, co, Q, G, cy, ad⟩ := X
  obtain ⟨hx, hb, hml, hown, hts, hK, hin, ok, hR, hT⟩ := F
  intro H locs ls hP hS hl
  exact lv_aload hx hb hd (z_lvAt hl 9 rfl) (K H locs ls hP hS hl)
theorem z_istore9 (F : z_F X S T cc own nL d) {x : Int32} {a0 a1 a2 a3 a4 a5 a6 a7 a8 b : Option Value} {r : List (Option Value)} (hd : decode cc pc = .ok (.istore 9, 2)) (h2 : z_c1 a8 = true) (K : z_J X S (pc + 2) (a0 :: a1 :: a2 :: a3 :: a4 :: a5 :: a6 :: a7 :: a8 :: some (.int x) :: r) st D) : z_J X S pc (a0 :: a1 :: a2 :: a3 :: a4 :: a5 :: a6 :: a7 :: a8 :: b :: r) (.int x :: st) D := by
  obtain ⟨p, l, e, R, s, m, args, below, meth, co, Q, G, cy, ad⟩ := X
  obtain ⟨hx, hb, hml, hown, hts, hK, hin, ok, hR, hT⟩ := F
  intro H locs ls hP hS hl
  exact lv_istore hx hb hd hl (show 9 < _ by simp only [List.length_cons]; omega) rfl (fun ls2 hl2 => K H locs ls2 hP hS (z_lvMono hl2 (z_lvSet ad (L := a0 :: a1 :: a2 :: a3 :: a4 :: a5 :: a6 :: a7 :: a8 :: b :: r) (i := 9) (v := .int x) (z_prev (i := 8) rfl h2))))
theorem z_astore9 (F : z_F X S T cc own nL d) {k : Nat} {a0 a1 a2 a3 a4 a5 a6 a7 a8 b : Option Value} {r : List (Option Value)} (hd : decode cc pc = .ok (.astore 9, 2)) (h2 : z_c1 a8 = true) (K : z_J X S (pc + 2) (a0 :: a1 :: a2 :: a3 :: a4 :: a5 :: a6 :: a7 :: a8 :: some (.ref k) :: r) st D) : z_J X S pc (a0 :: a1 :: a2 :: a3 :: a4 :: a5 :: a6 :: a7 :: a8 :: b :: r) (.ref k :: st) D := by
  obtain ⟨p, l, e, R, s, m, args, below, meth, co, Q, G, cy, ad⟩ := X
  obtain ⟨hx, hb, hml, hown, hts, hK, hin, ok, hR, hT⟩ := F
  intro H locs ls hP hS hl
  exact lv_astore hx hb hd hl (show 9 < _ by simp only [List.length_cons]; omega) rfl (fun ls2 hl2 => K H locs ls2 hP hS (z_lvMono hl2 (z_lvSet ad (L := a0 :: a1 :: a2 :: a3 :: a4 :: a5 :: a6 :: a7 :: a8 :: b :: r) (i := 9) (v := .ref k) (z_prev (i := 8) rfl h2))))
theorem z_iinc9 (F : z_F X S T cc own nL d) {x : Int32} {n : Int} (v : Int32) {a0 a1 a2 a3 a4 a5 a6 a7 a8 : Option Value} {r : List (Option Value)} (hd : decode cc pc = .ok (.iinc 9 n, 3)) (h2 : z_c1 a8 = true) (hv : Int32.ofInt n = v) (K : z_J X S (pc + 3) (a0 :: a1 :: a2 :: a3 :: a4 :: a5 :: a6 :: a7 :: a8 :: some (.int (x + v)) :: r) st D) : z_J X S pc (a0 :: a1 :: a2 :: a3 :: a4 :: a5 :: a6 :: a7 :: a8 :: some (.int x) :: r) st D := by
  obtain ⟨p, l, e, R, s, m, args, below, meth, co, Q, G, cy, ad⟩ := X
  obtain ⟨hx, hb, hml, hown, hts, hK, hin, ok, hR, hT⟩ := F
  intro H locs ls hP hS hl
  have hm : (9, Value.int x) ∈ z_lv ad 0 (a0 :: a1 :: a2 :: a3 :: a4 :: a5 :: a6 :: a7 :: a8 :: some (.int x) :: r) := by
    have h := z_lv_mem ad (a0 :: a1 :: a2 :: a3 :: a4 :: a5 :: a6 :: a7 :: a8 :: some (.int x) :: r) 0 9 (.int x) rfl
    rw [Nat.zero_add] at h
    exact h
  obtain ⟨q, hq⟩ := List.getElem?_of_mem hm
  exact lv_iinc hx hb hd hl hq (by rw [hv]) (by simp) rfl (fun ls2 hl2 => K H locs ls2 hP hS (z_lvMono hl2 (z_lvSet ad (L := a0 :: a1 :: a2 :: a3 :: a4 :: a5 :: a6 :: a7 :: a8 :: some (.int x) :: r) (i := 9) (v := .int (x + v)) (z_prev (i := 8) rfl h2))))
theorem z_iload10 (F : z_F X S T cc own nL d) {x : Int32} {a0 a1 a2 a3 a4 a5 a6 a7 a8 a9 : Option Value} {r : List (Option Value)} (hd : decode cc pc = .ok (.iload 10, 2)) (K : z_J X S (pc + 2) (a0 :: a1 :: a2 :: a3 :: a4 :: a5 :: a6 :: a7 :: a8 :: a9 :: some (.int x) :: r) (.int x :: st) D) : z_J X S pc (a0 :: a1 :: a2 :: a3 :: a4 :: a5 :: a6 :: a7 :: a8 :: a9 :: some (.int x) :: r) st D := by
  obtain ⟨p, l, e, R, s, m, args, below, meth, co, Q, G, cy, ad⟩ := X
  obtain ⟨hx, hb, hml, hown, hts, hK, hin, ok, hR, hT⟩ := F
  intro H locs ls hP hS hl
  exact lv_iload hx hb hd (z_lvAt hl 10 rfl) (K H locs ls hP hS hl)
theorem z_aload10 (F : z_F X S T cc own nL d) {k : Nat} {a0 a1 a2 a3 a4 a5 a6 a7 a8 a9 : Option Value} {r : List (Option Value)} (hd : decode cc pc = .ok (.aload 10, 2)) (K : z_J X S (pc + 2) (a0 :: a1 :: a2 :: a3 :: a4 :: a5 :: a6 :: a7 :: a8 :: a9 :: some (.ref k) :: r) (.ref k :: st) D) : z_J X S pc (a0 :: a1 :: a2 :: a3 :: a4 :: a5 :: a6 :: a7 :: a8 :: a9 :: some (.ref k) :: r) st D := by
  obtain ⟨p, l, e, R, s, m, args, below, meth, co, Q, G, cy, ad⟩ := X
  obtain ⟨hx, hb, hml, hown, hts, hK, hin, ok, hR, hT⟩ := F
  intro H locs ls hP hS hl
  exact lv_aload hx hb hd (z_lvAt hl 10 rfl) (K H locs ls hP hS hl)
theorem z_istore10 (F : z_F X S T cc own nL d) {x : Int32} {a0 a1 a2 a3 a4 a5 a6 a7 a8 a9 b : Option Value} {r : List (Option Value)} (hd : decode cc pc = .ok (.istore 10, 2)) (h2 : z_c1 a9 = true) (K : z_J X S (pc + 2) (a0 :: a1 :: a2 :: a3 :: a4 :: a5 :: a6 :: a7 :: a8 :: a9 :: some (.int x) :: r) st D) : z_J X S pc (a0 :: a1 :: a2 :: a3 :: a4 :: a5 :: a6 :: a7 :: a8 :: a9 :: b :: r) (.int x :: st) D := by
  obtain ⟨p, l, e, R, s, m, args, below, meth, co, Q, G, cy, ad⟩ := X
  obtain ⟨hx, hb, hml, hown, hts, hK, hin, ok, hR, hT⟩ := F
  intro H locs ls hP hS hl
  exact lv_istore hx hb hd hl (show 10 < _ by simp only [List.length_cons]; omega) rfl (fun ls2 hl2 => K H locs ls2 hP hS (z_lvMono hl2 (z_lvSet ad (L := a0 :: a1 :: a2 :: a3 :: a4 :: a5 :: a6 :: a7 :: a8 :: a9 :: b :: r) (i := 10) (v := .int x) (z_prev (i := 9) rfl h2))))
theorem z_astore10 (F : z_F X S T cc own nL d) {k : Nat} {a0 a1 a2 a3 a4 a5 a6 a7 a8 a9 b : Option Value} {r : List (Option Value)} (hd : decode cc pc = .ok (.astore 10, 2)) (h2 : z_c1 a9 = true) (K : z_J X S (pc + 2) (a0 :: a1 :: a2 :: a3 :: a4 :: a5 :: a6 :: a7 :: a8 :: a9 :: some (.ref k) :: r) st D) : z_J X S pc (a0 :: a1 :: a2 :: a3 :: a4 :: a5 :: a6 :: a7 :: a8 :: a9 :: b :: r) (.ref k :: st) D := by
  obtain ⟨p, l, e, R, s, m, args, below, meth, co, Q, G, cy, ad⟩ := X
  obtain ⟨hx, hb, hml, hown, hts, hK, hin, ok, hR, hT⟩ := F
  intro H locs ls hP hS hl
  exact lv_astore hx hb hd hl (show 10 < _ by simp only [List.length_cons]; omega) rfl (fun ls2 hl2 => K H locs ls2 hP hS (z_lvMono hl2 (z_lvSet ad (L := a0 :: a1 :: a2 :: a3 :: a4 :: a5 :: a6 :: a7 :: a8 :: a9 :: b :: r) (i := 10) (v := .ref k) (z_prev (i := 9) rfl h2))))
theorem z_iinc10 (F : z_F X S T cc own nL d) {x : Int32} {n : Int} (v : Int32) {a0 a1 a2 a3 a4 a5 a6 a7 a8 a9 : Option Value} {r : List (Option Value)} (hd : decode cc pc = .ok (.iinc 10 n, 3)) (h2 : z_c1 a9 = true) (hv : Int32.ofInt n = v) (K : z_J X S (pc + 3) (a0 :: a1 :: a2 :: a3 :: a4 :: a5 :: a6 :: a7 :: a8 :: a9 :: some (.int (x + v)) :: r) st D) : z_J X S pc (a0 :: a1 :: a2 :: a3 :: a4 :: a5 :: a6 :: a7 :: a8 :: a9 :: some (.int x) :: r) st D := by
  obtain ⟨p, l, e, R, s, m, args, below, meth, co, Q, G, cy, ad⟩ := X
  obtain ⟨hx, hb, hml, hown, hts, hK, hin, ok, hR, hT⟩ := F
  intro H locs ls hP hS hl
  have hm : (10, Value.int x) ∈ z_lv ad 0 (a0 :: a1 :: a2 :: a3 :: a4 :: a5 :: a6 :: a7 :: a8 :: a9 :: some (.int x) :: r) := by
    have h := z_lv_mem ad (a0 :: a1 :: a2 :: a3 :: a4 :: a5 :: a6 :: a7 :: a8 :: a9 :: some (.int x) :: r) 0 10 (.int x) rfl
    rw [Nat.zero_add] at h
    exact h
  obtain ⟨q, hq⟩ := List.getElem?_of_mem hm
  exact lv_iinc hx hb hd hl hq (by rw [hv]) (by simp) rfl (fun ls2 hl2 => K H locs ls2 hP hS (z_lvMono hl2 (z_lvSet ad (L := a0 :: a1 :: a2 :: a3 :: a4 :: a5 :: a6 :: a7 :: a8 :: a9 :: some (.int x) :: r) (i := 10) (v := .int (x + v)) (z_prev (i := 9) rfl h2))))
theorem z_iload11 (F : z_F X S T cc own nL d) {x : Int32} {a0 a1 a2 a3 a4 a5 a6 a7 a8 a9 a10 : Option Value} {r : List (Option Value)} (hd : decode cc pc = .ok (.iload 11, 2)) (K : z_J X S (pc + 2) (a0 :: a1 :: a2 :: a3 :: a4 :: a5 :: a6 :: a7 :: a8 :: a9 :: a10 :: some (.int x) :: r) (.int x :: st) D) : z_J X S pc (a0 :: a1 :: a2 :: a3 :: a4 :: a5 :: a6 :: a7 :: a8 :: a9 :: a10 :: some (.int x) :: r) st D := by
  obtain ⟨p, l, e, R, s, m, args, below, meth, co, Q, G, cy, ad⟩ := X
  obtain ⟨hx, hb, hml, hown, hts, hK, hin, ok, hR, hT⟩ := F
  intro H locs ls hP hS hl
  exact lv_iload hx hb hd (z_lvAt hl 11 rfl) (K H locs ls hP hS hl)
theorem z_aload11 (F : z_F X S T cc own nL d) {k : Nat} {a0 a1 a2 a3 a4 a5 a6 a7 a8 a9 a10 : Option Value} {r : List (Option Value)} (hd : decode cc pc = .ok (.aload 11, 2)) (K : z_J X S (pc + 2) (a0 :: a1 :: a2 :: a3 :: a4 :: a5 :: a6 :: a7 :: a8 :: a9 :: a10 :: some (.ref k) :: r) (.ref k :: st) D) : z_J X S pc (a0 :: a1 :: a2 :: a3 :: a4 :: a5 :: a6 :: a7 :: a8 :: a9 :: a10 :: some (.ref k) :: r) st D := by
  obtain ⟨p, l, e, R, s, m, args, below, meth, co, Q, G, cy, ad⟩ := X
  obtain ⟨hx, hb, hml, hown, hts, hK, hin, ok, hR, hT⟩ := F
  intro H locs ls hP hS hl
  exact lv_aload hx hb hd (z_lvAt hl 11 rfl) (K H locs ls hP hS hl)
theorem z_istore11 (F : z_F X S T cc own nL d) {x : Int32} {a0 a1 a2 a3 a4 a5 a6 a7 a8 a9 a10 b : Option Value} {r : List (Option Value)} (hd : decode cc pc = .ok (.istore 11, 2)) (h2 : z_c1 a10 = true) (K : z_J X S (pc + 2) (a0 :: a1 :: a2 :: a3 :: a4 :: a5 :: a6 :: a7 :: a8 :: a9 :: a10 :: some (.int x) :: r) st D) : z_J X S pc (a0 :: a1 :: a2 :: a3 :: a4 :: a5 :: a6 :: a7 :: a8 :: a9 :: a10 :: b :: r) (.int x :: st) D := by
  obtain ⟨p, l, e, R, s, m, args, below, meth, co, Q, G, cy, ad⟩ := X
  obtain ⟨hx, hb, hml, hown, hts, hK, hin, ok, hR, hT⟩ := F
  intro H locs ls hP hS hl
  exact lv_istore hx hb hd hl (show 11 < _ by simp only [List.length_cons]; omega) rfl (fun ls2 hl2 => K H locs ls2 hP hS (z_lvMono hl2 (z_lvSet ad (L := a0 :: a1 :: a2 :: a3 :: a4 :: a5 :: a6 :: a7 :: a8 :: a9 :: a10 :: b :: r) (i := 11) (v := .int x) (z_prev (i := 10) rfl h2))))
theorem z_astore11 (F : z_F X S T cc own nL d) {k : Nat} {a0 a1 a2 a3 a4 a5 a6 a7 a8 a9 a10 b : Option Value} {r : List (Option Value)} (hd : decode cc pc = .ok (.astore 11, 2)) (h2 : z_c1 a10 = true) (K : z_J X S (pc + 2) (a0 :: a1 :: a2 :: a3 :: a4 :: a5 :: a6 :: a7 :: a8 :: a9 :: a10 :: some (.ref k) :: r) st D) : z_J X S pc (a0 :: a1 :: a2 :: a3 :: a4 :: a5 :: a6 :: a7 :: a8 :: a9 :: a10 :: b :: r) (.ref k :: st) D := by
  obtain ⟨p, l, e, R, s, m, args, below, meth, co, Q, G, cy, ad⟩ := X
  obtain ⟨hx, hb, hml, hown, hts, hK, hin, ok, hR, hT⟩ := F
  intro H locs ls hP hS hl
  exact lv_astore hx hb hd hl (show 11 < _ by simp only [List.length_cons]; omega) rfl (fun ls2 hl2 => K H locs ls2 hP hS (z_lvMono hl2 (z_lvSet ad (L := a0 :: a1 :: a2 :: a3 :: a4 :: a5 :: a6 :: a7 :: a8 :: a9 :: a10 :: b :: r) (i := 11) (v := .ref k) (z_prev (i := 10) rfl h2))))
theorem z_iinc11 (F : z_F X S T cc own nL d) {x : Int32} {n : Int} (v : Int32) {a0 a1 a2 a3 a4 a5 a6 a7 a8 a9 a10 : Option Value} {r : List (Option Value)} (hd : decode cc pc = .ok (.iinc 11 n, 3)) (h2 : z_c1 a10 = true) (hv : Int32.ofInt n = v) (K : z_J X S (pc + 3) (a0 :: a1 :: a2 :: a3 :: a4 :: a5 :: a6 :: a7 :: a8 :: a9 :: a10 :: some (.int (x + v)) :: r) st D) : z_J X S pc (a0 :: a1 :: a2 :: a3 :: a4 :: a5 :: a6 :: a7 :: a8 :: a9 :: a10 :: some (.int x) :: r) st D := by
  obtain ⟨p, l, e, R, s, m, args, below, meth, co, Q, G, cy, ad⟩ := X
  obtain ⟨hx, hb, hml, hown, hts, hK, hin, ok, hR, hT⟩ := F
  intro H locs ls hP hS hl
  have hm : (11, Value.int x) ∈ z_lv ad 0 (a0 :: a1 :: a2 :: a3 :: a4 :: a5 :: a6 :: a7 :: a8 :: a9 :: a10 :: some (.int x) :: r) := by
    have h := z_lv_mem ad (a0 :: a1 :: a2 :: a3 :: a4 :: a5 :: a6 :: a7 :: a8 :: a9 :: a10 :: some (.int x) :: r) 0 11 (.int x) rfl
    rw [Nat.zero_add] at h
    exact h
  obtain ⟨q, hq⟩ := List.getElem?_of_mem hm
  exact lv_iinc hx hb hd hl hq (by rw [hv]) (by simp) rfl (fun ls2 hl2 => K H locs ls2 hP hS (z_lvMono hl2 (z_lvSet ad (L := a0 :: a1 :: a2 :: a3 :: a4 :: a5 :: a6 :: a7 :: a8 :: a9 :: a10 :: some (.int x) :: r) (i := 11) (v := .int (x + v)) (z_prev (i := 10) rfl h2))))
theorem z_lload5 (F : z_F X S T cc own nL d) {x : Int64} {a0 a1 a2 a3 a4 : Option Value} {r : List (Option Value)} (hd : decode cc pc = .ok (.lload 5, 2)) (K : z_J X S (pc + 2) (a0 :: a1 :: a2 :: a3 :: a4 :: some (.long x) :: r) (.long x :: st) D) : z_J X S pc (a0 :: a1 :: a2 :: a3 :: a4 :: some (.long x) :: r) st D := by
  obtain ⟨p, l, e, R, s, m, args, below, meth, co, Q, G, cy, ad⟩ := X
  obtain ⟨hx, hb, hml, hown, hts, hK, hin, ok, hR, hT⟩ := F
  intro H locs ls hP hS hl
  exact lv_lload hx hb hd (z_lvAt hl 5 rfl) (K H locs ls hP hS hl)
theorem z_lstore5 (F : z_F X S T cc own nL d) {x : Int64} {a0 a1 a2 a3 a4 b c0 : Option Value} {r : List (Option Value)} (hd : decode cc pc = .ok (.lstore 5, 2)) (h2 : z_c1 a4 = true) (K : z_J X S (pc + 2) (a0 :: a1 :: a2 :: a3 :: a4 :: some (.long x) :: none :: r) st D) : z_J X S pc (a0 :: a1 :: a2 :: a3 :: a4 :: b :: c0 :: r) (.long x :: st) D := by
  obtain ⟨p, l, e, R, s, m, args, below, meth, co, Q, G, cy, ad⟩ := X
  obtain ⟨hx, hb, hml, hown, hts, hK, hin, ok, hR, hT⟩ := F
  intro H locs ls hP hS hl
  exact lv_lstore hx hb hd hl (by simp) rfl (fun ls2 hl2 => K H locs ls2 hP hS (z_lvMono hl2 (z_lvSetL ad (L := a0 :: a1 :: a2 :: a3 :: a4 :: b :: c0 :: r) (i := 5) (v := .long x) (z_prev (i := 4) rfl h2))))
end ZR
/-- a class's facts; a field's, as a class's pool names it; an object of the world; an int of it; a reference of it; an array of ints -/
def z_Cl (c : Nat) (C : String) (Tb : u_T) (n : Nat) (ty : Nat → FieldType) : Prop := vwCl[c]? = some (C, Tb, n) ∧ (∀ w ∈ u_ws C Tb n, w ∈ wsL_law) ∧ (∀ k, k < n → parseFieldDescriptor (Tb k).2.2.1 = some (ty k)) ∧ ∀ a, a < n → ∀ b, b < n → a ≠ b → (Tb a).2.1 ≠ (Tb b).2.1
def z_Lk (own : String) (idx : Nat) (ref n ds : String) : Prop := Cond.fieldLink own idx ref n ds ∈ wsL_law ∨ ∃ host, Cond.fieldLinkNest own idx ref n ds host ∈ zNst
def z_Fg (own : String) (idx c j : Nat) (fin : Bool) (t : FieldType) : Prop := ∃ C Tb n ty, z_Cl c C Tb n ty ∧ j < n ∧ z_Lk own idx (Tb j).1 (Tb j).2.1 (Tb j).2.2.1 ∧ (Tb j).2.2.2 = fin ∧ ty j = t
def z_O (S : zS) (k c : Nat) : Prop := k < zN S ∧ zk S k = c ∧ c < 6 ∧ ∀ q, vwCl[c]? = some q → zl S k = q.2.2
def z_Sl (S : zS) (k c j r x : Nat) : Prop := z_O S k c ∧ zr S k j = none ∧ zo S k j = (r, x)
def z_Sr (S : zS) (k c j q : Nat) : Prop := z_O S k c ∧ zr S k j = some q
def z_Ar (S : zS) (k t n r : Nat) (g : Nat → Nat) : Prop := k < zN S ∧ zk S k = t ∧ zl S k = n ∧ n < 100000 ∧ ∀ j, j < n → zo S k j = (r, g j)
def z_Aq (S : zS) (k t n : Nat) (g : Nat → Nat) : Prop := k < zN S ∧ zk S k = t ∧ zl S k = n ∧ n < 100000 ∧ ∀ j, j < n → zr S k j = some (g j)
theorem z_celO {S : zS} {cy : Nat → ClassId} {ad : Nat → Nat} {D : zD} {k c : Nat} (h : z_O S k c) : z_cel S cy ad D k = .inr (c, (List.range (zl S k)).map (z_val S ad D k)) := by
  unfold z_cel
  rw [if_pos (by rw [h.2.1]; exact h.2.2.1), h.2.1]
section ZH
variable {X : zX} {S : zS} {T : List (String × Nat × Nat)} {cc : ByteArray} {own : String} {nL d pc : Nat} {L : List (Option Value)} {st : List Value} {D : zD}
theorem z_getI (F : z_F X S T cc own nL d) {k c j r x idx : Nat} {fin : Bool} {t : FieldType} (hs : z_Sl S k c j r x) (hf : z_Fg own idx c j fin t) (hd : decode cc pc = .ok (.getfield idx, 3)) (K : z_J X S (pc + 3) L (.int (D.1 r x) :: st) D) : z_J X S pc L (.ref k :: st) D := by
  obtain ⟨p, l, e, R, s, m, args, below, meth, co, Q, G, cy, ad⟩ := X
  obtain ⟨hx, hb, hml, hown, hts, hK, hin, ok, hR, hT⟩ := F
  intro H locs ls hP hS hl
  obtain ⟨C, Tb, n, ty, ⟨hc, hin2, -, -⟩, hj, hlk, -, -⟩ := hf
  obtain ⟨hO, hr, ho⟩ := hs
  have hn := hO.2.2.2 _ hc
  have hz : z_val S ad D k j = .int (D.1 r x) := by simp only [z_val, hr, ho]
  have hv : ((List.range (zl S k)).map (z_val S ad D k))[j]? = some (.int (D.1 r x)) := by rw [List.getElem?_map, List.getElem?_range (by rw [hn]; exact hj), Option.map_some, hz]
  rcases hlk with hlk | ⟨host, hlk⟩
  · exact va_get (D := G) hx hb hts hin2 hown hK hP k ((z_w_at hO.1).trans (by rw [z_celO hO])) hc j hj (hts _ hlk) (fun _ q => q) hv hd (K H locs ls hP hS hl)
  · exact va_getN (D := G) hx hb hts hin2 hown hK hP k ((z_w_at hO.1).trans (by rw [z_celO hO])) hc j hj (va_Nw.use (z_nstW hlk) (hT.2.2.1 _ hlk)) (fun _ q => q) hv hd (K H locs ls hP hS hl)
theorem z_getR (F : z_F X S T cc own nL d) {k c j q idx : Nat} {fin : Bool} {t : FieldType} (hs : z_Sr S k c j q) (hf : z_Fg own idx c j fin t) (hd : decode cc pc = .ok (.getfield idx, 3)) (K : z_J X S (pc + 3) L (.ref q :: st) D) : z_J X S pc L (.ref k :: st) D := by
  obtain ⟨p, l, e, R, s, m, args, below, meth, co, Q, G, cy, ad⟩ := X
  obtain ⟨hx, hb, hml, hown, hts, hK, hin, ok, hR, hT⟩ := F
  intro H locs ls hP hS hl
  obtain ⟨C, Tb, n, ty, ⟨hc, hin2, -, -⟩, hj, hlk, -, -⟩ := hf
  obtain ⟨hO, hr⟩ := hs
  have hn := hO.2.2.2 _ hc
  have hz : z_val S ad D k j = .ref (ad q) := by simp only [z_val, hr]
  have hv : ((List.range (zl S k)).map (z_val S ad D k))[j]? = some (.ref (ad q)) := by rw [List.getElem?_map, List.getElem?_range (by rw [hn]; exact hj), Option.map_some, hz]
  rcases hlk with hlk | ⟨host, hlk⟩
  · exact va_get (D := G) hx hb hts hin2 hown hK hP k ((z_w_at hO.1).trans (by rw [z_celO hO])) hc j hj (hts _ hlk) (fun _ q => q) hv hd (K H locs ls hP hS hl)
  · exact va_getN (D := G) hx hb hts hin2 hown hK hP k ((z_w_at hO.1).trans (by rw [z_celO hO])) hc j hj (va_Nw.use (z_nstW hlk) (hT.2.2.1 _ hlk)) (fun _ q => q) hv hd (K H locs ls hP hS hl)
theorem z_putI (F : z_F X S T cc own nL d) {k c j r x idx : Nat} {t : FieldType} {v : Int32} (hs : z_Sl S k c j r x) (hf : z_Fg own idx c j false t) (hn : narrow t (.int v) = .int v) (hft : fits t (.int v) = true) (hd : decode cc pc = .ok (.putfield idx, 3)) (K : z_J X S (pc + 3) L st (z_up D r x v)) : z_J X S pc L (.int v :: .ref k :: st) D := by
  obtain ⟨p, l, e, R, s, m, args, below, meth, co, Q, G, cy, ad⟩ := X
  obtain ⟨hx, hb, hml, hown, hts, hK, hin, ok, hR, hT⟩ := F
  intro H locs ls hP hS hl
  obtain ⟨C, Tb, n, ty, ⟨hc, hin2, hty, hnm⟩, hj, hlk, hfin, hte⟩ := hf
  obtain ⟨hO, hr, ho⟩ := hs
  have hnn := hO.2.2.2 _ hc
  have hjl : j < zl S k := by rw [hnn]; exact hj
  have h7 : zk S k ≠ 7 := by have := hO.2.1; have := hO.2.2.1; omega
  have e1 : z_up D (zo S k j).1 (zo S k j).2 v = z_up D r x v := by rw [ho]
  have e2 : (z_w S cy ad D).set k (ad k, .inr (c, ((List.range (zl S k)).map (z_val S ad D k)).set j (.int v))) = z_w S cy ad (z_up D r x v) := by
    refine z_w_set hO.1 (D' := z_up D r x v) (by
      rw [z_celO hO]
      congr 2
      refine List.ext_getElem? fun i => ?_
      by_cases hi : i = j
      · subst hi
        rw [List.getElem?_set_self (by simpa using hjl), List.getElem?_map, List.getElem?_range hjl, Option.map_some]
        congr 1
        simp only [z_val, hr, ho, z_up, and_self, if_true]
      · rw [List.getElem?_set_ne (Ne.symm hi), List.getElem?_map, List.getElem?_map]
        by_cases hil : i < zl S k
        · rw [List.getElem?_range hil, Option.map_some, Option.map_some]
          congr 1
          unfold z_val
          cases zr S k i with
          | some q => rfl
          | none =>
            have ne : ¬ ((zo S k i).1 = r ∧ (zo S k i).2 = x) := fun q => hi (ok k i k j hO.1 hO.1 hil hjl h7 h7 (by rw [ho]; exact Prod.ext q.1 q.2)).2
            simp only [z_up, if_neg ne]
        · rw [List.getElem?_eq_none (by simpa using hil)]
          rfl) (fun q hq hne => by rw [← e1]; exact z_cel_up ok hO.1 hjl h7 q hq hne)
  rcases hlk with hlk | ⟨host, hlk⟩
  · exact va_put (D := G) (v := .int v) (ty := t) hx hb hts hin2 ty hty hnm hown hK hP (z_wD hin) hS k ((z_w_at hO.1).trans (by rw [z_celO hO])) hc j hj (hts _ hlk) (fun _ q => q) hfin (by rw [hty j hj, hte]) hn hft (by simpa using hjl) hd (fun H1 locs1 hP1 hD1 hS1 => K H1 locs1 ls (by rw [← e2]; exact hP1) hS1 hl)
  · exact va_putN (D := G) (v := .int v) (ty := t) hx hb hts hin2 ty hty hnm hown hK hP (z_wD hin) hS k ((z_w_at hO.1).trans (by rw [z_celO hO])) hc j hj (va_Nw.use (z_nstW hlk) (hT.2.2.1 _ hlk)) (fun _ q => q) hfin (by rw [hty j hj, hte]) hn hft (by simpa using hjl) hd (fun H1 locs1 hP1 hD1 hS1 => K H1 locs1 ls (by rw [← e2]; exact hP1) hS1 hl)
theorem z_celI {S : zS} {cy : Nat → ClassId} {ad : Nat → Nat} {D : zD} {k t n r : Nat} {g : Nat → Nat} (h : z_Ar S k t n r g) (ht : t = 6 ∨ t = 8) : z_cel S cy ad D k = .inl (cy t, n, .inl (fun j => if j < n then D.1 r (g j) else 0)) := by
  obtain ⟨h1, h2, h3, h4, h5⟩ := h
  unfold z_cel
  rw [if_neg (by omega), if_neg (by omega), if_pos (by omega), h2, h3]
  congr 4
  funext j
  by_cases hj : j < n
  · rw [if_pos hj, if_pos hj, h5 j hj]
  · rw [if_neg hj, if_neg hj]
theorem z_iald (F : z_F X S T cc own nL d) {k n r : Nat} {g : Nat → Nat} (ha : z_Ar S k 6 n r g) {i : Int32} (j : Nat) (hi : i = nI j) (hj : j < n) (hd : decode cc pc = .ok (.iaload, 1)) (K : z_J X S (pc + 1) L (.int (D.1 r (g j)) :: st) D) : z_J X S pc L (.int i :: .ref k :: st) D := by
  obtain ⟨p, l, e, R, s, m, args, below, meth, co, Q, G, cy, ad⟩ := X
  obtain ⟨hx, hb, hml, hown, hts, hK, hin, ok, hR, hT⟩ := F
  intro H locs ls hP hS hl
  subst hi
  have h4 := ha.2.2.2.1
  refine va_iald hx hb hK hP k 0 (cA := cy 6) (n := n) ((z_w_at ha.1).trans (by rw [z_celI ha (Or.inl rfl)])) rfl (vp_in_nI hj (by omega)) hd ?_
  rw [nI_clamp (by omega), if_pos hj]
  exact (K H locs ls hP hS hl)
theorem z_bald (F : z_F X S T cc own nL d) {k n r : Nat} {g : Nat → Nat} (ha : z_Ar S k 8 n r g) {i : Int32} (j : Nat) (hi : i = nI j) (hj : j < n) (hd : decode cc pc = .ok (.baload, 1)) (K : z_J X S (pc + 1) L (.int (D.1 r (g j)) :: st) D) : z_J X S pc L (.int i :: .ref k :: st) D := by
  obtain ⟨p, l, e, R, s, m, args, below, meth, co, Q, G, cy, ad⟩ := X
  obtain ⟨hx, hb, hml, hown, hts, hK, hin, ok, hR, hT⟩ := F
  intro H locs ls hP hS hl
  subst hi
  have h4 := ha.2.2.2.1
  refine va_zald hx hb hK hP k 2 (cA := cy 8) (n := n) ((z_w_at ha.1).trans (by rw [z_celI ha (Or.inr rfl)])) rfl (vp_in_nI hj (by omega)) hd ?_
  rw [nI_clamp (by omega), if_pos hj]
  exact (K H locs ls hP hS hl)
theorem z_setI {S : zS} {cy : Nat → ClassId} {ad : Nat → Nat} {D : zD} {k t n r j : Nat} {g : Nat → Nat} {v : Int32} (ok : z_ok S) (ha : z_Ar S k t n r g) (ht : t = 6 ∨ t = 8) (hj : j < n) : (z_w S cy ad D).set k (ad k, .inl (cy t, n, .inl (upd (fun j => if j < n then D.1 r (g j) else 0) j v))) = z_w S cy ad (z_up D r (g j) v) := by
  have h7 : zk S k ≠ 7 := by have := ha.2.1; omega
  have e1 : z_up D (zo S k j).1 (zo S k j).2 v = z_up D r (g j) v := by rw [ha.2.2.2.2 j hj]
  refine z_w_set ha.1 ?_ (fun q hq hne => by rw [← e1]; exact z_cel_up ok ha.1 (by rw [ha.2.2.1]; exact hj) h7 q hq hne)
  rw [z_celI ha ht]
  congr 4
  funext i
  by_cases hi : i = j
  · subst hi
    simp only [upd, if_true, if_pos hj, z_up, and_self]
  · by_cases hn : i < n
    · have ne : ¬ (r = r ∧ g i = g j) := fun q => hi (ok k i k j ha.1 ha.1 (by rw [ha.2.2.1]; exact hn) (by rw [ha.2.2.1]; exact hj) h7 h7 (by rw [ha.2.2.2.2 i hn, ha.2.2.2.2 j hj, q.2])).2
      show (if i = j then v else if i < n then D.1 r (g i) else 0) = if i < n then (if r = r ∧ g i = g j then v else D.1 r (g i)) else 0
      rw [if_neg hi, if_pos hn, if_pos hn, if_neg ne]
    · simp only [upd, if_neg hi, if_neg hn]
theorem z_iast (F : z_F X S T cc own nL d) {k n r : Nat} {g : Nat → Nat} (ha : z_Ar S k 6 n r g) {i v : Int32} (j : Nat) (hi : i = nI j) (hj : j < n) (hd : decode cc pc = .ok (.iastore, 1)) (K : z_J X S (pc + 1) L st (z_up D r (g j) v)) : z_J X S pc L (.int v :: .int i :: .ref k :: st) D := by
  obtain ⟨p, l, e, R, s, m, args, below, meth, co, Q, G, cy, ad⟩ := X
  obtain ⟨hx, hb, hml, hown, hts, hK, hin, ok, hR, hT⟩ := F
  intro H locs ls hP hS hl
  subst hi
  have h4 := ha.2.2.2.1
  refine va_iast hx hb hK hP (z_wD hin) hS k 0 (cA := cy 6) (n := n) ((z_w_at ha.1).trans (by rw [z_celI ha (Or.inl rfl)])) rfl (vp_in_nI hj (by omega)) hd (fun H1 locs1 hP1 hD1 hS1 => ?_)
  rw [nI_clamp (by omega), z_setI ok ha (Or.inl rfl) hj] at hP1
  exact K H1 locs1 ls hP1 hS1 hl
theorem z_bast (F : z_F X S T cc own nL d) {k n r : Nat} {g : Nat → Nat} (ha : z_Ar S k 8 n r g) {i v : Int32} (j : Nat) (hi : i = nI j) (hj : j < n) (hv : vp_nar .boolean v = v) (hd : decode cc pc = .ok (.bastore, 1)) (K : z_J X S (pc + 1) L st (z_up D r (g j) v)) : z_J X S pc L (.int v :: .int i :: .ref k :: st) D := by
  obtain ⟨p, l, e, R, s, m, args, below, meth, co, Q, G, cy, ad⟩ := X
  obtain ⟨hx, hb, hml, hown, hts, hK, hin, ok, hR, hT⟩ := F
  intro H locs ls hP hS hl
  subst hi
  have h4 := ha.2.2.2.1
  refine va_zast hx hb hK hP (z_wD hin) hS k 2 (cA := cy 8) (n := n) ((z_w_at ha.1).trans (by rw [z_celI ha (Or.inr rfl)])) rfl (vp_in_nI hj (by omega)) hd (fun H1 locs1 hP1 hD1 hS1 => ?_)
  rw [nI_clamp (by omega), hv, z_setI ok ha (Or.inr rfl) hj] at hP1
  exact K H1 locs1 ls hP1 hS1 hl
theorem z_celL {S : zS} {cy : Nat → ClassId} {ad : Nat → Nat} {D : zD} {k : Nat} (h : zk S k = 7) : z_cel S cy ad D k = .inl (cy 7, zl S k, .inr (.inl D.2)) := by
  unfold z_cel
  rw [if_neg (by omega), if_pos h, h]
theorem z_lald (F : z_F X S T cc own nL d) {k n : Nat} (h1 : k < zN S) (h2 : zk S k = 7) (h3 : zl S k = n) (h4 : n < 100000) {i : Int32} (j : Nat) (hi : i = nI j) (hj : j < n) (hd : decode cc pc = .ok (.laload, 1)) (K : z_J X S (pc + 1) L (.long (D.2 j) :: st) D) : z_J X S pc L (.int i :: .ref k :: st) D := by
  obtain ⟨p, l, e, R, s, m, args, below, meth, co, Q, G, cy, ad⟩ := X
  obtain ⟨hx, hb, hml, hown, hts, hK, hin, ok, hR, hT⟩ := F
  intro H locs ls hP hS hl
  subst hi
  refine va_lald hx hb hK hP k 1 (cA := cy 7) (n := n) ((z_w_at h1).trans (by rw [z_celL h2, h3])) rfl (vp_in_nI hj (by omega)) hd ?_
  rw [nI_clamp (by omega)]
  exact (K H locs ls hP hS hl)
theorem z_last (F : z_F X S T cc own nL d) {k n : Nat} (h1 : k < zN S) (h2 : zk S k = 7) (h3 : zl S k = n) (h4 : n < 100000) (h5 : ∀ q, q < zN S → zk S q = 7 → q = k) {i : Int32} {v : Int64} (j : Nat) (hi : i = nI j) (hj : j < n) (hd : decode cc pc = .ok (.lastore, 1)) (K : z_J X S (pc + 1) L st (z_upL D j v)) : z_J X S pc L (.long v :: .int i :: .ref k :: st) D := by
  obtain ⟨p, l, e, R, s, m, args, below, meth, co, Q, G, cy, ad⟩ := X
  obtain ⟨hx, hb, hml, hown, hts, hK, hin, ok, hR, hT⟩ := F
  intro H locs ls hP hS hl
  subst hi
  refine va_last hx hb hK hP (z_wD hin) hS k 1 (cA := cy 7) (n := n) ((z_w_at h1).trans (by rw [z_celL h2, h3])) rfl (vp_in_nI hj (by omega)) hd (fun H1 locs1 hP1 hD1 hS1 => ?_)
  rw [nI_clamp (by omega), z_w_set h1 (D' := z_upL D j v) (by rw [z_celL h2, h3]; rfl) (fun q hq hne => by
    have h8 : zk S q ≠ 7 := fun z => hne (h5 q hq z)
    simp only [z_cel, if_neg h8]
    rfl)] at hP1
  exact K H1 locs1 ls hP1 hS1 hl
theorem z_aald (F : z_F X S T cc own nL d) {k t n : Nat} {g : Nat → Nat} (ha : z_Aq S k t n g) (ht : t = 9 ∨ t = 10 ∨ t = 11) {i : Int32} (j : Nat) (hi : i = nI j) (hj : j < n) (hd : decode cc pc = .ok (.aaload, 1)) (K : z_J X S (pc + 1) L (.ref (g j) :: st) D) : z_J X S pc L (.int i :: .ref k :: st) D := by
  obtain ⟨p, l, e, R, s, m, args, below, meth, co, Q, G, cy, ad⟩ := X
  obtain ⟨hx, hb, hml, hown, hts, hK, hin, ok, hR, hT⟩ := F
  intro H locs ls hP hS hl
  subst hi
  obtain ⟨h1, h2, h3, h4, h5⟩ := ha
  have hc : z_cel S cy ad D k = .inl (cy t, n, .inr (.inr (.inr (.inr (fun j => (zr S k j).map ad))))) := by
    unfold z_cel
    rw [if_neg (by omega), if_neg (by omega), if_neg (by omega), h2, h3]
  have hkk : W p l e R s m args below meth co H locs 0 0 Q (F0 m (pc + 1) ls (va_rf ((zr S k (nI j).toNatClampNeg).map ad) :: st.map (z_v ad))) := by
    rw [nI_clamp (by omega), h5 j hj]
    exact (K H locs ls hP hS hl)
  rcases ht with rfl | rfl | rfl
  · exact va_aldq hx hb hK hP k 3 (cA := cy 9) (n := n) ((z_w_at h1).trans (by rw [hc])) rfl (vp_in_nI hj (by omega)) hd hkk
  · exact va_aldq hx hb hK hP k 4 (cA := cy 10) (n := n) ((z_w_at h1).trans (by rw [hc])) rfl (vp_in_nI hj (by omega)) hd hkk
  · exact va_aldq hx hb hK hP k 5 (cA := cy 11) (n := n) ((z_w_at h1).trans (by rw [hc])) rfl (vp_in_nI hj (by omega)) hd hkk
theorem z_alen (F : z_F X S T cc own nL d) {k n : Nat} {g : Nat → Nat} (ha : z_Aq S k 11 n g) (hd : decode cc pc = .ok (.arraylength, 1)) (K : z_J X S (pc + 1) L (.int (nI n) :: st) D) : z_J X S pc L (.ref k :: st) D := by
  obtain ⟨p, l, e, R, s, m, args, below, meth, co, Q, G, cy, ad⟩ := X
  obtain ⟨hx, hb, hml, hown, hts, hK, hin, ok, hR, hT⟩ := F
  intro H locs ls hP hS hl
  obtain ⟨h1, h2, h3, h4, h5⟩ := ha
  have hc : z_cel S cy ad D k = .inl (cy 11, n, .inr (.inr (.inr (.inr (fun j => (zr S k j).map ad))))) := by
    unfold z_cel
    rw [if_neg (by omega), if_neg (by omega), if_neg (by omega), h2, h3]
  exact va_alen hx hb hK hP k 5 (cA := cy 11) (x := (n, .inr (.inr (.inr (.inr (fun j => (zr S k j).map ad)))))) ((z_w_at h1).trans (by rw [hc])) rfl rfl hd (K H locs ls hP hS hl)
def i_min (a b : Int32) : Int32 := if a < b then a else b
def i_max (a b : Int32) : Int32 := if a < b then b else a
theorem z_min (F : z_F X S T cc own nL d) {idx : Nat} {x y : Int32} (hw : Cond.methodLink own idx Lib.Math.min.name ∈ wsL_law) (h0 : 1 ≤ d) (hn : L.length = nL) (hcat : (st.map fun v => v.category).sum ≤ 8) (hd : decode cc pc = .ok (.invokestatic idx, 3)) (K : z_J X S (pc + 3) L (.int (i_min y x) :: st) D) : z_J X S pc L (.int y :: .int x :: st) D := by
  obtain ⟨p, l, e, R, s, m, args, below, meth, co, Q, G, cy, ad⟩ := X
  obtain ⟨hx, hb, hml, hown, hts, hK, hin, ok, hR, hT⟩ := F
  intro H locs ls hP hS hl
  subst hR
  exact va_mmin hx hb (by rw [hml, ← hn]; exact hl.1.symm) hown (hts _ hw) (hts _ z_minS) (hts _ z_mathI) (hts _ z_minC) h0 (by rw [z_v_sum]; show _ ≤ 40 * d; omega) (Nat.le_refl _) (Nat.le_refl _) hd (K H locs ls hP hS hl)
theorem z_max (F : z_F X S T cc own nL d) {idx : Nat} {x y : Int32} (hw : Cond.methodLink own idx Lib.Math.max.name ∈ wsL_law) (h0 : 1 ≤ d) (hn : L.length = nL) (hcat : (st.map fun v => v.category).sum ≤ 8) (hd : decode cc pc = .ok (.invokestatic idx, 3)) (K : z_J X S (pc + 3) L (.int (i_max x y) :: st) D) : z_J X S pc L (.int y :: .int x :: st) D := by
  obtain ⟨p, l, e, R, s, m, args, below, meth, co, Q, G, cy, ad⟩ := X
  obtain ⟨hx, hb, hml, hown, hts, hK, hin, ok, hR, hT⟩ := F
  intro H locs ls hP hS hl
  subst hR
  exact va_mmax hx hb (by rw [hml, ← hn]; exact hl.1.symm) hown (hts _ hw) (hts _ z_maxS) (hts _ z_mathI) (hts _ z_maxC) h0 (by rw [z_v_sum]; show _ ≤ 40 * d; omega) (Nat.le_refl _) (Nat.le_refl _) hd (K H locs ls hP hS hl)
theorem z_ldcS (F : z_F X S T cc own nL d) {idx i : Nat} (hq : (own, idx, i) ∈ T) (hd : decode cc pc = .ok (.ldc idx, 2)) (K : z_J X S (pc + 2) L (.ref (1000 + i) :: st) D) : z_J X S pc L st D := by
  obtain ⟨p, l, e, R, s, m, args, below, meth, co, Q, G, cy, ad⟩ := X
  obtain ⟨hx, hb, hml, hown, hts, hK, hin, ok, hR, hT⟩ := F
  intro H locs ls hP hS hl
  exact va_ldcS hx hb hown (hT.2.1 _ hq) hd (K H locs ls hP hS hl)
theorem z_ldcwS (F : z_F X S T cc own nL d) {idx i : Nat} (hq : (own, idx, i) ∈ T) (hd : decode cc pc = .ok (.ldc_w idx, 3)) (K : z_J X S (pc + 3) L (.ref (1000 + i) :: st) D) : z_J X S pc L st D := by
  obtain ⟨p, l, e, R, s, m, args, below, meth, co, Q, G, cy, ad⟩ := X
  obtain ⟨hx, hb, hml, hown, hts, hK, hin, ok, hR, hT⟩ := F
  intro H locs ls hP hS hl
  intro U hU X2
  obtain ⟨t, a1, b1⟩ := (K H locs ls hP hS hl) U hU X2
  exact ⟨t, X2.ldcStringW hx hown (hT.2.1 _ hq).1 (hT.2.1 _ hq).2 (g := F0 m pc ls (st.map (z_v ad))) rfl (by rw [hb]; exact hd) t a1, b1⟩
/-- what a call's instruction names -/
def z_LV (own : String) (idx : Nat) (y : MethodName) (b : ByteArray) (n : Nat) (ret : Option FieldType) (na : Nat) : Prop := (∀ w ∈ ([.methodLink own idx y, .instanceMethod y, .selects y.cls y y, .initialized y.cls] : List Cond), w ∈ wsL_law) ∧ Cond.code y b n ret ∈ wsL_law ∧ (y.cls ≠ "java/lang/invoke/MethodHandle" ∧ y.cls ≠ "java/lang/invoke/VarHandle" ∧ (parseMethodDescriptor y.desc).map (fun d => d.parameters.length) = some na) ∧ n ≤ 20
def z_LS (own : String) (idx : Nat) (y : MethodName) (b : ByteArray) (n : Nat) (ret : Option FieldType) (na : Nat) : Prop := (∀ w ∈ ([.methodLink own idx y, .static y, .initialized y.cls] : List Cond), w ∈ wsL_law) ∧ Cond.code y b n ret ∈ wsL_law ∧ (y.cls ≠ "java/lang/invoke/MethodHandle" ∧ y.cls ≠ "java/lang/invoke/VarHandle" ∧ (parseMethodDescriptor y.desc).map (fun d => d.parameters.length) = some na) ∧ n ≤ 20
def z_Oc (S : zS) (k : Nat) (C : String) : Prop := ∃ c q, z_O S k c ∧ vwCl[c]? = some q ∧ q.1 = C
theorem z_callVIg (F : z_F X S T cc own nL d) {y : MethodName} {b : ByteArray} {n idx d2 k : Nat} {ret : FieldType} {as : List Value} {Post : Int32 → zD → Prop} (hL : z_LV own idx y b n (some ret) as.length) (hC : z_CI S T y b n ret d2 (.ref k :: as) D Post) (hd2 : d2 < d) (hO : z_Oc S k y.cls) (hcat : (st.map fun v => v.category).sum ≤ 8) (hn : L.length = nL) (hd : decode cc pc = .ok (.invokevirtual idx, 3)) (K : ∀ r E, Post r E → z_J X S (pc + 3) L (.int r :: st) E) : z_J X S pc L (as.reverse ++ .ref k :: st) D := by
  obtain ⟨p, l, e, R, s, m, args, below, meth, co, Q, G, cy, ad⟩ := X
  obtain ⟨hx, hb, hml, hown, hts, hK, hin, ok, hR, hT⟩ := F
  intro H locs ls hP hS hl
  subst hR
  obtain ⟨hw, hcode, hy, hn20⟩ := hL
  obtain ⟨c0, q0, hO1, hc0, hC0⟩ := hO
  have e1 : (as.reverse ++ .ref k :: st).map (z_v ad) = (as.map (z_v ad)).reverse ++ .ref (ad k) :: st.map (z_v ad) := by rw [List.map_append, List.map_reverse]; rfl
  rw [e1]
  refine va_calli (va_runV (As := as.map (z_v ad)) (rest := st.map (z_v ad)) (C := y.cls) ⟨hx, hb, hml, hown, hts⟩ (hC l G cy ad hin) (cwV as.length hts (z_goodIn hcode hw) rfl rfl rfl ⟨rfl, hy⟩ ⟨by show d2 + 1 ≤ d; omega, by show 8 + (n + 11) + 40 * d2 ≤ 40 * d; omega⟩) ⟨z_Bblind, ?_, fun U hU hW => ⟨rfl, by rw [hU]; exact hP, va_K.moved hW.alike hK, by rw [hU]; exact (hT.warm hW).kept hS.2.1⟩⟩ rfl (by simp) (hl.1.trans hn) rfl (lv_room (by rw [z_v_sum]; exact hcat)) hd ⟨Nat.le_refl _, Nat.le_refl _⟩) hS (fun _ _ q => q) (fun _ q => q) (fun r u t H1 locs1 ht hvm hp hB hz hk hS1 => K r u hp H1 locs1 ls (by rw [← ht]; exact hB) hS1 hl)
  have := va_recv hK hP hc0 ((z_w_at hO1.1).trans (by rw [z_celO hO1]))
  rw [hC0] at this
  exact this
theorem z_callSIg (F : z_F X S T cc own nL d) {y : MethodName} {b : ByteArray} {n idx d2 : Nat} {ret : FieldType} {as : List Value} {Post : Int32 → zD → Prop} (hL : z_LS own idx y b n (some ret) as.length) (hC : z_CI S T y b n ret d2 as D Post) (hd2 : d2 < d) (hcat : (st.map fun v => v.category).sum ≤ 8) (hn : L.length = nL) (hd : decode cc pc = .ok (.invokestatic idx, 3)) (K : ∀ r E, Post r E → z_J X S (pc + 3) L (.int r :: st) E) : z_J X S pc L (as.reverse ++ st) D := by
  obtain ⟨p, l, e, R, s, m, args, below, meth, co, Q, G, cy, ad⟩ := X
  obtain ⟨hx, hb, hml, hown, hts, hK, hin, ok, hR, hT⟩ := F
  intro H locs ls hP hS hl
  subst hR
  obtain ⟨hw, hcode, hy, hn20⟩ := hL
  have e1 : (as.reverse ++ st).map (z_v ad) = (as.map (z_v ad)).reverse ++ st.map (z_v ad) := by rw [List.map_append, List.map_reverse]
  rw [e1]
  exact va_calli (va_runS (As := as.map (z_v ad)) (rest := st.map (z_v ad)) ⟨hx, hb, hml, hown, hts⟩ (hC l G cy ad hin) (va_cwS as.length hts (z_goodIn hcode hw) rfl rfl rfl hy ⟨by show d2 + 1 ≤ d; omega, by show 8 + (n + 11) + 40 * d2 ≤ 40 * d; omega⟩) ⟨z_Bblind, fun U hU hW => ⟨rfl, by rw [hU]; exact hP, va_K.moved hW.alike hK, by rw [hU]; exact (hT.warm hW).kept hS.2.1⟩⟩ rfl (by simp) (hl.1.trans hn) rfl (lv_room (by rw [z_v_sum]; exact hcat)) hd ⟨Nat.le_refl _, Nat.le_refl _⟩) hS (fun _ _ q => q) (fun _ q => q) (fun r u t H1 locs1 ht hvm hp hB hz hk hS1 => K r u hp H1 locs1 ls (by rw [← ht]; exact hB) hS1 hl)
def z_eq (r : Int32) (E : zD) : Int32 → zD → Prop := fun r2 E2 => r2 = r ∧ E2 = E
def z_eqV (E : zD) : zD → Prop := fun E2 => E2 = E
theorem z_callVI0 (F : z_F X S T cc own nL d) {y : MethodName} {b : ByteArray} {n idx d2 k : Nat} {ret : FieldType} {r : Int32} {E : zD} (hC : z_CI S T y b n ret d2 (.ref k :: []) D (z_eq r E)) (hL : z_LV own idx y b n (some ret) 0) (hd2 : d2 < d) (hO : z_Oc S k y.cls) (hcat : (st.map fun v => v.category).sum ≤ 8) (hn : L.length = nL) (hd : decode cc pc = .ok (.invokevirtual idx, 3)) (K : z_J X S (pc + 3) L (.int r :: st) E) : z_J X S pc L (.ref k :: st) D := z_callVIg F (as := []) hL hC hd2 hO hcat hn hd (fun r2 E2 q => by obtain ⟨rfl, rfl⟩ := q; exact K)
theorem z_callSI0 (F : z_F X S T cc own nL d) {y : MethodName} {b : ByteArray} {n idx d2 : Nat} {ret : FieldType} {r : Int32} {E : zD} (hC : z_CI S T y b n ret d2 [] D (z_eq r E)) (hL : z_LS own idx y b n (some ret) 0) (hd2 : d2 < d) (hcat : (st.map fun v => v.category).sum ≤ 8) (hn : L.length = nL) (hd : decode cc pc = .ok (.invokestatic idx, 3)) (K : z_J X S (pc + 3) L (.int r :: st) E) : z_J X S pc L (st) D := z_callSIg F (as := []) hL hC hd2 hcat hn hd (fun r2 E2 q => by obtain ⟨rfl, rfl⟩ := q; exact K)
theorem z_callVI0p (F : z_F X S T cc own nL d) {y : MethodName} {b : ByteArray} {n idx d2 k : Nat} {ret : FieldType} {Post : Int32 → zD → Prop} (hC : z_CI S T y b n ret d2 (.ref k :: []) D Post) (hL : z_LV own idx y b n (some ret) 0) (hd2 : d2 < d) (hO : z_Oc S k y.cls) (hcat : (st.map fun v => v.category).sum ≤ 8) (hn : L.length = nL) (hd : decode cc pc = .ok (.invokevirtual idx, 3)) (K : ∀ r E, Post r E → z_J X S (pc + 3) L (.int r :: st) E) : z_J X S pc L (.ref k :: st) D := z_callVIg F (as := []) hL hC hd2 hO hcat hn hd K
theorem z_callVI1 (F : z_F X S T cc own nL d) {y : MethodName} {b : ByteArray} {n idx d2 k : Nat} {ret : FieldType} {v1 : Value} {r : Int32} {E : zD} (hC : z_CI S T y b n ret d2 (.ref k :: [v1]) D (z_eq r E)) (hL : z_LV own idx y b n (some ret) 1) (hd2 : d2 < d) (hO : z_Oc S k y.cls) (hcat : (st.map fun v => v.category).sum ≤ 8) (hn : L.length = nL) (hd : decode cc pc = .ok (.invokevirtual idx, 3)) (K : z_J X S (pc + 3) L (.int r :: st) E) : z_J X S pc L (v1 :: .ref k :: st) D := z_callVIg F (as := [v1]) hL hC hd2 hO hcat hn hd (fun r2 E2 q => by obtain ⟨rfl, rfl⟩ := q; exact K)
theorem z_callSI1 (F : z_F X S T cc own nL d) {y : MethodName} {b : ByteArray} {n idx d2 : Nat} {ret : FieldType} {v1 : Value} {r : Int32} {E : zD} (hC : z_CI S T y b n ret d2 [v1] D (z_eq r E)) (hL : z_LS own idx y b n (some ret) 1) (hd2 : d2 < d) (hcat : (st.map fun v => v.category).sum ≤ 8) (hn : L.length = nL) (hd : decode cc pc = .ok (.invokestatic idx, 3)) (K : z_J X S (pc + 3) L (.int r :: st) E) : z_J X S pc L (v1 :: st) D := z_callSIg F (as := [v1]) hL hC hd2 hcat hn hd (fun r2 E2 q => by obtain ⟨rfl, rfl⟩ := q; exact K)
theorem z_callVI1p (F : z_F X S T cc own nL d) {y : MethodName} {b : ByteArray} {n idx d2 k : Nat} {ret : FieldType} {v1 : Value} {Post : Int32 → zD → Prop} (hC : z_CI S T y b n ret d2 (.ref k :: [v1]) D Post) (hL : z_LV own idx y b n (some ret) 1) (hd2 : d2 < d) (hO : z_Oc S k y.cls) (hcat : (st.map fun v => v.category).sum ≤ 8) (hn : L.length = nL) (hd : decode cc pc = .ok (.invokevirtual idx, 3)) (K : ∀ r E, Post r E → z_J X S (pc + 3) L (.int r :: st) E) : z_J X S pc L (v1 :: .ref k :: st) D := z_callVIg F (as := [v1]) hL hC hd2 hO hcat hn hd K
theorem z_callVI2 (F : z_F X S T cc own nL d) {y : MethodName} {b : ByteArray} {n idx d2 k : Nat} {ret : FieldType} {v1 v2 : Value} {r : Int32} {E : zD} (hC : z_CI S T y b n ret d2 (.ref k :: [v1, v2]) D (z_eq r E)) (hL : z_LV own idx y b n (some ret) 2) (hd2 : d2 < d) (hO : z_Oc S k y.cls) (hcat : (st.map fun v => v.category).sum ≤ 8) (hn : L.length = nL) (hd : decode cc pc = .ok (.invokevirtual idx, 3)) (K : z_J X S (pc + 3) L (.int r :: st) E) : z_J X S pc L (v2 :: v1 :: .ref k :: st) D := z_callVIg F (as := [v1, v2]) hL hC hd2 hO hcat hn hd (fun r2 E2 q => by obtain ⟨rfl, rfl⟩ := q; exact K)
theorem z_callSI2 (F : z_F X S T cc own nL d) {y : MethodName} {b : ByteArray} {n idx d2 : Nat} {ret : FieldType} {v1 v2 : Value} {r : Int32} {E : zD} (hC : z_CI S T y b n ret d2 [v1, v2] D (z_eq r E)) (hL : z_LS own idx y b n (some ret) 2) (hd2 : d2 < d) (hcat : (st.map fun v => v.category).sum ≤ 8) (hn : L.length = nL) (hd : decode cc pc = .ok (.invokestatic idx, 3)) (K : z_J X S (pc + 3) L (.int r :: st) E) : z_J X S pc L (v2 :: v1 :: st) D := z_callSIg F (as := [v1, v2]) hL hC hd2 hcat hn hd (fun r2 E2 q => by obtain ⟨rfl, rfl⟩ := q; exact K)
theorem z_callVI2p (F : z_F X S T cc own nL d) {y : MethodName} {b : ByteArray} {n idx d2 k : Nat} {ret : FieldType} {v1 v2 : Value} {Post : Int32 → zD → Prop} (hC : z_CI S T y b n ret d2 (.ref k :: [v1, v2]) D Post) (hL : z_LV own idx y b n (some ret) 2) (hd2 : d2 < d) (hO : z_Oc S k y.cls) (hcat : (st.map fun v => v.category).sum ≤ 8) (hn : L.length = nL) (hd : decode cc pc = .ok (.invokevirtual idx, 3)) (K : ∀ r E, Post r E → z_J X S (pc + 3) L (.int r :: st) E) : z_J X S pc L (v2 :: v1 :: .ref k :: st) D := z_callVIg F (as := [v1, v2]) hL hC hd2 hO hcat hn hd K
theorem z_callVI3 (F : z_F X S T cc own nL d) {y : MethodName} {b : ByteArray} {n idx d2 k : Nat} {ret : FieldType} {v1 v2 v3 : Value} {r : Int32} {E : zD} (hC : z_CI S T y b n ret d2 (.ref k :: [v1, v2, v3]) D (z_eq r E)) (hL : z_LV own idx y b n (some ret) 3) (hd2 : d2 < d) (hO : z_Oc S k y.cls) (hcat : (st.map fun v => v.category).sum ≤ 8) (hn : L.length = nL) (hd : decode cc pc = .ok (.invokevirtual idx, 3)) (K : z_J X S (pc + 3) L (.int r :: st) E) : z_J X S pc L (v3 :: v2 :: v1 :: .ref k :: st) D := z_callVIg F (as := [v1, v2, v3]) hL hC hd2 hO hcat hn hd (fun r2 E2 q => by obtain ⟨rfl, rfl⟩ := q; exact K)
theorem z_callSI3 (F : z_F X S T cc own nL d) {y : MethodName} {b : ByteArray} {n idx d2 : Nat} {ret : FieldType} {v1 v2 v3 : Value} {r : Int32} {E : zD} (hC : z_CI S T y b n ret d2 [v1, v2, v3] D (z_eq r E)) (hL : z_LS own idx y b n (some ret) 3) (hd2 : d2 < d) (hcat : (st.map fun v => v.category).sum ≤ 8) (hn : L.length = nL) (hd : decode cc pc = .ok (.invokestatic idx, 3)) (K : z_J X S (pc + 3) L (.int r :: st) E) : z_J X S pc L (v3 :: v2 :: v1 :: st) D := z_callSIg F (as := [v1, v2, v3]) hL hC hd2 hcat hn hd (fun r2 E2 q => by obtain ⟨rfl, rfl⟩ := q; exact K)
theorem z_callVI3p (F : z_F X S T cc own nL d) {y : MethodName} {b : ByteArray} {n idx d2 k : Nat} {ret : FieldType} {v1 v2 v3 : Value} {Post : Int32 → zD → Prop} (hC : z_CI S T y b n ret d2 (.ref k :: [v1, v2, v3]) D Post) (hL : z_LV own idx y b n (some ret) 3) (hd2 : d2 < d) (hO : z_Oc S k y.cls) (hcat : (st.map fun v => v.category).sum ≤ 8) (hn : L.length = nL) (hd : decode cc pc = .ok (.invokevirtual idx, 3)) (K : ∀ r E, Post r E → z_J X S (pc + 3) L (.int r :: st) E) : z_J X S pc L (v3 :: v2 :: v1 :: .ref k :: st) D := z_callVIg F (as := [v1, v2, v3]) hL hC hd2 hO hcat hn hd K
theorem z_callVI4 (F : z_F X S T cc own nL d) {y : MethodName} {b : ByteArray} {n idx d2 k : Nat} {ret : FieldType} {v1 v2 v3 v4 : Value} {r : Int32} {E : zD} (hC : z_CI S T y b n ret d2 (.ref k :: [v1, v2, v3, v4]) D (z_eq r E)) (hL : z_LV own idx y b n (some ret) 4) (hd2 : d2 < d) (hO : z_Oc S k y.cls) (hcat : (st.map fun v => v.category).sum ≤ 8) (hn : L.length = nL) (hd : decode cc pc = .ok (.invokevirtual idx, 3)) (K : z_J X S (pc + 3) L (.int r :: st) E) : z_J X S pc L (v4 :: v3 :: v2 :: v1 :: .ref k :: st) D := z_callVIg F (as := [v1, v2, v3, v4]) hL hC hd2 hO hcat hn hd (fun r2 E2 q => by obtain ⟨rfl, rfl⟩ := q; exact K)
theorem z_callSI4 (F : z_F X S T cc own nL d) {y : MethodName} {b : ByteArray} {n idx d2 : Nat} {ret : FieldType} {v1 v2 v3 v4 : Value} {r : Int32} {E : zD} (hC : z_CI S T y b n ret d2 [v1, v2, v3, v4] D (z_eq r E)) (hL : z_LS own idx y b n (some ret) 4) (hd2 : d2 < d) (hcat : (st.map fun v => v.category).sum ≤ 8) (hn : L.length = nL) (hd : decode cc pc = .ok (.invokestatic idx, 3)) (K : z_J X S (pc + 3) L (.int r :: st) E) : z_J X S pc L (v4 :: v3 :: v2 :: v1 :: st) D := z_callSIg F (as := [v1, v2, v3, v4]) hL hC hd2 hcat hn hd (fun r2 E2 q => by obtain ⟨rfl, rfl⟩ := q; exact K)
theorem z_callVI4p (F : z_F X S T cc own nL d) {y : MethodName} {b : ByteArray} {n idx d2 k : Nat} {ret : FieldType} {v1 v2 v3 v4 : Value} {Post : Int32 → zD → Prop} (hC : z_CI S T y b n ret d2 (.ref k :: [v1, v2, v3, v4]) D Post) (hL : z_LV own idx y b n (some ret) 4) (hd2 : d2 < d) (hO : z_Oc S k y.cls) (hcat : (st.map fun v => v.category).sum ≤ 8) (hn : L.length = nL) (hd : decode cc pc = .ok (.invokevirtual idx, 3)) (K : ∀ r E, Post r E → z_J X S (pc + 3) L (.int r :: st) E) : z_J X S pc L (v4 :: v3 :: v2 :: v1 :: .ref k :: st) D := z_callVIg F (as := [v1, v2, v3, v4]) hL hC hd2 hO hcat hn hd K
theorem z_callVI5 (F : z_F X S T cc own nL d) {y : MethodName} {b : ByteArray} {n idx d2 k : Nat} {ret : FieldType} {v1 v2 v3 v4 v5 : Value} {r : Int32} {E : zD} (hC : z_CI S T y b n ret d2 (.ref k :: [v1, v2, v3, v4, v5]) D (z_eq r E)) (hL : z_LV own idx y b n (some ret) 5) (hd2 : d2 < d) (hO : z_Oc S k y.cls) (hcat : (st.map fun v => v.category).sum ≤ 8) (hn : L.length = nL) (hd : decode cc pc = .ok (.invokevirtual idx, 3)) (K : z_J X S (pc + 3) L (.int r :: st) E) : z_J X S pc L (v5 :: v4 :: v3 :: v2 :: v1 :: .ref k :: st) D := z_callVIg F (as := [v1, v2, v3, v4, v5]) hL hC hd2 hO hcat hn hd (fun r2 E2 q => by obtain ⟨rfl, rfl⟩ := q; exact K)
theorem z_callSI5 (F : z_F X S T cc own nL d) {y : MethodName} {b : ByteArray} {n idx d2 : Nat} {ret : FieldType} {v1 v2 v3 v4 v5 : Value} {r : Int32} {E : zD} (hC : z_CI S T y b n ret d2 [v1, v2, v3, v4, v5] D (z_eq r E)) (hL : z_LS own idx y b n (some ret) 5) (hd2 : d2 < d) (hcat : (st.map fun v => v.category).sum ≤ 8) (hn : L.length = nL) (hd : decode cc pc = .ok (.invokestatic idx, 3)) (K : z_J X S (pc + 3) L (.int r :: st) E) : z_J X S pc L (v5 :: v4 :: v3 :: v2 :: v1 :: st) D := z_callSIg F (as := [v1, v2, v3, v4, v5]) hL hC hd2 hcat hn hd (fun r2 E2 q => by obtain ⟨rfl, rfl⟩ := q; exact K)
theorem z_callVI5p (F : z_F X S T cc own nL d) {y : MethodName} {b : ByteArray} {n idx d2 k : Nat} {ret : FieldType} {v1 v2 v3 v4 v5 : Value} {Post : Int32 → zD → Prop} (hC : z_CI S T y b n ret d2 (.ref k :: [v1, v2, v3, v4, v5]) D Post) (hL : z_LV own idx y b n (some ret) 5) (hd2 : d2 < d) (hO : z_Oc S k y.cls) (hcat : (st.map fun v => v.category).sum ≤ 8) (hn : L.length = nL) (hd : decode cc pc = .ok (.invokevirtual idx, 3)) (K : ∀ r E, Post r E → z_J X S (pc + 3) L (.int r :: st) E) : z_J X S pc L (v5 :: v4 :: v3 :: v2 :: v1 :: .ref k :: st) D := z_callVIg F (as := [v1, v2, v3, v4, v5]) hL hC hd2 hO hcat hn hd K
theorem z_callVVg (F : z_F X S T cc own nL d) {y : MethodName} {b : ByteArray} {n idx d2 k : Nat}  {as : List Value} {Post : zD → Prop} (hL : z_LV own idx y b n none as.length) (hC : z_CV S T y b n d2 (.ref k :: as) D Post) (hd2 : d2 < d) (hO : z_Oc S k y.cls) (hcat : (st.map fun v => v.category).sum ≤ 8) (hn : L.length = nL) (hd : decode cc pc = .ok (.invokevirtual idx, 3)) (K : ∀ E, Post E → z_J X S (pc + 3) L st E) : z_J X S pc L (as.reverse ++ .ref k :: st) D := by
  obtain ⟨p, l, e, R, s, m, args, below, meth, co, Q, G, cy, ad⟩ := X
  obtain ⟨hx, hb, hml, hown, hts, hK, hin, ok, hR, hT⟩ := F
  intro H locs ls hP hS hl
  subst hR
  obtain ⟨hw, hcode, hy, hn20⟩ := hL
  obtain ⟨c0, q0, hO1, hc0, hC0⟩ := hO
  have e1 : (as.reverse ++ .ref k :: st).map (z_v ad) = (as.map (z_v ad)).reverse ++ .ref (ad k) :: st.map (z_v ad) := by rw [List.map_append, List.map_reverse]; rfl
  rw [e1]
  refine va_callv (va_runV (As := as.map (z_v ad)) (rest := st.map (z_v ad)) (C := y.cls) ⟨hx, hb, hml, hown, hts⟩ (hC l G cy ad hin) (cwV as.length hts (z_goodIn hcode hw) rfl rfl rfl ⟨rfl, hy⟩ ⟨by show d2 + 1 ≤ d; omega, by show 8 + (n + 11) + 40 * d2 ≤ 40 * d; omega⟩) ⟨z_Bblind, ?_, fun U hU hW => ⟨rfl, by rw [hU]; exact hP, va_K.moved hW.alike hK, by rw [hU]; exact (hT.warm hW).kept hS.2.1⟩⟩ rfl (by simp) (hl.1.trans hn) rfl (lv_room (by rw [z_v_sum]; exact hcat)) hd ⟨Nat.le_refl _, Nat.le_refl _⟩) hS (fun _ _ q => q) (fun _ q => q) (fun u t H1 locs1 ht hvm hp hB hz hk hS1 => K u hp H1 locs1 ls (by rw [← ht]; exact hB) hS1 hl)
  have := va_recv hK hP hc0 ((z_w_at hO1.1).trans (by rw [z_celO hO1]))
  rw [hC0] at this
  exact this
theorem z_callSVg (F : z_F X S T cc own nL d) {y : MethodName} {b : ByteArray} {n idx d2 : Nat}  {as : List Value} {Post : zD → Prop} (hL : z_LS own idx y b n none as.length) (hC : z_CV S T y b n d2 as D Post) (hd2 : d2 < d) (hcat : (st.map fun v => v.category).sum ≤ 8) (hn : L.length = nL) (hd : decode cc pc = .ok (.invokestatic idx, 3)) (K : ∀ E, Post E → z_J X S (pc + 3) L st E) : z_J X S pc L (as.reverse ++ st) D := by
  obtain ⟨p, l, e, R, s, m, args, below, meth, co, Q, G, cy, ad⟩ := X
  obtain ⟨hx, hb, hml, hown, hts, hK, hin, ok, hR, hT⟩ := F
  intro H locs ls hP hS hl
  subst hR
  obtain ⟨hw, hcode, hy, hn20⟩ := hL
  have e1 : (as.reverse ++ st).map (z_v ad) = (as.map (z_v ad)).reverse ++ st.map (z_v ad) := by rw [List.map_append, List.map_reverse]
  rw [e1]
  exact va_callv (va_runS (As := as.map (z_v ad)) (rest := st.map (z_v ad)) ⟨hx, hb, hml, hown, hts⟩ (hC l G cy ad hin) (va_cwS as.length hts (z_goodIn hcode hw) rfl rfl rfl hy ⟨by show d2 + 1 ≤ d; omega, by show 8 + (n + 11) + 40 * d2 ≤ 40 * d; omega⟩) ⟨z_Bblind, fun U hU hW => ⟨rfl, by rw [hU]; exact hP, va_K.moved hW.alike hK, by rw [hU]; exact (hT.warm hW).kept hS.2.1⟩⟩ rfl (by simp) (hl.1.trans hn) rfl (lv_room (by rw [z_v_sum]; exact hcat)) hd ⟨Nat.le_refl _, Nat.le_refl _⟩) hS (fun _ _ q => q) (fun _ q => q) (fun u t H1 locs1 ht hvm hp hB hz hk hS1 => K u hp H1 locs1 ls (by rw [← ht]; exact hB) hS1 hl)
theorem z_callVV0 (F : z_F X S T cc own nL d) {y : MethodName} {b : ByteArray} {n idx d2 k : Nat}  {E : zD} (hC : z_CV S T y b n d2 (.ref k :: []) D (z_eqV E)) (hL : z_LV own idx y b n none 0) (hd2 : d2 < d) (hO : z_Oc S k y.cls) (hcat : (st.map fun v => v.category).sum ≤ 8) (hn : L.length = nL) (hd : decode cc pc = .ok (.invokevirtual idx, 3)) (K : z_J X S (pc + 3) L st E) : z_J X S pc L (.ref k :: st) D := z_callVVg F (as := []) hL hC hd2 hO hcat hn hd (fun E2 q => by cases q; exact K)
theorem z_callSV0 (F : z_F X S T cc own nL d) {y : MethodName} {b : ByteArray} {n idx d2 : Nat}  {E : zD} (hC : z_CV S T y b n d2 [] D (z_eqV E)) (hL : z_LS own idx y b n none 0) (hd2 : d2 < d) (hcat : (st.map fun v => v.category).sum ≤ 8) (hn : L.length = nL) (hd : decode cc pc = .ok (.invokestatic idx, 3)) (K : z_J X S (pc + 3) L st E) : z_J X S pc L (st) D := z_callSVg F (as := []) hL hC hd2 hcat hn hd (fun E2 q => by cases q; exact K)
theorem z_callVV1 (F : z_F X S T cc own nL d) {y : MethodName} {b : ByteArray} {n idx d2 k : Nat}  {v1 : Value} {E : zD} (hC : z_CV S T y b n d2 (.ref k :: [v1]) D (z_eqV E)) (hL : z_LV own idx y b n none 1) (hd2 : d2 < d) (hO : z_Oc S k y.cls) (hcat : (st.map fun v => v.category).sum ≤ 8) (hn : L.length = nL) (hd : decode cc pc = .ok (.invokevirtual idx, 3)) (K : z_J X S (pc + 3) L st E) : z_J X S pc L (v1 :: .ref k :: st) D := z_callVVg F (as := [v1]) hL hC hd2 hO hcat hn hd (fun E2 q => by cases q; exact K)
theorem z_callSV1 (F : z_F X S T cc own nL d) {y : MethodName} {b : ByteArray} {n idx d2 : Nat}  {v1 : Value} {E : zD} (hC : z_CV S T y b n d2 [v1] D (z_eqV E)) (hL : z_LS own idx y b n none 1) (hd2 : d2 < d) (hcat : (st.map fun v => v.category).sum ≤ 8) (hn : L.length = nL) (hd : decode cc pc = .ok (.invokestatic idx, 3)) (K : z_J X S (pc + 3) L st E) : z_J X S pc L (v1 :: st) D := z_callSVg F (as := [v1]) hL hC hd2 hcat hn hd (fun E2 q => by cases q; exact K)
theorem z_callVV2 (F : z_F X S T cc own nL d) {y : MethodName} {b : ByteArray} {n idx d2 k : Nat}  {v1 v2 : Value} {E : zD} (hC : z_CV S T y b n d2 (.ref k :: [v1, v2]) D (z_eqV E)) (hL : z_LV own idx y b n none 2) (hd2 : d2 < d) (hO : z_Oc S k y.cls) (hcat : (st.map fun v => v.category).sum ≤ 8) (hn : L.length = nL) (hd : decode cc pc = .ok (.invokevirtual idx, 3)) (K : z_J X S (pc + 3) L st E) : z_J X S pc L (v2 :: v1 :: .ref k :: st) D := z_callVVg F (as := [v1, v2]) hL hC hd2 hO hcat hn hd (fun E2 q => by cases q; exact K)
theorem z_callSV2 (F : z_F X S T cc own nL d) {y : MethodName} {b : ByteArray} {n idx d2 : Nat}  {v1 v2 : Value} {E : zD} (hC : z_CV S T y b n d2 [v1, v2] D (z_eqV E)) (hL : z_LS own idx y b n none 2) (hd2 : d2 < d) (hcat : (st.map fun v => v.category).sum ≤ 8) (hn : L.length = nL) (hd : decode cc pc = .ok (.invokestatic idx, 3)) (K : z_J X S (pc + 3) L st E) : z_J X S pc L (v2 :: v1 :: st) D := z_callSVg F (as := [v1, v2]) hL hC hd2 hcat hn hd (fun E2 q => by cases q; exact K)
theorem z_callVV3 (F : z_F X S T cc own nL d) {y : MethodName} {b : ByteArray} {n idx d2 k : Nat}  {v1 v2 v3 : Value} {E : zD} (hC : z_CV S T y b n d2 (.ref k :: [v1, v2, v3]) D (z_eqV E)) (hL : z_LV own idx y b n none 3) (hd2 : d2 < d) (hO : z_Oc S k y.cls) (hcat : (st.map fun v => v.category).sum ≤ 8) (hn : L.length = nL) (hd : decode cc pc = .ok (.invokevirtual idx, 3)) (K : z_J X S (pc + 3) L st E) : z_J X S pc L (v3 :: v2 :: v1 :: .ref k :: st) D := z_callVVg F (as := [v1, v2, v3]) hL hC hd2 hO hcat hn hd (fun E2 q => by cases q; exact K)
theorem z_callSV3 (F : z_F X S T cc own nL d) {y : MethodName} {b : ByteArray} {n idx d2 : Nat}  {v1 v2 v3 : Value} {E : zD} (hC : z_CV S T y b n d2 [v1, v2, v3] D (z_eqV E)) (hL : z_LS own idx y b n none 3) (hd2 : d2 < d) (hcat : (st.map fun v => v.category).sum ≤ 8) (hn : L.length = nL) (hd : decode cc pc = .ok (.invokestatic idx, 3)) (K : z_J X S (pc + 3) L st E) : z_J X S pc L (v3 :: v2 :: v1 :: st) D := z_callSVg F (as := [v1, v2, v3]) hL hC hd2 hcat hn hd (fun E2 q => by cases q; exact K)
theorem z_callVV4 (F : z_F X S T cc own nL d) {y : MethodName} {b : ByteArray} {n idx d2 k : Nat}  {v1 v2 v3 v4 : Value} {E : zD} (hC : z_CV S T y b n d2 (.ref k :: [v1, v2, v3, v4]) D (z_eqV E)) (hL : z_LV own idx y b n none 4) (hd2 : d2 < d) (hO : z_Oc S k y.cls) (hcat : (st.map fun v => v.category).sum ≤ 8) (hn : L.length = nL) (hd : decode cc pc = .ok (.invokevirtual idx, 3)) (K : z_J X S (pc + 3) L st E) : z_J X S pc L (v4 :: v3 :: v2 :: v1 :: .ref k :: st) D := z_callVVg F (as := [v1, v2, v3, v4]) hL hC hd2 hO hcat hn hd (fun E2 q => by cases q; exact K)
theorem z_callSV4 (F : z_F X S T cc own nL d) {y : MethodName} {b : ByteArray} {n idx d2 : Nat}  {v1 v2 v3 v4 : Value} {E : zD} (hC : z_CV S T y b n d2 [v1, v2, v3, v4] D (z_eqV E)) (hL : z_LS own idx y b n none 4) (hd2 : d2 < d) (hcat : (st.map fun v => v.category).sum ≤ 8) (hn : L.length = nL) (hd : decode cc pc = .ok (.invokestatic idx, 3)) (K : z_J X S (pc + 3) L st E) : z_J X S pc L (v4 :: v3 :: v2 :: v1 :: st) D := z_callSVg F (as := [v1, v2, v3, v4]) hL hC hd2 hcat hn hd (fun E2 q => by cases q; exact K)
theorem z_callVV5 (F : z_F X S T cc own nL d) {y : MethodName} {b : ByteArray} {n idx d2 k : Nat}  {v1 v2 v3 v4 v5 : Value} {E : zD} (hC : z_CV S T y b n d2 (.ref k :: [v1, v2, v3, v4, v5]) D (z_eqV E)) (hL : z_LV own idx y b n none 5) (hd2 : d2 < d) (hO : z_Oc S k y.cls) (hcat : (st.map fun v => v.category).sum ≤ 8) (hn : L.length = nL) (hd : decode cc pc = .ok (.invokevirtual idx, 3)) (K : z_J X S (pc + 3) L st E) : z_J X S pc L (v5 :: v4 :: v3 :: v2 :: v1 :: .ref k :: st) D := z_callVVg F (as := [v1, v2, v3, v4, v5]) hL hC hd2 hO hcat hn hd (fun E2 q => by cases q; exact K)
theorem z_callSV5 (F : z_F X S T cc own nL d) {y : MethodName} {b : ByteArray} {n idx d2 : Nat}  {v1 v2 v3 v4 v5 : Value} {E : zD} (hC : z_CV S T y b n d2 [v1, v2, v3, v4, v5] D (z_eqV E)) (hL : z_LS own idx y b n none 5) (hd2 : d2 < d) (hcat : (st.map fun v => v.category).sum ≤ 8) (hn : L.length = nL) (hd : decode cc pc = .ok (.invokestatic idx, 3)) (K : z_J X S (pc + 3) L st E) : z_J X S pc L (v5 :: v4 :: v3 :: v2 :: v1 :: st) D := z_callSVg F (as := [v1, v2, v3, v4, v5]) hL hC hd2 hcat hn hd (fun E2 q => by cases q; exact K)
theorem z_callVRg (F : z_F X S T cc own nL d) {y : MethodName} {b : ByteArray} {n idx d2 k : Nat} {ret : FieldType} {as : List Value} {k2 : Nat} {Post : zD → Prop} (hL : z_LV own idx y b n (some ret) as.length) (hC : z_CR S T y b n ret d2 (.ref k :: as) D k2 Post) (hd2 : d2 < d) (hO : z_Oc S k y.cls) (hcat : (st.map fun v => v.category).sum ≤ 8) (hn : L.length = nL) (hd : decode cc pc = .ok (.invokevirtual idx, 3)) (K : ∀ E, Post E → z_J X S (pc + 3) L (.ref k2 :: st) E) : z_J X S pc L (as.reverse ++ .ref k :: st) D := by
  obtain ⟨p, l, e, R, s, m, args, below, meth, co, Q, G, cy, ad⟩ := X
  obtain ⟨hx, hb, hml, hown, hts, hK, hin, ok, hR, hT⟩ := F
  intro H locs ls hP hS hl
  subst hR
  obtain ⟨hw, hcode, hy, hn20⟩ := hL
  obtain ⟨c0, q0, hO1, hc0, hC0⟩ := hO
  have e1 : (as.reverse ++ .ref k :: st).map (z_v ad) = (as.map (z_v ad)).reverse ++ .ref (ad k) :: st.map (z_v ad) := by rw [List.map_append, List.map_reverse]; rfl
  rw [e1]
  refine va_callr (va_runV (As := as.map (z_v ad)) (rest := st.map (z_v ad)) (C := y.cls) ⟨hx, hb, hml, hown, hts⟩ (hC l G cy ad hin) (cwV as.length hts (z_goodIn hcode hw) rfl rfl rfl ⟨rfl, hy⟩ ⟨by show d2 + 1 ≤ d; omega, by show 8 + (n + 11) + 40 * d2 ≤ 40 * d; omega⟩) ⟨z_Bblind, ?_, fun U hU hW => ⟨rfl, by rw [hU]; exact hP, va_K.moved hW.alike hK, by rw [hU]; exact (hT.warm hW).kept hS.2.1⟩⟩ rfl (by simp) (hl.1.trans hn) rfl (lv_room (by rw [z_v_sum]; exact hcat)) hd ⟨Nat.le_refl _, Nat.le_refl _⟩) hS (fun _ _ q => q) (fun _ q => q) (fun u ra t H1 locs1 ht hvm hp hB hz hk hS1 => by
    have e := hB.2
    subst e
    exact K u hp H1 locs1 ls (by rw [← ht]; exact hB.1) hS1 hl)
  have := va_recv hK hP hc0 ((z_w_at hO1.1).trans (by rw [z_celO hO1]))
  rw [hC0] at this
  exact this
theorem z_callSRg (F : z_F X S T cc own nL d) {y : MethodName} {b : ByteArray} {n idx d2 : Nat} {ret : FieldType} {as : List Value} {k2 : Nat} {Post : zD → Prop} (hL : z_LS own idx y b n (some ret) as.length) (hC : z_CR S T y b n ret d2 as D k2 Post) (hd2 : d2 < d) (hcat : (st.map fun v => v.category).sum ≤ 8) (hn : L.length = nL) (hd : decode cc pc = .ok (.invokestatic idx, 3)) (K : ∀ E, Post E → z_J X S (pc + 3) L (.ref k2 :: st) E) : z_J X S pc L (as.reverse ++ st) D := by
  obtain ⟨p, l, e, R, s, m, args, below, meth, co, Q, G, cy, ad⟩ := X
  obtain ⟨hx, hb, hml, hown, hts, hK, hin, ok, hR, hT⟩ := F
  intro H locs ls hP hS hl
  subst hR
  obtain ⟨hw, hcode, hy, hn20⟩ := hL
  have e1 : (as.reverse ++ st).map (z_v ad) = (as.map (z_v ad)).reverse ++ st.map (z_v ad) := by rw [List.map_append, List.map_reverse]
  rw [e1]
  exact va_callr (va_runS (As := as.map (z_v ad)) (rest := st.map (z_v ad)) ⟨hx, hb, hml, hown, hts⟩ (hC l G cy ad hin) (va_cwS as.length hts (z_goodIn hcode hw) rfl rfl rfl hy ⟨by show d2 + 1 ≤ d; omega, by show 8 + (n + 11) + 40 * d2 ≤ 40 * d; omega⟩) ⟨z_Bblind, fun U hU hW => ⟨rfl, by rw [hU]; exact hP, va_K.moved hW.alike hK, by rw [hU]; exact (hT.warm hW).kept hS.2.1⟩⟩ rfl (by simp) (hl.1.trans hn) rfl (lv_room (by rw [z_v_sum]; exact hcat)) hd ⟨Nat.le_refl _, Nat.le_refl _⟩) hS (fun _ _ q => q) (fun _ q => q) (fun u ra t H1 locs1 ht hvm hp hB hz hk hS1 => by
    have e := hB.2
    subst e
    exact K u hp H1 locs1 ls (by rw [← ht]; exact hB.1) hS1 hl)
theorem z_callVR0 (F : z_F X S T cc own nL d) {y : MethodName} {b : ByteArray} {n idx d2 k : Nat} {ret : FieldType} {E : zD} {k2 : Nat} (hC : z_CR S T y b n ret d2 (.ref k :: []) D k2 (z_eqV E)) (hL : z_LV own idx y b n (some ret) 0) (hd2 : d2 < d) (hO : z_Oc S k y.cls) (hcat : (st.map fun v => v.category).sum ≤ 8) (hn : L.length = nL) (hd : decode cc pc = .ok (.invokevirtual idx, 3)) (K : z_J X S (pc + 3) L (.ref k2 :: st) E) : z_J X S pc L (.ref k :: st) D := z_callVRg F (as := []) hL hC hd2 hO hcat hn hd (fun E2 q => by cases q; exact K)
theorem z_callSR0 (F : z_F X S T cc own nL d) {y : MethodName} {b : ByteArray} {n idx d2 : Nat} {ret : FieldType} {E : zD} {k2 : Nat} (hC : z_CR S T y b n ret d2 [] D k2 (z_eqV E)) (hL : z_LS own idx y b n (some ret) 0) (hd2 : d2 < d) (hcat : (st.map fun v => v.category).sum ≤ 8) (hn : L.length = nL) (hd : decode cc pc = .ok (.invokestatic idx, 3)) (K : z_J X S (pc + 3) L (.ref k2 :: st) E) : z_J X S pc L (st) D := z_callSRg F (as := []) hL hC hd2 hcat hn hd (fun E2 q => by cases q; exact K)
theorem z_callVR1 (F : z_F X S T cc own nL d) {y : MethodName} {b : ByteArray} {n idx d2 k : Nat} {ret : FieldType} {v1 : Value} {E : zD} {k2 : Nat} (hC : z_CR S T y b n ret d2 (.ref k :: [v1]) D k2 (z_eqV E)) (hL : z_LV own idx y b n (some ret) 1) (hd2 : d2 < d) (hO : z_Oc S k y.cls) (hcat : (st.map fun v => v.category).sum ≤ 8) (hn : L.length = nL) (hd : decode cc pc = .ok (.invokevirtual idx, 3)) (K : z_J X S (pc + 3) L (.ref k2 :: st) E) : z_J X S pc L (v1 :: .ref k :: st) D := z_callVRg F (as := [v1]) hL hC hd2 hO hcat hn hd (fun E2 q => by cases q; exact K)
theorem z_callSR1 (F : z_F X S T cc own nL d) {y : MethodName} {b : ByteArray} {n idx d2 : Nat} {ret : FieldType} {v1 : Value} {E : zD} {k2 : Nat} (hC : z_CR S T y b n ret d2 [v1] D k2 (z_eqV E)) (hL : z_LS own idx y b n (some ret) 1) (hd2 : d2 < d) (hcat : (st.map fun v => v.category).sum ≤ 8) (hn : L.length = nL) (hd : decode cc pc = .ok (.invokestatic idx, 3)) (K : z_J X S (pc + 3) L (.ref k2 :: st) E) : z_J X S pc L (v1 :: st) D := z_callSRg F (as := [v1]) hL hC hd2 hcat hn hd (fun E2 q => by cases q; exact K)
theorem z_callVR2 (F : z_F X S T cc own nL d) {y : MethodName} {b : ByteArray} {n idx d2 k : Nat} {ret : FieldType} {v1 v2 : Value} {E : zD} {k2 : Nat} (hC : z_CR S T y b n ret d2 (.ref k :: [v1, v2]) D k2 (z_eqV E)) (hL : z_LV own idx y b n (some ret) 2) (hd2 : d2 < d) (hO : z_Oc S k y.cls) (hcat : (st.map fun v => v.category).sum ≤ 8) (hn : L.length = nL) (hd : decode cc pc = .ok (.invokevirtual idx, 3)) (K : z_J X S (pc + 3) L (.ref k2 :: st) E) : z_J X S pc L (v2 :: v1 :: .ref k :: st) D := z_callVRg F (as := [v1, v2]) hL hC hd2 hO hcat hn hd (fun E2 q => by cases q; exact K)
theorem z_callSR2 (F : z_F X S T cc own nL d) {y : MethodName} {b : ByteArray} {n idx d2 : Nat} {ret : FieldType} {v1 v2 : Value} {E : zD} {k2 : Nat} (hC : z_CR S T y b n ret d2 [v1, v2] D k2 (z_eqV E)) (hL : z_LS own idx y b n (some ret) 2) (hd2 : d2 < d) (hcat : (st.map fun v => v.category).sum ≤ 8) (hn : L.length = nL) (hd : decode cc pc = .ok (.invokestatic idx, 3)) (K : z_J X S (pc + 3) L (.ref k2 :: st) E) : z_J X S pc L (v2 :: v1 :: st) D := z_callSRg F (as := [v1, v2]) hL hC hd2 hcat hn hd (fun E2 q => by cases q; exact K)
theorem z_callVR3 (F : z_F X S T cc own nL d) {y : MethodName} {b : ByteArray} {n idx d2 k : Nat} {ret : FieldType} {v1 v2 v3 : Value} {E : zD} {k2 : Nat} (hC : z_CR S T y b n ret d2 (.ref k :: [v1, v2, v3]) D k2 (z_eqV E)) (hL : z_LV own idx y b n (some ret) 3) (hd2 : d2 < d) (hO : z_Oc S k y.cls) (hcat : (st.map fun v => v.category).sum ≤ 8) (hn : L.length = nL) (hd : decode cc pc = .ok (.invokevirtual idx, 3)) (K : z_J X S (pc + 3) L (.ref k2 :: st) E) : z_J X S pc L (v3 :: v2 :: v1 :: .ref k :: st) D := z_callVRg F (as := [v1, v2, v3]) hL hC hd2 hO hcat hn hd (fun E2 q => by cases q; exact K)
theorem z_callSR3 (F : z_F X S T cc own nL d) {y : MethodName} {b : ByteArray} {n idx d2 : Nat} {ret : FieldType} {v1 v2 v3 : Value} {E : zD} {k2 : Nat} (hC : z_CR S T y b n ret d2 [v1, v2, v3] D k2 (z_eqV E)) (hL : z_LS own idx y b n (some ret) 3) (hd2 : d2 < d) (hcat : (st.map fun v => v.category).sum ≤ 8) (hn : L.length = nL) (hd : decode cc pc = .ok (.invokestatic idx, 3)) (K : z_J X S (pc + 3) L (.ref k2 :: st) E) : z_J X S pc L (v3 :: v2 :: v1 :: st) D := z_callSRg F (as := [v1, v2, v3]) hL hC hd2 hcat hn hd (fun E2 q => by cases q; exact K)
theorem z_callVR4 (F : z_F X S T cc own nL d) {y : MethodName} {b : ByteArray} {n idx d2 k : Nat} {ret : FieldType} {v1 v2 v3 v4 : Value} {E : zD} {k2 : Nat} (hC : z_CR S T y b n ret d2 (.ref k :: [v1, v2, v3, v4]) D k2 (z_eqV E)) (hL : z_LV own idx y b n (some ret) 4) (hd2 : d2 < d) (hO : z_Oc S k y.cls) (hcat : (st.map fun v => v.category).sum ≤ 8) (hn : L.length = nL) (hd : decode cc pc = .ok (.invokevirtual idx, 3)) (K : z_J X S (pc + 3) L (.ref k2 :: st) E) : z_J X S pc L (v4 :: v3 :: v2 :: v1 :: .ref k :: st) D := z_callVRg F (as := [v1, v2, v3, v4]) hL hC hd2 hO hcat hn hd (fun E2 q => by cases q; exact K)
theorem z_callSR4 (F : z_F X S T cc own nL d) {y : MethodName} {b : ByteArray} {n idx d2 : Nat} {ret : FieldType} {v1 v2 v3 v4 : Value} {E : zD} {k2 : Nat} (hC : z_CR S T y b n ret d2 [v1, v2, v3, v4] D k2 (z_eqV E)) (hL : z_LS own idx y b n (some ret) 4) (hd2 : d2 < d) (hcat : (st.map fun v => v.category).sum ≤ 8) (hn : L.length = nL) (hd : decode cc pc = .ok (.invokestatic idx, 3)) (K : z_J X S (pc + 3) L (.ref k2 :: st) E) : z_J X S pc L (v4 :: v3 :: v2 :: v1 :: st) D := z_callSRg F (as := [v1, v2, v3, v4]) hL hC hd2 hcat hn hd (fun E2 q => by cases q; exact K)
theorem z_callVR5 (F : z_F X S T cc own nL d) {y : MethodName} {b : ByteArray} {n idx d2 k : Nat} {ret : FieldType} {v1 v2 v3 v4 v5 : Value} {E : zD} {k2 : Nat} (hC : z_CR S T y b n ret d2 (.ref k :: [v1, v2, v3, v4, v5]) D k2 (z_eqV E)) (hL : z_LV own idx y b n (some ret) 5) (hd2 : d2 < d) (hO : z_Oc S k y.cls) (hcat : (st.map fun v => v.category).sum ≤ 8) (hn : L.length = nL) (hd : decode cc pc = .ok (.invokevirtual idx, 3)) (K : z_J X S (pc + 3) L (.ref k2 :: st) E) : z_J X S pc L (v5 :: v4 :: v3 :: v2 :: v1 :: .ref k :: st) D := z_callVRg F (as := [v1, v2, v3, v4, v5]) hL hC hd2 hO hcat hn hd (fun E2 q => by cases q; exact K)
theorem z_callSR5 (F : z_F X S T cc own nL d) {y : MethodName} {b : ByteArray} {n idx d2 : Nat} {ret : FieldType} {v1 v2 v3 v4 v5 : Value} {E : zD} {k2 : Nat} (hC : z_CR S T y b n ret d2 [v1, v2, v3, v4, v5] D k2 (z_eqV E)) (hL : z_LS own idx y b n (some ret) 5) (hd2 : d2 < d) (hcat : (st.map fun v => v.category).sum ≤ 8) (hn : L.length = nL) (hd : decode cc pc = .ok (.invokestatic idx, 3)) (K : z_J X S (pc + 3) L (.ref k2 :: st) E) : z_J X S pc L (v5 :: v4 :: v3 :: v2 :: v1 :: st) D := z_callSRg F (as := [v1, v2, v3, v4, v5]) hL hC hd2 hcat hn hd (fun E2 q => by cases q; exact K)
end ZH
