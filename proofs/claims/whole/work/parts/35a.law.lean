/-! THE CLAIM OUT OF ONE WALK OF THE LAW'S BODY. Your part is whole_start (and what it stands on); all else here is the same for every law, but numbers. -/
def R_law : String := "PocketHoleLaw"
def lw_P (b : Addr) (xs : List Int32) (args : Array Value) (s : State) : Prop := args = #[.ref b] ∧ s.IntsAt b xs ∧ xs.length ≤ 3072 ∧ (Jvm.Cond.and given_1 narrow_1).before args s = true
def lw_Q (_ : Array Value) (s : State) (o : Outcome) (t : State) : Prop := o = .returned (some (.int 1)) ∧ Framed s o t [] 600000 7302250
def lw_Z (below : List Frame) (a : Array Value) (s : State) : State → Prop := fun t => ∃ o, t.status = .running ∧ Ended t below o ∧ lw_Q a s o t
/-- the law's own end, with 1 on the stack, nothing written that was there before, its room as the claim has it -/
theorem lw_ret {p : Program} {l : Launch} {e : Env} {s : State} {m : MethodId} {below : List Frame} {meth : Method} {c : Code} {b : Nat} (hx : p.tables.exec = Jvm.exec) (hb : c.code = code) (hr : meth.sig.returnType = ret) (hlocks : meth.locks = false) {pc : Nat} {H : Heap} {ls : Array Slot} (hdg : decode code pc = .ok (.ireturn, 1)) : W p l e room_1 s m #[Value.ref b] below meth c H [] 600000 7302250 (lw_Z below #[Value.ref b] s) (F0 m pc ls [.int 1]) := by
  intro T hT X
  obtain ⟨fs, hret, hrun, hended, hW, hframe⟩ := X.leave (v := some (.int 1)) (hlocks := hlocks) (fun h => by rw [hr] at h; cases h)
  have hmeth' : T.vm.method? m = some meth := X.method'
  refine ⟨T.setFrames fs, ?_, .returned (some (.int 1)), hrun, hended, rfl, ⟨_, rfl⟩, hW, hframe⟩
  jvm_step X.here [X.here.top, hx, hb, hdg, hmeth', hr, ret, narrow_b1]
  (try refine ⟨rfl, ?_⟩); (try refine ⟨rfl, ?_⟩)
  first | (intro acts; rw [hret _ acts rfl rfl rfl]) | rw [hret _ _ rfl rfl rfl]
  exact Steps.refl _
/-- what holds at the law's entry: the machine, the code, the tables' words (any of lw_tbl by 'hts w (by decide +kernel)'), the script of L ints xs at the cell b, what the Statement gives of the start (any of its parts by flat_of_before) -/
def lw_At (p : Program) (s : State) (m : MethodId) (meth : Method) (c : Code) (b L : Nat) (xs : Nat → Int32) : Prop :=
  p.tables.exec = Jvm.exec ∧ c.code = code ∧ meth.sig.returnType = ret ∧ c.maxLocals = 4 ∧ s.vm.findClass R_law = some m.cls ∧ (∀ w ∈ lw_tbl, w.before #[Value.ref b] s = true) ∧ va_X b L xs s s.heap ∧ b < s.heap.size ∧ meth.locks = false ∧ (Jvm.Cond.and given_1 narrow_1).before #[Value.ref b] s = true

/-! THE LAW'S LOOP: two worlds, the script, the place in it -/
abbrev kX : Type := Program × Launch × Env × State × MethodId × List Frame × Method × Code × Nat × Nat × (Nat → Int32) × va_G × (Nat → ClassId) × (Nat → Nat) × (Nat → Nat)
def k_F (X : kX) : Prop := match X with
  | (p, _, _, s, m, _, meth, c, b, L, xs, G, cy, aX, aM) => p.tables.exec = Jvm.exec ∧ c.code = cL_law ∧ meth.sig.returnType = ret ∧ c.maxLocals = 4 ∧ s.vm.findClass RL = some m.cls ∧ (∀ w ∈ wsL_law, w.before #[Value.ref b] s = true) ∧ va_X b L xs s s.heap ∧ b < s.heap.size ∧ meth.locks = false ∧ L ≤ 3072 ∧ va_K G vwCl (z_tys cy) s ∧ z_in SX aX ∧ z_in SM aM ∧ z_T zT aX (z_A SX aX) s s.heap ∧ z_T zT aM (z_A SM aM) s s.heap ∧ (∀ q, z_A SX aX q → s.heap.size ≤ q) ∧ (∀ q, z_A SM aM q → s.heap.size ≤ q) ∧ ∀ q, z_A SX aX q → ¬ z_A SM aM q
def k_J (X : kX) (pc : Nat) (i : Int32) (st : List Value) (D E : zD) : Prop := match X with
  | (p, l, e, s, m, below, meth, c, b, _, _, G, cy, aX, aM) => ∀ (H : Heap) (locs : List Loc) (ls : Array Slot), va_P G vwCl (z_w SX cy aX D) H → va_P G vwCl (z_w SM cy aM E) H → va_S (fun q : Nat => s.heap.size ≤ q) s.heap H locs → lv_has ls 4 [(3, .int i), (2, .ref (aM 0)), (1, .ref (aX 0)), (0, .ref b)] → W p l e room_1 s m #[Value.ref b] below meth c H locs 600000 7302250 (lw_Z below #[Value.ref b] s) (F0 m pc ls st)
def k_L (X : kX) : Nat := match X with
  | (_, _, _, _, _, _, _, _, _, L, _, _, _, _, _) => L
def k_x (X : kX) (k : Nat) : Int32 := match X with
  | (_, _, _, _, _, _, _, _, _, _, xs, _, _, _, _) => xs k
def k_X0 (X : kX) : Nat := match X with
  | (_, _, _, _, _, _, _, _, _, _, _, _, _, aX, _) => aX 0
def k_M0 (X : kX) : Nat := match X with
  | (_, _, _, _, _, _, _, _, _, _, _, _, _, _, aM) => aM 0
section KJ
variable {X : kX} {pc k0 : Nat} {st : List Value} {D E : zD}
theorem k_X (F : k_F X) {i : Int32} (hd : decode cL_law pc = .ok (.aload_n 1, 1)) (K : k_J X (pc + 1) i (.ref (k_X0 X) :: st) D E) : k_J X pc i st D E := by
  obtain ⟨p, l, e, s, m, below, meth, c, b, L, xs, G, cy, aX, aM⟩ := X
  obtain ⟨hx, hb, hr, hml, hown, hts, hX, hbl, hlk, hL, hK, hiX, hiM, hTX, hTM, hAX, hAM, hXM⟩ := F
  intro H locs ls hP hP2 hS hl
  exact lv_aload_n hx hb hd rfl (lv_at hl 2 rfl) (K H locs ls hP hP2 hS hl)
theorem k_M (F : k_F X) {i : Int32} (hd : decode cL_law pc = .ok (.aload_n 2, 1)) (K : k_J X (pc + 1) i (.ref (k_M0 X) :: st) D E) : k_J X pc i st D E := by
  obtain ⟨p, l, e, s, m, below, meth, c, b, L, xs, G, cy, aX, aM⟩ := X
  obtain ⟨hx, hb, hr, hml, hown, hts, hX, hbl, hlk, hL, hK, hiX, hiM, hTX, hTM, hAX, hAM, hXM⟩ := F
  intro H locs ls hP hP2 hS hl
  exact lv_aload_n hx hb hd rfl (lv_at hl 1 rfl) (K H locs ls hP hP2 hS hl)
/-- an argument out of the script -/
theorem k_arg (F : k_F X) (hk : k0 + 6 ≤ k_L X) (j : Nat) {n : Int} (hn : Int32.ofInt n = nI j) (hj : j < 6) (d0 : decode cL_law pc = .ok (.aload_n 0, 1)) (d1 : decode cL_law (pc + 1) = .ok (.iload_n 3, 1)) (d2 : decode cL_law (pc + 2) = .ok (.iconst n, 1)) (d3 : decode cL_law (pc + 3) = .ok (.iadd, 1)) (d4 : decode cL_law (pc + 4) = .ok (.iaload, 1)) (K : k_J X (pc + 5) (nI k0) (.int (k_x X (k0 + j)) :: st) D E) : k_J X pc (nI k0) st D E := by
  obtain ⟨p, l, e, s, m, below, meth, c, b, L, xs, G, cy, aX, aM⟩ := X
  obtain ⟨hx, hb, hr, hml, hown, hts, hX, hbl, hlk, hL, hK, hiX, hiM, hTX, hTM, hAX, hAM, hXM⟩ := F
  intro H locs ls hP hP2 hS hl
  have hk : k0 + 6 ≤ L := hk
  refine lv_aload_n hx hb d0 rfl (lv_at hl 3 rfl) ?_
  refine lv_iload_n hx hb d1 rfl (lv_at hl 0 rfl) ?_
  refine lv_iconst hx hb d2 hn ?_
  refine lv_iadd hx hb d3 ?_
  rw [nI_add]
  refine va_sld hx hb hX hbl (Nat.not_le.mpr hbl) hS (vp_in_nI (show k0 + j < L by omega) (by omega)) d4 ?_
  rw [nI_clamp (by omega)]
  exact K H locs ls hP hP2 hS hl
/-- the class's call -/
theorem k_callX (F : k_F X) {i : Int32} {y : MethodName} {b : ByteArray} {n idx d2 : Nat} {as : List Value} {Post : Int32 → zD → Prop} (has : ∀ ad : Nat → Nat, as.map (z_v ad) = as) (hcl : y.cls = RX4) (hL : z_LV RL idx y b n (some .int) as.length) (hC : z_CI SX zT y b n .int d2 (.ref 0 :: as) D Post) (hd2 : d2 ≤ 10) (hcat : (st.map fun v => v.category).sum ≤ 8) (hd : decode cL_law pc = .ok (.invokevirtual idx, 3)) (K : ∀ r D2, Post r D2 → k_J X (pc + 3) i (.int r :: st) D2 E) : k_J X pc i (as.reverse ++ .ref (k_X0 X) :: st) D E := by
  obtain ⟨p, l, e, s, m, below, meth, c, bb, L, xs, G, cy, aX, aM⟩ := X
  obtain ⟨hx, hb, hr, hml, hown, hts, hX, hbl, hlk, hL3, hK, hiX, hiM, hTX, hTM, hAX, hAM, hXM⟩ := F
  intro H locs ls hP hP2 hS hl
  obtain ⟨hw, hcode, hy, hn20⟩ := hL
  have hkp : ∀ a : Nat, a < s.heap.size → ¬ z_A SX aX a → H[a]? = s.heap[a]? := fun a h1 _ => hS.2.1 a h1 (Nat.not_le.mpr h1)
  refine va_calli (va_runV (As := as) (rest := st) (C := y.cls) ⟨hx, hb, hml, hown, hts⟩ (hC l G cy aX hiX) (cwV as.length hts (z_goodIn hcode hw) rfl rfl rfl ⟨rfl, hy⟩ ⟨by show d2 + 1 ≤ 13; omega, by show 8 + (n + 11) + 40 * d2 ≤ 486; omega⟩) ⟨z_Bblind, ?_, fun U hU hW => ⟨by show (Value.ref (aX 0) :: as).toArray = (Value.ref (aX 0) :: as.map (z_v aX)).toArray; rw [has], by rw [hU]; exact hP, va_K.moved hW.alike hK, by rw [hU]; exact (hTX.warm hW).kept hkp⟩⟩ rfl rfl hl.1 rfl (lv_room hcat) hd ⟨Nat.le_refl _, Nat.le_refl _⟩) hS (fun q _ z => hAX q z) (fun q z => hAX q z) (fun r u t H1 locs1 ht hvm hp hB hz hk hS1 => K r u hp H1 locs1 ls (by rw [← ht]; exact hB) (hP2.kept (fun k q hq => hk q.1 (hP2 k q hq).lt (fun z => ?_))) hS1 hl)
  · rw [hcl]
    exact va_recv hK hP (ci := 4) (q0 := 0) rfl ((z_w_at (k := 0) (by decide)).trans (congrArg (fun z => some (aX 0, z)) (z_celO oPH)))
  · refine hXM q.1 z ?_
    have hk2 : k < zN SM := by
      have := (List.getElem?_eq_some_iff.mp hq).1
      rw [z_w, List.length_map, List.length_range] at this
      exact this
    rw [z_w_at hk2] at hq
    cases hq
    exact ⟨k, hk2, rfl⟩
/-- the reference's call -/
theorem k_callM (F : k_F X) {i : Int32} {y : MethodName} {b : ByteArray} {n idx d2 : Nat} {as : List Value} {Post : Int32 → zD → Prop} (has : ∀ ad : Nat → Nat, as.map (z_v ad) = as) (hcl : y.cls = RX5) (hL : z_LV RL idx y b n (some .int) as.length) (hC : z_CI SM zT y b n .int d2 (.ref 0 :: as) E Post) (hd2 : d2 ≤ 10) (hcat : (st.map fun v => v.category).sum ≤ 8) (hd : decode cL_law pc = .ok (.invokevirtual idx, 3)) (K : ∀ r E2, Post r E2 → k_J X (pc + 3) i (.int r :: st) D E2) : k_J X pc i (as.reverse ++ .ref (k_M0 X) :: st) D E := by
  obtain ⟨p, l, e, s, m, below, meth, c, bb, L, xs, G, cy, aX, aM⟩ := X
  obtain ⟨hx, hb, hr, hml, hown, hts, hX, hbl, hlk, hL3, hK, hiX, hiM, hTX, hTM, hAX, hAM, hXM⟩ := F
  intro H locs ls hP hP2 hS hl
  obtain ⟨hw, hcode, hy, hn20⟩ := hL
  have hkp : ∀ a : Nat, a < s.heap.size → ¬ z_A SM aM a → H[a]? = s.heap[a]? := fun a h1 _ => hS.2.1 a h1 (Nat.not_le.mpr h1)
  refine va_calli (va_runV (As := as) (rest := st) (C := y.cls) ⟨hx, hb, hml, hown, hts⟩ (hC l G cy aM hiM) (cwV as.length hts (z_goodIn hcode hw) rfl rfl rfl ⟨rfl, hy⟩ ⟨by show d2 + 1 ≤ 13; omega, by show 8 + (n + 11) + 40 * d2 ≤ 486; omega⟩) ⟨z_Bblind, ?_, fun U hU hW => ⟨by show (Value.ref (aM 0) :: as).toArray = (Value.ref (aM 0) :: as.map (z_v aM)).toArray; rw [has], by rw [hU]; exact hP2, va_K.moved hW.alike hK, by rw [hU]; exact (hTM.warm hW).kept hkp⟩⟩ rfl rfl hl.1 rfl (lv_room hcat) hd ⟨Nat.le_refl _, Nat.le_refl _⟩) hS (fun q _ z => hAM q z) (fun q z => hAM q z) (fun r u t H1 locs1 ht hvm hp hB hz hk hS1 => K r u hp H1 locs1 ls (hP.kept (fun k q hq => hk q.1 (hP k q hq).lt (fun z => ?_))) (by rw [← ht]; exact hB) hS1 hl)
  · rw [hcl]
    exact va_recv hK hP2 (ci := 5) (q0 := 0) rfl ((z_w_at (k := 0) (by decide)).trans (congrArg (fun z => some (aM 0, z)) (z_celO oM)))
  · refine hXM q.1 ?_ z
    have hk2 : k < zN SX := by
      have := (List.getElem?_eq_some_iff.mp hq).1
      rw [z_w, List.length_map, List.length_range] at this
      exact this
    rw [z_w_at hk2] at hq
    cases hq
    exact ⟨k, hk2, rfl⟩
/-- alike: on to the next -/
theorem k_same (F : k_F X) {i r r2 : Int32} {off : Int} (hr : r = r2) (hd : decode cL_law pc = .ok (.if_icmp .eq off, 3)) (ht : (pc : Int) + off = ((1568 : Nat) : Int)) (K : k_J X 1568 i [] D E) : k_J X pc i [.int r2, .int r] D E := by
  obtain ⟨p, l, e, s, m, below, meth, c, b, L, xs, G, cy, aX, aM⟩ := X
  obtain ⟨hx, hb, hret, hml, hown, hts, hX, hbl, hlk, hL, hK, hiX, hiM, hTX, hTM, hAX, hAM, hXM⟩ := F
  intro H locs ls hP hP2 hS hl
  exact lv_icmp_eq (tgt := 1568) hx hb hd ht (fun _ => K H locs ls hP hP2 hS hl) (fun h => absurd hr h)
/-- the loop's foot -/
theorem k_foot (F : k_F X) (K : k_J X 18 (nI (k0 + 6)) [] D E) : k_J X 1568 (nI k0) [] D E := by
  obtain ⟨p, l, e, s, m, below, meth, c, b, L, xs, G, cy, aX, aM⟩ := X
  obtain ⟨hx, hb, hret, hml, hown, hts, hX, hbl, hlk, hL, hK, hiX, hiM, hTX, hTM, hAX, hAM, hXM⟩ := F
  intro H locs ls hP hP2 hS hl
  refine lv_iinc (v := nI (k0 + 6)) (lv' := [(3, .int (nI (k0 + 6))), (2, .ref (aM 0)), (1, .ref (aX 0)), (0, .ref b)]) hx hb dL_law_1568 hl (k := 0) rfl ((nI_add k0 6)) (by decide) rfl (fun ls hl => ?_)
  exact lv_goto (tgt := 18) hx hb dL_law_1571 (by decide) (K H locs ls hP hP2 hS hl)
/-- the end -/
theorem k_end (F : k_F X) {i : Int32} : k_J X 1574 i [] D E := by
  obtain ⟨p, l, e, s, m, below, meth, c, b, L, xs, G, cy, aX, aM⟩ := X
  obtain ⟨hx, hb, hret, hml, hown, hts, hX, hbl, hlk, hL, hK, hiX, hiM, hTX, hTM, hAX, hAM, hXM⟩ := F
  intro H locs ls hP hP2 hS hl
  refine lv_iconst (v := 1) hx hb dL_law_1574 (by decide) ?_
  refine va_forget (fun q hq => hS.2.2 q hq) ?_
  exact lw_ret hx hb hret hlk dL_law_1575
theorem i_and63 (x : Int32) : ∃ v, v < 64 ∧ x &&& 63 = nI v := by
  refine ⟨(x &&& 63).toBitVec.toNat, ?_, ?_⟩
  · rw [Int32.toBitVec_and, BitVec.toNat_and]
    exact Nat.lt_succ_of_le Nat.and_le_right
  · apply Int32.toBitVec_inj.mp
    show _ = BitVec.ofNat 32 _
    rw [BitVec.ofNat_toNat, BitVec.setWidth_eq]
/-- the loop's head: an arm for each of the fifty -/
theorem k_head (F : k_F X) (hk : k0 ≤ k_L X) (arms : k0 + 6 ≤ k_L X → ∀ v, v < 64 → k_J X 33 (nI k0) [.int (nI v)] D E) : k_J X 18 (nI k0) [] D E := by
  obtain ⟨p, l, e, s, m, below, meth, c, b, L, xs, G, cy, aX, aM⟩ := X
  have F0' := F
  obtain ⟨hx, hb, hret, hml, hown, hts, hX, hbl, hlk, hL, hK, hiX, hiM, hTX, hTM, hAX, hAM, hXM⟩ := F
  intro H locs ls hP hP2 hS hl
  have hk : k0 ≤ L := hk
  refine lv_iload_n hx hb dL_law_18 rfl (lv_at hl 0 rfl) ?_
  refine lv_aload_n hx hb dL_law_19 rfl (lv_at hl 3 rfl) ?_
  refine va_slen hx hb hX hbl (Nat.not_le.mpr hbl) hS dL_law_20 ?_
  refine lv_bipush (v := 6) hx hb dL_law_21 (by decide) ?_
  refine lv_isub hx hb dL_law_23 ?_
  have e6 : (Int32.ofNat L - 6).toInt = (L : Int) - 6 := by
    rw [Int32.toInt_sub, show (Int32.ofNat L).toInt = (L : Int) from nI_toInt (by omega), show (6 : Int32).toInt = 6 from rfl, Int.bmod_def]
    omega
  refine lv_icmp_gt (tgt := 1574) hx hb dL_law_24 (by decide) (fun _ => k_end F0' H locs ls hP hP2 hS hl) (fun h => ?_)
  have hk6 : k0 + 6 ≤ L := by
    rcases Nat.lt_or_ge L (k0 + 6) with z | z
    · refine absurd ?_ h
      show Int32.ofNat L - 6 < nI k0
      rw [Int32.lt_iff_toInt_lt, e6, nI_toInt (by omega)]
      omega
    · exact z
  refine lv_aload_n hx hb dL_law_27 rfl (lv_at hl 3 rfl) ?_
  refine lv_iload_n hx hb dL_law_28 rfl (lv_at hl 0 rfl) ?_
  refine va_sld hx hb hX hbl (Nat.not_le.mpr hbl) hS (vp_in_nI (show k0 < L by omega) (by omega)) dL_law_29 ?_
  refine lv_bipush (v := 63) hx hb dL_law_30 (by decide) ?_
  refine lv_iand hx hb dL_law_32 ?_
  obtain ⟨v, hv, ev⟩ := i_and63 (xs (nI k0).toNatClampNeg)
  rw [ev]
  exact arms hk6 v hv H locs ls hP hP2 hS hl
theorem k_sw (F : k_F X) {i : Int32} {v tgt : Nat} {off : Int} (hv : v < 50) (ho : (#[215, 238, 271, 314, 347, 380, 393, 416, 439, 462, 485, 518, 541, 564, 577, 610, 643, 676, 699, 722, 745, 768, 791, 814, 837, 860, 873, 906, 939, 962, 995, 1018, 1051, 1074, 1097, 1120, 1153, 1166, 1179, 1212, 1245, 1288, 1331, 1394, 1417, 1450, 1463, 1476, 1489, 1512] : Array Int)[v]? = some off) (ht : (33 : Int) + off = (tgt : Int)) (K : k_J X tgt i [] D E) : k_J X 33 i [.int (nI v)] D E := by
  obtain ⟨p, l, e, s, m, below, meth, c, b, L, xs, G, cy, aX, aM⟩ := X
  obtain ⟨hx, hb, hret, hml, hown, hts, hX, hbl, hlk, hL, hK, hiX, hiM, hTX, hTM, hAX, hAM, hXM⟩ := F
  intro H locs ls hP hP2 hS hl
  have e : (nI v).toInt = (v : Int) := nI_toInt (by omega)
  exact lv_tableIn (tgt := tgt) hx hb dL_law_33 (by rw [e]; omega) (by rw [e]; omega) (off := off) (by rw [e, show ((v : Int) - 0).toNat = v by omega]; exact ho) ht (K H locs ls hP hP2 hS hl)
theorem k_out (F : k_F X) {i : Int32} {v : Nat} (hv : 50 ≤ v) (h64 : v < 64) (K : k_J X 1568 i [] D E) : k_J X 33 i [.int (nI v)] D E := by
  obtain ⟨p, l, e, s, m, below, meth, c, b, L, xs, G, cy, aX, aM⟩ := X
  obtain ⟨hx, hb, hret, hml, hown, hts, hX, hbl, hlk, hL, hK, hiX, hiM, hTX, hTM, hAX, hAM, hXM⟩ := F
  intro H locs ls hP hP2 hS hl
  have e : (nI v).toInt = (v : Int) := nI_toInt (by omega)
  exact lv_tableOut (tgt := 1568) hx hb dL_law_33 (by rw [e]; right; omega) (by decide) (K H locs ls hP hP2 hS hl)
end KJ
