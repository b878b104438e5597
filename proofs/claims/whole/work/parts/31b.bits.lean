def i_bc (x : Int32) : Int32 :=
  let a := x - ((x.toUInt32 >>> ((1 : Int32).toUInt32 &&& Int32.toUInt32 31)).toInt32 &&& 1431655765)
  let b := (a &&& 858993459) + ((a.toUInt32 >>> ((2 : Int32).toUInt32 &&& Int32.toUInt32 31)).toInt32 &&& 858993459)
  let c := (b + (b.toUInt32 >>> ((4 : Int32).toUInt32 &&& Int32.toUInt32 31)).toInt32) &&& 252645135
  let d := c + (c.toUInt32 >>> ((8 : Int32).toUInt32 &&& Int32.toUInt32 31)).toInt32
  let e := d + (d.toUInt32 >>> ((16 : Int32).toUInt32 &&& Int32.toUInt32 31)).toInt32
  e &&& 63
theorem i_bc_n : ∀ m, m < 1024 → i_bc (nI m) = nI (p_pop m) := by decide +kernel
set_option maxHeartbeats 1000000 in
set_option maxRecDepth 20000 in
theorem cj_bits (D : zD) (k : Nat) (hk : k < 1024) : z_CI SX zT yJ6_bitCount_0f7a4 cJ6_bitCount_0f7a4 1 .int 0 [.int (nI k)] D (z_eq (nI (p_pop k)) D) := by
  refine z_startI SX_ok (by decide +kernel) (fun v hv => by simp at hv; subst hv; rfl) (Nat.le_of_ble_eq_true rfl) (fun X F hR => ?_)
  show z_J X SX 0 [some (.int (nI k))] [] D
  refine z_iload0 F dJ6_bitCount_0f7a4_0 ?_
  refine z_iload0 F dJ6_bitCount_0f7a4_1 ?_
  refine z_iconst F 1 dJ6_bitCount_0f7a4_2 zv_i_1 ?_
  refine z_iushr F dJ6_bitCount_0f7a4_3 ?_
  refine z_ldcw F 1431655765 dJ6_bitCount_0f7a4_4 zw_278 ?_
  refine z_iand F dJ6_bitCount_0f7a4_7 ?_
  refine z_isub F dJ6_bitCount_0f7a4_8 ?_
  refine z_istore0 F dJ6_bitCount_0f7a4_9 ?_
  refine z_iload0 F dJ6_bitCount_0f7a4_10 ?_
  refine z_ldcw F 858993459 dJ6_bitCount_0f7a4_11 zw_279 ?_
  refine z_iand F dJ6_bitCount_0f7a4_14 ?_
  refine z_iload0 F dJ6_bitCount_0f7a4_15 ?_
  refine z_iconst F 2 dJ6_bitCount_0f7a4_16 zv_i_2 ?_
  refine z_iushr F dJ6_bitCount_0f7a4_17 ?_
  refine z_ldcw F 858993459 dJ6_bitCount_0f7a4_18 zw_279 ?_
  refine z_iand F dJ6_bitCount_0f7a4_21 ?_
  refine z_iadd F dJ6_bitCount_0f7a4_22 ?_
  refine z_istore0 F dJ6_bitCount_0f7a4_23 ?_
  refine z_iload0 F dJ6_bitCount_0f7a4_24 ?_
  refine z_iload0 F dJ6_bitCount_0f7a4_25 ?_
  refine z_iconst F 4 dJ6_bitCount_0f7a4_26 zv_i_4 ?_
  refine z_iushr F dJ6_bitCount_0f7a4_27 ?_
  refine z_iadd F dJ6_bitCount_0f7a4_28 ?_
  refine z_ldcw F 252645135 dJ6_bitCount_0f7a4_29 zw_280 ?_
  refine z_iand F dJ6_bitCount_0f7a4_32 ?_
  refine z_istore0 F dJ6_bitCount_0f7a4_33 ?_
  refine z_iload0 F dJ6_bitCount_0f7a4_34 ?_
  refine z_iload0 F dJ6_bitCount_0f7a4_35 ?_
  refine z_bipush F 8 dJ6_bitCount_0f7a4_36 zv_b_8 ?_
  refine z_iushr F dJ6_bitCount_0f7a4_38 ?_
  refine z_iadd F dJ6_bitCount_0f7a4_39 ?_
  refine z_istore0 F dJ6_bitCount_0f7a4_40 ?_
  refine z_iload0 F dJ6_bitCount_0f7a4_41 ?_
  refine z_iload0 F dJ6_bitCount_0f7a4_42 ?_
  refine z_bipush F 16 dJ6_bitCount_0f7a4_43 zv_b_16 ?_
  refine z_iushr F dJ6_bitCount_0f7a4_45 ?_
  refine z_iadd F dJ6_bitCount_0f7a4_46 ?_
  refine z_istore0 F dJ6_bitCount_0f7a4_47 ?_
  refine z_iload0 F dJ6_bitCount_0f7a4_48 ?_
  refine z_bipush F 63 dJ6_bitCount_0f7a4_49 zv_b_63 ?_
  refine z_iand F dJ6_bitCount_0f7a4_51 ?_
  refine hR _ _ _ _ dJ6_bitCount_0f7a4_52 rfl ?_
  exact ⟨i_bc_n k hk, rfl⟩
