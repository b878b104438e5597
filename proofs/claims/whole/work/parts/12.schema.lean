/-! THE CLASS'S WORLD: 0 the PocketHole, r = 1 2 3 its coats (coat, trial, kept), 3 + r its row of coins, 6 + r its spots, 10 r + c its coin c, 40 the tape, 41 its bytes, 42 the row of sheets, 43 + s a sheet, 47 + s its numbers, 51 findingsTold, 52 sumMarks, 53 wayPence.
   Regions: 0 lone numbers, r coat r as the reference has its row, 4 findings, 8 tape, 12 13 14 sheets, 16 wayPence -/
def SXk (k : Nat) : Nat := if k = 0 then 4 else if k < 4 then 0 else if k < 7 then 9 else if k < 10 then 6 else if k < 40 then 1 else if k = 40 then 3 else if k = 41 then 6 else if k = 42 then 10 else if k < 47 then 2 else if k < 52 then 6 else if k = 52 then 7 else 6
def SXl (k : Nat) : Nat := if k = 0 then 9 else if k < 4 then 8 else if k < 10 then 10 else if k < 40 then 8 else if k = 40 then 6 else if k = 41 then 120 else if k = 42 then 4 else if k < 47 then 3 else if k < 51 then 40 else if k = 51 then 7 else if k = 52 then 38 else 30
def SXr (k j : Nat) : Option Nat := if k = 0 then (if j = 3 then none else [1, 2, 3, 0, 40, 42, 51, 52, 53][j]?) else if k < 4 then (if j = 6 then some (k + 3) else if j = 7 then some (k + 6) else none) else if k < 7 then some (10 + 10 * (k - 4) + j) else if k < 40 then none else if k = 40 then (if j = 0 then some 41 else none) else if k = 41 then none else if k = 42 then some (43 + j) else if k < 47 then (if j = 2 then some (k + 4) else none) else none
def SXp (k j : Nat) : Nat × Nat := if k = 0 then (0, 3) else if k < 4 then (k, [1, 2, 3, 0, 5, 4].getD j 0) else if k < 10 then (k - 6, 6 + j) else if k < 40 then (1 + (k - 10) / 10, 16 + 8 * ((k - 10) % 10) + j) else if k = 40 then (0, 11 + j) else if k = 41 then (8, j) else if k < 47 then (if j = 0 then (12, k - 43) else (13, k - 43)) else if k < 51 then (14, 40 * (k - 47) + j) else if k = 51 then (4, 1 + j) else if k = 52 then (100, j) else (16, j)
def SXo (k j : Nat) : Nat × Nat := if (SXr k j).isSome then (200 + k, j) else SXp k j
def SX : zS := (54, SXk, SXl, SXr, SXo)
def SXu (q : Nat × Nat) : Nat × Nat := if 200 ≤ q.1 then (q.1 - 200, q.2) else if q.1 = 0 then (if q.2 = 3 then (0, 3) else (40, q.2 - 11)) else if q.1 < 4 then (if q.2 < 6 then (q.1, [3, 0, 1, 2, 5, 4].getD q.2 0) else if q.2 < 16 then (6 + q.1, q.2 - 6) else (10 + 10 * (q.1 - 1) + (q.2 - 16) / 8, (q.2 - 16) % 8)) else if q.1 = 8 then (41, q.2) else if q.1 = 12 then (43 + q.2, 0) else if q.1 = 13 then (43 + q.2, 1) else if q.1 = 14 then (47 + q.2 / 40, q.2 % 40) else if q.1 = 4 then (51, q.2 - 1) else if q.1 = 100 then (52, q.2) else (53, q.2)
theorem SX_u : ∀ k, k < 54 → ∀ j, j < SXl k → SXu (SXo k j) = (k, j) := by decide +kernel
theorem SX_ok : z_ok SX := by
  intro k j q i hk hq hj hi _ _ e
  have h1 := SX_u k hk j hj
  have h2 := SX_u q hq i hi
  have e' : SXo k j = SXo q i := e
  rw [e', h2] at h1
  exact ⟨(Prod.mk.inj h1).1.symm, (Prod.mk.inj h1).2.symm⟩
/-! THE REFERENCE'S WORLD: 0 the model, 1 now, 2 aside, 3 kept, 4 found, 5 leasts, 6 mosts, 7 summed, 8 tape, 9 kinds, 10 kindOf, 11 items, 12 widths, 13 sizes, 14 numbers, 15 moved; a region an object -/
def SMk (k : Nat) : Nat := if k = 0 then 5 else if k = 7 then 8 else if k = 9 then 11 else 6
def SMl (k : Nat) : Nat := [27, 96, 96, 96, 8, 7, 7, 2401, 120, 7, 7, 600, 4, 4, 160, 40].getD k 0
def SMr (k j : Nat) : Option Nat := if k = 0 then ([some 1, some 3, some 2, none, some 4, some 5, some 6, none, none, some 7, none, some 8, none, none, none, none, none, none, some 9, some 10, some 11, none, none, some 12, some 13, some 14, some 15].getD j none) else if k = 9 then ([1003, 1004, 1005, 1008, 1006, 1007, 1009][j]?) else none
def SM : zS := (16, SMk, SMl, SMr, fun k j => (k, j))
theorem SM_ok : z_ok SM := fun k j q i _ _ _ _ _ _ e => ⟨(Prod.mk.inj e).1, (Prod.mk.inj e).2⟩
theorem z_all4 {P : Cond → Prop} {a b c d : Cond} (ha : P a) (hb : P b) (hc : P c) (hd : P d) : ∀ w ∈ ([a, b, c, d] : List Cond), P w := List.forall_mem_cons.mpr ⟨ha, List.forall_mem_cons.mpr ⟨hb, List.forall_mem_cons.mpr ⟨hc, List.forall_mem_cons.mpr ⟨hd, fun _ h => absurd h List.not_mem_nil⟩⟩⟩⟩
theorem z_all3 {P : Cond → Prop} {a b c : Cond} (ha : P a) (hb : P b) (hc : P c) : ∀ w ∈ ([a, b, c] : List Cond), P w := List.forall_mem_cons.mpr ⟨ha, List.forall_mem_cons.mpr ⟨hb, List.forall_mem_cons.mpr ⟨hc, fun _ h => absurd h List.not_mem_nil⟩⟩⟩
theorem z_mkO {S : zS} {k c n : Nat} {q : vw_C} (h1 : k < zN S) (h2 : zk S k = c) (h3 : zl S k = n) (h4 : c < 6) (h5 : vwCl[c]? = some q) (h6 : q.2.2 = n) : z_O S k c := ⟨h1, h2, h4, fun q2 e => by rw [h5] at e; cases e; rw [h3, h6]⟩
theorem clX0 : z_Cl 0 RX0 TX0 8 tyX0 := ⟨rfl, inlX0, tyX0_ok, nmX0⟩
theorem clX1 : z_Cl 1 RX1 TX1 8 tyX1 := ⟨rfl, inlX1, tyX1_ok, nmX1⟩
theorem clX2 : z_Cl 2 RX2 TX2 3 tyX2 := ⟨rfl, inlX2, tyX2_ok, nmX2⟩
theorem clX3 : z_Cl 3 RX3 TX3 6 tyX3 := ⟨rfl, inlX3, tyX3_ok, nmX3⟩
theorem clX4 : z_Cl 4 RX4 TX4 9 tyX4 := ⟨rfl, inlX4, tyX4_ok, nmX4⟩
theorem clX5 : z_Cl 5 RX5 TX5 27 tyX5 := ⟨rfl, inlX5, tyX5_ok, nmX5⟩
theorem fX1_9 : z_Fg RX1 9 1 0 false .int := ⟨_, _, _, _, clX1, by decide, Or.inl zw_35, rfl, rfl⟩
theorem fX4_170 : z_Fg RX4 170 1 0 false .int := ⟨_, _, _, _, clX1, by decide, Or.inr ⟨_, zw_36⟩, rfl, rfl⟩
theorem fX0_116 : z_Fg RX0 116 1 0 false .int := ⟨_, _, _, _, clX1, by decide, Or.inr ⟨_, zw_37⟩, rfl, rfl⟩
theorem fX1_15 : z_Fg RX1 15 1 1 false .int := ⟨_, _, _, _, clX1, by decide, Or.inl zw_38, rfl, rfl⟩
theorem fX4_252 : z_Fg RX4 252 1 1 false .int := ⟨_, _, _, _, clX1, by decide, Or.inr ⟨_, zw_39⟩, rfl, rfl⟩
theorem fX1_18 : z_Fg RX1 18 1 2 false .int := ⟨_, _, _, _, clX1, by decide, Or.inl zw_40, rfl, rfl⟩
theorem fX0_75 : z_Fg RX0 75 1 2 false .int := ⟨_, _, _, _, clX1, by decide, Or.inr ⟨_, zw_41⟩, rfl, rfl⟩
theorem fX1_21 : z_Fg RX1 21 1 3 false .int := ⟨_, _, _, _, clX1, by decide, Or.inl zw_42, rfl, rfl⟩
theorem fX0_65 : z_Fg RX0 65 1 3 false .int := ⟨_, _, _, _, clX1, by decide, Or.inr ⟨_, zw_43⟩, rfl, rfl⟩
theorem fX4_182 : z_Fg RX4 182 1 3 false .int := ⟨_, _, _, _, clX1, by decide, Or.inr ⟨_, zw_44⟩, rfl, rfl⟩
theorem fX1_28 : z_Fg RX1 28 1 4 false .int := ⟨_, _, _, _, clX1, by decide, Or.inl zw_45, rfl, rfl⟩
theorem fX4_95 : z_Fg RX4 95 1 4 false .int := ⟨_, _, _, _, clX1, by decide, Or.inr ⟨_, zw_46⟩, rfl, rfl⟩
theorem fX0_59 : z_Fg RX0 59 1 4 false .int := ⟨_, _, _, _, clX1, by decide, Or.inr ⟨_, zw_47⟩, rfl, rfl⟩
theorem fX1_31 : z_Fg RX1 31 1 5 false .int := ⟨_, _, _, _, clX1, by decide, Or.inl zw_48, rfl, rfl⟩
theorem fX0_101 : z_Fg RX0 101 1 5 false .int := ⟨_, _, _, _, clX1, by decide, Or.inr ⟨_, zw_49⟩, rfl, rfl⟩
theorem fX1_34 : z_Fg RX1 34 1 6 false .int := ⟨_, _, _, _, clX1, by decide, Or.inl zw_50, rfl, rfl⟩
theorem fX0_78 : z_Fg RX0 78 1 6 false .int := ⟨_, _, _, _, clX1, by decide, Or.inr ⟨_, zw_51⟩, rfl, rfl⟩
theorem fX4_155 : z_Fg RX4 155 1 6 false .int := ⟨_, _, _, _, clX1, by decide, Or.inr ⟨_, zw_52⟩, rfl, rfl⟩
theorem fX1_37 : z_Fg RX1 37 1 7 false .int := ⟨_, _, _, _, clX1, by decide, Or.inl zw_53, rfl, rfl⟩
theorem fX0_85 : z_Fg RX0 85 1 7 false .int := ⟨_, _, _, _, clX1, by decide, Or.inr ⟨_, zw_54⟩, rfl, rfl⟩
theorem fX0_9 : z_Fg RX0 9 0 0 false .int := ⟨_, _, _, _, clX0, by decide, Or.inl zw_64, rfl, rfl⟩
theorem fX4_75 : z_Fg RX4 75 0 0 false .int := ⟨_, _, _, _, clX0, by decide, Or.inr ⟨_, zw_65⟩, rfl, rfl⟩
theorem fX3_56 : z_Fg RX3 56 0 0 false .int := ⟨_, _, _, _, clX0, by decide, Or.inr ⟨_, zw_66⟩, rfl, rfl⟩
theorem fX0_15 : z_Fg RX0 15 0 1 false .int := ⟨_, _, _, _, clX0, by decide, Or.inl zw_67, rfl, rfl⟩
theorem fX3_62 : z_Fg RX3 62 0 1 false .int := ⟨_, _, _, _, clX0, by decide, Or.inr ⟨_, zw_68⟩, rfl, rfl⟩
theorem fX4_102 : z_Fg RX4 102 0 1 false .int := ⟨_, _, _, _, clX0, by decide, Or.inr ⟨_, zw_69⟩, rfl, rfl⟩
theorem fX0_18 : z_Fg RX0 18 0 2 false .int := ⟨_, _, _, _, clX0, by decide, Or.inl zw_70, rfl, rfl⟩
theorem fX3_64 : z_Fg RX3 64 0 2 false .int := ⟨_, _, _, _, clX0, by decide, Or.inr ⟨_, zw_71⟩, rfl, rfl⟩
theorem fX4_105 : z_Fg RX4 105 0 2 false .int := ⟨_, _, _, _, clX0, by decide, Or.inr ⟨_, zw_72⟩, rfl, rfl⟩
theorem fX0_21 : z_Fg RX0 21 0 3 false .int := ⟨_, _, _, _, clX0, by decide, Or.inl zw_73, rfl, rfl⟩
theorem fX4_125 : z_Fg RX4 125 0 3 false .int := ⟨_, _, _, _, clX0, by decide, Or.inr ⟨_, zw_74⟩, rfl, rfl⟩
theorem fX0_24 : z_Fg RX0 24 0 4 false .int := ⟨_, _, _, _, clX0, by decide, Or.inl zw_75, rfl, rfl⟩
theorem fX4_207 : z_Fg RX4 207 0 4 false .int := ⟨_, _, _, _, clX0, by decide, Or.inr ⟨_, zw_76⟩, rfl, rfl⟩
theorem fX0_27 : z_Fg RX0 27 0 5 false .int := ⟨_, _, _, _, clX0, by decide, Or.inl zw_77, rfl, rfl⟩
theorem fX4_59 : z_Fg RX4 59 0 5 false .int := ⟨_, _, _, _, clX0, by decide, Or.inr ⟨_, zw_78⟩, rfl, rfl⟩
theorem fX3_70 : z_Fg RX3 70 0 5 false .int := ⟨_, _, _, _, clX0, by decide, Or.inr ⟨_, zw_79⟩, rfl, rfl⟩
theorem fX0_32 : z_Fg RX0 32 0 6 true (.array (.object "PocketHole$Coin")) := ⟨_, _, _, _, clX0, by decide, Or.inl zw_80, rfl, rfl⟩
theorem fX4_71 : z_Fg RX4 71 0 6 true (.array (.object "PocketHole$Coin")) := ⟨_, _, _, _, clX0, by decide, Or.inr ⟨_, zw_81⟩, rfl, rfl⟩
theorem fX0_36 : z_Fg RX0 36 0 7 true (.array .int) := ⟨_, _, _, _, clX0, by decide, Or.inl zw_82, rfl, rfl⟩
theorem fX4_220 : z_Fg RX4 220 0 7 true (.array .int) := ⟨_, _, _, _, clX0, by decide, Or.inr ⟨_, zw_83⟩, rfl, rfl⟩
theorem fX3_9 : z_Fg RX3 9 3 0 true (.array .int) := ⟨_, _, _, _, clX3, by decide, Or.inl zw_98, rfl, rfl⟩
theorem fX3_15 : z_Fg RX3 15 3 1 false .int := ⟨_, _, _, _, clX3, by decide, Or.inl zw_99, rfl, rfl⟩
theorem fX4_210 : z_Fg RX4 210 3 1 false .int := ⟨_, _, _, _, clX3, by decide, Or.inr ⟨_, zw_100⟩, rfl, rfl⟩
theorem fX3_19 : z_Fg RX3 19 3 2 false .int := ⟨_, _, _, _, clX3, by decide, Or.inl zw_101, rfl, rfl⟩
theorem fX3_22 : z_Fg RX3 22 3 3 false .int := ⟨_, _, _, _, clX3, by decide, Or.inl zw_102, rfl, rfl⟩
theorem fX3_25 : z_Fg RX3 25 3 4 false .int := ⟨_, _, _, _, clX3, by decide, Or.inl zw_103, rfl, rfl⟩
theorem fX3_28 : z_Fg RX3 28 3 5 false .int := ⟨_, _, _, _, clX3, by decide, Or.inl zw_104, rfl, rfl⟩
theorem fX2_9 : z_Fg RX2 9 2 0 false .int := ⟨_, _, _, _, clX2, by decide, Or.inl zw_117, rfl, rfl⟩
theorem fX4_237 : z_Fg RX4 237 2 0 false .int := ⟨_, _, _, _, clX2, by decide, Or.inr ⟨_, zw_118⟩, rfl, rfl⟩
theorem fX2_15 : z_Fg RX2 15 2 1 false .int := ⟨_, _, _, _, clX2, by decide, Or.inl zw_119, rfl, rfl⟩
theorem fX4_232 : z_Fg RX4 232 2 1 false .int := ⟨_, _, _, _, clX2, by decide, Or.inr ⟨_, zw_120⟩, rfl, rfl⟩
theorem fX2_18 : z_Fg RX2 18 2 2 true (.array .int) := ⟨_, _, _, _, clX2, by decide, Or.inl zw_121, rfl, rfl⟩
theorem fX4_243 : z_Fg RX4 243 2 2 true (.array .int) := ⟨_, _, _, _, clX2, by decide, Or.inr ⟨_, zw_122⟩, rfl, rfl⟩
theorem fX4_10 : z_Fg RX4 10 4 0 true (.object "PocketHole$Coat") := ⟨_, _, _, _, clX4, by decide, Or.inl zw_127, rfl, rfl⟩
theorem fX4_16 : z_Fg RX4 16 4 1 true (.object "PocketHole$Coat") := ⟨_, _, _, _, clX4, by decide, Or.inl zw_128, rfl, rfl⟩
theorem fX4_19 : z_Fg RX4 19 4 2 true (.object "PocketHole$Coat") := ⟨_, _, _, _, clX4, by decide, Or.inl zw_129, rfl, rfl⟩
theorem fX4_22 : z_Fg RX4 22 4 3 false .boolean := ⟨_, _, _, _, clX4, by decide, Or.inl zw_130, rfl, rfl⟩
theorem fX4_29 : z_Fg RX4 29 4 4 true (.object "PocketHole$Tape") := ⟨_, _, _, _, clX4, by decide, Or.inl zw_131, rfl, rfl⟩
theorem fX4_35 : z_Fg RX4 35 4 5 true (.array (.object "PocketHole$Sheet")) := ⟨_, _, _, _, clX4, by decide, Or.inl zw_132, rfl, rfl⟩
theorem fX4_39 : z_Fg RX4 39 4 6 true (.array .int) := ⟨_, _, _, _, clX4, by decide, Or.inl zw_133, rfl, rfl⟩
theorem fX4_43 : z_Fg RX4 43 4 7 true (.array .long) := ⟨_, _, _, _, clX4, by decide, Or.inl zw_134, rfl, rfl⟩
theorem fX4_47 : z_Fg RX4 47 4 8 true (.array .int) := ⟨_, _, _, _, clX4, by decide, Or.inl zw_135, rfl, rfl⟩
theorem fX5_9 : z_Fg RX5 9 5 0 true (.array .int) := ⟨_, _, _, _, clX5, by decide, Or.inl zw_656, rfl, rfl⟩
theorem fX5_13 : z_Fg RX5 13 5 1 true (.array .int) := ⟨_, _, _, _, clX5, by decide, Or.inl zw_657, rfl, rfl⟩
theorem fX5_16 : z_Fg RX5 16 5 2 true (.array .int) := ⟨_, _, _, _, clX5, by decide, Or.inl zw_658, rfl, rfl⟩
theorem fX5_325 : z_Fg RX5 325 5 3 false .boolean := ⟨_, _, _, _, clX5, by decide, Or.inl zw_659, rfl, rfl⟩
theorem fX5_19 : z_Fg RX5 19 5 4 true (.array .int) := ⟨_, _, _, _, clX5, by decide, Or.inl zw_660, rfl, rfl⟩
theorem fX5_22 : z_Fg RX5 22 5 5 true (.array .int) := ⟨_, _, _, _, clX5, by decide, Or.inl zw_661, rfl, rfl⟩
theorem fX5_25 : z_Fg RX5 25 5 6 true (.array .int) := ⟨_, _, _, _, clX5, by decide, Or.inl zw_662, rfl, rfl⟩
theorem fX5_199 : z_Fg RX5 199 5 7 false .int := ⟨_, _, _, _, clX5, by decide, Or.inl zw_663, rfl, rfl⟩
theorem fX5_203 : z_Fg RX5 203 5 8 false .int := ⟨_, _, _, _, clX5, by decide, Or.inl zw_664, rfl, rfl⟩
theorem fX5_28 : z_Fg RX5 28 5 9 true (.array .boolean) := ⟨_, _, _, _, clX5, by decide, Or.inl zw_665, rfl, rfl⟩
theorem fX5_219 : z_Fg RX5 219 5 10 false .int := ⟨_, _, _, _, clX5, by decide, Or.inl zw_666, rfl, rfl⟩
theorem fX5_32 : z_Fg RX5 32 5 11 true (.array .int) := ⟨_, _, _, _, clX5, by decide, Or.inl zw_667, rfl, rfl⟩
theorem fX5_235 : z_Fg RX5 235 5 12 false .int := ⟨_, _, _, _, clX5, by decide, Or.inl zw_668, rfl, rfl⟩
theorem fX5_241 : z_Fg RX5 241 5 13 false .int := ⟨_, _, _, _, clX5, by decide, Or.inl zw_669, rfl, rfl⟩
theorem fX5_238 : z_Fg RX5 238 5 14 false .int := ⟨_, _, _, _, clX5, by decide, Or.inl zw_670, rfl, rfl⟩
theorem fX5_250 : z_Fg RX5 250 5 15 false .int := ⟨_, _, _, _, clX5, by decide, Or.inl zw_671, rfl, rfl⟩
theorem fX5_247 : z_Fg RX5 247 5 16 false .int := ⟨_, _, _, _, clX5, by decide, Or.inl zw_672, rfl, rfl⟩
theorem fX5_260 : z_Fg RX5 260 5 17 false .boolean := ⟨_, _, _, _, clX5, by decide, Or.inl zw_673, rfl, rfl⟩
theorem fX5_51 : z_Fg RX5 51 5 18 true (.array (.object "java/lang/String")) := ⟨_, _, _, _, clX5, by decide, Or.inl zw_674, rfl, rfl⟩
theorem fX5_55 : z_Fg RX5 55 5 19 true (.array .int) := ⟨_, _, _, _, clX5, by decide, Or.inl zw_675, rfl, rfl⟩
theorem fX5_58 : z_Fg RX5 58 5 20 true (.array .int) := ⟨_, _, _, _, clX5, by decide, Or.inl zw_676, rfl, rfl⟩
theorem fX5_271 : z_Fg RX5 271 5 21 false .int := ⟨_, _, _, _, clX5, by decide, Or.inl zw_677, rfl, rfl⟩
theorem fX5_281 : z_Fg RX5 281 5 22 false .int := ⟨_, _, _, _, clX5, by decide, Or.inl zw_678, rfl, rfl⟩
theorem fX5_61 : z_Fg RX5 61 5 23 true (.array .int) := ⟨_, _, _, _, clX5, by decide, Or.inl zw_679, rfl, rfl⟩
theorem fX5_64 : z_Fg RX5 64 5 24 true (.array .int) := ⟨_, _, _, _, clX5, by decide, Or.inl zw_680, rfl, rfl⟩
theorem fX5_67 : z_Fg RX5 67 5 25 true (.array .int) := ⟨_, _, _, _, clX5, by decide, Or.inl zw_681, rfl, rfl⟩
theorem fX5_70 : z_Fg RX5 70 5 26 true (.array .int) := ⟨_, _, _, _, clX5, by decide, Or.inl zw_682, rfl, rfl⟩
theorem pX4_coin : yX4_coin.cls ≠ "java/lang/invoke/MethodHandle" ∧ yX4_coin.cls ≠ "java/lang/invoke/VarHandle" ∧ (parseMethodDescriptor yX4_coin.desc).map (fun d => d.parameters.length) = some 1 := ⟨by decide +kernel, by decide +kernel, by decide +kernel⟩
theorem kL_13 : z_LV RL 13 yX4_coin cX4_coin 2 (some .int) 1 := ⟨z_all4 zw_145 zw_146 zw_147 zw_1, zw_148, pX4_coin, by decide⟩
theorem pX4_isWithin : yX4_isWithin.cls ≠ "java/lang/invoke/MethodHandle" ∧ yX4_isWithin.cls ≠ "java/lang/invoke/VarHandle" ∧ (parseMethodDescriptor yX4_isWithin.desc).map (fun d => d.parameters.length) = some 3 := ⟨by decide +kernel, by decide +kernel, by decide +kernel⟩
theorem kX4_51 : z_LS RX4 51 yX4_isWithin cX4_isWithin 3 (some .boolean) 3 := ⟨z_all3 zw_149 zw_150 zw_1, zw_151, pX4_isWithin, by decide⟩
theorem pX4_finding : yX4_finding.cls ≠ "java/lang/invoke/MethodHandle" ∧ yX4_finding.cls ≠ "java/lang/invoke/VarHandle" ∧ (parseMethodDescriptor yX4_finding.desc).map (fun d => d.parameters.length) = some 1 := ⟨by decide +kernel, by decide +kernel, by decide +kernel⟩
theorem kX4_55 : z_LV RX4 55 yX4_finding cX4_finding 2 (some .int) 1 := ⟨z_all4 zw_152 zw_153 zw_1090 zw_1, zw_154, pX4_finding, by decide⟩
theorem pX0_newCoin : yX0_newCoin.cls ≠ "java/lang/invoke/MethodHandle" ∧ yX0_newCoin.cls ≠ "java/lang/invoke/VarHandle" ∧ (parseMethodDescriptor yX0_newCoin.desc).map (fun d => d.parameters.length) = some 1 := ⟨by decide +kernel, by decide +kernel, by decide +kernel⟩
theorem kX4_63 : z_LV RX4 63 yX0_newCoin cX0_newCoin 3 (some (.object "PocketHole$Coin")) 1 := ⟨z_all4 zw_156 zw_157 zw_158 zw_2, zw_159, pX0_newCoin, by decide⟩
theorem pX1_renew : yX1_renew.cls ≠ "java/lang/invoke/MethodHandle" ∧ yX1_renew.cls ≠ "java/lang/invoke/VarHandle" ∧ (parseMethodDescriptor yX1_renew.desc).map (fun d => d.parameters.length) = some 1 := ⟨by decide +kernel, by decide +kernel, by decide +kernel⟩
theorem kX0_51 : z_LV RX0 51 yX1_renew cX1_renew 2 none 1 := ⟨z_all4 zw_160 zw_161 zw_162 zw_3, zw_163, pX1_renew, by decide⟩
theorem pX1_moveTo : yX1_moveTo.cls ≠ "java/lang/invoke/MethodHandle" ∧ yX1_moveTo.cls ≠ "java/lang/invoke/VarHandle" ∧ (parseMethodDescriptor yX1_moveTo.desc).map (fun d => d.parameters.length) = some 1 := ⟨by decide +kernel, by decide +kernel, by decide +kernel⟩
theorem kX1_24 : z_LV RX1 24 yX1_moveTo cX1_moveTo 2 none 1 := ⟨z_all4 zw_164 zw_165 zw_166 zw_3, zw_167, pX1_moveTo, by decide⟩
theorem pX4_of : yX4_of.cls ≠ "java/lang/invoke/MethodHandle" ∧ yX4_of.cls ≠ "java/lang/invoke/VarHandle" ∧ (parseMethodDescriptor yX4_of.desc).map (fun d => d.parameters.length) = some 2 := ⟨by decide +kernel, by decide +kernel, by decide +kernel⟩
theorem kL_18 : z_LV RL 18 yX4_of cX4_of 3 (some .int) 2 := ⟨z_all4 zw_168 zw_169 zw_170 zw_1, zw_171, pX4_of, by decide⟩
theorem pX0_has : yX0_has.cls ≠ "java/lang/invoke/MethodHandle" ∧ yX0_has.cls ≠ "java/lang/invoke/VarHandle" ∧ (parseMethodDescriptor yX0_has.desc).map (fun d => d.parameters.length) = some 1 := ⟨by decide +kernel, by decide +kernel, by decide +kernel⟩
theorem kX4_67 : z_LV RX4 67 yX0_has cX0_has 2 (some .boolean) 1 := ⟨z_all4 zw_172 zw_173 zw_174 zw_2, zw_175, pX0_has, by decide⟩
theorem pX1_told : yX1_told.cls ≠ "java/lang/invoke/MethodHandle" ∧ yX1_told.cls ≠ "java/lang/invoke/VarHandle" ∧ (parseMethodDescriptor yX1_told.desc).map (fun d => d.parameters.length) = some 2 := ⟨by decide +kernel, by decide +kernel, by decide +kernel⟩
theorem kX4_78 : z_LV RX4 78 yX1_told cX1_told 3 (some .int) 2 := ⟨z_all4 zw_176 zw_177 zw_178 zw_3, zw_179, pX1_told, by decide⟩
theorem pX1_thickness : yX1_thickness.cls ≠ "java/lang/invoke/MethodHandle" ∧ yX1_thickness.cls ≠ "java/lang/invoke/VarHandle" ∧ (parseMethodDescriptor yX1_thickness.desc).map (fun d => d.parameters.length) = some 0 := ⟨by decide +kernel, by decide +kernel, by decide +kernel⟩
theorem kX1_40 : z_LV RX1 40 yX1_thickness cX1_thickness 1 (some .int) 0 := ⟨z_all4 zw_180 zw_181 zw_182 zw_3, zw_183, pX1_thickness, by decide⟩
theorem pX1_pace : yX1_pace.cls ≠ "java/lang/invoke/MethodHandle" ∧ yX1_pace.cls ≠ "java/lang/invoke/VarHandle" ∧ (parseMethodDescriptor yX1_pace.desc).map (fun d => d.parameters.length) = some 0 := ⟨by decide +kernel, by decide +kernel, by decide +kernel⟩
theorem kX1_44 : z_LV RX1 44 yX1_pace cX1_pace 1 (some .int) 0 := ⟨z_all4 zw_184 zw_185 zw_186 zw_3, zw_187, pX1_pace, by decide⟩
theorem pX1_wear : yX1_wear.cls ≠ "java/lang/invoke/MethodHandle" ∧ yX1_wear.cls ≠ "java/lang/invoke/VarHandle" ∧ (parseMethodDescriptor yX1_wear.desc).map (fun d => d.parameters.length) = some 1 := ⟨by decide +kernel, by decide +kernel, by decide +kernel⟩
theorem kX1_47 : z_LV RX1 47 yX1_wear cX1_wear 3 (some .int) 1 := ⟨z_all4 zw_188 zw_189 zw_190 zw_3, zw_191, pX1_wear, by decide⟩
theorem pX4_change : yX4_change.cls ≠ "java/lang/invoke/MethodHandle" ∧ yX4_change.cls ≠ "java/lang/invoke/VarHandle" ∧ (parseMethodDescriptor yX4_change.desc).map (fun d => d.parameters.length) = some 3 := ⟨by decide +kernel, by decide +kernel, by decide +kernel⟩
theorem kL_23 : z_LV RL 23 yX4_change cX4_change 6 (some .int) 3 := ⟨z_all4 zw_192 zw_193 zw_194 zw_1, zw_195, pX4_change, by decide⟩
theorem pX4_mayBecome : yX4_mayBecome.cls ≠ "java/lang/invoke/MethodHandle" ∧ yX4_mayBecome.cls ≠ "java/lang/invoke/VarHandle" ∧ (parseMethodDescriptor yX4_mayBecome.desc).map (fun d => d.parameters.length) = some 2 := ⟨by decide +kernel, by decide +kernel, by decide +kernel⟩
theorem kX4_84 : z_LS RX4 84 yX4_mayBecome cX4_mayBecome 2 (some .boolean) 2 := ⟨z_all3 zw_196 zw_197 zw_1, zw_198, pX4_mayBecome, by decide⟩
theorem pX1_set : yX1_set.cls ≠ "java/lang/invoke/MethodHandle" ∧ yX1_set.cls ≠ "java/lang/invoke/VarHandle" ∧ (parseMethodDescriptor yX1_set.desc).map (fun d => d.parameters.length) = some 2 := ⟨by decide +kernel, by decide +kernel, by decide +kernel⟩
theorem kX4_88 : z_LV RX4 88 yX1_set cX1_set 3 none 2 := ⟨z_all4 zw_199 zw_200 zw_201 zw_3, zw_202, pX1_set, by decide⟩
theorem pX4_put : yX4_put.cls ≠ "java/lang/invoke/MethodHandle" ∧ yX4_put.cls ≠ "java/lang/invoke/VarHandle" ∧ (parseMethodDescriptor yX4_put.desc).map (fun d => d.parameters.length) = some 2 := ⟨by decide +kernel, by decide +kernel, by decide +kernel⟩
theorem kL_28 : z_LV RL 28 yX4_put cX4_put 4 (some .int) 2 := ⟨z_all4 zw_203 zw_204 zw_205 zw_1, zw_206, pX4_put, by decide⟩
theorem pX4_isPlace : yX4_isPlace.cls ≠ "java/lang/invoke/MethodHandle" ∧ yX4_isPlace.cls ≠ "java/lang/invoke/VarHandle" ∧ (parseMethodDescriptor yX4_isPlace.desc).map (fun d => d.parameters.length) = some 1 := ⟨by decide +kernel, by decide +kernel, by decide +kernel⟩
theorem kX4_92 : z_LS RX4 92 yX4_isPlace cX4_isPlace 1 (some .boolean) 1 := ⟨z_all3 zw_207 zw_208 zw_1, zw_209, pX4_isPlace, by decide⟩
theorem kX4_98 : z_LV RX4 98 yX1_moveTo cX1_moveTo 2 none 1 := ⟨z_all4 zw_210 zw_165 zw_166 zw_3, zw_167, pX1_moveTo, by decide⟩
theorem pX4_rule : yX4_rule.cls ≠ "java/lang/invoke/MethodHandle" ∧ yX4_rule.cls ≠ "java/lang/invoke/VarHandle" ∧ (parseMethodDescriptor yX4_rule.desc).map (fun d => d.parameters.length) = some 2 := ⟨by decide +kernel, by decide +kernel, by decide +kernel⟩
theorem kL_32 : z_LV RL 32 yX4_rule cX4_rule 4 (some .int) 2 := ⟨z_all4 zw_211 zw_212 zw_213 zw_1, zw_214, pX4_rule, by decide⟩
theorem pX4_sew : yX4_sew.cls ≠ "java/lang/invoke/MethodHandle" ∧ yX4_sew.cls ≠ "java/lang/invoke/VarHandle" ∧ (parseMethodDescriptor yX4_sew.desc).map (fun d => d.parameters.length) = some 0 := ⟨by decide +kernel, by decide +kernel, by decide +kernel⟩
theorem kL_36 : z_LV RL 36 yX4_sew cX4_sew 2 (some .int) 0 := ⟨z_all4 zw_215 zw_216 zw_217 zw_1, zw_218, pX4_sew, by decide⟩
theorem pX4_lie : yX4_lie.cls ≠ "java/lang/invoke/MethodHandle" ∧ yX4_lie.cls ≠ "java/lang/invoke/VarHandle" ∧ (parseMethodDescriptor yX4_lie.desc).map (fun d => d.parameters.length) = some 1 := ⟨by decide +kernel, by decide +kernel, by decide +kernel⟩
theorem kL_41 : z_LV RL 41 yX4_lie cX4_lie 2 (some .int) 1 := ⟨z_all4 zw_219 zw_220 zw_221 zw_1, zw_222, pX4_lie, by decide⟩
theorem pX0_in : yX0_in.cls ≠ "java/lang/invoke/MethodHandle" ∧ yX0_in.cls ≠ "java/lang/invoke/VarHandle" ∧ (parseMethodDescriptor yX0_in.desc).map (fun d => d.parameters.length) = some 1 := ⟨by decide +kernel, by decide +kernel, by decide +kernel⟩
theorem kX4_108 : z_LV RX4 108 yX0_in cX0_in 4 (some .int) 1 := ⟨z_all4 zw_223 zw_224 zw_225 zw_2, zw_226, pX0_in, by decide⟩
theorem pX4_pence : yX4_pence.cls ≠ "java/lang/invoke/MethodHandle" ∧ yX4_pence.cls ≠ "java/lang/invoke/VarHandle" ∧ (parseMethodDescriptor yX4_pence.desc).map (fun d => d.parameters.length) = some 1 := ⟨by decide +kernel, by decide +kernel, by decide +kernel⟩
theorem kL_45 : z_LV RL 45 yX4_pence cX4_pence 2 (some .int) 1 := ⟨z_all4 zw_227 zw_228 zw_229 zw_1, zw_230, pX4_pence, by decide⟩
theorem pX0_penceIn : yX0_penceIn.cls ≠ "java/lang/invoke/MethodHandle" ∧ yX0_penceIn.cls ≠ "java/lang/invoke/VarHandle" ∧ (parseMethodDescriptor yX0_penceIn.desc).map (fun d => d.parameters.length) = some 1 := ⟨by decide +kernel, by decide +kernel, by decide +kernel⟩
theorem kX4_111 : z_LV RX4 111 yX0_penceIn cX0_penceIn 2 (some .int) 1 := ⟨z_all4 zw_231 zw_232 zw_233 zw_2, zw_234, pX0_penceIn, by decide⟩
theorem kX0_68 : z_LV RX0 68 yX0_in cX0_in 4 (some .int) 1 := ⟨z_all4 zw_235 zw_224 zw_225 zw_2, zw_226, pX0_in, by decide⟩
theorem pX0_penceOf : yX0_penceOf.cls ≠ "java/lang/invoke/MethodHandle" ∧ yX0_penceOf.cls ≠ "java/lang/invoke/VarHandle" ∧ (parseMethodDescriptor yX0_penceOf.desc).map (fun d => d.parameters.length) = some 1 := ⟨by decide +kernel, by decide +kernel, by decide +kernel⟩
theorem kX0_72 : z_LV RX0 72 yX0_penceOf cX0_penceOf 4 (some .int) 1 := ⟨z_all4 zw_236 zw_237 zw_238 zw_2, zw_239, pX0_penceOf, by decide⟩
theorem pX4_steps : yX4_steps.cls ≠ "java/lang/invoke/MethodHandle" ∧ yX4_steps.cls ≠ "java/lang/invoke/VarHandle" ∧ (parseMethodDescriptor yX4_steps.desc).map (fun d => d.parameters.length) = some 1 := ⟨by decide +kernel, by decide +kernel, by decide +kernel⟩
theorem kL_49 : z_LV RL 49 yX4_steps cX4_steps 3 (some .int) 1 := ⟨z_all4 zw_240 zw_241 zw_242 zw_1, zw_243, pX4_steps, by decide⟩
theorem pX4_isTooFar : yX4_isTooFar.cls ≠ "java/lang/invoke/MethodHandle" ∧ yX4_isTooFar.cls ≠ "java/lang/invoke/VarHandle" ∧ (parseMethodDescriptor yX4_isTooFar.desc).map (fun d => d.parameters.length) = some 1 := ⟨by decide +kernel, by decide +kernel, by decide +kernel⟩
theorem kX4_114 : z_LV RX4 114 yX4_isTooFar cX4_isTooFar 2 (some .boolean) 1 := ⟨z_all4 zw_244 zw_245 zw_1091 zw_1, zw_246, pX4_isTooFar, by decide⟩
theorem pX0_go : yX0_go.cls ≠ "java/lang/invoke/MethodHandle" ∧ yX0_go.cls ≠ "java/lang/invoke/VarHandle" ∧ (parseMethodDescriptor yX0_go.desc).map (fun d => d.parameters.length) = some 1 := ⟨by decide +kernel, by decide +kernel, by decide +kernel⟩
theorem kX4_117 : z_LV RX4 117 yX0_go cX0_go 5 none 1 := ⟨z_all4 zw_247 zw_248 zw_249 zw_2, zw_250, pX0_go, by decide⟩
theorem pX0_goPocket : yX0_goPocket.cls ≠ "java/lang/invoke/MethodHandle" ∧ yX0_goPocket.cls ≠ "java/lang/invoke/VarHandle" ∧ (parseMethodDescriptor yX0_goPocket.desc).map (fun d => d.parameters.length) = some 0 := ⟨by decide +kernel, by decide +kernel, by decide +kernel⟩
theorem kX0_89 : z_LV RX0 89 yX0_goPocket cX0_goPocket 3 (some .boolean) 0 := ⟨z_all4 zw_251 zw_252 zw_253 zw_2, zw_254, pX0_goPocket, by decide⟩
theorem pX0_stirOne : yX0_stirOne.cls ≠ "java/lang/invoke/MethodHandle" ∧ yX0_stirOne.cls ≠ "java/lang/invoke/VarHandle" ∧ (parseMethodDescriptor yX0_stirOne.desc).map (fun d => d.parameters.length) = some 1 := ⟨by decide +kernel, by decide +kernel, by decide +kernel⟩
theorem kX0_97 : z_LV RX0 97 yX0_stirOne cX0_stirOne 4 (some .boolean) 1 := ⟨z_all4 zw_255 zw_256 zw_1092 zw_2, zw_257, pX0_stirOne, by decide⟩
theorem kX0_104 : z_LV RX0 104 yX1_pace cX1_pace 1 (some .int) 0 := ⟨z_all4 zw_258 zw_185 zw_186 zw_3, zw_187, pX1_pace, by decide⟩
theorem kX0_62 : z_LV RX0 62 yX1_thickness cX1_thickness 1 (some .int) 0 := ⟨z_all4 zw_262 zw_181 zw_182 zw_3, zw_183, pX1_thickness, by decide⟩
theorem kX0_113 : z_LV RX0 113 yX1_wear cX1_wear 3 (some .int) 1 := ⟨z_all4 zw_263 zw_189 zw_190 zw_3, zw_191, pX1_wear, by decide⟩
theorem pX0_goLining : yX0_goLining.cls ≠ "java/lang/invoke/MethodHandle" ∧ yX0_goLining.cls ≠ "java/lang/invoke/VarHandle" ∧ (parseMethodDescriptor yX0_goLining.desc).map (fun d => d.parameters.length) = some 2 := ⟨by decide +kernel, by decide +kernel, by decide +kernel⟩
theorem kX0_93 : z_LV RX0 93 yX0_goLining cX0_goLining 5 none 2 := ⟨z_all4 zw_264 zw_265 zw_1093 zw_2, zw_266, pX0_goLining, by decide⟩
theorem pX0_clinksNow : yX0_clinksNow.cls ≠ "java/lang/invoke/MethodHandle" ∧ yX0_clinksNow.cls ≠ "java/lang/invoke/VarHandle" ∧ (parseMethodDescriptor yX0_clinksNow.desc).map (fun d => d.parameters.length) = some 1 := ⟨by decide +kernel, by decide +kernel, by decide +kernel⟩
theorem kX0_119 : z_LV RX0 119 yX0_clinksNow cX0_clinksNow 3 (some .boolean) 1 := ⟨z_all4 zw_267 zw_268 zw_269 zw_2, zw_270, pX0_clinksNow, by decide⟩
theorem pX0_clink : yX0_clink.cls ≠ "java/lang/invoke/MethodHandle" ∧ yX0_clink.cls ≠ "java/lang/invoke/VarHandle" ∧ (parseMethodDescriptor yX0_clink.desc).map (fun d => d.parameters.length) = some 2 := ⟨by decide +kernel, by decide +kernel, by decide +kernel⟩
theorem kX0_81 : z_LV RX0 81 yX0_clink cX0_clink 3 (some .boolean) 2 := ⟨z_all4 zw_271 zw_272 zw_273 zw_2, zw_274, pX0_clink, by decide⟩
theorem pJ6_bitCount_0f7a4 : yJ6_bitCount_0f7a4.cls ≠ "java/lang/invoke/MethodHandle" ∧ yJ6_bitCount_0f7a4.cls ≠ "java/lang/invoke/VarHandle" ∧ (parseMethodDescriptor yJ6_bitCount_0f7a4.desc).map (fun d => d.parameters.length) = some 1 := ⟨by decide +kernel, by decide +kernel, by decide +kernel⟩
theorem kX4_120 : z_LS RX4 120 yJ6_bitCount_0f7a4 cJ6_bitCount_0f7a4 1 (some .int) 1 := ⟨z_all3 zw_275 zw_276 zw_8, zw_277, pJ6_bitCount_0f7a4, by decide⟩
theorem pX4_now : yX4_now.cls ≠ "java/lang/invoke/MethodHandle" ∧ yX4_now.cls ≠ "java/lang/invoke/VarHandle" ∧ (parseMethodDescriptor yX4_now.desc).map (fun d => d.parameters.length) = some 1 := ⟨by decide +kernel, by decide +kernel, by decide +kernel⟩
theorem kL_53 : z_LV RL 53 yX4_now cX4_now 2 (some .int) 1 := ⟨z_all4 zw_281 zw_282 zw_283 zw_1, zw_284, pX4_now, by decide⟩
theorem pX0_clinkingPairs : yX0_clinkingPairs.cls ≠ "java/lang/invoke/MethodHandle" ∧ yX0_clinkingPairs.cls ≠ "java/lang/invoke/VarHandle" ∧ (parseMethodDescriptor yX0_clinkingPairs.desc).map (fun d => d.parameters.length) = some 0 := ⟨by decide +kernel, by decide +kernel, by decide +kernel⟩
theorem kX4_128 : z_LV RX4 128 yX0_clinkingPairs cX0_clinkingPairs 4 (some .int) 0 := ⟨z_all4 zw_285 zw_286 zw_287 zw_2, zw_288, pX0_clinkingPairs, by decide⟩
theorem pX0_weightOf : yX0_weightOf.cls ≠ "java/lang/invoke/MethodHandle" ∧ yX0_weightOf.cls ≠ "java/lang/invoke/VarHandle" ∧ (parseMethodDescriptor yX0_weightOf.desc).map (fun d => d.parameters.length) = some 1 := ⟨by decide +kernel, by decide +kernel, by decide +kernel⟩
theorem kX4_132 : z_LV RX4 132 yX0_weightOf cX0_weightOf 4 (some .int) 1 := ⟨z_all4 zw_289 zw_290 zw_291 zw_2, zw_292, pX0_weightOf, by decide⟩
theorem pX4_ahead : yX4_ahead.cls ≠ "java/lang/invoke/MethodHandle" ∧ yX4_ahead.cls ≠ "java/lang/invoke/VarHandle" ∧ (parseMethodDescriptor yX4_ahead.desc).map (fun d => d.parameters.length) = some 2 := ⟨by decide +kernel, by decide +kernel, by decide +kernel⟩
theorem kL_57 : z_LV RL 57 yX4_ahead cX4_ahead 3 (some .int) 2 := ⟨z_all4 zw_293 zw_294 zw_295 zw_1, zw_296, pX4_ahead, by decide⟩
theorem pX0_become : yX0_become.cls ≠ "java/lang/invoke/MethodHandle" ∧ yX0_become.cls ≠ "java/lang/invoke/VarHandle" ∧ (parseMethodDescriptor yX0_become.desc).map (fun d => d.parameters.length) = some 1 := ⟨by decide +kernel, by decide +kernel, by decide +kernel⟩
theorem kX4_135 : z_LV RX4 135 yX0_become cX0_become 3 none 1 := ⟨z_all4 zw_297 zw_298 zw_299 zw_2, zw_300, pX0_become, by decide⟩
theorem pX1_become : yX1_become.cls ≠ "java/lang/invoke/MethodHandle" ∧ yX1_become.cls ≠ "java/lang/invoke/VarHandle" ∧ (parseMethodDescriptor yX1_become.desc).map (fun d => d.parameters.length) = some 1 := ⟨by decide +kernel, by decide +kernel, by decide +kernel⟩
theorem kX0_41 : z_LV RX0 41 yX1_become cX1_become 2 none 1 := ⟨z_all4 zw_301 zw_302 zw_303 zw_3, zw_304, pX1_become, by decide⟩
theorem pX4_goneInTrial : yX4_goneInTrial.cls ≠ "java/lang/invoke/MethodHandle" ∧ yX4_goneInTrial.cls ≠ "java/lang/invoke/VarHandle" ∧ (parseMethodDescriptor yX4_goneInTrial.desc).map (fun d => d.parameters.length) = some 0 := ⟨by decide +kernel, by decide +kernel, by decide +kernel⟩
theorem kX4_139 : z_LV RX4 139 yX4_goneInTrial cX4_goneInTrial 1 (some .int) 0 := ⟨z_all4 zw_308 zw_309 zw_1094 zw_1, zw_310, pX4_goneInTrial, by decide⟩
theorem pX4_lostInTrial : yX4_lostInTrial.cls ≠ "java/lang/invoke/MethodHandle" ∧ yX4_lostInTrial.cls ≠ "java/lang/invoke/VarHandle" ∧ (parseMethodDescriptor yX4_lostInTrial.desc).map (fun d => d.parameters.length) = some 0 := ⟨by decide +kernel, by decide +kernel, by decide +kernel⟩
theorem kX4_142 : z_LV RX4 142 yX4_lostInTrial cX4_lostInTrial 1 (some .int) 0 := ⟨z_all4 zw_311 zw_312 zw_1095 zw_1, zw_313, pX4_lostInTrial, by decide⟩
theorem pX4_when : yX4_when.cls ≠ "java/lang/invoke/MethodHandle" ∧ yX4_when.cls ≠ "java/lang/invoke/VarHandle" ∧ (parseMethodDescriptor yX4_when.desc).map (fun d => d.parameters.length) = some 1 := ⟨by decide +kernel, by decide +kernel, by decide +kernel⟩
theorem kL_61 : z_LV RL 61 yX4_when cX4_when 3 (some .int) 1 := ⟨z_all4 zw_314 zw_315 zw_316 zw_1, zw_317, pX4_when, by decide⟩
theorem pX4_stayInTrial : yX4_stayInTrial.cls ≠ "java/lang/invoke/MethodHandle" ∧ yX4_stayInTrial.cls ≠ "java/lang/invoke/VarHandle" ∧ (parseMethodDescriptor yX4_stayInTrial.desc).map (fun d => d.parameters.length) = some 1 := ⟨by decide +kernel, by decide +kernel, by decide +kernel⟩
theorem kX4_145 : z_LV RX4 145 yX4_stayInTrial cX4_stayInTrial 4 (some .int) 1 := ⟨z_all4 zw_318 zw_319 zw_1096 zw_1, zw_320, pX4_stayInTrial, by decide⟩
theorem kX4_148 : z_LV RX4 148 yX0_goPocket cX0_goPocket 3 (some .boolean) 0 := ⟨z_all4 zw_321 zw_252 zw_253 zw_2, zw_254, pX0_goPocket, by decide⟩
theorem pX4_falls : yX4_falls.cls ≠ "java/lang/invoke/MethodHandle" ∧ yX4_falls.cls ≠ "java/lang/invoke/VarHandle" ∧ (parseMethodDescriptor yX4_falls.desc).map (fun d => d.parameters.length) = some 1 := ⟨by decide +kernel, by decide +kernel, by decide +kernel⟩
theorem kL_65 : z_LV RL 65 yX4_falls cX4_falls 3 (some .int) 1 := ⟨z_all4 zw_322 zw_323 zw_324 zw_1, zw_325, pX4_falls, by decide⟩
theorem pX4_first : yX4_first.cls ≠ "java/lang/invoke/MethodHandle" ∧ yX4_first.cls ≠ "java/lang/invoke/VarHandle" ∧ (parseMethodDescriptor yX4_first.desc).map (fun d => d.parameters.length) = some 0 := ⟨by decide +kernel, by decide +kernel, by decide +kernel⟩
theorem kL_69 : z_LV RL 69 yX4_first cX4_first 4 (some .int) 0 := ⟨z_all4 zw_326 zw_327 zw_328 zw_1, zw_329, pX4_first, by decide⟩
theorem pX4_leastOf : yX4_leastOf.cls ≠ "java/lang/invoke/MethodHandle" ∧ yX4_leastOf.cls ≠ "java/lang/invoke/VarHandle" ∧ (parseMethodDescriptor yX4_leastOf.desc).map (fun d => d.parameters.length) = some 1 := ⟨by decide +kernel, by decide +kernel, by decide +kernel⟩
theorem kX4_152 : z_LS RX4 152 yX4_leastOf cX4_leastOf 2 (some .int) 1 := ⟨z_all3 zw_330 zw_331 zw_1, zw_332, pX4_leastOf, by decide⟩
theorem pX4_cell : yX4_cell.cls ≠ "java/lang/invoke/MethodHandle" ∧ yX4_cell.cls ≠ "java/lang/invoke/VarHandle" ∧ (parseMethodDescriptor yX4_cell.desc).map (fun d => d.parameters.length) = some 2 := ⟨by decide +kernel, by decide +kernel, by decide +kernel⟩
theorem kL_73 : z_LV RL 73 yX4_cell cX4_cell 4 (some .int) 2 := ⟨z_all4 zw_333 zw_334 zw_335 zw_1, zw_336, pX4_cell, by decide⟩
theorem pX4_bears : yX4_bears.cls ≠ "java/lang/invoke/MethodHandle" ∧ yX4_bears.cls ≠ "java/lang/invoke/VarHandle" ∧ (parseMethodDescriptor yX4_bears.desc).map (fun d => d.parameters.length) = some 2 := ⟨by decide +kernel, by decide +kernel, by decide +kernel⟩
theorem kL_77 : z_LV RL 77 yX4_bears cX4_bears 4 (some .int) 2 := ⟨z_all4 zw_337 zw_338 zw_339 zw_1, zw_340, pX4_bears, by decide⟩
theorem pX4_goneWithHole : yX4_goneWithHole.cls ≠ "java/lang/invoke/MethodHandle" ∧ yX4_goneWithHole.cls ≠ "java/lang/invoke/VarHandle" ∧ (parseMethodDescriptor yX4_goneWithHole.desc).map (fun d => d.parameters.length) = some 2 := ⟨by decide +kernel, by decide +kernel, by decide +kernel⟩
theorem kX4_158 : z_LV RX4 158 yX4_goneWithHole cX4_goneWithHole 5 (some .int) 2 := ⟨z_all4 zw_341 zw_342 zw_1097 zw_1, zw_343, pX4_goneWithHole, by decide⟩
theorem pX4_latest : yX4_latest.cls ≠ "java/lang/invoke/MethodHandle" ∧ yX4_latest.cls ≠ "java/lang/invoke/VarHandle" ∧ (parseMethodDescriptor yX4_latest.desc).map (fun d => d.parameters.length) = some 2 := ⟨by decide +kernel, by decide +kernel, by decide +kernel⟩
theorem kL_81 : z_LV RL 81 yX4_latest cX4_latest 4 (some .int) 2 := ⟨z_all4 zw_344 zw_345 zw_346 zw_1, zw_347, pX4_latest, by decide⟩
theorem pX4_lostBehind : yX4_lostBehind.cls ≠ "java/lang/invoke/MethodHandle" ∧ yX4_lostBehind.cls ≠ "java/lang/invoke/VarHandle" ∧ (parseMethodDescriptor yX4_lostBehind.desc).map (fun d => d.parameters.length) = some 1 := ⟨by decide +kernel, by decide +kernel, by decide +kernel⟩
theorem kX4_161 : z_LV RX4 161 yX4_lostBehind cX4_lostBehind 2 (some .int) 1 := ⟨z_all4 zw_348 zw_349 zw_1098 zw_1, zw_350, pX4_lostBehind, by decide⟩
theorem kX4_167 : z_LV RX4 167 yX0_penceOf cX0_penceOf 4 (some .int) 1 := ⟨z_all4 zw_351 zw_237 zw_238 zw_2, zw_239, pX0_penceOf, by decide⟩
theorem pX4_carry : yX4_carry.cls ≠ "java/lang/invoke/MethodHandle" ∧ yX4_carry.cls ≠ "java/lang/invoke/VarHandle" ∧ (parseMethodDescriptor yX4_carry.desc).map (fun d => d.parameters.length) = some 1 := ⟨by decide +kernel, by decide +kernel, by decide +kernel⟩
theorem kL_85 : z_LV RL 85 yX4_carry cX4_carry 2 (some .int) 1 := ⟨z_all4 zw_352 zw_353 zw_354 zw_1, zw_355, pX4_carry, by decide⟩
theorem pX4_richestStaying : yX4_richestStaying.cls ≠ "java/lang/invoke/MethodHandle" ∧ yX4_richestStaying.cls ≠ "java/lang/invoke/VarHandle" ∧ (parseMethodDescriptor yX4_richestStaying.desc).map (fun d => d.parameters.length) = some 1 := ⟨by decide +kernel, by decide +kernel, by decide +kernel⟩
theorem kX4_164 : z_LV RX4 164 yX4_richestStaying cX4_richestStaying 7 (some .int) 1 := ⟨z_all4 zw_356 zw_357 zw_1099 zw_1, zw_358, pX4_richestStaying, by decide⟩
theorem pX0_sets : yX0_sets.cls ≠ "java/lang/invoke/MethodHandle" ∧ yX0_sets.cls ≠ "java/lang/invoke/VarHandle" ∧ (parseMethodDescriptor yX0_sets.desc).map (fun d => d.parameters.length) = some 0 := ⟨by decide +kernel, by decide +kernel, by decide +kernel⟩
theorem kX4_173 : z_LV RX4 173 yX0_sets cX0_sets 1 (some .int) 0 := ⟨z_all4 zw_359 zw_360 zw_361 zw_2, zw_362, pX0_sets, by decide⟩
theorem pX4_stays : yX4_stays.cls ≠ "java/lang/invoke/MethodHandle" ∧ yX4_stays.cls ≠ "java/lang/invoke/VarHandle" ∧ (parseMethodDescriptor yX4_stays.desc).map (fun d => d.parameters.length) = some 3 := ⟨by decide +kernel, by decide +kernel, by decide +kernel⟩
theorem kX4_259 : z_LV RX4 259 yX4_stays cX4_stays 6 (some .boolean) 3 := ⟨z_all4 zw_363 zw_364 zw_1100 zw_1, zw_365, pX4_stays, by decide⟩
theorem pX4_carried : yX4_carried.cls ≠ "java/lang/invoke/MethodHandle" ∧ yX4_carried.cls ≠ "java/lang/invoke/VarHandle" ∧ (parseMethodDescriptor yX4_carried.desc).map (fun d => d.parameters.length) = some 1 := ⟨by decide +kernel, by decide +kernel, by decide +kernel⟩
theorem kL_89 : z_LV RL 89 yX4_carried cX4_carried 2 (some .int) 1 := ⟨z_all4 zw_366 zw_367 zw_368 zw_1, zw_369, pX4_carried, by decide⟩
theorem pX4_kindFor : yX4_kindFor.cls ≠ "java/lang/invoke/MethodHandle" ∧ yX4_kindFor.cls ≠ "java/lang/invoke/VarHandle" ∧ (parseMethodDescriptor yX4_kindFor.desc).map (fun d => d.parameters.length) = some 1 := ⟨by decide +kernel, by decide +kernel, by decide +kernel⟩
theorem kL_93 : z_LV RL 93 yX4_kindFor cX4_kindFor 6 (some .int) 1 := ⟨z_all4 zw_370 zw_371 zw_372 zw_1, zw_373, pX4_kindFor, by decide⟩
theorem pX4_worst : yX4_worst.cls ≠ "java/lang/invoke/MethodHandle" ∧ yX4_worst.cls ≠ "java/lang/invoke/VarHandle" ∧ (parseMethodDescriptor yX4_worst.desc).map (fun d => d.parameters.length) = some 1 := ⟨by decide +kernel, by decide +kernel, by decide +kernel⟩
theorem kL_97 : z_LV RL 97 yX4_worst cX4_worst 6 (some .int) 1 := ⟨z_all4 zw_374 zw_375 zw_376 zw_1, zw_377, pX4_worst, by decide⟩
theorem pX4_hem : yX4_hem.cls ≠ "java/lang/invoke/MethodHandle" ∧ yX4_hem.cls ≠ "java/lang/invoke/VarHandle" ∧ (parseMethodDescriptor yX4_hem.desc).map (fun d => d.parameters.length) = some 1 := ⟨by decide +kernel, by decide +kernel, by decide +kernel⟩
theorem kL_101 : z_LV RL 101 yX4_hem cX4_hem 6 (some .int) 1 := ⟨z_all4 zw_378 zw_379 zw_380 zw_1, zw_381, pX4_hem, by decide⟩
theorem pX4_pay : yX4_pay.cls ≠ "java/lang/invoke/MethodHandle" ∧ yX4_pay.cls ≠ "java/lang/invoke/VarHandle" ∧ (parseMethodDescriptor yX4_pay.desc).map (fun d => d.parameters.length) = some 1 := ⟨by decide +kernel, by decide +kernel, by decide +kernel⟩
theorem kL_105 : z_LV RL 105 yX4_pay cX4_pay 7 (some .int) 1 := ⟨z_all4 zw_382 zw_383 zw_384 zw_1, zw_385, pX4_pay, by decide⟩
theorem pX4_small : yX4_small.cls ≠ "java/lang/invoke/MethodHandle" ∧ yX4_small.cls ≠ "java/lang/invoke/VarHandle" ∧ (parseMethodDescriptor yX4_small.desc).map (fun d => d.parameters.length) = some 1 := ⟨by decide +kernel, by decide +kernel, by decide +kernel⟩
theorem kL_109 : z_LV RL 109 yX4_small cX4_small 8 (some .int) 1 := ⟨z_all4 zw_386 zw_387 zw_388 zw_1, zw_389, pX4_small, by decide⟩
theorem pX0_thinOnes : yX0_thinOnes.cls ≠ "java/lang/invoke/MethodHandle" ∧ yX0_thinOnes.cls ≠ "java/lang/invoke/VarHandle" ∧ (parseMethodDescriptor yX0_thinOnes.desc).map (fun d => d.parameters.length) = some 0 := ⟨by decide +kernel, by decide +kernel, by decide +kernel⟩
theorem kX4_176 : z_LV RX4 176 yX0_thinOnes cX0_thinOnes 3 (some .int) 0 := ⟨z_all4 zw_390 zw_391 zw_392 zw_2, zw_393, pX0_thinOnes, by decide⟩
theorem pX4_paid : yX4_paid.cls ≠ "java/lang/invoke/MethodHandle" ∧ yX4_paid.cls ≠ "java/lang/invoke/VarHandle" ∧ (parseMethodDescriptor yX4_paid.desc).map (fun d => d.parameters.length) = some 1 := ⟨by decide +kernel, by decide +kernel, by decide +kernel⟩
theorem kL_113 : z_LV RL 113 yX4_paid cX4_paid 3 (some .int) 1 := ⟨z_all4 zw_394 zw_395 zw_396 zw_1, zw_397, pX4_paid, by decide⟩
theorem pX0_isSet : yX0_isSet.cls ≠ "java/lang/invoke/MethodHandle" ∧ yX0_isSet.cls ≠ "java/lang/invoke/VarHandle" ∧ (parseMethodDescriptor yX0_isSet.desc).map (fun d => d.parameters.length) = some 1 := ⟨by decide +kernel, by decide +kernel, by decide +kernel⟩
theorem kX4_179 : z_LV RX4 179 yX0_isSet cX0_isSet 2 (some .boolean) 1 := ⟨z_all4 zw_398 zw_399 zw_400 zw_2, zw_401, pX0_isSet, by decide⟩
theorem kX0_55 : z_LV RX0 55 yX0_sets cX0_sets 1 (some .int) 0 := ⟨z_all4 zw_402 zw_360 zw_361 zw_2, zw_362, pX0_sets, by decide⟩
theorem pX4_sums : yX4_sums.cls ≠ "java/lang/invoke/MethodHandle" ∧ yX4_sums.cls ≠ "java/lang/invoke/VarHandle" ∧ (parseMethodDescriptor yX4_sums.desc).map (fun d => d.parameters.length) = some 0 := ⟨by decide +kernel, by decide +kernel, by decide +kernel⟩
theorem kL_117 : z_LV RL 117 yX4_sums cX4_sums 3 (some .int) 0 := ⟨z_all4 zw_403 zw_404 zw_405 zw_1, zw_406, pX4_sums, by decide⟩
theorem pX4_markSumsWith : yX4_markSumsWith.cls ≠ "java/lang/invoke/MethodHandle" ∧ yX4_markSumsWith.cls ≠ "java/lang/invoke/VarHandle" ∧ (parseMethodDescriptor yX4_markSumsWith.desc).map (fun d => d.parameters.length) = some 1 := ⟨by decide +kernel, by decide +kernel, by decide +kernel⟩
theorem kX4_185 : z_LV RX4 185 yX4_markSumsWith cX4_markSumsWith 7 none 1 := ⟨z_all4 zw_407 zw_408 zw_1101 zw_1, zw_409, pX4_markSumsWith, by decide⟩
theorem pJ13_bitCount_95d88 : yJ13_bitCount_95d88.cls ≠ "java/lang/invoke/MethodHandle" ∧ yJ13_bitCount_95d88.cls ≠ "java/lang/invoke/VarHandle" ∧ (parseMethodDescriptor yJ13_bitCount_95d88.desc).map (fun d => d.parameters.length) = some 1 := ⟨by decide +kernel, by decide +kernel, by decide +kernel⟩
theorem kX4_188 : z_LS RX4 188 yJ13_bitCount_95d88 cJ13_bitCount_95d88 2 (some .int) 1 := ⟨z_all3 zw_410 zw_411 zw_10, zw_412, pJ13_bitCount_95d88, by decide⟩
theorem pX4_fits : yX4_fits.cls ≠ "java/lang/invoke/MethodHandle" ∧ yX4_fits.cls ≠ "java/lang/invoke/VarHandle" ∧ (parseMethodDescriptor yX4_fits.desc).map (fun d => d.parameters.length) = some 2 := ⟨by decide +kernel, by decide +kernel, by decide +kernel⟩
theorem kL_121 : z_LV RL 121 yX4_fits cX4_fits 5 (some .int) 2 := ⟨z_all4 zw_416 zw_417 zw_418 zw_1, zw_419, pX4_fits, by decide⟩
theorem pX4_size : yX4_size.cls ≠ "java/lang/invoke/MethodHandle" ∧ yX4_size.cls ≠ "java/lang/invoke/VarHandle" ∧ (parseMethodDescriptor yX4_size.desc).map (fun d => d.parameters.length) = some 2 := ⟨by decide +kernel, by decide +kernel, by decide +kernel⟩
theorem kL_125 : z_LV RL 125 yX4_size cX4_size 4 (some .int) 2 := ⟨z_all4 zw_420 zw_421 zw_422 zw_1, zw_423, pX4_size, by decide⟩
theorem pX4_began : yX4_began.cls ≠ "java/lang/invoke/MethodHandle" ∧ yX4_began.cls ≠ "java/lang/invoke/VarHandle" ∧ (parseMethodDescriptor yX4_began.desc).map (fun d => d.parameters.length) = some 1 := ⟨by decide +kernel, by decide +kernel, by decide +kernel⟩
theorem kL_129 : z_LV RL 129 yX4_began cX4_began 4 (some .int) 1 := ⟨z_all4 zw_424 zw_425 zw_426 zw_1, zw_427, pX4_began, by decide⟩
theorem pX4_boy : yX4_boy.cls ≠ "java/lang/invoke/MethodHandle" ∧ yX4_boy.cls ≠ "java/lang/invoke/VarHandle" ∧ (parseMethodDescriptor yX4_boy.desc).map (fun d => d.parameters.length) = some 2 := ⟨by decide +kernel, by decide +kernel, by decide +kernel⟩
theorem kL_133 : z_LV RL 133 yX4_boy cX4_boy 6 (some .int) 2 := ⟨z_all4 zw_428 zw_429 zw_430 zw_1, zw_431, pX4_boy, by decide⟩
theorem pX4_lining : yX4_lining.cls ≠ "java/lang/invoke/MethodHandle" ∧ yX4_lining.cls ≠ "java/lang/invoke/VarHandle" ∧ (parseMethodDescriptor yX4_lining.desc).map (fun d => d.parameters.length) = some 1 := ⟨by decide +kernel, by decide +kernel, by decide +kernel⟩
theorem kL_137 : z_LV RL 137 yX4_lining cX4_lining 5 (some .int) 1 := ⟨z_all4 zw_432 zw_433 zw_434 zw_1, zw_435, pX4_lining, by decide⟩
theorem pX4_back : yX4_back.cls ≠ "java/lang/invoke/MethodHandle" ∧ yX4_back.cls ≠ "java/lang/invoke/VarHandle" ∧ (parseMethodDescriptor yX4_back.desc).map (fun d => d.parameters.length) = some 2 := ⟨by decide +kernel, by decide +kernel, by decide +kernel⟩
theorem kL_141 : z_LV RL 141 yX4_back cX4_back 3 (some .int) 2 := ⟨z_all4 zw_436 zw_437 zw_438 zw_1, zw_439, pX4_back, by decide⟩
theorem pX0_hasFallen : yX0_hasFallen.cls ≠ "java/lang/invoke/MethodHandle" ∧ yX0_hasFallen.cls ≠ "java/lang/invoke/VarHandle" ∧ (parseMethodDescriptor yX0_hasFallen.desc).map (fun d => d.parameters.length) = some 1 := ⟨by decide +kernel, by decide +kernel, by decide +kernel⟩
theorem kX4_193 : z_LV RX4 193 yX0_hasFallen cX0_hasFallen 2 (some .boolean) 1 := ⟨z_all4 zw_440 zw_441 zw_442 zw_2, zw_443, pX0_hasFallen, by decide⟩
theorem pX0_wayCell : yX0_wayCell.cls ≠ "java/lang/invoke/MethodHandle" ∧ yX0_wayCell.cls ≠ "java/lang/invoke/VarHandle" ∧ (parseMethodDescriptor yX0_wayCell.desc).map (fun d => d.parameters.length) = some 2 := ⟨by decide +kernel, by decide +kernel, by decide +kernel⟩
theorem kX4_196 : z_LV RX4 196 yX0_wayCell cX0_wayCell 3 (some .int) 2 := ⟨z_all4 zw_444 zw_445 zw_446 zw_2, zw_447, pX0_wayCell, by decide⟩
theorem pX4_richest : yX4_richest.cls ≠ "java/lang/invoke/MethodHandle" ∧ yX4_richest.cls ≠ "java/lang/invoke/VarHandle" ∧ (parseMethodDescriptor yX4_richest.desc).map (fun d => d.parameters.length) = some 1 := ⟨by decide +kernel, by decide +kernel, by decide +kernel⟩
theorem kL_145 : z_LV RL 145 yX4_richest cX4_richest 4 (some .int) 1 := ⟨z_all4 zw_448 zw_449 zw_450 zw_1, zw_451, pX4_richest, by decide⟩
theorem pX4_days : yX4_days.cls ≠ "java/lang/invoke/MethodHandle" ∧ yX4_days.cls ≠ "java/lang/invoke/VarHandle" ∧ (parseMethodDescriptor yX4_days.desc).map (fun d => d.parameters.length) = some 1 := ⟨by decide +kernel, by decide +kernel, by decide +kernel⟩
theorem kL_149 : z_LV RL 149 yX4_days cX4_days 5 (some .int) 1 := ⟨z_all4 zw_455 zw_456 zw_457 zw_1, zw_458, pX4_days, by decide⟩
theorem pX0_draw : yX0_draw.cls ≠ "java/lang/invoke/MethodHandle" ∧ yX0_draw.cls ≠ "java/lang/invoke/VarHandle" ∧ (parseMethodDescriptor yX0_draw.desc).map (fun d => d.parameters.length) = some 0 := ⟨by decide +kernel, by decide +kernel, by decide +kernel⟩
theorem kX4_204 : z_LV RX4 204 yX0_draw cX0_draw 1 (some .int) 0 := ⟨z_all4 zw_459 zw_460 zw_461 zw_2, zw_462, pX0_draw, by decide⟩
theorem pX4_seed : yX4_seed.cls ≠ "java/lang/invoke/MethodHandle" ∧ yX4_seed.cls ≠ "java/lang/invoke/VarHandle" ∧ (parseMethodDescriptor yX4_seed.desc).map (fun d => d.parameters.length) = some 1 := ⟨by decide +kernel, by decide +kernel, by decide +kernel⟩
theorem kL_153 : z_LV RL 153 yX4_seed cX4_seed 3 (some .int) 1 := ⟨z_all4 zw_464 zw_465 zw_466 zw_1, zw_467, pX4_seed, by decide⟩
theorem pX4_feed : yX4_feed.cls ≠ "java/lang/invoke/MethodHandle" ∧ yX4_feed.cls ≠ "java/lang/invoke/VarHandle" ∧ (parseMethodDescriptor yX4_feed.desc).map (fun d => d.parameters.length) = some 2 := ⟨by decide +kernel, by decide +kernel, by decide +kernel⟩
theorem kL_157 : z_LV RL 157 yX4_feed cX4_feed 4 (some .int) 2 := ⟨z_all4 zw_468 zw_469 zw_470 zw_1, zw_471, pX4_feed, by decide⟩
theorem pX3_add : yX3_add.cls ≠ "java/lang/invoke/MethodHandle" ∧ yX3_add.cls ≠ "java/lang/invoke/VarHandle" ∧ (parseMethodDescriptor yX3_add.desc).map (fun d => d.parameters.length) = some 1 := ⟨by decide +kernel, by decide +kernel, by decide +kernel⟩
theorem kX4_213 : z_LV RX4 213 yX3_add cX3_add 2 none 1 := ⟨z_all4 zw_472 zw_473 zw_474 zw_4, zw_475, pX3_add, by decide⟩
theorem pX4_wipe : yX4_wipe.cls ≠ "java/lang/invoke/MethodHandle" ∧ yX4_wipe.cls ≠ "java/lang/invoke/VarHandle" ∧ (parseMethodDescriptor yX4_wipe.desc).map (fun d => d.parameters.length) = some 0 := ⟨by decide +kernel, by decide +kernel, by decide +kernel⟩
theorem kL_161 : z_LV RL 161 yX4_wipe cX4_wipe 2 (some .int) 0 := ⟨z_all4 zw_476 zw_477 zw_478 zw_1, zw_479, pX4_wipe, by decide⟩
theorem pX4_text : yX4_text.cls ≠ "java/lang/invoke/MethodHandle" ∧ yX4_text.cls ≠ "java/lang/invoke/VarHandle" ∧ (parseMethodDescriptor yX4_text.desc).map (fun d => d.parameters.length) = some 0 := ⟨by decide +kernel, by decide +kernel, by decide +kernel⟩
theorem kL_165 : z_LV RL 165 yX4_text cX4_text 2 (some .int) 0 := ⟨z_all4 zw_480 zw_481 zw_482 zw_1, zw_483, pX4_text, by decide⟩
theorem pX3_readInto : yX3_readInto.cls ≠ "java/lang/invoke/MethodHandle" ∧ yX3_readInto.cls ≠ "java/lang/invoke/VarHandle" ∧ (parseMethodDescriptor yX3_readInto.desc).map (fun d => d.parameters.length) = some 1 := ⟨by decide +kernel, by decide +kernel, by decide +kernel⟩
theorem kX4_216 : z_LV RX4 216 yX3_readInto cX3_readInto 4 (some .int) 1 := ⟨z_all4 zw_484 zw_485 zw_486 zw_4, zw_487, pX3_readInto, by decide⟩
theorem pX3_toNextToken : yX3_toNextToken.cls ≠ "java/lang/invoke/MethodHandle" ∧ yX3_toNextToken.cls ≠ "java/lang/invoke/VarHandle" ∧ (parseMethodDescriptor yX3_toNextToken.desc).map (fun d => d.parameters.length) = some 0 := ⟨by decide +kernel, by decide +kernel, by decide +kernel⟩
theorem kX3_31 : z_LV RX3 31 yX3_toNextToken cX3_toNextToken 1 none 0 := ⟨z_all4 zw_488 zw_489 zw_1102 zw_4, zw_490, pX3_toNextToken, by decide⟩
theorem pX3_isLetter : yX3_isLetter.cls ≠ "java/lang/invoke/MethodHandle" ∧ yX3_isLetter.cls ≠ "java/lang/invoke/VarHandle" ∧ (parseMethodDescriptor yX3_isLetter.desc).map (fun d => d.parameters.length) = some 1 := ⟨by decide +kernel, by decide +kernel, by decide +kernel⟩
theorem kX3_132 : z_LS RX3 132 yX3_isLetter cX3_isLetter 1 (some .boolean) 1 := ⟨z_all3 zw_491 zw_492 zw_4, zw_493, pX3_isLetter, by decide⟩
theorem pX3_isDigit : yX3_isDigit.cls ≠ "java/lang/invoke/MethodHandle" ∧ yX3_isDigit.cls ≠ "java/lang/invoke/VarHandle" ∧ (parseMethodDescriptor yX3_isDigit.desc).map (fun d => d.parameters.length) = some 1 := ⟨by decide +kernel, by decide +kernel, by decide +kernel⟩
theorem kX3_136 : z_LS RX3 136 yX3_isDigit cX3_isDigit 1 (some .boolean) 1 := ⟨z_all3 zw_494 zw_495 zw_4, zw_496, pX3_isDigit, by decide⟩
theorem pX3_takesWord : yX3_takesWord.cls ≠ "java/lang/invoke/MethodHandle" ∧ yX3_takesWord.cls ≠ "java/lang/invoke/VarHandle" ∧ (parseMethodDescriptor yX3_takesWord.desc).map (fun d => d.parameters.length) = some 1 := ⟨by decide +kernel, by decide +kernel, by decide +kernel⟩
theorem kX3_36 : z_LV RX3 36 yX3_takesWord cX3_takesWord 2 (some .boolean) 1 := ⟨z_all4 zw_498 zw_499 zw_1103 zw_4, zw_500, pX3_takesWord, by decide⟩
theorem pX3_isWord : yX3_isWord.cls ≠ "java/lang/invoke/MethodHandle" ∧ yX3_isWord.cls ≠ "java/lang/invoke/VarHandle" ∧ (parseMethodDescriptor yX3_isWord.desc).map (fun d => d.parameters.length) = some 1 := ⟨by decide +kernel, by decide +kernel, by decide +kernel⟩
theorem kX3_103 : z_LV RX3 103 yX3_isWord cX3_isWord 3 (some .boolean) 1 := ⟨z_all4 zw_501 zw_502 zw_1104 zw_4, zw_503, pX3_isWord, by decide⟩
theorem pJ0_length_8abf5 : yJ0_length_8abf5.cls ≠ "java/lang/invoke/MethodHandle" ∧ yJ0_length_8abf5.cls ≠ "java/lang/invoke/VarHandle" ∧ (parseMethodDescriptor yJ0_length_8abf5.desc).map (fun d => d.parameters.length) = some 0 := ⟨by decide +kernel, by decide +kernel, by decide +kernel⟩
theorem kX3_120 : z_LV RX3 120 yJ0_length_8abf5 cJ0_length_8abf5 1 (some .int) 0 := ⟨z_all4 zw_504 zw_505 zw_506 zw_11, zw_507, pJ0_length_8abf5, by decide⟩
theorem pJ0_coder_7d493 : yJ0_coder_7d493.cls ≠ "java/lang/invoke/MethodHandle" ∧ yJ0_coder_7d493.cls ≠ "java/lang/invoke/VarHandle" ∧ (parseMethodDescriptor yJ0_coder_7d493.desc).map (fun d => d.parameters.length) = some 0 := ⟨by decide +kernel, by decide +kernel, by decide +kernel⟩
theorem kJ0_335 : z_LV RJ0 335 yJ0_coder_7d493 cJ0_coder_7d493 1 (some .byte) 0 := ⟨z_all4 zw_508 zw_509 zw_510 zw_11, zw_511, pJ0_coder_7d493, by decide⟩
theorem pJ0_charAt_5068e : yJ0_charAt_5068e.cls ≠ "java/lang/invoke/MethodHandle" ∧ yJ0_charAt_5068e.cls ≠ "java/lang/invoke/VarHandle" ∧ (parseMethodDescriptor yJ0_charAt_5068e.desc).map (fun d => d.parameters.length) = some 1 := ⟨by decide +kernel, by decide +kernel, by decide +kernel⟩
theorem kX3_124 : z_LV RX3 124 yJ0_charAt_5068e cJ0_charAt_5068e 2 (some .char) 1 := ⟨z_all4 zw_513 zw_514 zw_515 zw_11, zw_516, pJ0_charAt_5068e, by decide⟩
theorem pJ0_isLatin1_aae02 : yJ0_isLatin1_aae02.cls ≠ "java/lang/invoke/MethodHandle" ∧ yJ0_isLatin1_aae02.cls ≠ "java/lang/invoke/VarHandle" ∧ (parseMethodDescriptor yJ0_isLatin1_aae02.desc).map (fun d => d.parameters.length) = some 0 := ⟨by decide +kernel, by decide +kernel, by decide +kernel⟩
theorem kJ0_492 : z_LV RJ0 492 yJ0_isLatin1_aae02 cJ0_isLatin1_aae02 1 (some .boolean) 0 := ⟨z_all4 zw_517 zw_518 zw_519 zw_11, zw_520, pJ0_isLatin1_aae02, by decide⟩
theorem pJ1_charAt_3b067 : yJ1_charAt_3b067.cls ≠ "java/lang/invoke/MethodHandle" ∧ yJ1_charAt_3b067.cls ≠ "java/lang/invoke/VarHandle" ∧ (parseMethodDescriptor yJ1_charAt_3b067.desc).map (fun d => d.parameters.length) = some 2 := ⟨by decide +kernel, by decide +kernel, by decide +kernel⟩
theorem kJ0_495 : z_LS RJ0 495 yJ1_charAt_3b067 cJ1_charAt_3b067 2 (some .char) 2 := ⟨z_all3 zw_521 zw_522 zw_12, zw_523, pJ1_charAt_3b067, by decide⟩
theorem pJ0_checkIndex_df160 : yJ0_checkIndex_df160.cls ≠ "java/lang/invoke/MethodHandle" ∧ yJ0_checkIndex_df160.cls ≠ "java/lang/invoke/VarHandle" ∧ (parseMethodDescriptor yJ0_checkIndex_df160.desc).map (fun d => d.parameters.length) = some 2 := ⟨by decide +kernel, by decide +kernel, by decide +kernel⟩
theorem kJ1_9 : z_LS RJ1 9 yJ0_checkIndex_df160 cJ0_checkIndex_df160 2 none 2 := ⟨z_all3 zw_524 zw_525 zw_11, zw_526, pJ0_checkIndex_df160, by decide⟩
theorem pJ3_checkIndex_8e157 : yJ3_checkIndex_8e157.cls ≠ "java/lang/invoke/MethodHandle" ∧ yJ3_checkIndex_8e157.cls ≠ "java/lang/invoke/VarHandle" ∧ (parseMethodDescriptor yJ3_checkIndex_8e157.desc).map (fun d => d.parameters.length) = some 3 := ⟨by decide +kernel, by decide +kernel, by decide +kernel⟩
theorem kJ0_1059 : z_LS RJ0 1059 yJ3_checkIndex_8e157 cJ3_checkIndex_8e157 3 (some .int) 3 := ⟨z_all3 zw_528 zw_529 zw_13, zw_530, pJ3_checkIndex_8e157, by decide⟩
theorem pJ2_charAt_3b067 : yJ2_charAt_3b067.cls ≠ "java/lang/invoke/MethodHandle" ∧ yJ2_charAt_3b067.cls ≠ "java/lang/invoke/VarHandle" ∧ (parseMethodDescriptor yJ2_charAt_3b067.desc).map (fun d => d.parameters.length) = some 2 := ⟨by decide +kernel, by decide +kernel, by decide +kernel⟩
theorem kJ0_498 : z_LS RJ0 498 yJ2_charAt_3b067 cJ2_charAt_3b067 2 (some .char) 2 := ⟨z_all3 zw_531 zw_532 zw_14, zw_533, pJ2_charAt_3b067, by decide⟩
theorem pJ2_checkIndex_2214a : yJ2_checkIndex_2214a.cls ≠ "java/lang/invoke/MethodHandle" ∧ yJ2_checkIndex_2214a.cls ≠ "java/lang/invoke/VarHandle" ∧ (parseMethodDescriptor yJ2_checkIndex_2214a.desc).map (fun d => d.parameters.length) = some 2 := ⟨by decide +kernel, by decide +kernel, by decide +kernel⟩
theorem kJ2_67 : z_LS RJ2 67 yJ2_checkIndex_2214a cJ2_checkIndex_2214a 2 none 2 := ⟨z_all3 zw_534 zw_535 zw_14, zw_536, pJ2_checkIndex_2214a, by decide⟩
theorem pJ2_length_9d52b : yJ2_length_9d52b.cls ≠ "java/lang/invoke/MethodHandle" ∧ yJ2_length_9d52b.cls ≠ "java/lang/invoke/VarHandle" ∧ (parseMethodDescriptor yJ2_length_9d52b.desc).map (fun d => d.parameters.length) = some 1 := ⟨by decide +kernel, by decide +kernel, by decide +kernel⟩
theorem kJ2_48 : z_LS RJ2 48 yJ2_length_9d52b cJ2_length_9d52b 1 (some .int) 1 := ⟨z_all3 zw_537 zw_538 zw_14, zw_539, pJ2_length_9d52b, by decide⟩
theorem kJ2_414 : z_LS RJ2 414 yJ0_checkIndex_df160 cJ0_checkIndex_df160 2 none 2 := ⟨z_all3 zw_540 zw_525 zw_11, zw_526, pJ0_checkIndex_df160, by decide⟩
theorem pJ2_getChar_3b067 : yJ2_getChar_3b067.cls ≠ "java/lang/invoke/MethodHandle" ∧ yJ2_getChar_3b067.cls ≠ "java/lang/invoke/VarHandle" ∧ (parseMethodDescriptor yJ2_getChar_3b067.desc).map (fun d => d.parameters.length) = some 2 := ⟨by decide +kernel, by decide +kernel, by decide +kernel⟩
theorem kJ2_71 : z_LS RJ2 71 yJ2_getChar_3b067 cJ2_getChar_3b067 2 (some .char) 2 := ⟨z_all3 zw_541 zw_542 zw_14, zw_543, pJ2_getChar_3b067, by decide⟩
theorem pX3_readsHole : yX3_readsHole.cls ≠ "java/lang/invoke/MethodHandle" ∧ yX3_readsHole.cls ≠ "java/lang/invoke/VarHandle" ∧ (parseMethodDescriptor yX3_readsHole.desc).map (fun d => d.parameters.length) = some 1 := ⟨by decide +kernel, by decide +kernel, by decide +kernel⟩
theorem kX3_40 : z_LV RX3 40 yX3_readsHole cX3_readsHole 3 (some .boolean) 1 := ⟨z_all4 zw_547 zw_548 zw_1105 zw_4, zw_549, pX3_readsHole, by decide⟩
theorem pX3_takenNumber : yX3_takenNumber.cls ≠ "java/lang/invoke/MethodHandle" ∧ yX3_takenNumber.cls ≠ "java/lang/invoke/VarHandle" ∧ (parseMethodDescriptor yX3_takenNumber.desc).map (fun d => d.parameters.length) = some 2 := ⟨by decide +kernel, by decide +kernel, by decide +kernel⟩
theorem kX3_52 : z_LV RX3 52 yX3_takenNumber cX3_takenNumber 4 (some .int) 2 := ⟨z_all4 zw_550 zw_551 zw_1106 zw_4, zw_552, pX3_takenNumber, by decide⟩
theorem pX3_readsGap : yX3_readsGap.cls ≠ "java/lang/invoke/MethodHandle" ∧ yX3_readsGap.cls ≠ "java/lang/invoke/VarHandle" ∧ (parseMethodDescriptor yX3_readsGap.desc).map (fun d => d.parameters.length) = some 1 := ⟨by decide +kernel, by decide +kernel, by decide +kernel⟩
theorem kX3_46 : z_LV RX3 46 yX3_readsGap cX3_readsGap 4 (some .boolean) 1 := ⟨z_all4 zw_554 zw_555 zw_1107 zw_4, zw_556, pX3_readsGap, by decide⟩
theorem pX3_readsCoin : yX3_readsCoin.cls ≠ "java/lang/invoke/MethodHandle" ∧ yX3_readsCoin.cls ≠ "java/lang/invoke/VarHandle" ∧ (parseMethodDescriptor yX3_readsCoin.desc).map (fun d => d.parameters.length) = some 1 := ⟨by decide +kernel, by decide +kernel, by decide +kernel⟩
theorem kX3_49 : z_LV RX3 49 yX3_readsCoin cX3_readsCoin 4 (some .boolean) 1 := ⟨z_all4 zw_557 zw_558 zw_1108 zw_4, zw_559, pX3_readsCoin, by decide⟩
theorem pX3_kindTold : yX3_kindTold.cls ≠ "java/lang/invoke/MethodHandle" ∧ yX3_kindTold.cls ≠ "java/lang/invoke/VarHandle" ∧ (parseMethodDescriptor yX3_kindTold.desc).map (fun d => d.parameters.length) = some 0 := ⟨by decide +kernel, by decide +kernel, by decide +kernel⟩
theorem kX3_66 : z_LV RX3 66 yX3_kindTold cX3_kindTold 2 (some .int) 0 := ⟨z_all4 zw_560 zw_561 zw_1109 zw_4, zw_562, pX3_kindTold, by decide⟩
theorem pX3_nameOf : yX3_nameOf.cls ≠ "java/lang/invoke/MethodHandle" ∧ yX3_nameOf.cls ≠ "java/lang/invoke/VarHandle" ∧ (parseMethodDescriptor yX3_nameOf.desc).map (fun d => d.parameters.length) = some 1 := ⟨by decide +kernel, by decide +kernel, by decide +kernel⟩
theorem kX3_99 : z_LS RX3 99 yX3_nameOf cX3_nameOf 1 (some (.object "java/lang/String")) 1 := ⟨z_all3 zw_563 zw_564 zw_4, zw_565, pX3_nameOf, by decide⟩
theorem kX3_73 : z_LV RX3 73 yX0_newCoin cX0_newCoin 3 (some (.object "PocketHole$Coin")) 1 := ⟨z_all4 zw_566 zw_157 zw_158 zw_2, zw_159, pX0_newCoin, by decide⟩
theorem pX3_readsPart : yX3_readsPart.cls ≠ "java/lang/invoke/MethodHandle" ∧ yX3_readsPart.cls ≠ "java/lang/invoke/VarHandle" ∧ (parseMethodDescriptor yX3_readsPart.desc).map (fun d => d.parameters.length) = some 5 := ⟨by decide +kernel, by decide +kernel, by decide +kernel⟩
theorem kX3_79 : z_LV RX3 79 yX3_readsPart cX3_readsPart 7 (some .boolean) 5 := ⟨z_all4 zw_567 zw_568 zw_1110 zw_4, zw_569, pX3_readsPart, by decide⟩
theorem kX3_95 : z_LV RX3 95 yX1_set cX1_set 3 none 2 := ⟨z_all4 zw_570 zw_200 zw_201 zw_3, zw_202, pX1_set, by decide⟩
theorem kX3_89 : z_LV RX3 89 yX1_moveTo cX1_moveTo 2 none 1 := ⟨z_all4 zw_571 zw_165 zw_166 zw_3, zw_167, pX1_moveTo, by decide⟩
theorem pX4_hold : yX4_hold.cls ≠ "java/lang/invoke/MethodHandle" ∧ yX4_hold.cls ≠ "java/lang/invoke/VarHandle" ∧ (parseMethodDescriptor yX4_hold.desc).map (fun d => d.parameters.length) = some 2 := ⟨by decide +kernel, by decide +kernel, by decide +kernel⟩
theorem kL_169 : z_LV RL 169 yX4_hold cX4_hold 3 (some .int) 2 := ⟨z_all4 zw_573 zw_574 zw_575 zw_1, zw_576, pX4_hold, by decide⟩
theorem pX4_as : yX4_as.cls ≠ "java/lang/invoke/MethodHandle" ∧ yX4_as.cls ≠ "java/lang/invoke/VarHandle" ∧ (parseMethodDescriptor yX4_as.desc).map (fun d => d.parameters.length) = some 2 := ⟨by decide +kernel, by decide +kernel, by decide +kernel⟩
theorem kL_173 : z_LV RL 173 yX4_as cX4_as 4 (some .int) 2 := ⟨z_all4 zw_577 zw_578 zw_579 zw_1, zw_580, pX4_as, by decide⟩
theorem pX1_is : yX1_is.cls ≠ "java/lang/invoke/MethodHandle" ∧ yX1_is.cls ≠ "java/lang/invoke/VarHandle" ∧ (parseMethodDescriptor yX1_is.desc).map (fun d => d.parameters.length) = some 1 := ⟨by decide +kernel, by decide +kernel, by decide +kernel⟩
theorem kX4_223 : z_LV RX4 223 yX1_is cX1_is 2 (some .boolean) 1 := ⟨z_all4 zw_581 zw_582 zw_583 zw_3, zw_584, pX1_is, by decide⟩
theorem pX4_sheet : yX4_sheet.cls ≠ "java/lang/invoke/MethodHandle" ∧ yX4_sheet.cls ≠ "java/lang/invoke/VarHandle" ∧ (parseMethodDescriptor yX4_sheet.desc).map (fun d => d.parameters.length) = some 3 := ⟨by decide +kernel, by decide +kernel, by decide +kernel⟩
theorem kL_177 : z_LV RL 177 yX4_sheet cX4_sheet 4 (some .int) 3 := ⟨z_all4 zw_585 zw_586 zw_587 zw_1, zw_588, pX4_sheet, by decide⟩
theorem pX4_isSheet : yX4_isSheet.cls ≠ "java/lang/invoke/MethodHandle" ∧ yX4_isSheet.cls ≠ "java/lang/invoke/VarHandle" ∧ (parseMethodDescriptor yX4_isSheet.desc).map (fun d => d.parameters.length) = some 1 := ⟨by decide +kernel, by decide +kernel, by decide +kernel⟩
theorem kX4_226 : z_LS RX4 226 yX4_isSheet cX4_isSheet 1 (some .boolean) 1 := ⟨z_all3 zw_589 zw_590 zw_1, zw_591, pX4_isSheet, by decide⟩
theorem pX2_renew : yX2_renew.cls ≠ "java/lang/invoke/MethodHandle" ∧ yX2_renew.cls ≠ "java/lang/invoke/VarHandle" ∧ (parseMethodDescriptor yX2_renew.desc).map (fun d => d.parameters.length) = some 2 := ⟨by decide +kernel, by decide +kernel, by decide +kernel⟩
theorem kX4_229 : z_LV RX4 229 yX2_renew cX2_renew 4 none 2 := ⟨z_all4 zw_592 zw_593 zw_594 zw_5, zw_595, pX2_renew, by decide⟩
theorem pX4_write : yX4_write.cls ≠ "java/lang/invoke/MethodHandle" ∧ yX4_write.cls ≠ "java/lang/invoke/VarHandle" ∧ (parseMethodDescriptor yX4_write.desc).map (fun d => d.parameters.length) = some 3 := ⟨by decide +kernel, by decide +kernel, by decide +kernel⟩
theorem kL_181 : z_LV RL 181 yX4_write cX4_write 4 (some .int) 3 := ⟨z_all4 zw_596 zw_597 zw_598 zw_1, zw_599, pX4_write, by decide⟩
theorem pX2_isMissing : yX2_isMissing.cls ≠ "java/lang/invoke/MethodHandle" ∧ yX2_isMissing.cls ≠ "java/lang/invoke/VarHandle" ∧ (parseMethodDescriptor yX2_isMissing.desc).map (fun d => d.parameters.length) = some 0 := ⟨by decide +kernel, by decide +kernel, by decide +kernel⟩
theorem kX4_233 : z_LV RX4 233 yX2_isMissing cX2_isMissing 1 (some .boolean) 0 := ⟨z_all4 zw_600 zw_601 zw_602 zw_5, zw_603, pX2_isMissing, by decide⟩
theorem pX2_set : yX2_set.cls ≠ "java/lang/invoke/MethodHandle" ∧ yX2_set.cls ≠ "java/lang/invoke/VarHandle" ∧ (parseMethodDescriptor yX2_set.desc).map (fun d => d.parameters.length) = some 2 := ⟨by decide +kernel, by decide +kernel, by decide +kernel⟩
theorem kX4_236 : z_LV RX4 236 yX2_set cX2_set 3 none 2 := ⟨z_all4 zw_604 zw_605 zw_606 zw_5, zw_607, pX2_set, by decide⟩
theorem pX4_copy : yX4_copy.cls ≠ "java/lang/invoke/MethodHandle" ∧ yX4_copy.cls ≠ "java/lang/invoke/VarHandle" ∧ (parseMethodDescriptor yX4_copy.desc).map (fun d => d.parameters.length) = some 5 := ⟨by decide +kernel, by decide +kernel, by decide +kernel⟩
theorem kL_185 : z_LV RL 185 yX4_copy cX4_copy 8 (some .int) 5 := ⟨z_all4 zw_608 zw_609 zw_610 zw_1, zw_611, pX4_copy, by decide⟩
theorem pX2_hasRange : yX2_hasRange.cls ≠ "java/lang/invoke/MethodHandle" ∧ yX2_hasRange.cls ≠ "java/lang/invoke/VarHandle" ∧ (parseMethodDescriptor yX2_hasRange.desc).map (fun d => d.parameters.length) = some 2 := ⟨by decide +kernel, by decide +kernel, by decide +kernel⟩
theorem kX4_240 : z_LV RX4 240 yX2_hasRange cX2_hasRange 3 (some .boolean) 2 := ⟨z_all4 zw_612 zw_613 zw_614 zw_5, zw_615, pX2_hasRange, by decide⟩
theorem pX4_load : yX4_load.cls ≠ "java/lang/invoke/MethodHandle" ∧ yX4_load.cls ≠ "java/lang/invoke/VarHandle" ∧ (parseMethodDescriptor yX4_load.desc).map (fun d => d.parameters.length) = some 1 := ⟨by decide +kernel, by decide +kernel, by decide +kernel⟩
theorem kL_190 : z_LV RL 190 yX4_load cX4_load 4 (some .int) 1 := ⟨z_all4 zw_617 zw_618 zw_619 zw_1, zw_620, pX4_load, by decide⟩
theorem pX4_judge : yX4_judge.cls ≠ "java/lang/invoke/MethodHandle" ∧ yX4_judge.cls ≠ "java/lang/invoke/VarHandle" ∧ (parseMethodDescriptor yX4_judge.desc).map (fun d => d.parameters.length) = some 2 := ⟨by decide +kernel, by decide +kernel, by decide +kernel⟩
theorem kL_194 : z_LV RL 194 yX4_judge cX4_judge 5 (some .int) 2 := ⟨z_all4 zw_621 zw_622 zw_623 zw_1, zw_624, pX4_judge, by decide⟩
theorem pX4_image : yX4_image.cls ≠ "java/lang/invoke/MethodHandle" ∧ yX4_image.cls ≠ "java/lang/invoke/VarHandle" ∧ (parseMethodDescriptor yX4_image.desc).map (fun d => d.parameters.length) = some 0 := ⟨by decide +kernel, by decide +kernel, by decide +kernel⟩
theorem kL_198 : z_LV RL 198 yX4_image cX4_image 1 (some .int) 0 := ⟨z_all4 zw_625 zw_626 zw_627 zw_1, zw_628, pX4_image, by decide⟩
theorem pX4_undo : yX4_undo.cls ≠ "java/lang/invoke/MethodHandle" ∧ yX4_undo.cls ≠ "java/lang/invoke/VarHandle" ∧ (parseMethodDescriptor yX4_undo.desc).map (fun d => d.parameters.length) = some 0 := ⟨by decide +kernel, by decide +kernel, by decide +kernel⟩
theorem kL_202 : z_LV RL 202 yX4_undo cX4_undo 1 (some .int) 0 := ⟨z_all4 zw_629 zw_630 zw_631 zw_1, zw_632, pX4_undo, by decide⟩
theorem pX4_tear : yX4_tear.cls ≠ "java/lang/invoke/MethodHandle" ∧ yX4_tear.cls ≠ "java/lang/invoke/VarHandle" ∧ (parseMethodDescriptor yX4_tear.desc).map (fun d => d.parameters.length) = some 0 := ⟨by decide +kernel, by decide +kernel, by decide +kernel⟩
theorem kL_206 : z_LV RL 206 yX4_tear cX4_tear 2 (some .int) 0 := ⟨z_all4 zw_633 zw_634 zw_635 zw_1, zw_636, pX4_tear, by decide⟩
theorem pX4_count : yX4_count.cls ≠ "java/lang/invoke/MethodHandle" ∧ yX4_count.cls ≠ "java/lang/invoke/VarHandle" ∧ (parseMethodDescriptor yX4_count.desc).map (fun d => d.parameters.length) = some 1 := ⟨by decide +kernel, by decide +kernel, by decide +kernel⟩
theorem kL_210 : z_LV RL 210 yX4_count cX4_count 2 (some .int) 1 := ⟨z_all4 zw_637 zw_638 zw_639 zw_1, zw_640, pX4_count, by decide⟩
theorem pX0_spotsInUse : yX0_spotsInUse.cls ≠ "java/lang/invoke/MethodHandle" ∧ yX0_spotsInUse.cls ≠ "java/lang/invoke/VarHandle" ∧ (parseMethodDescriptor yX0_spotsInUse.desc).map (fun d => d.parameters.length) = some 0 := ⟨by decide +kernel, by decide +kernel, by decide +kernel⟩
theorem kX4_255 : z_LV RX4 255 yX0_spotsInUse cX0_spotsInUse 3 (some .int) 0 := ⟨z_all4 zw_641 zw_642 zw_643 zw_2, zw_644, pX0_spotsInUse, by decide⟩
theorem pX4_status : yX4_status.cls ≠ "java/lang/invoke/MethodHandle" ∧ yX4_status.cls ≠ "java/lang/invoke/VarHandle" ∧ (parseMethodDescriptor yX4_status.desc).map (fun d => d.parameters.length) = some 1 := ⟨by decide +kernel, by decide +kernel, by decide +kernel⟩
theorem kL_214 : z_LV RL 214 yX4_status cX4_status 4 (some .int) 1 := ⟨z_all4 zw_645 zw_646 zw_647 zw_1, zw_648, pX4_status, by decide⟩
theorem pX5_coin : yX5_coin.cls ≠ "java/lang/invoke/MethodHandle" ∧ yX5_coin.cls ≠ "java/lang/invoke/VarHandle" ∧ (parseMethodDescriptor yX5_coin.desc).map (fun d => d.parameters.length) = some 1 := ⟨by decide +kernel, by decide +kernel, by decide +kernel⟩
theorem kL_17 : z_LV RL 17 yX5_coin cX5_coin 2 (some .int) 1 := ⟨z_all4 zw_711 zw_712 zw_713 zw_6, zw_714, pX5_coin, by decide⟩
theorem pX5_isKind : yX5_isKind.cls ≠ "java/lang/invoke/MethodHandle" ∧ yX5_isKind.cls ≠ "java/lang/invoke/VarHandle" ∧ (parseMethodDescriptor yX5_isKind.desc).map (fun d => d.parameters.length) = some 1 := ⟨by decide +kernel, by decide +kernel, by decide +kernel⟩
theorem kX5_89 : z_LS RX5 89 yX5_isKind cX5_isKind 1 (some .boolean) 1 := ⟨z_all3 zw_715 zw_716 zw_6, zw_717, pX5_isKind, by decide⟩
theorem pX5_within : yX5_within.cls ≠ "java/lang/invoke/MethodHandle" ∧ yX5_within.cls ≠ "java/lang/invoke/VarHandle" ∧ (parseMethodDescriptor yX5_within.desc).map (fun d => d.parameters.length) = some 3 := ⟨by decide +kernel, by decide +kernel, by decide +kernel⟩
theorem kX5_78 : z_LS RX5 78 yX5_within cX5_within 3 (some .boolean) 3 := ⟨z_all3 zw_718 zw_719 zw_6, zw_720, pX5_within, by decide⟩
theorem pX5_finding : yX5_finding.cls ≠ "java/lang/invoke/MethodHandle" ∧ yX5_finding.cls ≠ "java/lang/invoke/VarHandle" ∧ (parseMethodDescriptor yX5_finding.desc).map (fun d => d.parameters.length) = some 1 := ⟨by decide +kernel, by decide +kernel, by decide +kernel⟩
theorem kX5_93 : z_LV RX5 93 yX5_finding cX5_finding 2 (some .int) 1 := ⟨z_all4 zw_722 zw_723 zw_1111 zw_6, zw_724, pX5_finding, by decide⟩
theorem pX5_comes : yX5_comes.cls ≠ "java/lang/invoke/MethodHandle" ∧ yX5_comes.cls ≠ "java/lang/invoke/VarHandle" ∧ (parseMethodDescriptor yX5_comes.desc).map (fun d => d.parameters.length) = some 5 := ⟨by decide +kernel, by decide +kernel, by decide +kernel⟩
theorem kX5_98 : z_LV RX5 98 yX5_comes cX5_comes 7 (some .int) 5 := ⟨z_all4 zw_726 zw_727 zw_1112 zw_6, zw_728, pX5_comes, by decide⟩
theorem pX5_at : yX5_at.cls ≠ "java/lang/invoke/MethodHandle" ∧ yX5_at.cls ≠ "java/lang/invoke/VarHandle" ∧ (parseMethodDescriptor yX5_at.desc).map (fun d => d.parameters.length) = some 2 := ⟨by decide +kernel, by decide +kernel, by decide +kernel⟩
theorem kX5_82 : z_LS RX5 82 yX5_at cX5_at 2 (some .int) 2 := ⟨z_all3 zw_729 zw_730 zw_6, zw_731, pX5_at, by decide⟩
theorem pX5_goesTo : yX5_goesTo.cls ≠ "java/lang/invoke/MethodHandle" ∧ yX5_goesTo.cls ≠ "java/lang/invoke/VarHandle" ∧ (parseMethodDescriptor yX5_goesTo.desc).map (fun d => d.parameters.length) = some 2 := ⟨by decide +kernel, by decide +kernel, by decide +kernel⟩
theorem kX5_86 : z_LV RX5 86 yX5_goesTo cX5_goesTo 3 (some .int) 2 := ⟨z_all4 zw_732 zw_733 zw_1113 zw_6, zw_734, pX5_goesTo, by decide⟩
theorem pX5_become : yX5_become.cls ≠ "java/lang/invoke/MethodHandle" ∧ yX5_become.cls ≠ "java/lang/invoke/VarHandle" ∧ (parseMethodDescriptor yX5_become.desc).map (fun d => d.parameters.length) = some 2 := ⟨by decide +kernel, by decide +kernel, by decide +kernel⟩
theorem kX5_129 : z_LV RX5 129 yX5_become cX5_become 4 (some .int) 2 := ⟨z_all4 zw_735 zw_736 zw_1114 zw_6, zw_737, pX5_become, by decide⟩
theorem pX5_of : yX5_of.cls ≠ "java/lang/invoke/MethodHandle" ∧ yX5_of.cls ≠ "java/lang/invoke/VarHandle" ∧ (parseMethodDescriptor yX5_of.desc).map (fun d => d.parameters.length) = some 2 := ⟨by decide +kernel, by decide +kernel, by decide +kernel⟩
theorem kL_22 : z_LV RL 22 yX5_of cX5_of 3 (some .int) 2 := ⟨z_all4 zw_738 zw_739 zw_740 zw_6, zw_741, pX5_of, by decide⟩
theorem pX5_isCoin : yX5_isCoin.cls ≠ "java/lang/invoke/MethodHandle" ∧ yX5_isCoin.cls ≠ "java/lang/invoke/VarHandle" ∧ (parseMethodDescriptor yX5_isCoin.desc).map (fun d => d.parameters.length) = some 1 := ⟨by decide +kernel, by decide +kernel, by decide +kernel⟩
theorem kX5_120 : z_LV RX5 120 yX5_isCoin cX5_isCoin 2 (some .boolean) 1 := ⟨z_all4 zw_742 zw_743 zw_1115 zw_6, zw_744, pX5_isCoin, by decide⟩
theorem pX5_thick : yX5_thick.cls ≠ "java/lang/invoke/MethodHandle" ∧ yX5_thick.cls ≠ "java/lang/invoke/VarHandle" ∧ (parseMethodDescriptor yX5_thick.desc).map (fun d => d.parameters.length) = some 1 := ⟨by decide +kernel, by decide +kernel, by decide +kernel⟩
theorem kX5_117 : z_LV RX5 117 yX5_thick cX5_thick 4 (some .int) 1 := ⟨z_all4 zw_745 zw_746 zw_1116 zw_6, zw_747, pX5_thick, by decide⟩
theorem pX5_coinIs : yX5_coinIs.cls ≠ "java/lang/invoke/MethodHandle" ∧ yX5_coinIs.cls ≠ "java/lang/invoke/VarHandle" ∧ (parseMethodDescriptor yX5_coinIs.desc).map (fun d => d.parameters.length) = some 2 := ⟨by decide +kernel, by decide +kernel, by decide +kernel⟩
theorem kX5_105 : z_LV RX5 105 yX5_coinIs cX5_coinIs 3 (some .int) 2 := ⟨z_all4 zw_748 zw_749 zw_1117 zw_6, zw_750, pX5_coinIs, by decide⟩
theorem pX5_isUnder : yX5_isUnder.cls ≠ "java/lang/invoke/MethodHandle" ∧ yX5_isUnder.cls ≠ "java/lang/invoke/VarHandle" ∧ (parseMethodDescriptor yX5_isUnder.desc).map (fun d => d.parameters.length) = some 2 := ⟨by decide +kernel, by decide +kernel, by decide +kernel⟩
theorem kX5_108 : z_LS RX5 108 yX5_isUnder cX5_isUnder 3 (some .boolean) 2 := ⟨z_all3 zw_751 zw_752 zw_6, zw_753, pX5_isUnder, by decide⟩
theorem pX5_above : yX5_above.cls ≠ "java/lang/invoke/MethodHandle" ∧ yX5_above.cls ≠ "java/lang/invoke/VarHandle" ∧ (parseMethodDescriptor yX5_above.desc).map (fun d => d.parameters.length) = some 1 := ⟨by decide +kernel, by decide +kernel, by decide +kernel⟩
theorem kX5_102 : z_LS RX5 102 yX5_above cX5_above 1 (some .int) 1 := ⟨z_all3 zw_754 zw_755 zw_6, zw_756, pX5_above, by decide⟩
theorem pX5_goes : yX5_goes.cls ≠ "java/lang/invoke/MethodHandle" ∧ yX5_goes.cls ≠ "java/lang/invoke/VarHandle" ∧ (parseMethodDescriptor yX5_goes.desc).map (fun d => d.parameters.length) = some 1 := ⟨by decide +kernel, by decide +kernel, by decide +kernel⟩
theorem kX5_123 : z_LV RX5 123 yX5_goes cX5_goes 3 (some .int) 1 := ⟨z_all4 zw_758 zw_759 zw_1118 zw_6, zw_760, pX5_goes, by decide⟩
theorem pX5_wears : yX5_wears.cls ≠ "java/lang/invoke/MethodHandle" ∧ yX5_wears.cls ≠ "java/lang/invoke/VarHandle" ∧ (parseMethodDescriptor yX5_wears.desc).map (fun d => d.parameters.length) = some 1 := ⟨by decide +kernel, by decide +kernel, by decide +kernel⟩
theorem kX5_126 : z_LV RX5 126 yX5_wears cX5_wears 3 (some .int) 1 := ⟨z_all4 zw_761 zw_762 zw_1119 zw_6, zw_763, pX5_wears, by decide⟩
theorem pX5_change : yX5_change.cls ≠ "java/lang/invoke/MethodHandle" ∧ yX5_change.cls ≠ "java/lang/invoke/VarHandle" ∧ (parseMethodDescriptor yX5_change.desc).map (fun d => d.parameters.length) = some 3 := ⟨by decide +kernel, by decide +kernel, by decide +kernel⟩
theorem kL_27 : z_LV RL 27 yX5_change cX5_change 5 (some .int) 3 := ⟨z_all4 zw_764 zw_765 zw_766 zw_6, zw_767, pX5_change, by decide⟩
theorem pX5_put : yX5_put.cls ≠ "java/lang/invoke/MethodHandle" ∧ yX5_put.cls ≠ "java/lang/invoke/VarHandle" ∧ (parseMethodDescriptor yX5_put.desc).map (fun d => d.parameters.length) = some 2 := ⟨by decide +kernel, by decide +kernel, by decide +kernel⟩
theorem kL_31 : z_LV RL 31 yX5_put cX5_put 3 (some .int) 2 := ⟨z_all4 zw_768 zw_769 zw_770 zw_6, zw_771, pX5_put, by decide⟩
theorem pX5_isPlace : yX5_isPlace.cls ≠ "java/lang/invoke/MethodHandle" ∧ yX5_isPlace.cls ≠ "java/lang/invoke/VarHandle" ∧ (parseMethodDescriptor yX5_isPlace.desc).map (fun d => d.parameters.length) = some 1 := ⟨by decide +kernel, by decide +kernel, by decide +kernel⟩
theorem kX5_132 : z_LS RX5 132 yX5_isPlace cX5_isPlace 1 (some .boolean) 1 := ⟨z_all3 zw_772 zw_773 zw_6, zw_774, pX5_isPlace, by decide⟩
theorem pX5_rule : yX5_rule.cls ≠ "java/lang/invoke/MethodHandle" ∧ yX5_rule.cls ≠ "java/lang/invoke/VarHandle" ∧ (parseMethodDescriptor yX5_rule.desc).map (fun d => d.parameters.length) = some 2 := ⟨by decide +kernel, by decide +kernel, by decide +kernel⟩
theorem kL_35 : z_LV RL 35 yX5_rule cX5_rule 4 (some .int) 2 := ⟨z_all4 zw_775 zw_776 zw_777 zw_6, zw_778, pX5_rule, by decide⟩
theorem pX5_sew : yX5_sew.cls ≠ "java/lang/invoke/MethodHandle" ∧ yX5_sew.cls ≠ "java/lang/invoke/VarHandle" ∧ (parseMethodDescriptor yX5_sew.desc).map (fun d => d.parameters.length) = some 0 := ⟨by decide +kernel, by decide +kernel, by decide +kernel⟩
theorem kL_40 : z_LV RL 40 yX5_sew cX5_sew 1 (some .int) 0 := ⟨z_all4 zw_779 zw_780 zw_781 zw_6, zw_782, pX5_sew, by decide⟩
theorem pX5_lie : yX5_lie.cls ≠ "java/lang/invoke/MethodHandle" ∧ yX5_lie.cls ≠ "java/lang/invoke/VarHandle" ∧ (parseMethodDescriptor yX5_lie.desc).map (fun d => d.parameters.length) = some 1 := ⟨by decide +kernel, by decide +kernel, by decide +kernel⟩
theorem kL_44 : z_LV RL 44 yX5_lie cX5_lie 2 (some .int) 1 := ⟨z_all4 zw_783 zw_784 zw_785 zw_6, zw_786, pX5_lie, by decide⟩
theorem pX5_lieIn : yX5_lieIn.cls ≠ "java/lang/invoke/MethodHandle" ∧ yX5_lieIn.cls ≠ "java/lang/invoke/VarHandle" ∧ (parseMethodDescriptor yX5_lieIn.desc).map (fun d => d.parameters.length) = some 1 := ⟨by decide +kernel, by decide +kernel, by decide +kernel⟩
theorem kX5_141 : z_LV RX5 141 yX5_lieIn cX5_lieIn 4 (some .int) 1 := ⟨z_all4 zw_787 zw_788 zw_1120 zw_6, zw_789, pX5_lieIn, by decide⟩
theorem pX5_isIn : yX5_isIn.cls ≠ "java/lang/invoke/MethodHandle" ∧ yX5_isIn.cls ≠ "java/lang/invoke/VarHandle" ∧ (parseMethodDescriptor yX5_isIn.desc).map (fun d => d.parameters.length) = some 2 := ⟨by decide +kernel, by decide +kernel, by decide +kernel⟩
theorem kX5_135 : z_LV RX5 135 yX5_isIn cX5_isIn 3 (some .boolean) 2 := ⟨z_all4 zw_790 zw_791 zw_1121 zw_6, zw_792, pX5_isIn, by decide⟩
theorem pX5_pence : yX5_pence.cls ≠ "java/lang/invoke/MethodHandle" ∧ yX5_pence.cls ≠ "java/lang/invoke/VarHandle" ∧ (parseMethodDescriptor yX5_pence.desc).map (fun d => d.parameters.length) = some 1 := ⟨by decide +kernel, by decide +kernel, by decide +kernel⟩
theorem kL_48 : z_LV RL 48 yX5_pence cX5_pence 2 (some .int) 1 := ⟨z_all4 zw_793 zw_794 zw_795 zw_6, zw_796, pX5_pence, by decide⟩
theorem pX5_sumOf : yX5_sumOf.cls ≠ "java/lang/invoke/MethodHandle" ∧ yX5_sumOf.cls ≠ "java/lang/invoke/VarHandle" ∧ (parseMethodDescriptor yX5_sumOf.desc).map (fun d => d.parameters.length) = some 2 := ⟨by decide +kernel, by decide +kernel, by decide +kernel⟩
theorem kX5_144 : z_LV RX5 144 yX5_sumOf cX5_sumOf 5 (some .int) 2 := ⟨z_all4 zw_797 zw_798 zw_1122 zw_6, zw_799, pX5_sumOf, by decide⟩
theorem pX5_has : yX5_has.cls ≠ "java/lang/invoke/MethodHandle" ∧ yX5_has.cls ≠ "java/lang/invoke/VarHandle" ∧ (parseMethodDescriptor yX5_has.desc).map (fun d => d.parameters.length) = some 2 := ⟨by decide +kernel, by decide +kernel, by decide +kernel⟩
theorem kX5_138 : z_LS RX5 138 yX5_has cX5_has 2 (some .boolean) 2 := ⟨z_all3 zw_800 zw_801 zw_6, zw_802, pX5_has, by decide⟩
theorem pX5_steps : yX5_steps.cls ≠ "java/lang/invoke/MethodHandle" ∧ yX5_steps.cls ≠ "java/lang/invoke/VarHandle" ∧ (parseMethodDescriptor yX5_steps.desc).map (fun d => d.parameters.length) = some 1 := ⟨by decide +kernel, by decide +kernel, by decide +kernel⟩
theorem kL_52 : z_LV RL 52 yX5_steps cX5_steps 2 (some .int) 1 := ⟨z_all4 zw_803 zw_804 zw_805 zw_6, zw_806, pX5_steps, by decide⟩
theorem pX5_isTooLate : yX5_isTooLate.cls ≠ "java/lang/invoke/MethodHandle" ∧ yX5_isTooLate.cls ≠ "java/lang/invoke/VarHandle" ∧ (parseMethodDescriptor yX5_isTooLate.desc).map (fun d => d.parameters.length) = some 1 := ⟨by decide +kernel, by decide +kernel, by decide +kernel⟩
theorem kX5_166 : z_LV RX5 166 yX5_isTooLate cX5_isTooLate 2 (some .boolean) 1 := ⟨z_all4 zw_807 zw_808 zw_1123 zw_6, zw_809, pX5_isTooLate, by decide⟩
theorem pX5_stepsGo : yX5_stepsGo.cls ≠ "java/lang/invoke/MethodHandle" ∧ yX5_stepsGo.cls ≠ "java/lang/invoke/VarHandle" ∧ (parseMethodDescriptor yX5_stepsGo.desc).map (fun d => d.parameters.length) = some 1 := ⟨by decide +kernel, by decide +kernel, by decide +kernel⟩
theorem kX5_170 : z_LV RX5 170 yX5_stepsGo cX5_stepsGo 6 (some .int) 1 := ⟨z_all4 zw_811 zw_812 zw_1124 zw_6, zw_813, pX5_stepsGo, by decide⟩
theorem pX5_bits : yX5_bits.cls ≠ "java/lang/invoke/MethodHandle" ∧ yX5_bits.cls ≠ "java/lang/invoke/VarHandle" ∧ (parseMethodDescriptor yX5_bits.desc).map (fun d => d.parameters.length) = some 1 := ⟨by decide +kernel, by decide +kernel, by decide +kernel⟩
theorem kX5_157 : z_LS RX5 157 yX5_bits cX5_bits 3 (some .int) 1 := ⟨z_all3 zw_814 zw_815 zw_6, zw_816, pX5_bits, by decide⟩
theorem pX5_inPocket : yX5_inPocket.cls ≠ "java/lang/invoke/MethodHandle" ∧ yX5_inPocket.cls ≠ "java/lang/invoke/VarHandle" ∧ (parseMethodDescriptor yX5_inPocket.desc).map (fun d => d.parameters.length) = some 1 := ⟨by decide +kernel, by decide +kernel, by decide +kernel⟩
theorem kX5_160 : z_LV RX5 160 yX5_inPocket cX5_inPocket 3 none 1 := ⟨z_all4 zw_817 zw_818 zw_1125 zw_6, zw_819, pX5_inPocket, by decide⟩
theorem pX5_wider : yX5_wider.cls ≠ "java/lang/invoke/MethodHandle" ∧ yX5_wider.cls ≠ "java/lang/invoke/VarHandle" ∧ (parseMethodDescriptor yX5_wider.desc).map (fun d => d.parameters.length) = some 1 := ⟨by decide +kernel, by decide +kernel, by decide +kernel⟩
theorem kX5_150 : z_LV RX5 150 yX5_wider cX5_wider 2 none 1 := ⟨z_all4 zw_821 zw_822 zw_1126 zw_6, zw_823, pX5_wider, by decide⟩
theorem pX5_inLining : yX5_inLining.cls ≠ "java/lang/invoke/MethodHandle" ∧ yX5_inLining.cls ≠ "java/lang/invoke/VarHandle" ∧ (parseMethodDescriptor yX5_inLining.desc).map (fun d => d.parameters.length) = some 1 := ⟨by decide +kernel, by decide +kernel, by decide +kernel⟩
theorem kX5_163 : z_LV RX5 163 yX5_inLining cX5_inLining 2 none 1 := ⟨z_all4 zw_824 zw_825 zw_1127 zw_6, zw_826, pX5_inLining, by decide⟩
theorem pX5_hasCompany : yX5_hasCompany.cls ≠ "java/lang/invoke/MethodHandle" ∧ yX5_hasCompany.cls ≠ "java/lang/invoke/VarHandle" ∧ (parseMethodDescriptor yX5_hasCompany.desc).map (fun d => d.parameters.length) = some 1 := ⟨by decide +kernel, by decide +kernel, by decide +kernel⟩
theorem kX5_154 : z_LV RX5 154 yX5_hasCompany cX5_hasCompany 4 (some .boolean) 1 := ⟨z_all4 zw_827 zw_828 zw_1128 zw_6, zw_829, pX5_hasCompany, by decide⟩
theorem pX5_now : yX5_now.cls ≠ "java/lang/invoke/MethodHandle" ∧ yX5_now.cls ≠ "java/lang/invoke/VarHandle" ∧ (parseMethodDescriptor yX5_now.desc).map (fun d => d.parameters.length) = some 1 := ⟨by decide +kernel, by decide +kernel, by decide +kernel⟩
theorem kL_56 : z_LV RL 56 yX5_now cX5_now 2 (some .int) 1 := ⟨z_all4 zw_830 zw_831 zw_832 zw_6, zw_833, pX5_now, by decide⟩
theorem pX5_clinks : yX5_clinks.cls ≠ "java/lang/invoke/MethodHandle" ∧ yX5_clinks.cls ≠ "java/lang/invoke/VarHandle" ∧ (parseMethodDescriptor yX5_clinks.desc).map (fun d => d.parameters.length) = some 0 := ⟨by decide +kernel, by decide +kernel, by decide +kernel⟩
theorem kX5_173 : z_LV RX5 173 yX5_clinks cX5_clinks 4 (some .int) 0 := ⟨z_all4 zw_834 zw_835 zw_1129 zw_6, zw_836, pX5_clinks, by decide⟩
theorem pX5_ahead : yX5_ahead.cls ≠ "java/lang/invoke/MethodHandle" ∧ yX5_ahead.cls ≠ "java/lang/invoke/VarHandle" ∧ (parseMethodDescriptor yX5_ahead.desc).map (fun d => d.parameters.length) = some 2 := ⟨by decide +kernel, by decide +kernel, by decide +kernel⟩
theorem kL_60 : z_LV RL 60 yX5_ahead cX5_ahead 6 (some .int) 2 := ⟨z_all4 zw_837 zw_838 zw_839 zw_6, zw_840, pX5_ahead, by decide⟩
theorem pX5_copyRow : yX5_copyRow.cls ≠ "java/lang/invoke/MethodHandle" ∧ yX5_copyRow.cls ≠ "java/lang/invoke/VarHandle" ∧ (parseMethodDescriptor yX5_copyRow.desc).map (fun d => d.parameters.length) = some 2 := ⟨by decide +kernel, by decide +kernel, by decide +kernel⟩
theorem kX5_74 : z_LS RX5 74 yX5_copyRow cX5_copyRow 3 none 2 := ⟨z_all3 zw_841 zw_842 zw_6, zw_843, pX5_copyRow, by decide⟩
theorem pX5_putBack : yX5_putBack.cls ≠ "java/lang/invoke/MethodHandle" ∧ yX5_putBack.cls ≠ "java/lang/invoke/VarHandle" ∧ (parseMethodDescriptor yX5_putBack.desc).map (fun d => d.parameters.length) = some 1 := ⟨by decide +kernel, by decide +kernel, by decide +kernel⟩
theorem kX5_177 : z_LV RX5 177 yX5_putBack cX5_putBack 2 (some .int) 1 := ⟨z_all4 zw_844 zw_845 zw_1130 zw_6, zw_846, pX5_putBack, by decide⟩
theorem pX5_when : yX5_when.cls ≠ "java/lang/invoke/MethodHandle" ∧ yX5_when.cls ≠ "java/lang/invoke/VarHandle" ∧ (parseMethodDescriptor yX5_when.desc).map (fun d => d.parameters.length) = some 1 := ⟨by decide +kernel, by decide +kernel, by decide +kernel⟩
theorem kL_64 : z_LV RL 64 yX5_when cX5_when 2 (some .int) 1 := ⟨z_all4 zw_847 zw_848 zw_849 zw_6, zw_850, pX5_when, by decide⟩
theorem pX5_tillTold : yX5_tillTold.cls ≠ "java/lang/invoke/MethodHandle" ∧ yX5_tillTold.cls ≠ "java/lang/invoke/VarHandle" ∧ (parseMethodDescriptor yX5_tillTold.desc).map (fun d => d.parameters.length) = some 2 := ⟨by decide +kernel, by decide +kernel, by decide +kernel⟩
theorem kX5_189 : z_LV RX5 189 yX5_tillTold cX5_tillTold 4 (some .int) 2 := ⟨z_all4 zw_851 zw_852 zw_1131 zw_6, zw_853, pX5_tillTold, by decide⟩
theorem pX5_isLate : yX5_isLate.cls ≠ "java/lang/invoke/MethodHandle" ∧ yX5_isLate.cls ≠ "java/lang/invoke/VarHandle" ∧ (parseMethodDescriptor yX5_isLate.desc).map (fun d => d.parameters.length) = some 0 := ⟨by decide +kernel, by decide +kernel, by decide +kernel⟩
theorem kX5_180 : z_LV RX5 180 yX5_isLate cX5_isLate 1 (some .boolean) 0 := ⟨z_all4 zw_854 zw_855 zw_1132 zw_6, zw_856, pX5_isLate, by decide⟩
theorem pX5_till : yX5_till.cls ≠ "java/lang/invoke/MethodHandle" ∧ yX5_till.cls ≠ "java/lang/invoke/VarHandle" ∧ (parseMethodDescriptor yX5_till.desc).map (fun d => d.parameters.length) = some 2 := ⟨by decide +kernel, by decide +kernel, by decide +kernel⟩
theorem kX5_184 : z_LV RX5 184 yX5_till cX5_till 6 (some .int) 2 := ⟨z_all4 zw_857 zw_858 zw_1133 zw_6, zw_859, pX5_till, by decide⟩
theorem pX5_falls : yX5_falls.cls ≠ "java/lang/invoke/MethodHandle" ∧ yX5_falls.cls ≠ "java/lang/invoke/VarHandle" ∧ (parseMethodDescriptor yX5_falls.desc).map (fun d => d.parameters.length) = some 1 := ⟨by decide +kernel, by decide +kernel, by decide +kernel⟩
theorem kL_68 : z_LV RL 68 yX5_falls cX5_falls 2 (some .int) 1 := ⟨z_all4 zw_861 zw_862 zw_863 zw_6, zw_864, pX5_falls, by decide⟩
theorem pX5_first : yX5_first.cls ≠ "java/lang/invoke/MethodHandle" ∧ yX5_first.cls ≠ "java/lang/invoke/VarHandle" ∧ (parseMethodDescriptor yX5_first.desc).map (fun d => d.parameters.length) = some 0 := ⟨by decide +kernel, by decide +kernel, by decide +kernel⟩
theorem kL_72 : z_LV RL 72 yX5_first cX5_first 5 (some .int) 0 := ⟨z_all4 zw_865 zw_866 zw_867 zw_6, zw_868, pX5_first, by decide⟩
theorem pX5_cell : yX5_cell.cls ≠ "java/lang/invoke/MethodHandle" ∧ yX5_cell.cls ≠ "java/lang/invoke/VarHandle" ∧ (parseMethodDescriptor yX5_cell.desc).map (fun d => d.parameters.length) = some 2 := ⟨by decide +kernel, by decide +kernel, by decide +kernel⟩
theorem kL_76 : z_LV RL 76 yX5_cell cX5_cell 5 (some .int) 2 := ⟨z_all4 zw_869 zw_870 zw_871 zw_6, zw_872, pX5_cell, by decide⟩
theorem pX5_bears : yX5_bears.cls ≠ "java/lang/invoke/MethodHandle" ∧ yX5_bears.cls ≠ "java/lang/invoke/VarHandle" ∧ (parseMethodDescriptor yX5_bears.desc).map (fun d => d.parameters.length) = some 2 := ⟨by decide +kernel, by decide +kernel, by decide +kernel⟩
theorem kL_80 : z_LV RL 80 yX5_bears cX5_bears 6 (some .int) 2 := ⟨z_all4 zw_873 zw_874 zw_875 zw_6, zw_876, pX5_bears, by decide⟩
theorem pX5_latest : yX5_latest.cls ≠ "java/lang/invoke/MethodHandle" ∧ yX5_latest.cls ≠ "java/lang/invoke/VarHandle" ∧ (parseMethodDescriptor yX5_latest.desc).map (fun d => d.parameters.length) = some 2 := ⟨by decide +kernel, by decide +kernel, by decide +kernel⟩
theorem kL_84 : z_LV RL 84 yX5_latest cX5_latest 8 (some .int) 2 := ⟨z_all4 zw_877 zw_878 zw_879 zw_6, zw_880, pX5_latest, by decide⟩
theorem pX5_refuses : yX5_refuses.cls ≠ "java/lang/invoke/MethodHandle" ∧ yX5_refuses.cls ≠ "java/lang/invoke/VarHandle" ∧ (parseMethodDescriptor yX5_refuses.desc).map (fun d => d.parameters.length) = some 3 := ⟨by decide +kernel, by decide +kernel, by decide +kernel⟩
theorem kX5_192 : z_LV RX5 192 yX5_refuses cX5_refuses 4 (some .int) 3 := ⟨z_all4 zw_881 zw_882 zw_1134 zw_6, zw_883, pX5_refuses, by decide⟩
theorem pX5_lostThen : yX5_lostThen.cls ≠ "java/lang/invoke/MethodHandle" ∧ yX5_lostThen.cls ≠ "java/lang/invoke/VarHandle" ∧ (parseMethodDescriptor yX5_lostThen.desc).map (fun d => d.parameters.length) = some 2 := ⟨by decide +kernel, by decide +kernel, by decide +kernel⟩
theorem kX5_196 : z_LV RX5 196 yX5_lostThen cX5_lostThen 5 (some .int) 2 := ⟨z_all4 zw_884 zw_885 zw_1135 zw_6, zw_886, pX5_lostThen, by decide⟩
theorem pX5_carry : yX5_carry.cls ≠ "java/lang/invoke/MethodHandle" ∧ yX5_carry.cls ≠ "java/lang/invoke/VarHandle" ∧ (parseMethodDescriptor yX5_carry.desc).map (fun d => d.parameters.length) = some 1 := ⟨by decide +kernel, by decide +kernel, by decide +kernel⟩
theorem kL_88 : z_LV RL 88 yX5_carry cX5_carry 3 (some .int) 1 := ⟨z_all4 zw_887 zw_888 zw_889 zw_6, zw_890, pX5_carry, by decide⟩
theorem pX5_findCarry : yX5_findCarry.cls ≠ "java/lang/invoke/MethodHandle" ∧ yX5_findCarry.cls ≠ "java/lang/invoke/VarHandle" ∧ (parseMethodDescriptor yX5_findCarry.desc).map (fun d => d.parameters.length) = some 1 := ⟨by decide +kernel, by decide +kernel, by decide +kernel⟩
theorem kX5_206 : z_LV RX5 206 yX5_findCarry cX5_findCarry 7 none 1 := ⟨z_all4 zw_891 zw_892 zw_1136 zw_6, zw_893, pX5_findCarry, by decide⟩
theorem pX5_carried : yX5_carried.cls ≠ "java/lang/invoke/MethodHandle" ∧ yX5_carried.cls ≠ "java/lang/invoke/VarHandle" ∧ (parseMethodDescriptor yX5_carried.desc).map (fun d => d.parameters.length) = some 1 := ⟨by decide +kernel, by decide +kernel, by decide +kernel⟩
theorem kL_92 : z_LV RL 92 yX5_carried cX5_carried 3 (some .int) 1 := ⟨z_all4 zw_894 zw_895 zw_896 zw_6, zw_897, pX5_carried, by decide⟩
theorem pX5_kindFor : yX5_kindFor.cls ≠ "java/lang/invoke/MethodHandle" ∧ yX5_kindFor.cls ≠ "java/lang/invoke/VarHandle" ∧ (parseMethodDescriptor yX5_kindFor.desc).map (fun d => d.parameters.length) = some 1 := ⟨by decide +kernel, by decide +kernel, by decide +kernel⟩
theorem kL_96 : z_LV RL 96 yX5_kindFor cX5_kindFor 7 (some .int) 1 := ⟨z_all4 zw_898 zw_899 zw_900 zw_6, zw_901, pX5_kindFor, by decide⟩
theorem pX5_worst : yX5_worst.cls ≠ "java/lang/invoke/MethodHandle" ∧ yX5_worst.cls ≠ "java/lang/invoke/VarHandle" ∧ (parseMethodDescriptor yX5_worst.desc).map (fun d => d.parameters.length) = some 1 := ⟨by decide +kernel, by decide +kernel, by decide +kernel⟩
theorem kL_100 : z_LV RL 100 yX5_worst cX5_worst 9 (some .int) 1 := ⟨z_all4 zw_902 zw_903 zw_904 zw_6, zw_905, pX5_worst, by decide⟩
theorem pX5_hem : yX5_hem.cls ≠ "java/lang/invoke/MethodHandle" ∧ yX5_hem.cls ≠ "java/lang/invoke/VarHandle" ∧ (parseMethodDescriptor yX5_hem.desc).map (fun d => d.parameters.length) = some 1 := ⟨by decide +kernel, by decide +kernel, by decide +kernel⟩
theorem kL_104 : z_LV RL 104 yX5_hem cX5_hem 8 (some .int) 1 := ⟨z_all4 zw_906 zw_907 zw_908 zw_6, zw_909, pX5_hem, by decide⟩
theorem pX5_pay : yX5_pay.cls ≠ "java/lang/invoke/MethodHandle" ∧ yX5_pay.cls ≠ "java/lang/invoke/VarHandle" ∧ (parseMethodDescriptor yX5_pay.desc).map (fun d => d.parameters.length) = some 1 := ⟨by decide +kernel, by decide +kernel, by decide +kernel⟩
theorem kL_108 : z_LV RL 108 yX5_pay cX5_pay 3 (some .int) 1 := ⟨z_all4 zw_910 zw_911 zw_912 zw_6, zw_913, pX5_pay, by decide⟩
theorem pX5_payWith : yX5_payWith.cls ≠ "java/lang/invoke/MethodHandle" ∧ yX5_payWith.cls ≠ "java/lang/invoke/VarHandle" ∧ (parseMethodDescriptor yX5_payWith.desc).map (fun d => d.parameters.length) = some 3 := ⟨by decide +kernel, by decide +kernel, by decide +kernel⟩
theorem kX5_209 : z_LV RX5 209 yX5_payWith cX5_payWith 9 (some .int) 3 := ⟨z_all4 zw_914 zw_915 zw_1137 zw_6, zw_916, pX5_payWith, by decide⟩
theorem pX5_small : yX5_small.cls ≠ "java/lang/invoke/MethodHandle" ∧ yX5_small.cls ≠ "java/lang/invoke/VarHandle" ∧ (parseMethodDescriptor yX5_small.desc).map (fun d => d.parameters.length) = some 1 := ⟨by decide +kernel, by decide +kernel, by decide +kernel⟩
theorem kL_112 : z_LV RL 112 yX5_small cX5_small 3 (some .int) 1 := ⟨z_all4 zw_917 zw_918 zw_919 zw_6, zw_920, pX5_small, by decide⟩
theorem pX5_thin : yX5_thin.cls ≠ "java/lang/invoke/MethodHandle" ∧ yX5_thin.cls ≠ "java/lang/invoke/VarHandle" ∧ (parseMethodDescriptor yX5_thin.desc).map (fun d => d.parameters.length) = some 0 := ⟨by decide +kernel, by decide +kernel, by decide +kernel⟩
theorem kX5_213 : z_LV RX5 213 yX5_thin cX5_thin 3 (some .int) 0 := ⟨z_all4 zw_921 zw_922 zw_1138 zw_6, zw_923, pX5_thin, by decide⟩
theorem pX5_paid : yX5_paid.cls ≠ "java/lang/invoke/MethodHandle" ∧ yX5_paid.cls ≠ "java/lang/invoke/VarHandle" ∧ (parseMethodDescriptor yX5_paid.desc).map (fun d => d.parameters.length) = some 1 := ⟨by decide +kernel, by decide +kernel, by decide +kernel⟩
theorem kL_116 : z_LV RL 116 yX5_paid cX5_paid 4 (some .int) 1 := ⟨z_all4 zw_924 zw_925 zw_926 zw_6, zw_927, pX5_paid, by decide⟩
theorem pX5_isSet : yX5_isSet.cls ≠ "java/lang/invoke/MethodHandle" ∧ yX5_isSet.cls ≠ "java/lang/invoke/VarHandle" ∧ (parseMethodDescriptor yX5_isSet.desc).map (fun d => d.parameters.length) = some 1 := ⟨by decide +kernel, by decide +kernel, by decide +kernel⟩
theorem kX5_216 : z_LV RX5 216 yX5_isSet cX5_isSet 2 (some .boolean) 1 := ⟨z_all4 zw_928 zw_929 zw_1139 zw_6, zw_930, pX5_isSet, by decide⟩
theorem pX5_sums : yX5_sums.cls ≠ "java/lang/invoke/MethodHandle" ∧ yX5_sums.cls ≠ "java/lang/invoke/VarHandle" ∧ (parseMethodDescriptor yX5_sums.desc).map (fun d => d.parameters.length) = some 0 := ⟨by decide +kernel, by decide +kernel, by decide +kernel⟩
theorem kL_120 : z_LV RL 120 yX5_sums cX5_sums 4 (some .int) 0 := ⟨z_all4 zw_931 zw_932 zw_933 zw_6, zw_934, pX5_sums, by decide⟩
theorem pX5_fits : yX5_fits.cls ≠ "java/lang/invoke/MethodHandle" ∧ yX5_fits.cls ≠ "java/lang/invoke/VarHandle" ∧ (parseMethodDescriptor yX5_fits.desc).map (fun d => d.parameters.length) = some 2 := ⟨by decide +kernel, by decide +kernel, by decide +kernel⟩
theorem kL_124 : z_LV RL 124 yX5_fits cX5_fits 4 (some .int) 2 := ⟨z_all4 zw_935 zw_936 zw_937 zw_6, zw_938, pX5_fits, by decide⟩
theorem pX5_holesFor : yX5_holesFor.cls ≠ "java/lang/invoke/MethodHandle" ∧ yX5_holesFor.cls ≠ "java/lang/invoke/VarHandle" ∧ (parseMethodDescriptor yX5_holesFor.desc).map (fun d => d.parameters.length) = some 2 := ⟨by decide +kernel, by decide +kernel, by decide +kernel⟩
theorem kX5_222 : z_LV RX5 222 yX5_holesFor cX5_holesFor 7 (some .int) 2 := ⟨z_all4 zw_939 zw_940 zw_1140 zw_6, zw_941, pX5_holesFor, by decide⟩
theorem pX5_size : yX5_size.cls ≠ "java/lang/invoke/MethodHandle" ∧ yX5_size.cls ≠ "java/lang/invoke/VarHandle" ∧ (parseMethodDescriptor yX5_size.desc).map (fun d => d.parameters.length) = some 2 := ⟨by decide +kernel, by decide +kernel, by decide +kernel⟩
theorem kL_128 : z_LV RL 128 yX5_size cX5_size 4 (some .int) 2 := ⟨z_all4 zw_942 zw_943 zw_944 zw_6, zw_945, pX5_size, by decide⟩
theorem pX5_began : yX5_began.cls ≠ "java/lang/invoke/MethodHandle" ∧ yX5_began.cls ≠ "java/lang/invoke/VarHandle" ∧ (parseMethodDescriptor yX5_began.desc).map (fun d => d.parameters.length) = some 1 := ⟨by decide +kernel, by decide +kernel, by decide +kernel⟩
theorem kL_132 : z_LV RL 132 yX5_began cX5_began 6 (some .int) 1 := ⟨z_all4 zw_946 zw_947 zw_948 zw_6, zw_949, pX5_began, by decide⟩
theorem pX5_boy : yX5_boy.cls ≠ "java/lang/invoke/MethodHandle" ∧ yX5_boy.cls ≠ "java/lang/invoke/VarHandle" ∧ (parseMethodDescriptor yX5_boy.desc).map (fun d => d.parameters.length) = some 2 := ⟨by decide +kernel, by decide +kernel, by decide +kernel⟩
theorem kL_136 : z_LV RL 136 yX5_boy cX5_boy 6 (some .int) 2 := ⟨z_all4 zw_950 zw_951 zw_952 zw_6, zw_953, pX5_boy, by decide⟩
theorem pX5_lining : yX5_lining.cls ≠ "java/lang/invoke/MethodHandle" ∧ yX5_lining.cls ≠ "java/lang/invoke/VarHandle" ∧ (parseMethodDescriptor yX5_lining.desc).map (fun d => d.parameters.length) = some 1 := ⟨by decide +kernel, by decide +kernel, by decide +kernel⟩
theorem kL_140 : z_LV RL 140 yX5_lining cX5_lining 5 (some .int) 1 := ⟨z_all4 zw_954 zw_955 zw_956 zw_6, zw_957, pX5_lining, by decide⟩
theorem pX5_back : yX5_back.cls ≠ "java/lang/invoke/MethodHandle" ∧ yX5_back.cls ≠ "java/lang/invoke/VarHandle" ∧ (parseMethodDescriptor yX5_back.desc).map (fun d => d.parameters.length) = some 2 := ⟨by decide +kernel, by decide +kernel, by decide +kernel⟩
theorem kL_144 : z_LV RL 144 yX5_back cX5_back 3 (some .int) 2 := ⟨z_all4 zw_958 zw_959 zw_960 zw_6, zw_961, pX5_back, by decide⟩
theorem pX5_hasFallen : yX5_hasFallen.cls ≠ "java/lang/invoke/MethodHandle" ∧ yX5_hasFallen.cls ≠ "java/lang/invoke/VarHandle" ∧ (parseMethodDescriptor yX5_hasFallen.desc).map (fun d => d.parameters.length) = some 1 := ⟨by decide +kernel, by decide +kernel, by decide +kernel⟩
theorem kX5_225 : z_LV RX5 225 yX5_hasFallen cX5_hasFallen 2 (some .boolean) 1 := ⟨z_all4 zw_962 zw_963 zw_1141 zw_6, zw_964, pX5_hasFallen, by decide⟩
theorem pX5_backCell : yX5_backCell.cls ≠ "java/lang/invoke/MethodHandle" ∧ yX5_backCell.cls ≠ "java/lang/invoke/VarHandle" ∧ (parseMethodDescriptor yX5_backCell.desc).map (fun d => d.parameters.length) = some 2 := ⟨by decide +kernel, by decide +kernel, by decide +kernel⟩
theorem kX5_228 : z_LV RX5 228 yX5_backCell cX5_backCell 3 (some .int) 2 := ⟨z_all4 zw_965 zw_966 zw_1142 zw_6, zw_967, pX5_backCell, by decide⟩
theorem pX5_richest : yX5_richest.cls ≠ "java/lang/invoke/MethodHandle" ∧ yX5_richest.cls ≠ "java/lang/invoke/VarHandle" ∧ (parseMethodDescriptor yX5_richest.desc).map (fun d => d.parameters.length) = some 1 := ⟨by decide +kernel, by decide +kernel, by decide +kernel⟩
theorem kL_148 : z_LV RL 148 yX5_richest cX5_richest 7 (some .int) 1 := ⟨z_all4 zw_968 zw_969 zw_970 zw_6, zw_971, pX5_richest, by decide⟩
theorem pX5_days : yX5_days.cls ≠ "java/lang/invoke/MethodHandle" ∧ yX5_days.cls ≠ "java/lang/invoke/VarHandle" ∧ (parseMethodDescriptor yX5_days.desc).map (fun d => d.parameters.length) = some 1 := ⟨by decide +kernel, by decide +kernel, by decide +kernel⟩
theorem kL_152 : z_LV RL 152 yX5_days cX5_days 6 (some .int) 1 := ⟨z_all4 zw_972 zw_973 zw_974 zw_6, zw_975, pX5_days, by decide⟩
theorem pX5_drawn : yX5_drawn.cls ≠ "java/lang/invoke/MethodHandle" ∧ yX5_drawn.cls ≠ "java/lang/invoke/VarHandle" ∧ (parseMethodDescriptor yX5_drawn.desc).map (fun d => d.parameters.length) = some 1 := ⟨by decide +kernel, by decide +kernel, by decide +kernel⟩
theorem kX5_232 : z_LV RX5 232 yX5_drawn cX5_drawn 2 (some .int) 1 := ⟨z_all4 zw_976 zw_977 zw_1143 zw_6, zw_978, pX5_drawn, by decide⟩
theorem pX5_seed : yX5_seed.cls ≠ "java/lang/invoke/MethodHandle" ∧ yX5_seed.cls ≠ "java/lang/invoke/VarHandle" ∧ (parseMethodDescriptor yX5_seed.desc).map (fun d => d.parameters.length) = some 1 := ⟨by decide +kernel, by decide +kernel, by decide +kernel⟩
theorem kL_156 : z_LV RL 156 yX5_seed cX5_seed 2 (some .int) 1 := ⟨z_all4 zw_980 zw_981 zw_982 zw_6, zw_983, pX5_seed, by decide⟩
theorem pX5_feed : yX5_feed.cls ≠ "java/lang/invoke/MethodHandle" ∧ yX5_feed.cls ≠ "java/lang/invoke/VarHandle" ∧ (parseMethodDescriptor yX5_feed.desc).map (fun d => d.parameters.length) = some 2 := ⟨by decide +kernel, by decide +kernel, by decide +kernel⟩
theorem kL_160 : z_LV RL 160 yX5_feed cX5_feed 4 (some .int) 2 := ⟨z_all4 zw_984 zw_985 zw_986 zw_6, zw_987, pX5_feed, by decide⟩
theorem pX5_wipe : yX5_wipe.cls ≠ "java/lang/invoke/MethodHandle" ∧ yX5_wipe.cls ≠ "java/lang/invoke/VarHandle" ∧ (parseMethodDescriptor yX5_wipe.desc).map (fun d => d.parameters.length) = some 0 := ⟨by decide +kernel, by decide +kernel, by decide +kernel⟩
theorem kL_164 : z_LV RL 164 yX5_wipe cX5_wipe 2 (some .int) 0 := ⟨z_all4 zw_988 zw_989 zw_990 zw_6, zw_991, pX5_wipe, by decide⟩
theorem pX5_text : yX5_text.cls ≠ "java/lang/invoke/MethodHandle" ∧ yX5_text.cls ≠ "java/lang/invoke/VarHandle" ∧ (parseMethodDescriptor yX5_text.desc).map (fun d => d.parameters.length) = some 0 := ⟨by decide +kernel, by decide +kernel, by decide +kernel⟩
theorem kL_168 : z_LV RL 168 yX5_text cX5_text 3 (some .int) 0 := ⟨z_all4 zw_992 zw_993 zw_994 zw_6, zw_995, pX5_text, by decide⟩
theorem pX5_next : yX5_next.cls ≠ "java/lang/invoke/MethodHandle" ∧ yX5_next.cls ≠ "java/lang/invoke/VarHandle" ∧ (parseMethodDescriptor yX5_next.desc).map (fun d => d.parameters.length) = some 0 := ⟨by decide +kernel, by decide +kernel, by decide +kernel⟩
theorem kX5_264 : z_LV RX5 264 yX5_next cX5_next 2 none 0 := ⟨z_all4 zw_996 zw_997 zw_1144 zw_6, zw_998, pX5_next, by decide⟩
theorem pX5_byteAt : yX5_byteAt.cls ≠ "java/lang/invoke/MethodHandle" ∧ yX5_byteAt.cls ≠ "java/lang/invoke/VarHandle" ∧ (parseMethodDescriptor yX5_byteAt.desc).map (fun d => d.parameters.length) = some 1 := ⟨by decide +kernel, by decide +kernel, by decide +kernel⟩
theorem kX5_244 : z_LV RX5 244 yX5_byteAt cX5_byteAt 2 (some .int) 1 := ⟨z_all4 zw_999 zw_1000 zw_1145 zw_6, zw_1001, pX5_byteAt, by decide⟩
theorem pX5_readItem : yX5_readItem.cls ≠ "java/lang/invoke/MethodHandle" ∧ yX5_readItem.cls ≠ "java/lang/invoke/VarHandle" ∧ (parseMethodDescriptor yX5_readItem.desc).map (fun d => d.parameters.length) = some 0 := ⟨by decide +kernel, by decide +kernel, by decide +kernel⟩
theorem kX5_307 : z_LV RX5 307 yX5_readItem cX5_readItem 5 none 0 := ⟨z_all4 zw_1002 zw_1003 zw_1146 zw_6, zw_1004, pX5_readItem, by decide⟩
theorem pX5_kindTold : yX5_kindTold.cls ≠ "java/lang/invoke/MethodHandle" ∧ yX5_kindTold.cls ≠ "java/lang/invoke/VarHandle" ∧ (parseMethodDescriptor yX5_kindTold.desc).map (fun d => d.parameters.length) = some 0 := ⟨by decide +kernel, by decide +kernel, by decide +kernel⟩
theorem kX5_278 : z_LV RX5 278 yX5_kindTold cX5_kindTold 3 (some .int) 0 := ⟨z_all4 zw_1005 zw_1006 zw_1147 zw_6, zw_1007, pX5_kindTold, by decide⟩
theorem pX5_isWord : yX5_isWord.cls ≠ "java/lang/invoke/MethodHandle" ∧ yX5_isWord.cls ≠ "java/lang/invoke/VarHandle" ∧ (parseMethodDescriptor yX5_isWord.desc).map (fun d => d.parameters.length) = some 1 := ⟨by decide +kernel, by decide +kernel, by decide +kernel⟩
theorem kX5_274 : z_LV RX5 274 yX5_isWord cX5_isWord 4 (some .boolean) 1 := ⟨z_all4 zw_1008 zw_1009 zw_1148 zw_6, zw_1010, pX5_isWord, by decide⟩
theorem kX5_253 : z_LV RX5 253 yJ0_length_8abf5 cJ0_length_8abf5 1 (some .int) 0 := ⟨z_all4 zw_1011 zw_505 zw_506 zw_11, zw_507, pJ0_length_8abf5, by decide⟩
theorem kX5_256 : z_LV RX5 256 yJ0_charAt_5068e cJ0_charAt_5068e 2 (some .char) 1 := ⟨z_all4 zw_1012 zw_514 zw_515 zw_11, zw_516, pJ0_charAt_5068e, by decide⟩
theorem pX5_must : yX5_must.cls ≠ "java/lang/invoke/MethodHandle" ∧ yX5_must.cls ≠ "java/lang/invoke/VarHandle" ∧ (parseMethodDescriptor yX5_must.desc).map (fun d => d.parameters.length) = some 1 := ⟨by decide +kernel, by decide +kernel, by decide +kernel⟩
theorem kX5_267 : z_LV RX5 267 yX5_must cX5_must 2 none 1 := ⟨z_all4 zw_1013 zw_1014 zw_1149 zw_6, zw_1015, pX5_must, by decide⟩
theorem pX5_isNext : yX5_isNext.cls ≠ "java/lang/invoke/MethodHandle" ∧ yX5_isNext.cls ≠ "java/lang/invoke/VarHandle" ∧ (parseMethodDescriptor yX5_isNext.desc).map (fun d => d.parameters.length) = some 1 := ⟨by decide +kernel, by decide +kernel, by decide +kernel⟩
theorem kX5_286 : z_LV RX5 286 yX5_isNext cX5_isNext 3 (some .boolean) 1 := ⟨z_all4 zw_1016 zw_1017 zw_1150 zw_6, zw_1018, pX5_isNext, by decide⟩
theorem pX5_number : yX5_number.cls ≠ "java/lang/invoke/MethodHandle" ∧ yX5_number.cls ≠ "java/lang/invoke/VarHandle" ∧ (parseMethodDescriptor yX5_number.desc).map (fun d => d.parameters.length) = some 2 := ⟨by decide +kernel, by decide +kernel, by decide +kernel⟩
theorem kX5_289 : z_LV RX5 289 yX5_number cX5_number 4 (some .int) 2 := ⟨z_all4 zw_1019 zw_1020 zw_1151 zw_6, zw_1021, pX5_number, by decide⟩
theorem pX5_item : yX5_item.cls ≠ "java/lang/invoke/MethodHandle" ∧ yX5_item.cls ≠ "java/lang/invoke/VarHandle" ∧ (parseMethodDescriptor yX5_item.desc).map (fun d => d.parameters.length) = some 5 := ⟨by decide +kernel, by decide +kernel, by decide +kernel⟩
theorem kX5_298 : z_LV RX5 298 yX5_item cX5_item 7 none 5 := ⟨z_all4 zw_1022 zw_1023 zw_1152 zw_6, zw_1024, pX5_item, by decide⟩
theorem pX5_isSo : yX5_isSo.cls ≠ "java/lang/invoke/MethodHandle" ∧ yX5_isSo.cls ≠ "java/lang/invoke/VarHandle" ∧ (parseMethodDescriptor yX5_isSo.desc).map (fun d => d.parameters.length) = some 1 := ⟨by decide +kernel, by decide +kernel, by decide +kernel⟩
theorem kX5_310 : z_LV RX5 310 yX5_isSo cX5_isSo 4 (some .int) 1 := ⟨z_all4 zw_1025 zw_1026 zw_1153 zw_6, zw_1027, pX5_isSo, by decide⟩
theorem pX5_hold : yX5_hold.cls ≠ "java/lang/invoke/MethodHandle" ∧ yX5_hold.cls ≠ "java/lang/invoke/VarHandle" ∧ (parseMethodDescriptor yX5_hold.desc).map (fun d => d.parameters.length) = some 2 := ⟨by decide +kernel, by decide +kernel, by decide +kernel⟩
theorem kL_172 : z_LV RL 172 yX5_hold cX5_hold 3 (some .int) 2 := ⟨z_all4 zw_1028 zw_1029 zw_1030 zw_6, zw_1031, pX5_hold, by decide⟩
theorem pX5_isSpot : yX5_isSpot.cls ≠ "java/lang/invoke/MethodHandle" ∧ yX5_isSpot.cls ≠ "java/lang/invoke/VarHandle" ∧ (parseMethodDescriptor yX5_isSpot.desc).map (fun d => d.parameters.length) = some 1 := ⟨by decide +kernel, by decide +kernel, by decide +kernel⟩
theorem kX5_313 : z_LS RX5 313 yX5_isSpot cX5_isSpot 1 (some .boolean) 1 := ⟨z_all3 zw_1032 zw_1033 zw_6, zw_1034, pX5_isSpot, by decide⟩
theorem pX5_as : yX5_as.cls ≠ "java/lang/invoke/MethodHandle" ∧ yX5_as.cls ≠ "java/lang/invoke/VarHandle" ∧ (parseMethodDescriptor yX5_as.desc).map (fun d => d.parameters.length) = some 2 := ⟨by decide +kernel, by decide +kernel, by decide +kernel⟩
theorem kL_176 : z_LV RL 176 yX5_as cX5_as 4 (some .int) 2 := ⟨z_all4 zw_1035 zw_1036 zw_1037 zw_6, zw_1038, pX5_as, by decide⟩
theorem pX5_sheet : yX5_sheet.cls ≠ "java/lang/invoke/MethodHandle" ∧ yX5_sheet.cls ≠ "java/lang/invoke/VarHandle" ∧ (parseMethodDescriptor yX5_sheet.desc).map (fun d => d.parameters.length) = some 3 := ⟨by decide +kernel, by decide +kernel, by decide +kernel⟩
theorem kL_180 : z_LV RL 180 yX5_sheet cX5_sheet 5 (some .int) 3 := ⟨z_all4 zw_1041 zw_1042 zw_1043 zw_6, zw_1044, pX5_sheet, by decide⟩
theorem pX5_isSheet : yX5_isSheet.cls ≠ "java/lang/invoke/MethodHandle" ∧ yX5_isSheet.cls ≠ "java/lang/invoke/VarHandle" ∧ (parseMethodDescriptor yX5_isSheet.desc).map (fun d => d.parameters.length) = some 1 := ⟨by decide +kernel, by decide +kernel, by decide +kernel⟩
theorem kX5_318 : z_LS RX5 318 yX5_isSheet cX5_isSheet 1 (some .boolean) 1 := ⟨z_all3 zw_1045 zw_1046 zw_6, zw_1047, pX5_isSheet, by decide⟩
theorem pX5_write : yX5_write.cls ≠ "java/lang/invoke/MethodHandle" ∧ yX5_write.cls ≠ "java/lang/invoke/VarHandle" ∧ (parseMethodDescriptor yX5_write.desc).map (fun d => d.parameters.length) = some 3 := ⟨by decide +kernel, by decide +kernel, by decide +kernel⟩
theorem kL_184 : z_LV RL 184 yX5_write cX5_write 4 (some .int) 3 := ⟨z_all4 zw_1049 zw_1050 zw_1051 zw_6, zw_1052, pX5_write, by decide⟩
theorem pX5_cutTo : yX5_cutTo.cls ≠ "java/lang/invoke/MethodHandle" ∧ yX5_cutTo.cls ≠ "java/lang/invoke/VarHandle" ∧ (parseMethodDescriptor yX5_cutTo.desc).map (fun d => d.parameters.length) = some 2 := ⟨by decide +kernel, by decide +kernel, by decide +kernel⟩
theorem kX5_322 : z_LS RX5 322 yX5_cutTo cX5_cutTo 2 (some .int) 2 := ⟨z_all3 zw_1053 zw_1054 zw_6, zw_1055, pX5_cutTo, by decide⟩
theorem pX5_copy : yX5_copy.cls ≠ "java/lang/invoke/MethodHandle" ∧ yX5_copy.cls ≠ "java/lang/invoke/VarHandle" ∧ (parseMethodDescriptor yX5_copy.desc).map (fun d => d.parameters.length) = some 5 := ⟨by decide +kernel, by decide +kernel, by decide +kernel⟩
theorem kL_189 : z_LV RL 189 yX5_copy cX5_copy 7 (some .int) 5 := ⟨z_all4 zw_1056 zw_1057 zw_1058 zw_6, zw_1059, pX5_copy, by decide⟩
theorem pX5_load : yX5_load.cls ≠ "java/lang/invoke/MethodHandle" ∧ yX5_load.cls ≠ "java/lang/invoke/VarHandle" ∧ (parseMethodDescriptor yX5_load.desc).map (fun d => d.parameters.length) = some 1 := ⟨by decide +kernel, by decide +kernel, by decide +kernel⟩
theorem kL_193 : z_LV RL 193 yX5_load cX5_load 3 (some .int) 1 := ⟨z_all4 zw_1060 zw_1061 zw_1062 zw_6, zw_1063, pX5_load, by decide⟩
theorem pX5_judge : yX5_judge.cls ≠ "java/lang/invoke/MethodHandle" ∧ yX5_judge.cls ≠ "java/lang/invoke/VarHandle" ∧ (parseMethodDescriptor yX5_judge.desc).map (fun d => d.parameters.length) = some 2 := ⟨by decide +kernel, by decide +kernel, by decide +kernel⟩
theorem kL_197 : z_LV RL 197 yX5_judge cX5_judge 4 (some .int) 2 := ⟨z_all4 zw_1064 zw_1065 zw_1066 zw_6, zw_1067, pX5_judge, by decide⟩
theorem pX5_image : yX5_image.cls ≠ "java/lang/invoke/MethodHandle" ∧ yX5_image.cls ≠ "java/lang/invoke/VarHandle" ∧ (parseMethodDescriptor yX5_image.desc).map (fun d => d.parameters.length) = some 0 := ⟨by decide +kernel, by decide +kernel, by decide +kernel⟩
theorem kL_201 : z_LV RL 201 yX5_image cX5_image 1 (some .int) 0 := ⟨z_all4 zw_1068 zw_1069 zw_1070 zw_6, zw_1071, pX5_image, by decide⟩
theorem pX5_undo : yX5_undo.cls ≠ "java/lang/invoke/MethodHandle" ∧ yX5_undo.cls ≠ "java/lang/invoke/VarHandle" ∧ (parseMethodDescriptor yX5_undo.desc).map (fun d => d.parameters.length) = some 0 := ⟨by decide +kernel, by decide +kernel, by decide +kernel⟩
theorem kL_205 : z_LV RL 205 yX5_undo cX5_undo 1 (some .int) 0 := ⟨z_all4 zw_1072 zw_1073 zw_1074 zw_6, zw_1075, pX5_undo, by decide⟩
theorem pX5_tear : yX5_tear.cls ≠ "java/lang/invoke/MethodHandle" ∧ yX5_tear.cls ≠ "java/lang/invoke/VarHandle" ∧ (parseMethodDescriptor yX5_tear.desc).map (fun d => d.parameters.length) = some 0 := ⟨by decide +kernel, by decide +kernel, by decide +kernel⟩
theorem kL_209 : z_LV RL 209 yX5_tear cX5_tear 2 (some .int) 0 := ⟨z_all4 zw_1076 zw_1077 zw_1078 zw_6, zw_1079, pX5_tear, by decide⟩
theorem pX5_count : yX5_count.cls ≠ "java/lang/invoke/MethodHandle" ∧ yX5_count.cls ≠ "java/lang/invoke/VarHandle" ∧ (parseMethodDescriptor yX5_count.desc).map (fun d => d.parameters.length) = some 1 := ⟨by decide +kernel, by decide +kernel, by decide +kernel⟩
theorem kL_213 : z_LV RL 213 yX5_count cX5_count 4 (some .int) 1 := ⟨z_all4 zw_1080 zw_1081 zw_1082 zw_6, zw_1083, pX5_count, by decide⟩
theorem pX5_status : yX5_status.cls ≠ "java/lang/invoke/MethodHandle" ∧ yX5_status.cls ≠ "java/lang/invoke/VarHandle" ∧ (parseMethodDescriptor yX5_status.desc).map (fun d => d.parameters.length) = some 1 := ⟨by decide +kernel, by decide +kernel, by decide +kernel⟩
theorem kL_217 : z_LV RL 217 yX5_status cX5_status 2 (some .int) 1 := ⟨z_all4 zw_1084 zw_1085 zw_1086 zw_6, zw_1087, pX5_status, by decide⟩
theorem oPH : z_O SX 0 4 := z_mkO (n := 9) (by decide) rfl rfl (by decide) rfl rfl
theorem PH_coat : z_Sr SX 0 4 0 1 := ⟨oPH, rfl⟩
theorem PH_trial : z_Sr SX 0 4 1 2 := ⟨oPH, rfl⟩
theorem PH_kept : z_Sr SX 0 4 2 3 := ⟨oPH, rfl⟩
theorem PH_tape : z_Sr SX 0 4 4 40 := ⟨oPH, rfl⟩
theorem PH_sheets : z_Sr SX 0 4 5 42 := ⟨oPH, rfl⟩
theorem PH_findingsTold : z_Sr SX 0 4 6 51 := ⟨oPH, rfl⟩
theorem PH_sumMarks : z_Sr SX 0 4 7 52 := ⟨oPH, rfl⟩
theorem PH_wayPence : z_Sr SX 0 4 8 53 := ⟨oPH, rfl⟩
theorem PH_isKept : z_Sl SX 0 4 3 0 3 := ⟨oPH, rfl, rfl⟩
def z_R3 (r : Nat) : Prop := 1 ≤ r ∧ r ≤ 3
theorem z_r1 : z_R3 1 := ⟨by decide, by decide⟩
theorem z_r2 : z_R3 2 := ⟨by decide, by decide⟩
theorem z_r3 : z_R3 3 := ⟨by decide, by decide⟩
theorem z_lt3 {P : Nat → Prop} (h1 : P 1) (h2 : P 2) (h3 : P 3) : ∀ r, z_R3 r → P r
  | 0, h => absurd h.1 (by decide)
  | 1, _ => h1
  | 2, _ => h2
  | 3, _ => h3
  | n + 4, h => absurd h.2 (by omega)
theorem oC {r : Nat} (hr : z_R3 r) : z_O SX r 0 := z_lt3 (P := fun r => z_O SX r 0) (z_mkO (n := 8) (by decide) rfl rfl (by decide) rfl rfl) (z_mkO (n := 8) (by decide) rfl rfl (by decide) rfl rfl) (z_mkO (n := 8) (by decide) rfl rfl (by decide) rfl rfl) r hr
theorem C_hole {r : Nat} (hr : z_R3 r) : z_Sl SX r 0 0 r 1 := ⟨oC hr, z_lt3 (P := fun r => zr SX r 0 = none) rfl rfl rfl r hr, z_lt3 (P := fun r => zo SX r 0 = (r, 1)) rfl rfl rfl r hr⟩
theorem C_gap {r : Nat} (hr : z_R3 r) : z_Sl SX r 0 1 r 2 := ⟨oC hr, z_lt3 (P := fun r => zr SX r 1 = none) rfl rfl rfl r hr, z_lt3 (P := fun r => zo SX r 1 = (r, 2)) rfl rfl rfl r hr⟩
theorem C_at {r : Nat} (hr : z_R3 r) : z_Sl SX r 0 2 r 3 := ⟨oC hr, z_lt3 (P := fun r => zr SX r 2 = none) rfl rfl rfl r hr, z_lt3 (P := fun r => zo SX r 2 = (r, 3)) rfl rfl rfl r hr⟩
theorem C_step {r : Nat} (hr : z_R3 r) : z_Sl SX r 0 3 r 0 := ⟨oC hr, z_lt3 (P := fun r => zr SX r 3 = none) rfl rfl rfl r hr, z_lt3 (P := fun r => zo SX r 3 = (r, 0)) rfl rfl rfl r hr⟩
theorem C_z {r : Nat} (hr : z_R3 r) : z_Sl SX r 0 4 r 5 := ⟨oC hr, z_lt3 (P := fun r => zr SX r 4 = none) rfl rfl rfl r hr, z_lt3 (P := fun r => zo SX r 4 = (r, 5)) rfl rfl rfl r hr⟩
theorem C_coins {r : Nat} (hr : z_R3 r) : z_Sl SX r 0 5 r 4 := ⟨oC hr, z_lt3 (P := fun r => zr SX r 5 = none) rfl rfl rfl r hr, z_lt3 (P := fun r => zo SX r 5 = (r, 4)) rfl rfl rfl r hr⟩
theorem C_row {r : Nat} (hr : z_R3 r) : z_Sr SX r 0 6 (3 + r) := ⟨oC hr, z_lt3 (P := fun r => zr SX r 6 = some (3 + r)) rfl rfl rfl r hr⟩
theorem C_spots {r : Nat} (hr : z_R3 r) : z_Sr SX r 0 7 (6 + r) := ⟨oC hr, z_lt3 (P := fun r => zr SX r 7 = some (6 + r)) rfl rfl rfl r hr⟩
theorem SX_row : ∀ r, r < 4 → 1 ≤ r → ∀ c, c < 10 → SXr (3 + r) c = some (10 * r + c) := by decide +kernel
theorem SX_spot : ∀ r, r < 4 → 1 ≤ r → ∀ c, c < 10 → SXo (6 + r) c = (r, 6 + c) := by decide +kernel
theorem SX_coinA : ∀ r, r < 4 → 1 ≤ r → ∀ c, c < 10 → SXk (10 * r + c) = 1 ∧ SXl (10 * r + c) = 8 := by decide +kernel
theorem SX_coinB : ∀ r, r < 4 → 1 ≤ r → ∀ c, c < 10 → ∀ j, j < 8 → SXr (10 * r + c) j = none ∧ SXo (10 * r + c) j = (r, 16 + 8 * c + j) := by decide +kernel
theorem SX_coin (r : Nat) (h1 : r < 4) (h2 : 1 ≤ r) (c : Nat) (hc : c < 10) : SXk (10 * r + c) = 1 ∧ SXl (10 * r + c) = 8 ∧ ∀ j, j < 8 → SXr (10 * r + c) j = none ∧ SXo (10 * r + c) j = (r, 16 + 8 * c + j) := ⟨(SX_coinA r h1 h2 c hc).1, (SX_coinA r h1 h2 c hc).2, SX_coinB r h1 h2 c hc⟩
theorem aRow {r : Nat} (hr : z_R3 r) : z_Aq SX (3 + r) 9 10 (fun c => 10 * r + c) := ⟨by show 3 + r < 54; have := hr.2; omega, z_lt3 (P := fun r => zk SX (3 + r) = 9) rfl rfl rfl r hr, z_lt3 (P := fun r => zl SX (3 + r) = 10) rfl rfl rfl r hr, by decide, fun c hc => SX_row r (by have := hr.2; omega) hr.1 c hc⟩
theorem aSpots {r : Nat} (hr : z_R3 r) : z_Ar SX (6 + r) 6 10 r (fun j => 6 + j) := ⟨by show 6 + r < 54; have := hr.2; omega, z_lt3 (P := fun r => zk SX (6 + r) = 6) rfl rfl rfl r hr, z_lt3 (P := fun r => zl SX (6 + r) = 10) rfl rfl rfl r hr, by decide, fun c hc => SX_spot r (by have := hr.2; omega) hr.1 c hc⟩
theorem oK {r c : Nat} (hr : z_R3 r) (hc : c < 10) : z_O SX (10 * r + c) 1 := z_mkO (n := 8) (by show _ < 54; have := hr.2; omega) (SX_coin r (by have := hr.2; omega) hr.1 c hc).1 (SX_coin r (by have := hr.2; omega) hr.1 c hc).2.1 (by decide) rfl rfl
theorem K_f {r c : Nat} (hr : z_R3 r) (hc : c < 10) (j : Nat) (hj : j < 8) : z_Sl SX (10 * r + c) 1 j r (16 + 8 * c + j) := ⟨oK hr hc, ((SX_coin r (by have := hr.2; omega) hr.1 c hc).2.2 j hj).1, ((SX_coin r (by have := hr.2; omega) hr.1 c hc).2.2 j hj).2⟩
theorem oT : z_O SX 40 3 := z_mkO (n := 6) (by decide) rfl rfl (by decide) rfl rfl
theorem T_bytes : z_Sr SX 40 3 0 41 := ⟨oT, rfl⟩
theorem T_length : z_Sl SX 40 3 1 0 12 := ⟨oT, rfl, rfl⟩
theorem T_begin : z_Sl SX 40 3 2 0 13 := ⟨oT, rfl, rfl⟩
theorem T_end : z_Sl SX 40 3 3 0 14 := ⟨oT, rfl, rfl⟩
theorem T_sort : z_Sl SX 40 3 4 0 15 := ⟨oT, rfl, rfl⟩
theorem T_value : z_Sl SX 40 3 5 0 16 := ⟨oT, rfl, rfl⟩
theorem SX_bytes : ∀ c, c < 120 → SXo 41 c = (8, c) := by decide +kernel
theorem aBytes : z_Ar SX 41 6 120 8 (fun j => j) := ⟨by decide, rfl, rfl, by decide, fun c hc => SX_bytes c hc⟩
theorem SX_sheet : ∀ s, s < 4 → SXr 42 s = some (43 + s) ∧ SXk (43 + s) = 2 ∧ SXl (43 + s) = 3 ∧ SXr (43 + s) 0 = none ∧ SXr (43 + s) 1 = none ∧ SXr (43 + s) 2 = some (47 + s) ∧ SXo (43 + s) 0 = (12, s) ∧ SXo (43 + s) 1 = (13, s) ∧ SXk (47 + s) = 6 ∧ SXl (47 + s) = 40 := by decide +kernel
theorem SX_nums : ∀ s, s < 4 → ∀ j, j < 40 → SXo (47 + s) j = (14, 40 * s + j) := by decide +kernel
theorem aSheets : z_Aq SX 42 10 4 (fun s => 43 + s) := ⟨by decide, rfl, rfl, by decide, fun s hs => (SX_sheet s hs).1⟩
theorem oS {s : Nat} (hs : s < 4) : z_O SX (43 + s) 2 := z_mkO (n := 3) (by show _ < 54; omega) (SX_sheet s hs).2.1 (SX_sheet s hs).2.2.1 (by decide) rfl rfl
theorem S_bits {s : Nat} (hs : s < 4) : z_Sl SX (43 + s) 2 0 12 s := ⟨oS hs, (SX_sheet s hs).2.2.2.1, (SX_sheet s hs).2.2.2.2.2.2.1⟩
theorem S_length {s : Nat} (hs : s < 4) : z_Sl SX (43 + s) 2 1 13 s := ⟨oS hs, (SX_sheet s hs).2.2.2.2.1, (SX_sheet s hs).2.2.2.2.2.2.2.1⟩
theorem S_numbers {s : Nat} (hs : s < 4) : z_Sr SX (43 + s) 2 2 (47 + s) := ⟨oS hs, (SX_sheet s hs).2.2.2.2.2.1⟩
theorem aNums {s : Nat} (hs : s < 4) : z_Ar SX (47 + s) 6 40 14 (fun j => 40 * s + j) := ⟨by show _ < 54; omega, (SX_sheet s hs).2.2.2.2.2.2.2.2.1, (SX_sheet s hs).2.2.2.2.2.2.2.2.2, by decide, fun j hj => SX_nums s hs j hj⟩
theorem SX_found : ∀ c, c < 7 → SXo 51 c = (4, 1 + c) := by decide +kernel
theorem aFound : z_Ar SX 51 6 7 4 (fun j => 1 + j) := ⟨by decide, rfl, rfl, by decide, fun c hc => SX_found c hc⟩
theorem SX_way : ∀ c, c < 30 → SXo 53 c = (16, c) := by decide +kernel
theorem aWay : z_Ar SX 53 6 30 16 (fun j => j) := ⟨by decide, rfl, rfl, by decide, fun c hc => SX_way c hc⟩
theorem SX_long : ∀ q, q < 54 → SXk q = 7 → q = 52 := by decide +kernel
theorem ocPH : z_Oc SX 0 RX4 := ⟨4, _, oPH, rfl, rfl⟩
theorem ocC {r : Nat} (hr : z_R3 r) : z_Oc SX r RX0 := ⟨0, _, oC hr, rfl, rfl⟩
theorem ocK {r c : Nat} (hr : z_R3 r) (hc : c < 10) : z_Oc SX (10 * r + c) RX1 := ⟨1, _, oK hr hc, rfl, rfl⟩
theorem ocT : z_Oc SX 40 RX3 := ⟨3, _, oT, rfl, rfl⟩
theorem ocS {s : Nat} (hs : s < 4) : z_Oc SX (43 + s) RX2 := ⟨2, _, oS hs, rfl, rfl⟩
theorem oM : z_O SM 0 5 := z_mkO (n := 27) (by decide) rfl rfl (by decide) rfl rfl
theorem ocM : z_Oc SM 0 RX5 := ⟨5, _, oM, rfl, rfl⟩
theorem M_now : z_Sr SM 0 5 0 1 := ⟨oM, rfl⟩
theorem M_kept : z_Sr SM 0 5 1 3 := ⟨oM, rfl⟩
theorem M_aside : z_Sr SM 0 5 2 2 := ⟨oM, rfl⟩
theorem M_isKept : z_Sl SM 0 5 3 0 3 := ⟨oM, rfl, rfl⟩
theorem M_found : z_Sr SM 0 5 4 4 := ⟨oM, rfl⟩
theorem M_leasts : z_Sr SM 0 5 5 5 := ⟨oM, rfl⟩
theorem M_mosts : z_Sr SM 0 5 6 6 := ⟨oM, rfl⟩
theorem M_bestSet : z_Sl SM 0 5 7 0 7 := ⟨oM, rfl, rfl⟩
theorem M_mostPence : z_Sl SM 0 5 8 0 8 := ⟨oM, rfl, rfl⟩
theorem M_summed : z_Sr SM 0 5 9 7 := ⟨oM, rfl⟩
theorem M_leastHole : z_Sl SM 0 5 10 0 10 := ⟨oM, rfl, rfl⟩
theorem M_tape : z_Sr SM 0 5 11 8 := ⟨oM, rfl⟩
theorem M_taped : z_Sl SM 0 5 12 0 12 := ⟨oM, rfl, rfl⟩
theorem M_begins : z_Sl SM 0 5 13 0 13 := ⟨oM, rfl, rfl⟩
theorem M_ends : z_Sl SM 0 5 14 0 14 := ⟨oM, rfl, rfl⟩
theorem M_sort : z_Sl SM 0 5 15 0 15 := ⟨oM, rfl, rfl⟩
theorem M_value : z_Sl SM 0 5 16 0 16 := ⟨oM, rfl, rfl⟩
theorem M_isWrong : z_Sl SM 0 5 17 0 17 := ⟨oM, rfl, rfl⟩
theorem M_kinds : z_Sr SM 0 5 18 9 := ⟨oM, rfl⟩
theorem M_kindOf : z_Sr SM 0 5 19 10 := ⟨oM, rfl⟩
theorem M_items : z_Sr SM 0 5 20 11 := ⟨oM, rfl⟩
theorem M_itemMany : z_Sl SM 0 5 21 0 21 := ⟨oM, rfl, rfl⟩
theorem M_coinThen : z_Sl SM 0 5 22 0 22 := ⟨oM, rfl, rfl⟩
theorem M_widths : z_Sr SM 0 5 23 12 := ⟨oM, rfl⟩
theorem M_sizes : z_Sr SM 0 5 24 13 := ⟨oM, rfl⟩
theorem M_numbers : z_Sr SM 0 5 25 14 := ⟨oM, rfl⟩
theorem M_moved : z_Sr SM 0 5 26 15 := ⟨oM, rfl⟩
theorem aM_now : z_Ar SM 1 6 96 1 (fun j => j) := ⟨by decide, rfl, rfl, by decide, fun _ _ => rfl⟩
theorem aM_kept : z_Ar SM 3 6 96 3 (fun j => j) := ⟨by decide, rfl, rfl, by decide, fun _ _ => rfl⟩
theorem aM_aside : z_Ar SM 2 6 96 2 (fun j => j) := ⟨by decide, rfl, rfl, by decide, fun _ _ => rfl⟩
theorem aM_found : z_Ar SM 4 6 8 4 (fun j => j) := ⟨by decide, rfl, rfl, by decide, fun _ _ => rfl⟩
theorem aM_leasts : z_Ar SM 5 6 7 5 (fun j => j) := ⟨by decide, rfl, rfl, by decide, fun _ _ => rfl⟩
theorem aM_mosts : z_Ar SM 6 6 7 6 (fun j => j) := ⟨by decide, rfl, rfl, by decide, fun _ _ => rfl⟩
theorem aM_summed : z_Ar SM 7 8 2401 7 (fun j => j) := ⟨by decide, rfl, rfl, by decide, fun _ _ => rfl⟩
theorem aM_tape : z_Ar SM 8 6 120 8 (fun j => j) := ⟨by decide, rfl, rfl, by decide, fun _ _ => rfl⟩
theorem aM_kindOf : z_Ar SM 10 6 7 10 (fun j => j) := ⟨by decide, rfl, rfl, by decide, fun _ _ => rfl⟩
theorem aM_items : z_Ar SM 11 6 600 11 (fun j => j) := ⟨by decide, rfl, rfl, by decide, fun _ _ => rfl⟩
theorem aM_widths : z_Ar SM 12 6 4 12 (fun j => j) := ⟨by decide, rfl, rfl, by decide, fun _ _ => rfl⟩
theorem aM_sizes : z_Ar SM 13 6 4 13 (fun j => j) := ⟨by decide, rfl, rfl, by decide, fun _ _ => rfl⟩
theorem aM_numbers : z_Ar SM 14 6 160 14 (fun j => j) := ⟨by decide, rfl, rfl, by decide, fun _ _ => rfl⟩
theorem aM_moved : z_Ar SM 15 6 40 15 (fun j => j) := ⟨by decide, rfl, rfl, by decide, fun _ _ => rfl⟩
def SMs (k : Nat) : Nat := [1003, 1004, 1005, 1008, 1006, 1007, 1009].getD k 0
theorem SM_kinds : ∀ k, k < 7 → SMr 9 k = some (SMs k) := by decide +kernel
theorem aM_kinds : z_Aq SM 9 11 7 SMs := ⟨by decide, rfl, rfl, by decide, fun k hk => SM_kinds k hk⟩
def zT : List (String × Nat × Nat) := [("PocketHole$Tape", 34, 0), ("PocketHole$Tape", 44, 1), ("PocketHole$Tape", 60, 2), ("PocketHole$Tape", 106, 3), ("PocketHole$Tape", 108, 4), ("PocketHole$Tape", 110, 5), ("PocketHole$Tape", 112, 6), ("PocketHole$Tape", 114, 7), ("PocketHole$Tape", 116, 8), ("PocketHole$Tape", 118, 9), ("PocketHole$Tape", 77, 10), ("PocketHole$Tape", 83, 11), ("PocketHole$Tape", 85, 12), ("PocketHole$Tape", 87, 13), ("PocketHoleModel", 37, 3), ("PocketHoleModel", 39, 4), ("PocketHoleModel", 41, 5), ("PocketHoleModel", 43, 8), ("PocketHoleModel", 45, 6), ("PocketHoleModel", 47, 7), ("PocketHoleModel", 49, 9), ("PocketHoleModel", 284, 10), ("PocketHoleModel", 292, 11), ("PocketHoleModel", 294, 12), ("PocketHoleModel", 296, 13), ("PocketHoleModel", 302, 0), ("PocketHoleModel", 304, 1), ("PocketHoleModel", 306, 2)]
theorem sT_0 : ("PocketHole$Tape", 34, 0) ∈ zT := List.mem_of_getElem? (i := 0) rfl
theorem sT_1 : ("PocketHole$Tape", 44, 1) ∈ zT := List.mem_of_getElem? (i := 1) rfl
theorem sT_2 : ("PocketHole$Tape", 60, 2) ∈ zT := List.mem_of_getElem? (i := 2) rfl
theorem sT_3 : ("PocketHole$Tape", 106, 3) ∈ zT := List.mem_of_getElem? (i := 3) rfl
theorem sT_4 : ("PocketHole$Tape", 108, 4) ∈ zT := List.mem_of_getElem? (i := 4) rfl
theorem sT_5 : ("PocketHole$Tape", 110, 5) ∈ zT := List.mem_of_getElem? (i := 5) rfl
theorem sT_6 : ("PocketHole$Tape", 112, 6) ∈ zT := List.mem_of_getElem? (i := 6) rfl
theorem sT_7 : ("PocketHole$Tape", 114, 7) ∈ zT := List.mem_of_getElem? (i := 7) rfl
theorem sT_8 : ("PocketHole$Tape", 116, 8) ∈ zT := List.mem_of_getElem? (i := 8) rfl
theorem sT_9 : ("PocketHole$Tape", 118, 9) ∈ zT := List.mem_of_getElem? (i := 9) rfl
theorem sT_10 : ("PocketHole$Tape", 77, 10) ∈ zT := List.mem_of_getElem? (i := 10) rfl
theorem sT_11 : ("PocketHole$Tape", 83, 11) ∈ zT := List.mem_of_getElem? (i := 11) rfl
theorem sT_12 : ("PocketHole$Tape", 85, 12) ∈ zT := List.mem_of_getElem? (i := 12) rfl
theorem sT_13 : ("PocketHole$Tape", 87, 13) ∈ zT := List.mem_of_getElem? (i := 13) rfl
theorem sT_14 : ("PocketHoleModel", 37, 3) ∈ zT := List.mem_of_getElem? (i := 14) rfl
theorem sT_15 : ("PocketHoleModel", 39, 4) ∈ zT := List.mem_of_getElem? (i := 15) rfl
theorem sT_16 : ("PocketHoleModel", 41, 5) ∈ zT := List.mem_of_getElem? (i := 16) rfl
theorem sT_17 : ("PocketHoleModel", 43, 8) ∈ zT := List.mem_of_getElem? (i := 17) rfl
theorem sT_18 : ("PocketHoleModel", 45, 6) ∈ zT := List.mem_of_getElem? (i := 18) rfl
theorem sT_19 : ("PocketHoleModel", 47, 7) ∈ zT := List.mem_of_getElem? (i := 19) rfl
theorem sT_20 : ("PocketHoleModel", 49, 9) ∈ zT := List.mem_of_getElem? (i := 20) rfl
theorem sT_21 : ("PocketHoleModel", 284, 10) ∈ zT := List.mem_of_getElem? (i := 21) rfl
theorem sT_22 : ("PocketHoleModel", 292, 11) ∈ zT := List.mem_of_getElem? (i := 22) rfl
theorem sT_23 : ("PocketHoleModel", 294, 12) ∈ zT := List.mem_of_getElem? (i := 23) rfl
theorem sT_24 : ("PocketHoleModel", 296, 13) ∈ zT := List.mem_of_getElem? (i := 24) rfl
theorem sT_25 : ("PocketHoleModel", 302, 0) ∈ zT := List.mem_of_getElem? (i := 25) rfl
theorem sT_26 : ("PocketHoleModel", 304, 1) ∈ zT := List.mem_of_getElem? (i := 26) rfl
theorem sT_27 : ("PocketHoleModel", 306, 2) ∈ zT := List.mem_of_getElem? (i := 27) rfl
theorem zv_b_6 : (Int8.ofInt 6).toInt32 = (6 : Int32) := by decide
theorem zv_b_7 : (Int8.ofInt 7).toInt32 = (7 : Int32) := by decide
theorem zv_b_8 : (Int8.ofInt 8).toInt32 = (8 : Int32) := by decide
theorem zv_b_9 : (Int8.ofInt 9).toInt32 = (9 : Int32) := by decide
theorem zv_b_10 : (Int8.ofInt 10).toInt32 = (10 : Int32) := by decide
theorem zv_b_11 : (Int8.ofInt 11).toInt32 = (11 : Int32) := by decide
theorem zv_b_12 : (Int8.ofInt 12).toInt32 = (12 : Int32) := by decide
theorem zv_b_16 : (Int8.ofInt 16).toInt32 = (16 : Int32) := by decide
theorem zv_b_29 : (Int8.ofInt 29).toInt32 = (29 : Int32) := by decide
theorem zv_b_30 : (Int8.ofInt 30).toInt32 = (30 : Int32) := by decide
theorem zv_b_32 : (Int8.ofInt 32).toInt32 = (32 : Int32) := by decide
theorem zv_b_37 : (Int8.ofInt 37).toInt32 = (37 : Int32) := by decide
theorem zv_b_38 : (Int8.ofInt 38).toInt32 = (38 : Int32) := by decide
theorem zv_b_40 : (Int8.ofInt 40).toInt32 = (40 : Int32) := by decide
theorem zv_b_48 : (Int8.ofInt 48).toInt32 = (48 : Int32) := by decide
theorem zv_b_50 : (Int8.ofInt 50).toInt32 = (50 : Int32) := by decide
theorem zv_b_57 : (Int8.ofInt 57).toInt32 = (57 : Int32) := by decide
theorem zv_b_59 : (Int8.ofInt 59).toInt32 = (59 : Int32) := by decide
theorem zv_b_60 : (Int8.ofInt 60).toInt32 = (60 : Int32) := by decide
theorem zv_b_63 : (Int8.ofInt 63).toInt32 = (63 : Int32) := by decide
theorem zv_b_64 : (Int8.ofInt 64).toInt32 = (64 : Int32) := by decide
theorem zv_b_96 : (Int8.ofInt 96).toInt32 = (96 : Int32) := by decide
theorem zv_b_97 : (Int8.ofInt 97).toInt32 = (97 : Int32) := by decide
theorem zv_b_99 : (Int8.ofInt 99).toInt32 = (99 : Int32) := by decide
theorem zv_b_100 : (Int8.ofInt 100).toInt32 = (100 : Int32) := by decide
theorem zv_b_101 : (Int8.ofInt 101).toInt32 = (101 : Int32) := by decide
theorem zv_b_120 : (Int8.ofInt 120).toInt32 = (120 : Int32) := by decide
theorem zv_b_122 : (Int8.ofInt 122).toInt32 = (122 : Int32) := by decide
theorem zv_b_127 : (Int8.ofInt 127).toInt32 = (127 : Int32) := by decide
theorem zv_i_m1 : Int32.ofInt (-1) = (-1 : Int32) := by decide
theorem zv_i_0 : Int32.ofInt 0 = (0 : Int32) := by decide
theorem zv_i_1 : Int32.ofInt 1 = (1 : Int32) := by decide
theorem zv_i_2 : Int32.ofInt 2 = (2 : Int32) := by decide
theorem zv_i_3 : Int32.ofInt 3 = (3 : Int32) := by decide
theorem zv_i_4 : Int32.ofInt 4 = (4 : Int32) := by decide
theorem zv_i_5 : Int32.ofInt 5 = (5 : Int32) := by decide
theorem zv_i_6 : Int32.ofInt 6 = (6 : Int32) := by decide
theorem zv_s_160 : (Int16.ofInt 160).toInt32 = (160 : Int32) := by decide
theorem zv_s_240 : (Int16.ofInt 240).toInt32 = (240 : Int32) := by decide
theorem zv_s_255 : (Int16.ofInt 255).toInt32 = (255 : Int32) := by decide
theorem zv_s_500 : (Int16.ofInt 500).toInt32 = (500 : Int32) := by decide
theorem zv_s_600 : (Int16.ofInt 600).toInt32 = (600 : Int32) := by decide
theorem zv_s_1000 : (Int16.ofInt 1000).toInt32 = (1000 : Int32) := by decide
theorem zv_s_2400 : (Int16.ofInt 2400).toInt32 = (2400 : Int32) := by decide
theorem zv_s_2401 : (Int16.ofInt 2401).toInt32 = (2401 : Int32) := by decide
theorem zv_s_9899 : (Int16.ofInt 9899).toInt32 = (9899 : Int32) := by decide
theorem zv_s_9999 : (Int16.ofInt 9999).toInt32 = (9999 : Int32) := by decide
theorem zv_s_12345 : (Int16.ofInt 12345).toInt32 = (12345 : Int32) := by decide
