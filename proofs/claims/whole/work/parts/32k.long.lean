/-! THE BITS OF A LONG, counted as the JDK counts them -/
def lu (x : Int64) : Nat := x.toBitVec.toNat
theorem lu_lt (x : Int64) : lu x < 2 ^ 64 := x.toBitVec.isLt
theorem lu_and (x y : Int64) : lu (x &&& y) = lu x &&& lu y := by unfold lu; rw [Int64.toBitVec_and, BitVec.toNat_and]
theorem lu_sub {x y : Int64} (h : lu y ≤ lu x) : lu (x - y) = lu x - lu y := by unfold lu; rw [Int64.toBitVec_sub, BitVec.toNat_sub_of_le h]
theorem lu_add {x y : Int64} (h : lu x + lu y < 2 ^ 64) : lu (x + y) = lu x + lu y := by unfold lu; rw [Int64.toBitVec_add, BitVec.toNat_add_of_lt h]
def l_us (x : Int64) (y : Int32) : Int64 := (x.toUInt64 >>> (y.toInt64.toUInt64 &&& Int64.toUInt64 63)).toInt64
theorem lu_us (x : Int64) {y : Int32} {k : Nat} (h : (y.toInt64.toUInt64 &&& Int64.toUInt64 63).toNat % 64 = k) : lu (l_us x y) = lu x / 2 ^ k := by
  show (x.toUInt64 >>> (y.toInt64.toUInt64 &&& Int64.toUInt64 63)).toNat = x.toUInt64.toNat / 2 ^ k
  rw [UInt64.toNat_shiftRight, h, Nat.shiftRight_eq_div_pow]
theorem l_32 (x : Int64) : x.toInt32 &&& 127 = nI (lu x % 128) := by
  have e : x.toInt32 = nI (lu x) := by
    apply Int32.toBitVec_inj.mp
    show x.toBitVec.signExtend 32 = BitVec.ofNat 32 x.toBitVec.toNat
    rw [BitVec.signExtend_eq_setWidth_of_le _ (by decide)]
    rfl
  rw [e, show (127 : Int32) = nI 127 from rfl, nx_and, show (127 : Nat) = 2 ^ 7 - 1 from rfl, Nat.and_two_pow_sub_one_eq_mod]
/-! byte by byte -/
def w_rep (m : Nat) : Nat → Nat
  | 0 => 0
  | n + 1 => m + 256 * w_rep m n
theorem w_and {b m : Nat} (h r : Nat) (hb : b < 256) (hm : m < 256) : (b + 256 * h) &&& (m + 256 * r) = (b &&& m) + 256 * (h &&& r) := by
  have hbm : b &&& m < 2 ^ 8 := Nat.lt_of_le_of_lt Nat.and_le_left hb
  rw [show b + 256 * h = 2 ^ 8 * h + b by omega, show m + 256 * r = 2 ^ 8 * r + m by omega, show (b &&& m) + 256 * (h &&& r) = 2 ^ 8 * (h &&& r) + (b &&& m) by omega]
  apply Nat.eq_of_testBit_eq
  intro i
  rw [Nat.testBit_and, Nat.testBit_two_pow_mul_add _ hb, Nat.testBit_two_pow_mul_add _ hm, Nat.testBit_two_pow_mul_add _ hbm]
  by_cases q : i < 8
  · rw [if_pos q, if_pos q, if_pos q, Nat.testBit_and]
  · rw [if_neg q, if_neg q, if_neg q, Nat.testBit_and]
def w_1 (n x : Nat) : Nat := x - (x / 2 &&& w_rep 85 n)
def w_2 (n x : Nat) : Nat := (x &&& w_rep 51 n) + (x / 4 &&& w_rep 51 n)
def w_3 (n x : Nat) : Nat := (x + x / 16) &&& w_rep 15 n
def c_1 (b : Nat) : Nat := b - (b / 2 &&& 85)
def c_2 (b : Nat) : Nat := (b &&& 51) + (b / 4 &&& 51)
def c_3 (b : Nat) : Nat := (b + b / 16) &&& 15
theorem c_1a : ∀ b, b < 256 → ∀ e, e < 2 → (b / 2 + 128 * e) &&& 85 = b / 2 &&& 85 := by decide +kernel
theorem c_2a : ∀ b, b < 256 → ∀ e, e < 4 → (b / 4 + 64 * e) &&& 51 = b / 4 &&& 51 := by decide +kernel
theorem c_3a : ∀ b, b < 69 → ∀ e, e < 5 → (b + b / 16 + 16 * e) &&& 15 = (b + b / 16) &&& 15 := by decide +kernel
theorem c_all : ∀ b, b < 256 → c_1 b < 256 ∧ c_2 (c_1 b) < 69 ∧ c_2 (c_1 b) % 16 < 5 ∧ c_3 (c_2 (c_1 b)) = p_cnt b 8 := by decide +kernel
theorem w_1s {b : Nat} (hb : b < 256) (h n : Nat) : w_1 (n + 1) (b + 256 * h) = c_1 b + 256 * w_1 n h := by
  unfold w_1 c_1
  have h1 : b / 2 &&& 85 ≤ b / 2 := Nat.and_le_left
  have h2 : h / 2 &&& w_rep 85 n ≤ h / 2 := Nat.and_le_left
  rw [show (b + 256 * h) / 2 = (b / 2 + 128 * (h % 2)) + 256 * (h / 2) by omega, w_rep, w_and _ _ (by omega) (by decide), c_1a b hb _ (by omega)]
  omega
theorem w_2s {b : Nat} (hb : b < 256) (h n : Nat) : w_2 (n + 1) (b + 256 * h) = c_2 b + 256 * w_2 n h := by
  unfold w_2 c_2
  rw [show (b + 256 * h) / 4 = (b / 4 + 64 * (h % 4)) + 256 * (h / 4) by omega, w_rep, w_and _ _ hb (by decide), w_and _ _ (by omega) (by decide), c_2a b hb _ (by omega)]
  omega
theorem w_3s {b : Nat} (hb : b < 69) {h : Nat} (hh : h % 16 < 5) (n : Nat) : w_3 (n + 1) (b + 256 * h) = c_3 b + 256 * w_3 n h := by
  unfold w_3 c_3
  rw [show (b + 256 * h) + (b + 256 * h) / 16 = (b + b / 16 + 16 * (h % 16)) + 256 * (h + h / 16) by omega, w_rep, w_and _ _ (by omega) (by decide), c_3a b hb _ hh]
def w_R : Nat → Nat → Nat
  | 0, _ => 0
  | n + 1, x => p_cnt (x % 256) 8 + 256 * w_R n (x / 256)
theorem w_all : ∀ n x, w_2 n (w_1 n x) % 16 < 5 ∧ w_3 n (w_2 n (w_1 n x)) = w_R n x
  | 0, x => by
    have e : w_2 0 (w_1 0 x) = 0 := by
      unfold w_2
      rw [show w_rep 51 0 = 0 from rfl, Nat.and_zero, Nat.and_zero]
    refine ⟨by rw [e]; decide, ?_⟩
    unfold w_3
    rw [show w_rep 15 0 = 0 from rfl, Nat.and_zero]
    rfl
  | n + 1, x => by
    obtain ⟨i1, i2⟩ := w_all n (x / 256)
    have hb : x % 256 < 256 := Nat.mod_lt _ (by decide)
    obtain ⟨a1, a2, a3, a4⟩ := c_all (x % 256) hb
    have e : w_2 (n + 1) (w_1 (n + 1) x) = c_2 (c_1 (x % 256)) + 256 * w_2 n (w_1 n (x / 256)) := by
      have ex : x = x % 256 + 256 * (x / 256) := by omega
      rw [show w_1 (n + 1) x = c_1 (x % 256) + 256 * w_1 n (x / 256) by rw [← w_1s hb]; exact congrArg _ ex, w_2s a1]
    refine ⟨by rw [e]; omega, ?_⟩
    rw [e, w_3s a2 i1, a4, i2, w_R]
theorem p_cnt_8 (x : Nat) : ∀ n, p_cnt x (8 + n) = p_cnt (x % 256) 8 + p_cnt (x / 256) n
  | 0 => by
    have key : ∀ k, k ≤ 8 → p_cnt x k = p_cnt (x % 256) k := by
      intro k
      induction k with
      | zero => intro _; rfl
      | succ k ih =>
        intro h
        rw [p_cnt, p_cnt, ih (by omega), show (256 : Nat) = 2 ^ 8 from rfl, Nat.testBit_mod_two_pow, decide_eq_true (show k < 8 by omega), Bool.true_and]
    exact key 8 (Nat.le_refl _)
  | n + 1 => by
    rw [show 8 + (n + 1) = (8 + n) + 1 by omega, p_cnt, p_cnt_8 x n, show p_cnt (x / 256) (n + 1) = p_cnt (x / 256) n + (if (x / 256).testBit n then 1 else 0) from rfl, show (256 : Nat) = 2 ^ 8 from rfl, Nat.testBit_div_two_pow, Nat.add_comm 8 n]
    omega
theorem w_d1 {p X : Nat} (h : p < 256) : (p + 256 * X) / 256 = X := by omega
theorem w_d2 {p q X : Nat} (h : p < 256) (h2 : q < 256) : (p + 256 * (q + 256 * X)) / 65536 = X := by omega
theorem w_d4 {p q r s X : Nat} (h : p < 256) (h2 : q < 256) (h3 : r < 256) (h4 : s < 256) : (p + 256 * (q + 256 * (r + 256 * (s + 256 * X)))) / 4294967296 = X := by omega
theorem w_s {p q X Y : Nat} : (p + 256 * X) + (q + 256 * Y) = (p + q) + 256 * (X + Y) := by omega
theorem w_s0 {p q X : Nat} : (p + 256 * X) + q = (p + q) + 256 * X := by omega
theorem w_lt {p X n m : Nat} (h : p < 256) (h2 : X < n) (hm : 256 * n ≤ m) : p + 256 * X < m := by omega
theorem w_fin {p0 p1 p2 p3 p4 p5 p6 p7 : Nat} (h0 : p0 ≤ 8) (h1 : p1 ≤ 8) (h2 : p2 ≤ 8) (h3 : p3 ≤ 8) (h4 : p4 ≤ 8) (h5 : p5 ≤ 8) (h6 : p6 ≤ 8) (h7 : p7 ≤ 8) {R a b : Nat} (hR : R = p0 + 256 * (p1 + 256 * (p2 + 256 * (p3 + 256 * (p4 + 256 * (p5 + 256 * (p6 + 256 * (p7 + 256 * 0)))))))) (ha : a = R + R / 256) (hb : b = a + a / 65536) : R < 2 ^ 60 ∧ a < 2 ^ 61 ∧ b < 2 ^ 62 ∧ (b + b / 4294967296) % 128 = p0 + (p1 + (p2 + (p3 + (p4 + (p5 + (p6 + (p7 + 0))))))) := by
  have g1 : R / 256 = p1 + 256 * (p2 + 256 * (p3 + 256 * (p4 + 256 * (p5 + 256 * (p6 + 256 * (p7 + 256 * 0)))))) := by rw [hR]; exact w_d1 (by omega)
  have g2 : a = (p0 + p1) + 256 * ((p1 + p2) + 256 * ((p2 + p3) + 256 * ((p3 + p4) + 256 * ((p4 + p5) + 256 * ((p5 + p6) + 256 * ((p6 + p7) + 256 * (p7 + 256 * 0))))))) := by
    rw [ha, g1, hR, w_s, w_s, w_s, w_s, w_s, w_s, w_s, Nat.mul_zero, Nat.add_zero]
  have g3 : a / 65536 = (p2 + p3) + 256 * ((p3 + p4) + 256 * ((p4 + p5) + 256 * ((p5 + p6) + 256 * ((p6 + p7) + 256 * (p7 + 256 * 0))))) := by rw [g2]; exact w_d2 (by omega) (by omega)
  have g4 : b = ((p0 + p1) + (p2 + p3)) + 256 * (((p1 + p2) + (p3 + p4)) + 256 * (((p2 + p3) + (p4 + p5)) + 256 * (((p3 + p4) + (p5 + p6)) + 256 * (((p4 + p5) + (p6 + p7)) + 256 * (((p5 + p6) + p7) + 256 * ((p6 + p7) + 256 * (p7 + 256 * 0))))))) := by
    rw [hb, g3, g2, w_s, w_s, w_s, w_s, w_s, w_s, Nat.mul_zero, Nat.add_zero, Nat.add_zero]
  have g5 : b / 4294967296 = ((p4 + p5) + (p6 + p7)) + 256 * (((p5 + p6) + p7) + 256 * ((p6 + p7) + 256 * (p7 + 256 * 0))) := by rw [g4]; exact w_d4 (by omega) (by omega) (by omega) (by omega)
  refine ⟨?_, ?_, ?_, ?_⟩
  · rw [hR]; clear hR ha hb g1 g2 g3 g4 g5
    exact w_lt (n := 2 ^ 52) (by omega) (w_lt (n := 2 ^ 44) (by omega) (w_lt (n := 2 ^ 36) (by omega) (w_lt (n := 2 ^ 28) (by omega) (w_lt (n := 2 ^ 20) (by omega) (w_lt (n := 2 ^ 12) (by omega) (w_lt (n := 2 ^ 4) (by omega) (by omega) (by decide)) (by decide)) (by decide)) (by decide)) (by decide)) (by decide)) (by decide)
  · rw [g2]; clear hR ha hb g1 g2 g3 g4 g5
    exact w_lt (n := 2 ^ 53) (by omega) (w_lt (n := 2 ^ 45) (by omega) (w_lt (n := 2 ^ 37) (by omega) (w_lt (n := 2 ^ 29) (by omega) (w_lt (n := 2 ^ 21) (by omega) (w_lt (n := 2 ^ 13) (by omega) (w_lt (n := 2 ^ 5) (by omega) (by omega) (by decide)) (by decide)) (by decide)) (by decide)) (by decide)) (by decide)) (by decide)
  · rw [g4]; clear hR ha hb g1 g2 g3 g4 g5
    exact w_lt (n := 2 ^ 54) (by omega) (w_lt (n := 2 ^ 46) (by omega) (w_lt (n := 2 ^ 38) (by omega) (w_lt (n := 2 ^ 30) (by omega) (w_lt (n := 2 ^ 22) (by omega) (w_lt (n := 2 ^ 14) (by omega) (w_lt (n := 2 ^ 6) (by omega) (by omega) (by decide)) (by decide)) (by decide)) (by decide)) (by decide)) (by decide)) (by decide)
  · obtain ⟨B, hB⟩ : ∃ B, b = ((p0 + p1) + (p2 + p3)) + 256 * B := ⟨_, g4⟩
    obtain ⟨C, hC⟩ : ∃ C, b / 4294967296 = ((p4 + p5) + (p6 + p7)) + 256 * C := ⟨_, g5⟩
    clear hR ha hb g1 g2 g3 g4 g5
    rw [hC]
    omega
def l_1 (x : Int64) : Int64 := x - (l_us x 1 &&& 6148914691236517205)
def l_2 (x : Int64) : Int64 := (x &&& 3689348814741910323) + (l_us x 2 &&& 3689348814741910323)
def l_3 (x : Int64) : Int64 := (x + l_us x 4) &&& 1085102592571150095
def l_bc (x : Int64) : Int32 :=
  let c := l_3 (l_2 (l_1 x))
  let d := c + l_us c 8
  let e := d + l_us d 16
  (e + l_us e 32).toInt32 &&& 127
theorem l_bc_n (x : Int64) : l_bc x = nI (p_cnt (lu x) 64) := by
  have hx := lu_lt x
  have a1 : lu (l_us x 1 &&& 6148914691236517205) = lu x / 2 &&& w_rep 85 8 := by rw [lu_and, lu_us x (k := 1) (by decide)]; rfl
  have b1 : lu x / 2 &&& w_rep 85 8 ≤ lu x / 2 := Nat.and_le_left
  have e1 : lu (l_1 x) = w_1 8 (lu x) := by unfold l_1 w_1; rw [lu_sub (by rw [a1]; omega), a1]
  have h1 := lu_lt (l_1 x)
  have a2 : lu (l_1 x &&& 3689348814741910323) = lu (l_1 x) &&& w_rep 51 8 := by rw [lu_and]; rfl
  have a3 : lu (l_us (l_1 x) 2 &&& 3689348814741910323) = lu (l_1 x) / 4 &&& w_rep 51 8 := by rw [lu_and, lu_us _ (k := 2) (by decide)]; rfl
  have b2 : lu (l_1 x) &&& w_rep 51 8 ≤ w_rep 51 8 := Nat.and_le_right
  have b3 : lu (l_1 x) / 4 &&& w_rep 51 8 ≤ w_rep 51 8 := Nat.and_le_right
  have r51 : w_rep 51 8 = 3689348814741910323 := by decide
  have e2 : lu (l_2 (l_1 x)) = w_2 8 (lu (l_1 x)) := by unfold l_2 w_2; rw [lu_add (by rw [a2, a3]; omega), a2, a3]
  have h2 : lu (l_2 (l_1 x)) ≤ 7378697629483820646 := by rw [e2]; unfold w_2; omega
  have a4 : lu (l_us (l_2 (l_1 x)) 4) = lu (l_2 (l_1 x)) / 16 := lu_us _ (k := 4) (by decide)
  have e3 : lu (l_3 (l_2 (l_1 x))) = w_3 8 (lu (l_2 (l_1 x))) := by unfold l_3 w_3; rw [lu_and, lu_add (by rw [a4]; omega), a4]; rfl
  rw [e2, e1, (w_all 8 (lu x)).2] at e3
  have hp : ∀ k, p_cnt k 8 ≤ 8 := fun k => p_cnt_n k 8
  have hs : p_cnt (lu x) 64 = p_cnt (lu x % 256) 8 + (p_cnt (lu x / 256 % 256) 8 + (p_cnt (lu x / 256 / 256 % 256) 8 + (p_cnt (lu x / 256 / 256 / 256 % 256) 8 + (p_cnt (lu x / 256 / 256 / 256 / 256 % 256) 8 + (p_cnt (lu x / 256 / 256 / 256 / 256 / 256 % 256) 8 + (p_cnt (lu x / 256 / 256 / 256 / 256 / 256 / 256 % 256) 8 + (p_cnt (lu x / 256 / 256 / 256 / 256 / 256 / 256 / 256 % 256) 8 + 0))))))) := by
    rw [p_cnt_8 _ 56, p_cnt_8 _ 48, p_cnt_8 _ 40, p_cnt_8 _ 32, p_cnt_8 _ 24, p_cnt_8 _ 16, p_cnt_8 _ 8, p_cnt_8 (lu x / 256 / 256 / 256 / 256 / 256 / 256 / 256) 0]
    rfl
  obtain ⟨f1, f2, f3, f4⟩ := w_fin (hp _) (hp _) (hp _) (hp _) (hp _) (hp _) (hp _) (hp _) (R := lu (l_3 (l_2 (l_1 x)))) e3 rfl rfl
  rw [← hs] at f4
  have a8 : lu (l_us (l_3 (l_2 (l_1 x))) 8) = lu (l_3 (l_2 (l_1 x))) / 256 := lu_us _ (k := 8) (by decide)
  have e4 : lu (l_3 (l_2 (l_1 x)) + l_us (l_3 (l_2 (l_1 x))) 8) = lu (l_3 (l_2 (l_1 x))) + lu (l_3 (l_2 (l_1 x))) / 256 := by rw [lu_add (by rw [a8]; omega), a8]
  show ((l_3 (l_2 (l_1 x)) + l_us (l_3 (l_2 (l_1 x))) 8 + l_us (l_3 (l_2 (l_1 x)) + l_us (l_3 (l_2 (l_1 x))) 8) 16) + l_us (l_3 (l_2 (l_1 x)) + l_us (l_3 (l_2 (l_1 x))) 8 + l_us (l_3 (l_2 (l_1 x)) + l_us (l_3 (l_2 (l_1 x))) 8) 16) 32).toInt32 &&& 127 = _
  rw [← e4] at f2 f3 f4
  generalize l_3 (l_2 (l_1 x)) + l_us (l_3 (l_2 (l_1 x))) 8 = d at f2 f3 f4 ⊢
  have a16 : lu (l_us d 16) = lu d / 65536 := lu_us _ (k := 16) (by decide)
  have e5 : lu (d + l_us d 16) = lu d + lu d / 65536 := by rw [lu_add (by rw [a16]; omega), a16]
  rw [← e5] at f3 f4
  generalize d + l_us d 16 = e at f3 f4 ⊢
  have a32 : lu (l_us e 32) = lu e / 4294967296 := lu_us _ (k := 32) (by decide)
  rw [l_32, lu_add (by rw [a32]; omega), a32, f4]
/-! rows on longs -/
section ZLL
variable {X : zX} {S : zS} {T : List (String × Nat × Nat)} {cc : ByteArray} {own : String} {nL d pc : Nat} {L : List (Option Value)} {st : List Value} {D : zD}
theorem z_lsub (F : z_F X S T cc own nL d) {x y : Int64} (hd : decode cc pc = .ok (.lsub, 1)) (K : z_J X S (pc + 1) L (.long (x - y) :: st) D) : z_J X S pc L (.long y :: .long x :: st) D := by
  obtain ⟨p, l, e, R, s, m, args, below, meth, co, Q, G, cy, ad⟩ := X
  obtain ⟨hx, hb, hml, hown, hts, hK, hin, ok, hR, hT⟩ := F
  intro H locs ls hP hS hl
  exact lv_lsub hx hb hd (K H locs ls hP hS hl)
theorem z_land (F : z_F X S T cc own nL d) {x y : Int64} (hd : decode cc pc = .ok (.land, 1)) (K : z_J X S (pc + 1) L (.long (x &&& y) :: st) D) : z_J X S pc L (.long y :: .long x :: st) D := by
  obtain ⟨p, l, e, R, s, m, args, below, meth, co, Q, G, cy, ad⟩ := X
  obtain ⟨hx, hb, hml, hown, hts, hK, hin, ok, hR, hT⟩ := F
  intro H locs ls hP hS hl
  exact lv_land hx hb hd (K H locs ls hP hS hl)
theorem z_l2i (F : z_F X S T cc own nL d) {x : Int64} (hd : decode cc pc = .ok (.l2i, 1)) (K : z_J X S (pc + 1) L (.int x.toInt32 :: st) D) : z_J X S pc L (.long x :: st) D := by
  obtain ⟨p, l, e, R, s, m, args, below, meth, co, Q, G, cy, ad⟩ := X
  obtain ⟨hx, hb, hml, hown, hts, hK, hin, ok, hR, hT⟩ := F
  intro H locs ls hP hS hl
  exact lv_l2i hx hb hd rfl (K H locs ls hP hS hl)
theorem z_ldc2 (F : z_F X S T cc own nL d) {i : Nat} (v : Int64) (hd : decode cc pc = .ok (.ldc2_w i, 3)) (hw : Cond.constantLong own i v ∈ wsL_law) (K : z_J X S (pc + 3) L (.long v :: st) D) : z_J X S pc L st D := by
  obtain ⟨p, l, e, R, s, m, args, below, meth, co, Q, G, cy, ad⟩ := X
  obtain ⟨hx, hb, hml, hown, hts, hK, hin, ok, hR, hT⟩ := F
  intro H locs ls hP hS hl
  exact lv_ldc2 hx hb hown (hts _ hw) hd (K H locs ls hP hS hl)
theorem z_lload0 (F : z_F X S T cc own nL d) {x : Int64} {r : List (Option Value)} (hd : decode cc pc = .ok (.lload_n 0, 1)) (K : z_J X S (pc + 1) (some (.long x) :: r) (.long x :: st) D) : z_J X S pc (some (.long x) :: r) st D := by
  obtain ⟨p, l, e, R, s, m, args, below, meth, co, Q, G, cy, ad⟩ := X
  obtain ⟨hx, hb, hml, hown, hts, hK, hin, ok, hR, hT⟩ := F
  intro H locs ls hP hS hl
  exact lv_lload_n hx hb hd rfl (z_lvAt hl 0 rfl) (K H locs ls hP hS hl)
theorem z_lstore0 (F : z_F X S T cc own nL d) {x : Int64} {b c0 : Option Value} {r : List (Option Value)} (hd : decode cc pc = .ok (.lstore_n 0, 1)) (K : z_J X S (pc + 1) (some (.long x) :: none :: r) st D) : z_J X S pc (b :: c0 :: r) (.long x :: st) D := by
  obtain ⟨p, l, e, R, s, m, args, below, meth, co, Q, G, cy, ad⟩ := X
  obtain ⟨hx, hb, hml, hown, hts, hK, hin, ok, hR, hT⟩ := F
  intro H locs ls hP hS hl
  exact lv_lstore_n hx hb hd rfl hl (by simp) rfl (fun ls2 hl2 => K H locs ls2 hP hS (z_lvMono hl2 (z_lvSetL ad (L := b :: c0 :: r) (i := 0) (v := .long x) z_prev0)))
end ZLL
theorem z_startIL {S : zS} {T : List (String × Nat × Nat)} {y : MethodName} {b : ByteArray} {ret : FieldType} {d : Nat} {x : Int64} {D : zD} {Post : Int32 → zD → Prop} (ok : z_ok S) (hy : plainName y.cls = true)
    (body : ∀ X : zX, z_F X S T b y.cls 2 d → z_RI X S b ret Post → z_J X S 0 [some (.long x), none] [] D) : z_CI S T y b 2 ret d [.long x] D Post := by
  intro l G cy ad hin
  refine Met.ofW (cc := b) (maxL := 2) (ret := some ret) hy rfl ?_
  intro p e s m args below meth c s₁ B hml hv
  obtain ⟨rfl, hP, hK, hT⟩ := hv
  have hts := atoms_spec (ws := .code y b 2 (some ret) :: wsL_law) B.pre
  have hown : s.vm.findClass y.cls = some m.cls := findClass_of_methodNamed B.named
  have hlocks := B.notSynchronized
  have hr := B.returns
  have K := body (p, l, e, z_rm d, s, m, ([.long x].map (z_v ad)).toArray, below, meth, c, MQ below (va_Qi Post (fun E t => z_E S G cy ad E t) (z_A S ad)) ([.long x].map (z_v ad)).toArray s 0 0 (z_A S ad), G, cy, ad)
    ⟨B.exec, B.bytes, hml, hown, fun w hw => hts w (List.mem_cons_of_mem _ hw), hK, hin, ok, rfl, hT⟩
    (fun pc L r E hd hnr hp H locs ls hP2 hS hl => by
      refine W.zret (v := r) B.exec B.bytes hr hnr (fun t ht hW => ⟨⟨r, E, rfl, hp, ?_⟩, hS.F ht⟩) hS.2.2 hd
      show va_P G vwCl (z_w S cy ad E) t.heap
      rw [ht]
      exact hP2)
  rw [lg_entry_eq]
  exact K s.heap [] _ hP va_S.rf (lv_entry [.long x] (n := 2) (Nat.le_refl 2))
set_option maxHeartbeats 1000000 in
set_option maxRecDepth 20000 in
theorem cj_bitsL (D : zD) (x : Int64) : z_CI SX zT yJ13_bitCount_95d88 cJ13_bitCount_95d88 2 .int 0 [.long x] D (z_eq (nI (p_cnt (lu x) 64)) D) := by
  refine z_startIL SX_ok (by decide +kernel) (fun X F hR => ?_)
  refine z_lload0 F dJ13_bitCount_95d88_0 ?_
  refine z_lload0 F dJ13_bitCount_95d88_1 ?_
  refine z_iconst F 1 dJ13_bitCount_95d88_2 zv_i_1 ?_
  refine z_lushr F dJ13_bitCount_95d88_3 ?_
  refine z_ldc2 F 6148914691236517205 dJ13_bitCount_95d88_4 zw_413 ?_
  refine z_land F dJ13_bitCount_95d88_7 ?_
  refine z_lsub F dJ13_bitCount_95d88_8 ?_
  refine z_lstore0 F dJ13_bitCount_95d88_9 ?_
  refine z_lload0 F dJ13_bitCount_95d88_10 ?_
  refine z_ldc2 F 3689348814741910323 dJ13_bitCount_95d88_11 zw_414 ?_
  refine z_land F dJ13_bitCount_95d88_14 ?_
  refine z_lload0 F dJ13_bitCount_95d88_15 ?_
  refine z_iconst F 2 dJ13_bitCount_95d88_16 zv_i_2 ?_
  refine z_lushr F dJ13_bitCount_95d88_17 ?_
  refine z_ldc2 F 3689348814741910323 dJ13_bitCount_95d88_18 zw_414 ?_
  refine z_land F dJ13_bitCount_95d88_21 ?_
  refine z_ladd F dJ13_bitCount_95d88_22 ?_
  refine z_lstore0 F dJ13_bitCount_95d88_23 ?_
  refine z_lload0 F dJ13_bitCount_95d88_24 ?_
  refine z_lload0 F dJ13_bitCount_95d88_25 ?_
  refine z_iconst F 4 dJ13_bitCount_95d88_26 zv_i_4 ?_
  refine z_lushr F dJ13_bitCount_95d88_27 ?_
  refine z_ladd F dJ13_bitCount_95d88_28 ?_
  refine z_ldc2 F 1085102592571150095 dJ13_bitCount_95d88_29 zw_415 ?_
  refine z_land F dJ13_bitCount_95d88_32 ?_
  refine z_lstore0 F dJ13_bitCount_95d88_33 ?_
  refine z_lload0 F dJ13_bitCount_95d88_34 ?_
  refine z_lload0 F dJ13_bitCount_95d88_35 ?_
  refine z_bipush F 8 dJ13_bitCount_95d88_36 zv_b_8 ?_
  refine z_lushr F dJ13_bitCount_95d88_38 ?_
  refine z_ladd F dJ13_bitCount_95d88_39 ?_
  refine z_lstore0 F dJ13_bitCount_95d88_40 ?_
  refine z_lload0 F dJ13_bitCount_95d88_41 ?_
  refine z_lload0 F dJ13_bitCount_95d88_42 ?_
  refine z_bipush F 16 dJ13_bitCount_95d88_43 zv_b_16 ?_
  refine z_lushr F dJ13_bitCount_95d88_45 ?_
  refine z_ladd F dJ13_bitCount_95d88_46 ?_
  refine z_lstore0 F dJ13_bitCount_95d88_47 ?_
  refine z_lload0 F dJ13_bitCount_95d88_48 ?_
  refine z_lload0 F dJ13_bitCount_95d88_49 ?_
  refine z_bipush F 32 dJ13_bitCount_95d88_50 zv_b_32 ?_
  refine z_lushr F dJ13_bitCount_95d88_52 ?_
  refine z_ladd F dJ13_bitCount_95d88_53 ?_
  refine z_lstore0 F dJ13_bitCount_95d88_54 ?_
  refine z_lload0 F dJ13_bitCount_95d88_55 ?_
  refine z_l2i F dJ13_bitCount_95d88_56 ?_
  refine z_bipush F 127 dJ13_bitCount_95d88_57 zv_b_127 ?_
  refine z_iand F dJ13_bitCount_95d88_59 ?_
  refine hR _ _ _ _ dJ13_bitCount_95d88_60 rfl ?_
  exact ⟨l_bc_n x, rfl⟩
