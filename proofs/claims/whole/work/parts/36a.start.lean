/-! FROM THE CONSTRUCTORS' WORLDS TO THE SCHEMA'S -/
def k_aX (h : Nat) (g f1 f2 f3 sa sv : Nat → Nat) (fr : Nat) (k : Nat) : Nat :=
  if k = 0 then h else if k < 4 then g k else if k = 4 then f1 0 else if k = 5 then f2 0 else if k = 6 then f3 0 else if k = 7 then f1 1 else if k = 8 then f2 1 else if k = 9 then f3 1 else if k < 20 then f1 (k - 8) else if k < 30 then f2 (k - 18) else if k < 40 then f3 (k - 28) else if k < 1000 then g k else if k < 2000 then sa (k - 1000) else if k < 3000 then sv (k - 2000) else fr
def k_aM (h : Nat) (g sa sv : Nat → Nat) (fr : Nat) (k : Nat) : Nat :=
  if k = 0 then h else if k < 1000 then g k else if k < 2000 then sa (k - 1000) else if k < 3000 then sv (k - 2000) else fr
def k_D0 : zD := (fun r => if 1 ≤ r ∧ r ≤ 3 then n_ini else fun _ => 0, fun _ => 0)
def k_E0 : zD := (fun r => if r = 1 then n_ini else if r = 5 then (fun j => ([0, 1, 1, 0, 1, 0, 0] : List Int32).getD j 0) else if r = 6 then (fun j => ([6, 40, 50, 240, 0, 9, 7] : List Int32).getD j 0) else if r = 10 then (fun j => ([0, 1, 2, 5, 3, 4, 6] : List Int32).getD j 0) else fun _ => 0, fun _ => 0)
def k_pX : List Nat := [0, 5, 18, 31, 6, 19, 32, 7, 20, 33, 8, 9, 10, 11, 12, 13, 14, 15, 16, 17, 21, 22, 23, 24, 25, 26, 27, 28, 29, 30, 34, 35, 36, 37, 38, 39, 40, 41, 42, 43, 44, 45, 1, 46, 48, 50, 52, 47, 49, 51, 53, 2, 3, 4]
def k_pM : List Nat := [0, 1, 3, 2, 4, 5, 6, 7, 8, 9, 10, 11, 12, 13, 14, 15]
theorem k_pX_in : ∀ i, i < 54 → ∀ j, j < 54 → k_pX.getD i 0 = k_pX.getD j 0 → i = j := by decide +kernel
theorem k_pM_in : ∀ i, i < 16 → ∀ j, j < 16 → k_pM.getD i 0 = k_pM.getD j 0 → i = j := by decide +kernel
section CV
variable {G : va_G} {cy : Nat → ClassId} {h fr : Nat} {g f1 f2 f3 sa sv : Nat → Nat} {H : Heap}
theorem k_Xat : ∀ k, k < 54 → ∃ e, (n_phW cy h g f1 f2 f3)[k_pX.getD k 0]? = some (k_aX h g f1 f2 f3 sa sv fr k, e)
  | 0, _ => ⟨_, rfl⟩
  | 1, _ => ⟨_, rfl⟩
  | 2, _ => ⟨_, rfl⟩
  | 3, _ => ⟨_, rfl⟩
  | 4, _ => ⟨_, rfl⟩
  | 5, _ => ⟨_, rfl⟩
  | 6, _ => ⟨_, rfl⟩
  | 7, _ => ⟨_, rfl⟩
  | 8, _ => ⟨_, rfl⟩
  | 9, _ => ⟨_, rfl⟩
  | 10, _ => ⟨_, rfl⟩
  | 11, _ => ⟨_, rfl⟩
  | 12, _ => ⟨_, rfl⟩
  | 13, _ => ⟨_, rfl⟩
  | 14, _ => ⟨_, rfl⟩
  | 15, _ => ⟨_, rfl⟩
  | 16, _ => ⟨_, rfl⟩
  | 17, _ => ⟨_, rfl⟩
  | 18, _ => ⟨_, rfl⟩
  | 19, _ => ⟨_, rfl⟩
  | 20, _ => ⟨_, rfl⟩
  | 21, _ => ⟨_, rfl⟩
  | 22, _ => ⟨_, rfl⟩
  | 23, _ => ⟨_, rfl⟩
  | 24, _ => ⟨_, rfl⟩
  | 25, _ => ⟨_, rfl⟩
  | 26, _ => ⟨_, rfl⟩
  | 27, _ => ⟨_, rfl⟩
  | 28, _ => ⟨_, rfl⟩
  | 29, _ => ⟨_, rfl⟩
  | 30, _ => ⟨_, rfl⟩
  | 31, _ => ⟨_, rfl⟩
  | 32, _ => ⟨_, rfl⟩
  | 33, _ => ⟨_, rfl⟩
  | 34, _ => ⟨_, rfl⟩
  | 35, _ => ⟨_, rfl⟩
  | 36, _ => ⟨_, rfl⟩
  | 37, _ => ⟨_, rfl⟩
  | 38, _ => ⟨_, rfl⟩
  | 39, _ => ⟨_, rfl⟩
  | 40, _ => ⟨_, rfl⟩
  | 41, _ => ⟨_, rfl⟩
  | 42, _ => ⟨_, rfl⟩
  | 43, _ => ⟨_, rfl⟩
  | 44, _ => ⟨_, rfl⟩
  | 45, _ => ⟨_, rfl⟩
  | 46, _ => ⟨_, rfl⟩
  | 47, _ => ⟨_, rfl⟩
  | 48, _ => ⟨_, rfl⟩
  | 49, _ => ⟨_, rfl⟩
  | 50, _ => ⟨_, rfl⟩
  | 51, _ => ⟨_, rfl⟩
  | 52, _ => ⟨_, rfl⟩
  | 53, _ => ⟨_, rfl⟩
  | n + 54, z => absurd z (by omega)
theorem k_Mat : ∀ k, k < 16 → ∃ e, (n_moW sa cy h g)[k_pM.getD k 0]? = some (k_aM h g sa sv fr k, e)
  | 0, _ => ⟨_, rfl⟩
  | 1, _ => ⟨_, rfl⟩
  | 2, _ => ⟨_, rfl⟩
  | 3, _ => ⟨_, rfl⟩
  | 4, _ => ⟨_, rfl⟩
  | 5, _ => ⟨_, rfl⟩
  | 6, _ => ⟨_, rfl⟩
  | 7, _ => ⟨_, rfl⟩
  | 8, _ => ⟨_, rfl⟩
  | 9, _ => ⟨_, rfl⟩
  | 10, _ => ⟨_, rfl⟩
  | 11, _ => ⟨_, rfl⟩
  | 12, _ => ⟨_, rfl⟩
  | 13, _ => ⟨_, rfl⟩
  | 14, _ => ⟨_, rfl⟩
  | 15, _ => ⟨_, rfl⟩
  | n + 16, z => absurd z (by omega)
theorem k_Xcv (hP : va_P G vwCl (n_phW cy h g f1 f2 f3) H) : ∀ k, k < 54 → va_at G vwCl (k_aX h g f1 f2 f3 sa sv fr k, z_cel SX cy (k_aX h g f1 f2 f3 sa sv fr) k_D0 k) H
  | 0, _ => (n_Pm.mp hP _ (List.mem_of_getElem? (i := 0) rfl))
  | 1, _ => (n_Pm.mp hP _ (List.mem_of_getElem? (i := 5) rfl))
  | 2, _ => (n_Pm.mp hP _ (List.mem_of_getElem? (i := 18) rfl))
  | 3, _ => (n_Pm.mp hP _ (List.mem_of_getElem? (i := 31) rfl))
  | 4, _ => n_at_q (f := fun j => some (f1 (2 + j))) (fun j hj => by
      have hj : j < 10 := hj
      rcases (show j = 0 ∨ j = 1 ∨ j = 2 ∨ j = 3 ∨ j = 4 ∨ j = 5 ∨ j = 6 ∨ j = 7 ∨ j = 8 ∨ j = 9 by omega) with rfl | rfl | rfl | rfl | rfl | rfl | rfl | rfl | rfl | rfl <;> rfl) (n_Pm.mp hP _ (List.mem_of_getElem? (i := 6) rfl))
  | 5, _ => n_at_q (f := fun j => some (f2 (2 + j))) (fun j hj => by
      have hj : j < 10 := hj
      rcases (show j = 0 ∨ j = 1 ∨ j = 2 ∨ j = 3 ∨ j = 4 ∨ j = 5 ∨ j = 6 ∨ j = 7 ∨ j = 8 ∨ j = 9 by omega) with rfl | rfl | rfl | rfl | rfl | rfl | rfl | rfl | rfl | rfl <;> rfl) (n_Pm.mp hP _ (List.mem_of_getElem? (i := 19) rfl))
  | 6, _ => n_at_q (f := fun j => some (f3 (2 + j))) (fun j hj => by
      have hj : j < 10 := hj
      rcases (show j = 0 ∨ j = 1 ∨ j = 2 ∨ j = 3 ∨ j = 4 ∨ j = 5 ∨ j = 6 ∨ j = 7 ∨ j = 8 ∨ j = 9 by omega) with rfl | rfl | rfl | rfl | rfl | rfl | rfl | rfl | rfl | rfl <;> rfl) (n_Pm.mp hP _ (List.mem_of_getElem? (i := 32) rfl))
  | 7, _ => n_at_i (f := fun _ => -1) (by decide +kernel) (n_Pm.mp hP _ (List.mem_of_getElem? (i := 7) rfl))
  | 8, _ => n_at_i (f := fun _ => -1) (by decide +kernel) (n_Pm.mp hP _ (List.mem_of_getElem? (i := 20) rfl))
  | 9, _ => n_at_i (f := fun _ => -1) (by decide +kernel) (n_Pm.mp hP _ (List.mem_of_getElem? (i := 33) rfl))
  | 10, _ => (n_Pm.mp hP _ (List.mem_of_getElem? (i := 8) rfl))
  | 11, _ => (n_Pm.mp hP _ (List.mem_of_getElem? (i := 9) rfl))
  | 12, _ => (n_Pm.mp hP _ (List.mem_of_getElem? (i := 10) rfl))
  | 13, _ => (n_Pm.mp hP _ (List.mem_of_getElem? (i := 11) rfl))
  | 14, _ => (n_Pm.mp hP _ (List.mem_of_getElem? (i := 12) rfl))
  | 15, _ => (n_Pm.mp hP _ (List.mem_of_getElem? (i := 13) rfl))
  | 16, _ => (n_Pm.mp hP _ (List.mem_of_getElem? (i := 14) rfl))
  | 17, _ => (n_Pm.mp hP _ (List.mem_of_getElem? (i := 15) rfl))
  | 18, _ => (n_Pm.mp hP _ (List.mem_of_getElem? (i := 16) rfl))
  | 19, _ => (n_Pm.mp hP _ (List.mem_of_getElem? (i := 17) rfl))
  | 20, _ => (n_Pm.mp hP _ (List.mem_of_getElem? (i := 21) rfl))
  | 21, _ => (n_Pm.mp hP _ (List.mem_of_getElem? (i := 22) rfl))
  | 22, _ => (n_Pm.mp hP _ (List.mem_of_getElem? (i := 23) rfl))
  | 23, _ => (n_Pm.mp hP _ (List.mem_of_getElem? (i := 24) rfl))
  | 24, _ => (n_Pm.mp hP _ (List.mem_of_getElem? (i := 25) rfl))
  | 25, _ => (n_Pm.mp hP _ (List.mem_of_getElem? (i := 26) rfl))
  | 26, _ => (n_Pm.mp hP _ (List.mem_of_getElem? (i := 27) rfl))
  | 27, _ => (n_Pm.mp hP _ (List.mem_of_getElem? (i := 28) rfl))
  | 28, _ => (n_Pm.mp hP _ (List.mem_of_getElem? (i := 29) rfl))
  | 29, _ => (n_Pm.mp hP _ (List.mem_of_getElem? (i := 30) rfl))
  | 30, _ => (n_Pm.mp hP _ (List.mem_of_getElem? (i := 34) rfl))
  | 31, _ => (n_Pm.mp hP _ (List.mem_of_getElem? (i := 35) rfl))
  | 32, _ => (n_Pm.mp hP _ (List.mem_of_getElem? (i := 36) rfl))
  | 33, _ => (n_Pm.mp hP _ (List.mem_of_getElem? (i := 37) rfl))
  | 34, _ => (n_Pm.mp hP _ (List.mem_of_getElem? (i := 38) rfl))
  | 35, _ => (n_Pm.mp hP _ (List.mem_of_getElem? (i := 39) rfl))
  | 36, _ => (n_Pm.mp hP _ (List.mem_of_getElem? (i := 40) rfl))
  | 37, _ => (n_Pm.mp hP _ (List.mem_of_getElem? (i := 41) rfl))
  | 38, _ => (n_Pm.mp hP _ (List.mem_of_getElem? (i := 42) rfl))
  | 39, _ => (n_Pm.mp hP _ (List.mem_of_getElem? (i := 43) rfl))
  | 40, _ => (n_Pm.mp hP _ (List.mem_of_getElem? (i := 44) rfl))
  | 41, _ => n_at_i (f := fun _ => 0) (by decide +kernel) (n_Pm.mp hP _ (List.mem_of_getElem? (i := 45) rfl))
  | 42, _ => n_at_q (f := fun j => some (g (43 + j))) (fun j hj => by
      have hj : j < 4 := hj
      rcases (show j = 0 ∨ j = 1 ∨ j = 2 ∨ j = 3 by omega) with rfl | rfl | rfl | rfl <;> rfl) (n_Pm.mp hP _ (List.mem_of_getElem? (i := 1) rfl))
  | 43, _ => (n_Pm.mp hP _ (List.mem_of_getElem? (i := 46) rfl))
  | 44, _ => (n_Pm.mp hP _ (List.mem_of_getElem? (i := 48) rfl))
  | 45, _ => (n_Pm.mp hP _ (List.mem_of_getElem? (i := 50) rfl))
  | 46, _ => (n_Pm.mp hP _ (List.mem_of_getElem? (i := 52) rfl))
  | 47, _ => n_at_i (f := fun _ => 0) (by decide +kernel) (n_Pm.mp hP _ (List.mem_of_getElem? (i := 47) rfl))
  | 48, _ => n_at_i (f := fun _ => 0) (by decide +kernel) (n_Pm.mp hP _ (List.mem_of_getElem? (i := 49) rfl))
  | 49, _ => n_at_i (f := fun _ => 0) (by decide +kernel) (n_Pm.mp hP _ (List.mem_of_getElem? (i := 51) rfl))
  | 50, _ => n_at_i (f := fun _ => 0) (by decide +kernel) (n_Pm.mp hP _ (List.mem_of_getElem? (i := 53) rfl))
  | 51, _ => n_at_i (f := fun _ => 0) (by decide +kernel) (n_Pm.mp hP _ (List.mem_of_getElem? (i := 2) rfl))
  | 52, _ => (n_Pm.mp hP _ (List.mem_of_getElem? (i := 3) rfl))
  | 53, _ => n_at_i (f := fun _ => 0) (by decide +kernel) (n_Pm.mp hP _ (List.mem_of_getElem? (i := 4) rfl))
  | n + 54, z => absurd z (by omega)
theorem k_Mcv (hP : va_P G vwCl (n_moW sa cy h g) H) : ∀ k, k < 16 → va_at G vwCl (k_aM h g sa sv fr k, z_cel SM cy (k_aM h g sa sv fr) k_E0 k) H
  | 0, _ => (n_Pm.mp hP _ (List.mem_of_getElem? (i := 0) rfl))
  | 1, _ => n_at_i (f := n_ini) (fun j hj => (if_pos hj).symm) (n_Pm.mp hP _ (List.mem_of_getElem? (i := 1) rfl))
  | 2, _ => n_at_i (f := fun _ => 0) (fun j hj => (if_pos hj).symm) (n_Pm.mp hP _ (List.mem_of_getElem? (i := 3) rfl))
  | 3, _ => n_at_i (f := fun _ => 0) (fun j hj => (if_pos hj).symm) (n_Pm.mp hP _ (List.mem_of_getElem? (i := 2) rfl))
  | 4, _ => n_at_i (f := fun _ => 0) (fun j hj => (if_pos hj).symm) (n_Pm.mp hP _ (List.mem_of_getElem? (i := 4) rfl))
  | 5, _ => n_at_i (f := (fun j => ([0, 1, 1, 0, 1, 0, 0] : List Int32).getD j 0)) (fun j hj => (if_pos hj).symm) (n_Pm.mp hP _ (List.mem_of_getElem? (i := 5) rfl))
  | 6, _ => n_at_i (f := (fun j => ([6, 40, 50, 240, 0, 9, 7] : List Int32).getD j 0)) (fun j hj => (if_pos hj).symm) (n_Pm.mp hP _ (List.mem_of_getElem? (i := 6) rfl))
  | 7, _ => n_at_i (f := fun _ => 0) (fun j hj => (if_pos hj).symm) (n_Pm.mp hP _ (List.mem_of_getElem? (i := 7) rfl))
  | 8, _ => n_at_i (f := fun _ => 0) (fun j hj => (if_pos hj).symm) (n_Pm.mp hP _ (List.mem_of_getElem? (i := 8) rfl))
  | 9, _ => n_at_q (f := fun j => some (sa (([3, 4, 5, 8, 6, 7, 9] : List Nat).getD j 0))) (fun j hj => by
      have hj : j < 7 := hj
      rcases (show j = 0 ∨ j = 1 ∨ j = 2 ∨ j = 3 ∨ j = 4 ∨ j = 5 ∨ j = 6 by omega) with rfl | rfl | rfl | rfl | rfl | rfl | rfl <;> rfl) (n_Pm.mp hP _ (List.mem_of_getElem? (i := 9) rfl))
  | 10, _ => n_at_i (f := (fun j => ([0, 1, 2, 5, 3, 4, 6] : List Int32).getD j 0)) (fun j hj => (if_pos hj).symm) (n_Pm.mp hP _ (List.mem_of_getElem? (i := 10) rfl))
  | 11, _ => n_at_i (f := fun _ => 0) (fun j hj => (if_pos hj).symm) (n_Pm.mp hP _ (List.mem_of_getElem? (i := 11) rfl))
  | 12, _ => n_at_i (f := fun _ => 0) (fun j hj => (if_pos hj).symm) (n_Pm.mp hP _ (List.mem_of_getElem? (i := 12) rfl))
  | 13, _ => n_at_i (f := fun _ => 0) (fun j hj => (if_pos hj).symm) (n_Pm.mp hP _ (List.mem_of_getElem? (i := 13) rfl))
  | 14, _ => n_at_i (f := fun _ => 0) (fun j hj => (if_pos hj).symm) (n_Pm.mp hP _ (List.mem_of_getElem? (i := 14) rfl))
  | 15, _ => n_at_i (f := fun _ => 0) (fun j hj => (if_pos hj).symm) (n_Pm.mp hP _ (List.mem_of_getElem? (i := 15) rfl))
  | n + 16, z => absurd z (by omega)
theorem k_Xw (hP : va_P G vwCl (n_phW cy h g f1 f2 f3) H) : va_P G vwCl (z_w SX cy (k_aX h g f1 f2 f3 sa sv fr) k_D0) H := by
  refine n_Pm.mpr (fun q hq => ?_)
  obtain ⟨k, hk, rfl⟩ := List.mem_map.mp hq
  exact k_Xcv hP k (List.mem_range.mp hk)
theorem k_Mw (hP : va_P G vwCl (n_moW sa cy h g) H) : va_P G vwCl (z_w SM cy (k_aM h g sa sv fr) k_E0) H := by
  refine n_Pm.mpr (fun q hq => ?_)
  obtain ⟨k, hk, rfl⟩ := List.mem_map.mp hq
  exact k_Mcv hP k (List.mem_range.mp hk)
theorem k_Xin {A : Nat → Prop} (hD : va_D A (n_phW cy h g f1 f2 f3)) : z_in SX (k_aX h g f1 f2 f3 sa sv fr) := by
  intro i j hi hj e
  obtain ⟨e1, q1⟩ := k_Xat (cy := cy) (h := h) (g := g) (f1 := f1) (f2 := f2) (f3 := f3) (sa := sa) (sv := sv) (fr := fr) i hi
  obtain ⟨e2, q2⟩ := k_Xat (cy := cy) (h := h) (g := g) (f1 := f1) (f2 := f2) (f3 := f3) (sa := sa) (sv := sv) (fr := fr) j hj
  exact k_pX_in i hi j hj (hD.1 _ _ _ _ q1 q2 e)
theorem k_Min {A : Nat → Prop} (hD : va_D A (n_moW sa cy h g)) : z_in SM (k_aM h g sa sv fr) := by
  intro i j hi hj e
  obtain ⟨e1, q1⟩ := k_Mat (cy := cy) (h := h) (g := g) (sa := sa) (sv := sv) (fr := fr) i hi
  obtain ⟨e2, q2⟩ := k_Mat (cy := cy) (h := h) (g := g) (sa := sa) (sv := sv) (fr := fr) j hj
  exact k_pM_in i hi j hj (hD.1 _ _ _ _ q1 q2 e)
theorem k_XA {A : Nat → Prop} (hD : va_D A (n_phW cy h g f1 f2 f3)) : ∀ q, z_A SX (k_aX h g f1 f2 f3 sa sv fr) q → A q := by
  rintro q ⟨k, hk, rfl⟩
  obtain ⟨e1, q1⟩ := k_Xat (cy := cy) (h := h) (g := g) (f1 := f1) (f2 := f2) (f3 := f3) (sa := sa) (sv := sv) (fr := fr) k hk
  exact hD.2 _ _ q1
theorem k_MA {A : Nat → Prop} (hD : va_D A (n_moW sa cy h g)) : ∀ q, z_A SM (k_aM h g sa sv fr) q → A q := by
  rintro q ⟨k, hk, rfl⟩
  obtain ⟨e1, q1⟩ := k_Mat (cy := cy) (h := h) (g := g) (sa := sa) (sv := sv) (fr := fr) k hk
  exact hD.2 _ _ q1
theorem k_XM {A : Nat → Prop} {h2 : Nat} {g2 : Nat → Nat} (hD : va_D A (n_phW cy h g f1 f2 f3 ++ n_moW sa cy h2 g2)) : ∀ q, z_A SX (k_aX h g f1 f2 f3 sa sv fr) q → ¬ z_A SM (k_aM h2 g2 sa sv fr) q := by
  rintro q ⟨k, hk, rfl⟩ ⟨k2, hk2, e⟩
  obtain ⟨e1, q1⟩ := k_Xat (cy := cy) (h := h) (g := g) (f1 := f1) (f2 := f2) (f3 := f3) (sa := sa) (sv := sv) (fr := fr) k hk
  obtain ⟨e2, q2⟩ := k_Mat (cy := cy) (h := h2) (g := g2) (sa := sa) (sv := sv) (fr := fr) k2 hk2
  exact (n_Dl hD).2.2 _ _ _ _ q1 q2 e
end CV
theorem v_Inv0 : v_Inv k_D0 k_E0 := by
  refine ⟨⟨0, by decide, rfl, fun i hi => rfl, ⟨0, by decide, rfl⟩, ⟨10, by decide, rfl⟩, by decide, by decide, fun s hs => Or.inl ?_, fun c hc => absurd hc (by omega), fun c hc => absurd hc (by omega)⟩, ⟨0, by decide, rfl⟩, Or.inl rfl, rfl, ⟨0, by decide, rfl, rfl, fun j hj => absurd hj (by omega)⟩, rfl, rfl, rfl, rfl, fun s hs => ⟨0, by decide, rfl⟩, fun k hk => rfl, rfl, fun k hk => rfl, fun k hk => rfl, fun k hk => rfl⟩
  show n_ini (6 + s) = -1
  unfold n_ini
  rw [if_neg (by omega), if_neg (by omega), if_neg (by omega), if_pos (by omega)]
