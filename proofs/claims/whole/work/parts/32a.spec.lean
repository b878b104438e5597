
/-! THE POCKET ALONE: steps without the lining's part -/
def s_goPs (σ : Nat → Int32) (N : Nat) : Nat → Nat → Int32
  | 0 => σ
  | n + 1 => s_goP (s_goPs σ N n) N
/-- rows alike in STEP, HOLE and the coins in the pocket -/
def pq (N : Nat) (σ τ : Nat → Int32) : Prop := σ 0 = τ 0 ∧ σ 1 = τ 1 ∧ ∀ c, c < N → ((σ (16 + 8 * c + 4) = 0 ↔ τ (16 + 8 * c + 4) = 0) ∧ (σ (16 + 8 * c + 4) = 0 → ∀ f, f < 8 → σ (16 + 8 * c + f) = τ (16 + 8 * c + f)))
theorem pq_r (N : Nat) (σ : Nat → Int32) : pq N σ σ := ⟨rfl, rfl, fun c _ => ⟨Iff.rfl, fun _ f _ => rfl⟩⟩
theorem pq_u {N : Nat} {σ τ : Nat → Int32} (x : Nat) (v : Int32) (hv : ∀ c, c < N → x = 16 + 8 * c + 4 → v ≠ 0) (h : pq N σ τ) : pq N (upd σ x v) (upd τ x v) := by
  obtain ⟨h0, h1, h2⟩ := h
  refine ⟨?_, ?_, fun c hc => ?_⟩
  · unfold upd; split
    · rfl
    · exact h0
  · unfold upd; split
    · rfl
    · exact h1
  · by_cases e : x = 16 + 8 * c + 4
    · have hne := hv c hc e
      subst e
      rw [u_eq, u_eq]
      exact ⟨Iff.rfl, fun z => absurd z hne⟩
    · rw [u_ne _ _ (Ne.symm e), u_ne _ _ (Ne.symm e)]
      refine ⟨(h2 c hc).1, fun z f hf => ?_⟩
      unfold upd
      split
      · rfl
      · exact (h2 c hc).2 z f hf
theorem pq_inP {N : Nat} {σ τ : Nat → Int32} (h : pq N σ τ) {c : Nat} (hc : c < N) (hz : σ (16 + 8 * c + 4) = 0) : pq N (s_inP σ c) (s_inP τ c) := by
  have hf := (h.2.2 c hc).2 hz
  have et : s_thick σ c = s_thick τ c := by unfold s_thick; rw [hf 0 (by decide), hf 1 (by decide)]
  have eg : s_goes σ c = s_goes τ c := by unfold s_goes; rw [hf 0 (by decide)]
  have ew : s_wears σ c = s_wears τ c := by unfold s_wears s_plain; rw [hf 0 (by decide), et, h.2.1]
  have en : s_near σ c = s_near τ c := by unfold s_near; rw [hf 5 (by decide), eg]
  unfold s_inP
  rw [en, et, ew, h.1, h.2.1, hf 0 (by decide)]
  split
  · exact pq_u _ _ (fun d _ e => absurd e (by omega)) h
  · split
    · exact pq_u _ _ (fun d _ e => absurd e (by omega)) (pq_u _ _ (fun d _ e => absurd e (by omega)) (pq_u _ _ (fun _ _ _ => by decide) (pq_u _ _ (fun d _ e => absurd e (by omega)) h)))
    · split
      · exact pq_u _ _ (fun d _ e => absurd e (by omega)) (pq_u _ _ (fun d _ e => absurd e (by omega)) h)
      · exact pq_u _ _ (fun d _ e => absurd e (by omega)) h
theorem pq_pk {N : Nat} {σ τ : Nat → Int32} (h : pq N σ τ) : ∀ n, n ≤ N → pq N (s_pk σ n) (s_pk τ n)
  | 0, _ => h
  | n + 1, hn => by
    have ih := pq_pk h n (by omega)
    have hi := (ih.2.2 n (by omega)).1
    rw [s_pk, s_pk]
    by_cases z : s_pk σ n (16 + 8 * n + 4) = 0
    · rw [if_pos z, if_pos (hi.mp z)]
      exact pq_inP ih (by omega) z
    · rw [if_neg z, if_neg (fun q => z (hi.mpr q))]
      exact ih
theorem pq_ln {N : Nat} {σ τ : Nat → Int32} (h : pq N σ τ) (set st : Int32) (hs : ∀ c, c < N → s_has set c = true → σ (16 + 8 * c + 4) ≠ 0) : ∀ n, n ≤ N → pq N (s_ln σ N set st n) τ
  | 0, _ => h
  | n + 1, hn => by
    have ih := pq_ln h set st hs n (by omega)
    rw [s_ln]
    split
    · next g =>
      have e4 : s_ln σ N set st n (16 + 8 * n + 4) ≠ 0 := by
        rw [s_ln_ah σ N set st (by decide) n (Nat.le_refl n)]
        exact hs n (by omega) g
      have e4' : s_inL (s_ln σ N set st n) N n st (16 + 8 * n + 4) ≠ 0 := by
        unfold s_inL
        split
        · rw [u_ne _ _ (by omega), u_eq]; decide
        · rw [u_ne _ _ (by omega)]; exact e4
      refine ⟨?_, ?_, fun c hc => ?_⟩
      · rw [s_inL_lo _ _ _ _ (by decide)]; exact ih.1
      · rw [s_inL_lo _ _ _ _ (by decide)]; exact ih.2.1
      · by_cases e : c = n
        · subst e
          have ht : τ (16 + 8 * c + 4) ≠ 0 := fun z => e4 ((ih.2.2 c hc).1.mpr z)
          exact ⟨⟨fun z => absurd z e4', fun z => absurd z ht⟩, fun z => absurd z e4'⟩
        · rw [s_inL_ot _ _ _ (by omega)]
          refine ⟨(ih.2.2 c hc).1, fun z f hf => ?_⟩
          rw [s_inL_ot _ _ _ (by omega)]
          exact (ih.2.2 c hc).2 z f hf
    · exact ih
theorem pq_step {N : Nat} {σ τ : Nat → Int32} (h10 : N ≤ 10) (h : pq N σ τ) : pq N (s_step σ N) (s_goP τ N) := by
  unfold s_step s_goP
  rw [h.1]
  refine pq_u _ _ (fun d _ e => absurd e (by omega)) (pq_ln (pq_pk h N (Nat.le_refl _)) _ _ (fun c hc g => ?_) N (Nat.le_refl _))
  rw [s_has_lie σ 1 h10 (by omega), Bool.and_eq_true, decide_eq_true_eq, decide_eq_true_eq] at g
  rw [s_pk_out σ (by decide) (by rw [g.2]; decide), g.2]
  decide
theorem pq_steps {N : Nat} {σ τ : Nat → Int32} (h10 : N ≤ 10) (h : pq N σ τ) : ∀ n, pq N (s_steps σ N n) (s_goPs τ N n)
  | 0 => h
  | n + 1 => pq_step h10 (pq_steps h10 h n)
theorem s_lie_pq {N : Nat} {σ τ : Nat → Int32} (h : pq N σ τ) : ∀ n, n ≤ N → s_lie σ 0 n = s_lie τ 0 n
  | 0, _ => rfl
  | n + 1, hn => by
    rw [s_lie, s_lie, s_lie_pq h n (by omega)]
    by_cases z : σ (16 + 8 * n + 4) = 0
    · rw [if_pos z, if_pos ((h.2.2 n (by omega)).1.mp z)]
    · rw [if_neg z, if_neg (fun q => z ((h.2.2 n (by omega)).1.mpr q))]
/-- who is in the pocket doesn't hang on the lining -/
theorem s_lie_go (σ : Nat → Int32) {N : Nat} (h10 : N ≤ 10) (n : Nat) : s_lie (s_goPs σ N n) 0 N = s_lie (s_steps σ N n) 0 N := (s_lie_pq (pq_steps h10 (pq_r N σ) n) N (Nat.le_refl _)).symm
theorem s_in_go (σ : Nat → Int32) {N c : Nat} (h10 : N ≤ 10) (hc : c < N) (n : Nat) : s_goPs σ N n (16 + 8 * c + 4) = 0 ↔ s_steps σ N n (16 + 8 * c + 4) = 0 := ((pq_steps h10 (pq_r N σ) n).2.2 c hc).1.symm
theorem s_inP_no {σ : Nat → Int32} {c : Nat} (h : s_stir σ c = false) : s_inP σ c = σ := by
  unfold s_stir at h
  unfold s_inP
  by_cases a : s_near σ c < 3
  · rw [if_pos a] at h ⊢
    have e : s_near σ c = σ (16 + 8 * c + 5) := by
      by_cases q : s_near σ c = σ (16 + 8 * c + 5)
      · exact q
      · rw [s_nr, decide_eq_true q] at h; cases h
    rw [e, u_self]
  · rw [if_neg a] at h ⊢
    by_cases b : s_thick σ c ≤ σ 1
    · rw [if_pos b] at h; cases h
    · rw [if_neg b] at h ⊢
      by_cases d : σ (16 + 8 * c + 0) = 4
      · rw [if_pos d] at h; cases h
      · rw [if_neg d] at h
        rw [if_neg (fun z => d z.1)]
        have e : s_near σ c = σ (16 + 8 * c + 5) := by
          by_cases q : s_near σ c = σ (16 + 8 * c + 5)
          · exact q
          · rw [s_nr, decide_eq_true q] at h; cases h
        rw [e, u_self]
theorem s_stirs_1 {σ : Nat → Int32} {n : Nat} (h : s_stirs σ (n + 1) = false) : s_stirs σ n = false ∧ (s_pk σ n (16 + 8 * n + 4) = 0 → s_stir (s_pk σ n) n = false) := by
  rw [s_stirs, Bool.or_eq_false_iff] at h
  refine ⟨h.1, fun z => ?_⟩
  have := h.2
  rw [decide_eq_true z, Bool.true_and] at this
  exact this
/-- nothing stirs: nothing changes in the pocket -/
theorem s_pk_no {σ : Nat → Int32} : ∀ n, s_stirs σ n = false → s_pk σ n = σ
  | 0, _ => rfl
  | n + 1, h => by
    have h1 := s_stirs_1 h
    have ih := s_pk_no n h1.1
    rw [s_pk]
    split
    · next z => rw [s_inP_no (h1.2 z), ih]
    · exact ih
theorem s_stir_0 (σ : Nat → Int32) (c : Nat) (x : Int32) : s_stir (upd σ 0 x) c = s_stir σ c := by
  have en : s_near (upd σ 0 x) c = s_near σ c := by unfold s_near; rw [s_goes_u _ _ (by omega), u_ne _ _ (by omega)]
  unfold s_stir s_nr
  rw [en, s_thick_u _ _ (by omega) (by omega), u_ne _ _ (by omega), u_ne _ _ (by omega), u_ne _ _ (by omega)]
theorem s_stirs_0 {σ : Nat → Int32} (x : Int32) : ∀ n, s_stirs σ n = false → s_stirs (upd σ 0 x) n = false
  | 0, _ => rfl
  | n + 1, h => by
    have h1 := s_stirs_1 h
    have ih := s_stirs_0 x n h1.1
    have e1 := s_pk_no n h1.1
    have e2 := s_pk_no n ih
    rw [s_stirs, ih, e2, Bool.false_or, u_ne _ _ (by omega), s_stir_0]
    rw [s_stirs, h1.1, e1, Bool.false_or] at h
    exact h
theorem s_goPs_no {σ : Nat → Int32} {N : Nat} (h : s_stirs σ N = false) : ∀ n, ∃ x, s_goPs σ N n = upd σ 0 x
  | 0 => ⟨σ 0, (u_self σ 0).symm⟩
  | n + 1 => by
    obtain ⟨x, e⟩ := s_goPs_no h n
    refine ⟨upd σ 0 x 0 + 1, ?_⟩
    rw [s_goPs, e, s_goP, s_pk_no N (s_stirs_0 x N h), u_u]
theorem s_goPs_add (σ : Nat → Int32) (N i : Nat) : ∀ j, s_goPs σ N (i + j) = s_goPs (s_goPs σ N i) N j
  | 0 => rfl
  | j + 1 => by
    show s_goP (s_goPs σ N (i + j)) N = s_goP (s_goPs (s_goPs σ N i) N j) N
    rw [s_goPs_add σ N i j]
/-- once nothing stirs, the coins stay as they are -/
theorem s_goPs_fix {σ : Nat → Int32} {N i : Nat} (h : s_stirs (s_goPs σ N i) N = false) {n : Nat} (hn : i ≤ n) {k : Nat} (hk : 16 ≤ k) : s_goPs σ N n k = s_goPs σ N i k := by
  obtain ⟨x, e⟩ := s_goPs_no h (n - i)
  have : s_goPs σ N n = upd (s_goPs σ N i) 0 x := by
    rw [← e, ← s_goPs_add, show i + (n - i) = n by omega]
  rw [this, u_ne _ _ (by omega)]
theorem s_lie_c {σ τ : Nat → Int32} (pl : Int32) (h : ∀ k, 16 ≤ k → σ k = τ k) : ∀ n, s_lie σ pl n = s_lie τ pl n
  | 0 => rfl
  | n + 1 => by rw [s_lie, s_lie, s_lie_c pl h n, h _ (by omega)]
theorem s_lie_fix {σ : Nat → Int32} {N i : Nat} (h : s_stirs (s_goPs σ N i) N = false) {n : Nat} (hn : i ≤ n) (pl : Int32) : s_lie (s_goPs σ N n) pl N = s_lie (s_goPs σ N i) pl N := s_lie_c pl (fun _ hk => s_goPs_fix h hn hk) N
theorem s_goP_lo (σ : Nat → Int32) (N : Nat) {i : Nat} (h : i < 16) (h1 : i ≠ 1) (h0 : i ≠ 0) : s_goP σ N i = σ i := by
  unfold s_goP
  rw [u_ne _ _ h0, s_pk_lo _ h h1]
theorem s_goPs_lo (σ : Nat → Int32) (N : Nat) {i : Nat} (h : i < 16) (h1 : i ≠ 1) (h0 : i ≠ 0) : ∀ n, s_goPs σ N n i = σ i
  | 0 => rfl
  | n + 1 => by rw [s_goPs, s_goP_lo _ _ h h1 h0, s_goPs_lo σ N h h1 h0 n]
theorem s_goPs_ag {N : Nat} {σ τ : Nat → Int32} (h : ag N σ τ) : ∀ n, ag N (s_goPs σ N n) (s_goPs τ N n)
  | 0 => h
  | n + 1 => s_goP_ag (s_goPs_ag h n)
