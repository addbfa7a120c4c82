/-! PURE PART. one line looked at -/
section ST
variable {US MY LS LL JS JL : Nat → Int32} {N s i z : Nat} {M : Nat → Nat} {c y b : Nat → Nat}
def slk (M : Nat → Nat) (c y b : Nat → Nat) (k : Nat) : Nat := st (M (c k)) (y k) (b k)
def AllNot (M : Nat → Nat) (z : Nat) (c y b : Nat → Nat) : Prop := ∀ k, k < z → slk M c y b k = 2
def Forced (M : Nat → Nat) (z : Nat) (c y b : Nat → Nat) (k0 : Nat) : Prop := k0 < z ∧ slk M c y b k0 = 0 ∧ ∀ k, k < z → ¬ k = k0 → slk M c y b k = 2
def Quiet (M : Nat → Nat) (z : Nat) (c y b : Nat → Nat) : Prop := ¬ AllNot M z c y b ∧ ∀ k0, ¬ Forced M z c y b k0
theorem quiet_so {k : Nat} (hk : k < z) (h : slk M c y b k = 1) : Quiet M z c y b := by
  refine ⟨fun a => by have := a k hk; omega, fun k0 a => ?_⟩
  by_cases e : k = k0
  · subst e; have := a.2.1; omega
  · have := a.2.2 k hk e; omega
theorem quiet_two {k j : Nat} (hk : k < z) (hj : j < z) (hkj : ¬ k = j) (h : slk M c y b k = 0) (h2 : slk M c y b j = 0) : Quiet M z c y b := by
  refine ⟨fun a => by have := a k hk; omega, fun k0 a => ?_⟩
  by_cases e : k = k0
  · have := a.2.2 j hj (by omega); omega
  · have := a.2.2 k hk e; omega
theorem c_stepB (h : Rep N US M) (hN : N ≤ 16) (hs : s ≤ 6) (R : RowC LS LL i z c y b) (hi : i < 61) (O : OkL N s z c y b) (F : Nat) {k0 : Nat} (h0 : slk M c y b k0 = 0) :
    ∀ d k m, k + d = z → d < m → k0 < k → (∀ j, j < k → ¬ j = k0 → slk M c y b j = 2) →
    (Forced M z c y b k0 ∧ f_X4_stepBy_L4 LS LL F m (nI i) (nI (16 * c k0 + 2 * y k0 + b k0)) (nI k) US = some (nI 1, upd US (c k0) (nI (nar (M (c k0)) (y k0) (b k0))))) ∨ (Quiet M z c y b ∧ f_X4_stepBy_L4 LS LL F m (nI i) (nI (16 * c k0 + 2 * y k0 + b k0)) (nI k) US = some (nI 0, US)) := by
  have hz := O.1
  intro d
  induction d with
  | zero =>
    intro k m e1 e2 e3 e4
    obtain ⟨m, rfl⟩ : ∃ m', m = m' + 1 := ⟨m - 1, by omega⟩
    obtain rfl : k = z := by omega
    have hk := O.2.1 k0 e3
    have eC := e_litC (c k0) (by omega) (y k0) (by omega) (b k0) (by omega)
    have eN := c_narrow h hN (c := c k0) (y := y k0) (b := b k0) (b' := b k0) (by omega) (by omega) (by omega) (by omega)
    refine Or.inl ⟨⟨e3, h0, e4⟩, ?_⟩
    rw [f_X4_stepBy_L4]
    simp (disch := omega) only [q0, q1, q2, q3, q4, q5, q7, q9, q10, q16, q30, q48, q57, q60, q99, q255, q300, q4096, pk_mul, nI_add, pk_sub, n_gin, n_cl, ifle_t, ifle_f, iflt_t, iflt_f, ifeq_t, ifeq_f, ifne_t, ifne_f, ifm_f, ifm_t, iflm_f, ifm0_t, ifm0_f, ob, g1n, g0n, ↓reduceIte, not_true_eq_false, not_false_eq_true, l_sizeOf R hi, eC.2.2.2, eN]
  | succ d ih =>
    intro k m e1 e2 e3 e4
    obtain ⟨m, rfl⟩ : ∃ m', m = m' + 1 := ⟨m - 1, by omega⟩
    have hk0 := O.2.1 k0 (by omega)
    have hk := O.2.1 k (by omega)
    have eS := c_state h hN (c := c k) (y := y k) (b := b k) (by omega) (by omega) (by omega)
    rw [f_X4_stepBy_L4]
    rcases st_3 (M (c k)) (y k) (b k) with e | e | e
    · refine Or.inr ⟨quiet_two (k := k0) (j := k) (by omega) (by omega) (by omega) h0 e, ?_⟩
      rw [e] at eS
      replace eS := eS.trans (show _ = some (nI 5) from rfl)
      simp (disch := omega) only [q0, q1, q2, q3, q4, q5, q7, q9, q10, q16, q30, q48, q57, q60, q99, q255, q300, q4096, pk_mul, nI_add, pk_sub, n_gin, n_cl, ifle_t, ifle_f, iflt_t, iflt_f, ifeq_t, ifeq_f, ifne_t, ifne_f, ifm_f, ifm_t, iflm_f, ifm0_t, ifm0_f, ob, g1n, g0n, ↓reduceIte, not_true_eq_false, not_false_eq_true, l_sizeOf R hi, l_litAt R hi hz (show k < z by omega), eS]
    · refine Or.inr ⟨quiet_so (k := k) (by omega) e, ?_⟩
      rw [e] at eS
      replace eS := eS.trans (show _ = some (nI 3) from rfl)
      simp (disch := omega) only [q0, q1, q2, q3, q4, q5, q7, q9, q10, q16, q30, q48, q57, q60, q99, q255, q300, q4096, pk_mul, nI_add, pk_sub, n_gin, n_cl, ifle_t, ifle_f, iflt_t, iflt_f, ifeq_t, ifeq_f, ifne_t, ifne_f, ifm_f, ifm_t, iflm_f, ifm0_t, ifm0_f, ob, g1n, g0n, ↓reduceIte, not_true_eq_false, not_false_eq_true, l_sizeOf R hi, l_litAt R hi hz (show k < z by omega), eS]
    · rw [e] at eS
      replace eS := eS.trans (show _ = some (nI 4) from rfl)
      simp (disch := omega) only [q0, q1, q2, q3, q4, q5, q7, q9, q10, q16, q30, q48, q57, q60, q99, q255, q300, q4096, pk_mul, nI_add, pk_sub, n_gin, n_cl, ifle_t, ifle_f, iflt_t, iflt_f, ifeq_t, ifeq_f, ifne_t, ifne_f, ifm_f, ifm_t, iflm_f, ifm0_t, ifm0_f, ob, g1n, g0n, ↓reduceIte, not_true_eq_false, not_false_eq_true, l_sizeOf R hi, l_litAt R hi hz (show k < z by omega), eS, f_X4_stepBy_J54, f_X4_stepBy_J63]
      refine ih (k + 1) m (by omega) (by omega) (by omega) (fun j hj hjk => ?_)
      by_cases hj2 : j = k
      · subst hj2; exact e
      · exact e4 j (by omega) hjk
theorem c_stepA (h : Rep N US M) (hN : N ≤ 16) (hs : s ≤ 6) (R : RowC LS LL i z c y b) (hi : i < 61) (O : OkL N s z c y b) (F : Nat) :
    ∀ d k m, k + d = z → d < m → (∀ j, j < k → slk M c y b j = 2) →
    (AllNot M z c y b ∧ f_X4_stepBy_L4 LS LL F m (nI i) (-nI 1) (nI k) US = some (nI 2, US)) ∨ (∃ k0, Forced M z c y b k0 ∧ f_X4_stepBy_L4 LS LL F m (nI i) (-nI 1) (nI k) US = some (nI 1, upd US (c k0) (nI (nar (M (c k0)) (y k0) (b k0))))) ∨ (Quiet M z c y b ∧ f_X4_stepBy_L4 LS LL F m (nI i) (-nI 1) (nI k) US = some (nI 0, US)) := by
  have hz := O.1
  intro d
  induction d with
  | zero =>
    intro k m e1 e2 e4
    obtain ⟨m, rfl⟩ : ∃ m', m = m' + 1 := ⟨m - 1, by omega⟩
    obtain rfl : k = z := by omega
    refine Or.inl ⟨e4, ?_⟩
    rw [f_X4_stepBy_L4]
    simp (disch := omega) only [q0, q1, q2, q3, q4, q5, q7, q9, q10, q16, q30, q48, q57, q60, q99, q255, q300, q4096, pk_mul, nI_add, pk_sub, n_gin, n_cl, ifle_t, ifle_f, iflt_t, iflt_f, ifeq_t, ifeq_f, ifne_t, ifne_f, ifm_f, ifm_t, iflm_f, ifm0_t, ifm0_f, ob, g1n, g0n, ↓reduceIte, not_true_eq_false, not_false_eq_true, l_sizeOf R hi]
  | succ d ih =>
    intro k m e1 e2 e4
    obtain ⟨m, rfl⟩ : ∃ m', m = m' + 1 := ⟨m - 1, by omega⟩
    have hk := O.2.1 k (by omega)
    have eS := c_state h hN (c := c k) (y := y k) (b := b k) (by omega) (by omega) (by omega)
    rw [f_X4_stepBy_L4]
    rcases st_3 (M (c k)) (y k) (b k) with e | e | e
    · rw [e] at eS
      replace eS := eS.trans (show _ = some (nI 5) from rfl)
      simp (disch := omega) only [q0, q1, q2, q3, q4, q5, q7, q9, q10, q16, q30, q48, q57, q60, q99, q255, q300, q4096, pk_mul, nI_add, pk_sub, n_gin, n_cl, ifle_t, ifle_f, iflt_t, iflt_f, ifeq_t, ifeq_f, ifne_t, ifne_f, ifm_f, ifm_t, iflm_f, ifm0_t, ifm0_f, ob, g1n, g0n, ↓reduceIte, not_true_eq_false, not_false_eq_true, l_sizeOf R hi, l_litAt R hi hz (show k < z by omega), eS, f_X4_stepBy_J54, f_X4_stepBy_J63]
      rcases c_stepB h hN hs R hi O F (k0 := k) e d (k + 1) m (by omega) (by omega) (by omega) (fun j hj hjk => e4 j (by omega)) with g | g
      · exact Or.inr (Or.inl ⟨k, g⟩)
      · exact Or.inr (Or.inr g)
    · refine Or.inr (Or.inr ⟨quiet_so (k := k) (by omega) e, ?_⟩)
      rw [e] at eS
      replace eS := eS.trans (show _ = some (nI 3) from rfl)
      simp (disch := omega) only [q0, q1, q2, q3, q4, q5, q7, q9, q10, q16, q30, q48, q57, q60, q99, q255, q300, q4096, pk_mul, nI_add, pk_sub, n_gin, n_cl, ifle_t, ifle_f, iflt_t, iflt_f, ifeq_t, ifeq_f, ifne_t, ifne_f, ifm_f, ifm_t, iflm_f, ifm0_t, ifm0_f, ob, g1n, g0n, ↓reduceIte, not_true_eq_false, not_false_eq_true, l_sizeOf R hi, l_litAt R hi hz (show k < z by omega), eS]
    · rw [e] at eS
      replace eS := eS.trans (show _ = some (nI 4) from rfl)
      simp (disch := omega) only [q0, q1, q2, q3, q4, q5, q7, q9, q10, q16, q30, q48, q57, q60, q99, q255, q300, q4096, pk_mul, nI_add, pk_sub, n_gin, n_cl, ifle_t, ifle_f, iflt_t, iflt_f, ifeq_t, ifeq_f, ifne_t, ifne_f, ifm_f, ifm_t, iflm_f, ifm0_t, ifm0_f, ob, g1n, g0n, ↓reduceIte, not_true_eq_false, not_false_eq_true, l_sizeOf R hi, l_litAt R hi hz (show k < z by omega), eS, f_X4_stepBy_J54, f_X4_stepBy_J63]
      refine ih (k + 1) m (by omega) (by omega) (fun j hj => ?_)
      by_cases hj2 : j = k
      · subst hj2; exact e
      · exact e4 j (by omega)
theorem c_step (h : Rep N US M) (hN : N ≤ 16) (hs : s ≤ 6) (R : RowC LS LL i z c y b) (hi : i < 61) (O : OkL N s z c y b) {F : Nat} (hF : 20 < F) :
    (AllNot M z c y b ∧ f_X4_stepBy LS LL F US (nI i) = some (nI 2, US)) ∨ (∃ k0, Forced M z c y b k0 ∧ f_X4_stepBy LS LL F US (nI i) = some (nI 1, upd US (c k0) (nI (nar (M (c k0)) (y k0) (b k0))))) ∨ (Quiet M z c y b ∧ f_X4_stepBy LS LL F US (nI i) = some (nI 0, US)) := by
  have hz := O.1
  exact c_stepA h hN hs R hi O F z 0 F (by omega) (by omega) (fun j hj => by omega)
theorem m_step_L (h : Rep N MY M) (hN : N ≤ 16) (hs : s ≤ 6) (R : RowM s JS JL i z c y b) (hi : i < 120) (O : OkL N s z c y b) (k13 : Int32 → Int32 → Int32 → (Nat → Int32) → Option (Int32 × (Nat → Int32))) (k21 : Int32 → Int32 → Int32 → Int32 → (Nat → Int32) → Option (Int32 × (Nat → Int32))) (F : Nat) (x1 x2 : Int32) :
    ∀ d k m x4 q, k + d = z → d < m → q ≤ k → ((q = 0 ∧ ∀ j, j < k → ¬ slk M c y b j = 0) ∨ (q = 1 ∧ ∃ k0, k0 < k ∧ slk M c y b k0 = 0 ∧ x4 = nI (2 * (s * c k0 + y k0) + b k0) ∧ ∀ j, j < k → ¬ j = k0 → ¬ slk M c y b j = 0) ∨ (2 ≤ q ∧ ∃ j1 j2, j1 < j2 ∧ j2 < k ∧ slk M c y b j1 = 0 ∧ slk M c y b j2 = 0)) →
    (AllNot M z c y b ∧ f_X6_units_L45 (nI s) JS JL k13 k21 F m x1 x2 (nI i) x4 (nI q) (bI (∃ j, j < k ∧ slk M c y b j = 1)) (nI k) (nI 0) MY = k21 x1 x2 (nI (i + 1)) (nI 1) MY) ∨
    (∃ k0, Forced M z c y b k0 ∧ f_X6_units_L45 (nI s) JS JL k13 k21 F m x1 x2 (nI i) x4 (nI q) (bI (∃ j, j < k ∧ slk M c y b j = 1)) (nI k) (nI 0) MY = k21 x1 (nI 1) (nI (i + 1)) (nI 0) (upd MY (c k0) (nI (nar (M (c k0)) (y k0) (b k0))))) ∨
    (Quiet M z c y b ∧ f_X6_units_L45 (nI s) JS JL k13 k21 F m x1 x2 (nI i) x4 (nI q) (bI (∃ j, j < k ∧ slk M c y b j = 1)) (nI k) (nI 0) MY = k21 x1 x2 (nI (i + 1)) (nI 0) MY) := by
  have hz := O.1
  have hr := R.1
  intro d
  induction d with
  | zero =>
    intro k m x4 q e1 e2 e3 e4
    obtain ⟨m, rfl⟩ : ∃ m', m = m' + 1 := ⟨m - 1, by omega⟩
    obtain rfl : k = z := by omega
    rw [f_X6_units_L45]
    by_cases hso : ∃ j, j < k ∧ slk M c y b j = 1
    · rw [bI_t hso]
      obtain ⟨j, hj, hj1⟩ := hso
      refine Or.inr (Or.inr ⟨quiet_so hj hj1, ?_⟩)
      simp (disch := omega) only [q0, q1, q2, q3, q4, q5, q7, q9, q10, q16, q30, q48, q57, q60, q99, q255, q300, q4096, pk_mul, nI_add, pk_sub, n_gin, n_cl, ifle_t, ifle_f, iflt_t, iflt_f, ifeq_t, ifeq_f, ifne_t, ifne_f, ifm_f, ifm_t, iflm_f, ifm0_t, ifm0_f, ob, g1n, g0n, ↓reduceIte, not_true_eq_false, not_false_eq_true, hr, f_X6_units_J152]
    · rw [bI_f hso]
      have hns : ∀ j, j < k → ¬ slk M c y b j = 1 := fun j hj e => hso ⟨j, hj, e⟩
      rcases e4 with ⟨rfl, g⟩ | ⟨rfl, k0, g1, g2, rfl, g3⟩ | ⟨g, j1, j2, g1, g2, g3, g4⟩
      · refine Or.inl ⟨fun j hj => ?_, ?_⟩
        · have := st_3 (M (c j)) (y j) (b j)
          have h1 := g j hj
          have h2 := hns j hj
          unfold slk at *
          omega
        · simp (disch := omega) only [q0, q1, q2, q3, q4, q5, q7, q9, q10, q16, q30, q48, q57, q60, q99, q255, q300, q4096, pk_mul, nI_add, pk_sub, n_gin, n_cl, ifle_t, ifle_f, iflt_t, iflt_f, ifeq_t, ifeq_f, ifne_t, ifne_f, ifm_f, ifm_t, iflm_f, ifm0_t, ifm0_f, ob, g1n, g0n, ↓reduceIte, not_true_eq_false, not_false_eq_true, hr, f_X6_units_J152]
      · have hF0 : Forced M k c y b k0 := ⟨g1, g2, fun j hj hjk => by
          have := st_3 (M (c j)) (y j) (b j)
          have h1 := g3 j hj hjk
          have h2 := hns j hj
          unfold slk at *
          omega⟩
        have hk := O.2.1 k0 g1
        have h64 := (h (c k0) (by omega)).2
        have eM := m_make h hN hs (c := c k0) (y := y k0) (b := b k0) (by omega) (by omega) (by omega) False
        rw [bI_F, bI_f (fun q => q.elim id (f_3 (y k0) (by omega) (b k0) (by omega) (M (c k0)) h64 g2).2.2)] at eM
        refine Or.inr (Or.inl ⟨k0, hF0, ?_⟩)
        rw [q0] at eM
        simp (disch := omega) only [q0, q1, q2, q3, q4, q5, q7, q9, q10, q16, q30, q48, q57, q60, q99, q255, q300, q4096, pk_mul, nI_add, pk_sub, n_gin, n_cl, ifle_t, ifle_f, iflt_t, iflt_f, ifeq_t, ifeq_f, ifne_t, ifne_f, ifm_f, ifm_t, iflm_f, ifm0_t, ifm0_f, ob, g1n, g0n, ↓reduceIte, not_true_eq_false, not_false_eq_true, hr, eM, f_X6_units_J152]
      · refine Or.inr (Or.inr ⟨quiet_two (k := j1) (j := j2) (by omega) (by omega) (by omega) g3 g4, ?_⟩)
        simp (disch := omega) only [q0, q1, q2, q3, q4, q5, q7, q9, q10, q16, q30, q48, q57, q60, q99, q255, q300, q4096, pk_mul, nI_add, pk_sub, n_gin, n_cl, ifle_t, ifle_f, iflt_t, iflt_f, ifeq_t, ifeq_f, ifne_t, ifne_f, ifm_f, ifm_t, iflm_f, ifm0_t, ifm0_f, ob, g1n, g0n, ↓reduceIte, not_true_eq_false, not_false_eq_true, hr, f_X6_units_J152]
  | succ d ih =>
    intro k m x4 q e1 e2 e3 e4
    obtain ⟨m, rfl⟩ : ∃ m', m = m' + 1 := ⟨m - 1, by omega⟩
    have hk := O.2.1 k (by omega)
    have eH := m_how h hN hs (c := c k) (y := y k) (b := b k) (by omega) (by omega) (by omega)
    have hrk := R.2 k (show k < z by omega)
    have hm1 : ¬ (-nI 1 : Int32) = nI 1 := by decide
    have hm0 : ¬ (-nI 1 : Int32) = nI 0 := by decide
    rw [f_X6_units_L45]
    -- the flag behind this literal
    have go : ∀ x4' q', q' ≤ k + 1 → ((q' = 0 ∧ ∀ j, j < k + 1 → ¬ slk M c y b j = 0) ∨ (q' = 1 ∧ ∃ k0, k0 < k + 1 ∧ slk M c y b k0 = 0 ∧ x4' = nI (2 * (s * c k0 + y k0) + b k0) ∧ ∀ j, j < k + 1 → ¬ j = k0 → ¬ slk M c y b j = 0) ∨ (2 ≤ q' ∧ ∃ j1 j2, j1 < j2 ∧ j2 < k + 1 ∧ slk M c y b j1 = 0 ∧ slk M c y b j2 = 0)) → _ := fun x4' q' a b => ih (k + 1) m x4' q' (by omega) (by omega) a b
    rcases st_3 (M (c k)) (y k) (b k) with e | e | e
    · -- open
      have hfl : (∃ j, j < k + 1 ∧ slk M c y b j = 1) ↔ (∃ j, j < k ∧ slk M c y b j = 1) := by
        constructor
        · rintro ⟨j, h1, h2⟩
          by_cases hj : j = k
          · subst hj; unfold slk at h2; omega
          · exact ⟨j, by omega, h2⟩
        · rintro ⟨j, h1, h2⟩; exact ⟨j, by omega, h2⟩
      rw [e] at eH
      replace eH := eH.trans (show _ = some (nI 0) from rfl)
      rw [bI_c hfl] at go
      have g' := go (nI (2 * (s * c k + y k) + b k)) (q + 1) (by omega) (by
        rcases e4 with ⟨rfl, g⟩ | ⟨rfl, k0, g1, g2, g3, g4⟩ | ⟨g, j1, j2, g1, g2, g3, g4⟩
        · exact Or.inr (Or.inl ⟨rfl, k, by omega, e, rfl, fun j hj hjk => g j (by omega)⟩)
        · exact Or.inr (Or.inr ⟨by omega, k0, k, g1, by omega, g2, e⟩)
        · exact Or.inr (Or.inr ⟨by omega, j1, j2, g1, by omega, g3, g4⟩))
      by_cases hso : ∃ j, j < k ∧ slk M c y b j = 1
      · rw [bI_t hso] at g' ⊢
        simp (disch := omega) only [q0, q1, q2, q3, q4, q5, q7, q9, q10, q16, q30, q48, q57, q60, q99, q255, q300, q4096, pk_mul, nI_add, pk_sub, n_gin, n_cl, ifle_t, ifle_f, iflt_t, iflt_f, ifeq_t, ifeq_f, ifne_t, ifne_f, ifm_f, ifm_t, iflm_f, ifm0_t, ifm0_f, ob, g1n, g0n, ↓reduceIte, not_true_eq_false, not_false_eq_true, hr, hrk, eH, f_X6_units_J85, f_X6_units_J90, f_X6_units_J111]
        rw [q1] at g'
        exact g'
      · rw [bI_f hso] at g' ⊢
        simp (disch := omega) only [q0, q1, q2, q3, q4, q5, q7, q9, q10, q16, q30, q48, q57, q60, q99, q255, q300, q4096, pk_mul, nI_add, pk_sub, n_gin, n_cl, ifle_t, ifle_f, iflt_t, iflt_f, ifeq_t, ifeq_f, ifne_t, ifne_f, ifm_f, ifm_t, iflm_f, ifm0_t, ifm0_f, ob, g1n, g0n, ↓reduceIte, not_true_eq_false, not_false_eq_true, hr, hrk, eH, f_X6_units_J85, f_X6_units_J90, f_X6_units_J111]
        rw [q0] at g'
        exact g'
    · -- so
      have hfl : ∃ j, j < k + 1 ∧ slk M c y b j = 1 := ⟨k, by omega, e⟩
      rw [e] at eH
      replace eH := eH.trans (show _ = some (nI 1) from rfl)
      rw [bI_t hfl, q1] at go
      have g' := go x4 q (by omega) (by
        rcases e4 with ⟨rfl, g⟩ | ⟨rfl, k0, g1, g2, g3, g4⟩ | ⟨g, j1, j2, g1, g2, g3, g4⟩
        · refine Or.inl ⟨rfl, fun j hj => ?_⟩
          by_cases hjk : j = k
          · subst hjk; unfold slk; omega
          · exact g j (by omega)
        · refine Or.inr (Or.inl ⟨rfl, k0, by omega, g2, g3, fun j hj hj0 => ?_⟩)
          by_cases hjk : j = k
          · subst hjk; unfold slk; omega
          · exact g4 j (by omega) hj0
        · exact Or.inr (Or.inr ⟨by omega, j1, j2, g1, by omega, g3, g4⟩))
      by_cases hso : ∃ j, j < k ∧ slk M c y b j = 1
      · rw [bI_t hso]
        simp (disch := omega) only [q0, q1, q2, q3, q4, q5, q7, q9, q10, q16, q30, q48, q57, q60, q99, q255, q300, q4096, pk_mul, nI_add, pk_sub, n_gin, n_cl, ifle_t, ifle_f, iflt_t, iflt_f, ifeq_t, ifeq_f, ifne_t, ifne_f, ifm_f, ifm_t, iflm_f, ifm0_t, ifm0_f, ob, g1n, g0n, ↓reduceIte, not_true_eq_false, not_false_eq_true, hr, hrk, eH, f_X6_units_J85, f_X6_units_J90, f_X6_units_J111]
        exact g'
      · rw [bI_f hso]
        simp (disch := omega) only [q0, q1, q2, q3, q4, q5, q7, q9, q10, q16, q30, q48, q57, q60, q99, q255, q300, q4096, pk_mul, nI_add, pk_sub, n_gin, n_cl, ifle_t, ifle_f, iflt_t, iflt_f, ifeq_t, ifeq_f, ifne_t, ifne_f, ifm_f, ifm_t, iflm_f, ifm0_t, ifm0_f, ob, g1n, g0n, ↓reduceIte, not_true_eq_false, not_false_eq_true, hr, hrk, eH, f_X6_units_J85, f_X6_units_J90, f_X6_units_J111]
        exact g'
    · -- not so
      have hfl : (∃ j, j < k + 1 ∧ slk M c y b j = 1) ↔ (∃ j, j < k ∧ slk M c y b j = 1) := by
        constructor
        · rintro ⟨j, h1, h2⟩
          by_cases hj : j = k
          · subst hj; unfold slk at h2; omega
          · exact ⟨j, by omega, h2⟩
        · rintro ⟨j, h1, h2⟩; exact ⟨j, by omega, h2⟩
      rw [e] at eH
      replace eH := eH.trans (show _ = some (-nI 1) from rfl)
      rw [bI_c hfl] at go
      have g' := go x4 q (by omega) (by
        rcases e4 with ⟨rfl, g⟩ | ⟨rfl, k0, g1, g2, g3, g4⟩ | ⟨g, j1, j2, g1, g2, g3, g4⟩
        · refine Or.inl ⟨rfl, fun j hj => ?_⟩
          by_cases hjk : j = k
          · subst hjk; unfold slk; omega
          · exact g j (by omega)
        · refine Or.inr (Or.inl ⟨rfl, k0, by omega, g2, g3, fun j hj hj0 => ?_⟩)
          by_cases hjk : j = k
          · subst hjk; unfold slk; omega
          · exact g4 j (by omega) hj0
        · exact Or.inr (Or.inr ⟨by omega, j1, j2, g1, by omega, g3, g4⟩))
      by_cases hso : ∃ j, j < k ∧ slk M c y b j = 1
      · rw [bI_t hso] at g' ⊢
        simp (disch := omega) only [q0, q1, q2, q3, q4, q5, q7, q9, q10, q16, q30, q48, q57, q60, q99, q255, q300, q4096, pk_mul, nI_add, pk_sub, n_gin, n_cl, ifle_t, ifle_f, iflt_t, iflt_f, ifeq_t, ifeq_f, ifne_t, ifne_f, ifm_f, ifm_t, iflm_f, ifm0_t, ifm0_f, ob, g1n, g0n, ↓reduceIte, not_true_eq_false, not_false_eq_true, hr, hrk, eH, f_X6_units_J85, f_X6_units_J90, f_X6_units_J111, if_neg hm1, if_neg hm0, if_pos hm1, if_pos hm0]
        rw [q1] at g'
        exact g'
      · rw [bI_f hso] at g' ⊢
        simp (disch := omega) only [q0, q1, q2, q3, q4, q5, q7, q9, q10, q16, q30, q48, q57, q60, q99, q255, q300, q4096, pk_mul, nI_add, pk_sub, n_gin, n_cl, ifle_t, ifle_f, iflt_t, iflt_f, ifeq_t, ifeq_f, ifne_t, ifne_f, ifm_f, ifm_t, iflm_f, ifm0_t, ifm0_f, ob, g1n, g0n, ↓reduceIte, not_true_eq_false, not_false_eq_true, hr, hrk, eH, f_X6_units_J85, f_X6_units_J90, f_X6_units_J111, if_neg hm1, if_neg hm0, if_pos hm1, if_pos hm0]
        rw [q0] at g'
        exact g'
end ST
