/-! PURE PART. what a rule's row holds, and the loops over it -/
def RowR (Z C : Nat → Int32) (r n : Nat) (cs : Nat → Nat) : Prop :=
  r < 30 ∧ Z r = nI n ∧ n ≤ 9 ∧ (∀ k, k < n → C (9 * r + k) = nI (cs k)) ∧ (∀ k, k < n → cs k < 16)
section RU
variable {RS RC SY KS KC FI : Nat → Int32} {r n : Nat} {cs v : Nat → Nat}
theorem l_cellAt (R : RowR RS RC r n cs) {k : Nat} (hk : k < n) : f_X3_cellAt RC (nI r) (nI k) = some (nI (cs k)) := by
  obtain ⟨h1, h2, h3, h4, h5⟩ := R
  unfold f_X3_cellAt
  simp (disch := omega) only [q0, q1, q2, q3, q4, q5, q7, q9, q10, q16, q30, q48, q57, q60, q99, q255, q300, q4096, pk_mul, nI_add, pk_sub, n_gin, n_cl, ifle_t, ifle_f, iflt_t, iflt_f, ifeq_t, ifeq_f, ifne_t, ifne_f, ifm_f, ifm_t, iflm_f, ifm0_t, ifm0_f, ob, g1n, g0n, ↓reduceIte, not_true_eq_false, not_false_eq_true, h4 k hk]
theorem l_member (R : RowR RS RC r n cs) {k : Nat} (hk : k < n) : f_X6_member RC (nI r) (nI k) = some (nI (cs k)) := by
  obtain ⟨h1, h2, h3, h4, h5⟩ := R
  unfold f_X6_member
  simp (disch := omega) only [q0, q1, q2, q3, q4, q5, q7, q9, q10, q16, q30, q48, q57, q60, q99, q255, q300, q4096, pk_mul, nI_add, pk_sub, n_gin, n_cl, ifle_t, ifle_f, iflt_t, iflt_f, ifeq_t, ifeq_f, ifne_t, ifne_f, ifm_f, ifm_t, iflm_f, ifm0_t, ifm0_f, ob, g1n, g0n, ↓reduceIte, not_true_eq_false, not_false_eq_true, h4 k hk]
theorem l_allSaid_L (R : RowR RS RC r n cs) (F : Nat) : ∀ d k m, k + d = n → d < m →
    f_X3_allSaid_L2 RS RC SY F m (nI r) (nI k) = some (bI (∀ j, k ≤ j → j < n → ¬ SY (cs j) = -1)) := by
  have ⟨h1, h2, h3, h4, h5⟩ := R
  intro d
  induction d with
  | zero =>
    intro k m e1 e2
    obtain ⟨m, rfl⟩ : ∃ m', m = m' + 1 := ⟨m - 1, by omega⟩
    rw [f_X3_allSaid_L2, bI_t (by intro j a b; omega)]
    simp (disch := omega) only [q0, q1, q2, q3, q4, q5, q7, q9, q10, q16, q30, q48, q57, q60, q99, q255, q300, q4096, pk_mul, nI_add, pk_sub, n_gin, n_cl, ifle_t, ifle_f, iflt_t, iflt_f, ifeq_t, ifeq_f, ifne_t, ifne_f, ifm_f, ifm_t, iflm_f, ifm0_t, ifm0_f, ob, g1n, g0n, ↓reduceIte, not_true_eq_false, not_false_eq_true, h2]
  | succ d ih =>
    intro k m e1 e2
    obtain ⟨m, rfl⟩ : ∃ m', m = m' + 1 := ⟨m - 1, by omega⟩
    have hc := h5 k (by omega)
    rw [f_X3_allSaid_L2]
    simp (disch := omega) only [q0, q1, q2, q3, q4, q5, q7, q9, q10, q16, q30, q48, q57, q60, q99, q255, q300, q4096, pk_mul, nI_add, pk_sub, n_gin, n_cl, ifle_t, ifle_f, iflt_t, iflt_f, ifeq_t, ifeq_f, ifne_t, ifne_f, ifm_f, ifm_t, iflm_f, ifm0_t, ifm0_f, ob, g1n, g0n, ↓reduceIte, not_true_eq_false, not_false_eq_true, h2, l_cellAt R (show k < n by omega)]
    split
    · rw [ih (k + 1) m (by omega) (by omega)]
      refine congrArg some (bI_c ⟨fun h j a b => ?_, fun h j a b => h j (by omega) b⟩)
      rcases Nat.eq_or_lt_of_le a with rfl | a
      · assumption
      · exact h j a b
    · rw [bI_f (fun h => absurd (h k (Nat.le_refl _) (by omega)) ‹_›)]
      rfl
theorem l_allSaid (R : RowR RS RC r n cs) {F : Nat} (hF : 10 < F) : f_X3_allSaid RS RC SY F (nI r) = some (bI (∀ j, j < n → ¬ SY (cs j) = -1)) := by
  have ⟨h1, h2, h3, h4, h5⟩ := R
  unfold f_X3_allSaid
  rw [q0, l_allSaid_L R F n 0 F (by omega) (by omega)]
  exact congrArg some (bI_c ⟨fun h j b => h j (Nat.zero_le _) b, fun h j _ b => h j b⟩)
/-! meets, kind by kind: v k is what the k-th cell has -/
def sumT (v : Nat → Nat) : Nat → Nat
  | 0 => 0
  | k + 1 => sumT v k + v k
def cntT (v : Nat → Nat) : Nat → Nat
  | 0 => 0
  | k + 1 => cntT v k + (if v k = v 0 then 1 else 0)
theorem sumT_le {v : Nat → Nat} : ∀ k, (∀ j, j < k → v j < 6) → sumT v k ≤ 5 * k := by
  intro k
  induction k with
  | zero => intro _; exact Nat.le_refl _
  | succ k ih => intro h; have := ih (fun j a => h j (by omega)); have := h k (by omega); rw [sumT]; omega
theorem cntT_le {v : Nat → Nat} : ∀ k, cntT v k ≤ k := by
  intro k
  induction k with
  | zero => exact Nat.le_refl _
  | succ k ih => rw [cntT]; split <;> omega
theorem l_sum_L (R : RowR RS RC r n cs) (hv : ∀ k, k < n → SY (cs k) = nI (v k)) (F : Nat) : ∀ d k m, k + d = n → d < m →
    f_X3_sum_L5 RS RC SY F m (nI r) (nI (sumT v k)) (nI k) = some (nI (sumT v n)) := by
  have ⟨h1, h2, h3, h4, h5⟩ := R
  intro d
  induction d with
  | zero =>
    intro k m e1 e2
    obtain ⟨m, rfl⟩ : ∃ m', m = m' + 1 := ⟨m - 1, by omega⟩
    obtain rfl : k = n := by omega
    rw [f_X3_sum_L5]
    simp (disch := omega) only [q0, q1, q2, q3, q4, q5, q7, q9, q10, q16, q30, q48, q57, q60, q99, q255, q300, q4096, pk_mul, nI_add, pk_sub, n_gin, n_cl, ifle_t, ifle_f, iflt_t, iflt_f, ifeq_t, ifeq_f, ifne_t, ifne_f, ifm_f, ifm_t, iflm_f, ifm0_t, ifm0_f, ob, g1n, g0n, ↓reduceIte, not_true_eq_false, not_false_eq_true, h2]
  | succ d ih =>
    intro k m e1 e2
    obtain ⟨m, rfl⟩ : ∃ m', m = m' + 1 := ⟨m - 1, by omega⟩
    have hc := h5 k (by omega)
    rw [f_X3_sum_L5]
    simp (disch := omega) only [q0, q1, q2, q3, q4, q5, q7, q9, q10, q16, q30, q48, q57, q60, q99, q255, q300, q4096, pk_mul, nI_add, pk_sub, n_gin, n_cl, ifle_t, ifle_f, iflt_t, iflt_f, ifeq_t, ifeq_f, ifne_t, ifne_f, ifm_f, ifm_t, iflm_f, ifm0_t, ifm0_f, ob, g1n, g0n, ↓reduceIte, not_true_eq_false, not_false_eq_true, h2, l_cellAt R (show k < n by omega), hv k (show k < n by omega)]
    exact ih (k + 1) m (by omega) (by omega)
theorem l_rise_L (R : RowR RS RC r n cs) (hv : ∀ k, k < n → SY (cs k) = nI (v k)) (h6 : ∀ k, k < n → v k < 6) (F : Nat) : ∀ d k m, 0 < k → k < 20 → n ≤ k + d → d < m →
    f_X3_rise_L2 RS RC SY F m (nI r) (nI k) = some (bI (∀ j, k ≤ j → j < n → v (j - 1) < v j)) := by
  have ⟨h1, h2, h3, h4, h5⟩ := R
  intro d
  induction d with
  | zero =>
    intro k m e0 e00 e1 e2
    obtain ⟨m, rfl⟩ : ∃ m', m = m' + 1 := ⟨m - 1, by omega⟩
    rw [f_X3_rise_L2, bI_t (by intro j a b; omega)]
    simp (disch := omega) only [q0, q1, q2, q3, q4, q5, q7, q9, q10, q16, q30, q48, q57, q60, q99, q255, q300, q4096, pk_mul, nI_add, pk_sub, n_gin, n_cl, ifle_t, ifle_f, iflt_t, iflt_f, ifeq_t, ifeq_f, ifne_t, ifne_f, ifm_f, ifm_t, iflm_f, ifm0_t, ifm0_f, ob, g1n, g0n, ↓reduceIte, not_true_eq_false, not_false_eq_true, h2]
  | succ d ih =>
    intro k m e0 e00 e1 e2
    obtain ⟨m, rfl⟩ : ∃ m', m = m' + 1 := ⟨m - 1, by omega⟩
    by_cases hk : k < n
    · have hc := h5 k (by omega)
      have hc' := h5 (k - 1) (by omega)
      have h6a := h6 k hk
      have h6b := h6 (k - 1) (by omega)
      rw [f_X3_rise_L2]
      simp (disch := omega) only [q0, q1, q2, q3, q4, q5, q7, q9, q10, q16, q30, q48, q57, q60, q99, q255, q300, q4096, pk_mul, nI_add, pk_sub, n_gin, n_cl, ifle_t, ifle_f, iflt_t, iflt_f, ifeq_t, ifeq_f, ifne_t, ifne_f, ifm_f, ifm_t, iflm_f, ifm0_t, ifm0_f, ob, g1n, g0n, ↓reduceIte, not_true_eq_false, not_false_eq_true, h2, l_cellAt R hk, hv k hk, l_cellAt R (show k - 1 < n by omega), hv (k - 1) (show k - 1 < n by omega), n_lt]
      split
      · rw [ih (k + 1) m (by omega) (by omega) (by omega) (by omega)]
        refine congrArg some (bI_c ⟨fun h j a b => ?_, fun h j a b => h j (by omega) b⟩)
        rcases Nat.eq_or_lt_of_le a with rfl | a
        · assumption
        · exact h j a b
      · rw [bI_f (fun h => absurd (h k (Nat.le_refl _) (by omega)) ‹_›)]
        rfl
    · rw [f_X3_rise_L2, bI_t (by intro j a b; omega)]
      simp (disch := omega) only [q0, q1, q2, q3, q4, q5, q7, q9, q10, q16, q30, q48, q57, q60, q99, q255, q300, q4096, pk_mul, nI_add, pk_sub, n_gin, n_cl, ifle_t, ifle_f, iflt_t, iflt_f, ifeq_t, ifeq_f, ifne_t, ifne_f, ifm_f, ifm_t, iflm_f, ifm0_t, ifm0_f, ob, g1n, g0n, ↓reduceIte, not_true_eq_false, not_false_eq_true, h2]
theorem l_like_L (R : RowR RS RC r n cs) (hv : ∀ k, k < n → SY (cs k) = nI (v k)) (h6 : ∀ k, k < n → v k < 6) (F : Nat) (h0 : 0 < n) : ∀ d k m, k + d = n → d < m →
    f_X3_likeTheFirst_L15 RS RC SY F m (nI r) (nI (v 0)) (nI (cntT v k)) (nI k) = some (nI (cntT v n)) := by
  have ⟨h1, h2, h3, h4, h5⟩ := R
  intro d
  induction d with
  | zero =>
    intro k m e1 e2
    obtain ⟨m, rfl⟩ : ∃ m', m = m' + 1 := ⟨m - 1, by omega⟩
    obtain rfl : k = n := by omega
    rw [f_X3_likeTheFirst_L15]
    simp (disch := omega) only [q0, q1, q2, q3, q4, q5, q7, q9, q10, q16, q30, q48, q57, q60, q99, q255, q300, q4096, pk_mul, nI_add, pk_sub, n_gin, n_cl, ifle_t, ifle_f, iflt_t, iflt_f, ifeq_t, ifeq_f, ifne_t, ifne_f, ifm_f, ifm_t, iflm_f, ifm0_t, ifm0_f, ob, g1n, g0n, ↓reduceIte, not_true_eq_false, not_false_eq_true, h2]
  | succ d ih =>
    intro k m e1 e2
    obtain ⟨m, rfl⟩ : ∃ m', m = m' + 1 := ⟨m - 1, by omega⟩
    have hc := h5 k (by omega)
    have h6a := h6 k (by omega)
    have h6b := h6 0 (by omega)
    have e := ih (k + 1) m (by omega) (by omega)
    rw [f_X3_likeTheFirst_L15]
    rw [cntT] at e
    by_cases hq : v k = v 0
    · rw [if_pos hq] at e
      simp (disch := omega) only [q0, q1, q2, q3, q4, q5, q7, q9, q10, q16, q30, q48, q57, q60, q99, q255, q300, q4096, pk_mul, nI_add, pk_sub, n_gin, n_cl, ifle_t, ifle_f, iflt_t, iflt_f, ifeq_t, ifeq_f, ifne_t, ifne_f, ifm_f, ifm_t, iflm_f, ifm0_t, ifm0_f, ob, g1n, g0n, ↓reduceIte, not_true_eq_false, not_false_eq_true, h2, l_cellAt R (show k < n by omega), hv k (show k < n by omega), f_X3_likeTheFirst_J42]
      exact e
    · rw [if_neg hq] at e
      simp (disch := omega) only [q0, q1, q2, q3, q4, q5, q7, q9, q10, q16, q30, q48, q57, q60, q99, q255, q300, q4096, pk_mul, nI_add, pk_sub, n_gin, n_cl, ifle_t, ifle_f, iflt_t, iflt_f, ifeq_t, ifeq_f, ifne_t, ifne_f, ifm_f, ifm_t, iflm_f, ifm0_t, ifm0_f, ob, g1n, g0n, ↓reduceIte, not_true_eq_false, not_false_eq_true, h2, l_cellAt R (show k < n by omega), hv k (show k < n by omega), f_X3_likeTheFirst_J42]
      exact e
/-- the bits of what the first k have -/
def mskT (v : Nat → Nat) : Nat → Nat
  | 0 => 0
  | k + 1 => mskT v k ||| 2 ^ v k
theorem mskT_tb {v : Nat → Nat} (y : Nat) : ∀ k, (mskT v k).testBit y = true ↔ ∃ j, j < k ∧ v j = y := by
  intro k
  induction k with
  | zero => rw [mskT, Nat.zero_testBit]; exact ⟨fun h => absurd h (by decide), fun ⟨j, h, _⟩ => by omega⟩
  | succ k ih =>
    rw [mskT, Nat.testBit_or, Nat.testBit_two_pow, Bool.or_eq_true, ih, decide_eq_true_eq]
    constructor
    · rintro (⟨j, a, b⟩ | h)
      · exact ⟨j, by omega, b⟩
      · exact ⟨k, by omega, h⟩
    · rintro ⟨j, a, b⟩
      by_cases hj : j = k
      · subst hj; exact Or.inr b
      · exact Or.inl ⟨j, by omega, b⟩
theorem mskT_lt {v : Nat → Nat} {N : Nat} : ∀ k, (∀ j, j < k → v j < N) → mskT v k < 2 ^ N := by
  intro k
  induction k with
  | zero => intro _; exact Nat.two_pow_pos N
  | succ k ih => intro h; exact Nat.or_lt_two_pow (ih (fun j a => h j (by omega))) (Nat.pow_lt_pow_right (by omega) (h k (by omega)))
theorem l_unl_L (R : RowR RS RC r n cs) (hv : ∀ k, k < n → SY (cs k) = nI (v k)) (h6 : ∀ k, k < n → v k < 6) (F : Nat) : ∀ d k m, k + d = n → d < m → (∀ i j, i < j → j < k → ¬ v i = v j) → 
    f_X3_areUnlike_L5 RS RC SY F m (nI r) (nI (mskT v k)) (nI k) = some (bI (∀ i j, i < j → j < n → ¬ v i = v j)) := by
  have ⟨h1, h2, h3, h4, h5⟩ := R
  intro d
  induction d with
  | zero =>
    intro k m e1 e2 e3
    obtain ⟨m, rfl⟩ : ∃ m', m = m' + 1 := ⟨m - 1, by omega⟩
    obtain rfl : k = n := by omega
    rw [f_X3_areUnlike_L5, bI_t e3]
    simp (disch := omega) only [q0, q1, q2, q3, q4, q5, q7, q9, q10, q16, q30, q48, q57, q60, q99, q255, q300, q4096, pk_mul, nI_add, pk_sub, n_gin, n_cl, ifle_t, ifle_f, iflt_t, iflt_f, ifeq_t, ifeq_f, ifne_t, ifne_f, ifm_f, ifm_t, iflm_f, ifm0_t, ifm0_f, ob, g1n, g0n, ↓reduceIte, not_true_eq_false, not_false_eq_true, h2]
  | succ d ih =>
    intro k m e1 e2 e3
    obtain ⟨m, rfl⟩ : ∃ m', m = m' + 1 := ⟨m - 1, by omega⟩
    have hc := h5 k (by omega)
    have h6a := h6 k (by omega)
    have hm := mskT_lt (v := v) (N := 6) k (fun j a => h6 j (by omega))
    have hb := nb_bit (mskT v k) (v k)
    have ht := mskT_tb (v := v) (v k) k
    have hp := nb_pw2 (k := v k) (by omega)
    have hp0 := Nat.two_pow_pos (v k)
    rw [f_X3_areUnlike_L5]
    by_cases hq : (mskT v k).testBit (v k) = true
    · rw [if_pos hq] at hb
      simp (disch := omega) only [q0, q1, q2, q3, q4, q5, q7, q9, q10, q16, q30, q48, q57, q60, q99, q255, q300, q4096, pk_mul, nI_add, pk_sub, n_gin, n_cl, ifle_t, ifle_f, iflt_t, iflt_f, ifeq_t, ifeq_f, ifne_t, ifne_f, ifm_f, ifm_t, iflm_f, ifm0_t, ifm0_f, ob, g1n, g0n, ↓reduceIte, not_true_eq_false, not_false_eq_true, h2, l_cellAt R (show k < n by omega), hv k (show k < n by omega), nb_pow, nb_and, hb]
      obtain ⟨j, a, b⟩ := ht.mp hq
      rw [bI_f (fun h => h j k a (by omega) b)]; rfl
    · rw [if_neg hq] at hb
      simp (disch := omega) only [q0, q1, q2, q3, q4, q5, q7, q9, q10, q16, q30, q48, q57, q60, q99, q255, q300, q4096, pk_mul, nI_add, pk_sub, n_gin, n_cl, ifle_t, ifle_f, iflt_t, iflt_f, ifeq_t, ifeq_f, ifne_t, ifne_f, ifm_f, ifm_t, iflm_f, ifm0_t, ifm0_f, ob, g1n, g0n, ↓reduceIte, not_true_eq_false, not_false_eq_true, h2, l_cellAt R (show k < n by omega), hv k (show k < n by omega), nb_pow, nb_and, hb, nb_or]
      refine ih (k + 1) m (by omega) (by omega) (fun i j a b => ?_)
      by_cases hj : j = k
      · subst hj; exact fun h => hq (ht.mpr ⟨i, a, h⟩)
      · exact e3 i j a (by omega)
def oneT (cs v : Nat → Nat) : Nat → Nat
  | 0 => 0
  | k + 1 => if v k = 1 then oneT cs v k ||| 2 ^ cs k else oneT cs v k
theorem oneT_tb {cs v : Nat → Nat} (y : Nat) : ∀ k, (oneT cs v k).testBit y = true ↔ ∃ j, j < k ∧ v j = 1 ∧ cs j = y := by
  intro k
  induction k with
  | zero => rw [oneT, Nat.zero_testBit]; exact ⟨fun h => absurd h (by decide), fun ⟨j, h, _⟩ => by omega⟩
  | succ k ih =>
    rw [oneT]
    split
    · rename_i h1
      rw [Nat.testBit_or, Nat.testBit_two_pow, Bool.or_eq_true, ih, decide_eq_true_eq]
      constructor
      · rintro (⟨j, a, b⟩ | h)
        · exact ⟨j, by omega, b⟩
        · exact ⟨k, by omega, h1, h⟩
      · rintro ⟨j, a, b, c⟩
        by_cases hj : j = k
        · subst hj; exact Or.inr c
        · exact Or.inl ⟨j, by omega, b, c⟩
    · rename_i h1
      rw [ih]
      constructor
      · rintro ⟨j, a, b⟩
        exact ⟨j, by omega, b⟩
      · rintro ⟨j, a, b, c⟩
        by_cases hj : j = k
        · subst hj; exact absurd b h1
        · exact ⟨j, by omega, b, c⟩
theorem oneT_lt {cs v : Nat → Nat} {N : Nat} : ∀ k, (∀ j, j < k → cs j < N) → oneT cs v k < 2 ^ N := by
  intro k
  induction k with
  | zero => intro _; exact Nat.two_pow_pos N
  | succ k ih =>
    intro h
    have i1 := ih (fun j a => h j (by omega))
    rw [oneT]
    split
    · exact Nat.or_lt_two_pow i1 (Nat.pow_lt_pow_right (by omega) (h k (by omega)))
    · exact i1
theorem l_one_L (R : RowR RS RC r n cs) (hv : ∀ k, k < n → SY (cs k) = nI (v k)) (h6 : ∀ k, k < n → v k < 6) (F : Nat) : ∀ d k m, k + d = n → d < m →
    f_X3_cellsWithOne_L5 RS RC SY F m (nI r) (nI (oneT cs v k)) (nI k) = some (nI (oneT cs v n)) := by
  have ⟨h1, h2, h3, h4, h5⟩ := R
  intro d
  induction d with
  | zero =>
    intro k m e1 e2
    obtain ⟨m, rfl⟩ : ∃ m', m = m' + 1 := ⟨m - 1, by omega⟩
    obtain rfl : k = n := by omega
    rw [f_X3_cellsWithOne_L5]
    simp (disch := omega) only [q0, q1, q2, q3, q4, q5, q7, q9, q10, q16, q30, q48, q57, q60, q99, q255, q300, q4096, pk_mul, nI_add, pk_sub, n_gin, n_cl, ifle_t, ifle_f, iflt_t, iflt_f, ifeq_t, ifeq_f, ifne_t, ifne_f, ifm_f, ifm_t, iflm_f, ifm0_t, ifm0_f, ob, g1n, g0n, ↓reduceIte, not_true_eq_false, not_false_eq_true, h2]
  | succ d ih =>
    intro k m e1 e2
    obtain ⟨m, rfl⟩ : ∃ m', m = m' + 1 := ⟨m - 1, by omega⟩
    have hc := h5 k (by omega)
    have h6a := h6 k (by omega)
    have e := ih (k + 1) m (by omega) (by omega)
    rw [f_X3_cellsWithOne_L5]
    rw [oneT] at e
    by_cases hq : v k = 1
    · rw [if_pos hq] at e
      simp (disch := omega) only [q0, q1, q2, q3, q4, q5, q7, q9, q10, q16, q30, q48, q57, q60, q99, q255, q300, q4096, pk_mul, nI_add, pk_sub, n_gin, n_cl, ifle_t, ifle_f, iflt_t, iflt_f, ifeq_t, ifeq_f, ifne_t, ifne_f, ifm_f, ifm_t, iflm_f, ifm0_t, ifm0_f, ob, g1n, g0n, ↓reduceIte, not_true_eq_false, not_false_eq_true, h2, l_cellAt R (show k < n by omega), hv k (show k < n by omega), f_X3_cellsWithOne_J40, nb_pow, nb_or]
      exact e
    · rw [if_neg hq] at e
      simp (disch := omega) only [q0, q1, q2, q3, q4, q5, q7, q9, q10, q16, q30, q48, q57, q60, q99, q255, q300, q4096, pk_mul, nI_add, pk_sub, n_gin, n_cl, ifle_t, ifle_f, iflt_t, iflt_f, ifeq_t, ifeq_f, ifne_t, ifne_f, ifm_f, ifm_t, iflm_f, ifm0_t, ifm0_f, ob, g1n, g0n, ↓reduceIte, not_true_eq_false, not_false_eq_true, h2, l_cellAt R (show k < n by omega), hv k (show k < n by omega), f_X3_cellsWithOne_J40]
      exact e
end RU
