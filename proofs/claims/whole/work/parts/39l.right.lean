/-! PURE PART. barred; a line is right; check, proves -/
theorem noinj : ∀ m n (f : Nat → Nat), (∀ i, i < n → f i < m) → (∀ i j, i < n → j < n → f i = f j → i = j) → n ≤ m := by
  intro m
  induction m with
  | zero =>
    intro n f h _
    cases n with
    | zero => exact Nat.le_refl _
    | succ n => have := h 0 (by omega); omega
  | succ m ih =>
    intro n f h hi
    cases n with
    | zero => exact Nat.zero_le _
    | succ n =>
      have := ih n (fun i => if f i = m then f n else f i) (fun i hn => by
        show (if f i = m then f n else f i) < m
        have h1 := h i (by omega)
        have h2 := h n (by omega)
        by_cases e : f i = m
        · rw [if_pos e]
          have : ¬ f n = m := fun e2 => by have := hi i n (by omega) (by omega) (by omega); omega
          omega
        · rw [if_neg e]; omega) (fun i j h1 h2 e => by
        have e : (if f i = m then f n else f i) = (if f j = m then f n else f j) := e
        by_cases e1 : f i = m
        · by_cases e2 : f j = m
          · exact hi i j (by omega) (by omega) (by omega)
          · rw [if_pos e1, if_neg e2] at e
            have := hi n j (by omega) (by omega) e; omega
        · by_cases e2 : f j = m
          · rw [if_neg e1, if_pos e2] at e
            have := hi i n (by omega) (by omega) e; omega
          · rw [if_neg e1, if_neg e2] at e
            exact hi i j (by omega) (by omega) e)
      omega
theorem php {n : Nat} {f : Nat → Nat} (h : ∀ i, i < n → f i < n) (hi : ∀ i j, i < n → j < n → f i = f j → i = j) {t : Nat} (ht : t < n) : ∃ i, i < n ∧ f i = t := by
  apply Classical.byContradiction
  intro hno
  have hm : ∀ i, i < n → ¬ f i = t := fun i a e => hno ⟨i, a, e⟩
  have := noinj (n - 1) n (fun i => if f i = n - 1 then t else f i) (fun i a => by
    show (if f i = n - 1 then t else f i) < n - 1
    have h1 := h i a
    have h2 := hm i a
    by_cases e : f i = n - 1
    · rw [if_pos e]; omega
    · rw [if_neg e]; omega) (fun i j a b e => by
    have e : (if f i = n - 1 then t else f i) = (if f j = n - 1 then t else f j) := e
    have h1 := hm i a
    have h2 := hm j b
    by_cases e1 : f i = n - 1
    · by_cases e2 : f j = n - 1
      · exact hi i j a b (by omega)
      · rw [if_pos e1, if_neg e2] at e; omega
    · by_cases e2 : f j = n - 1
      · rw [if_neg e1, if_pos e2] at e; omega
      · rw [if_neg e1, if_neg e2] at e; exact hi i j a b e)
  omega
section BA
variable {RK RN RS RC KK KN KS KC SD AN LS LL JS JL : Nat → Int32} {N s nr w h i z : Nat} {c y b : Nat → Nat}
def Den (SD : Nat → Int32) (z : Nat) (c y b : Nat → Nat) : Prop := ∀ j, j < z → b j = 0 ∧ SD (c j) = nI (y j)
def Cov (SD : Nat → Int32) (N s z : Nat) (c y b : Nat → Nat) : Prop := ∀ q, q < N → ∃ x, x < s ∧ SD q = nI x ∧ ∃ j, j < z ∧ c j = q ∧ y j = x ∧ b j = 0
theorem den_cov (O : OkL N s z c y b) (hN : N ≤ 16) (hs : s ≤ 6) (hz : z = N) : Den SD z c y b ↔ Cov SD N s z c y b := by
  subst hz
  constructor
  · intro hd q hq
    have inj : ∀ i j, i < z → j < z → c i = c j → i = j := fun i j h1 h2 e => by
      have a1 := hd i h1
      have a2 := hd j h2
      have o1 := O.2.1 i h1
      have o2 := O.2.1 j h2
      have ey : y i = y j := by
        have : nI (y i) = nI (y j) := by rw [← a1.2, ← a2.2, e]
        rw [n_eq (by omega) (by omega)] at this; exact this
      rcases Nat.lt_trichotomy i j with g | g | g
      · exact absurd ⟨e, ey, by omega⟩ (O.2.2 i j g h2)
      · exact g
      · exact absurd ⟨e.symm, ey.symm, by omega⟩ (O.2.2 j i g h1)
    obtain ⟨j, j1, j2⟩ := php (n := z) (f := c) (fun i hi => (O.2.1 i hi).1) inj hq
    exact ⟨y j, (O.2.1 j j1).2.1, by rw [← j2]; exact (hd j j1).2, j, j1, j2, rfl, (hd j j1).1⟩
  · intro hc
    have h2 : ∀ q, ∃ j, q < z → j < z ∧ c j = q ∧ SD q = nI (y j) ∧ b j = 0 := fun q => by
      by_cases hq : q < z
      · obtain ⟨x, _, x2, j, j1, j2, j3, j4⟩ := hc q hq
        exact ⟨j, fun _ => ⟨j1, j2, by rw [j3]; exact x2, j4⟩⟩
      · exact ⟨0, fun h => absurd h hq⟩
    have sp : ∀ q, q < z → Classical.choose (h2 q) < z ∧ c (Classical.choose (h2 q)) = q ∧ SD q = nI (y (Classical.choose (h2 q))) ∧ b (Classical.choose (h2 q)) = 0 := fun q hq => Classical.choose_spec (h2 q) hq
    intro j hj
    obtain ⟨q, q1, q2⟩ := php (n := z) (f := fun q => Classical.choose (h2 q)) (fun q hq => (sp q hq).1) (fun p q hp hq e => by
      have e : Classical.choose (h2 p) = Classical.choose (h2 q) := e
      rw [← (sp p hp).2.1, ← (sp q hq).2.1, e]) hj
    have q2 : Classical.choose (h2 q) = j := q2
    have := sp q q1
    rw [q2] at this
    exact ⟨this.2.2.2, by rw [this.2.1]; exact this.2.2.1⟩
theorem c_den_L (R : RowC LS LL i z c y b) (hi : i < 61) (O : OkL N s z c y b) (hN : N ≤ 16) (hs : s ≤ 6) (F : Nat) : ∀ d k m, k + d = z → d < m → f_X5_deniesOnlyWhatIsSaid_L2 SD LS LL F m (nI i) (nI k) = some (bI (∀ j, k ≤ j → j < z → b j = 0 ∧ SD (c j) = nI (y j))) := by
  have hz := O.1
  intro d
  induction d with
  | zero =>
    intro k m e1 e2
    obtain ⟨m, rfl⟩ : ∃ m', m = m' + 1 := ⟨m - 1, by omega⟩
    rw [f_X5_deniesOnlyWhatIsSaid_L2, bI_t (fun j a b => by omega)]
    simp (disch := omega) only [q0, q1, q2, q3, q4, q5, q7, q9, q10, q16, q30, q48, q57, q60, q99, q255, q300, q4096, pk_mul, nI_add, pk_sub, n_gin, n_cl, ifle_t, ifle_f, iflt_t, iflt_f, ifeq_t, ifeq_f, ifne_t, ifne_f, ifm_f, ifm_t, iflm_f, ifm0_t, ifm0_f, ob, g1n, g0n, ↓reduceIte, not_true_eq_false, not_false_eq_true, l_sizeOf R hi]
  | succ d ih =>
    intro k m e1 e2
    obtain ⟨m, rfl⟩ : ∃ m', m = m' + 1 := ⟨m - 1, by omega⟩
    have hk := O.2.1 k (by omega)
    obtain ⟨_, e4, e5, e6⟩ := e_litC (c k) (by omega) (y k) (by omega) (b k) (by omega)
    rw [f_X5_deniesOnlyWhatIsSaid_L2]
    by_cases hb : b k = 0
    · by_cases hsd : SD (c k) = nI (y k)
      · simp (disch := omega) only [q0, q1, q2, q3, q4, q5, q7, q9, q10, q16, q30, q48, q57, q60, q99, q255, q300, q4096, pk_mul, nI_add, pk_sub, n_gin, n_cl, ifle_t, ifle_f, iflt_t, iflt_f, ifeq_t, ifeq_f, ifne_t, ifne_f, ifm_f, ifm_t, iflm_f, ifm0_t, ifm0_f, ob, g1n, g0n, ↓reduceIte, not_true_eq_false, not_false_eq_true, l_sizeOf R hi, l_litAt R hi hz (show k < z by omega), e4, e5, e6, if_pos hsd]
        rw [ih (k + 1) m (by omega) (by omega)]
        refine congrArg some (bI_c ⟨fun h j a1 a2 => ?_, fun h j a1 a2 => h j (by omega) a2⟩)
        by_cases hj : j = k
        · subst hj; exact ⟨hb, hsd⟩
        · exact h j (by omega) a2
      · rw [bI_f (fun h => hsd (h k (Nat.le_refl _) (by omega)).2)]
        simp (disch := omega) only [q0, q1, q2, q3, q4, q5, q7, q9, q10, q16, q30, q48, q57, q60, q99, q255, q300, q4096, pk_mul, nI_add, pk_sub, n_gin, n_cl, ifle_t, ifle_f, iflt_t, iflt_f, ifeq_t, ifeq_f, ifne_t, ifne_f, ifm_f, ifm_t, iflm_f, ifm0_t, ifm0_f, ob, g1n, g0n, ↓reduceIte, not_true_eq_false, not_false_eq_true, l_sizeOf R hi, l_litAt R hi hz (show k < z by omega), e4, e5, e6, if_neg hsd]
    · rw [bI_f (fun h => hb (h k (Nat.le_refl _) (by omega)).1)]
      simp (disch := omega) only [q0, q1, q2, q3, q4, q5, q7, q9, q10, q16, q30, q48, q57, q60, q99, q255, q300, q4096, pk_mul, nI_add, pk_sub, n_gin, n_cl, ifle_t, ifle_f, iflt_t, iflt_f, ifeq_t, ifeq_f, ifne_t, ifne_f, ifm_f, ifm_t, iflm_f, ifm0_t, ifm0_f, ob, g1n, g0n, ↓reduceIte, not_true_eq_false, not_false_eq_true, l_sizeOf R hi, l_litAt R hi hz (show k < z by omega), e6]
theorem m_bar_L (A : SAns s SD AN) (R : RowM s JS JL i z c y b) (hi : i < 120) (O : OkL N s z c y b) (hN : N ≤ 16) (hNe : N = w * h) (hs : s ≤ 6) {F : Nat} (hF : 20 < F) (mR : Int32) (FI : Nat → Int32) : ∀ d k m, k + d = N → d < m → f_X6_isBarred_L24 (nI w) (nI h) (nI s) mR KK KN KS KC AN JS JL F m (nI i) (nI k) FI = some (bI (∀ q, k ≤ q → q < N → ∃ x, x < s ∧ SD q = nI x ∧ ∃ j, j < z ∧ c j = q ∧ y j = x ∧ b j = 0), FI) := by
  intro d
  induction d with
  | zero =>
    intro k m e1 e2
    obtain ⟨m, rfl⟩ : ∃ m', m = m' + 1 := ⟨m - 1, by omega⟩
    rw [f_X6_isBarred_L24, bI_t (fun q a b => by omega)]
    simp (disch := omega) only [q0, q1, q2, q3, q4, q5, q7, q9, q10, q16, q30, q48, q57, q60, q99, q255, q300, q4096, pk_mul, nI_add, pk_sub, n_gin, n_cl, ifle_t, ifle_f, iflt_t, iflt_f, ifeq_t, ifeq_f, ifne_t, ifne_f, ifm_f, ifm_t, iflm_f, ifm0_t, ifm0_f, ob, g1n, g0n, ↓reduceIte, not_true_eq_false, not_false_eq_true, f_X6_cells]
  | succ d ih =>
    intro k m e1 e2
    obtain ⟨m, rfl⟩ : ∃ m', m = m' + 1 := ⟨m - 1, by omega⟩
    obtain ⟨a1, a2⟩ := A k (by omega)
    rw [f_X6_isBarred_L24]
    rcases a2 with a2 | ⟨x, x1, x2⟩
    · rw [bI_f (fun hh => by
        obtain ⟨x, x1, x2, _⟩ := hh k (Nat.le_refl _) (by omega)
        rw [a2] at x2
        rw [← n_m1' (a := x) (by omega)]; exact x2)]
      rw [q1] at a2
      simp (disch := omega) only [q0, q1, q2, q3, q4, q5, q7, q9, q10, q16, q30, q48, q57, q60, q99, q255, q300, q4096, pk_mul, nI_add, pk_sub, n_gin, n_cl, ifle_t, ifle_f, iflt_t, iflt_f, ifeq_t, ifeq_f, ifne_t, ifne_f, ifm_f, ifm_t, iflm_f, ifm0_t, ifm0_f, ob, g1n, g0n, ↓reduceIte, not_true_eq_false, not_false_eq_true, f_X6_cells, a1, a2, if_pos m1_lt]
    · have hh := m_has R hi O hN hs (c0 := k) (y0 := x) (b0 := 0) (by omega) x1 (by omega) hF
      have eL := (e_litM s (by omega) k (by omega) x x1 0 (by omega)).1
      by_cases hE : ∃ j, j < z ∧ c j = k ∧ y j = x ∧ b j = 0
      · rw [bI_t hE] at hh
        simp (disch := omega) only [q0, q1, q2, q3, q4, q5, q7, q9, q10, q16, q30, q48, q57, q60, q99, q255, q300, q4096, pk_mul, nI_add, pk_sub, n_gin, n_cl, ifle_t, ifle_f, iflt_t, iflt_f, ifeq_t, ifeq_f, ifne_t, ifne_f, ifm_f, ifm_t, iflm_f, ifm0_t, ifm0_f, ob, g1n, g0n, ↓reduceIte, not_true_eq_false, not_false_eq_true, f_X6_cells, a1, x2, eL, hh]
        rw [ih (k + 1) m (by omega) (by omega)]
        congr 2
        apply bI_c
        constructor
        · intro g q g1 g2
          by_cases hq : q = k
          · subst hq; exact ⟨x, x1, x2, hE⟩
          · exact g q (by omega) g2
        · intro g q g1 g2; exact g q (by omega) g2
      · rw [bI_f hE] at hh
        rw [bI_f (fun g => by
          obtain ⟨x', x1', x2', hE'⟩ := g k (Nat.le_refl _) (by omega)
          rw [x2, n_eq (by omega) (by omega)] at x2'
          subst x2'
          exact hE hE')]
        simp (disch := omega) only [q0, q1, q2, q3, q4, q5, q7, q9, q10, q16, q30, q48, q57, q60, q99, q255, q300, q4096, pk_mul, nI_add, pk_sub, n_gin, n_cl, ifle_t, ifle_f, iflt_t, iflt_f, ifeq_t, ifeq_f, ifne_t, ifne_f, ifm_f, ifm_t, iflm_f, ifm0_t, ifm0_f, ob, g1n, g0n, ↓reduceIte, not_true_eq_false, not_false_eq_true, f_X6_cells, a1, x2, eL, hh]
theorem b_barred (D0 : 1 ≤ w ∧ w ≤ 4 ∧ 1 ≤ h ∧ h ≤ 4 ∧ 1 ≤ s ∧ s ≤ 6 ∧ 1 ≤ w * h ∧ w * h ≤ 16) (hr : nr ≤ 30) (hR : ∀ i, i < nr → KK i = RK i ∧ KN i = RN i ∧ ∃ n cs, RowR RS RC i n cs ∧ RowR KS KC i n cs ∧ OkR (w * h) n cs) (A : SAns s SD AN) (R : RowC LS LL i z c y b) (R' : RowM s JS JL i z c y b) (hi : i < 60) (O : OkL (w * h) s z c y b) {F : Nat} (hF : 100 < F) (FI : Nat → Int32) :
    ∃ r FI', (r = 0 ∨ r = 1) ∧ f_X5_isBarred (nI w) (nI (w * h)) (nI (edgeN w h)) (nI (edgeN w h * 2 ^ (w - 1))) (nI nr) SD RK RN RS RC LS LL F (nI i) = some (nI r) ∧ f_X6_isBarred (nI w) (nI h) (nI s) (nI nr) KK KN KS KC AN JS JL F FI (nI i) = some (nI r, FI') := by
  have hz := O.1
  obtain ⟨q, FI1, f1, f2, f3⟩ := b_fails_L D0 hr hR A hF nr 0 F FI (by omega) (by omega)
  have f2' : f_X5_fails (nI w) (nI (w * h)) (nI (edgeN w h)) (nI (edgeN w h * 2 ^ (w - 1))) (nI nr) SD RK RN RS RC F = some q := f2
  have f3' : f_X6_firstFailing (nI w) (nI nr) KK KN KS KC AN F FI = some (q, FI1) := f3
  have cd := c_den_L (SD := SD) R (by omega) O (by omega) (by omega) F z 0 F (by omega) (by omega)
  have cd' : f_X5_deniesOnlyWhatIsSaid SD LS LL F (nI i) = some (bI (Den SD z c y b)) := by
    refine Eq.trans cd (congrArg some (bI_c ⟨fun g j a => g j (Nat.zero_le _) a, fun g j _ a => g j a⟩))
  have cm := m_bar_L (KK := KK) (KN := KN) (KS := KS) (KC := KC) (w := w) (h := h) A R' (by omega) O (by omega) rfl (by omega) (F := F) (by omega) (nI nr) FI1 (w * h) 0 F (by omega) (by omega)
  have hm1 : ¬ (-nI 1 : Int32) = nI 0 := by decide
  unfold f_X5_isBarred f_X6_isBarred
  by_cases hzN : z = w * h
  · by_cases hd : Den SD z c y b
    · have hcv := (den_cov O (by omega) (by omega) hzN).mp hd
      rw [bI_t hd] at cd'
      rw [bI_t (fun q _ g => hcv q g)] at cm
      rcases f1 with rfl | ⟨j, j1, rfl⟩
      · refine ⟨1, FI1, Or.inr rfl, ?_, ?_⟩
        · simp (disch := omega) only [q0, q1, q2, q3, q4, q5, q7, q9, q10, q16, q30, q48, q57, q60, q99, q255, q300, q4096, pk_mul, nI_add, pk_sub, n_gin, n_cl, ifle_t, ifle_f, iflt_t, iflt_f, ifeq_t, ifeq_f, ifne_t, ifne_f, ifm_f, ifm_t, iflm_f, ifm0_t, ifm0_f, ob, g1n, g0n, ↓reduceIte, not_true_eq_false, not_false_eq_true, l_sizeOf R (show i < 61 by omega), f_X0_cells, cd', f2']
        · have hJ := R'.1
          simp (disch := omega) only [q0, q1, q2, q3, q4, q5, q7, q9, q10, q16, q30, q48, q57, q60, q99, q255, q300, q4096, pk_mul, nI_add, pk_sub, n_gin, n_cl, ifle_t, ifle_f, iflt_t, iflt_f, ifeq_t, ifeq_f, ifne_t, ifne_f, ifm_f, ifm_t, iflm_f, ifm0_t, ifm0_f, ob, g1n, g0n, ↓reduceIte, not_true_eq_false, not_false_eq_true, f3', if_neg m1_nle, f_X6_cells, hJ]
          rw [q1] at cm
          exact cm
      · refine ⟨0, FI1, Or.inl rfl, ?_, ?_⟩
        · simp (disch := omega) only [q0, q1, q2, q3, q4, q5, q7, q9, q10, q16, q30, q48, q57, q60, q99, q255, q300, q4096, pk_mul, nI_add, pk_sub, n_gin, n_cl, ifle_t, ifle_f, iflt_t, iflt_f, ifeq_t, ifeq_f, ifne_t, ifne_f, ifm_f, ifm_t, iflm_f, ifm0_t, ifm0_f, ob, g1n, g0n, ↓reduceIte, not_true_eq_false, not_false_eq_true, l_sizeOf R (show i < 61 by omega), f_X0_cells, cd', f2']
        · simp (disch := omega) only [q0, q1, q2, q3, q4, q5, q7, q9, q10, q16, q30, q48, q57, q60, q99, q255, q300, q4096, pk_mul, nI_add, pk_sub, n_gin, n_cl, ifle_t, ifle_f, iflt_t, iflt_f, ifeq_t, ifeq_f, ifne_t, ifne_f, ifm_f, ifm_t, iflm_f, ifm0_t, ifm0_f, ob, g1n, g0n, ↓reduceIte, not_true_eq_false, not_false_eq_true, f3']
    · have hcv : ¬ Cov SD (w * h) s z c y b := fun g => hd ((den_cov O (by omega) (by omega) hzN).mpr g)
      rw [bI_f hd] at cd'
      rw [bI_f (fun g => hcv (fun q hq => g q (Nat.zero_le _) hq))] at cm
      refine ⟨0, FI1, Or.inl rfl, ?_, ?_⟩
      · simp (disch := omega) only [q0, q1, q2, q3, q4, q5, q7, q9, q10, q16, q30, q48, q57, q60, q99, q255, q300, q4096, pk_mul, nI_add, pk_sub, n_gin, n_cl, ifle_t, ifle_f, iflt_t, iflt_f, ifeq_t, ifeq_f, ifne_t, ifne_f, ifm_f, ifm_t, iflm_f, ifm0_t, ifm0_f, ob, g1n, g0n, ↓reduceIte, not_true_eq_false, not_false_eq_true, l_sizeOf R (show i < 61 by omega), f_X0_cells, cd']
      · rcases f1 with rfl | ⟨j, j1, rfl⟩
        · have hJ := R'.1
          simp (disch := omega) only [q0, q1, q2, q3, q4, q5, q7, q9, q10, q16, q30, q48, q57, q60, q99, q255, q300, q4096, pk_mul, nI_add, pk_sub, n_gin, n_cl, ifle_t, ifle_f, iflt_t, iflt_f, ifeq_t, ifeq_f, ifne_t, ifne_f, ifm_f, ifm_t, iflm_f, ifm0_t, ifm0_f, ob, g1n, g0n, ↓reduceIte, not_true_eq_false, not_false_eq_true, f3', if_neg m1_nle, f_X6_cells, hJ]
          rw [q0] at cm
          exact cm
        · simp (disch := omega) only [q0, q1, q2, q3, q4, q5, q7, q9, q10, q16, q30, q48, q57, q60, q99, q255, q300, q4096, pk_mul, nI_add, pk_sub, n_gin, n_cl, ifle_t, ifle_f, iflt_t, iflt_f, ifeq_t, ifeq_f, ifne_t, ifne_f, ifm_f, ifm_t, iflm_f, ifm0_t, ifm0_f, ob, g1n, g0n, ↓reduceIte, not_true_eq_false, not_false_eq_true, f3']
  · refine ⟨0, FI1, Or.inl rfl, ?_, ?_⟩
    · simp (disch := omega) only [q0, q1, q2, q3, q4, q5, q7, q9, q10, q16, q30, q48, q57, q60, q99, q255, q300, q4096, pk_mul, nI_add, pk_sub, n_gin, n_cl, ifle_t, ifle_f, iflt_t, iflt_f, ifeq_t, ifeq_f, ifne_t, ifne_f, ifm_f, ifm_t, iflm_f, ifm0_t, ifm0_f, ob, g1n, g0n, ↓reduceIte, not_true_eq_false, not_false_eq_true, l_sizeOf R (show i < 61 by omega), f_X0_cells]
    · rcases f1 with rfl | ⟨j, j1, rfl⟩
      · have hJ := R'.1
        simp (disch := omega) only [q0, q1, q2, q3, q4, q5, q7, q9, q10, q16, q30, q48, q57, q60, q99, q255, q300, q4096, pk_mul, nI_add, pk_sub, n_gin, n_cl, ifle_t, ifle_f, iflt_t, iflt_f, ifeq_t, ifeq_f, ifne_t, ifne_f, ifm_f, ifm_t, iflm_f, ifm0_t, ifm0_f, ob, g1n, g0n, ↓reduceIte, not_true_eq_false, not_false_eq_true, f3', if_neg m1_nle, f_X6_cells, hJ]
      · simp (disch := omega) only [q0, q1, q2, q3, q4, q5, q7, q9, q10, q16, q30, q48, q57, q60, q99, q255, q300, q4096, pk_mul, nI_add, pk_sub, n_gin, n_cl, ifle_t, ifle_f, iflt_t, iflt_f, ifeq_t, ifeq_f, ifne_t, ifne_f, ifm_f, ifm_t, iflm_f, ifm0_t, ifm0_f, ob, g1n, g0n, ↓reduceIte, not_true_eq_false, not_false_eq_true, f3']
end BA
section RI
variable {RK RN RS RC KK KN KS KC SD AN LK LN LS LL JK JN JS JL : Nat → Int32} {s nr nl w h : Nat} {Z : Nat → Nat} {C Y B : Nat → Nat → Nat}
set_option maxHeartbeats 4000000 in
theorem b_right (D0 : 1 ≤ w ∧ w ≤ 4 ∧ 1 ≤ h ∧ h ≤ 4 ∧ 1 ≤ s ∧ s ≤ 6 ∧ 1 ≤ w * h ∧ w * h ≤ 16) (hr : nr ≤ 30) (hR : ∀ i, i < nr → KK i = RK i ∧ KN i = RN i ∧ ∃ n cs, RowR RS RC i n cs ∧ RowR KS KC i n cs ∧ OkR (w * h) n cs) (A : SAns s SD AN) (V : LV (w * h) s nl LK LN LS LL JK JN JS JL Z C Y B) (hnl : nl ≤ 60) {i : Nat} (hi : i < nl) {F : Nat} (hF : 6000 < F) (RT US UB MY KP FI : Nat → Int32) (mC : Int32) :
    ∃ r RT' US' UB' mC' MY' KP' FI', (r = 0 ∨ r = 1) ∧ f_X5_followsFromLinesAhead (nI w) (nI (w * h)) (nI s) (nI (edgeN w h)) (nI (edgeN w h * 2 ^ (w - 1))) (nI nr) SD RK RN RS RC LK LN LS LL F RT US UB (nI i) = some (nI r, RT', US', UB') ∧ f_X6_isRight (nI w) (nI h) (nI s) (nI nr) KK KN KS KC AN JK JN JS JL F mC MY KP FI (nI i) = some (nI r, mC', MY', KP', FI') := by
  obtain ⟨v1, v2, v3, v4, v5⟩ := V i hi
  have hs0 : f_X1_numberOf LN (nI i) = some (LN i) := by
    simp (disch := omega) only [q0, q1, q2, q3, q4, q5, q7, q9, q10, q16, q30, q48, q57, q60, q99, q255, q300, q4096, pk_mul, nI_add, pk_sub, n_gin, n_cl, ifle_t, ifle_f, iflt_t, iflt_f, ifeq_t, ifeq_f, ifne_t, ifne_f, ifm_f, ifm_t, iflm_f, ifm0_t, ifm0_f, ob, g1n, g0n, ↓reduceIte, not_true_eq_false, not_false_eq_true, f_X1_numberOf]
  have hs1 : f_X1_kindOf LK (nI i) = some (LK i) := by
    simp (disch := omega) only [q0, q1, q2, q3, q4, q5, q7, q9, q10, q16, q30, q48, q57, q60, q99, q255, q300, q4096, pk_mul, nI_add, pk_sub, n_gin, n_cl, ifle_t, ifle_f, iflt_t, iflt_f, ifeq_t, ifeq_f, ifne_t, ifne_f, ifm_f, ifm_t, iflm_f, ifm0_t, ifm0_f, ob, g1n, g0n, ↓reduceIte, not_true_eq_false, not_false_eq_true, f_X1_kindOf]
  unfold f_X5_followsFromLinesAhead f_X6_isRight
  rw [hs0, ob, hs1, ob, n_gin (by omega) (by omega), n_cl (by omega), v1]
  by_cases k0 : LK i = 0
  · rw [if_pos k0, if_pos k0]
    unfold f_X6_byRule
    rw [n_gin (by omega) (by omega), n_cl (by omega), v2]
    rcases pk_ix (LN i) (n := nr) (by omega) with h1 | h1 | ⟨r, hr1, h1⟩
    · rw [q0] at h1
      refine ⟨0, RT, US, UB, mC, MY, KP, FI, Or.inl rfl, ?_, ?_⟩
      · simp (disch := omega) only [q0, q1, q2, q3, q4, q5, q7, q9, q10, q16, q30, q48, q57, q60, q99, q255, q300, q4096, pk_mul, nI_add, pk_sub, n_gin, n_cl, ifle_t, ifle_f, iflt_t, iflt_f, ifeq_t, ifeq_f, ifne_t, ifne_f, ifm_f, ifm_t, iflm_f, ifm0_t, ifm0_f, ob, g1n, g0n, ↓reduceIte, not_true_eq_false, not_false_eq_true, f_X3_has, if_pos h1]
      · simp (disch := omega) only [q0, q1, q2, q3, q4, q5, q7, q9, q10, q16, q30, q48, q57, q60, q99, q255, q300, q4096, pk_mul, nI_add, pk_sub, n_gin, n_cl, ifle_t, ifle_f, iflt_t, iflt_f, ifeq_t, ifeq_f, ifne_t, ifne_f, ifm_f, ifm_t, iflm_f, ifm0_t, ifm0_f, ob, g1n, g0n, ↓reduceIte, not_true_eq_false, not_false_eq_true, if_pos h1]
    · have h2 := x_neg h1 (by omega)
      have h3 : ¬ LN i < nI nr := Int32.not_lt.mpr h1
      refine ⟨0, RT, US, UB, mC, MY, KP, FI, Or.inl rfl, ?_, ?_⟩
      · simp (disch := omega) only [q0, q1, q2, q3, q4, q5, q7, q9, q10, q16, q30, q48, q57, q60, q99, q255, q300, q4096, pk_mul, nI_add, pk_sub, n_gin, n_cl, ifle_t, ifle_f, iflt_t, iflt_f, ifeq_t, ifeq_f, ifne_t, ifne_f, ifm_f, ifm_t, iflm_f, ifm0_t, ifm0_f, ob, g1n, g0n, ↓reduceIte, not_true_eq_false, not_false_eq_true, f_X3_has, if_neg h2, if_pos h1]
      · simp (disch := omega) only [q0, q1, q2, q3, q4, q5, q7, q9, q10, q16, q30, q48, q57, q60, q99, q255, q300, q4096, pk_mul, nI_add, pk_sub, n_gin, n_cl, ifle_t, ifle_f, iflt_t, iflt_f, ifeq_t, ifeq_f, ifne_t, ifne_f, ifm_f, ifm_t, iflm_f, ifm0_t, ifm0_f, ob, g1n, g0n, ↓reduceIte, not_true_eq_false, not_false_eq_true, if_neg h2, if_neg h3]
    · obtain ⟨b1, b2, n, cs, b3, b4, b5⟩ := hR r hr1
      obtain ⟨RT', US', c1⟩ := c_byRule (RK := RK) (RN := RN) D0 b3 b5 v3 (by omega) v5 (F := F) (by omega) RT US
      obtain ⟨FI', m1⟩ := m_L26 (KK := KK) (KN := KN) (JN := JN) (w := w) b4 b5.2 (by omega) (by omega) (by omega) (by omega) (by omega) v4 (by omega) v5 hF (nI nr) FI n 0 F 1 (by omega) (by have := b3.2.2.1; omega) (fun _ => by rw [Nat.pow_zero]) (fun g => by omega) (by omega)
      rw [b1, b2] at m1
      rw [h1]
      by_cases hp : s ^ n ≤ 4096 ∧ ByRuleP (RK r) (RN r) w s n (Z i) cs (C i) (Y i) (B i)
      · rw [bI_t hp] at c1 m1
        refine ⟨1, RT', US', UB, mC, MY, KP, FI', Or.inr rfl, ?_, ?_⟩
        · simp (disch := omega) only [q0, q1, q2, q3, q4, q5, q7, q9, q10, q16, q30, q48, q57, q60, q99, q255, q300, q4096, pk_mul, nI_add, pk_sub, n_gin, n_cl, ifle_t, ifle_f, iflt_t, iflt_f, ifeq_t, ifeq_f, ifne_t, ifne_f, ifm_f, ifm_t, iflm_f, ifm0_t, ifm0_f, ob, g1n, g0n, ↓reduceIte, not_true_eq_false, not_false_eq_true, f_X3_has, c1]
        · rw [q1] at m1
          simp (disch := omega) only [q0, q1, q2, q3, q4, q5, q7, q9, q10, q16, q30, q48, q57, q60, q99, q255, q300, q4096, pk_mul, nI_add, pk_sub, n_gin, n_cl, ifle_t, ifle_f, iflt_t, iflt_f, ifeq_t, ifeq_f, ifne_t, ifne_f, ifm_f, ifm_t, iflm_f, ifm0_t, ifm0_f, ob, g1n, g0n, ↓reduceIte, not_true_eq_false, not_false_eq_true, m1]
      · rw [bI_f hp] at c1 m1
        refine ⟨0, RT', US', UB, mC, MY, KP, FI', Or.inl rfl, ?_, ?_⟩
        · simp (disch := omega) only [q0, q1, q2, q3, q4, q5, q7, q9, q10, q16, q30, q48, q57, q60, q99, q255, q300, q4096, pk_mul, nI_add, pk_sub, n_gin, n_cl, ifle_t, ifle_f, iflt_t, iflt_f, ifeq_t, ifeq_f, ifne_t, ifne_f, ifm_f, ifm_t, iflm_f, ifm0_t, ifm0_f, ob, g1n, g0n, ↓reduceIte, not_true_eq_false, not_false_eq_true, f_X3_has, c1]
        · rw [q0] at m1
          simp (disch := omega) only [q0, q1, q2, q3, q4, q5, q7, q9, q10, q16, q30, q48, q57, q60, q99, q255, q300, q4096, pk_mul, nI_add, pk_sub, n_gin, n_cl, ifle_t, ifle_f, iflt_t, iflt_f, ifeq_t, ifeq_f, ifne_t, ifne_f, ifm_f, ifm_t, iflm_f, ifm0_t, ifm0_f, ob, g1n, g0n, ↓reduceIte, not_true_eq_false, not_false_eq_true, m1]
  · rw [if_neg k0, if_neg k0]
    by_cases k1 : LK i = 1
    · rw [if_pos k1, if_pos k1]
      obtain ⟨r, US', MY', Mf, a1, a2, a3, _⟩ := b_refute V hnl (by omega) (by omega) (by omega) hi hF US MY mC
      rw [a2, a3, ob, ob]
      refine ⟨r, RT, US', UB, nI r, MY', KP, FI, a1, ?_, ?_⟩
      · rcases a1 with rfl | rfl
        · exact g0n _
        · exact g1n _
      · rcases a1 with rfl | rfl
        · exact g0n _
        · exact g1n _
    · rw [if_neg k1, if_neg k1]
      by_cases k2 : LK i = 2
      · rw [if_pos k2, if_pos k2]
        rcases pk_ix (LN i) (n := w * h) (by omega) with h1 | h1 | ⟨c0, hc, h1⟩
        · rw [q0] at h1
          refine ⟨0, RT, US, UB, mC, MY, KP, FI, Or.inl rfl, ?_, ?_⟩
          · simp (disch := omega) only [q0, q1, q2, q3, q4, q5, q7, q9, q10, q16, q30, q48, q57, q60, q99, q255, q300, q4096, pk_mul, nI_add, pk_sub, n_gin, n_cl, ifle_t, ifle_f, iflt_t, iflt_f, ifeq_t, ifeq_f, ifne_t, ifne_f, ifm_f, ifm_t, iflm_f, ifm0_t, ifm0_f, ob, g1n, g0n, ↓reduceIte, not_true_eq_false, not_false_eq_true, f_X0_hasCell, if_pos h1]
          · simp (disch := omega) only [q0, q1, q2, q3, q4, q5, q7, q9, q10, q16, q30, q48, q57, q60, q99, q255, q300, q4096, pk_mul, nI_add, pk_sub, n_gin, n_cl, ifle_t, ifle_f, iflt_t, iflt_f, ifeq_t, ifeq_f, ifne_t, ifne_f, ifm_f, ifm_t, iflm_f, ifm0_t, ifm0_f, ob, g1n, g0n, ↓reduceIte, not_true_eq_false, not_false_eq_true, f_X6_bySplit, v2, f_X6_isCell, if_pos h1]
        · have h2 := x_neg h1 (by omega)
          refine ⟨0, RT, US, UB, mC, MY, KP, FI, Or.inl rfl, ?_, ?_⟩
          · simp (disch := omega) only [q0, q1, q2, q3, q4, q5, q7, q9, q10, q16, q30, q48, q57, q60, q99, q255, q300, q4096, pk_mul, nI_add, pk_sub, n_gin, n_cl, ifle_t, ifle_f, iflt_t, iflt_f, ifeq_t, ifeq_f, ifne_t, ifne_f, ifm_f, ifm_t, iflm_f, ifm0_t, ifm0_f, ob, g1n, g0n, ↓reduceIte, not_true_eq_false, not_false_eq_true, f_X0_hasCell, if_neg h2, if_pos h1]
          · simp (disch := omega) only [q0, q1, q2, q3, q4, q5, q7, q9, q10, q16, q30, q48, q57, q60, q99, q255, q300, q4096, pk_mul, nI_add, pk_sub, n_gin, n_cl, ifle_t, ifle_f, iflt_t, iflt_f, ifeq_t, ifeq_f, ifne_t, ifne_f, ifm_f, ifm_t, iflm_f, ifm0_t, ifm0_f, ob, g1n, g0n, ↓reduceIte, not_true_eq_false, not_false_eq_true, f_X6_bySplit, v2, f_X6_isCell, f_X6_cells, if_neg h2, if_pos h1]
        · obtain ⟨r, US', UB', MY', KP', mC', a1, a2, a3⟩ := b_split V hnl (w := w) (h := h) (by omega) rfl (by omega) (by omega) hi hc (by rw [v2]; exact h1) hF US UB MY KP mC
          rw [h1, a3, ob]
          refine ⟨r, RT, US', UB', mC', MY', KP', FI, a1, ?_, ?_⟩
          · rcases a1 with rfl | rfl
            · simp (disch := omega) only [q0, q1, q2, q3, q4, q5, q7, q9, q10, q16, q30, q48, q57, q60, q99, q255, q300, q4096, pk_mul, nI_add, pk_sub, n_gin, n_cl, ifle_t, ifle_f, iflt_t, iflt_f, ifeq_t, ifeq_f, ifne_t, ifne_f, ifm_f, ifm_t, iflm_f, ifm0_t, ifm0_f, ob, g1n, g0n, ↓reduceIte, not_true_eq_false, not_false_eq_true, f_X0_hasCell, a2]
            · simp (disch := omega) only [q0, q1, q2, q3, q4, q5, q7, q9, q10, q16, q30, q48, q57, q60, q99, q255, q300, q4096, pk_mul, nI_add, pk_sub, n_gin, n_cl, ifle_t, ifle_f, iflt_t, iflt_f, ifeq_t, ifeq_f, ifne_t, ifne_f, ifm_f, ifm_t, iflm_f, ifm0_t, ifm0_f, ob, g1n, g0n, ↓reduceIte, not_true_eq_false, not_false_eq_true, f_X0_hasCell, a2]
          · rcases a1 with rfl | rfl
            · exact g0n _
            · exact g1n _
      · rw [if_neg k2, if_neg k2]
        obtain ⟨r, FI', a1, a2, a3⟩ := b_barred (RK := RK) (RN := RN) D0 hr hR A v3 v4 (by omega) v5 (F := F) (by omega) FI
        rw [a2, a3, ob, ob]
        refine ⟨r, RT, US, UB, mC, MY, KP, FI', a1, ?_, ?_⟩
        · rcases a1 with rfl | rfl
          · exact g0n _
          · exact g1n _
        · rcases a1 with rfl | rfl
          · exact g0n _
          · exact g1n _
theorem b_check_L (D0 : 1 ≤ w ∧ w ≤ 4 ∧ 1 ≤ h ∧ h ≤ 4 ∧ 1 ≤ s ∧ s ≤ 6 ∧ 1 ≤ w * h ∧ w * h ≤ 16) (hr : nr ≤ 30) (hR : ∀ i, i < nr → KK i = RK i ∧ KN i = RN i ∧ ∃ n cs, RowR RS RC i n cs ∧ RowR KS KC i n cs ∧ OkR (w * h) n cs) (A : SAns s SD AN) (V : LV (w * h) s nl LK LN LS LL JK JN JS JL Z C Y B) (hnl : nl ≤ 60) {F : Nat} (hF : 6000 < F) :
    ∀ d k m RT US UB MY KP FI mC, k + d = nl → d < m → ∃ q RT' US' UB' mC' MY' KP' FI', q ≤ nl ∧ f_X5_check_L2 (nI w) (nI (w * h)) (nI s) (nI (edgeN w h)) (nI (edgeN w h * 2 ^ (w - 1))) (nI nr) (nI nl) SD RK RN RS RC LK LN LS LL F m (nI k) RT US UB = some (nI q, RT', US', UB') ∧ f_X6_right_L2 (nI w) (nI h) (nI s) (nI nr) (nI nl) KK KN KS KC AN JK JN JS JL F m (nI k) mC MY KP FI = some (nI q, mC', MY', KP', FI') := by
  intro d
  induction d with
  | zero =>
    intro k m RT US UB MY KP FI mC e1 e2
    obtain ⟨m, rfl⟩ : ∃ m', m = m' + 1 := ⟨m - 1, by omega⟩
    refine ⟨k, RT, US, UB, mC, MY, KP, FI, by omega, ?_, ?_⟩
    · rw [f_X5_check_L2]
      simp (disch := omega) only [q0, q1, q2, q3, q4, q5, q7, q9, q10, q16, q30, q48, q57, q60, q99, q255, q300, q4096, pk_mul, nI_add, pk_sub, n_gin, n_cl, ifle_t, ifle_f, iflt_t, iflt_f, ifeq_t, ifeq_f, ifne_t, ifne_f, ifm_f, ifm_t, iflm_f, ifm0_t, ifm0_f, ob, g1n, g0n, ↓reduceIte, not_true_eq_false, not_false_eq_true, f_X1_count]
    · rw [f_X6_right_L2]
      simp (disch := omega) only [q0, q1, q2, q3, q4, q5, q7, q9, q10, q16, q30, q48, q57, q60, q99, q255, q300, q4096, pk_mul, nI_add, pk_sub, n_gin, n_cl, ifle_t, ifle_f, iflt_t, iflt_f, ifeq_t, ifeq_f, ifne_t, ifne_f, ifm_f, ifm_t, iflm_f, ifm0_t, ifm0_f, ob, g1n, g0n, ↓reduceIte, not_true_eq_false, not_false_eq_true]
  | succ d ih =>
    intro k m RT US UB MY KP FI mC e1 e2
    obtain ⟨m, rfl⟩ : ∃ m', m = m' + 1 := ⟨m - 1, by omega⟩
    obtain ⟨r, RT1, US1, UB1, mC1, MY1, KP1, FI1, a1, a2, a3⟩ := b_right D0 hr hR A V hnl (show k < nl by omega) hF RT US UB MY KP FI mC
    rw [f_X5_check_L2, f_X6_right_L2]
    rcases a1 with rfl | rfl
    · refine ⟨k, RT1, US1, UB1, mC1, MY1, KP1, FI1, by omega, ?_, ?_⟩
      · simp (disch := omega) only [q0, q1, q2, q3, q4, q5, q7, q9, q10, q16, q30, q48, q57, q60, q99, q255, q300, q4096, pk_mul, nI_add, pk_sub, n_gin, n_cl, ifle_t, ifle_f, iflt_t, iflt_f, ifeq_t, ifeq_f, ifne_t, ifne_f, ifm_f, ifm_t, iflm_f, ifm0_t, ifm0_f, ob, g1n, g0n, ↓reduceIte, not_true_eq_false, not_false_eq_true, f_X1_count, a2]
      · simp (disch := omega) only [q0, q1, q2, q3, q4, q5, q7, q9, q10, q16, q30, q48, q57, q60, q99, q255, q300, q4096, pk_mul, nI_add, pk_sub, n_gin, n_cl, ifle_t, ifle_f, iflt_t, iflt_f, ifeq_t, ifeq_f, ifne_t, ifne_f, ifm_f, ifm_t, iflm_f, ifm0_t, ifm0_f, ob, g1n, g0n, ↓reduceIte, not_true_eq_false, not_false_eq_true, a3]
    · obtain ⟨q, RT', US', UB', mC', MY', KP', FI', b0, b1, b2⟩ := ih (k + 1) m RT1 US1 UB1 MY1 KP1 FI1 mC1 (by omega) (by omega)
      refine ⟨q, RT', US', UB', mC', MY', KP', FI', b0, ?_, ?_⟩
      · simp (disch := omega) only [q0, q1, q2, q3, q4, q5, q7, q9, q10, q16, q30, q48, q57, q60, q99, q255, q300, q4096, pk_mul, nI_add, pk_sub, n_gin, n_cl, ifle_t, ifle_f, iflt_t, iflt_f, ifeq_t, ifeq_f, ifne_t, ifne_f, ifm_f, ifm_t, iflm_f, ifm0_t, ifm0_f, ob, g1n, g0n, ↓reduceIte, not_true_eq_false, not_false_eq_true, f_X1_count, a2]
        exact b1
      · simp (disch := omega) only [q0, q1, q2, q3, q4, q5, q7, q9, q10, q16, q30, q48, q57, q60, q99, q255, q300, q4096, pk_mul, nI_add, pk_sub, n_gin, n_cl, ifle_t, ifle_f, iflt_t, iflt_f, ifeq_t, ifeq_f, ifne_t, ifne_f, ifm_f, ifm_t, iflm_f, ifm0_t, ifm0_f, ob, g1n, g0n, ↓reduceIte, not_true_eq_false, not_false_eq_true, a3]
        exact b2
/-- 2 when one of the first k lines is barred -/
noncomputable def prf (LK : Nat → Int32) (k : Nat) : Nat := @ite _ (∃ j, j < k ∧ LK j = 3) (Classical.propDecidable _) 2 1
theorem b_proves_L (D0 : 1 ≤ w ∧ w ≤ 4 ∧ 1 ≤ h ∧ h ≤ 4 ∧ 1 ≤ s ∧ s ≤ 6 ∧ 1 ≤ w * h ∧ w * h ≤ 16) (hr : nr ≤ 30) (hR : ∀ i, i < nr → KK i = RK i ∧ KN i = RN i ∧ ∃ n cs, RowR RS RC i n cs ∧ RowR KS KC i n cs ∧ OkR (w * h) n cs) (A : SAns s SD AN) (V : LV (w * h) s nl LK LN LS LL JK JN JS JL Z C Y B) (hnl : nl ≤ 60) {F : Nat} (hF : 6000 < F) :
    ∀ d k m RT US UB MY KP FI mC, k + d = nl → d < m → ∃ q p RT' US' UB' mC' MY' KP' FI', ((q < nl ∧ p = 0) ∨ (q = nl ∧ p = prf LK nl)) ∧ f_X5_proves_L31 (nI w) (nI (w * h)) (nI s) (nI (edgeN w h)) (nI (edgeN w h * 2 ^ (w - 1))) (nI nr) (nI nl) SD RK RN RS RC LK LN LS LL F m (nI nl) (nI (prf LK k)) (nI k) RT US UB = some (nI p, RT', US', UB') ∧ f_X6_right_L2 (nI w) (nI h) (nI s) (nI nr) (nI nl) KK KN KS KC AN JK JN JS JL F m (nI k) mC MY KP FI = some (nI q, mC', MY', KP', FI') := by
  intro d
  induction d with
  | zero =>
    intro k m RT US UB MY KP FI mC e1 e2
    obtain ⟨m, rfl⟩ : ∃ m', m = m' + 1 := ⟨m - 1, by omega⟩
    obtain rfl : k = nl := by omega
    refine ⟨k, prf LK k, RT, US, UB, mC, MY, KP, FI, Or.inr ⟨rfl, rfl⟩, ?_, ?_⟩
    · rw [f_X5_proves_L31]
      simp (disch := omega) only [q0, q1, q2, q3, q4, q5, q7, q9, q10, q16, q30, q48, q57, q60, q99, q255, q300, q4096, pk_mul, nI_add, pk_sub, n_gin, n_cl, ifle_t, ifle_f, iflt_t, iflt_f, ifeq_t, ifeq_f, ifne_t, ifne_f, ifm_f, ifm_t, iflm_f, ifm0_t, ifm0_f, ob, g1n, g0n, ↓reduceIte, not_true_eq_false, not_false_eq_true]
    · rw [f_X6_right_L2]
      simp (disch := omega) only [q0, q1, q2, q3, q4, q5, q7, q9, q10, q16, q30, q48, q57, q60, q99, q255, q300, q4096, pk_mul, nI_add, pk_sub, n_gin, n_cl, ifle_t, ifle_f, iflt_t, iflt_f, ifeq_t, ifeq_f, ifne_t, ifne_f, ifm_f, ifm_t, iflm_f, ifm0_t, ifm0_f, ob, g1n, g0n, ↓reduceIte, not_true_eq_false, not_false_eq_true]
  | succ d ih =>
    intro k m RT US UB MY KP FI mC e1 e2
    obtain ⟨m, rfl⟩ : ∃ m', m = m' + 1 := ⟨m - 1, by omega⟩
    obtain ⟨r, RT1, US1, UB1, mC1, MY1, KP1, FI1, a1, a2, a3⟩ := b_right D0 hr hR A V hnl (show k < nl by omega) hF RT US UB MY KP FI mC
    rw [f_X5_proves_L31, f_X6_right_L2]
    rcases a1 with rfl | rfl
    · refine ⟨k, 0, RT1, US1, UB1, mC1, MY1, KP1, FI1, Or.inl ⟨by omega, rfl⟩, ?_, ?_⟩
      · simp (disch := omega) only [q0, q1, q2, q3, q4, q5, q7, q9, q10, q16, q30, q48, q57, q60, q99, q255, q300, q4096, pk_mul, nI_add, pk_sub, n_gin, n_cl, ifle_t, ifle_f, iflt_t, iflt_f, ifeq_t, ifeq_f, ifne_t, ifne_f, ifm_f, ifm_t, iflm_f, ifm0_t, ifm0_f, ob, g1n, g0n, ↓reduceIte, not_true_eq_false, not_false_eq_true, a2]
      · simp (disch := omega) only [q0, q1, q2, q3, q4, q5, q7, q9, q10, q16, q30, q48, q57, q60, q99, q255, q300, q4096, pk_mul, nI_add, pk_sub, n_gin, n_cl, ifle_t, ifle_f, iflt_t, iflt_f, ifeq_t, ifeq_f, ifne_t, ifne_f, ifm_f, ifm_t, iflm_f, ifm0_t, ifm0_f, ob, g1n, g0n, ↓reduceIte, not_true_eq_false, not_false_eq_true, a3]
    · obtain ⟨q, p, RT', US', UB', mC', MY', KP', FI', b0, b1, b2⟩ := ih (k + 1) m RT1 US1 UB1 MY1 KP1 FI1 mC1 (by omega) (by omega)
      refine ⟨q, p, RT', US', UB', mC', MY', KP', FI', b0, ?_, ?_⟩
      · by_cases h3 : LK k = 3
        · have hp : prf LK (k + 1) = 2 := by unfold prf; exact if_pos ⟨k, by omega, h3⟩
          rw [hp] at b1
          rw [q3] at h3
          simp (disch := omega) only [q0, q1, q2, q3, q4, q5, q7, q9, q10, q16, q30, q48, q57, q60, q99, q255, q300, q4096, pk_mul, nI_add, pk_sub, n_gin, n_cl, ifle_t, ifle_f, iflt_t, iflt_f, ifeq_t, ifeq_f, ifne_t, ifne_f, ifm_f, ifm_t, iflm_f, ifm0_t, ifm0_f, ob, g1n, g0n, ↓reduceIte, not_true_eq_false, not_false_eq_true, a2, f_X1_kindOf, if_neg (fun q : ¬ LK k = nI 3 => q h3), f_X5_proves_J60]
          exact b1
        · have hp : prf LK (k + 1) = prf LK k := by
            unfold prf
            by_cases hx : ∃ j, j < k ∧ LK j = 3
            · obtain ⟨j, j1, j2⟩ := hx
              rw [if_pos ⟨j, by omega, j2⟩, if_pos ⟨j, j1, j2⟩]
            · rw [if_neg hx, if_neg (fun ⟨j, j1, j2⟩ => by
                by_cases hj : j = k
                · subst hj; exact h3 j2
                · exact hx ⟨j, by omega, j2⟩)]
          rw [hp] at b1
          rw [q3] at h3
          simp (disch := omega) only [q0, q1, q2, q3, q4, q5, q7, q9, q10, q16, q30, q48, q57, q60, q99, q255, q300, q4096, pk_mul, nI_add, pk_sub, n_gin, n_cl, ifle_t, ifle_f, iflt_t, iflt_f, ifeq_t, ifeq_f, ifne_t, ifne_f, ifm_f, ifm_t, iflm_f, ifm0_t, ifm0_f, ob, g1n, g0n, ↓reduceIte, not_true_eq_false, not_false_eq_true, a2, f_X1_kindOf, if_pos h3, f_X5_proves_J60]
          exact b1
      · simp (disch := omega) only [q0, q1, q2, q3, q4, q5, q7, q9, q10, q16, q30, q48, q57, q60, q99, q255, q300, q4096, pk_mul, nI_add, pk_sub, n_gin, n_cl, ifle_t, ifle_f, iflt_t, iflt_f, ifeq_t, ifeq_f, ifne_t, ifne_f, ifm_f, ifm_t, iflm_f, ifm0_t, ifm0_f, ob, g1n, g0n, ↓reduceIte, not_true_eq_false, not_false_eq_true, a3]
        exact b2
theorem m_prf_L (hJ : ∀ i, i < nl → JK i = LK i) (hnl : nl ≤ 60) (F : Nat) (mW mH mS mR mT mC : Int32) (MY KP FI : Nat → Int32) : ∀ d k m, k + d = nl → d < m → (∀ j, j < k → ¬ LK j = 3) → f_X6_proves_L41 mW mH mS mR (nI nl) KK KN KS KC AN JK JN JS JL F m (nI k) mT mC MY KP FI = some (nI (prf LK nl), mT, mC, MY, KP, FI) := by
  intro d
  induction d with
  | zero =>
    intro k m e1 e2 e3
    obtain ⟨m, rfl⟩ : ∃ m', m = m' + 1 := ⟨m - 1, by omega⟩
    obtain rfl : k = nl := by omega
    have hp : prf LK k = 1 := by unfold prf; exact if_neg (fun ⟨j, j1, j2⟩ => e3 j j1 j2)
    rw [f_X6_proves_L41, hp]
    simp (disch := omega) only [q0, q1, q2, q3, q4, q5, q7, q9, q10, q16, q30, q48, q57, q60, q99, q255, q300, q4096, pk_mul, nI_add, pk_sub, n_gin, n_cl, ifle_t, ifle_f, iflt_t, iflt_f, ifeq_t, ifeq_f, ifne_t, ifne_f, ifm_f, ifm_t, iflm_f, ifm0_t, ifm0_f, ob, g1n, g0n, ↓reduceIte, not_true_eq_false, not_false_eq_true]
  | succ d ih =>
    intro k m e1 e2 e3
    obtain ⟨m, rfl⟩ : ∃ m', m = m' + 1 := ⟨m - 1, by omega⟩
    have hk := hJ k (by omega)
    rw [f_X6_proves_L41]
    by_cases h3 : LK k = 3
    · have hp : prf LK nl = 2 := by unfold prf; exact if_pos ⟨k, by omega, h3⟩
      rw [hp]
      rw [q3] at h3
      simp (disch := omega) only [q0, q1, q2, q3, q4, q5, q7, q9, q10, q16, q30, q48, q57, q60, q99, q255, q300, q4096, pk_mul, nI_add, pk_sub, n_gin, n_cl, ifle_t, ifle_f, iflt_t, iflt_f, ifeq_t, ifeq_f, ifne_t, ifne_f, ifm_f, ifm_t, iflm_f, ifm0_t, ifm0_f, ob, g1n, g0n, ↓reduceIte, not_true_eq_false, not_false_eq_true, hk, if_neg (fun q : ¬ LK k = nI 3 => q h3)]
    · have e := ih (k + 1) m (by omega) (by omega) (fun j hj => by
        by_cases hjk : j = k
        · subst hjk; exact h3
        · exact e3 j (by omega))
      rw [q3] at h3
      simp (disch := omega) only [q0, q1, q2, q3, q4, q5, q7, q9, q10, q16, q30, q48, q57, q60, q99, q255, q300, q4096, pk_mul, nI_add, pk_sub, n_gin, n_cl, ifle_t, ifle_f, iflt_t, iflt_f, ifeq_t, ifeq_f, ifne_t, ifne_f, ifm_f, ifm_t, iflm_f, ifm0_t, ifm0_f, ob, g1n, g0n, ↓reduceIte, not_true_eq_false, not_false_eq_true, hk, if_pos h3]
      exact e
end RI
theorem P_check (gw gc gs ge gf cR cL cB pB : Int32) (SD RK RN RS RC RT LK LN LS LL US UB BB : Nat → Int32) (mT mW mH mS mR mL mC mZ mA mB : Int32) (KK KN KS KC AN JK JN JS JL MY KP FI TX : Nat → Int32) (hs : Sim gw gc gs ge gf cR cL cB pB SD RK RN RS RC RT LK LN LS LL US UB BB mT mW mH mS mR mL mC mZ mA mB KK KN KS KC AN JK JN JS JL MY KP FI TX) : ∃ (r : Int32 × (Nat → Int32) × (Nat → Int32) × (Nat → Int32)) (t : Int32 × Int32 × Int32 × (Nat → Int32) × (Nat → Int32) × (Nat → Int32)), f_X5_check gw gc gs ge gf cR cL SD RK RN RS RC LK LN LS LL FF RT US UB = some r ∧ f_X6_check mW mH mS mR mL KK KN KS KC AN JK JN JS JL FF mT mC MY KP FI = some t ∧ r.1 = t.1 ∧ Sim gw gc gs ge gf cR cL cB pB SD RK RN RS RC r.2.1 LK LN LS LL r.2.2.1 r.2.2.2 BB t.2.1 mW mH mS mR mL t.2.2.1 mZ mA mB KK KN KS KC AN JK JN JS JL t.2.2.2.1 t.2.2.2.2.1 t.2.2.2.2.2 TX := by
  obtain ⟨w, h, s, ⟨D0, rfl, rfl, rfl, rfl, rfl, rfl, rfl, rfl⟩, ⟨nr, hr, rfl, rfl, hz, hR⟩, A, ⟨nl, hl, rfl, rfl, hL⟩, T⟩ := hs
  have D : Dim (nI w) (nI (w * h)) (nI s) (nI (edgeN w h)) (nI (edgeN w h * 2 ^ (w - 1))) (nI w) (nI h) (nI s) w h s := ⟨D0, rfl, rfl, rfl, rfl, rfl, rfl, rfl, rfl⟩
  have S0 : SRules (w * h) (nI nr) (nI nr) RK RN RS RC KK KN KS KC := ⟨nr, hr, rfl, rfl, hz, hR⟩
  have S1 : SLines (w * h) s (nI nl) (nI nl) LK LN LS LL JK JN JS JL := ⟨nl, hl, rfl, rfl, hL⟩
  obtain ⟨Z, C, Y, B, V⟩ := lines_fn hL
  obtain ⟨q, RT', US', UB', mC', MY', KP', FI', a0, a1, a2⟩ := b_check_L D0 hr hR A V hl (F := FF) (by unfold FF; omega) nl 0 FF RT US UB MY KP FI mC (by omega) (by unfold FF; omega)
  refine ⟨(nI q, RT', US', UB'), (nI q, 0, mC', MY', KP', FI'), a1, ?_, rfl, sim_mk D S0 A S1 T⟩
  unfold f_X6_check f_X6_right
  rw [show f_X6_right_L2 (nI w) (nI h) (nI s) (nI nr) (nI nl) KK KN KS KC AN JK JN JS JL FF FF 0 mC MY KP FI = _ from a2]
  rfl
theorem P_proves (gw gc gs ge gf cR cL cB pB : Int32) (SD RK RN RS RC RT LK LN LS LL US UB BB : Nat → Int32) (mT mW mH mS mR mL mC mZ mA mB : Int32) (KK KN KS KC AN JK JN JS JL MY KP FI TX : Nat → Int32) (hs : Sim gw gc gs ge gf cR cL cB pB SD RK RN RS RC RT LK LN LS LL US UB BB mT mW mH mS mR mL mC mZ mA mB KK KN KS KC AN JK JN JS JL MY KP FI TX) : ∃ (r : Int32 × (Nat → Int32) × (Nat → Int32) × (Nat → Int32)) (t : Int32 × Int32 × Int32 × (Nat → Int32) × (Nat → Int32) × (Nat → Int32)), f_X5_proves gw gc gs ge gf cR cL SD RK RN RS RC LK LN LS LL FF RT US UB = some r ∧ f_X6_proves mW mH mS mR mL KK KN KS KC AN JK JN JS JL FF mT mC MY KP FI = some t ∧ r.1 = t.1 ∧ Sim gw gc gs ge gf cR cL cB pB SD RK RN RS RC r.2.1 LK LN LS LL r.2.2.1 r.2.2.2 BB t.2.1 mW mH mS mR mL t.2.2.1 mZ mA mB KK KN KS KC AN JK JN JS JL t.2.2.2.1 t.2.2.2.2.1 t.2.2.2.2.2 TX := by
  obtain ⟨w, h, s, ⟨D0, rfl, rfl, rfl, rfl, rfl, rfl, rfl, rfl⟩, ⟨nr, hr, rfl, rfl, hz, hR⟩, A, ⟨nl, hl, rfl, rfl, hL⟩, T⟩ := hs
  have D : Dim (nI w) (nI (w * h)) (nI s) (nI (edgeN w h)) (nI (edgeN w h * 2 ^ (w - 1))) (nI w) (nI h) (nI s) w h s := ⟨D0, rfl, rfl, rfl, rfl, rfl, rfl, rfl, rfl⟩
  have S0 : SRules (w * h) (nI nr) (nI nr) RK RN RS RC KK KN KS KC := ⟨nr, hr, rfl, rfl, hz, hR⟩
  have S1 : SLines (w * h) s (nI nl) (nI nl) LK LN LS LL JK JN JS JL := ⟨nl, hl, rfl, rfl, hL⟩
  obtain ⟨Z, C, Y, B, V⟩ := lines_fn hL
  unfold f_X5_proves f_X6_proves f_X1_count
  by_cases hn : nl = 0
  · simp (disch := omega) only [q0, q1, q2, q3, q4, q5, q7, q9, q10, q16, q30, q48, q57, q60, q99, q255, q300, q4096, pk_mul, nI_add, pk_sub, n_gin, n_cl, ifle_t, ifle_f, iflt_t, iflt_f, ifeq_t, ifeq_f, ifne_t, ifne_f, ifm_f, ifm_t, iflm_f, ifm0_t, ifm0_f, ob, g1n, g0n, ↓reduceIte, not_true_eq_false, not_false_eq_true]
    exact ⟨_, _, rfl, rfl, rfl, sim_mk D S0 A S1 T⟩
  obtain ⟨l, rfl⟩ : ∃ l, nl = l + 1 := ⟨nl - 1, by omega⟩
  obtain ⟨v1, v2, v3, v4, v5⟩ := V l (by omega)
  have hz5 := v5.1
  have g2 := v4.1
  have hl1 : nI (l + 1) - nI 1 = nI l := by rw [pk_sub (by omega)]; rfl
  by_cases hz0 : Z l = 0
  · obtain ⟨q, p, RT', US', UB', mC', MY', KP', FI', a0, a1, a2⟩ := b_proves_L D0 hr hR A V hl (F := FF) (by unfold FF; omega) (l + 1) 0 FF RT US UB MY KP FI mC (by omega) (by unfold FF; omega)
    have hp0 : prf LK 0 = 1 := by unfold prf; exact if_neg (fun ⟨j, j1, _⟩ => by omega)
    rw [hp0] at a1
    have a2' : f_X6_right (nI w) (nI h) (nI s) (nI nr) (nI (l + 1)) KK KN KS KC AN JK JN JS JL FF mC MY KP FI = some (nI q, mC', MY', KP', FI') := by
      unfold f_X6_right
      rw [q0]; exact a2
    simp (disch := omega) only [q0, q1, q2, q3, q4, q5, q7, q9, q10, q16, q30, q48, q57, q60, q99, q255, q300, q4096, pk_mul, nI_add, pk_sub, n_gin, n_cl, ifle_t, ifle_f, iflt_t, iflt_f, ifeq_t, ifeq_f, ifne_t, ifne_f, ifm_f, ifm_t, iflm_f, ifm0_t, ifm0_f, ob, g1n, g0n, ↓reduceIte, not_true_eq_false, not_false_eq_true, hl1, l_sizeOf v3 (show l < 61 by omega), a1, g2, a2']
    rcases a0 with ⟨c1, rfl⟩ | ⟨c1, rfl⟩
    · simp (disch := omega) only [q0, q1, q2, q3, q4, q5, q7, q9, q10, q16, q30, q48, q57, q60, q99, q255, q300, q4096, pk_mul, nI_add, pk_sub, n_gin, n_cl, ifle_t, ifle_f, iflt_t, iflt_f, ifeq_t, ifeq_f, ifne_t, ifne_f, ifm_f, ifm_t, iflm_f, ifm0_t, ifm0_f, ob, g1n, g0n, ↓reduceIte, not_true_eq_false, not_false_eq_true]
      exact ⟨_, _, rfl, rfl, rfl, sim_mk D S0 A S1 T⟩
    · have hm := m_prf_L (KK := KK) (KN := KN) (KS := KS) (KC := KC) (AN := AN) (JN := JN) (JS := JS) (JL := JL) (fun i hi => (V i hi).1) hl FF (nI w) (nI h) (nI s) (nI nr) (nI 0) mC' MY' KP' FI' (l + 1) 0 FF (by omega) (by unfold FF; omega) (fun j hj => by omega)
      subst c1
      simp (disch := omega) only [q0, q1, q2, q3, q4, q5, q7, q9, q10, q16, q30, q48, q57, q60, q99, q255, q300, q4096, pk_mul, nI_add, pk_sub, n_gin, n_cl, ifle_t, ifle_f, iflt_t, iflt_f, ifeq_t, ifeq_f, ifne_t, ifne_f, ifm_f, ifm_t, iflm_f, ifm0_t, ifm0_f, ob, g1n, g0n, ↓reduceIte, not_true_eq_false, not_false_eq_true, hm]
      exact ⟨_, _, rfl, rfl, rfl, sim_mk D S0 A S1 T⟩
  · simp (disch := omega) only [q0, q1, q2, q3, q4, q5, q7, q9, q10, q16, q30, q48, q57, q60, q99, q255, q300, q4096, pk_mul, nI_add, pk_sub, n_gin, n_cl, ifle_t, ifle_f, iflt_t, iflt_f, ifeq_t, ifeq_f, ifne_t, ifne_f, ifm_f, ifm_t, iflm_f, ifm0_t, ifm0_f, ob, g1n, g0n, ↓reduceIte, not_true_eq_false, not_false_eq_true, hl1, l_sizeOf v3 (show l < 61 by omega), g2]
    exact ⟨_, _, rfl, rfl, rfl, sim_mk D S0 A S1 T⟩
