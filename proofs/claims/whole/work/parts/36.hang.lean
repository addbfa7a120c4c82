/-! PURE PART. the reference's hangs -/
section HM
variable {KS KC FI : Nat → Int32} {r n w : Nat} {cs v : Nat → Nat}
def GoodC (w n : Nat) (cs v : Nat → Nat) (O C C' : Nat) : Prop := Sb C C' ∧ Sb C' O ∧ ∀ P, Clo w n cs v P → (∀ j, C.testBit j = true → P j) → ∀ j, C'.testBit j = true → P j
theorem GoodC.rf {O C : Nat} (h : Sb C O) : GoodC w n cs v O C C := ⟨fun _ h => h, h, fun _ _ h => h⟩
theorem GoodC.trans {O A B C : Nat} (h1 : GoodC w n cs v O A B) (h2 : GoodC w n cs v O B C) : GoodC w n cs v O A C :=
  ⟨fun i h => h2.1 i (h1.1 i h), h2.2.1, fun P hP h => h2.2.2 P hP (h1.2.2 P hP h)⟩
theorem GoodC.add {O C k i : Nat} (hO : ∀ j, O.testBit j = true ↔ j < n ∧ v j = 1) (hC : Sb C O) (hk : C.testBit k = true) (hi : O.testBit i = true) (ha : adjB w (cs k) (cs i) = true) : GoodC w n cs v O C (C ||| 2 ^ i) := by
  refine ⟨fun j h => by rw [Nat.testBit_or, h]; rfl, fun j h => ?_, fun P hP h j hj => ?_⟩
  · rw [Nat.testBit_or, Bool.or_eq_true, Nat.testBit_two_pow, decide_eq_true_eq] at h
    rcases h with h | h
    · exact hC j h
    · rw [← h]; exact hi
  · rw [Nat.testBit_or, Bool.or_eq_true, Nat.testBit_two_pow, decide_eq_true_eq] at hj
    rcases hj with hj | hj
    · exact h j hj
    · subst hj
      have h1 := (hO k).mp (hC k hk)
      have h2 := (hO i).mp hi
      exact hP k i h1.1 h2.1 h1.2 h2.2 (h k hk) ha
theorem m_L77 (R : RowR KS KC r n cs) (hw : w < 5) (hw0 : 0 < w) (k59 : Int32 → Int32 → Int32 → Int32 → Int32 → Option Int32) (k68 : Int32 → Int32 → Int32 → Int32 → Int32 → Int32 → Option Int32) (F : Nat) {O : Nat} (hO9 : O < 2 ^ 9) (hO : ∀ j, O.testBit j = true ↔ j < n ∧ v j = 1) (x5 : Int32) {k : Nat} (hk : k < n) :
    ∀ d i m C, i + d = n → d < m → Sb C O → ∃ C', GoodC w n cs v O C C' ∧ (∀ j, i ≤ j → j < n → v j = 1 → C.testBit k = true → adjB w (cs k) (cs j) = true → C'.testBit j = true) ∧
      f_X6_hangs_L77 (nI w) KS KC FI k59 k68 F m (nI r) (nI n) (nI C) (nI O) x5 (nI k) (nI i) = k68 (nI r) (nI n) (nI C') (nI O) x5 (nI (k + 1)) := by
  have ⟨h1, h2, h3, h4, h5⟩ := R
  intro d
  induction d with
  | zero =>
    intro i m C e1 e2 hC
    obtain ⟨m, rfl⟩ : ∃ m', m = m' + 1 := ⟨m - 1, by omega⟩
    refine ⟨C, GoodC.rf hC, fun j a b => by omega, ?_⟩
    rw [f_X6_hangs_L77]
    simp (disch := omega) only [q0, q1, q2, q3, q4, q5, q7, q9, q10, q16, q30, q48, q57, q60, q99, q255, q300, q4096, pk_mul, nI_add, pk_sub, n_gin, n_cl, ifle_t, ifle_f, iflt_t, iflt_f, ifeq_t, ifeq_f, ifne_t, ifne_f, ifm_f, ifm_t, iflm_f, ifm0_t, ifm0_f, ob, g1n, g0n, ↓reduceIte, not_true_eq_false, not_false_eq_true]
  | succ d ih =>
    intro i m C e1 e2 hC
    obtain ⟨m, rfl⟩ : ∃ m', m = m' + 1 := ⟨m - 1, by omega⟩
    have hC9 := hC.lt hO9
    have hi : i < n := by omega
    rw [f_X6_hangs_L77]
    have go : ∀ C1, GoodC w n cs v O C C1 → (v i = 1 → C.testBit k = true → adjB w (cs k) (cs i) = true → C1.testBit i = true) →
        ∃ C', GoodC w n cs v O C C' ∧ (∀ j, i ≤ j → j < n → v j = 1 → C.testBit k = true → adjB w (cs k) (cs j) = true → C'.testBit j = true) ∧
        f_X6_hangs_L77 (nI w) KS KC FI k59 k68 F m (nI r) (nI n) (nI C1) (nI O) x5 (nI k) (nI (i + 1)) = k68 (nI r) (nI n) (nI C') (nI O) x5 (nI (k + 1)) := by
      intro C1 g1 g2
      obtain ⟨C', a, b, c⟩ := ih (i + 1) m C1 (by omega) (by omega) g1.2.1
      refine ⟨C', g1.trans a, fun j a1 a2 a3 a4 a5 => ?_, c⟩
      by_cases hj : j = i
      · subst hj; exact a.1 j (g2 a3 a4 a5)
      · exact b j (by omega) a2 a3 (g1.1 k a4) a5
    have s1 := tb_shr (a := C) (k := k) (by omega) (by omega)
    have s2 := tb_shr (a := O) (k := i) (by omega) (by omega)
    by_cases t1 : C.testBit k = true
    · rw [if_pos t1] at s1
      by_cases t2 : O.testBit i = true
      · rw [if_pos t2] at s2
        have ha := adj_m w hw hw0 (cs k) (h5 k hk) (cs i) (h5 i hi)
        by_cases t3 : adjB w (cs k) (cs i) = true
        · rw [if_pos t3] at ha
          simp (disch := omega) only [q0, q1, q2, q3, q4, q5, q7, q9, q10, q16, q30, q48, q57, q60, q99, q255, q300, q4096, pk_mul, nI_add, pk_sub, n_gin, n_cl, ifle_t, ifle_f, iflt_t, iflt_f, ifeq_t, ifeq_f, ifne_t, ifne_f, ifm_f, ifm_t, iflm_f, ifm0_t, ifm0_f, ob, g1n, g0n, ↓reduceIte, not_true_eq_false, not_false_eq_true, s1, s2, l_member R hk, l_member R hi, ha, f_X6_hangs_J132, nb_pow, nb_or]
          exact go (C ||| 2 ^ i) (GoodC.add hO hC t1 t2 t3) (fun _ _ _ => by rw [Nat.testBit_or, Nat.testBit_two_pow]; simp)
        · rw [if_neg t3] at ha
          simp (disch := omega) only [q0, q1, q2, q3, q4, q5, q7, q9, q10, q16, q30, q48, q57, q60, q99, q255, q300, q4096, pk_mul, nI_add, pk_sub, n_gin, n_cl, ifle_t, ifle_f, iflt_t, iflt_f, ifeq_t, ifeq_f, ifne_t, ifne_f, ifm_f, ifm_t, iflm_f, ifm0_t, ifm0_f, ob, g1n, g0n, ↓reduceIte, not_true_eq_false, not_false_eq_true, s1, s2, l_member R hk, l_member R hi, ha, f_X6_hangs_J132]
          exact go C (GoodC.rf hC) (fun _ _ h => absurd h t3)
      · rw [if_neg t2] at s2
        simp (disch := omega) only [q0, q1, q2, q3, q4, q5, q7, q9, q10, q16, q30, q48, q57, q60, q99, q255, q300, q4096, pk_mul, nI_add, pk_sub, n_gin, n_cl, ifle_t, ifle_f, iflt_t, iflt_f, ifeq_t, ifeq_f, ifne_t, ifne_f, ifm_f, ifm_t, iflm_f, ifm0_t, ifm0_f, ob, g1n, g0n, ↓reduceIte, not_true_eq_false, not_false_eq_true, s1, s2, f_X6_hangs_J132]
        exact go C (GoodC.rf hC) (fun h _ _ => absurd ((hO i).mpr ⟨hi, h⟩) t2)
    · rw [if_neg t1] at s1
      simp (disch := omega) only [q0, q1, q2, q3, q4, q5, q7, q9, q10, q16, q30, q48, q57, q60, q99, q255, q300, q4096, pk_mul, nI_add, pk_sub, n_gin, n_cl, ifle_t, ifle_f, iflt_t, iflt_f, ifeq_t, ifeq_f, ifne_t, ifne_f, ifm_f, ifm_t, iflm_f, ifm0_t, ifm0_f, ob, g1n, g0n, ↓reduceIte, not_true_eq_false, not_false_eq_true, s1, f_X6_hangs_J132]
      exact go C (GoodC.rf hC) (fun _ h _ => absurd h t1)
theorem m_L68 (R : RowR KS KC r n cs) (hw : w < 5) (hw0 : 0 < w) (k59 : Int32 → Int32 → Int32 → Int32 → Int32 → Option Int32) {F : Nat} (hF : 20 < F) {O : Nat} (hO9 : O < 2 ^ 9) (hO : ∀ j, O.testBit j = true ↔ j < n ∧ v j = 1) {t : Nat} :
    ∀ d k m C, k + d = n → d < m → Sb C O → ∃ C', GoodC w n cs v O C C' ∧ (∀ i j, k ≤ i → i < n → j < n → v j = 1 → C.testBit i = true → adjB w (cs i) (cs j) = true → C'.testBit j = true) ∧
      f_X6_hangs_L68 (nI w) KS KC FI k59 F m (nI r) (nI n) (nI C) (nI O) (nI t) (nI k) = k59 (nI r) (nI n) (nI C') (nI O) (nI (t + 1)) := by
  have ⟨h1, h2, h3, h4, h5⟩ := R
  intro d
  induction d with
  | zero =>
    intro k m C e1 e2 hC
    obtain ⟨m, rfl⟩ : ∃ m', m = m' + 1 := ⟨m - 1, by omega⟩
    refine ⟨C, GoodC.rf hC, fun i j a b => by omega, ?_⟩
    rw [f_X6_hangs_L68]
    simp (disch := omega) only [q0, q1, q2, q3, q4, q5, q7, q9, q10, q16, q30, q48, q57, q60, q99, q255, q300, q4096, pk_mul, nI_add, pk_sub, n_gin, n_cl, ifle_t, ifle_f, iflt_t, iflt_f, ifeq_t, ifeq_f, ifne_t, ifne_f, ifm_f, ifm_t, iflm_f, ifm0_t, ifm0_f, ob, g1n, g0n, ↓reduceIte, not_true_eq_false, not_false_eq_true]
  | succ d ih =>
    intro k m C e1 e2 hC
    obtain ⟨m, rfl⟩ : ∃ m', m = m' + 1 := ⟨m - 1, by omega⟩
    obtain ⟨C1, a, b, c⟩ := m_L77 (KS := KS) (KC := KC) (FI := FI) (w := w) R hw hw0 k59 (f_X6_hangs_L68 (nI w) KS KC FI k59 F m) F hO9 hO (nI t) (show k < n by omega) n 0 F C (by omega) (by omega) hC
    obtain ⟨C2, a', b', c'⟩ := ih (k + 1) m C1 (by omega) (by omega) a.2.1
    refine ⟨C2, a.trans a', fun i j x1 x2 x3 x4 x5 x6 => ?_, ?_⟩
    · by_cases hi : i = k
      · subst hi; exact a'.1 j (b j (by omega) x3 x4 x5 x6)
      · exact b' i j (by omega) x2 x3 x4 (a.1 i x5) x6
    · rw [f_X6_hangs_L68]
      simp (disch := omega) only [q0, q1, q2, q3, q4, q5, q7, q9, q10, q16, q30, q48, q57, q60, q99, q255, q300, q4096, pk_mul, nI_add, pk_sub, n_gin, n_cl, ifle_t, ifle_f, iflt_t, iflt_f, ifeq_t, ifeq_f, ifne_t, ifne_f, ifm_f, ifm_t, iflm_f, ifm0_t, ifm0_f, ob, g1n, g0n, ↓reduceIte, not_true_eq_false, not_false_eq_true]
      rw [c]; exact c'
theorem m_L59_0 (R : RowR KS KC r n cs) (hw : w < 5) (hw0 : 0 < w) {F : Nat} (hF : 20 < F) (hO : ∀ j, j < n → ¬ v j = 1) :
    ∀ d t m, t + d = n → d < m → f_X6_hangs_L59 (nI w) KS KC FI F m (nI r) (nI n) (nI 0) (nI 0) (nI t) = some (bI (Conn w n cs v)) := by
  have ⟨h1, h2, h3, h4, h5⟩ := R
  intro d
  induction d with
  | zero =>
    intro t m e1 e2
    obtain ⟨m, rfl⟩ : ∃ m', m = m' + 1 := ⟨m - 1, by omega⟩
    rw [f_X6_hangs_L59, bI_t (conn_none hO)]
    simp (disch := omega) only [q0, q1, q2, q3, q4, q5, q7, q9, q10, q16, q30, q48, q57, q60, q99, q255, q300, q4096, pk_mul, nI_add, pk_sub, n_gin, n_cl, ifle_t, ifle_f, iflt_t, iflt_f, ifeq_t, ifeq_f, ifne_t, ifne_f, ifm_f, ifm_t, iflm_f, ifm0_t, ifm0_f, ob, g1n, g0n, ↓reduceIte, not_true_eq_false, not_false_eq_true]
  | succ d ih =>
    intro t m e1 e2
    obtain ⟨m, rfl⟩ : ∃ m', m = m' + 1 := ⟨m - 1, by omega⟩
    obtain ⟨C1, a, b, c⟩ := m_L68 (KS := KS) (KC := KC) (FI := FI) (w := w) (v := v) R hw hw0 (f_X6_hangs_L59 (nI w) KS KC FI F m) hF (O := 0) (by decide) (fun j => ⟨fun h => absurd h (by rw [Nat.zero_testBit]; decide), fun h => absurd h.2 (hO j h.1)⟩) (t := t) n 0 F 0 (by omega) (by omega) (fun _ h => h)
    have e0 : C1 = 0 := Sb.antisymm a.2.1 a.1
    subst e0
    rw [f_X6_hangs_L59]
    simp (disch := omega) only [q0, q1, q2, q3, q4, q5, q7, q9, q10, q16, q30, q48, q57, q60, q99, q255, q300, q4096, pk_mul, nI_add, pk_sub, n_gin, n_cl, ifle_t, ifle_f, iflt_t, iflt_f, ifeq_t, ifeq_f, ifne_t, ifne_f, ifm_f, ifm_t, iflm_f, ifm0_t, ifm0_f, ob, g1n, g0n, ↓reduceIte, not_true_eq_false, not_false_eq_true]
    rw [c]; exact ih (t + 1) m (by omega) (by omega)
theorem m_L59 (R : RowR KS KC r n cs) (hw : w < 5) (hw0 : 0 < w) {F : Nat} (hF : 20 < F) {O : Nat} (hO9 : O < 2 ^ 9) (hO : ∀ j, O.testBit j = true ↔ j < n ∧ v j = 1) {a0 : Nat} (ha0 : a0 < n) (ha1 : v a0 = 1) :
    ∀ d t m C, t + d = n → d < m → Sb C O → C.testBit a0 = true → (∀ P, Clo w n cs v P → P a0 → ∀ j, C.testBit j = true → P j) → (t + 1 ≤ cntB C.testBit n ∨ Clo w n cs v (fun j => C.testBit j = true)) →
      f_X6_hangs_L59 (nI w) KS KC FI F m (nI r) (nI n) (nI C) (nI O) (nI t) = some (bI (Conn w n cs v)) := by
  have ⟨h1, h2, h3, h4, h5⟩ := R
  intro d
  induction d with
  | zero =>
    intro t m C e1 e2 hC hC0 hS hK
    obtain ⟨m, rfl⟩ : ∃ m', m = m' + 1 := ⟨m - 1, by omega⟩
    have hC9 := hC.lt hO9
    have hcl : Clo w n cs v (fun j => C.testBit j = true) := by
      rcases hK with hK | hK
      · have := cntB_le (p := C.testBit) n; omega
      · exact hK
    rw [f_X6_hangs_L59]
    by_cases hE : C = O
    · rw [bI_t ((conn_from hw hw0 h5 ha0 ha1).mpr (fun b hb hb1 P hP h0 => hS P hP h0 b (by rw [hE]; exact (hO b).mpr ⟨hb, hb1⟩)))]
      simp (disch := omega) only [q0, q1, q2, q3, q4, q5, q7, q9, q10, q16, q30, q48, q57, q60, q99, q255, q300, q4096, pk_mul, nI_add, pk_sub, n_gin, n_cl, ifle_t, ifle_f, iflt_t, iflt_f, ifeq_t, ifeq_f, ifne_t, ifne_f, ifm_f, ifm_t, iflm_f, ifm0_t, ifm0_f, ob, g1n, g0n, ↓reduceIte, not_true_eq_false, not_false_eq_true]
    · rw [bI_f (fun h => hE (Sb.antisymm hC (fun j hj => (conn_from hw hw0 h5 ha0 ha1).mp h j ((hO j).mp hj).1 ((hO j).mp hj).2 _ hcl hC0)))]
      simp (disch := omega) only [q0, q1, q2, q3, q4, q5, q7, q9, q10, q16, q30, q48, q57, q60, q99, q255, q300, q4096, pk_mul, nI_add, pk_sub, n_gin, n_cl, ifle_t, ifle_f, iflt_t, iflt_f, ifeq_t, ifeq_f, ifne_t, ifne_f, ifm_f, ifm_t, iflm_f, ifm0_t, ifm0_f, ob, g1n, g0n, ↓reduceIte, not_true_eq_false, not_false_eq_true]
  | succ d ih =>
    intro t m C e1 e2 hC hC0 hS hK
    obtain ⟨m, rfl⟩ : ∃ m', m = m' + 1 := ⟨m - 1, by omega⟩
    obtain ⟨C1, a, b, c⟩ := m_L68 (KS := KS) (KC := KC) (FI := FI) (w := w) (v := v) R hw hw0 (f_X6_hangs_L59 (nI w) KS KC FI F m) hF (O := O) hO9 hO (t := t) n 0 F C (by omega) (by omega) hC
    rw [f_X6_hangs_L59]
    simp (disch := omega) only [q0, q1, q2, q3, q4, q5, q7, q9, q10, q16, q30, q48, q57, q60, q99, q255, q300, q4096, pk_mul, nI_add, pk_sub, n_gin, n_cl, ifle_t, ifle_f, iflt_t, iflt_f, ifeq_t, ifeq_f, ifne_t, ifne_f, ifm_f, ifm_t, iflm_f, ifm0_t, ifm0_f, ob, g1n, g0n, ↓reduceIte, not_true_eq_false, not_false_eq_true]
    rw [c]
    refine ih (t + 1) m C1 (by omega) (by omega) a.2.1 (a.1 a0 hC0) (fun P hP h0 => a.2.2 P hP (hS P hP h0)) ?_
    by_cases hE : C1 = C
    · subst hE
      refine Or.inr (fun k i x1 x2 x3 x4 x5 x6 => b k i (by omega) x1 x2 x4 x5 x6)
    · rcases hK with hK | hK
      · obtain ⟨j, hj, hj2⟩ : ∃ j, C1.testBit j = true ∧ ¬ C.testBit j = true := by
          apply Classical.byContradiction
          intro hn
          refine hE (Sb.antisymm (fun j hj => ?_) a.1)
          apply Classical.byContradiction
          exact fun h => hn ⟨j, hj, h⟩
        have := cntB_lt n (fun i _ h => a.1 i h) j ((hO j).mp (a.2.1 j hj)).1 hj hj2
        exact Or.inl (by omega)
      · refine absurd (Sb.antisymm (fun j hj => ?_) a.1) hE
        exact a.2.2 _ hK (fun j h => h) j hj
theorem m_L17 (R : RowR KS KC r n cs) (hv : ∀ k, k < n → FI k = nI (v k)) (h6 : ∀ k, k < n → v k < 6) (hw : w < 5) (hw0 : 0 < w) {F : Nat} (hF : 20 < F) :
    ∀ k m C O x5, k ≤ n → k < m → x5 + nI 1 = nI k → (∀ j, O.testBit j = true ↔ k ≤ j ∧ j < n ∧ v j = 1) → O < 2 ^ 9 → ((O = 0 ∧ C = 0) ∨ ∃ a, k ≤ a ∧ a < n ∧ v a = 1 ∧ C = 2 ^ a) →
      f_X6_hangs_L17 (nI w) KS KC FI F m (nI r) (nI n) (nI C) (nI O) x5 = some (bI (Conn w n cs v)) := by
  have ⟨h1, h2, h3, h4, h5⟩ := R
  intro k
  induction k with
  | zero =>
    intro m C O x5 e0 e1 e2 e3 e4 e5
    obtain ⟨m, rfl⟩ : ∃ m', m = m' + 1 := ⟨m - 1, by omega⟩
    have hx : x5 = -1 := by
      have : x5 = x5 + nI 1 - nI 1 := by rw [Int32.add_sub_cancel]
      rw [this, e2]; decide
    subst hx
    have hO : ∀ j, O.testBit j = true ↔ j < n ∧ v j = 1 := fun j => (e3 j).trans ⟨fun h => h.2, fun h => ⟨Nat.zero_le _, h⟩⟩
    rw [f_X6_hangs_L17, if_pos (by decide), q0]
    rcases e5 with ⟨rfl, rfl⟩ | ⟨a, g1, g2, g3, rfl⟩
    · refine m_L59_0 R hw hw0 hF (fun j hj h => ?_) n 0 F (by omega) (by omega)
      have := (hO j).mpr ⟨hj, h⟩
      rw [Nat.zero_testBit] at this; cases this
    · have t1 : (2 ^ a).testBit a = true := by rw [Nat.testBit_two_pow]; simp
      have t2 : ∀ j, (2 ^ a).testBit j = true → a = j := fun j h => by rw [Nat.testBit_two_pow] at h; exact of_decide_eq_true h
      refine m_L59 R hw hw0 hF e4 hO g2 g3 n 0 F (2 ^ a) (by omega) (by omega) (fun j h => ?_) t1 (fun P hP h j hj => ?_) (Or.inl ?_)
      · rw [← t2 j h]; exact (hO a).mpr ⟨g2, g3⟩
      · rw [← t2 j hj]; exact h
      · have := cntB_pos (p := (2 ^ a).testBit) n g2 t1; omega
  | succ k ih =>
    intro m C O x5 e0 e1 e2 e3 e4 e5
    obtain ⟨m, rfl⟩ : ∃ m', m = m' + 1 := ⟨m - 1, by omega⟩
    have hx : x5 = nI k := by
      have : x5 = x5 + nI 1 - nI 1 := by rw [Int32.add_sub_cancel]
      rw [this, e2, pk_sub (by omega)]; rfl
    subst hx
    have h6a := h6 k (by omega)
    have hm1 : nI k + -1 + nI 1 = nI k := by
      rw [Int32.add_assoc]
      show nI k + 0 = nI k
      rw [q0, nI_add, Nat.add_zero]
    have hC : C < 2 ^ 9 := by
      rcases e5 with ⟨_, rfl⟩ | ⟨a, g1, g2, g3, rfl⟩
      · decide
      · exact Nat.pow_lt_pow_right (by omega) (by omega)
    rw [f_X6_hangs_L17]
    by_cases hq : v k = 1
    · simp (disch := omega) only [q0, q1, q2, q3, q4, q5, q7, q9, q10, q16, q30, q48, q57, q60, q99, q255, q300, q4096, pk_mul, nI_add, pk_sub, n_gin, n_cl, ifle_t, ifle_f, iflt_t, iflt_f, ifeq_t, ifeq_f, ifne_t, ifne_f, ifm_f, ifm_t, iflm_f, ifm0_t, ifm0_f, ob, g1n, g0n, ↓reduceIte, not_true_eq_false, not_false_eq_true, hv k (show k < n by omega), f_X6_hangs_J50, nb_pow, nb_or]
      refine ih m (2 ^ k) (O ||| 2 ^ k) _ (by omega) (by omega) hm1 (fun j => ?_) (Nat.or_lt_two_pow e4 (Nat.pow_lt_pow_right (by omega) (by omega))) (Or.inr ⟨k, by omega, by omega, hq, rfl⟩)
      rw [Nat.testBit_or, Bool.or_eq_true, Nat.testBit_two_pow, decide_eq_true_eq, e3]
      constructor
      · rintro (h | rfl)
        · exact ⟨by omega, h.2⟩
        · exact ⟨by omega, by omega, hq⟩
      · intro h
        by_cases hj : k = j
        · exact Or.inr hj
        · exact Or.inl ⟨by omega, h.2⟩
    · simp (disch := omega) only [q0, q1, q2, q3, q4, q5, q7, q9, q10, q16, q30, q48, q57, q60, q99, q255, q300, q4096, pk_mul, nI_add, pk_sub, n_gin, n_cl, ifle_t, ifle_f, iflt_t, iflt_f, ifeq_t, ifeq_f, ifne_t, ifne_f, ifm_f, ifm_t, iflm_f, ifm0_t, ifm0_f, ob, g1n, g0n, ↓reduceIte, not_true_eq_false, not_false_eq_true, hv k (show k < n by omega), f_X6_hangs_J50]
      refine ih m C O _ (by omega) (by omega) hm1 (fun j => (e3 j).trans ?_) e4 ?_
      · constructor
        · exact fun h => ⟨by omega, h.2⟩
        · intro h
          by_cases hj : k = j
          · subst hj; exact absurd h.2.2 hq
          · exact ⟨by omega, h.2⟩
      · rcases e5 with e5 | ⟨a, g1, g2⟩
        · exact Or.inl e5
        · exact Or.inr ⟨a, by omega, g2⟩
theorem m_hangs (R : RowR KS KC r n cs) (hv : ∀ k, k < n → FI k = nI (v k)) (h6 : ∀ k, k < n → v k < 6) (hw : w < 5) (hw0 : 0 < w) {F : Nat} (hF : 20 < F) :
    f_X6_hangs (nI w) KS KC FI F (nI r) = some (bI (Conn w n cs v)) := by
  have ⟨h1, h2, h3, h4, h5⟩ := R
  unfold f_X6_hangs
  rw [n_gin (by omega) (by omega), n_cl (by omega), h2]
  refine m_L17 R hv h6 hw hw0 hF n F 0 0 _ (Nat.le_refl _) (by omega) ?_ (fun j => ?_) (by decide) (Or.inl ⟨rfl, rfl⟩)
  · rw [q1, Int32.sub_add_cancel]
  · rw [Nat.zero_testBit]
    exact ⟨fun h => absurd h (by decide), fun h => absurd h.1 (by omega)⟩
end HM
