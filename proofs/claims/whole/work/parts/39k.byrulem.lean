/-! PURE PART. by rule, the reference -/
section BM
variable {KK KN KS KC JN JS JL FI : Nat → Int32} {w s r n N i z : Nat} {cs v : Nat → Nat} {c y b : Nat → Nat}
theorem m_filled (R : RowR KS KC r n cs) (hinj : ∀ i j, i < n → j < n → cs i = cs j → i = j) (hs : s ≤ 6) (hv : ∀ k, k < n → FI k = nI (v k)) (h6 : ∀ k, k < n → v k < 6) {c0 y0 b0 : Nat} (hc : c0 < 16) (hy : y0 < s) (hb : b0 < 2) {F : Nat} (hF : 20 < F) :
    f_X6_isFilled (nI s) KS KC FI F (nI r) (nI (2 * (s * c0 + y0) + b0)) = some (bI (LitSo n cs v c0 y0 b0)) := by
  have ⟨h1, h2, h3, h4, h5⟩ := R
  obtain ⟨_, e2, e3, e4, _, _⟩ := e_litM s (by omega) c0 hc y0 hy b0 hb
  have gz : ∀ {α : Type} (k : Option α), gnz (nI 2) k = k := fun k => by unfold gnz; rw [if_neg (by decide)]
  unfold f_X6_isFilled
  rw [e2, ob]
  rcases m_seat R hc hF with ⟨j, a1, a2, a3⟩ | ⟨a1, a3⟩
  · rw [a3, ob]
    have h6a := h6 j a1
    have hl : LitSo n cs v c0 y0 b0 ↔ (v j = y0 ↔ b0 = 1) := by
      constructor
      · rintro ⟨k, k1, k2, k3⟩
        obtain rfl := hinj k j k1 a1 (by rw [k2, a2])
        exact k3
      · intro e; exact ⟨j, a1, a2, e⟩
    rw [bI_c hl]
    by_cases hq : v j = y0
    · by_cases hb1 : b0 = 1
      · rw [bI_t ⟨fun _ => hb1, fun _ => hq⟩]
        subst hb1
        simp (disch := omega) only [q0, q1, q2, q3, q4, q5, q7, q9, q10, q16, q30, q48, q57, q60, q99, q255, q300, q4096, pk_mul, nI_add, pk_sub, n_gin, n_cl, ifle_t, ifle_f, iflt_t, iflt_f, ifeq_t, ifeq_f, ifne_t, ifne_f, ifm_f, ifm_t, iflm_f, ifm0_t, ifm0_f, ob, g1n, g0n, ↓reduceIte, not_true_eq_false, not_false_eq_true, e3, hv j a1, f_X6_isFilled_J34, gz, e4]
      · rw [bI_f (fun e => hb1 (e.mp hq))]
        obtain rfl : b0 = 0 := by omega
        simp (disch := omega) only [q0, q1, q2, q3, q4, q5, q7, q9, q10, q16, q30, q48, q57, q60, q99, q255, q300, q4096, pk_mul, nI_add, pk_sub, n_gin, n_cl, ifle_t, ifle_f, iflt_t, iflt_f, ifeq_t, ifeq_f, ifne_t, ifne_f, ifm_f, ifm_t, iflm_f, ifm0_t, ifm0_f, ob, g1n, g0n, ↓reduceIte, not_true_eq_false, not_false_eq_true, e3, hv j a1, f_X6_isFilled_J34, gz, e4]
    · by_cases hb1 : b0 = 1
      · rw [bI_f (fun e => hq (e.mpr hb1))]
        subst hb1
        simp (disch := omega) only [q0, q1, q2, q3, q4, q5, q7, q9, q10, q16, q30, q48, q57, q60, q99, q255, q300, q4096, pk_mul, nI_add, pk_sub, n_gin, n_cl, ifle_t, ifle_f, iflt_t, iflt_f, ifeq_t, ifeq_f, ifne_t, ifne_f, ifm_f, ifm_t, iflm_f, ifm0_t, ifm0_f, ob, g1n, g0n, ↓reduceIte, not_true_eq_false, not_false_eq_true, e3, hv j a1, f_X6_isFilled_J34, gz, e4]
      · rw [bI_t ⟨fun e => absurd e hq, fun e => absurd e hb1⟩]
        obtain rfl : b0 = 0 := by omega
        simp (disch := omega) only [q0, q1, q2, q3, q4, q5, q7, q9, q10, q16, q30, q48, q57, q60, q99, q255, q300, q4096, pk_mul, nI_add, pk_sub, n_gin, n_cl, ifle_t, ifle_f, iflt_t, iflt_f, ifeq_t, ifeq_f, ifne_t, ifne_f, ifm_f, ifm_t, iflm_f, ifm0_t, ifm0_f, ob, g1n, g0n, ↓reduceIte, not_true_eq_false, not_false_eq_true, e3, hv j a1, f_X6_isFilled_J34, gz, e4]
  · rw [a3, ob, bI_f (fun ⟨k, k1, k2, _⟩ => a1 k k1 k2), q0, if_pos m1_lt]
theorem m_L144 (R : RowR KS KC r n cs) (hinj : ∀ i j, i < n → j < n → cs i = cs j → i = j) (hs : s ≤ 6) (hN : N ≤ 16) (hv : ∀ k, k < n → FI k = nI (v k)) (h6 : ∀ k, k < n → v k < 6) (L : RowM s JS JL i z c y b) (hi : i < 120) (O : OkL N s z c y b) {F : Nat} (hF : 20 < F) (mW mR : Int32) (k73 : Int32 → Int32 → Int32 → Int32 → (Nat → Int32) → Option (Int32 × (Nat → Int32))) (x3 x4 : Int32) :
    ∀ d k m (P : Prop), k + d = z → d < m → ((P ∨ ∃ j, k ≤ j ∧ j < z ∧ LitSo n cs v (c j) (y j) (b j)) → f_X6_byRule_L144 mW (nI s) mR KK KN KS KC JN JS JL k73 F m (nI i) (nI r) x3 x4 (bI P) (nI k) FI = k73 (nI i) (nI r) x3 (x4 + nI 1) FI) ∧ ((¬ P ∧ ∀ j, k ≤ j → j < z → ¬ LitSo n cs v (c j) (y j) (b j)) → f_X6_byRule_L144 mW (nI s) mR KK KN KS KC JN JS JL k73 F m (nI i) (nI r) x3 x4 (bI P) (nI k) FI = some (nI 0, FI)) := by
  have hz := O.1
  have hr := L.1
  intro d
  induction d with
  | zero =>
    intro k m P e1 e2
    obtain ⟨m, rfl⟩ : ∃ m', m = m' + 1 := ⟨m - 1, by omega⟩
    obtain rfl : k = z := by omega
    rw [f_X6_byRule_L144]
    constructor
    · intro hP
      have hp : P := by
        rcases hP with hP | ⟨j, a, b, _⟩
        · exact hP
        · omega
      rw [bI_t hp]
      simp (disch := omega) only [q0, q1, q2, q3, q4, q5, q7, q9, q10, q16, q30, q48, q57, q60, q99, q255, q300, q4096, pk_mul, nI_add, pk_sub, n_gin, n_cl, ifle_t, ifle_f, iflt_t, iflt_f, ifeq_t, ifeq_f, ifne_t, ifne_f, ifm_f, ifm_t, iflm_f, ifm0_t, ifm0_f, ob, g1n, g0n, ↓reduceIte, not_true_eq_false, not_false_eq_true, hr]
    · intro hP
      rw [bI_f hP.1]
      simp (disch := omega) only [q0, q1, q2, q3, q4, q5, q7, q9, q10, q16, q30, q48, q57, q60, q99, q255, q300, q4096, pk_mul, nI_add, pk_sub, n_gin, n_cl, ifle_t, ifle_f, iflt_t, iflt_f, ifeq_t, ifeq_f, ifne_t, ifne_f, ifm_f, ifm_t, iflm_f, ifm0_t, ifm0_f, ob, g1n, g0n, ↓reduceIte, not_true_eq_false, not_false_eq_true, hr]
  | succ d ih =>
    intro k m P e1 e2
    obtain ⟨m, rfl⟩ : ∃ m', m = m' + 1 := ⟨m - 1, by omega⟩
    have hk := O.2.1 k (by omega)
    have hfl := m_filled (FI := FI) R hinj hs hv h6 (c0 := c k) (y0 := y k) (b0 := b k) (by omega) (by omega) (by omega) hF
    rw [f_X6_byRule_L144]
    by_cases hP : P
    · obtain ⟨i1, i2⟩ := ih (k + 1) m True (by omega) (by omega)
      rw [bI_T, q1] at i1
      rw [bI_t hP]
      simp (disch := omega) only [q0, q1, q2, q3, q4, q5, q7, q9, q10, q16, q30, q48, q57, q60, q99, q255, q300, q4096, pk_mul, nI_add, pk_sub, n_gin, n_cl, ifle_t, ifle_f, iflt_t, iflt_f, ifeq_t, ifeq_f, ifne_t, ifne_f, ifm_f, ifm_t, iflm_f, ifm0_t, ifm0_f, ob, g1n, g0n, ↓reduceIte, not_true_eq_false, not_false_eq_true, hr, f_X6_byRule_J180, f_X6_byRule_J185]
      exact ⟨fun _ => i1 (Or.inl trivial), fun h => absurd hP h.1⟩
    · rw [bI_f hP]
      by_cases hS : LitSo n cs v (c k) (y k) (b k)
      · obtain ⟨i1, i2⟩ := ih (k + 1) m True (by omega) (by omega)
        rw [bI_T, q1] at i1
        rw [bI_t hS] at hfl
        simp (disch := omega) only [q0, q1, q2, q3, q4, q5, q7, q9, q10, q16, q30, q48, q57, q60, q99, q255, q300, q4096, pk_mul, nI_add, pk_sub, n_gin, n_cl, ifle_t, ifle_f, iflt_t, iflt_f, ifeq_t, ifeq_f, ifne_t, ifne_f, ifm_f, ifm_t, iflm_f, ifm0_t, ifm0_f, ob, g1n, g0n, ↓reduceIte, not_true_eq_false, not_false_eq_true, hr, L.2 k (show k < z by omega), hfl, f_X6_byRule_J180, f_X6_byRule_J185]
        exact ⟨fun _ => i1 (Or.inl trivial), fun h => absurd hS (h.2 k (Nat.le_refl _) (by omega))⟩
      · obtain ⟨i1, i2⟩ := ih (k + 1) m False (by omega) (by omega)
        rw [bI_F, q0] at i1 i2
        rw [bI_f hS] at hfl
        simp (disch := omega) only [q0, q1, q2, q3, q4, q5, q7, q9, q10, q16, q30, q48, q57, q60, q99, q255, q300, q4096, pk_mul, nI_add, pk_sub, n_gin, n_cl, ifle_t, ifle_f, iflt_t, iflt_f, ifeq_t, ifeq_f, ifne_t, ifne_f, ifm_f, ifm_t, iflm_f, ifm0_t, ifm0_f, ob, g1n, g0n, ↓reduceIte, not_true_eq_false, not_false_eq_true, hr, L.2 k (show k < z by omega), hfl, f_X6_byRule_J180, f_X6_byRule_J185]
        refine ⟨fun h => i1 (Or.inr ?_), fun h => i2 ⟨id, fun j a b => h.2 j (by omega) b⟩⟩
        rcases h with h | ⟨j, a1, a2, a3⟩
        · exact absurd h hP
        · refine ⟨j, ?_, a2, a3⟩
          by_cases hj : j = k
          · subst hj; exact absurd a3 hS
          · omega
def dig (s wy k : Nat) : Nat := wy / s ^ k % s
theorem dig_surj (hs1 : 1 ≤ s) : ∀ n (v : Nat → Nat), (∀ k, k < n → v k < s) → ∃ wy, wy < s ^ n ∧ ∀ k, k < n → dig s wy k = v k := by
  intro n
  induction n with
  | zero => intro v _; exact ⟨0, by rw [Nat.pow_zero]; omega, fun k hk => by omega⟩
  | succ n ih =>
    intro v hv
    obtain ⟨q, q1, q2⟩ := ih (fun k => v (k + 1)) (fun k hk => hv (k + 1) (by omega))
    have hv0 := hv 0 (by omega)
    refine ⟨v 0 + s * q, ?_, fun k hk => ?_⟩
    · rw [Nat.pow_succ]
      have : s * (q + 1) ≤ s * s ^ n := Nat.mul_le_mul_left _ q1
      rw [Nat.mul_succ] at this
      rw [Nat.mul_comm (s ^ n)]
      omega
    · unfold dig
      cases k with
      | zero => rw [Nat.pow_zero, Nat.div_one, Nat.add_mul_mod_self_left, Nat.mod_eq_of_lt hv0]
      | succ k =>
        have e := q2 k (by omega)
        unfold dig at e
        rw [Nat.pow_succ, Nat.mul_comm (s ^ k), ← Nat.div_div_eq_div_mul, Nat.add_mul_div_left _ _ (by omega), Nat.div_eq_of_lt hv0, Nat.zero_add]
        exact e
theorem m_L86 (R : RowR KS KC r n cs) (hw : 1 ≤ w) (hw4 : w ≤ 4) (hs : s ≤ 6) (hs1 : 1 ≤ s) {F : Nat} (hF : 100 < F) (mR : Int32) (k73 : Int32 → Int32 → Int32 → Int32 → (Nat → Int32) → Option (Int32 × (Nat → Int32))) (x1 x3 x4 : Int32) {wy : Nat} (hwy : wy < 5000) :
    ∀ d k m FI, k + d = n → d < m → (∀ j, j < k → FI j = nI (dig s wy j)) → ∃ FI', (∀ j, j < n → FI' j = nI (dig s wy j)) ∧ f_X6_byRule_L86 (nI w) (nI s) mR KK KN KS KC JN JS JL k73 F m x1 (nI r) x3 x4 (nI (wy / s ^ k)) (nI k) FI = f_X6_byRule_L144 (nI w) (nI s) mR KK KN KS KC JN JS JL k73 F F x1 (nI r) x3 x4 (bI (¬ MeetsP (KK r) (KN r) w n cs (dig s wy))) (nI 0) FI' := by
  have ⟨h1, h2, h3, h4, h5⟩ := R
  have gz : ∀ {α : Type} (k : Option α), gnz (nI s) k = k := fun k => by unfold gnz; rw [if_neg (by rw [q0, n_eq (by omega) (by omega)]; omega)]
  intro d
  induction d with
  | zero =>
    intro k m FI e1 e2 e3
    obtain ⟨m, rfl⟩ : ∃ m', m = m' + 1 := ⟨m - 1, by omega⟩
    obtain rfl : k = n := by omega
    have em := m_mt (KK := KK) (KN := KN) (FI := FI) (v := dig s wy) hw hw4 R e3 (fun j hj => by have := Nat.mod_lt (wy / s ^ j) (show s > 0 by omega); unfold dig; omega) hF
    refine ⟨FI, e3, ?_⟩
    rw [f_X6_byRule_L86]
    by_cases hp : MeetsP (KK r) (KN r) w k cs (dig s wy)
    · rw [bI_t hp] at em
      rw [bI_f (fun e => e hp)]
      simp (disch := omega) only [q0, q1, q2, q3, q4, q5, q7, q9, q10, q16, q30, q48, q57, q60, q99, q255, q300, q4096, pk_mul, nI_add, pk_sub, n_gin, n_cl, ifle_t, ifle_f, iflt_t, iflt_f, ifeq_t, ifeq_f, ifne_t, ifne_f, ifm_f, ifm_t, iflm_f, ifm0_t, ifm0_f, ob, g1n, g0n, ↓reduceIte, not_true_eq_false, not_false_eq_true, h2, em, f_X6_byRule_J139]
    · rw [bI_f hp] at em
      rw [bI_t hp]
      simp (disch := omega) only [q0, q1, q2, q3, q4, q5, q7, q9, q10, q16, q30, q48, q57, q60, q99, q255, q300, q4096, pk_mul, nI_add, pk_sub, n_gin, n_cl, ifle_t, ifle_f, iflt_t, iflt_f, ifeq_t, ifeq_f, ifne_t, ifne_f, ifm_f, ifm_t, iflm_f, ifm0_t, ifm0_f, ob, g1n, g0n, ↓reduceIte, not_true_eq_false, not_false_eq_true, h2, em, f_X6_byRule_J139]
  | succ d ih =>
    intro k m FI e1 e2 e3
    obtain ⟨m, rfl⟩ : ∃ m', m = m' + 1 := ⟨m - 1, by omega⟩
    have hle : wy / s ^ k ≤ wy := Nat.div_le_self _ _
    have hrem := pk_rem (a := wy / s ^ k) (d := s) (by omega) (by omega) (by omega)
    have hdiv := pk_div (a := wy / s ^ k) (d := s) (by omega) (by omega) (by omega)
    obtain ⟨FI', i1, i2⟩ := ih (k + 1) m (upd FI k (nI (dig s wy k))) (by omega) (by omega) (fun j hj => by
      by_cases hjk : j = k
      · subst hjk; exact pk_us
      · rw [pk_un hjk]; exact e3 j (by omega))
    refine ⟨FI', i1, ?_⟩
    rw [f_X6_byRule_L86, hrem, hdiv]
    simp (disch := omega) only [q0, q1, q2, q3, q4, q5, q7, q9, q10, q16, q30, q48, q57, q60, q99, q255, q300, q4096, pk_mul, nI_add, pk_sub, n_gin, n_cl, ifle_t, ifle_f, iflt_t, iflt_f, ifeq_t, ifeq_f, ifne_t, ifne_f, ifm_f, ifm_t, iflm_f, ifm0_t, ifm0_f, ob, g1n, g0n, ↓reduceIte, not_true_eq_false, not_false_eq_true, h2, gz]
    rw [Nat.pow_succ, ← Nat.div_div_eq_div_mul] at i2
    exact i2
theorem m_L73 (R : RowR KS KC r n cs) (hinj : ∀ i j, i < n → j < n → cs i = cs j → i = j) (hw : 1 ≤ w) (hw4 : w ≤ 4) (hs : s ≤ 6) (hs1 : 1 ≤ s) (hN : N ≤ 16) (L : RowM s JS JL i z c y b) (hi : i < 120) (O : OkL N s z c y b) {F : Nat} (hF : 100 < F) (mR : Int32) {T : Nat} (hT : T ≤ 4096) :
    ∀ d wy m FI, wy + d = T → d < m → ∃ FI', f_X6_byRule_L73 (nI w) (nI s) mR KK KN KS KC JN JS JL F m (nI i) (nI r) (nI T) (nI wy) FI = some (bI (∀ q, wy ≤ q → q < T → MeetsP (KK r) (KN r) w n cs (dig s q) → ∃ j, j < z ∧ LitSo n cs (dig s q) (c j) (y j) (b j)), FI') := by
  have ⟨h1, h2, h3, h4, h5⟩ := R
  have hz := O.1
  intro d
  induction d with
  | zero =>
    intro wy m FI e1 e2
    obtain ⟨m, rfl⟩ : ∃ m', m = m' + 1 := ⟨m - 1, by omega⟩
    refine ⟨FI, ?_⟩
    rw [f_X6_byRule_L73, bI_t (fun q a b => by omega)]
    simp (disch := omega) only [q0, q1, q2, q3, q4, q5, q7, q9, q10, q16, q30, q48, q57, q60, q99, q255, q300, q4096, pk_mul, nI_add, pk_sub, n_gin, n_cl, ifle_t, ifle_f, iflt_t, iflt_f, ifeq_t, ifeq_f, ifne_t, ifne_f, ifm_f, ifm_t, iflm_f, ifm0_t, ifm0_f, ob, g1n, g0n, ↓reduceIte, not_true_eq_false, not_false_eq_true]
  | succ d ih =>
    intro wy m FI e1 e2
    obtain ⟨m, rfl⟩ : ∃ m', m = m' + 1 := ⟨m - 1, by omega⟩
    obtain ⟨FI1, a1, a2⟩ := m_L86 (KK := KK) (KN := KN) (JN := JN) (JS := JS) (JL := JL) R hw hw4 hs hs1 hF mR (f_X6_byRule_L73 (nI w) (nI s) mR KK KN KS KC JN JS JL F m) (nI i) (nI T) (nI wy) (wy := wy) (by omega) n 0 F FI (by omega) (by omega) (fun j hj => by omega)
    rw [Nat.pow_zero, Nat.div_one] at a2
    obtain ⟨b1, b2⟩ := m_L144 (KK := KK) (KN := KN) (JN := JN) R hinj hs hN a1 (fun j hj => by have := Nat.mod_lt (wy / s ^ j) (show s > 0 by omega); unfold dig; omega) L hi O (F := F) (by omega) (nI w) mR (f_X6_byRule_L73 (nI w) (nI s) mR KK KN KS KC JN JS JL F m) (nI T) (nI wy) z 0 F (¬ MeetsP (KK r) (KN r) w n cs (dig s wy)) (by omega) (by omega)
    have hun : f_X6_byRule_L73 (nI w) (nI s) mR KK KN KS KC JN JS JL F (m + 1) (nI i) (nI r) (nI T) (nI wy) FI = f_X6_byRule_L86 (nI w) (nI s) mR KK KN KS KC JN JS JL (f_X6_byRule_L73 (nI w) (nI s) mR KK KN KS KC JN JS JL F m) F F (nI i) (nI r) (nI T) (nI wy) (nI wy) (nI 0) FI := by
      rw [f_X6_byRule_L73]
      simp (disch := omega) only [q0, q1, q2, q3, q4, q5, q7, q9, q10, q16, q30, q48, q57, q60, q99, q255, q300, q4096, pk_mul, nI_add, pk_sub, n_gin, n_cl, ifle_t, ifle_f, iflt_t, iflt_f, ifeq_t, ifeq_f, ifne_t, ifne_f, ifm_f, ifm_t, iflm_f, ifm0_t, ifm0_f, ob, g1n, g0n, ↓reduceIte, not_true_eq_false, not_false_eq_true]
    rw [hun, a2]
    by_cases hok : (¬ MeetsP (KK r) (KN r) w n cs (dig s wy)) ∨ ∃ j, 0 ≤ j ∧ j < z ∧ LitSo n cs (dig s wy) (c j) (y j) (b j)
    · obtain ⟨FI2, c1⟩ := ih (wy + 1) m FI1 (by omega) (by omega)
      refine ⟨FI2, ?_⟩
      rw [b1 hok, nI_add, c1]
      congr 2
      apply bI_c
      constructor
      · intro h q g1 g2 g3
        by_cases hq : q = wy
        · subst hq
          rcases hok with hok | ⟨j, _, j2, j3⟩
          · exact absurd g3 hok
          · exact ⟨j, j2, j3⟩
        · exact h q (by omega) g2 g3
      · intro h q g1 g2 g3
        exact h q (by omega) g2 g3
    · refine ⟨FI1, ?_⟩
      rw [b2 ⟨fun e => hok (Or.inl e), fun j g1 g2 g3 => hok (Or.inr ⟨j, g1, g2, g3⟩)⟩, bI_f (fun h => ?_), q0]
      have hm : MeetsP (KK r) (KN r) w n cs (dig s wy) := Classical.byContradiction (fun e => hok (Or.inl e))
      obtain ⟨j, j2, j3⟩ := h wy (Nat.le_refl _) (by omega) hm
      exact hok (Or.inr ⟨j, by omega, j2, j3⟩)
theorem m_L26 (R : RowR KS KC r n cs) (hinj : ∀ i j, i < n → j < n → cs i = cs j → i = j) (hw : 1 ≤ w) (hw4 : w ≤ 4) (hs : s ≤ 6) (hs1 : 1 ≤ s) (hN : N ≤ 16) (L : RowM s JS JL i z c y b) (hi : i < 120) (O : OkL N s z c y b) {F : Nat} (hF : 6000 < F) (mR : Int32) (FI : Nat → Int32) :
    ∀ d k m q, k + d = n → d < m → (q ≤ 4096 → q = s ^ k) → (4096 < q → 4096 < s ^ k) → q ≤ 4096 * 6 → ∃ FI', f_X6_byRule_L26 (nI w) (nI s) mR KK KN KS KC JN JS JL F m (nI i) (nI r) (nI q) (nI k) FI = some (bI (s ^ n ≤ 4096 ∧ ByRuleP (KK r) (KN r) w s n z cs c y b), FI') := by
  have ⟨h1, h2, h3, h4, h5⟩ := R
  intro d
  induction d with
  | zero =>
    intro k m q e1 e2 e3 e4 e5
    obtain ⟨m, rfl⟩ : ∃ m', m = m' + 1 := ⟨m - 1, by omega⟩
    obtain rfl : k = n := by omega
    rw [f_X6_byRule_L26]
    by_cases hq : q ≤ 4096
    · have hqe := e3 hq
      obtain ⟨FI', a⟩ := m_L73 (KK := KK) (KN := KN) (JN := JN) R hinj hw hw4 hs hs1 hN L hi O (F := F) (by omega) mR (T := q) hq q 0 F FI (by omega) (by omega)
      refine ⟨FI', ?_⟩
      have hiff : (∀ p, 0 ≤ p → p < q → MeetsP (KK r) (KN r) w k cs (dig s p) → ∃ j, j < z ∧ LitSo k cs (dig s p) (c j) (y j) (b j)) ↔ (s ^ k ≤ 4096 ∧ ByRuleP (KK r) (KN r) w s k z cs c y b) := by
        constructor
        · intro h
          refine ⟨by omega, fun v hv hm => ?_⟩
          obtain ⟨p, p1, p2⟩ := dig_surj hs1 k v hv
          obtain ⟨j, j1, x, x1, x2, x3⟩ := h p (by omega) (by omega) ((mt_congr _ _ hw hw4 h3 h5 (fun k hk => by have := hv k hk; omega) p2).mp hm)
          exact ⟨j, j1, x, x1, x2, by rw [← p2 x x1]; exact x3⟩
        · intro h p _ hp hm
          exact h.2 (dig s p) (fun k hk => Nat.mod_lt _ (by omega)) hm
      rw [bI_c hiff] at a
      simp (disch := omega) only [q0, q1, q2, q3, q4, q5, q7, q9, q10, q16, q30, q48, q57, q60, q99, q255, q300, q4096, pk_mul, nI_add, pk_sub, n_gin, n_cl, ifle_t, ifle_f, iflt_t, iflt_f, ifeq_t, ifeq_f, ifne_t, ifne_f, ifm_f, ifm_t, iflm_f, ifm0_t, ifm0_f, ob, g1n, g0n, ↓reduceIte, not_true_eq_false, not_false_eq_true, h2]
      exact a
    · refine ⟨FI, ?_⟩
      have := e4 (by omega)
      rw [bI_f (fun e => by omega)]
      simp (disch := omega) only [q0, q1, q2, q3, q4, q5, q7, q9, q10, q16, q30, q48, q57, q60, q99, q255, q300, q4096, pk_mul, nI_add, pk_sub, n_gin, n_cl, ifle_t, ifle_f, iflt_t, iflt_f, ifeq_t, ifeq_f, ifne_t, ifne_f, ifm_f, ifm_t, iflm_f, ifm0_t, ifm0_f, ob, g1n, g0n, ↓reduceIte, not_true_eq_false, not_false_eq_true, h2]
  | succ d ih =>
    intro k m q e1 e2 e3 e4 e5
    obtain ⟨m, rfl⟩ : ∃ m', m = m' + 1 := ⟨m - 1, by omega⟩
    rw [f_X6_byRule_L26]
    by_cases hq : q ≤ 4096
    · have hqe := e3 hq
      have hb : q * s ≤ 4096 * 6 := Nat.mul_le_mul hq hs
      obtain ⟨FI', a⟩ := ih (k + 1) m (q * s) (by omega) (by omega) (fun _ => by rw [Nat.pow_succ, hqe]) (fun g => by rw [Nat.pow_succ, ← hqe]; exact g) hb
      refine ⟨FI', ?_⟩
      simp (disch := omega) only [q0, q1, q2, q3, q4, q5, q7, q9, q10, q16, q30, q48, q57, q60, q99, q255, q300, q4096, pk_mul, nI_add, pk_sub, n_gin, n_cl, ifle_t, ifle_f, iflt_t, iflt_f, ifeq_t, ifeq_f, ifne_t, ifne_f, ifm_f, ifm_t, iflm_f, ifm0_t, ifm0_f, ob, g1n, g0n, ↓reduceIte, not_true_eq_false, not_false_eq_true, h2, f_X6_byRule_J54]
      exact a
    · obtain ⟨FI', a⟩ := ih (k + 1) m q (by omega) (by omega) (fun g => absurd g hq) (fun g => by
        have g1 := e4 g
        rw [Nat.pow_succ]
        have : s ^ k * 1 ≤ s ^ k * s := Nat.mul_le_mul_left _ hs1
        omega) e5
      refine ⟨FI', ?_⟩
      simp (disch := omega) only [q0, q1, q2, q3, q4, q5, q7, q9, q10, q16, q30, q48, q57, q60, q99, q255, q300, q4096, pk_mul, nI_add, pk_sub, n_gin, n_cl, ifle_t, ifle_f, iflt_t, iflt_f, ifeq_t, ifeq_f, ifne_t, ifne_f, ifm_f, ifm_t, iflm_f, ifm0_t, ifm0_f, ob, g1n, g0n, ↓reduceIte, not_true_eq_false, not_false_eq_true, h2, f_X6_byRule_J54]
      exact a
end BM
