/-! PURE PART. fails, tell, literal -/
section FL
variable {RK RN RS RC KK KN KS KC SD AN : Nat → Int32} {nr w h s : Nat}
theorem b_fails_L (D0 : 1 ≤ w ∧ w ≤ 4 ∧ 1 ≤ h ∧ h ≤ 4 ∧ 1 ≤ s ∧ s ≤ 6 ∧ 1 ≤ w * h ∧ w * h ≤ 16) (hr : nr ≤ 30) (hR : ∀ i, i < nr → KK i = RK i ∧ KN i = RN i ∧ ∃ n cs, RowR RS RC i n cs ∧ RowR KS KC i n cs ∧ OkR (w * h) n cs) (A : SAns s SD AN) {F : Nat} (hF : 100 < F) :
    ∀ d k m FI, k + d = nr → d < m → ∃ q FI', (q = -nI 1 ∨ ∃ j, j < nr ∧ q = nI j) ∧ f_X5_fails_L2 (nI w) (nI (w * h)) (nI (edgeN w h)) (nI (edgeN w h * 2 ^ (w - 1))) (nI nr) SD RK RN RS RC F m (nI k) = some q ∧ f_X6_firstFailing_L2 (nI w) (nI nr) KK KN KS KC AN F m (nI k) FI = some (q, FI') := by
  intro d
  induction d with
  | zero =>
    intro k m FI e1 e2
    obtain ⟨m, rfl⟩ : ∃ m', m = m' + 1 := ⟨m - 1, by omega⟩
    refine ⟨-nI 1, FI, Or.inl rfl, ?_, ?_⟩
    · rw [f_X5_fails_L2]
      simp (disch := omega) only [q0, q1, q2, q3, q4, q5, q7, q9, q10, q16, q30, q48, q57, q60, q99, q255, q300, q4096, pk_mul, nI_add, pk_sub, n_gin, n_cl, ifle_t, ifle_f, iflt_t, iflt_f, ifeq_t, ifeq_f, ifne_t, ifne_f, ifm_f, ifm_t, iflm_f, ifm0_t, ifm0_f, ob, g1n, g0n, ↓reduceIte, not_true_eq_false, not_false_eq_true, f_X3_count]
    · rw [f_X6_firstFailing_L2]
      simp (disch := omega) only [q0, q1, q2, q3, q4, q5, q7, q9, q10, q16, q30, q48, q57, q60, q99, q255, q300, q4096, pk_mul, nI_add, pk_sub, n_gin, n_cl, ifle_t, ifle_f, iflt_t, iflt_f, ifeq_t, ifeq_f, ifne_t, ifne_f, ifm_f, ifm_t, iflm_f, ifm0_t, ifm0_f, ob, g1n, g0n, ↓reduceIte, not_true_eq_false, not_false_eq_true]
  | succ d ih =>
    intro k m FI e1 e2
    obtain ⟨m, rfl⟩ : ∃ m', m = m' + 1 := ⟨m - 1, by omega⟩
    obtain ⟨b1, b2, n, cs, b3, b4, b5⟩ := hR k (by omega)
    obtain ⟨FI1, hm⟩ := m_test1 (KK := KK) (KN := KN) (w := w) (h := h) D0 b4 A (F := F) hF FI
    have hsd := l_allSaid (SY := SD) b3 (F := F) (by omega)
    rw [b1, b2] at hm
    rw [f_X5_fails_L2, f_X6_firstFailing_L2]
    by_cases ha : ∀ j, j < n → ¬ SD (cs j) = -1
    · have hc := c_test1 (RK := RK) (RN := RN) D0 b3 b5 A (F := F) hF ha
      have ht : TST (RK k) (RN k) w n cs SD = bI (MeetsP (RK k) (RN k) w n cs (fun j => (SD (cs j)).toNatClampNeg)) := by
        unfold TST; exact if_pos ha
      rw [bI_t ha] at hsd
      by_cases hp : MeetsP (RK k) (RN k) w n cs (fun j => (SD (cs j)).toNatClampNeg)
      · rw [ht, bI_t hp] at hm
        rw [bI_t hp] at hc
        obtain ⟨q, FI', i1, i2, i3⟩ := ih (k + 1) m FI1 (by omega) (by omega)
        simp (disch := omega) only [q0, q1, q2, q3, q4, q5, q7, q9, q10, q16, q30, q48, q57, q60, q99, q255, q300, q4096, pk_mul, nI_add, pk_sub, n_gin, n_cl, ifle_t, ifle_f, iflt_t, iflt_f, ifeq_t, ifeq_f, ifne_t, ifne_f, ifm_f, ifm_t, iflm_f, ifm0_t, ifm0_f, ob, g1n, g0n, ↓reduceIte, not_true_eq_false, not_false_eq_true, f_X3_count, hsd, hc, hm]
        exact ⟨q, FI', i1, i2, i3⟩
      · rw [ht, bI_f hp] at hm
        rw [bI_f hp] at hc
        simp (disch := omega) only [q0, q1, q2, q3, q4, q5, q7, q9, q10, q16, q30, q48, q57, q60, q99, q255, q300, q4096, pk_mul, nI_add, pk_sub, n_gin, n_cl, ifle_t, ifle_f, iflt_t, iflt_f, ifeq_t, ifeq_f, ifne_t, ifne_f, ifm_f, ifm_t, iflm_f, ifm0_t, ifm0_f, ob, g1n, g0n, ↓reduceIte, not_true_eq_false, not_false_eq_true, f_X3_count, hsd, hc, hm]
        exact ⟨nI k, FI1, Or.inr ⟨k, by omega, rfl⟩, rfl, rfl⟩
    · have ht : TST (RK k) (RN k) w n cs SD = -1 := by
        unfold TST; exact if_neg ha
      rw [bI_f ha] at hsd
      rw [ht] at hm
      have hne : ¬ (-nI 1 : Int32) = nI 1 := by decide
      simp (disch := omega) only [q0, q1, q2, q3, q4, q5, q7, q9, q10, q16, q30, q48, q57, q60, q99, q255, q300, q4096, pk_mul, nI_add, pk_sub, n_gin, n_cl, ifle_t, ifle_f, iflt_t, iflt_f, ifeq_t, ifeq_f, ifne_t, ifne_f, ifm_f, ifm_t, iflm_f, ifm0_t, ifm0_f, ob, g1n, g0n, ↓reduceIte, not_true_eq_false, not_false_eq_true, f_X3_count, hsd, hm, if_neg hne]
      exact ⟨nI k, FI1, Or.inr ⟨k, by omega, rfl⟩, rfl, rfl⟩
end FL
theorem P_fails (gw gc gs ge gf cR cL cB pB : Int32) (SD RK RN RS RC RT LK LN LS LL US UB BB : Nat → Int32) (mT mW mH mS mR mL mC mZ mA mB : Int32) (KK KN KS KC AN JK JN JS JL MY KP FI TX : Nat → Int32) (hs : Sim gw gc gs ge gf cR cL cB pB SD RK RN RS RC RT LK LN LS LL US UB BB mT mW mH mS mR mL mC mZ mA mB KK KN KS KC AN JK JN JS JL MY KP FI TX) : ∃ (r : Int32) (t : Int32 × Int32 × (Nat → Int32)), f_X5_fails gw gc ge gf cR SD RK RN RS RC FF = some r ∧ f_X6_fails mW mR KK KN KS KC AN FF mT FI = some t ∧ r = t.1 ∧ Sim gw gc gs ge gf cR cL cB pB SD RK RN RS RC RT LK LN LS LL US UB BB t.2.1 mW mH mS mR mL mC mZ mA mB KK KN KS KC AN JK JN JS JL MY KP t.2.2 TX := by
  obtain ⟨w, h, s, ⟨D0, rfl, rfl, rfl, rfl, rfl, rfl, rfl, rfl⟩, ⟨nr, hr, rfl, rfl, hz, hR⟩, A, L, T⟩ := hs
  have D : Dim (nI w) (nI (w * h)) (nI s) (nI (edgeN w h)) (nI (edgeN w h * 2 ^ (w - 1))) (nI w) (nI h) (nI s) w h s := ⟨D0, rfl, rfl, rfl, rfl, rfl, rfl, rfl, rfl⟩
  have S0 : SRules (w * h) (nI nr) (nI nr) RK RN RS RC KK KN KS KC := ⟨nr, hr, rfl, rfl, hz, hR⟩
  obtain ⟨q, FI', _, i2, i3⟩ := b_fails_L D0 hr hR A (F := FF) (by unfold FF; omega) nr 0 FF FI (by omega) (by unfold FF; omega)
  refine ⟨q, (q, 0, FI'), i2, ?_, rfl, sim_mk D S0 A L T⟩
  unfold f_X6_fails f_X6_firstFailing
  rw [show f_X6_firstFailing_L2 (nI w) (nI nr) KK KN KS KC AN FF FF 0 FI = _ from i3]
  rfl
/-! literals -/
theorem e_litC : ∀ c, c < 16 → ∀ y, y < 6 → ∀ b, b < 2 → f_X1_literalOf (nI c) (nI y) (nI b) = some (nI (16 * c + 2 * y + b)) ∧ f_X1_cellOf (nI (16 * c + 2 * y + b)) = some (nI c) ∧ f_X1_symbolOf (nI (16 * c + 2 * y + b)) = some (nI y) ∧ f_X1_saysIs (nI (16 * c + 2 * y + b)) = some (nI b) := by decide +kernel
theorem e_litM1 : ∀ s, s < 7 → ∀ c, c < 16 → ∀ y, y < s → ∀ b, b < 2 → f_X6_literalOf (nI s) (nI c) (nI y) (nI b) = some (nI (2 * (s * c + y) + b)) := by decide +kernel
theorem e_litM2 : ∀ s, s < 7 → ∀ c, c < 16 → ∀ y, y < s → ∀ b, b < 2 → f_X6_cellOf (nI s) (nI (2 * (s * c + y) + b)) = some (nI c) := by decide +kernel
theorem e_litM3 : ∀ s, s < 7 → ∀ c, c < 16 → ∀ y, y < s → ∀ b, b < 2 → f_X6_symbolOf (nI s) (nI (2 * (s * c + y) + b)) = some (nI y) := by decide +kernel
theorem e_litM4 : ∀ s, s < 7 → ∀ c, c < 16 → ∀ y, y < s → ∀ b, b < 2 → nI (2 * (s * c + y) + b) - nI (2 * (s * c + y) + b) / nI 2 * nI 2 = nI b := by decide +kernel
theorem e_litM5 : ∀ s, s < 7 → ∀ c, c < 16 → ∀ y, y < s → ∀ b, b < 2 → 2 * (s * c + y) + b < 200 := by decide +kernel
theorem e_litM6 : ∀ s, s < 7 → ∀ c, c < 16 → ∀ y, y < s → ∀ b, b < 2 → (nI (2 * (s * c + y) + b) ^^^ nI 1) = nI (2 * (s * c + y) + (1 - b)) := by decide +kernel
theorem e_litM (s : Nat) (hs : s < 7) (c : Nat) (hc : c < 16) (y : Nat) (hy : y < s) (b : Nat) (hb : b < 2) : f_X6_literalOf (nI s) (nI c) (nI y) (nI b) = some (nI (2 * (s * c + y) + b)) ∧ f_X6_cellOf (nI s) (nI (2 * (s * c + y) + b)) = some (nI c) ∧ f_X6_symbolOf (nI s) (nI (2 * (s * c + y) + b)) = some (nI y) ∧ nI (2 * (s * c + y) + b) - nI (2 * (s * c + y) + b) / nI 2 * nI 2 = nI b ∧ 2 * (s * c + y) + b < 200 ∧ (nI (2 * (s * c + y) + b) ^^^ nI 1) = nI (2 * (s * c + y) + (1 - b)) :=
  ⟨e_litM1 s hs c hc y hy b hb, e_litM2 s hs c hc y hy b hb, e_litM3 s hs c hc y hy b hb, e_litM4 s hs c hc y hy b hb, e_litM5 s hs c hc y hy b hb, e_litM6 s hs c hc y hy b hb⟩
theorem e_injM {s c y b c' y' b' : Nat} (hy : y < s) (hy' : y' < s) (hb : b < 2) (hb' : b' < 2) : 2 * (s * c + y) + b = 2 * (s * c' + y') + b' ↔ (c = c' ∧ y = y' ∧ b = b') := by
  constructor
  · intro h
    have h1 : s * c + y = s * c' + y' := by omega
    have h2 : b = b' := by omega
    have e1 : (s * c + y) / s = c := by rw [Nat.mul_add_div (by omega), Nat.div_eq_of_lt hy, Nat.add_zero]
    have e2 : (s * c' + y') / s = c' := by rw [Nat.mul_add_div (by omega), Nat.div_eq_of_lt hy', Nat.add_zero]
    have h3 : c = c' := by rw [← e1, ← e2, h1]
    subst h3
    exact ⟨rfl, by omega, h2⟩
  · rintro ⟨rfl, rfl, rfl⟩; rfl
theorem e_injC {c y b c' y' b' : Nat} (hy : y < 8) (hy' : y' < 8) (hb : b < 2) (hb' : b' < 2) : 16 * c + 2 * y + b = 16 * c' + 2 * y' + b' ↔ (c = c' ∧ y = y' ∧ b = b') := by
  constructor
  · intro h; exact ⟨by omega, by omega, by omega⟩
  · rintro ⟨rfl, rfl, rfl⟩; rfl
section LI
variable {LS LL JS JL : Nat → Int32} {i z N s : Nat} {c y b : Nat → Nat}
theorem l_sizeOf (R : RowC LS LL i z c y b) (hi : i < 61) : f_X1_sizeOf LS (nI i) = some (nI z) := by
  unfold f_X1_sizeOf
  simp (disch := omega) only [q0, q1, q2, q3, q4, q5, q7, q9, q10, q16, q30, q48, q57, q60, q99, q255, q300, q4096, pk_mul, nI_add, pk_sub, n_gin, n_cl, ifle_t, ifle_f, iflt_t, iflt_f, ifeq_t, ifeq_f, ifne_t, ifne_f, ifm_f, ifm_t, iflm_f, ifm0_t, ifm0_f, ob, g1n, g0n, ↓reduceIte, not_true_eq_false, not_false_eq_true, R.1]
theorem l_litAt (R : RowC LS LL i z c y b) (hi : i < 61) (hz : z ≤ 16) {k : Nat} (hk : k < z) : f_X1_literalAt LL (nI i) (nI k) = some (nI (16 * c k + 2 * y k + b k)) := by
  unfold f_X1_literalAt
  simp (disch := omega) only [q0, q1, q2, q3, q4, q5, q7, q9, q10, q16, q30, q48, q57, q60, q99, q255, q300, q4096, pk_mul, nI_add, pk_sub, n_gin, n_cl, ifle_t, ifle_f, iflt_t, iflt_f, ifeq_t, ifeq_f, ifne_t, ifne_f, ifm_f, ifm_t, iflm_f, ifm0_t, ifm0_f, ob, g1n, g0n, ↓reduceIte, not_true_eq_false, not_false_eq_true, R.2 k hk]
theorem c_add_L (R : RowC LS LL i z c y b) (hi : i < 61) (O : OkL N s z c y b) (hN : N ≤ 16) (hs : s ≤ 6) (hz : z < 16) {c0 y0 b0 : Nat} (h0 : c0 < N) (h1 : y0 < s) (h2 : b0 < 2) (F : Nat) : ∀ d k m, k + d = z → d < m →
    ((∃ j, k ≤ j ∧ j < z ∧ c j = c0 ∧ y j = y0 ∧ b j = b0) → f_X1_addLiteral_L20 F m (nI i) (nI (16 * c0 + 2 * y0 + b0)) (nI z) (nI k) LS LL = some (nI 0, LS, LL)) ∧
    ((∀ j, k ≤ j → j < z → ¬ (c j = c0 ∧ y j = y0 ∧ b j = b0)) → f_X1_addLiteral_L20 F m (nI i) (nI (16 * c0 + 2 * y0 + b0)) (nI z) (nI k) LS LL = some (nI 1, upd LS i (nI (z + 1)), upd LL (16 * i + z) (nI (16 * c0 + 2 * y0 + b0)))) := by
  intro d
  induction d with
  | zero =>
    intro k m e1 e2
    obtain ⟨m, rfl⟩ : ∃ m', m = m' + 1 := ⟨m - 1, by omega⟩
    refine ⟨fun ⟨j, a, b, _⟩ => by omega, fun _ => ?_⟩
    rw [f_X1_addLiteral_L20]
    simp (disch := omega) only [q0, q1, q2, q3, q4, q5, q7, q9, q10, q16, q30, q48, q57, q60, q99, q255, q300, q4096, pk_mul, nI_add, pk_sub, n_gin, n_cl, ifle_t, ifle_f, iflt_t, iflt_f, ifeq_t, ifeq_f, ifne_t, ifne_f, ifm_f, ifm_t, iflm_f, ifm0_t, ifm0_f, ob, g1n, g0n, ↓reduceIte, not_true_eq_false, not_false_eq_true]
  | succ d ih =>
    intro k m e1 e2
    obtain ⟨m, rfl⟩ : ∃ m', m = m' + 1 := ⟨m - 1, by omega⟩
    have hk := O.2.1 k (by omega)
    have hij := e_injC (c := c k) (y := y k) (b := b k) (c' := c0) (y' := y0) (b' := b0) (by omega) (by omega) (by omega) (by omega)
    obtain ⟨i1, i2⟩ := ih (k + 1) m (by omega) (by omega)
    rw [f_X1_addLiteral_L20]
    by_cases hq : 16 * c k + 2 * y k + b k = 16 * c0 + 2 * y0 + b0
    · refine ⟨fun _ => ?_, fun h => absurd (hij.mp hq) (h k (Nat.le_refl _) (by omega))⟩
      simp (disch := omega) only [q0, q1, q2, q3, q4, q5, q7, q9, q10, q16, q30, q48, q57, q60, q99, q255, q300, q4096, pk_mul, nI_add, pk_sub, n_gin, n_cl, ifle_t, ifle_f, iflt_t, iflt_f, ifeq_t, ifeq_f, ifne_t, ifne_f, ifm_f, ifm_t, iflm_f, ifm0_t, ifm0_f, ob, g1n, g0n, ↓reduceIte, not_true_eq_false, not_false_eq_true, l_litAt R hi O.1 (show k < z by omega)]
    · simp (disch := omega) only [q0, q1, q2, q3, q4, q5, q7, q9, q10, q16, q30, q48, q57, q60, q99, q255, q300, q4096, pk_mul, nI_add, pk_sub, n_gin, n_cl, ifle_t, ifle_f, iflt_t, iflt_f, ifeq_t, ifeq_f, ifne_t, ifne_f, ifm_f, ifm_t, iflm_f, ifm0_t, ifm0_f, ob, g1n, g0n, ↓reduceIte, not_true_eq_false, not_false_eq_true, l_litAt R hi O.1 (show k < z by omega)]
      refine ⟨fun ⟨j, a, b, e⟩ => i1 ⟨j, ?_, b, e⟩, fun h => i2 (fun j a b => h j (by omega) b)⟩
      by_cases hj : j = k
      · subst hj; exact absurd (hij.mpr e) hq
      · omega
theorem c_add (R : RowC LS LL i z c y b) (hi : i < 61) (O : OkL N s z c y b) (hN : N ≤ 16) (hs : s ≤ 6) {c0 y0 b0 : Nat} (h0 : c0 < N) (h1 : y0 < s) (h2 : b0 < 2) {F : Nat} (hF : 20 < F) :
    ((∃ j, j < z ∧ c j = c0 ∧ y j = y0 ∧ b j = b0) → f_X1_addLiteral F LS LL (nI i) (nI (16 * c0 + 2 * y0 + b0)) = some (nI 0, LS, LL)) ∧
    (z = 16 → f_X1_addLiteral F LS LL (nI i) (nI (16 * c0 + 2 * y0 + b0)) = some (nI 0, LS, LL)) ∧
    (z < 16 → (∀ j, j < z → ¬ (c j = c0 ∧ y j = y0 ∧ b j = b0)) → f_X1_addLiteral F LS LL (nI i) (nI (16 * c0 + 2 * y0 + b0)) = some (nI 1, upd LS i (nI (z + 1)), upd LL (16 * i + z) (nI (16 * c0 + 2 * y0 + b0)))) := by
  have hz := O.1
  have hr := R.1
  unfold f_X1_addLiteral f_X1_isFullOfLiterals
  by_cases h16 : z = 16
  · simp (disch := omega) only [q0, q1, q2, q3, q4, q5, q7, q9, q10, q16, q30, q48, q57, q60, q99, q255, q300, q4096, pk_mul, nI_add, pk_sub, n_gin, n_cl, ifle_t, ifle_f, iflt_t, iflt_f, ifeq_t, ifeq_f, ifne_t, ifne_f, ifm_f, ifm_t, iflm_f, ifm0_t, ifm0_f, ob, g1n, g0n, ↓reduceIte, not_true_eq_false, not_false_eq_true, hr]
    exact ⟨fun _ => trivial, fun _ => trivial, fun h => by omega⟩
  · have g := c_add_L R hi O hN hs (by omega) h0 h1 h2 F z 0 F (by omega) (by omega)
    simp (disch := omega) only [q0, q1, q2, q3, q4, q5, q7, q9, q10, q16, q30, q48, q57, q60, q99, q255, q300, q4096, pk_mul, nI_add, pk_sub, n_gin, n_cl, ifle_t, ifle_f, iflt_t, iflt_f, ifeq_t, ifeq_f, ifne_t, ifne_f, ifm_f, ifm_t, iflm_f, ifm0_t, ifm0_f, ob, g1n, g0n, ↓reduceIte, not_true_eq_false, not_false_eq_true, hr]
    exact ⟨fun ⟨j, a, e⟩ => g.1 ⟨j, by omega, a, e⟩, fun h => absurd h h16, fun _ h => g.2 (fun j _ b => h j b)⟩
theorem m_has_L (R : RowM s JS JL i z c y b) (hi : i < 120) (O : OkL N s z c y b) (hN : N ≤ 16) (hs : s ≤ 6) {c0 y0 b0 : Nat} (h0 : c0 < N) (h1 : y0 < s) (h2 : b0 < 2) (F : Nat) : ∀ d k m, k + d = z → d < m →
    f_X6_has_L2 JS JL F m (nI i) (nI (2 * (s * c0 + y0) + b0)) (nI k) = some (bI (∃ j, k ≤ j ∧ j < z ∧ c j = c0 ∧ y j = y0 ∧ b j = b0)) := by
  have hz := O.1
  have hr := R.1
  intro d
  induction d with
  | zero =>
    intro k m e1 e2
    obtain ⟨m, rfl⟩ : ∃ m', m = m' + 1 := ⟨m - 1, by omega⟩
    rw [f_X6_has_L2, bI_f (fun ⟨j, a, b, _⟩ => by omega)]
    simp (disch := omega) only [q0, q1, q2, q3, q4, q5, q7, q9, q10, q16, q30, q48, q57, q60, q99, q255, q300, q4096, pk_mul, nI_add, pk_sub, n_gin, n_cl, ifle_t, ifle_f, iflt_t, iflt_f, ifeq_t, ifeq_f, ifne_t, ifne_f, ifm_f, ifm_t, iflm_f, ifm0_t, ifm0_f, ob, g1n, g0n, ↓reduceIte, not_true_eq_false, not_false_eq_true, hr]
  | succ d ih =>
    intro k m e1 e2
    obtain ⟨m, rfl⟩ : ∃ m', m = m' + 1 := ⟨m - 1, by omega⟩
    have hk := O.2.1 k (by omega)
    have hij := e_injM (s := s) (c := c k) (y := y k) (b := b k) (c' := c0) (y' := y0) (b' := b0) (by omega) (by omega) (by omega) (by omega)
    have hb1 := (e_litM s (by omega) (c k) (by omega) (y k) (by omega) (b k) (by omega)).2.2.2.2.1
    have hb2 := (e_litM s (by omega) c0 (by omega) y0 (by omega) b0 (by omega)).2.2.2.2.1
    rw [f_X6_has_L2]
    by_cases hq : 2 * (s * c k + y k) + b k = 2 * (s * c0 + y0) + b0
    · rw [bI_t ⟨k, Nat.le_refl _, by omega, hij.mp hq⟩]
      simp (disch := omega) only [q0, q1, q2, q3, q4, q5, q7, q9, q10, q16, q30, q48, q57, q60, q99, q255, q300, q4096, pk_mul, nI_add, pk_sub, n_gin, n_cl, ifle_t, ifle_f, iflt_t, iflt_f, ifeq_t, ifeq_f, ifne_t, ifne_f, ifm_f, ifm_t, iflm_f, ifm0_t, ifm0_f, ob, g1n, g0n, ↓reduceIte, not_true_eq_false, not_false_eq_true, hr, R.2 k (show k < z by omega)]
    · simp (disch := omega) only [q0, q1, q2, q3, q4, q5, q7, q9, q10, q16, q30, q48, q57, q60, q99, q255, q300, q4096, pk_mul, nI_add, pk_sub, n_gin, n_cl, ifle_t, ifle_f, iflt_t, iflt_f, ifeq_t, ifeq_f, ifne_t, ifne_f, ifm_f, ifm_t, iflm_f, ifm0_t, ifm0_f, ob, g1n, g0n, ↓reduceIte, not_true_eq_false, not_false_eq_true, hr, R.2 k (show k < z by omega)]
      rw [ih (k + 1) m (by omega) (by omega)]
      refine congrArg some (bI_c ⟨fun ⟨j, a, b, e⟩ => ⟨j, by omega, b, e⟩, fun ⟨j, a, b, e⟩ => ⟨j, ?_, b, e⟩⟩)
      by_cases hj : j = k
      · subst hj; exact absurd (hij.mpr e) hq
      · omega
theorem m_has (R : RowM s JS JL i z c y b) (hi : i < 120) (O : OkL N s z c y b) (hN : N ≤ 16) (hs : s ≤ 6) {c0 y0 b0 : Nat} (h0 : c0 < N) (h1 : y0 < s) (h2 : b0 < 2) {F : Nat} (hF : 20 < F) :
    f_X6_has JS JL F (nI i) (nI (2 * (s * c0 + y0) + b0)) = some (bI (∃ j, j < z ∧ c j = c0 ∧ y j = y0 ∧ b j = b0)) := by
  have hz := O.1
  unfold f_X6_has
  rw [q0, m_has_L R hi O hN hs h0 h1 h2 F z 0 F (by omega) (by omega)]
  exact congrArg some (bI_c ⟨fun ⟨j, a, b, e⟩ => ⟨j, b, e⟩, fun ⟨j, b, e⟩ => ⟨j, by omega, b, e⟩⟩)
theorem m_add (R : RowM s JS JL i z c y b) (hi : i < 120) (hz : z < 16) (x : Int32) : f_X6_add JS JL (nI i) x = some (upd JS i (nI (z + 1)), upd JL (16 * i + z) x) := by
  have hr := R.1
  unfold f_X6_add
  simp (disch := omega) only [q0, q1, q2, q3, q4, q5, q7, q9, q10, q16, q30, q48, q57, q60, q99, q255, q300, q4096, pk_mul, nI_add, pk_sub, n_gin, n_cl, ifle_t, ifle_f, iflt_t, iflt_f, ifeq_t, ifeq_f, ifne_t, ifne_f, ifm_f, ifm_t, iflm_f, ifm0_t, ifm0_f, ob, g1n, g0n, ↓reduceIte, not_true_eq_false, not_false_eq_true, hr]
/-- a row with one literal more -/
theorem RowC.grow (R : RowC LS LL i z c y b) {c0 y0 b0 : Nat} : RowC (upd LS i (nI (z + 1))) (upd LL (16 * i + z) (nI (16 * c0 + 2 * y0 + b0))) i (z + 1) (fun k => if k = z then c0 else c k) (fun k => if k = z then y0 else y k) (fun k => if k = z then b0 else b k) := by
  refine ⟨pk_us, fun k hk => ?_⟩
  show upd _ _ _ _ = nI (16 * (if k = z then c0 else c k) + 2 * (if k = z then y0 else y k) + (if k = z then b0 else b k))
  by_cases h : k = z
  · subst h; rw [pk_us, if_pos rfl, if_pos rfl, if_pos rfl]
  · rw [pk_un (by omega), if_neg h, if_neg h, if_neg h]; exact R.2 k (by omega)
theorem RowM.grow (R : RowM s LS LL i z c y b) {c0 y0 b0 : Nat} : RowM s (upd LS i (nI (z + 1))) (upd LL (16 * i + z) (nI (2 * (s * c0 + y0) + b0))) i (z + 1) (fun k => if k = z then c0 else c k) (fun k => if k = z then y0 else y k) (fun k => if k = z then b0 else b k) := by
  refine ⟨pk_us, fun k hk => ?_⟩
  show upd _ _ _ _ = nI (2 * (s * (if k = z then c0 else c k) + (if k = z then y0 else y k)) + (if k = z then b0 else b k))
  by_cases h : k = z
  · subst h; rw [pk_us, if_pos rfl, if_pos rfl, if_pos rfl]
  · rw [pk_un (by omega), if_neg h, if_neg h, if_neg h]; exact R.2 k (by omega)
theorem OkL.grow (O : OkL N s z c y b) (hz : z < 16) {c0 y0 b0 : Nat} (h0 : c0 < N) (h1 : y0 < s) (h2 : b0 < 2) (hn : ∀ j, j < z → ¬ (c j = c0 ∧ y j = y0 ∧ b j = b0)) : OkL N s (z + 1) (fun k => if k = z then c0 else c k) (fun k => if k = z then y0 else y k) (fun k => if k = z then b0 else b k) := by
  refine ⟨by omega, fun k hk => ?_, fun i j hij hj => ?_⟩
  · show (if k = z then c0 else c k) < N ∧ (if k = z then y0 else y k) < s ∧ (if k = z then b0 else b k) < 2
    by_cases h : k = z
    · rw [if_pos h, if_pos h, if_pos h]; exact ⟨h0, h1, h2⟩
    · rw [if_neg h, if_neg h, if_neg h]; exact O.2.1 k (by omega)
  · show ¬ ((if i = z then c0 else c i) = (if j = z then c0 else c j) ∧ (if i = z then y0 else y i) = (if j = z then y0 else y j) ∧ (if i = z then b0 else b i) = (if j = z then b0 else b j))
    have hi : ¬ i = z := by omega
    rw [if_neg hi, if_neg hi, if_neg hi]
    by_cases h : j = z
    · rw [if_pos h, if_pos h, if_pos h]; exact hn i (by omega)
    · rw [if_neg h, if_neg h, if_neg h]; exact O.2.2 i j hij (by omega)
end LI
theorem P_literal (gw gc gs ge gf cR cL cB pB : Int32) (SD RK RN RS RC RT LK LN LS LL US UB BB : Nat → Int32) (mT mW mH mS mR mL mC mZ mA mB : Int32) (KK KN KS KC AN JK JN JS JL MY KP FI TX : Nat → Int32) (hs : Sim gw gc gs ge gf cR cL cB pB SD RK RN RS RC RT LK LN LS LL US UB BB mT mW mH mS mR mL mC mZ mA mB KK KN KS KC AN JK JN JS JL MY KP FI TX) (x1 : Int32) (x2 : Int32) (x3 : Int32) (hx3 : x3 = 0 ∨ x3 = 1) : (∃ (r : Int32 × (Nat → Int32) × (Nat → Int32)) (t : Int32 × Int32 × (Nat → Int32) × (Nat → Int32)), f_X5_literal gc gs cL FF LS LL x1 x2 x3 = some r ∧ f_X6_literal mW mH mS mL FF mT JS JL x1 x2 x3 = some t ∧ t.2.1 = 0 ∧ lb r.1 = lb t.1 ∧ Sim gw gc gs ge gf cR cL cB pB SD RK RN RS RC RT LK LN r.2.1 r.2.2 US UB BB t.2.1 mW mH mS mR mL mC mZ mA mB KK KN KS KC AN JK JN t.2.2.1 t.2.2.2 MY KP FI TX) ∨
  (f_X0_hasCell gc x1 = some 0 ∧ ∃ t : Int32 × Int32 × (Nat → Int32) × (Nat → Int32), f_X6_literal mW mH mS mL FF mT JS JL x1 x2 x3 = some t ∧ t.2.1 = 1 ∧ Sim gw gc gs ge gf cR cL cB pB SD RK RN RS RC RT LK LN LS LL US UB BB t.2.1 mW mH mS mR mL mC mZ mA mB KK KN KS KC AN JK JN t.2.2.1 t.2.2.2 MY KP FI TX) ∨
  (f_X5_needCell gc x1 = some () ∧ f_X0_hasSymbol gs x2 = some 0 ∧ ∃ t : Int32 × Int32 × (Nat → Int32) × (Nat → Int32), f_X6_literal mW mH mS mL FF mT JS JL x1 x2 x3 = some t ∧ t.2.1 = 2 ∧ Sim gw gc gs ge gf cR cL cB pB SD RK RN RS RC RT LK LN LS LL US UB BB t.2.1 mW mH mS mR mL mC mZ mA mB KK KN KS KC AN JK JN t.2.2.1 t.2.2.2 MY KP FI TX) := by
  obtain ⟨w, h, s, ⟨D0, rfl, rfl, rfl, rfl, rfl, rfl, rfl, rfl⟩, R, A, ⟨nl, hl, rfl, rfl, hL⟩, T⟩ := hs
  have D : Dim (nI w) (nI (w * h)) (nI s) (nI (edgeN w h)) (nI (edgeN w h * 2 ^ (w - 1))) (nI w) (nI h) (nI s) w h s := ⟨D0, rfl, rfl, rfl, rfl, rfl, rfl, rfl, rfl⟩
  have S0 : SLines (w * h) s (nI nl) (nI nl) LK LN LS LL JK JN JS JL := ⟨nl, hl, rfl, rfl, hL⟩
  have SS := fun (mT : Int32) => sim_mk (pB := pB) (RT := RT) (US := US) (UB := UB) (mT := mT) (mC := mC) (mA := mA) (mB := mB) (MY := MY) (KP := KP) (FI := FI) D R A S0 T
  rcases pk_ix x1 (n := w * h) (by omega) with h1 | h1 | ⟨c0, hc, rfl⟩
  · rw [q0] at h1
    refine Or.inr (Or.inl ?_)
    simp (disch := omega) only [q0, q1, q2, q3, q4, q5, q7, q9, q10, q16, q30, q48, q57, q60, q99, q255, q300, q4096, pk_mul, nI_add, pk_sub, n_gin, n_cl, ifle_t, ifle_f, iflt_t, iflt_f, ifeq_t, ifeq_f, ifne_t, ifne_f, ifm_f, ifm_t, iflm_f, ifm0_t, ifm0_f, ob, g1n, g0n, ↓reduceIte, not_true_eq_false, not_false_eq_true, f_X0_hasCell, if_pos h1, f_X6_literal, f_X6_isCell, f_X6_literal_J15, f_X6_throwsIf]
    exact ⟨trivial, _, rfl, rfl, SS _⟩
  · refine Or.inr (Or.inl ?_)
    simp (disch := omega) only [q0, q1, q2, q3, q4, q5, q7, q9, q10, q16, q30, q48, q57, q60, q99, q255, q300, q4096, pk_mul, nI_add, pk_sub, n_gin, n_cl, ifle_t, ifle_f, iflt_t, iflt_f, ifeq_t, ifeq_f, ifne_t, ifne_f, ifm_f, ifm_t, iflm_f, ifm0_t, ifm0_f, ob, g1n, g0n, ↓reduceIte, not_true_eq_false, not_false_eq_true, f_X0_hasCell, if_neg (x_neg h1 (by omega)), if_pos h1, f_X6_literal, f_X6_isCell, f_X6_cells, f_X6_literal_J15, f_X6_throwsIf]
    exact ⟨trivial, _, rfl, rfl, SS _⟩
  have hcell : f_X5_needCell (nI (w * h)) (nI c0) = some () := by
    simp (disch := omega) only [q0, q1, q2, q3, q4, q5, q7, q9, q10, q16, q30, q48, q57, q60, q99, q255, q300, q4096, pk_mul, nI_add, pk_sub, n_gin, n_cl, ifle_t, ifle_f, iflt_t, iflt_f, ifeq_t, ifeq_f, ifne_t, ifne_f, ifm_f, ifm_t, iflm_f, ifm0_t, ifm0_f, ob, g1n, g0n, ↓reduceIte, not_true_eq_false, not_false_eq_true, f_X5_needCell, f_X0_hasCell]
  rcases pk_ix x2 (n := s) (by omega) with h1 | h1 | ⟨y0, hy, rfl⟩
  · rw [q0] at h1
    refine Or.inr (Or.inr ⟨hcell, ?_⟩)
    simp (disch := omega) only [q0, q1, q2, q3, q4, q5, q7, q9, q10, q16, q30, q48, q57, q60, q99, q255, q300, q4096, pk_mul, nI_add, pk_sub, n_gin, n_cl, ifle_t, ifle_f, iflt_t, iflt_f, ifeq_t, ifeq_f, ifne_t, ifne_f, ifm_f, ifm_t, iflm_f, ifm0_t, ifm0_f, ob, g1n, g0n, ↓reduceIte, not_true_eq_false, not_false_eq_true, f_X0_hasSymbol, if_pos h1, f_X6_literal, f_X6_isCell, f_X6_cells, f_X6_isSymbol, f_X6_literal_J15, f_X6_literal_J36, f_X6_throwsIf]
    exact ⟨trivial, _, rfl, rfl, SS _⟩
  · refine Or.inr (Or.inr ⟨hcell, ?_⟩)
    simp (disch := omega) only [q0, q1, q2, q3, q4, q5, q7, q9, q10, q16, q30, q48, q57, q60, q99, q255, q300, q4096, pk_mul, nI_add, pk_sub, n_gin, n_cl, ifle_t, ifle_f, iflt_t, iflt_f, ifeq_t, ifeq_f, ifne_t, ifne_f, ifm_f, ifm_t, iflm_f, ifm0_t, ifm0_f, ob, g1n, g0n, ↓reduceIte, not_true_eq_false, not_false_eq_true, f_X0_hasSymbol, if_neg (x_neg h1 (by omega)), if_pos h1, f_X6_literal, f_X6_isCell, f_X6_cells, f_X6_isSymbol, f_X6_literal_J15, f_X6_literal_J36, f_X6_throwsIf]
    exact ⟨trivial, _, rfl, rfl, SS _⟩
  have hsym : f_X5_needSymbol (nI s) (nI y0) = some () := by
    simp (disch := omega) only [q0, q1, q2, q3, q4, q5, q7, q9, q10, q16, q30, q48, q57, q60, q99, q255, q300, q4096, pk_mul, nI_add, pk_sub, n_gin, n_cl, ifle_t, ifle_f, iflt_t, iflt_f, ifeq_t, ifeq_f, ifne_t, ifne_f, ifm_f, ifm_t, iflm_f, ifm0_t, ifm0_f, ob, g1n, g0n, ↓reduceIte, not_true_eq_false, not_false_eq_true, f_X5_needSymbol, f_X0_hasSymbol]
  refine Or.inl ?_
  obtain ⟨b0, hb, rfl⟩ : ∃ b0, b0 < 2 ∧ x3 = nI b0 := by
    rcases hx3 with rfl | rfl
    · exact ⟨0, by omega, by decide⟩
    · exact ⟨1, by omega, by decide⟩
  by_cases hn : nl = 0
  · simp (disch := omega) only [q0, q1, q2, q3, q4, q5, q7, q9, q10, q16, q30, q48, q57, q60, q99, q255, q300, q4096, pk_mul, nI_add, pk_sub, n_gin, n_cl, ifle_t, ifle_f, iflt_t, iflt_f, ifeq_t, ifeq_f, ifne_t, ifne_f, ifm_f, ifm_t, iflm_f, ifm0_t, ifm0_f, ob, g1n, g0n, ↓reduceIte, not_true_eq_false, not_false_eq_true, f_X5_literal, hcell, hsym, f_X1_count, f_X6_literal, f_X6_isCell, f_X6_cells, f_X6_isSymbol, f_X6_literal_J15, f_X6_literal_J36, f_X6_throwsIf]
    exact ⟨_, _, rfl, rfl, rfl, rfl, SS _⟩
  obtain ⟨l, rfl⟩ : ∃ l, nl = l + 1 := ⟨nl - 1, by omega⟩
  obtain ⟨b1, b2, z, c, y, b, b3, b4, b5⟩ := hL l (by omega)
  have hz := b5.1
  have eC := (e_litC c0 (by omega) y0 (by omega) b0 hb).1
  have eM := (e_litM s (by omega) c0 (by omega) y0 (by omega) b0 hb).1
  have hl1 : nI (l + 1) - nI 1 = nI l := by rw [pk_sub (by omega)]; rfl
  have cA := c_add b3 (by omega) b5 (by omega) (by omega) hc hy hb (F := FF) (by unfold FF; omega)
  have mH := m_has b4 (by omega) b5 (by omega) (by omega) hc hy hb (F := FF) (by unfold FF; omega)
  have g2 := b4.1
  by_cases hE : ∃ j, j < z ∧ c j = c0 ∧ y j = y0 ∧ b j = b0
  · rw [bI_t hE] at mH
    have := cA.1 hE
    simp (disch := omega) only [q0, q1, q2, q3, q4, q5, q7, q9, q10, q16, q30, q48, q57, q60, q99, q255, q300, q4096, pk_mul, nI_add, pk_sub, n_gin, n_cl, ifle_t, ifle_f, iflt_t, iflt_f, ifeq_t, ifeq_f, ifne_t, ifne_f, ifm_f, ifm_t, iflm_f, ifm0_t, ifm0_f, ob, g1n, g0n, ↓reduceIte, not_true_eq_false, not_false_eq_true, f_X5_literal, hcell, hsym, f_X1_count, f_X6_literal, f_X6_isCell, f_X6_cells, f_X6_isSymbol, f_X6_literal_J15, f_X6_literal_J36, f_X6_throwsIf, hl1, eC, eM, mH, this]
    exact ⟨_, _, rfl, rfl, rfl, rfl, SS _⟩
  · rw [bI_f hE] at mH
    by_cases h16 : z = 16
    · have := cA.2.1 h16
      simp (disch := omega) only [q0, q1, q2, q3, q4, q5, q7, q9, q10, q16, q30, q48, q57, q60, q99, q255, q300, q4096, pk_mul, nI_add, pk_sub, n_gin, n_cl, ifle_t, ifle_f, iflt_t, iflt_f, ifeq_t, ifeq_f, ifne_t, ifne_f, ifm_f, ifm_t, iflm_f, ifm0_t, ifm0_f, ob, g1n, g0n, ↓reduceIte, not_true_eq_false, not_false_eq_true, f_X5_literal, hcell, hsym, f_X1_count, f_X6_literal, f_X6_isCell, f_X6_cells, f_X6_isSymbol, f_X6_literal_J15, f_X6_literal_J36, f_X6_throwsIf, hl1, eC, eM, mH, this, g2]
      exact ⟨_, _, rfl, rfl, rfl, rfl, SS _⟩
    · have hnE : ∀ j, j < z → ¬ (c j = c0 ∧ y j = y0 ∧ b j = b0) := fun j hj e => hE ⟨j, hj, e⟩
      have := cA.2.2 (by omega) hnE
      have mA := m_add b4 (by omega) (show z < 16 by omega) (nI (2 * (s * c0 + y0) + b0))
      simp (disch := omega) only [q0, q1, q2, q3, q4, q5, q7, q9, q10, q16, q30, q48, q57, q60, q99, q255, q300, q4096, pk_mul, nI_add, pk_sub, n_gin, n_cl, ifle_t, ifle_f, iflt_t, iflt_f, ifeq_t, ifeq_f, ifne_t, ifne_f, ifm_f, ifm_t, iflm_f, ifm0_t, ifm0_f, ob, g1n, g0n, ↓reduceIte, not_true_eq_false, not_false_eq_true, f_X5_literal, hcell, hsym, f_X1_count, f_X6_literal, f_X6_isCell, f_X6_cells, f_X6_isSymbol, f_X6_literal_J15, f_X6_literal_J36, f_X6_throwsIf, hl1, eC, eM, mH, this, g2, mA]
      refine ⟨_, _, rfl, rfl, rfl, rfl, sim_mk D R A ⟨l + 1, hl, rfl, rfl, fun i hi => ?_⟩ T⟩
      by_cases hil : i = l
      · subst hil
        exact ⟨b1, b2, z + 1, _, _, _, b3.grow, b4.grow, b5.grow (by omega) hc hy hb hnE⟩
      · obtain ⟨d1, d2, z', c', y', b', d3, d4, d5⟩ := hL i hi
        exact ⟨d1, d2, z', c', y', b', d3.keep d5.1 (pk_un hil) (fun k hk => pk_un (by omega)), d4.keep d5.1 (pk_un hil) (fun k hk => pk_un (by omega)), d5⟩
