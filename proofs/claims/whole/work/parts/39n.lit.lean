/-! PURE PART. reading a literal -/
section RL
variable {BB TX LS LL JS JL : Nat → Int32} {nb p w h s rc rm z : Nat} {t c y b : Nat → Nat}
theorem j182b {f : Nat} (hf : f < 2000) (x1 x2 x3 x4 mA : Int32) {F : Nat} : f_X6_readLiteral_J182 (nI w) (nI h) (nI s) (nI nb) TX F x1 x2 x3 x4 mA (nI f) JS JL = some (mA, nI f, JS, JL) := by
  unfold f_X6_readLiteral_J182
  simp (disch := omega) only [q0, q1, q2, q3, q4, q5, q7, q9, q10, q16, q30, q48, q57, q60, q99, q255, q300, q4096, pk_mul, nI_add, pk_sub, n_gin, n_cl, ifle_t, ifle_f, iflt_t, iflt_f, ifeq_t, ifeq_f, ifne_t, ifne_f, ifm_f, ifm_t, iflm_f, ifm0_t, ifm0_f, ob, g1n, g0n, ↓reduceIte, not_true_eq_false, not_false_eq_true, q32, q43, q45, q46, q59, q98, q114, q115, q117, if_neg m1_nle, if_pos m1_lt, ifmn_f, ifmn_t]
theorem j138b {f : Nat} (hf : f < 2000) (x1 x2 x3 t0 mA : Int32) {F : Nat} : f_X6_readLiteral_J138 (nI w) (nI h) (nI s) (nI nb) TX F t0 x1 x2 x3 mA (nI f) JS JL = some (mA, nI f, JS, JL) := by
  unfold f_X6_readLiteral_J138
  rw [q0, ifle_t (by omega) (by omega), j182b hf]
theorem exb {f : Nat} (hf : f < 2000) (mA x : Int32) : f_X6_expect (nI nb) TX mA (nI f) x = some (mA, nI f) := by
  unfold f_X6_expect
  rw [q0, iflt_f (by omega) (by omega)]
theorem j117b {f : Nat} (hf : f < 2000) (x1 x2 x3 mA : Int32) {F : Nat} : f_X6_readLiteral_J117 (nI w) (nI h) (nI s) (nI nb) TX F x1 x2 x3 mA (nI f) JS JL = some (mA, nI f, JS, JL) := by
  unfold f_X6_readLiteral_J117
  rw [exb hf, ob, q0, ifle_t (by omega) (by omega), j138b hf]
theorem j91b {f : Nat} (hf : f < 2000) (x1 x2 t0 mA : Int32) {F : Nat} : f_X6_readLiteral_J91 (nI w) (nI h) (nI s) (nI nb) TX F t0 x1 x2 mA (nI f) JS JL = some (mA, nI f, JS, JL) := by
  unfold f_X6_readLiteral_J91
  rw [q0, ifle_t (by omega) (by omega), j117b hf]
theorem j91o {v q : Nat} (hv : v < w * h) (hN : w * h ≤ 16) (x1 x2 : Int32) {F : Nat} : f_X6_readLiteral_J91 (nI w) (nI h) (nI s) (nI nb) TX F (nI v) x1 x2 (nI q) (-nI 1) JS JL = f_X6_readLiteral_J117 (nI w) (nI h) (nI s) (nI nb) TX F x1 x2 (nI v) (nI q) (-nI 1) JS JL := by
  unfold f_X6_readLiteral_J91
  simp (disch := omega) only [q0, q1, q2, q3, q4, q5, q7, q9, q10, q16, q30, q48, q57, q60, q99, q255, q300, q4096, pk_mul, nI_add, pk_sub, n_gin, n_cl, ifle_t, ifle_f, iflt_t, iflt_f, ifeq_t, ifeq_f, ifne_t, ifne_f, ifm_f, ifm_t, iflm_f, ifm0_t, ifm0_f, ob, g1n, g0n, ↓reduceIte, not_true_eq_false, not_false_eq_true, q32, q43, q45, q46, q59, q98, q114, q115, q117, if_neg m1_nle, if_pos m1_lt, ifmn_f, ifmn_t, f_X6_isCell, f_X6_cells]
theorem j91w {v q : Nat} (hv : w * h ≤ v) (hv2 : v < 100) (h1 : 0 < q) (hq : q < 2000) (x1 x2 : Int32) {F : Nat} : f_X6_readLiteral_J91 (nI w) (nI h) (nI s) (nI nb) TX F (nI v) x1 x2 (nI q) (-nI 1) JS JL = some (nI q, nI (q - 1), JS, JL) := by
  unfold f_X6_readLiteral_J91
  simp (disch := omega) only [q0, q1, q2, q3, q4, q5, q7, q9, q10, q16, q30, q48, q57, q60, q99, q255, q300, q4096, pk_mul, nI_add, pk_sub, n_gin, n_cl, ifle_t, ifle_f, iflt_t, iflt_f, ifeq_t, ifeq_f, ifne_t, ifne_f, ifm_f, ifm_t, iflm_f, ifm0_t, ifm0_f, ob, g1n, g0n, ↓reduceIte, not_true_eq_false, not_false_eq_true, q32, q43, q45, q46, q59, q98, q114, q115, q117, if_neg m1_nle, if_pos m1_lt, ifmn_f, ifmn_t, f_X6_isCell, f_X6_cells, f_X6_wrong, j117b]
theorem j117o (H : HT nb BB TX t) {q : Nat} (h1 : q < nb) (h2 : t q = 46) (x1 x2 x3 : Int32) {F : Nat} : f_X6_readLiteral_J117 (nI w) (nI h) (nI s) (nI nb) TX F x1 x2 x3 (nI q) (-nI 1) JS JL = Option.bind (f_X6_number (nI nb) TX (nI (q + 1)) (-nI 1)) (fun q18 =>
      f_X6_readLiteral_J138 (nI w) (nI h) (nI s) (nI nb) TX F q18.1 x1 x2 x3 q18.2.1 q18.2.2 JS JL) := by
  have e : f_X6_expect (nI nb) TX (nI q) (-nI 1) 46 = some (nI (q + 1), -nI 1) := by
    unfold f_X6_expect
    simp (disch := omega) only [q0, q1, q2, q3, q4, q5, q7, q9, q10, q16, q30, q48, q57, q60, q99, q255, q300, q4096, pk_mul, nI_add, pk_sub, n_gin, n_cl, ifle_t, ifle_f, iflt_t, iflt_f, ifeq_t, ifeq_f, ifne_t, ifne_f, ifm_f, ifm_t, iflm_f, ifm0_t, ifm0_f, ob, g1n, g0n, ↓reduceIte, not_true_eq_false, not_false_eq_true, q32, q43, q45, q46, q59, q98, q114, q115, q117, if_neg m1_nle, if_pos m1_lt, ifmn_f, ifmn_t, m_look_t H h1, h2, f_X6_expect_J24]
  unfold f_X6_readLiteral_J117
  rw [e, ob, q0, if_neg m1_nle]
theorem j117w (H : HT nb BB TX t) {q : Nat} (h1 : ¬ (q < nb ∧ t q = 46)) (hq : q < 1999) (x1 x2 x3 : Int32) {F : Nat} : f_X6_readLiteral_J117 (nI w) (nI h) (nI s) (nI nb) TX F x1 x2 x3 (nI q) (-nI 1) JS JL = some (nI (q + 1), nI q, JS, JL) := by
  have e : f_X6_expect (nI nb) TX (nI q) (-nI 1) 46 = some (nI (q + 1), nI q) := by
    unfold f_X6_expect
    by_cases h2 : q < nb
    · have ht := (H.2 q h2).2.2
      simp (disch := omega) only [q0, q1, q2, q3, q4, q5, q7, q9, q10, q16, q30, q48, q57, q60, q99, q255, q300, q4096, pk_mul, nI_add, pk_sub, n_gin, n_cl, ifle_t, ifle_f, iflt_t, iflt_f, ifeq_t, ifeq_f, ifne_t, ifne_f, ifm_f, ifm_t, iflm_f, ifm0_t, ifm0_f, ob, g1n, g0n, ↓reduceIte, not_true_eq_false, not_false_eq_true, q32, q43, q45, q46, q59, q98, q114, q115, q117, if_neg m1_nle, if_pos m1_lt, ifmn_f, ifmn_t, m_look_t H h2, f_X6_expect_J24, f_X6_wrong]
    · simp (disch := omega) only [q0, q1, q2, q3, q4, q5, q7, q9, q10, q16, q30, q48, q57, q60, q99, q255, q300, q4096, pk_mul, nI_add, pk_sub, n_gin, n_cl, ifle_t, ifle_f, iflt_t, iflt_f, ifeq_t, ifeq_f, ifne_t, ifne_f, ifm_f, ifm_t, iflm_f, ifm0_t, ifm0_f, ob, g1n, g0n, ↓reduceIte, not_true_eq_false, not_false_eq_true, q32, q43, q45, q46, q59, q98, q114, q115, q117, if_neg m1_nle, if_pos m1_lt, ifmn_f, ifmn_t, m_look_f H (show nb ≤ q by omega) (show q < 2000 by omega), f_X6_expect_J24, f_X6_wrong]
  unfold f_X6_readLiteral_J117
  rw [e, ob, q0, ifle_t (by omega) (by omega), j138b (by omega)]
theorem j138w {v q : Nat} (hv : s ≤ v) (hv2 : v < 100) (h1 : 0 < q) (hq : q < 2000) (x1 x2 x3 : Int32) {F : Nat} : f_X6_readLiteral_J138 (nI w) (nI h) (nI s) (nI nb) TX F (nI v) x1 x2 x3 (nI q) (-nI 1) JS JL = some (nI q, nI (q - 1), JS, JL) := by
  unfold f_X6_readLiteral_J138 f_X6_readLiteral_J172
  simp (disch := omega) only [q0, q1, q2, q3, q4, q5, q7, q9, q10, q16, q30, q48, q57, q60, q99, q255, q300, q4096, pk_mul, nI_add, pk_sub, n_gin, n_cl, ifle_t, ifle_f, iflt_t, iflt_f, ifeq_t, ifeq_f, ifne_t, ifne_f, ifm_f, ifm_t, iflm_f, ifm0_t, ifm0_f, ob, g1n, g0n, ↓reduceIte, not_true_eq_false, not_false_eq_true, q32, q43, q45, q46, q59, q98, q114, q115, q117, if_neg m1_nle, if_pos m1_lt, ifmn_f, ifmn_t, f_X6_isSymbol, f_X6_wrong, j182b]
theorem j138h {v q x : Nat} (hv : v < s) (hs : s ≤ 6) {x1 x2 x3 lit : Int32} {F : Nat} (hl : f_X6_literalOf (nI s) x3 (nI v) x2 = some lit) (hx : x < 2) (hh : f_X6_has JS JL F x1 lit = some (nI x)) (h1 : 0 < q) (hq : q < 2000) :
    f_X6_readLiteral_J138 (nI w) (nI h) (nI s) (nI nb) TX F (nI v) x1 x2 x3 (nI q) (-nI 1) JS JL = if x = 0 then Option.bind (f_X6_add JS JL x1 lit) (fun q27 => some (nI q, -nI 1, q27.1, q27.2)) else some (nI q, nI (q - 1), JS, JL) := by
  unfold f_X6_readLiteral_J138 f_X6_readLiteral_J172
  have hx2 : x = 0 ∨ x = 1 := by omega
  rcases hx2 with rfl | rfl
  · simp (disch := omega) only [q0, q1, q2, q3, q4, q5, q7, q9, q10, q16, q30, q48, q57, q60, q99, q255, q300, q4096, pk_mul, nI_add, pk_sub, n_gin, n_cl, ifle_t, ifle_f, iflt_t, iflt_f, ifeq_t, ifeq_f, ifne_t, ifne_f, ifm_f, ifm_t, iflm_f, ifm0_t, ifm0_f, ob, g1n, g0n, ↓reduceIte, not_true_eq_false, not_false_eq_true, q32, q43, q45, q46, q59, q98, q114, q115, q117, if_neg m1_nle, if_pos m1_lt, ifmn_f, ifmn_t, f_X6_isSymbol, hl, hh, f_X6_wrong, j182b, f_X6_readLiteral_J182]
  · simp (disch := omega) only [q0, q1, q2, q3, q4, q5, q7, q9, q10, q16, q30, q48, q57, q60, q99, q255, q300, q4096, pk_mul, nI_add, pk_sub, n_gin, n_cl, ifle_t, ifle_f, iflt_t, iflt_f, ifeq_t, ifeq_f, ifne_t, ifne_f, ifm_f, ifm_t, iflm_f, ifm0_t, ifm0_f, ob, g1n, g0n, ↓reduceIte, not_true_eq_false, not_false_eq_true, q32, q43, q45, q46, q59, q98, q114, q115, q117, if_neg m1_nle, if_pos m1_lt, ifmn_f, ifmn_t, f_X6_isSymbol, hl, hh, f_X6_wrong, j182b]
    rfl
/-- behind the sign: the cell, the point, the symbol -/
theorem r_lit2 (H : HT nb BB TX t) (D0 : 1 ≤ w ∧ w ≤ 4 ∧ 1 ≤ h ∧ h ≤ 4 ∧ 1 ≤ s ∧ s ≤ 6 ∧ 1 ≤ w * h ∧ w * h ≤ 16) (R : RowC LS LL rc z c y b) (hrc : rc < 61) (R' : RowM s JS JL rm z c y b) (hrm : rm < 120) (O : OkL (w * h) s z c y b) (hz : z < 16) {F : Nat} (hF : 100 < F) (hp : p < nb) {b0 : Nat} (hb0 : b0 < 2) :
    (∃ f a, f ≤ 400 ∧ f_X2_readLiteral_J32 (nI (w * h)) (nI s) (nI nb) BB F (nI rc) (nI b0) (nI p) LS LL = some (nI 0, nI f, LS, LL) ∧ f_X6_readLiteral_J66 (nI w) (nI h) (nI s) (nI nb) TX F (nI rm) (nI b0) (nI p) (-nI 1) JS JL = some (a, nI f, JS, JL)) ∨
    (∃ c0 y0 q, c0 < w * h ∧ y0 < s ∧ p < q ∧ q ≤ nb ∧ (∀ j, j < z → ¬ (c j = c0 ∧ y j = y0 ∧ b j = b0)) ∧ f_X2_readLiteral_J32 (nI (w * h)) (nI s) (nI nb) BB F (nI rc) (nI b0) (nI p) LS LL = some (nI 1, nI q, upd LS rc (nI (z + 1)), upd LL (16 * rc + z) (nI (16 * c0 + 2 * y0 + b0))) ∧ f_X6_readLiteral_J66 (nI w) (nI h) (nI s) (nI nb) TX F (nI rm) (nI b0) (nI p) (-nI 1) JS JL = some (nI q, -nI 1, upd JS rm (nI (z + 1)), upd JL (16 * rm + z) (nI (2 * (s * c0 + y0) + b0)))) := by
  have hnb := H.1
  unfold f_X2_readLiteral_J32 f_X6_readLiteral_J66
  rw [q0, if_neg m1_nle, q1, nI_add]
  unfold f_X0_cells f_X0_symbols f_X2_readNumberBelow
  rcases r_num (p := p + 1) H (by omega) with ⟨n1, n2⟩ | ⟨v, q, g1, g2, g3, n1, n2⟩
  · rw [n1, n2]
    refine Or.inl ⟨p + 1, nI (p + 1), by omega, ?_, ?_⟩
    · simp (disch := omega) only [q0, q1, q2, q3, q4, q5, q7, q9, q10, q16, q30, q48, q57, q60, q99, q255, q300, q4096, pk_mul, nI_add, pk_sub, n_gin, n_cl, ifle_t, ifle_f, iflt_t, iflt_f, ifeq_t, ifeq_f, ifne_t, ifne_f, ifm_f, ifm_t, iflm_f, ifm0_t, ifm0_f, ob, g1n, g0n, ↓reduceIte, not_true_eq_false, not_false_eq_true, q32, q43, q45, q46, q59, q98, q114, q115, q117, if_neg m1_nle, if_pos m1_lt, ifmn_f, ifmn_t]
    · rw [ob]; exact j91b (by omega) _ _ _ _
  · rw [n1, n2, ob, ob, ob]
    by_cases hv : v < w * h
    · rw [iflt_t hv (by omega), ob, ifm_f (by omega), j91o hv (by omega)]
      by_cases hd : q < nb ∧ t q = 46
      · rw [show (46 : Int32) = nI 46 from q46, c_here_t H hd.1 hd.2, ob, ifne_t (by omega) (by omega) (by omega), ob, j117o H hd.1 hd.2]
        rcases r_num (p := q + 1) H (by omega) with ⟨n3, n4⟩ | ⟨v2, qq, k1, k2, k3, n3, n4⟩
        · rw [nI_add, n3, n4]
          refine Or.inl ⟨q + 1, nI (q + 1), by omega, ?_, ?_⟩
          · simp (disch := omega) only [q0, q1, q2, q3, q4, q5, q7, q9, q10, q16, q30, q48, q57, q60, q99, q255, q300, q4096, pk_mul, nI_add, pk_sub, n_gin, n_cl, ifle_t, ifle_f, iflt_t, iflt_f, ifeq_t, ifeq_f, ifne_t, ifne_f, ifm_f, ifm_t, iflm_f, ifm0_t, ifm0_f, ob, g1n, g0n, ↓reduceIte, not_true_eq_false, not_false_eq_true, q32, q43, q45, q46, q59, q98, q114, q115, q117, if_neg m1_nle, if_pos m1_lt, ifmn_f, ifmn_t]
          · rw [ob]; exact j138b (by omega) _ _ _ _ _
        · rw [nI_add, n3, n4, ob, ob]
          by_cases hv2 : v2 < s
          · have cA := c_add R hrc O (by omega) (by omega) hv hv2 hb0 (F := F) (by omega)
            have mH := m_has R' hrm O (by omega) (by omega) hv hv2 hb0 (F := F) (by omega)
            have eC := (e_litC v (by omega) v2 (by omega) b0 hb0).1
            have eM := (e_litM s (by omega) v (by omega) v2 hv2 b0 hb0).1
            by_cases hE : ∃ j, j < z ∧ c j = v ∧ y j = v2 ∧ b j = b0
            · rw [bI_t hE] at mH
              have ca := cA.1 hE
              have jh := j138h (w := w) (h := h) (nb := nb) (TX := TX) (q := qq) hv2 (by omega) eM (x := 1) (by omega) mH (by omega) (by omega)
              refine Or.inl ⟨qq - 1, nI qq, by omega, ?_, ?_⟩
              · simp (disch := omega) only [q0, q1, q2, q3, q4, q5, q7, q9, q10, q16, q30, q48, q57, q60, q99, q255, q300, q4096, pk_mul, nI_add, pk_sub, n_gin, n_cl, ifle_t, ifle_f, iflt_t, iflt_f, ifeq_t, ifeq_f, ifne_t, ifne_f, ifm_f, ifm_t, iflm_f, ifm0_t, ifm0_f, ob, g1n, g0n, ↓reduceIte, not_true_eq_false, not_false_eq_true, q32, q43, q45, q46, q59, q98, q114, q115, q117, if_neg m1_nle, if_pos m1_lt, ifmn_f, ifmn_t, eC, ca]
              · exact jh
            · rw [bI_f hE] at mH
              have hnE : ∀ j, j < z → ¬ (c j = v ∧ y j = v2 ∧ b j = b0) := fun j hj e => hE ⟨j, hj, e⟩
              have ca := cA.2.2 hz hnE
              have mA := m_add R' hrm hz (nI (2 * (s * v + v2) + b0))
              have jh := j138h (w := w) (h := h) (nb := nb) (TX := TX) (q := qq) hv2 (by omega) eM (x := 0) (by omega) mH (by omega) (by omega)
              rw [if_pos rfl, mA, ob] at jh
              refine Or.inr ⟨v, v2, qq, hv, hv2, by omega, k3, hnE, ?_, ?_⟩
              · simp (disch := omega) only [q0, q1, q2, q3, q4, q5, q7, q9, q10, q16, q30, q48, q57, q60, q99, q255, q300, q4096, pk_mul, nI_add, pk_sub, n_gin, n_cl, ifle_t, ifle_f, iflt_t, iflt_f, ifeq_t, ifeq_f, ifne_t, ifne_f, ifm_f, ifm_t, iflm_f, ifm0_t, ifm0_f, ob, g1n, g0n, ↓reduceIte, not_true_eq_false, not_false_eq_true, q32, q43, q45, q46, q59, q98, q114, q115, q117, if_neg m1_nle, if_pos m1_lt, ifmn_f, ifmn_t, eC, ca]
              · exact jh
          · refine Or.inl ⟨qq - 1, nI qq, by omega, ?_, ?_⟩
            · simp (disch := omega) only [q0, q1, q2, q3, q4, q5, q7, q9, q10, q16, q30, q48, q57, q60, q99, q255, q300, q4096, pk_mul, nI_add, pk_sub, n_gin, n_cl, ifle_t, ifle_f, iflt_t, iflt_f, ifeq_t, ifeq_f, ifne_t, ifne_f, ifm_f, ifm_t, iflm_f, ifm0_t, ifm0_f, ob, g1n, g0n, ↓reduceIte, not_true_eq_false, not_false_eq_true, q32, q43, q45, q46, q59, q98, q114, q115, q117, if_neg m1_nle, if_pos m1_lt, ifmn_f, ifmn_t]
            · exact j138w (by omega) (by omega) (by omega) (by omega) _ _ _
      · rw [show (46 : Int32) = nI 46 from q46, c_here_f H hd (by omega) (by omega), ob, ifne_f rfl, j117w H hd (by omega)]
        exact Or.inl ⟨q, nI (q + 1), by omega, rfl, rfl⟩
    · rw [iflt_f (by omega) (by omega), ob]
      refine Or.inl ⟨q - 1, nI q, by omega, ?_, j91w (by omega) (by omega) (by omega) (by omega) _ _⟩
      simp (disch := omega) only [q0, q1, q2, q3, q4, q5, q7, q9, q10, q16, q30, q48, q57, q60, q99, q255, q300, q4096, pk_mul, nI_add, pk_sub, n_gin, n_cl, ifle_t, ifle_f, iflt_t, iflt_f, ifeq_t, ifeq_f, ifne_t, ifne_f, ifm_f, ifm_t, iflm_f, ifm0_t, ifm0_f, ob, g1n, g0n, ↓reduceIte, not_true_eq_false, not_false_eq_true, q32, q43, q45, q46, q59, q98, q114, q115, q117, if_neg m1_nle, if_pos m1_lt, ifmn_f, ifmn_t]
theorem r_lit (H : HT nb BB TX t) (D0 : 1 ≤ w ∧ w ≤ 4 ∧ 1 ≤ h ∧ h ≤ 4 ∧ 1 ≤ s ∧ s ≤ 6 ∧ 1 ≤ w * h ∧ w * h ≤ 16) (R : RowC LS LL rc z c y b) (hrc : rc < 61) (R' : RowM s JS JL rm z c y b) (hrm : rm < 120) (O : OkL (w * h) s z c y b) (hz : z < 16) {F : Nat} (hF : 100 < F) (hp : p < nb) :
    (∃ f a, f ≤ 400 ∧ f_X2_readLiteral (nI (w * h)) (nI s) (nI nb) BB F (nI p) LS LL (nI rc) = some (nI 0, nI f, LS, LL) ∧ f_X6_readLiteral (nI w) (nI h) (nI s) (nI nb) TX F (nI p) (-nI 1) JS JL (nI rm) = some (a, nI f, JS, JL)) ∨
    (∃ c0 y0 b0 q, c0 < w * h ∧ y0 < s ∧ b0 < 2 ∧ p < q ∧ q ≤ nb ∧ (∀ j, j < z → ¬ (c j = c0 ∧ y j = y0 ∧ b j = b0)) ∧ f_X2_readLiteral (nI (w * h)) (nI s) (nI nb) BB F (nI p) LS LL (nI rc) = some (nI 1, nI q, upd LS rc (nI (z + 1)), upd LL (16 * rc + z) (nI (16 * c0 + 2 * y0 + b0))) ∧ f_X6_readLiteral (nI w) (nI h) (nI s) (nI nb) TX F (nI p) (-nI 1) JS JL (nI rm) = some (nI q, -nI 1, upd JS rm (nI (z + 1)), upd JL (16 * rm + z) (nI (2 * (s * c0 + y0) + b0)))) := by
  have hnb := H.1
  have hJ := R'.1
  unfold f_X2_readLiteral f_X6_readLiteral
  by_cases h1 : p + 1 < nb ∧ t (p + 1) = 43
  · have e1 := c_here_t H h1.1 h1.2
    have e2 := m_look_t H h1.1
    rw [h1.2] at e2
    simp (disch := omega) only [q0, q1, q2, q3, q4, q5, q7, q9, q10, q16, q30, q48, q57, q60, q99, q255, q300, q4096, pk_mul, nI_add, pk_sub, n_gin, n_cl, ifle_t, ifle_f, iflt_t, iflt_f, ifeq_t, ifeq_f, ifne_t, ifne_f, ifm_f, ifm_t, iflm_f, ifm0_t, ifm0_f, ob, g1n, g0n, ↓reduceIte, not_true_eq_false, not_false_eq_true, q32, q43, q45, q46, q59, q98, q114, q115, q117, if_neg m1_nle, if_pos m1_lt, ifmn_f, ifmn_t, e1, e2, hJ, f_X6_readLiteral_J44]
    rcases r_lit2 H D0 R hrc R' hrm O hz hF h1.1 (b0 := 1) (by omega) with g | ⟨c0, y0, q, g1, g2, g3, g4⟩
    · exact Or.inl g
    · exact Or.inr ⟨c0, y0, 1, q, g1, g2, by omega, by omega, g4⟩
  · have e1 := c_here_f H h1 (show p + 1 < 2000 by omega) (show 43 < 256 by omega)
    by_cases h2 : p + 1 < nb ∧ t (p + 1) = 45
    · have e3 := c_here_t H h2.1 h2.2
      have e2 := m_look_t H h2.1
      rw [h2.2] at e2
      simp (disch := omega) only [q0, q1, q2, q3, q4, q5, q7, q9, q10, q16, q30, q48, q57, q60, q99, q255, q300, q4096, pk_mul, nI_add, pk_sub, n_gin, n_cl, ifle_t, ifle_f, iflt_t, iflt_f, ifeq_t, ifeq_f, ifne_t, ifne_f, ifm_f, ifm_t, iflm_f, ifm0_t, ifm0_f, ob, g1n, g0n, ↓reduceIte, not_true_eq_false, not_false_eq_true, q32, q43, q45, q46, q59, q98, q114, q115, q117, if_neg m1_nle, if_pos m1_lt, ifmn_f, ifmn_t, e1, e3, e2, hJ, f_X6_readLiteral_J44]
      rcases r_lit2 H D0 R hrc R' hrm O hz hF h2.1 (b0 := 0) (by omega) with g | ⟨c0, y0, q, g1, g2, g3, g4⟩
      · exact Or.inl g
      · exact Or.inr ⟨c0, y0, 0, q, g1, g2, by omega, by omega, g4⟩
    · have e3 := c_here_f H h2 (show p + 1 < 2000 by omega) (show 45 < 256 by omega)
      refine Or.inl ⟨p + 1, nI (p + 2), by omega, ?_, ?_⟩
      · simp (disch := omega) only [q0, q1, q2, q3, q4, q5, q7, q9, q10, q16, q30, q48, q57, q60, q99, q255, q300, q4096, pk_mul, nI_add, pk_sub, n_gin, n_cl, ifle_t, ifle_f, iflt_t, iflt_f, ifeq_t, ifeq_f, ifne_t, ifne_f, ifm_f, ifm_t, iflm_f, ifm0_t, ifm0_f, ob, g1n, g0n, ↓reduceIte, not_true_eq_false, not_false_eq_true, q32, q43, q45, q46, q59, q98, q114, q115, q117, if_neg m1_nle, if_pos m1_lt, ifmn_f, ifmn_t, e1, e3]
      · have j66 : f_X6_readLiteral_J66 (nI w) (nI h) (nI s) (nI nb) TX F (nI rm) (nI 0) (nI (p + 1)) (nI (p + 1)) JS JL = some (nI (p + 2), nI (p + 1), JS, JL) := by
          unfold f_X6_readLiteral_J66
          rw [q0, ifle_t (by omega) (by omega), q1, nI_add]
          exact j91b (by omega) _ _ _ _
        by_cases hq : p + 1 < nb
        · have ht := (H.2 (p + 1) hq).2.2
          simp (disch := omega) only [q0, q1, q2, q3, q4, q5, q7, q9, q10, q16, q30, q48, q57, q60, q99, q255, q300, q4096, pk_mul, nI_add, pk_sub, n_gin, n_cl, ifle_t, ifle_f, iflt_t, iflt_f, ifeq_t, ifeq_f, ifne_t, ifne_f, ifm_f, ifm_t, iflm_f, ifm0_t, ifm0_f, ob, g1n, g0n, ↓reduceIte, not_true_eq_false, not_false_eq_true, q32, q43, q45, q46, q59, q98, q114, q115, q117, if_neg m1_nle, if_pos m1_lt, ifmn_f, ifmn_t, m_look_t H hq, hJ, f_X6_readLiteral_J44, f_X6_wrong, j66]
        · simp (disch := omega) only [q0, q1, q2, q3, q4, q5, q7, q9, q10, q16, q30, q48, q57, q60, q99, q255, q300, q4096, pk_mul, nI_add, pk_sub, n_gin, n_cl, ifle_t, ifle_f, iflt_t, iflt_f, ifeq_t, ifeq_f, ifne_t, ifne_f, ifm_f, ifm_t, iflm_f, ifm0_t, ifm0_f, ob, g1n, g0n, ↓reduceIte, not_true_eq_false, not_false_eq_true, q32, q43, q45, q46, q59, q98, q114, q115, q117, if_neg m1_nle, if_pos m1_lt, ifmn_f, ifmn_t, m_look_f H (show nb ≤ p + 1 by omega) (show p + 1 < 2000 by omega), hJ, f_X6_readLiteral_J44, f_X6_wrong, j66]
end RL
