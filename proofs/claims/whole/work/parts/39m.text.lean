/-! PURE PART. reading: bytes and numbers -/
theorem q32 : (32 : Int32) = nI 32 := by decide
theorem q43 : (43 : Int32) = nI 43 := by decide
theorem q45 : (45 : Int32) = nI 45 := by decide
theorem q46 : (46 : Int32) = nI 46 := by decide
theorem q59 : (59 : Int32) = nI 59 := by decide
theorem q98 : (98 : Int32) = nI 98 := by decide
theorem q114 : (114 : Int32) = nI 114 := by decide
theorem q115 : (115 : Int32) = nI 115 := by decide
theorem q117 : (117 : Int32) = nI 117 := by decide
theorem ifmn_f {α : Type} {X Y : α} {a : Nat} [Decidable (-nI 1 = nI a)] (ha : a < 2000000) : (if -nI 1 = nI a then X else Y) = Y := if_neg (fun q => by rw [← n_m1' ha]; exact q)
theorem ifmn_t {α : Type} {X Y : α} {a : Nat} [Decidable (¬ -nI 1 = nI a)] (ha : a < 2000000) : (if ¬ -nI 1 = nI a then X else Y) = X := if_pos (fun q => by rw [← n_m1' ha]; exact q)
section TX
variable {BB TX : Nat → Int32} {nb p x : Nat} {t : Nat → Nat}
def HT (nb : Nat) (BB TX : Nat → Int32) (t : Nat → Nat) : Prop := nb ≤ 300 ∧ ∀ i, i < nb → BB i = nI (t i) ∧ TX i = nI (t i) ∧ t i < 256
theorem c_here_t (H : HT nb BB TX t) (h1 : p < nb) (h2 : t p = x) : f_X2_isHere (nI nb) (nI p) BB (nI x) = some (nI 1) := by
  obtain ⟨a, b⟩ := H
  obtain ⟨b1, b2, b3⟩ := b p h1
  unfold f_X2_isHere
  simp (disch := omega) only [q0, q1, q2, q3, q4, q5, q7, q9, q10, q16, q30, q48, q57, q60, q99, q255, q300, q4096, pk_mul, nI_add, pk_sub, n_gin, n_cl, ifle_t, ifle_f, iflt_t, iflt_f, ifeq_t, ifeq_f, ifne_t, ifne_f, ifm_f, ifm_t, iflm_f, ifm0_t, ifm0_f, ob, g1n, g0n, ↓reduceIte, not_true_eq_false, not_false_eq_true, q32, q43, q45, q46, q59, q98, q114, q115, q117, if_neg m1_nle, if_pos m1_lt, ifmn_f, ifmn_t, b1]
theorem c_here_f (H : HT nb BB TX t) (h : ¬ (p < nb ∧ t p = x)) (hp : p < 2000) (hx : x < 256) : f_X2_isHere (nI nb) (nI p) BB (nI x) = some (nI 0) := by
  obtain ⟨a, b⟩ := H
  unfold f_X2_isHere
  by_cases h1 : p < nb
  · obtain ⟨b1, b2, b3⟩ := b p h1
    simp (disch := omega) only [q0, q1, q2, q3, q4, q5, q7, q9, q10, q16, q30, q48, q57, q60, q99, q255, q300, q4096, pk_mul, nI_add, pk_sub, n_gin, n_cl, ifle_t, ifle_f, iflt_t, iflt_f, ifeq_t, ifeq_f, ifne_t, ifne_f, ifm_f, ifm_t, iflm_f, ifm0_t, ifm0_f, ob, g1n, g0n, ↓reduceIte, not_true_eq_false, not_false_eq_true, q32, q43, q45, q46, q59, q98, q114, q115, q117, if_neg m1_nle, if_pos m1_lt, ifmn_f, ifmn_t, b1]
  · simp (disch := omega) only [q0, q1, q2, q3, q4, q5, q7, q9, q10, q16, q30, q48, q57, q60, q99, q255, q300, q4096, pk_mul, nI_add, pk_sub, n_gin, n_cl, ifle_t, ifle_f, iflt_t, iflt_f, ifeq_t, ifeq_f, ifne_t, ifne_f, ifm_f, ifm_t, iflm_f, ifm0_t, ifm0_f, ob, g1n, g0n, ↓reduceIte, not_true_eq_false, not_false_eq_true, q32, q43, q45, q46, q59, q98, q114, q115, q117, if_neg m1_nle, if_pos m1_lt, ifmn_f, ifmn_t]
theorem m_look_t (H : HT nb BB TX t) (h1 : p < nb) : f_X6_look (nI nb) (nI p) TX = some (nI (t p)) := by
  obtain ⟨a, b⟩ := H
  obtain ⟨b1, b2, b3⟩ := b p h1
  unfold f_X6_look
  simp (disch := omega) only [q0, q1, q2, q3, q4, q5, q7, q9, q10, q16, q30, q48, q57, q60, q99, q255, q300, q4096, pk_mul, nI_add, pk_sub, n_gin, n_cl, ifle_t, ifle_f, iflt_t, iflt_f, ifeq_t, ifeq_f, ifne_t, ifne_f, ifm_f, ifm_t, iflm_f, ifm0_t, ifm0_f, ob, g1n, g0n, ↓reduceIte, not_true_eq_false, not_false_eq_true, q32, q43, q45, q46, q59, q98, q114, q115, q117, if_neg m1_nle, if_pos m1_lt, ifmn_f, ifmn_t, b2]
theorem m_look_f (H : HT nb BB TX t) (h1 : nb ≤ p) (hp : p < 2000) : f_X6_look (nI nb) (nI p) TX = some (-nI 1) := by
  obtain ⟨a, b⟩ := H
  unfold f_X6_look
  simp (disch := omega) only [q0, q1, q2, q3, q4, q5, q7, q9, q10, q16, q30, q48, q57, q60, q99, q255, q300, q4096, pk_mul, nI_add, pk_sub, n_gin, n_cl, ifle_t, ifle_f, iflt_t, iflt_f, ifeq_t, ifeq_f, ifne_t, ifne_f, ifm_f, ifm_t, iflm_f, ifm0_t, ifm0_f, ob, g1n, g0n, ↓reduceIte, not_true_eq_false, not_false_eq_true, q32, q43, q45, q46, q59, q98, q114, q115, q117, if_neg m1_nle, if_pos m1_lt, ifmn_f, ifmn_t]
theorem c_dig_t (H : HT nb BB TX t) (h1 : p < nb) (h2 : 48 ≤ t p) (h3 : t p ≤ 57) : f_X2_digitHere (nI nb) (nI p) BB = some (nI (t p - 48)) := by
  obtain ⟨a, b⟩ := H
  obtain ⟨b1, b2, b3⟩ := b p h1
  unfold f_X2_digitHere
  simp (disch := omega) only [q0, q1, q2, q3, q4, q5, q7, q9, q10, q16, q30, q48, q57, q60, q99, q255, q300, q4096, pk_mul, nI_add, pk_sub, n_gin, n_cl, ifle_t, ifle_f, iflt_t, iflt_f, ifeq_t, ifeq_f, ifne_t, ifne_f, ifm_f, ifm_t, iflm_f, ifm0_t, ifm0_f, ob, g1n, g0n, ↓reduceIte, not_true_eq_false, not_false_eq_true, q32, q43, q45, q46, q59, q98, q114, q115, q117, if_neg m1_nle, if_pos m1_lt, ifmn_f, ifmn_t, b1]
theorem c_dig_f (H : HT nb BB TX t) (h1 : ¬ (p < nb ∧ 48 ≤ t p ∧ t p ≤ 57)) (hp : p < 2000) : f_X2_digitHere (nI nb) (nI p) BB = some (-nI 1) := by
  obtain ⟨a, b⟩ := H
  unfold f_X2_digitHere
  by_cases h2 : p < nb
  · obtain ⟨b1, b2, b3⟩ := b p h2
    by_cases h3 : t p < 48
    · simp (disch := omega) only [q0, q1, q2, q3, q4, q5, q7, q9, q10, q16, q30, q48, q57, q60, q99, q255, q300, q4096, pk_mul, nI_add, pk_sub, n_gin, n_cl, ifle_t, ifle_f, iflt_t, iflt_f, ifeq_t, ifeq_f, ifne_t, ifne_f, ifm_f, ifm_t, iflm_f, ifm0_t, ifm0_f, ob, g1n, g0n, ↓reduceIte, not_true_eq_false, not_false_eq_true, q32, q43, q45, q46, q59, q98, q114, q115, q117, if_neg m1_nle, if_pos m1_lt, ifmn_f, ifmn_t, b1]
    · simp (disch := omega) only [q0, q1, q2, q3, q4, q5, q7, q9, q10, q16, q30, q48, q57, q60, q99, q255, q300, q4096, pk_mul, nI_add, pk_sub, n_gin, n_cl, ifle_t, ifle_f, iflt_t, iflt_f, ifeq_t, ifeq_f, ifne_t, ifne_f, ifm_f, ifm_t, iflm_f, ifm0_t, ifm0_f, ob, g1n, g0n, ↓reduceIte, not_true_eq_false, not_false_eq_true, q32, q43, q45, q46, q59, q98, q114, q115, q117, if_neg m1_nle, if_pos m1_lt, ifmn_f, ifmn_t, b1]
  · simp (disch := omega) only [q0, q1, q2, q3, q4, q5, q7, q9, q10, q16, q30, q48, q57, q60, q99, q255, q300, q4096, pk_mul, nI_add, pk_sub, n_gin, n_cl, ifle_t, ifle_f, iflt_t, iflt_f, ifeq_t, ifeq_f, ifne_t, ifne_f, ifm_f, ifm_t, iflm_f, ifm0_t, ifm0_f, ob, g1n, g0n, ↓reduceIte, not_true_eq_false, not_false_eq_true, q32, q43, q45, q46, q59, q98, q114, q115, q117, if_neg m1_nle, if_pos m1_lt, ifmn_f, ifmn_t]
theorem m_dig_t (H : HT nb BB TX t) (h1 : p < nb) (h2 : 48 ≤ t p) (h3 : t p ≤ 57) : f_X6_isDigit (nI nb) (nI p) TX = some (nI 1) := by
  unfold f_X6_isDigit
  rw [m_look_t H h1]
  simp (disch := omega) only [q0, q1, q2, q3, q4, q5, q7, q9, q10, q16, q30, q48, q57, q60, q99, q255, q300, q4096, pk_mul, nI_add, pk_sub, n_gin, n_cl, ifle_t, ifle_f, iflt_t, iflt_f, ifeq_t, ifeq_f, ifne_t, ifne_f, ifm_f, ifm_t, iflm_f, ifm0_t, ifm0_f, ob, g1n, g0n, ↓reduceIte, not_true_eq_false, not_false_eq_true, q32, q43, q45, q46, q59, q98, q114, q115, q117, if_neg m1_nle, if_pos m1_lt, ifmn_f, ifmn_t]
theorem m_dig_f (H : HT nb BB TX t) (h1 : ¬ (p < nb ∧ 48 ≤ t p ∧ t p ≤ 57)) (hp : p < 2000) : f_X6_isDigit (nI nb) (nI p) TX = some (nI 0) := by
  unfold f_X6_isDigit
  by_cases h2 : p < nb
  · have b3 := (H.2 p h2).2.2
    rw [m_look_t H h2]
    by_cases h3 : t p < 48
    · simp (disch := omega) only [q0, q1, q2, q3, q4, q5, q7, q9, q10, q16, q30, q48, q57, q60, q99, q255, q300, q4096, pk_mul, nI_add, pk_sub, n_gin, n_cl, ifle_t, ifle_f, iflt_t, iflt_f, ifeq_t, ifeq_f, ifne_t, ifne_f, ifm_f, ifm_t, iflm_f, ifm0_t, ifm0_f, ob, g1n, g0n, ↓reduceIte, not_true_eq_false, not_false_eq_true, q32, q43, q45, q46, q59, q98, q114, q115, q117, if_neg m1_nle, if_pos m1_lt, ifmn_f, ifmn_t]
    · simp (disch := omega) only [q0, q1, q2, q3, q4, q5, q7, q9, q10, q16, q30, q48, q57, q60, q99, q255, q300, q4096, pk_mul, nI_add, pk_sub, n_gin, n_cl, ifle_t, ifle_f, iflt_t, iflt_f, ifeq_t, ifeq_f, ifne_t, ifne_f, ifm_f, ifm_t, iflm_f, ifm0_t, ifm0_f, ob, g1n, g0n, ↓reduceIte, not_true_eq_false, not_false_eq_true, q32, q43, q45, q46, q59, q98, q114, q115, q117, if_neg m1_nle, if_pos m1_lt, ifmn_f, ifmn_t]
  · rw [m_look_f H (by omega) hp]
    simp (disch := omega) only [q0, q1, q2, q3, q4, q5, q7, q9, q10, q16, q30, q48, q57, q60, q99, q255, q300, q4096, pk_mul, nI_add, pk_sub, n_gin, n_cl, ifle_t, ifle_f, iflt_t, iflt_f, ifeq_t, ifeq_f, ifne_t, ifne_f, ifm_f, ifm_t, iflm_f, ifm0_t, ifm0_f, ob, g1n, g0n, ↓reduceIte, not_true_eq_false, not_false_eq_true, q32, q43, q45, q46, q59, q98, q114, q115, q117, if_neg m1_nle, if_pos m1_lt, ifmn_f, ifmn_t]
theorem r_num (H : HT nb BB TX t) (hp : p ≤ 400) :
    (f_X2_readNumber (nI nb) BB (nI p) = some (-nI 1, nI p) ∧ f_X6_number (nI nb) TX (nI p) (-nI 1) = some (nI 0, nI p, nI p)) ∨
    (∃ v q, v < 100 ∧ p < q ∧ q ≤ nb ∧ f_X2_readNumber (nI nb) BB (nI p) = some (nI v, nI q) ∧ f_X6_number (nI nb) TX (nI p) (-nI 1) = some (nI v, nI q, -nI 1)) := by
  have hnb := H.1
  unfold f_X2_readNumber f_X6_number
  by_cases h1 : p < nb ∧ 48 ≤ t p ∧ t p ≤ 57
  · obtain ⟨a1, a2, a3⟩ := h1
    refine Or.inr ?_
    by_cases h0 : t p = 48
    · refine ⟨t p - 48, p + 1, by omega, by omega, by omega, ?_, ?_⟩
      · simp (disch := omega) only [q0, q1, q2, q3, q4, q5, q7, q9, q10, q16, q30, q48, q57, q60, q99, q255, q300, q4096, pk_mul, nI_add, pk_sub, n_gin, n_cl, ifle_t, ifle_f, iflt_t, iflt_f, ifeq_t, ifeq_f, ifne_t, ifne_f, ifm_f, ifm_t, iflm_f, ifm0_t, ifm0_f, ob, g1n, g0n, ↓reduceIte, not_true_eq_false, not_false_eq_true, q32, q43, q45, q46, q59, q98, q114, q115, q117, if_neg m1_nle, if_pos m1_lt, ifmn_f, ifmn_t, c_dig_t H a1 a2 a3, f_X2_readNumber_J34]
      · simp (disch := omega) only [q0, q1, q2, q3, q4, q5, q7, q9, q10, q16, q30, q48, q57, q60, q99, q255, q300, q4096, pk_mul, nI_add, pk_sub, n_gin, n_cl, ifle_t, ifle_f, iflt_t, iflt_f, ifeq_t, ifeq_f, ifne_t, ifne_f, ifm_f, ifm_t, iflm_f, ifm0_t, ifm0_f, ob, g1n, g0n, ↓reduceIte, not_true_eq_false, not_false_eq_true, q32, q43, q45, q46, q59, q98, q114, q115, q117, if_neg m1_nle, if_pos m1_lt, ifmn_f, ifmn_t, m_dig_t H a1 a2 a3, m_look_t H a1]
    · by_cases h2 : p + 1 < nb ∧ 48 ≤ t (p + 1) ∧ t (p + 1) ≤ 57
      · obtain ⟨b1, b2, b3⟩ := h2
        refine ⟨10 * (t p - 48) + (t (p + 1) - 48), p + 2, by omega, by omega, by omega, ?_, ?_⟩
        · simp (disch := omega) only [q0, q1, q2, q3, q4, q5, q7, q9, q10, q16, q30, q48, q57, q60, q99, q255, q300, q4096, pk_mul, nI_add, pk_sub, n_gin, n_cl, ifle_t, ifle_f, iflt_t, iflt_f, ifeq_t, ifeq_f, ifne_t, ifne_f, ifm_f, ifm_t, iflm_f, ifm0_t, ifm0_f, ob, g1n, g0n, ↓reduceIte, not_true_eq_false, not_false_eq_true, q32, q43, q45, q46, q59, q98, q114, q115, q117, if_neg m1_nle, if_pos m1_lt, ifmn_f, ifmn_t, c_dig_t H a1 a2 a3, c_dig_t H b1 b2 b3, f_X2_readNumber_J34]
        · simp (disch := omega) only [q0, q1, q2, q3, q4, q5, q7, q9, q10, q16, q30, q48, q57, q60, q99, q255, q300, q4096, pk_mul, nI_add, pk_sub, n_gin, n_cl, ifle_t, ifle_f, iflt_t, iflt_f, ifeq_t, ifeq_f, ifne_t, ifne_f, ifm_f, ifm_t, iflm_f, ifm0_t, ifm0_f, ob, g1n, g0n, ↓reduceIte, not_true_eq_false, not_false_eq_true, q32, q43, q45, q46, q59, q98, q114, q115, q117, if_neg m1_nle, if_pos m1_lt, ifmn_f, ifmn_t, m_dig_t H a1 a2 a3, m_look_t H a1, m_dig_t H b1 b2 b3, m_look_t H b1]
          rw [show 10 * (t p - 48) + t (p + 1) - 48 = 10 * (t p - 48) + (t (p + 1) - 48) by omega]
      · refine ⟨t p - 48, p + 1, by omega, by omega, by omega, ?_, ?_⟩
        · simp (disch := omega) only [q0, q1, q2, q3, q4, q5, q7, q9, q10, q16, q30, q48, q57, q60, q99, q255, q300, q4096, pk_mul, nI_add, pk_sub, n_gin, n_cl, ifle_t, ifle_f, iflt_t, iflt_f, ifeq_t, ifeq_f, ifne_t, ifne_f, ifm_f, ifm_t, iflm_f, ifm0_t, ifm0_f, ob, g1n, g0n, ↓reduceIte, not_true_eq_false, not_false_eq_true, q32, q43, q45, q46, q59, q98, q114, q115, q117, if_neg m1_nle, if_pos m1_lt, ifmn_f, ifmn_t, c_dig_t H a1 a2 a3, c_dig_f H h2 (show p + 1 < 2000 by omega), f_X2_readNumber_J34]
        · simp (disch := omega) only [q0, q1, q2, q3, q4, q5, q7, q9, q10, q16, q30, q48, q57, q60, q99, q255, q300, q4096, pk_mul, nI_add, pk_sub, n_gin, n_cl, ifle_t, ifle_f, iflt_t, iflt_f, ifeq_t, ifeq_f, ifne_t, ifne_f, ifm_f, ifm_t, iflm_f, ifm0_t, ifm0_f, ob, g1n, g0n, ↓reduceIte, not_true_eq_false, not_false_eq_true, q32, q43, q45, q46, q59, q98, q114, q115, q117, if_neg m1_nle, if_pos m1_lt, ifmn_f, ifmn_t, m_dig_t H a1 a2 a3, m_look_t H a1, m_dig_f H h2 (show p + 1 < 2000 by omega)]
  · refine Or.inl ⟨?_, ?_⟩
    · simp (disch := omega) only [q0, q1, q2, q3, q4, q5, q7, q9, q10, q16, q30, q48, q57, q60, q99, q255, q300, q4096, pk_mul, nI_add, pk_sub, n_gin, n_cl, ifle_t, ifle_f, iflt_t, iflt_f, ifeq_t, ifeq_f, ifne_t, ifne_f, ifm_f, ifm_t, iflm_f, ifm0_t, ifm0_f, ob, g1n, g0n, ↓reduceIte, not_true_eq_false, not_false_eq_true, q32, q43, q45, q46, q59, q98, q114, q115, q117, if_neg m1_nle, if_pos m1_lt, ifmn_f, ifmn_t, c_dig_f H h1 (show p < 2000 by omega)]
    · simp (disch := omega) only [q0, q1, q2, q3, q4, q5, q7, q9, q10, q16, q30, q48, q57, q60, q99, q255, q300, q4096, pk_mul, nI_add, pk_sub, n_gin, n_cl, ifle_t, ifle_f, iflt_t, iflt_f, ifeq_t, ifeq_f, ifne_t, ifne_f, ifm_f, ifm_t, iflm_f, ifm0_t, ifm0_f, ob, g1n, g0n, ↓reduceIte, not_true_eq_false, not_false_eq_true, q32, q43, q45, q46, q59, q98, q114, q115, q117, if_neg m1_nle, if_pos m1_lt, ifmn_f, ifmn_t, m_dig_f H h1 (show p < 2000 by omega), f_X6_wrong]
end TX
