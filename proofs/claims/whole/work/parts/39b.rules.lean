/-! PURE PART. into, test, fails -/
section RB
variable {RS RC KS KC : Nat → Int32} {r n : Nat} {cs : Nat → Nat}
theorem c_addCell_L (R : RowR RS RC r n cs) (hn : n < 9) {c : Nat} (hc : c < 16) (F : Nat) : ∀ d k m, k + d = n → d < m →
    ((∃ j, k ≤ j ∧ j < n ∧ cs j = c) → f_X3_addCell_L18 F m (nI r) (nI c) (nI n) (nI k) RS RC = some (nI 0, RS, RC)) ∧
    ((∀ j, k ≤ j → j < n → ¬ cs j = c) → f_X3_addCell_L18 F m (nI r) (nI c) (nI n) (nI k) RS RC = some (nI 1, upd RS r (nI (n + 1)), upd RC (9 * r + n) (nI c))) := by
  have ⟨h1, h2, h3, h4, h5⟩ := R
  intro d
  induction d with
  | zero =>
    intro k m e1 e2
    obtain ⟨m, rfl⟩ : ∃ m', m = m' + 1 := ⟨m - 1, by omega⟩
    refine ⟨fun ⟨j, a, b, _⟩ => by omega, fun _ => ?_⟩
    rw [f_X3_addCell_L18]
    simp (disch := omega) only [q0, q1, q2, q3, q4, q5, q7, q9, q10, q16, q30, q48, q57, q60, q99, q255, q300, q4096, pk_mul, nI_add, pk_sub, n_gin, n_cl, ifle_t, ifle_f, iflt_t, iflt_f, ifeq_t, ifeq_f, ifne_t, ifne_f, ifm_f, ifm_t, iflm_f, ifm0_t, ifm0_f, ob, g1n, g0n, ↓reduceIte, not_true_eq_false, not_false_eq_true]
  | succ d ih =>
    intro k m e1 e2
    obtain ⟨m, rfl⟩ : ∃ m', m = m' + 1 := ⟨m - 1, by omega⟩
    have hk := h5 k (by omega)
    obtain ⟨i1, i2⟩ := ih (k + 1) m (by omega) (by omega)
    rw [f_X3_addCell_L18]
    by_cases hq : cs k = c
    · refine ⟨fun _ => ?_, fun h => absurd hq (h k (Nat.le_refl _) (by omega))⟩
      simp (disch := omega) only [q0, q1, q2, q3, q4, q5, q7, q9, q10, q16, q30, q48, q57, q60, q99, q255, q300, q4096, pk_mul, nI_add, pk_sub, n_gin, n_cl, ifle_t, ifle_f, iflt_t, iflt_f, ifeq_t, ifeq_f, ifne_t, ifne_f, ifm_f, ifm_t, iflm_f, ifm0_t, ifm0_f, ob, g1n, g0n, ↓reduceIte, not_true_eq_false, not_false_eq_true, l_cellAt R (show k < n by omega)]
    · simp (disch := omega) only [q0, q1, q2, q3, q4, q5, q7, q9, q10, q16, q30, q48, q57, q60, q99, q255, q300, q4096, pk_mul, nI_add, pk_sub, n_gin, n_cl, ifle_t, ifle_f, iflt_t, iflt_f, ifeq_t, ifeq_f, ifne_t, ifne_f, ifm_f, ifm_t, iflm_f, ifm0_t, ifm0_f, ob, g1n, g0n, ↓reduceIte, not_true_eq_false, not_false_eq_true, l_cellAt R (show k < n by omega)]
      refine ⟨fun ⟨j, a, b, e⟩ => i1 ⟨j, ?_, b, e⟩, fun h => i2 (fun j a b => h j (by omega) b)⟩
      by_cases hj : j = k
      · subst hj; exact absurd e hq
      · omega
theorem m_seat_L (R : RowR KS KC r n cs) {c : Nat} (hc : c < 16) (F : Nat) : ∀ d k m, k + d = n → d < m →
    (∃ j, k ≤ j ∧ j < n ∧ cs j = c ∧ f_X6_seat_L2 KS KC F m (nI r) (nI c) (nI k) = some (nI j)) ∨ ((∀ j, k ≤ j → j < n → ¬ cs j = c) ∧ f_X6_seat_L2 KS KC F m (nI r) (nI c) (nI k) = some (-nI 1)) := by
  have ⟨h1, h2, h3, h4, h5⟩ := R
  intro d
  induction d with
  | zero =>
    intro k m e1 e2
    obtain ⟨m, rfl⟩ : ∃ m', m = m' + 1 := ⟨m - 1, by omega⟩
    refine Or.inr ⟨fun j a b => by omega, ?_⟩
    rw [f_X6_seat_L2]
    simp (disch := omega) only [q0, q1, q2, q3, q4, q5, q7, q9, q10, q16, q30, q48, q57, q60, q99, q255, q300, q4096, pk_mul, nI_add, pk_sub, n_gin, n_cl, ifle_t, ifle_f, iflt_t, iflt_f, ifeq_t, ifeq_f, ifne_t, ifne_f, ifm_f, ifm_t, iflm_f, ifm0_t, ifm0_f, ob, g1n, g0n, ↓reduceIte, not_true_eq_false, not_false_eq_true, h2]
  | succ d ih =>
    intro k m e1 e2
    obtain ⟨m, rfl⟩ : ∃ m', m = m' + 1 := ⟨m - 1, by omega⟩
    have hk := h5 k (by omega)
    rw [f_X6_seat_L2]
    by_cases hq : cs k = c
    · refine Or.inl ⟨k, Nat.le_refl _, by omega, hq, ?_⟩
      simp (disch := omega) only [q0, q1, q2, q3, q4, q5, q7, q9, q10, q16, q30, q48, q57, q60, q99, q255, q300, q4096, pk_mul, nI_add, pk_sub, n_gin, n_cl, ifle_t, ifle_f, iflt_t, iflt_f, ifeq_t, ifeq_f, ifne_t, ifne_f, ifm_f, ifm_t, iflm_f, ifm0_t, ifm0_f, ob, g1n, g0n, ↓reduceIte, not_true_eq_false, not_false_eq_true, h2, l_member R (show k < n by omega)]
    · simp (disch := omega) only [q0, q1, q2, q3, q4, q5, q7, q9, q10, q16, q30, q48, q57, q60, q99, q255, q300, q4096, pk_mul, nI_add, pk_sub, n_gin, n_cl, ifle_t, ifle_f, iflt_t, iflt_f, ifeq_t, ifeq_f, ifne_t, ifne_f, ifm_f, ifm_t, iflm_f, ifm0_t, ifm0_f, ob, g1n, g0n, ↓reduceIte, not_true_eq_false, not_false_eq_true, h2, l_member R (show k < n by omega)]
      rcases ih (k + 1) m (by omega) (by omega) with ⟨j, a, b, e, f⟩ | ⟨a, f⟩
      · exact Or.inl ⟨j, by omega, b, e, f⟩
      · refine Or.inr ⟨fun j a1 b => ?_, f⟩
        by_cases hj : j = k
        · subst hj; exact hq
        · exact a j (by omega) b
theorem m_seat (R : RowR KS KC r n cs) {c : Nat} (hc : c < 16) {F : Nat} (hF : 20 < F) :
    (∃ j, j < n ∧ cs j = c ∧ f_X6_seat KS KC F (nI r) (nI c) = some (nI j)) ∨ ((∀ j, j < n → ¬ cs j = c) ∧ f_X6_seat KS KC F (nI r) (nI c) = some (-nI 1)) := by
  have ⟨h1, h2, h3, h4, h5⟩ := R
  unfold f_X6_seat
  rw [q0]
  rcases m_seat_L R hc F n 0 F (by omega) (by omega) with ⟨j, a, b, e, f⟩ | ⟨a, f⟩
  · exact Or.inl ⟨j, b, e, f⟩
  · exact Or.inr ⟨fun j b => a j (by omega) b, f⟩
end RB
theorem m1_lt : (-nI 1 : Int32) < nI 0 := by decide
theorem m1_nle : ¬ nI 0 ≤ (-nI 1 : Int32) := by decide
set_option maxHeartbeats 4000000 in
theorem P_into (gw gc gs ge gf cR cL cB pB : Int32) (SD RK RN RS RC RT LK LN LS LL US UB BB : Nat → Int32) (mT mW mH mS mR mL mC mZ mA mB : Int32) (KK KN KS KC AN JK JN JS JL MY KP FI TX : Nat → Int32) (hs : Sim gw gc gs ge gf cR cL cB pB SD RK RN RS RC RT LK LN LS LL US UB BB mT mW mH mS mR mL mC mZ mA mB KK KN KS KC AN JK JN JS JL MY KP FI TX) (x1 : Int32) (x2 : Int32) : (∃ (r : Int32 × (Nat → Int32) × (Nat → Int32)) (t : Int32 × Int32 × (Nat → Int32) × (Nat → Int32)), f_X5_into gc cR FF RS RC x1 x2 = some r ∧ f_X6_into mW mH mR FF mT KS KC x1 x2 = some t ∧ t.2.1 = 0 ∧ lb r.1 = lb t.1 ∧ Sim gw gc gs ge gf cR cL cB pB SD RK RN r.2.1 r.2.2 RT LK LN LS LL US UB BB t.2.1 mW mH mS mR mL mC mZ mA mB KK KN t.2.2.1 t.2.2.2 AN JK JN JS JL MY KP FI TX) ∨
  (f_X3_has cR x1 = some 0 ∧ ∃ t : Int32 × Int32 × (Nat → Int32) × (Nat → Int32), f_X6_into mW mH mR FF mT KS KC x1 x2 = some t ∧ t.2.1 = 1 ∧ Sim gw gc gs ge gf cR cL cB pB SD RK RN RS RC RT LK LN LS LL US UB BB t.2.1 mW mH mS mR mL mC mZ mA mB KK KN t.2.2.1 t.2.2.2 AN JK JN JS JL MY KP FI TX) ∨
  (f_X5_needRule cR x1 = some () ∧ f_X0_hasCell gc x2 = some 0 ∧ ∃ t : Int32 × Int32 × (Nat → Int32) × (Nat → Int32), f_X6_into mW mH mR FF mT KS KC x1 x2 = some t ∧ t.2.1 = 1 ∧ Sim gw gc gs ge gf cR cL cB pB SD RK RN RS RC RT LK LN LS LL US UB BB t.2.1 mW mH mS mR mL mC mZ mA mB KK KN t.2.2.1 t.2.2.2 AN JK JN JS JL MY KP FI TX) := by
  obtain ⟨w, h, s, ⟨D0, rfl, rfl, rfl, rfl, rfl, rfl, rfl, rfl⟩, ⟨nr, hr, rfl, rfl, hz, hR⟩, A, L, T⟩ := hs
  have D : Dim (nI w) (nI (w * h)) (nI s) (nI (edgeN w h)) (nI (edgeN w h * 2 ^ (w - 1))) (nI w) (nI h) (nI s) w h s := ⟨D0, rfl, rfl, rfl, rfl, rfl, rfl, rfl, rfl⟩
  have S0 : SRules (w * h) (nI nr) (nI nr) RK RN RS RC KK KN KS KC := ⟨nr, hr, rfl, rfl, hz, hR⟩
  have SS := fun (mT : Int32) => sim_mk (pB := pB) (RT := RT) (US := US) (UB := UB) (mT := mT) (mC := mC) (mA := mA) (mB := mB) (MY := MY) (KP := KP) (FI := FI) D S0 A L T
  rcases pk_ix x1 (n := nr) (by omega) with h1 | h1 | ⟨r, hr1, rfl⟩
  · rw [q0] at h1
    refine Or.inr (Or.inl ?_)
    simp (disch := omega) only [q0, q1, q2, q3, q4, q5, q7, q9, q10, q16, q30, q48, q57, q60, q99, q255, q300, q4096, pk_mul, nI_add, pk_sub, n_gin, n_cl, ifle_t, ifle_f, iflt_t, iflt_f, ifeq_t, ifeq_f, ifne_t, ifne_f, ifm_f, ifm_t, iflm_f, ifm0_t, ifm0_f, ob, g1n, g0n, ↓reduceIte, not_true_eq_false, not_false_eq_true, f_X3_has, if_pos h1, f_X6_into, f_X6_into_J22, f_X6_into_J27, f_X6_throwsIf]
    exact ⟨trivial, _, rfl, rfl, SS _⟩
  · refine Or.inr (Or.inl ?_)
    simp (disch := omega) only [q0, q1, q2, q3, q4, q5, q7, q9, q10, q16, q30, q48, q57, q60, q99, q255, q300, q4096, pk_mul, nI_add, pk_sub, n_gin, n_cl, ifle_t, ifle_f, iflt_t, iflt_f, ifeq_t, ifeq_f, ifne_t, ifne_f, ifm_f, ifm_t, iflm_f, ifm0_t, ifm0_f, ob, g1n, g0n, ↓reduceIte, not_true_eq_false, not_false_eq_true, f_X3_has, if_neg (x_neg h1 (by omega)), if_pos h1, f_X6_into, f_X6_into_J22, f_X6_into_J27, f_X6_throwsIf]
    exact ⟨trivial, _, rfl, rfl, SS _⟩
  have hneed : f_X5_needRule (nI nr) (nI r) = some () := by
    simp (disch := omega) only [q0, q1, q2, q3, q4, q5, q7, q9, q10, q16, q30, q48, q57, q60, q99, q255, q300, q4096, pk_mul, nI_add, pk_sub, n_gin, n_cl, ifle_t, ifle_f, iflt_t, iflt_f, ifeq_t, ifeq_f, ifne_t, ifne_f, ifm_f, ifm_t, iflm_f, ifm0_t, ifm0_f, ob, g1n, g0n, ↓reduceIte, not_true_eq_false, not_false_eq_true, f_X5_needRule, f_X3_has]
  rcases pk_ix x2 (n := w * h) (by omega) with h1 | h1 | ⟨c, hc, rfl⟩
  · rw [q0] at h1
    refine Or.inr (Or.inr ⟨hneed, ?_⟩)
    simp (disch := omega) only [q0, q1, q2, q3, q4, q5, q7, q9, q10, q16, q30, q48, q57, q60, q99, q255, q300, q4096, pk_mul, nI_add, pk_sub, n_gin, n_cl, ifle_t, ifle_f, iflt_t, iflt_f, ifeq_t, ifeq_f, ifne_t, ifne_f, ifm_f, ifm_t, iflm_f, ifm0_t, ifm0_f, ob, g1n, g0n, ↓reduceIte, not_true_eq_false, not_false_eq_true, f_X0_hasCell, if_pos h1, f_X6_into, f_X6_isCell, f_X6_into_J22, f_X6_into_J27, f_X6_throwsIf]
    exact ⟨trivial, _, rfl, rfl, SS _⟩
  · refine Or.inr (Or.inr ⟨hneed, ?_⟩)
    simp (disch := omega) only [q0, q1, q2, q3, q4, q5, q7, q9, q10, q16, q30, q48, q57, q60, q99, q255, q300, q4096, pk_mul, nI_add, pk_sub, n_gin, n_cl, ifle_t, ifle_f, iflt_t, iflt_f, ifeq_t, ifeq_f, ifne_t, ifne_f, ifm_f, ifm_t, iflm_f, ifm0_t, ifm0_f, ob, g1n, g0n, ↓reduceIte, not_true_eq_false, not_false_eq_true, f_X0_hasCell, if_neg (x_neg h1 (by omega)), if_pos h1, f_X6_into, f_X6_isCell, f_X6_cells, f_X6_into_J22, f_X6_into_J27, f_X6_throwsIf]
    exact ⟨trivial, _, rfl, rfl, SS _⟩
  refine Or.inl ?_
  obtain ⟨b1, b2, n, cs, b3, b4, b5⟩ := hR r hr1
  have hn := b3.2.2.1
  have g1 := b3.2.1
  have g2 := b4.2.1
  have hcell : f_X5_needCell (nI (w * h)) (nI c) = some () := by
    simp (disch := omega) only [q0, q1, q2, q3, q4, q5, q7, q9, q10, q16, q30, q48, q57, q60, q99, q255, q300, q4096, pk_mul, nI_add, pk_sub, n_gin, n_cl, ifle_t, ifle_f, iflt_t, iflt_f, ifeq_t, ifeq_f, ifne_t, ifne_f, ifm_f, ifm_t, iflm_f, ifm0_t, ifm0_f, ob, g1n, g0n, ↓reduceIte, not_true_eq_false, not_false_eq_true, f_X5_needCell, f_X0_hasCell]
  rcases m_seat b4 (c := c) (by omega) (F := FF) (by unfold FF; omega) with ⟨j, a, e, f⟩ | ⟨a, f⟩
  · have hE : f_X3_addCell FF RS RC (nI r) (nI c) = some (nI 0, RS, RC) := by
      unfold f_X3_addCell
      by_cases h9 : n < 9
      · have := (c_addCell_L b3 h9 (c := c) (by omega) FF n 0 FF (by omega) (by unfold FF; omega)).1 ⟨j, by omega, a, e⟩
        simp (disch := omega) only [q0, q1, q2, q3, q4, q5, q7, q9, q10, q16, q30, q48, q57, q60, q99, q255, q300, q4096, pk_mul, nI_add, pk_sub, n_gin, n_cl, ifle_t, ifle_f, iflt_t, iflt_f, ifeq_t, ifeq_f, ifne_t, ifne_f, ifm_f, ifm_t, iflm_f, ifm0_t, ifm0_f, ob, g1n, g0n, ↓reduceIte, not_true_eq_false, not_false_eq_true, g1]
        exact this
      · simp (disch := omega) only [q0, q1, q2, q3, q4, q5, q7, q9, q10, q16, q30, q48, q57, q60, q99, q255, q300, q4096, pk_mul, nI_add, pk_sub, n_gin, n_cl, ifle_t, ifle_f, iflt_t, iflt_f, ifeq_t, ifeq_f, ifne_t, ifne_f, ifm_f, ifm_t, iflm_f, ifm0_t, ifm0_f, ob, g1n, g0n, ↓reduceIte, not_true_eq_false, not_false_eq_true, g1]
    simp (disch := omega) only [q0, q1, q2, q3, q4, q5, q7, q9, q10, q16, q30, q48, q57, q60, q99, q255, q300, q4096, pk_mul, nI_add, pk_sub, n_gin, n_cl, ifle_t, ifle_f, iflt_t, iflt_f, ifeq_t, ifeq_f, ifne_t, ifne_f, ifm_f, ifm_t, iflm_f, ifm0_t, ifm0_f, ob, g1n, g0n, ↓reduceIte, not_true_eq_false, not_false_eq_true, f_X5_into, hneed, hcell, hE, f_X6_into, f_X6_isCell, f_X6_cells, f_X6_into_J27, f_X6_throwsIf, f]
    exact ⟨_, _, rfl, rfl, rfl, rfl, SS _⟩
  · by_cases h9 : n < 9
    · have hE : f_X3_addCell FF RS RC (nI r) (nI c) = some (nI 1, upd RS r (nI (n + 1)), upd RC (9 * r + n) (nI c)) := by
        unfold f_X3_addCell
        have := (c_addCell_L b3 h9 (c := c) (by omega) FF n 0 FF (by omega) (by unfold FF; omega)).2 (fun j _ b => a j b)
        simp (disch := omega) only [q0, q1, q2, q3, q4, q5, q7, q9, q10, q16, q30, q48, q57, q60, q99, q255, q300, q4096, pk_mul, nI_add, pk_sub, n_gin, n_cl, ifle_t, ifle_f, iflt_t, iflt_f, ifeq_t, ifeq_f, ifne_t, ifne_f, ifm_f, ifm_t, iflm_f, ifm0_t, ifm0_f, ob, g1n, g0n, ↓reduceIte, not_true_eq_false, not_false_eq_true, g1]
        exact this
      simp (disch := omega) only [q0, q1, q2, q3, q4, q5, q7, q9, q10, q16, q30, q48, q57, q60, q99, q255, q300, q4096, pk_mul, nI_add, pk_sub, n_gin, n_cl, ifle_t, ifle_f, iflt_t, iflt_f, ifeq_t, ifeq_f, ifne_t, ifne_f, ifm_f, ifm_t, iflm_f, ifm0_t, ifm0_f, ob, g1n, g0n, ↓reduceIte, not_true_eq_false, not_false_eq_true, f_X5_into, hneed, hcell, hE, f_X6_into, f_X6_isCell, f_X6_cells, f_X6_into_J27, f_X6_throwsIf, f, if_neg m1_nle, g2]
      refine ⟨_, _, rfl, rfl, rfl, rfl, sim_mk D ⟨nr, hr, rfl, rfl, fun i q1 q2 => ?_, fun i hi => ?_⟩ A L T⟩
      · show upd _ _ _ _ = nI 0
        rw [pk_un (by omega)]; exact hz i q1 q2
      · by_cases hir : i = r
        · subst hir
          refine ⟨b1, b2, n + 1, fun k => if k = n then c else cs k, ⟨by omega, pk_us, by omega, fun k hk => ?_, fun k hk => ?_⟩, ⟨by omega, pk_us, by omega, fun k hk => ?_, fun k hk => ?_⟩, fun k hk => ?_, fun k j hk hj e => ?_⟩
          · show upd _ _ _ _ = nI (if k = n then c else cs k)
            by_cases hkn : k = n
            · subst hkn; rw [pk_us, if_pos rfl]
            · rw [pk_un (by omega), if_neg hkn]; exact b3.2.2.2.1 k (by omega)
          · show (if k = n then c else cs k) < 16
            by_cases hkn : k = n
            · rw [if_pos hkn]; omega
            · rw [if_neg hkn]; exact b3.2.2.2.2 k (by omega)
          · show upd _ _ _ _ = nI (if k = n then c else cs k)
            by_cases hkn : k = n
            · subst hkn; rw [pk_us, if_pos rfl]
            · rw [pk_un (by omega), if_neg hkn]; exact b4.2.2.2.1 k (by omega)
          · show (if k = n then c else cs k) < 16
            by_cases hkn : k = n
            · rw [if_pos hkn]; omega
            · rw [if_neg hkn]; exact b3.2.2.2.2 k (by omega)
          · show (if k = n then c else cs k) < w * h
            by_cases hkn : k = n
            · rw [if_pos hkn]; omega
            · rw [if_neg hkn]; exact b5.1 k (by omega)
          · have e : (if k = n then c else cs k) = (if j = n then c else cs j) := e
            by_cases hkn : k = n
            · by_cases hjn : j = n
              · omega
              · rw [if_pos hkn, if_neg hjn] at e
                exact absurd e.symm (a j (by omega))
            · by_cases hjn : j = n
              · rw [if_neg hkn, if_pos hjn] at e
                exact absurd e (a k (by omega))
              · rw [if_neg hkn, if_neg hjn] at e
                exact b5.2 k j (by omega) (by omega) e
        · obtain ⟨b1', b2', n', cs', b3', b4', b5'⟩ := hR i hi
          exact ⟨b1', b2', n', cs', b3'.keep (pk_un hir) (fun k hk => pk_un (by omega)), b4'.keep (pk_un hir) (fun k hk => pk_un (by omega)), b5'⟩
    · have hE : f_X3_addCell FF RS RC (nI r) (nI c) = some (nI 0, RS, RC) := by
        unfold f_X3_addCell
        simp (disch := omega) only [q0, q1, q2, q3, q4, q5, q7, q9, q10, q16, q30, q48, q57, q60, q99, q255, q300, q4096, pk_mul, nI_add, pk_sub, n_gin, n_cl, ifle_t, ifle_f, iflt_t, iflt_f, ifeq_t, ifeq_f, ifne_t, ifne_f, ifm_f, ifm_t, iflm_f, ifm0_t, ifm0_f, ob, g1n, g0n, ↓reduceIte, not_true_eq_false, not_false_eq_true, g1]
      simp (disch := omega) only [q0, q1, q2, q3, q4, q5, q7, q9, q10, q16, q30, q48, q57, q60, q99, q255, q300, q4096, pk_mul, nI_add, pk_sub, n_gin, n_cl, ifle_t, ifle_f, iflt_t, iflt_f, ifeq_t, ifeq_f, ifne_t, ifne_f, ifm_f, ifm_t, iflm_f, ifm0_t, ifm0_f, ob, g1n, g0n, ↓reduceIte, not_true_eq_false, not_false_eq_true, f_X5_into, hneed, hcell, hE, f_X6_into, f_X6_isCell, f_X6_cells, f_X6_into_J27, f_X6_throwsIf, f, if_neg m1_nle, g2]
      exact ⟨_, _, rfl, rfl, rfl, rfl, SS _⟩
/-! test -/
def MeetsP (kd nu : Int32) (w n : Nat) (cs v : Nat → Nat) : Prop := mEnd kd nu n v (some (bI (Conn w n cs v))) = some 1
theorem mEnd_eq (kd nu : Int32) (w n : Nat) (cs v : Nat → Nat) : mEnd kd nu n v (some (bI (Conn w n cs v))) = some (bI (MeetsP kd nu w n cs v)) := by
  have key : ∃ p, mEnd kd nu n v (some (bI (Conn w n cs v))) = some (bI p) := by
    unfold mEnd
    split
    · exact ⟨_, rfl⟩
    split
    · exact ⟨_, rfl⟩
    split
    · exact ⟨_, rfl⟩
    split
    · exact ⟨_, rfl⟩
    · rw [ob, bI_gbl]; exact ⟨_, rfl⟩
  obtain ⟨p, hp⟩ := key
  unfold MeetsP
  rw [hp]
  congr 1
  apply bI_c
  rw [Option.some.injEq, bI_1]
noncomputable def TST (kd nu : Int32) (w n : Nat) (cs : Nat → Nat) (SD : Nat → Int32) : Int32 :=
  @ite _ (∀ j, j < n → ¬ SD (cs j) = -1) (Classical.propDecidable _) (bI (MeetsP kd nu w n cs (fun j => (SD (cs j)).toNatClampNeg))) (-1)
section TT
variable {RK RN RS RC KK KN KS KC SD AN SY FI : Nat → Int32} {r n w h s : Nat} {cs v : Nat → Nat}
theorem c_mt (D0 : 1 ≤ w ∧ w ≤ 4 ∧ 1 ≤ h ∧ h ≤ 4 ∧ 1 ≤ s ∧ s ≤ 6 ∧ 1 ≤ w * h ∧ w * h ≤ 16) (R : RowR RS RC r n cs) (O : OkR (w * h) n cs) (hv : ∀ k, k < n → SY (cs k) = nI (v k)) (h6 : ∀ k, k < n → v k < 6) {F : Nat} (hF : 100 < F) :
    f_X3_meets (nI w) (nI (w * h)) (nI (edgeN w h)) (nI (edgeN w h * 2 ^ (w - 1))) RK RN RS RC SY F (nI r) = some (bI (MeetsP (RK r) (RN r) w n cs v)) := by
  rw [c_meets R hv h6 _ _ _ _ (by omega), c_hang (by omega) (by omega) (by omega) (by omega) O.1 O.2 hF, mEnd_eq]
theorem m_mt (hw : 1 ≤ w) (hw4 : w ≤ 4) (R : RowR KS KC r n cs) (hv : ∀ k, k < n → FI k = nI (v k)) (h6 : ∀ k, k < n → v k < 6) {F : Nat} (hF : 100 < F) :
    f_X6_meets (nI w) KK KN KS KC FI F (nI r) = some (bI (MeetsP (KK r) (KN r) w n cs v)) := by
  rw [m_meets R hv h6 _ (by omega), m_hangs R hv h6 (by omega) (by omega) (by omega), mEnd_eq]
theorem ans_v (hs : s ≤ 6) (A : SAns s SD AN) {c : Nat} (hc : c < 16) (h : ¬ SD c = -1) : SD c = nI (SD c).toNatClampNeg ∧ (SD c).toNatClampNeg < s := by
  rcases (A c hc).2 with h1 | ⟨y, h1, h2⟩
  · exact absurd h1 h
  · rw [h2, n_cl (by omega)]; exact ⟨rfl, h1⟩
theorem c_test1 (D0 : 1 ≤ w ∧ w ≤ 4 ∧ 1 ≤ h ∧ h ≤ 4 ∧ 1 ≤ s ∧ s ≤ 6 ∧ 1 ≤ w * h ∧ w * h ≤ 16) (R : RowR RS RC r n cs) (O : OkR (w * h) n cs) (A : SAns s SD AN) {F : Nat} (hF : 100 < F) (ha : ∀ j, j < n → ¬ SD (cs j) = -1) :
    f_X3_meets (nI w) (nI (w * h)) (nI (edgeN w h)) (nI (edgeN w h * 2 ^ (w - 1))) RK RN RS RC SD F (nI r) = some (bI (MeetsP (RK r) (RN r) w n cs (fun j => (SD (cs j)).toNatClampNeg))) := by
  refine c_mt D0 R O (fun k hk => ?_) (fun k hk => ?_) hF
  · exact (ans_v (by omega) A (R.2.2.2.2 k hk) (ha k hk)).1
  · have := (ans_v (by omega) A (R.2.2.2.2 k hk) (ha k hk)).2
    show (SD (cs k)).toNatClampNeg < 6
    omega
theorem m_test_L (D0 : 1 ≤ w ∧ w ≤ 4 ∧ 1 ≤ h ∧ h ≤ 4 ∧ 1 ≤ s ∧ s ≤ 6 ∧ 1 ≤ w * h ∧ w * h ≤ 16) (R : RowR KS KC r n cs) (A : SAns s SD AN) {F : Nat} (hF : 100 < F) : ∀ d k m FI, k + d = n → d < m → (∀ j, j < k → ¬ SD (cs j) = -1 ∧ FI j = SD (cs j)) →
    ∃ FI', f_X6_testRule_L2 (nI w) KK KN KS KC AN F m (nI r) (nI k) FI = some (TST (KK r) (KN r) w n cs SD, FI') := by
  have ⟨h1, h2, h3, h4, h5⟩ := R
  intro d
  induction d with
  | zero =>
    intro k m FI e1 e2 e3
    obtain ⟨m, rfl⟩ : ∃ m', m = m' + 1 := ⟨m - 1, by omega⟩
    obtain rfl : k = n := by omega
    have em := m_mt (KK := KK) (KN := KN) (FI := FI) (w := w) (v := fun j => (SD (cs j)).toNatClampNeg) (by omega) (by omega) R (fun j hj => by rw [(e3 j hj).2]; exact (ans_v (by omega) A (h5 j hj) (e3 j hj).1).1) (fun j hj => by have := (ans_v (by omega) A (h5 j hj) (e3 j hj).1).2; show (SD (cs j)).toNatClampNeg < 6; omega) hF
    refine ⟨FI, ?_⟩
    have ht : TST (KK r) (KN r) w k cs SD = bI (MeetsP (KK r) (KN r) w k cs (fun j => (SD (cs j)).toNatClampNeg)) := by
      unfold TST; exact if_pos (fun j hj => (e3 j hj).1)
    rw [f_X6_testRule_L2, ht]
    simp (disch := omega) only [q0, q1, q2, q3, q4, q5, q7, q9, q10, q16, q30, q48, q57, q60, q99, q255, q300, q4096, pk_mul, nI_add, pk_sub, n_gin, n_cl, ifle_t, ifle_f, iflt_t, iflt_f, ifeq_t, ifeq_f, ifne_t, ifne_f, ifm_f, ifm_t, iflm_f, ifm0_t, ifm0_f, ob, g1n, g0n, ↓reduceIte, not_true_eq_false, not_false_eq_true, h2, em]
    by_cases hp : MeetsP (KK r) (KN r) w k cs (fun j => (SD (cs j)).toNatClampNeg)
    · rw [bI_t hp]; rfl
    · rw [bI_f hp]; rfl
  | succ d ih =>
    intro k m FI e1 e2 e3
    obtain ⟨m, rfl⟩ : ∃ m', m = m' + 1 := ⟨m - 1, by omega⟩
    have hk := h5 k (by omega)
    have ha := (A (cs k) hk).1
    rw [f_X6_testRule_L2]
    by_cases hq : SD (cs k) = -1
    · have ht : TST (KK r) (KN r) w n cs SD = -1 := by
        unfold TST; exact if_neg (fun h => h k (by omega) hq)
      rw [ht]
      simp (disch := omega) only [q0, q1, q2, q3, q4, q5, q7, q9, q10, q16, q30, q48, q57, q60, q99, q255, q300, q4096, pk_mul, nI_add, pk_sub, n_gin, n_cl, ifle_t, ifle_f, iflt_t, iflt_f, ifeq_t, ifeq_f, ifne_t, ifne_f, ifm_f, ifm_t, iflm_f, ifm0_t, ifm0_f, ob, g1n, g0n, ↓reduceIte, not_true_eq_false, not_false_eq_true, h2, l_member R (show k < n by omega), ha, pk_us, hq, if_neg m1_nle]
      exact ⟨_, rfl⟩
    · obtain ⟨g1, g2⟩ := ans_v (by omega) A hk hq
      have g3 : nI 0 ≤ SD (cs k) := by rw [g1]; exact nI_le (by omega) (by omega)
      simp (disch := omega) only [q0, q1, q2, q3, q4, q5, q7, q9, q10, q16, q30, q48, q57, q60, q99, q255, q300, q4096, pk_mul, nI_add, pk_sub, n_gin, n_cl, ifle_t, ifle_f, iflt_t, iflt_f, ifeq_t, ifeq_f, ifne_t, ifne_f, ifm_f, ifm_t, iflm_f, ifm0_t, ifm0_f, ob, g1n, g0n, ↓reduceIte, not_true_eq_false, not_false_eq_true, h2, l_member R (show k < n by omega), ha, pk_us, if_pos g3]
      refine ih (k + 1) m _ (by omega) (by omega) (fun j hj => ?_)
      by_cases hjk : j = k
      · subst hjk; exact ⟨hq, pk_us⟩
      · rw [pk_un hjk]; exact e3 j (by omega)
theorem m_test1 (D0 : 1 ≤ w ∧ w ≤ 4 ∧ 1 ≤ h ∧ h ≤ 4 ∧ 1 ≤ s ∧ s ≤ 6 ∧ 1 ≤ w * h ∧ w * h ≤ 16) (R : RowR KS KC r n cs) (A : SAns s SD AN) {F : Nat} (hF : 100 < F) (FI : Nat → Int32) :
    ∃ FI', f_X6_testRule (nI w) KK KN KS KC AN F FI (nI r) = some (TST (KK r) (KN r) w n cs SD, FI') := by
  have := R.2.2.1
  exact m_test_L D0 R A hF n 0 F FI (by omega) (by omega) (fun j hj => by omega)
end TT
theorem P_test (gw gc gs ge gf cR cL cB pB : Int32) (SD RK RN RS RC RT LK LN LS LL US UB BB : Nat → Int32) (mT mW mH mS mR mL mC mZ mA mB : Int32) (KK KN KS KC AN JK JN JS JL MY KP FI TX : Nat → Int32) (hs : Sim gw gc gs ge gf cR cL cB pB SD RK RN RS RC RT LK LN LS LL US UB BB mT mW mH mS mR mL mC mZ mA mB KK KN KS KC AN JK JN JS JL MY KP FI TX) (x1 : Int32) : (∃ (r : Int32) (t : Int32 × Int32 × (Nat → Int32)), f_X5_test gw gc ge gf cR SD RK RN RS RC FF x1 = some r ∧ f_X6_test mW mR KK KN KS KC AN FF mT FI x1 = some t ∧ t.2.1 = 0 ∧ r = t.1 ∧ Sim gw gc gs ge gf cR cL cB pB SD RK RN RS RC RT LK LN LS LL US UB BB t.2.1 mW mH mS mR mL mC mZ mA mB KK KN KS KC AN JK JN JS JL MY KP t.2.2 TX) ∨
  (f_X3_has cR x1 = some 0 ∧ ∃ t : Int32 × Int32 × (Nat → Int32), f_X6_test mW mR KK KN KS KC AN FF mT FI x1 = some t ∧ t.2.1 = 1 ∧ Sim gw gc gs ge gf cR cL cB pB SD RK RN RS RC RT LK LN LS LL US UB BB t.2.1 mW mH mS mR mL mC mZ mA mB KK KN KS KC AN JK JN JS JL MY KP t.2.2 TX) := by
  obtain ⟨w, h, s, ⟨D0, rfl, rfl, rfl, rfl, rfl, rfl, rfl, rfl⟩, ⟨nr, hr, rfl, rfl, hz, hR⟩, A, L, T⟩ := hs
  have D : Dim (nI w) (nI (w * h)) (nI s) (nI (edgeN w h)) (nI (edgeN w h * 2 ^ (w - 1))) (nI w) (nI h) (nI s) w h s := ⟨D0, rfl, rfl, rfl, rfl, rfl, rfl, rfl, rfl⟩
  have S0 : SRules (w * h) (nI nr) (nI nr) RK RN RS RC KK KN KS KC := ⟨nr, hr, rfl, rfl, hz, hR⟩
  have SS := fun (mT : Int32) (FI : Nat → Int32) => sim_mk (pB := pB) (RT := RT) (US := US) (UB := UB) (mT := mT) (mC := mC) (mA := mA) (mB := mB) (MY := MY) (KP := KP) (FI := FI) D S0 A L T
  rcases pk_ix x1 (n := nr) (by omega) with h1 | h1 | ⟨r, hr1, rfl⟩
  · rw [q0] at h1
    refine Or.inr ?_
    simp (disch := omega) only [q0, q1, q2, q3, q4, q5, q7, q9, q10, q16, q30, q48, q57, q60, q99, q255, q300, q4096, pk_mul, nI_add, pk_sub, n_gin, n_cl, ifle_t, ifle_f, iflt_t, iflt_f, ifeq_t, ifeq_f, ifne_t, ifne_f, ifm_f, ifm_t, iflm_f, ifm0_t, ifm0_f, ob, g1n, g0n, ↓reduceIte, not_true_eq_false, not_false_eq_true, f_X3_has, if_pos h1, f_X6_test, f_X6_test_J14, f_X6_test_J19, f_X6_throwsIf]
    exact ⟨trivial, _, rfl, rfl, SS _ _⟩
  · refine Or.inr ?_
    have h2 : ¬ x1 < nI nr := Int32.not_lt.mpr h1
    simp (disch := omega) only [q0, q1, q2, q3, q4, q5, q7, q9, q10, q16, q30, q48, q57, q60, q99, q255, q300, q4096, pk_mul, nI_add, pk_sub, n_gin, n_cl, ifle_t, ifle_f, iflt_t, iflt_f, ifeq_t, ifeq_f, ifne_t, ifne_f, ifm_f, ifm_t, iflm_f, ifm0_t, ifm0_f, ob, g1n, g0n, ↓reduceIte, not_true_eq_false, not_false_eq_true, f_X3_has, if_neg (x_neg h1 (by omega)), if_neg h2, if_pos h1, f_X6_test, f_X6_test_J14, f_X6_test_J19, f_X6_throwsIf]
    exact ⟨trivial, _, rfl, rfl, SS _ _⟩
  refine Or.inl ?_
  obtain ⟨b1, b2, n, cs, b3, b4, b5⟩ := hR r hr1
  obtain ⟨FI', hm⟩ := m_test1 (KK := KK) (KN := KN) (w := w) (h := h) D0 b4 A (F := FF) (by unfold FF; omega) FI
  have hsd := l_allSaid (SY := SD) b3 (F := FF) (by unfold FF; omega)
  rw [b1, b2] at hm
  by_cases ha : ∀ j, j < n → ¬ SD (cs j) = -1
  · have hc := c_test1 (RK := RK) (RN := RN) D0 b3 b5 A (F := FF) (by unfold FF; omega) ha
    have ht : TST (RK r) (RN r) w n cs SD = bI (MeetsP (RK r) (RN r) w n cs (fun j => (SD (cs j)).toNatClampNeg)) := by
      unfold TST; exact if_pos ha
    rw [bI_t ha] at hsd
    rw [ht] at hm
    refine ⟨bI (MeetsP (RK r) (RN r) w n cs (fun j => (SD (cs j)).toNatClampNeg)), (bI (MeetsP (RK r) (RN r) w n cs (fun j => (SD (cs j)).toNatClampNeg)), nI 0, FI'), ?_, ?_, rfl, rfl, SS _ _⟩
    · simp (disch := omega) only [q0, q1, q2, q3, q4, q5, q7, q9, q10, q16, q30, q48, q57, q60, q99, q255, q300, q4096, pk_mul, nI_add, pk_sub, n_gin, n_cl, ifle_t, ifle_f, iflt_t, iflt_f, ifeq_t, ifeq_f, ifne_t, ifne_f, ifm_f, ifm_t, iflm_f, ifm0_t, ifm0_f, ob, g1n, g0n, ↓reduceIte, not_true_eq_false, not_false_eq_true, f_X5_test, f_X5_needRule, f_X3_has, hsd, hc]
      by_cases hp : MeetsP (RK r) (RN r) w n cs (fun j => (SD (cs j)).toNatClampNeg)
      · rw [bI_t hp]; rfl
      · rw [bI_f hp]; rfl
    · simp (disch := omega) only [q0, q1, q2, q3, q4, q5, q7, q9, q10, q16, q30, q48, q57, q60, q99, q255, q300, q4096, pk_mul, nI_add, pk_sub, n_gin, n_cl, ifle_t, ifle_f, iflt_t, iflt_f, ifeq_t, ifeq_f, ifne_t, ifne_f, ifm_f, ifm_t, iflm_f, ifm0_t, ifm0_f, ob, g1n, g0n, ↓reduceIte, not_true_eq_false, not_false_eq_true, f_X6_test, f_X6_test_J19, f_X6_throwsIf, hm]
  · have ht : TST (RK r) (RN r) w n cs SD = -1 := by
      unfold TST; exact if_neg ha
    rw [bI_f ha] at hsd
    rw [ht] at hm
    refine ⟨-1, (-1, nI 0, FI'), ?_, ?_, rfl, rfl, SS _ _⟩
    · simp (disch := omega) only [q0, q1, q2, q3, q4, q5, q7, q9, q10, q16, q30, q48, q57, q60, q99, q255, q300, q4096, pk_mul, nI_add, pk_sub, n_gin, n_cl, ifle_t, ifle_f, iflt_t, iflt_f, ifeq_t, ifeq_f, ifne_t, ifne_f, ifm_f, ifm_t, iflm_f, ifm0_t, ifm0_f, ob, g1n, g0n, ↓reduceIte, not_true_eq_false, not_false_eq_true, f_X5_test, f_X5_needRule, f_X3_has, hsd]
    · simp (disch := omega) only [q0, q1, q2, q3, q4, q5, q7, q9, q10, q16, q30, q48, q57, q60, q99, q255, q300, q4096, pk_mul, nI_add, pk_sub, n_gin, n_cl, ifle_t, ifle_f, iflt_t, iflt_f, ifeq_t, ifeq_f, ifne_t, ifne_f, ifm_f, ifm_t, iflm_f, ifm0_t, ifm0_f, ob, g1n, g0n, ↓reduceIte, not_true_eq_false, not_false_eq_true, f_X6_test, f_X6_test_J19, f_X6_throwsIf, hm]
