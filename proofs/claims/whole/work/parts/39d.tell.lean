theorem P_tell (gw gc gs ge gf cR cL cB pB : Int32) (SD RK RN RS RC RT LK LN LS LL US UB BB : Nat → Int32) (mT mW mH mS mR mL mC mZ mA mB : Int32) (KK KN KS KC AN JK JN JS JL MY KP FI TX : Nat → Int32) (hs : Sim gw gc gs ge gf cR cL cB pB SD RK RN RS RC RT LK LN LS LL US UB BB mT mW mH mS mR mL mC mZ mA mB KK KN KS KC AN JK JN JS JL MY KP FI TX) (x1 : Int32) (x2 : Int32) : (∃ (r : Int32) (t : Int32 × Int32), f_X5_tell gs cL LK LN LS LL x1 x2 = some r ∧ f_X6_tell mL JK JN JS JL mT x1 x2 = some t ∧ t.2 = 0 ∧ r = t.1 ∧ Sim gw gc gs ge gf cR cL cB pB SD RK RN RS RC RT LK LN LS LL US UB BB t.2 mW mH mS mR mL mC mZ mA mB KK KN KS KC AN JK JN JS JL MY KP FI TX) ∨
  ((x1 < 0 ∨ ¬ x1 < cL) ∧ ∃ t : Int32 × Int32, f_X6_tell mL JK JN JS JL mT x1 x2 = some t ∧ t.2 = 1 ∧ Sim gw gc gs ge gf cR cL cB pB SD RK RN RS RC RT LK LN LS LL US UB BB t.2 mW mH mS mR mL mC mZ mA mB KK KN KS KC AN JK JN JS JL MY KP FI TX) := by
  obtain ⟨w, h, s, ⟨D0, rfl, rfl, rfl, rfl, rfl, rfl, rfl, rfl⟩, R, A, ⟨nl, hl, rfl, rfl, hL⟩, T⟩ := hs
  have D : Dim (nI w) (nI (w * h)) (nI s) (nI (edgeN w h)) (nI (edgeN w h * 2 ^ (w - 1))) (nI w) (nI h) (nI s) w h s := ⟨D0, rfl, rfl, rfl, rfl, rfl, rfl, rfl, rfl⟩
  have S0 : SLines (w * h) s (nI nl) (nI nl) LK LN LS LL JK JN JS JL := ⟨nl, hl, rfl, rfl, hL⟩
  have SS := fun (mT : Int32) => sim_mk (pB := pB) (RT := RT) (US := US) (UB := UB) (mT := mT) (mC := mC) (mA := mA) (mB := mB) (MY := MY) (KP := KP) (FI := FI) D R A S0 T
  rcases pk_ix x1 (n := nl) (by omega) with h1 | h1 | ⟨l, hc, rfl⟩
  · refine Or.inr ⟨Or.inl h1, ?_⟩
    rw [q0] at h1
    simp (disch := omega) only [q0, q1, q2, q3, q4, q5, q7, q9, q10, q16, q30, q48, q57, q60, q99, q255, q300, q4096, pk_mul, nI_add, pk_sub, n_gin, n_cl, ifle_t, ifle_f, iflt_t, iflt_f, ifeq_t, ifeq_f, ifne_t, ifne_f, ifm_f, ifm_t, iflm_f, ifm0_t, ifm0_f, ob, g1n, g0n, ↓reduceIte, not_true_eq_false, not_false_eq_true, if_pos h1, f_X6_tell, f_X6_tell_J14, f_X6_tell_J19, f_X6_throwsIf]
    exact ⟨_, rfl, rfl, SS _⟩
  · have h2 : ¬ x1 < nI nl := Int32.not_lt.mpr h1
    refine Or.inr ⟨Or.inr h2, ?_⟩
    simp (disch := omega) only [q0, q1, q2, q3, q4, q5, q7, q9, q10, q16, q30, q48, q57, q60, q99, q255, q300, q4096, pk_mul, nI_add, pk_sub, n_gin, n_cl, ifle_t, ifle_f, iflt_t, iflt_f, ifeq_t, ifeq_f, ifne_t, ifne_f, ifm_f, ifm_t, iflm_f, ifm0_t, ifm0_f, ob, g1n, g0n, ↓reduceIte, not_true_eq_false, not_false_eq_true, if_neg (x_neg h1 (by omega)), if_neg h2, f_X6_tell, f_X6_tell_J14, f_X6_tell_J19, f_X6_throwsIf]
    exact ⟨_, rfl, rfl, SS _⟩
  refine Or.inl ?_
  obtain ⟨b1, b2, z, c, y, b, b3, b4, b5⟩ := hL l (by omega)
  have hz := b5.1
  have g1 := b3.1
  have g2 := b4.1
  by_cases hx : x2 < 0
  · have n0 := n_neg x2 hx (n := 0) (by omega)
    have n1 := n_neg x2 hx (n := 1) (by omega)
    have n2 := n_neg x2 hx (n := 2) (by omega)
    have n3 := n_neg x2 hx (n := 3) (by omega)
    have n4 : x2 < nI 3 := Int32.lt_of_le_of_ne n3.2.1 n3.2.2.1
    have nn0 : ¬ x2 = nI 0 := n0.2.2.1
    have nn1 : ¬ x2 = nI 1 := n1.2.2.1
    have nn2 : ¬ x2 = nI 2 := n2.2.2.1
    simp (disch := omega) only [q0, q1, q2, q3, q4, q5, q7, q9, q10, q16, q30, q48, q57, q60, q99, q255, q300, q4096, pk_mul, nI_add, pk_sub, n_gin, n_cl, ifle_t, ifle_f, iflt_t, iflt_f, ifeq_t, ifeq_f, ifne_t, ifne_f, ifm_f, ifm_t, iflm_f, ifm0_t, ifm0_f, ob, g1n, g0n, ↓reduceIte, not_true_eq_false, not_false_eq_true, f_X5_tell, f_X1_count, if_neg nn0, if_neg nn1, if_neg nn2, f_X5_toldLiteral, if_pos n4, f_X6_tell, f_X6_tell_J19, f_X6_throwsIf, if_neg n3.1, if_pos nn0, if_pos nn1, if_pos nn2]
    exact ⟨_, _, rfl, rfl, rfl, rfl, SS _⟩
  · obtain ⟨q, hq, rfl⟩ := nI_of hx
    by_cases hbig : 100 < q
    · have k0 : ¬ nI q = nI 0 := fun e => by have := (nI_eq hq (by omega)).mp e; omega
      have k1 : ¬ nI q = nI 1 := fun e => by have := (nI_eq hq (by omega)).mp e; omega
      have k2 : ¬ nI q = nI 2 := fun e => by have := (nI_eq hq (by omega)).mp e; omega
      have k3 : ¬ nI q < nI 3 := (n_big (by omega) hq).1
      have k4 : nI 3 ≤ nI q := nI_le (by omega) hq
      have k5 : ¬ nI (q - 3) < nI z := (n_big (by omega) (by omega)).1
      have k6 : nI z ≤ nI (q - 3) := nI_le (by omega) (by omega)
      simp (disch := omega) only [q0, q1, q2, q3, q4, q5, q7, q9, q10, q16, q30, q48, q57, q60, q99, q255, q300, q4096, pk_mul, nI_add, pk_sub, n_gin, n_cl, ifle_t, ifle_f, iflt_t, iflt_f, ifeq_t, ifeq_f, ifne_t, ifne_f, ifm_f, ifm_t, iflm_f, ifm0_t, ifm0_f, ob, g1n, g0n, ↓reduceIte, not_true_eq_false, not_false_eq_true, f_X5_tell, f_X1_count, if_neg k0, if_neg k1, if_neg k2, f_X5_toldLiteral, if_neg k3, l_sizeOf b3 (show l < 61 by omega), if_neg k5, f_X6_tell, f_X6_tell_J19, f_X6_throwsIf, if_pos k4, g2, if_pos k6]
      exact ⟨_, _, rfl, rfl, rfl, rfl, SS _⟩
    · by_cases hq3 : 3 ≤ q
      · by_cases qz : q - 3 < z
        · have hk := b5.2.1 (q - 3) qz
          have eC := e_litC (c (q - 3)) (by omega) (y (q - 3)) (by omega) (b (q - 3)) (by omega)
          have hb5 := e_litM5 s (by omega) (c (q - 3)) (by omega) (y (q - 3)) (by omega) (b (q - 3)) (by omega)
          have hJ : JL (16 * l + q - 3) = nI (2 * (s * c (q - 3) + y (q - 3)) + b (q - 3)) := by
            have := b4.2 (q - 3) qz
            rw [show 16 * l + q - 3 = 16 * l + (q - 3) by omega]; exact this
          simp (disch := omega) only [q0, q1, q2, q3, q4, q5, q7, q9, q10, q16, q30, q48, q57, q60, q99, q255, q300, q4096, pk_mul, nI_add, pk_sub, n_gin, n_cl, ifle_t, ifle_f, iflt_t, iflt_f, ifeq_t, ifeq_f, ifne_t, ifne_f, ifm_f, ifm_t, iflm_f, ifm0_t, ifm0_f, ob, g1n, g0n, ↓reduceIte, not_true_eq_false, not_false_eq_true, f_X5_tell, f_X1_count, f_X5_toldLiteral, l_sizeOf b3 (show l < 61 by omega), l_litAt b3 (show l < 61 by omega) hz qz, f_X0_symbols, eC.2.1, eC.2.2.1, eC.2.2.2, f_X6_tell, f_X6_tell_J19, f_X6_throwsIf, g2, hJ]
          refine ⟨nI (2 * (s * c (q - 3) + y (q - 3)) + b (q - 3)), _, ?_, rfl, rfl, rfl, SS _⟩
          by_cases hb0 : b (q - 3) = 0
          · rw [ifeq_t hb0, hb0]; rfl
          · have hb1 : b (q - 3) = 1 := by omega
            rw [ifeq_f hb0 (by omega) (by omega), hb1]; rfl
        · simp (disch := omega) only [q0, q1, q2, q3, q4, q5, q7, q9, q10, q16, q30, q48, q57, q60, q99, q255, q300, q4096, pk_mul, nI_add, pk_sub, n_gin, n_cl, ifle_t, ifle_f, iflt_t, iflt_f, ifeq_t, ifeq_f, ifne_t, ifne_f, ifm_f, ifm_t, iflm_f, ifm0_t, ifm0_f, ob, g1n, g0n, ↓reduceIte, not_true_eq_false, not_false_eq_true, f_X5_tell, f_X1_count, f_X5_toldLiteral, l_sizeOf b3 (show l < 61 by omega), f_X6_tell, f_X6_tell_J19, f_X6_throwsIf, g2]
          exact ⟨_, _, rfl, rfl, rfl, rfl, SS _⟩
      · by_cases e0 : q = 0
        · simp (disch := omega) only [q0, q1, q2, q3, q4, q5, q7, q9, q10, q16, q30, q48, q57, q60, q99, q255, q300, q4096, pk_mul, nI_add, pk_sub, n_gin, n_cl, ifle_t, ifle_f, iflt_t, iflt_f, ifeq_t, ifeq_f, ifne_t, ifne_f, ifm_f, ifm_t, iflm_f, ifm0_t, ifm0_f, ob, g1n, g0n, ↓reduceIte, not_true_eq_false, not_false_eq_true, f_X5_tell, f_X1_count, f_X1_kindOf, f_X6_tell, f_X6_tell_J19, f_X6_throwsIf]
          exact ⟨_, _, rfl, rfl, rfl, b1.symm, SS _⟩
        · by_cases e1 : q = 1
          · simp (disch := omega) only [q0, q1, q2, q3, q4, q5, q7, q9, q10, q16, q30, q48, q57, q60, q99, q255, q300, q4096, pk_mul, nI_add, pk_sub, n_gin, n_cl, ifle_t, ifle_f, iflt_t, iflt_f, ifeq_t, ifeq_f, ifne_t, ifne_f, ifm_f, ifm_t, iflm_f, ifm0_t, ifm0_f, ob, g1n, g0n, ↓reduceIte, not_true_eq_false, not_false_eq_true, f_X5_tell, f_X1_count, f_X1_numberOf, f_X6_tell, f_X6_tell_J19, f_X6_throwsIf]
            exact ⟨_, _, rfl, rfl, rfl, b2.symm, SS _⟩
          · obtain rfl : q = 2 := by omega
            simp (disch := omega) only [q0, q1, q2, q3, q4, q5, q7, q9, q10, q16, q30, q48, q57, q60, q99, q255, q300, q4096, pk_mul, nI_add, pk_sub, n_gin, n_cl, ifle_t, ifle_f, iflt_t, iflt_f, ifeq_t, ifeq_f, ifne_t, ifne_f, ifm_f, ifm_t, iflm_f, ifm0_t, ifm0_f, ob, g1n, g0n, ↓reduceIte, not_true_eq_false, not_false_eq_true, f_X5_tell, f_X1_count, l_sizeOf b3 (show l < 61 by omega), f_X6_tell, f_X6_tell_J19, f_X6_throwsIf, g2]
            exact ⟨_, _, rfl, rfl, rfl, rfl, SS _⟩
