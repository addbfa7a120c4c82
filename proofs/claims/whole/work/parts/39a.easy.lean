/-! PURE PART. a new object, answer, into, test, fails -/
theorem i_clamp (x : Int32) (M : Nat) (h1 : 1 ≤ M) (hM : M < 100) : ∃ t, 1 ≤ t ∧ t ≤ M ∧ f_X0_within x (nI M) = some (nI t) ∧ f_X6_held x (nI M) = some (nI t) := by
  unfold f_X0_within f_X6_held
  rw [q1]
  by_cases hx : x < 0
  · have g := n_neg x hx (n := 1) (by omega)
    have g2 := n_neg x hx (n := M) (by omega)
    have g3 : x < nI M := Int32.lt_of_le_of_ne g2.2.1 g2.2.2.1
    refine ⟨1, Nat.le_refl _, h1, ?_, ?_⟩
    · rw [if_pos g3, if_neg (Int32.not_lt.mpr g.2.1)]
    · rw [if_neg g.1]
  · obtain ⟨j, hj, rfl⟩ := nI_of hx
    by_cases hb : M < j
    · have g := n_big hb hj
      have g1 : nI 1 ≤ nI j := nI_le (by omega) hj
      refine ⟨M, h1, Nat.le_refl _, ?_, ?_⟩
      · rw [if_neg g.1]
        by_cases c : M = 1
        · rw [iflt_f (by omega) (by omega), c]
        · rw [iflt_t (by omega) (by omega)]
      · rw [if_pos g1, if_neg g.2]
    · by_cases c0 : j = 0
      · refine ⟨1, Nat.le_refl _, h1, ?_, ?_⟩
        · rw [iflt_t (show j < M by omega) (by omega), iflt_f (by omega) (by omega)]
        · rw [ifle_f (by omega) (by omega)]
      · refine ⟨j, by omega, by omega, ?_, ?_⟩
        · by_cases c1 : j < M
          · rw [iflt_t c1 (by omega)]
            by_cases c : j = 1
            · rw [iflt_f (by omega) (by omega), c]
            · rw [iflt_t (by omega) (by omega)]
          · obtain rfl : j = M := by omega
            rw [iflt_f (Nat.le_refl _) (by omega)]
            by_cases c : j = 1
            · rw [iflt_f (by omega) (by omega), c]
            · rw [iflt_t (by omega) (by omega)]
        · rw [ifle_t (by omega) (by omega), ifle_t (by omega) (by omega)]
theorem i_L43 {w h : Nat} (s : Int32) (hw : 1 ≤ w) (hw4 : w ≤ 4) (hh4 : h ≤ 4) : ∀ d k m, k + d = h → d < m →
    f_X0_init_L43 (nI w) (nI h) s m (nI (edgeN w k)) (nI (w * k)) = some (nI w, nI (w * h), s, nI (edgeN w h), nI (edgeN w h * 2 ^ (w - 1))) := by
  have hwh : w * h ≤ 4 * 4 := Nat.mul_le_mul hw4 hh4
  intro d
  induction d with
  | zero =>
    intro k m e1 e2
    obtain ⟨m, rfl⟩ : ∃ m', m = m' + 1 := ⟨m - 1, by omega⟩
    obtain rfl : k = h := by omega
    have he := edge_lt w (by omega) (by omega) k (by omega)
    rw [f_X0_init_L43]
    simp (disch := omega) only [q0, q1, q2, q3, q4, q5, q7, q9, q10, q16, q30, q48, q57, q60, q99, q255, q300, q4096, pk_mul, nI_add, pk_sub, n_gin, n_cl, ifle_t, ifle_f, iflt_t, iflt_f, ifeq_t, ifeq_f, ifne_t, ifne_f, ifm_f, ifm_t, iflm_f, ifm0_t, ifm0_f, ob, g1n, g0n, ↓reduceIte, not_true_eq_false, not_false_eq_true, nb_shl]
  | succ d ih =>
    intro k m e1 e2
    obtain ⟨m, rfl⟩ : ∃ m', m = m' + 1 := ⟨m - 1, by omega⟩
    have h1 : w * (k + 1) ≤ w * h := Nat.mul_le_mul_left _ (by omega)
    rw [Nat.mul_succ] at h1
    have e := ih (k + 1) m (by omega) (by omega)
    rw [edgeN, Nat.mul_succ] at e
    rw [f_X0_init_L43]
    simp (disch := omega) only [q0, q1, q2, q3, q4, q5, q7, q9, q10, q16, q30, q48, q57, q60, q99, q255, q300, q4096, pk_mul, nI_add, pk_sub, n_gin, n_cl, ifle_t, ifle_f, iflt_t, iflt_f, ifeq_t, ifeq_f, ifne_t, ifne_f, ifm_f, ifm_t, iflm_f, ifm0_t, ifm0_f, ob, g1n, g0n, ↓reduceIte, not_true_eq_false, not_false_eq_true, nb_pow, nb_or]
    exact e
theorem i_SD (q : Int32 × Int32 × Int32 × Int32 × Int32) : ∀ d k m SD, k + d = 16 → d < m → (∀ c, c < k → SD c = -1) → ∃ SD', (∀ c, c < 16 → SD' c = -1) ∧ f_X5_init_L93 q m (nI k) SD = some (q.1, q.2.1, q.2.2.1, q.2.2.2.1, q.2.2.2.2, SD') := by
  intro d
  induction d with
  | zero =>
    intro k m SD e1 e2 h
    obtain ⟨m, rfl⟩ : ∃ m', m = m' + 1 := ⟨m - 1, by omega⟩
    refine ⟨SD, fun c hc => h c (by omega), ?_⟩
    rw [f_X5_init_L93]
    simp (disch := omega) only [q0, q1, q2, q3, q4, q5, q7, q9, q10, q16, q30, q48, q57, q60, q99, q255, q300, q4096, pk_mul, nI_add, pk_sub, n_gin, n_cl, ifle_t, ifle_f, iflt_t, iflt_f, ifeq_t, ifeq_f, ifne_t, ifne_f, ifm_f, ifm_t, iflm_f, ifm0_t, ifm0_f, ob, g1n, g0n, ↓reduceIte, not_true_eq_false, not_false_eq_true]
  | succ d ih =>
    intro k m SD e1 e2 h
    obtain ⟨m, rfl⟩ : ∃ m', m = m' + 1 := ⟨m - 1, by omega⟩
    rw [f_X5_init_L93]
    simp (disch := omega) only [q0, q1, q2, q3, q4, q5, q7, q9, q10, q16, q30, q48, q57, q60, q99, q255, q300, q4096, pk_mul, nI_add, pk_sub, n_gin, n_cl, ifle_t, ifle_f, iflt_t, iflt_f, ifeq_t, ifeq_f, ifne_t, ifne_f, ifm_f, ifm_t, iflm_f, ifm0_t, ifm0_f, ob, g1n, g0n, ↓reduceIte, not_true_eq_false, not_false_eq_true]
    refine ih (k + 1) m _ (by omega) (by omega) (fun c hc => ?_)
    by_cases hk : c = k
    · subst hk; exact pk_us
    · rw [pk_un hk]; exact h c (by omega)
theorem i_AN (a b c : Int32) : ∀ d k m SD, k + d = 16 → d < m → (∀ c, c < k → SD c = -1) → ∃ SD', (∀ c, c < 16 → SD' c = -1) ∧ f_X6_init_L142 a b c m (nI k) SD = some (a, b, c, SD') := by
  intro d
  induction d with
  | zero =>
    intro k m SD e1 e2 h
    obtain ⟨m, rfl⟩ : ∃ m', m = m' + 1 := ⟨m - 1, by omega⟩
    refine ⟨SD, fun c hc => h c (by omega), ?_⟩
    rw [f_X6_init_L142]
    simp (disch := omega) only [q0, q1, q2, q3, q4, q5, q7, q9, q10, q16, q30, q48, q57, q60, q99, q255, q300, q4096, pk_mul, nI_add, pk_sub, n_gin, n_cl, ifle_t, ifle_f, iflt_t, iflt_f, ifeq_t, ifeq_f, ifne_t, ifne_f, ifm_f, ifm_t, iflm_f, ifm0_t, ifm0_f, ob, g1n, g0n, ↓reduceIte, not_true_eq_false, not_false_eq_true]
  | succ d ih =>
    intro k m SD e1 e2 h
    obtain ⟨m, rfl⟩ : ∃ m', m = m' + 1 := ⟨m - 1, by omega⟩
    rw [f_X6_init_L142]
    simp (disch := omega) only [q0, q1, q2, q3, q4, q5, q7, q9, q10, q16, q30, q48, q57, q60, q99, q255, q300, q4096, pk_mul, nI_add, pk_sub, n_gin, n_cl, ifle_t, ifle_f, iflt_t, iflt_f, ifeq_t, ifeq_f, ifne_t, ifne_f, ifm_f, ifm_t, iflm_f, ifm0_t, ifm0_f, ob, g1n, g0n, ↓reduceIte, not_true_eq_false, not_false_eq_true]
    refine ih (k + 1) m _ (by omega) (by omega) (fun c hc => ?_)
    by_cases hk : c = k
    · subst hk; exact pk_us
    · rw [pk_un hk]; exact h c (by omega)
theorem P_init (x1 x2 x3 : Int32) : ∃ (r : Int32 × Int32 × Int32 × Int32 × Int32 × (Nat → Int32)) (t : Int32 × Int32 × Int32 × (Nat → Int32)), f_X5_init FF x1 x2 x3 = some r ∧ f_X6_init FF x1 x2 x3 = some t ∧ Sim r.1 r.2.1 r.2.2.1 r.2.2.2.1 r.2.2.2.2.1 (0) (0) (0) (0) r.2.2.2.2.2 (fun _ => 0) (fun _ => 0) (fun _ => 0) (fun _ => 0) (fun _ => 0) (fun _ => 0) (fun _ => 0) (fun _ => 0) (fun _ => 0) (fun _ => 0) (fun _ => 0) (fun _ => 0) (0) t.1 t.2.1 t.2.2.1 (0) (0) (0) (0) (0) (0) (fun _ => 0) (fun _ => 0) (fun _ => 0) (fun _ => 0) t.2.2.2 (fun _ => 0) (fun _ => 0) (fun _ => 0) (fun _ => 0) (fun _ => 0) (fun _ => 0) (fun _ => 0) (fun _ => 0) := by
  obtain ⟨w, a1, a2, a3, a4⟩ := i_clamp x1 4 (by omega) (by omega)
  obtain ⟨h, b1, b2, b3, b4⟩ := i_clamp x2 4 (by omega) (by omega)
  obtain ⟨s, c1, c2, c3, c4⟩ := i_clamp x3 6 (by omega) (by omega)
  have g1 := i_L43 (w := w) (h := h) (nI s) a1 a2 b2 h 0 FF (by omega) (by unfold FF; omega)
  obtain ⟨SD, d1, d2⟩ := i_SD (nI w, nI (w * h), nI s, nI (edgeN w h), nI (edgeN w h * 2 ^ (w - 1))) 16 0 FF (fun _ => 0) (by omega) (by unfold FF; omega) (fun c hc => by omega)
  obtain ⟨AN, e1, e2⟩ := i_AN (nI w) (nI h) (nI s) 16 0 FF (fun _ => 0) (by omega) (by unfold FF; omega) (fun c hc => by omega)
  have hwh : w * h ≤ 4 * 4 := Nat.mul_le_mul a2 b2
  have hwh1 : 1 * 1 ≤ w * h := Nat.mul_le_mul a1 b1
  refine ⟨(nI w, nI (w * h), nI s, nI (edgeN w h), nI (edgeN w h * 2 ^ (w - 1)), SD), (nI w, nI h, nI s, AN), ?_, ?_, ?_⟩
  · unfold f_X5_init f_X0_init
    rw [show f_X0_within x1 4 = _ from a3, show f_X0_within x2 4 = _ from b3, show f_X0_within x3 6 = _ from c3, ob, ob, ob, show f_X0_init_L43 (nI w) (nI h) (nI s) FF 0 0 = _ from g1, ob]
    exact d2
  · unfold f_X6_init
    rw [show f_X6_held x1 4 = _ from a4, show f_X6_held x2 4 = _ from b4, show f_X6_held x3 6 = _ from c4, ob, ob, ob]
    exact e2
  · refine sim_mk ⟨⟨a1, a2, b1, b2, c1, c2, by omega, by omega⟩, rfl, rfl, rfl, rfl, rfl, rfl, rfl, rfl⟩ ⟨0, by omega, rfl, rfl, fun _ _ _ => rfl, fun i g => by omega⟩ (fun c hc => ⟨(e1 c hc).trans (d1 c hc).symm, Or.inl (d1 c hc)⟩) ⟨0, by omega, rfl, rfl, fun i g => by omega⟩ ⟨0, by omega, rfl, rfl, fun i g => by omega⟩
theorem x_neg {x : Int32} {n : Nat} (h : nI n ≤ x) (hn : n < 2000000) : ¬ x < nI 0 := fun q => (n_neg x q hn).1 h
theorem x_nm1 {n : Nat} (hn : n < 2000000) : ¬ nI n = -nI 1 := fun q => by rw [← n_m1 hn]; exact q
theorem x_m1n : ¬ (-nI 1 : Int32) = nI 0 := by decide
theorem P_answer (gw gc gs ge gf cR cL cB pB : Int32) (SD RK RN RS RC RT LK LN LS LL US UB BB : Nat → Int32) (mT mW mH mS mR mL mC mZ mA mB : Int32) (KK KN KS KC AN JK JN JS JL MY KP FI TX : Nat → Int32) (hs : Sim gw gc gs ge gf cR cL cB pB SD RK RN RS RC RT LK LN LS LL US UB BB mT mW mH mS mR mL mC mZ mA mB KK KN KS KC AN JK JN JS JL MY KP FI TX) (x1 : Int32) (x2 : Int32) : (∃ (r : Int32 × (Nat → Int32)) (t : Int32 × Int32 × (Nat → Int32)), f_X5_answer gc gs SD x1 x2 = some r ∧ f_X6_answer mW mH mS mT AN x1 x2 = some t ∧ t.2.1 = 0 ∧ lb r.1 = lb t.1 ∧ Sim gw gc gs ge gf cR cL cB pB r.2 RK RN RS RC RT LK LN LS LL US UB BB t.2.1 mW mH mS mR mL mC mZ mA mB KK KN KS KC t.2.2 JK JN JS JL MY KP FI TX) ∨
  (f_X0_hasCell gc x1 = some 0 ∧ ∃ t : Int32 × Int32 × (Nat → Int32), f_X6_answer mW mH mS mT AN x1 x2 = some t ∧ t.2.1 = 1 ∧ Sim gw gc gs ge gf cR cL cB pB SD RK RN RS RC RT LK LN LS LL US UB BB t.2.1 mW mH mS mR mL mC mZ mA mB KK KN KS KC t.2.2 JK JN JS JL MY KP FI TX) ∨
  (f_X5_needCell gc x1 = some () ∧ ¬ x2 = (-1 : Int32) ∧ f_X0_hasSymbol gs x2 = some 0 ∧ ∃ t : Int32 × Int32 × (Nat → Int32), f_X6_answer mW mH mS mT AN x1 x2 = some t ∧ t.2.1 = 2 ∧ Sim gw gc gs ge gf cR cL cB pB SD RK RN RS RC RT LK LN LS LL US UB BB t.2.1 mW mH mS mR mL mC mZ mA mB KK KN KS KC t.2.2 JK JN JS JL MY KP FI TX) := by
  obtain ⟨w, h, s, ⟨D0, rfl, rfl, rfl, rfl, rfl, rfl, rfl, rfl⟩, R, A, L, T⟩ := hs
  have D : Dim (nI w) (nI (w * h)) (nI s) (nI (edgeN w h)) (nI (edgeN w h * 2 ^ (w - 1))) (nI w) (nI h) (nI s) w h s := ⟨D0, rfl, rfl, rfl, rfl, rfl, rfl, rfl, rfl⟩
  have SS := fun (mT : Int32) => sim_mk (pB := pB) (RT := RT) (US := US) (UB := UB) (mT := mT) (mC := mC) (mA := mA) (mB := mB) (MY := MY) (KP := KP) (FI := FI) D R A L T
  rcases pk_ix x1 (n := w * h) (by omega) with h1 | h1 | ⟨c, hc, rfl⟩
  · rw [q0] at h1
    refine Or.inr (Or.inl ?_)
    simp (disch := omega) only [q0, q1, q2, q3, q4, q5, q7, q9, q10, q16, q30, q48, q57, q60, q99, q255, q300, q4096, pk_mul, nI_add, pk_sub, n_gin, n_cl, ifle_t, ifle_f, iflt_t, iflt_f, ifeq_t, ifeq_f, ifne_t, ifne_f, ifm_f, ifm_t, iflm_f, ifm0_t, ifm0_f, ob, g1n, g0n, ↓reduceIte, not_true_eq_false, not_false_eq_true, f_X0_hasCell, if_pos h1, f_X6_answer, f_X6_isCell, f_X6_answer_J15, f_X6_throwsIf]
    exact ⟨trivial, _, rfl, rfl, SS _⟩
  · refine Or.inr (Or.inl ?_)
    simp (disch := omega) only [q0, q1, q2, q3, q4, q5, q7, q9, q10, q16, q30, q48, q57, q60, q99, q255, q300, q4096, pk_mul, nI_add, pk_sub, n_gin, n_cl, ifle_t, ifle_f, iflt_t, iflt_f, ifeq_t, ifeq_f, ifne_t, ifne_f, ifm_f, ifm_t, iflm_f, ifm0_t, ifm0_f, ob, g1n, g0n, ↓reduceIte, not_true_eq_false, not_false_eq_true, f_X0_hasCell, if_neg (x_neg h1 (by omega)), if_pos h1, f_X6_answer, f_X6_isCell, f_X6_cells, f_X6_answer_J15, f_X6_throwsIf]
    exact ⟨trivial, _, rfl, rfl, SS _⟩
  · obtain ⟨f1, f2⟩ := A c (by omega)
    have hgo : (x2 = -1 ∨ ∃ y, y < s ∧ x2 = nI y) → ∃ r t, f_X5_answer_J15 (nI (w * h)) (nI s) (nI c) x2 SD = some r ∧ f_X6_answer_J40 (nI w) (nI h) (nI s) (nI 2) (nI c) x2 (nI 0) AN = some t ∧ t.2.1 = nI 0 ∧ lb r.1 = lb t.1 ∧ SAns s r.2 t.2.2 := by
      intro hx2
      by_cases hq : SD c = x2
      · simp (disch := omega) only [q0, q1, q2, q3, q4, q5, q7, q9, q10, q16, q30, q48, q57, q60, q99, q255, q300, q4096, pk_mul, nI_add, pk_sub, n_gin, n_cl, ifle_t, ifle_f, iflt_t, iflt_f, ifeq_t, ifeq_f, ifne_t, ifne_f, ifm_f, ifm_t, iflm_f, ifm0_t, ifm0_f, ob, g1n, g0n, ↓reduceIte, not_true_eq_false, not_false_eq_true, f_X5_answer_J15, f_X6_answer_J40, f_X6_answer_J41, f_X6_throwsIf, f1, if_neg (fun q : ¬ SD c = x2 => q hq)]
        exact ⟨_, _, rfl, rfl, rfl, rfl, A⟩
      · simp (disch := omega) only [q0, q1, q2, q3, q4, q5, q7, q9, q10, q16, q30, q48, q57, q60, q99, q255, q300, q4096, pk_mul, nI_add, pk_sub, n_gin, n_cl, ifle_t, ifle_f, iflt_t, iflt_f, ifeq_t, ifeq_f, ifne_t, ifne_f, ifm_f, ifm_t, iflm_f, ifm0_t, ifm0_f, ob, g1n, g0n, ↓reduceIte, not_true_eq_false, not_false_eq_true, f_X5_answer_J15, f_X6_answer_J40, f_X6_answer_J41, f_X6_throwsIf, f1, if_pos hq]
        refine ⟨_, _, rfl, rfl, rfl, rfl, fun c' hc' => ?_⟩
        show upd _ _ _ _ = upd _ _ _ _ ∧ (upd _ _ _ _ = -1 ∨ ∃ y, y < s ∧ upd _ _ _ _ = nI y)
        by_cases hcc : c' = c
        · subst hcc; rw [pk_us, pk_us]; exact ⟨rfl, hx2⟩
        · rw [pk_un hcc, pk_un hcc]; exact A c' hc'
    by_cases hm : x2 = -1
    · refine Or.inl ?_
      obtain ⟨r, t, k1, k2, k3, k4, k5⟩ := hgo (Or.inl hm)
      rw [q1] at hm
      simp (disch := omega) only [q0, q1, q2, q3, q4, q5, q7, q9, q10, q16, q30, q48, q57, q60, q99, q255, q300, q4096, pk_mul, nI_add, pk_sub, n_gin, n_cl, ifle_t, ifle_f, iflt_t, iflt_f, ifeq_t, ifeq_f, ifne_t, ifne_f, ifm_f, ifm_t, iflm_f, ifm0_t, ifm0_f, ob, g1n, g0n, ↓reduceIte, not_true_eq_false, not_false_eq_true, f_X5_answer, f_X5_needCell, f_X0_hasCell, f_X6_answer, f_X6_isCell, f_X6_cells, f_X6_answer_J15, f_X6_throwsIf, if_pos hm]
      exact ⟨r, t, k1, k2, k3, k4, sim_mk D R k5 L T⟩
    · rcases pk_ix x2 (n := s) (by omega) with h2 | h2 | ⟨y, hy, rfl⟩
      · refine Or.inr (Or.inr ?_)
        rw [q0] at h2
        refine ⟨?_, hm, ?_⟩
        · simp (disch := omega) only [q0, q1, q2, q3, q4, q5, q7, q9, q10, q16, q30, q48, q57, q60, q99, q255, q300, q4096, pk_mul, nI_add, pk_sub, n_gin, n_cl, ifle_t, ifle_f, iflt_t, iflt_f, ifeq_t, ifeq_f, ifne_t, ifne_f, ifm_f, ifm_t, iflm_f, ifm0_t, ifm0_f, ob, g1n, g0n, ↓reduceIte, not_true_eq_false, not_false_eq_true, f_X5_needCell, f_X0_hasCell]
        rw [q1] at hm
        simp (disch := omega) only [q0, q1, q2, q3, q4, q5, q7, q9, q10, q16, q30, q48, q57, q60, q99, q255, q300, q4096, pk_mul, nI_add, pk_sub, n_gin, n_cl, ifle_t, ifle_f, iflt_t, iflt_f, ifeq_t, ifeq_f, ifne_t, ifne_f, ifm_f, ifm_t, iflm_f, ifm0_t, ifm0_f, ob, g1n, g0n, ↓reduceIte, not_true_eq_false, not_false_eq_true, f_X0_hasSymbol, f_X6_answer, f_X6_isCell, f_X6_cells, f_X6_answer_J15, f_X6_throwsIf, if_neg hm, if_pos h2, f_X6_isSymbol, f_X6_answer_J41]
        exact ⟨trivial, _, rfl, rfl, SS _⟩
      · refine Or.inr (Or.inr ?_)
        refine ⟨?_, hm, ?_⟩
        · simp (disch := omega) only [q0, q1, q2, q3, q4, q5, q7, q9, q10, q16, q30, q48, q57, q60, q99, q255, q300, q4096, pk_mul, nI_add, pk_sub, n_gin, n_cl, ifle_t, ifle_f, iflt_t, iflt_f, ifeq_t, ifeq_f, ifne_t, ifne_f, ifm_f, ifm_t, iflm_f, ifm0_t, ifm0_f, ob, g1n, g0n, ↓reduceIte, not_true_eq_false, not_false_eq_true, f_X5_needCell, f_X0_hasCell]
        rw [q1] at hm
        simp (disch := omega) only [q0, q1, q2, q3, q4, q5, q7, q9, q10, q16, q30, q48, q57, q60, q99, q255, q300, q4096, pk_mul, nI_add, pk_sub, n_gin, n_cl, ifle_t, ifle_f, iflt_t, iflt_f, ifeq_t, ifeq_f, ifne_t, ifne_f, ifm_f, ifm_t, iflm_f, ifm0_t, ifm0_f, ob, g1n, g0n, ↓reduceIte, not_true_eq_false, not_false_eq_true, f_X0_hasSymbol, f_X6_answer, f_X6_isCell, f_X6_cells, f_X6_answer_J15, f_X6_throwsIf, if_neg hm, if_neg (x_neg h2 (by omega)), if_pos h2, f_X6_isSymbol, f_X6_answer_J41]
        exact ⟨trivial, _, rfl, rfl, SS _⟩
      · refine Or.inl ?_
        obtain ⟨r, t, k1, k2, k3, k4, k5⟩ := hgo (Or.inr ⟨y, hy, rfl⟩)
        simp (disch := omega) only [q0, q1, q2, q3, q4, q5, q7, q9, q10, q16, q30, q48, q57, q60, q99, q255, q300, q4096, pk_mul, nI_add, pk_sub, n_gin, n_cl, ifle_t, ifle_f, iflt_t, iflt_f, ifeq_t, ifeq_f, ifne_t, ifne_f, ifm_f, ifm_t, iflm_f, ifm0_t, ifm0_f, ob, g1n, g0n, ↓reduceIte, not_true_eq_false, not_false_eq_true, f_X5_answer, f_X5_needCell, f_X0_hasCell, f_X5_needSymbol, f_X0_hasSymbol, f_X6_answer, f_X6_isCell, f_X6_cells, f_X6_answer_J15, f_X6_throwsIf, f_X6_isSymbol]
        exact ⟨r, t, k1, k2, k3, k4, sim_mk D R k5 L T⟩
