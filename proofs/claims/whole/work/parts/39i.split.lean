/-! PURE PART. by units, by split -/
section SP
variable {N s nl : Nat} {LK LN LS LL JK JN JS JL : Nat → Int32} {Z : Nat → Nat} {C Y B : Nat → Nat → Nat}
def LV (N s nl : Nat) (LK LN LS LL JK JN JS JL : Nat → Int32) (Z : Nat → Nat) (C Y B : Nat → Nat → Nat) : Prop :=
  ∀ i, i < nl → JK i = LK i ∧ JN i = LN i ∧ RowC LS LL i (Z i) (C i) (Y i) (B i) ∧ RowM s JS JL i (Z i) (C i) (Y i) (B i) ∧ OkL N s (Z i) (C i) (Y i) (B i)
theorem Rep.eq {US : Nat → Int32} {M M' : Nat → Nat} (h : Rep N US M') (e : ∀ c, c < N → M c = M' c) : Rep N US M := fun c hc => by rw [e c hc]; exact h c hc
theorem Spec.b {ah r : Nat} {M0 Mf : Nat → Nat} (h : Spec N ah Z C Y B M0 r Mf) : r = 0 ∨ r = 1 := by
  rcases h with ⟨g, _⟩ | ⟨g, _⟩
  · exact Or.inr g
  · exact Or.inl g
/-- both sides go on by units from the same masks -/
theorem b_run (V : LV N s nl LK LN LS LL JK JN JS JL Z C Y B) (hnl : nl ≤ 60) (hN : N ≤ 16) (hs : s ≤ 6) {i : Nat} (hi : i < nl) {US MY : Nat → Int32} {M0 : Nat → Nat} (h0 : ∀ k, k < N → M0 k < 2 ^ s) (h1 : Rep N US M0) (h2 : Rep N MY M0) {F : Nat} (hF : 6000 < F) :
    ∃ r US' MY' Mf, (r = 0 ∨ r = 1) ∧ f_X4_comeToNothing (nI N) (nI s) LS LL F US (nI i) = some (nI r, US') ∧ f_X6_units (nI s) JS JL F (bI (∃ j, j < N ∧ M0 j = 0)) MY (nI i) = some (nI r, MY') ∧
      (r = 0 → Rep N US' Mf ∧ Rep N MY' Mf ∧ ∀ c, c < N → Mf c < 2 ^ s ∧ ¬ Mf c = 0) := by
  obtain ⟨r, Mf, US2, c1, c2, c3⟩ := c_come (N := N) (s := s) (ah := i) hs hN (by omega) (fun j hj => (V j (by omega)).2.2.1) (fun j hj => (V j (by omega)).2.2.2.2) h0 h1 hF
  obtain ⟨r', Mf', MY2, d1, d2, d3⟩ := m_units (N := N) (s := s) (ah := i) hs hN (by omega) (fun j hj => (V j (by omega)).2.2.2.1) (fun j hj => (V j (by omega)).2.2.2.2) h0 h2 hF
  obtain ⟨u1, u2⟩ := c3.uniq d3
  subst u1
  refine ⟨r, US2, MY2, Mf, c3.b, c1, d1, fun hr => ⟨c2, d2.eq (u2 hr), fun c hc => ?_⟩⟩
  rcases c3 with ⟨g, _⟩ | ⟨_, g, _⟩
  · omega
  · have := g c hc
    have h3 := h0 c hc
    refine ⟨?_, this.2.1⟩
    have h4 : Mf c &&& M0 c ≤ M0 c := Nat.and_le_right
    rw [this.1] at h4
    omega
theorem b_refute (V : LV N s nl LK LN LS LL JK JN JS JL Z C Y B) (hnl : nl ≤ 60) (hN : N ≤ 16) (hs : s ≤ 6) (hs1 : 1 ≤ s) {i : Nat} (hi : i < nl) {F : Nat} (hF : 6000 < F) (US MY : Nat → Int32) (mC : Int32) :
    ∃ r US' MY' Mf, (r = 0 ∨ r = 1) ∧ f_X4_refute (nI N) (nI s) LS LL F US (nI i) = some (nI r, US') ∧ f_X6_turned (nI s) JS JL F mC MY (nI i) = some (nI r, MY') ∧
      (r = 0 → Rep N US' Mf ∧ Rep N MY' Mf ∧ ∀ c, c < N → Mf c < 2 ^ s ∧ ¬ Mf c = 0) := by
  obtain ⟨_, _, v3, v4, v5⟩ := V i hi
  obtain ⟨US1, a1, a2⟩ := c_turn hN hs hs1 v3 (by omega) v5 (F := F) (by omega) US
  obtain ⟨MY1, b1, b2⟩ := m_turned hN hs hs1 v4 (by omega) v5 (F := F) (by omega) mC MY
  obtain ⟨r, US2, MY2, Mf, e1, e2, e3, e4⟩ := b_run V hnl hN hs hi (fun k _ => TR_lt _ _) a2 b2 hF
  refine ⟨r, US2, MY2, Mf, e1, ?_, ?_, e4⟩
  · unfold f_X4_refute
    rw [a1, ob, e2, ob]
    rcases e1 with rfl | rfl
    · exact g0n _
    · exact g1n _
  · rw [b1, e3, ob]
theorem m_cp1 (mW mH mS : Int32) (F : Nat) (x1 x2 mC : Int32) (MY : Nat → Int32) : ∀ d k m KP, k + d = 16 → d < m → (∀ c, c < k → KP c = MY c) → ∃ KP2, (∀ c, c < 16 → KP2 c = MY c) ∧ f_X6_bySplit_L33 mW mH mS JN JS JL F m x1 x2 (nI k) mC MY KP = f_X6_bySplit_L59 mW mH mS JN JS JL F F x1 x2 (nI 0) mC MY KP2 := by
  intro d
  induction d with
  | zero =>
    intro k m KP e1 e2 e3
    obtain ⟨m, rfl⟩ : ∃ m', m = m' + 1 := ⟨m - 1, by omega⟩
    refine ⟨KP, fun c hc => e3 c (by omega), ?_⟩
    rw [f_X6_bySplit_L33]
    simp (disch := omega) only [q0, q1, q2, q3, q4, q5, q7, q9, q10, q16, q30, q48, q57, q60, q99, q255, q300, q4096, pk_mul, nI_add, pk_sub, n_gin, n_cl, ifle_t, ifle_f, iflt_t, iflt_f, ifeq_t, ifeq_f, ifne_t, ifne_f, ifm_f, ifm_t, iflm_f, ifm0_t, ifm0_f, ob, g1n, g0n, ↓reduceIte, not_true_eq_false, not_false_eq_true]
  | succ d ih =>
    intro k m KP e1 e2 e3
    obtain ⟨m, rfl⟩ : ∃ m', m = m' + 1 := ⟨m - 1, by omega⟩
    obtain ⟨KP2, i1, i2⟩ := ih (k + 1) m (upd KP k (MY k)) (by omega) (by omega) (fun c hc => by
      by_cases hk : c = k
      · subst hk; exact pk_us
      · rw [pk_un hk]; exact e3 c (by omega))
    refine ⟨KP2, i1, ?_⟩
    rw [f_X6_bySplit_L33]
    simp (disch := omega) only [q0, q1, q2, q3, q4, q5, q7, q9, q10, q16, q30, q48, q57, q60, q99, q255, q300, q4096, pk_mul, nI_add, pk_sub, n_gin, n_cl, ifle_t, ifle_f, iflt_t, iflt_f, ifeq_t, ifeq_f, ifne_t, ifne_f, ifm_f, ifm_t, iflm_f, ifm0_t, ifm0_f, ob, g1n, g0n, ↓reduceIte, not_true_eq_false, not_false_eq_true]
    exact i2
theorem m_cp2 (mW mH mS : Int32) (F : Nat) (k59 : Int32 → Int32 → Int32 → Int32 → (Nat → Int32) → (Nat → Int32) → Option (Int32 × Int32 × (Nat → Int32) × (Nat → Int32))) (x1 x3 mC : Int32) {x2 : Nat} (hx2 : x2 < 16) (KP : Nat → Int32) : ∀ d k m MY, k + d = 16 → d < m → (∀ c, c < k → MY c = KP c) → ∃ MY2, (∀ c, c < 16 → MY2 c = KP c) ∧ f_X6_bySplit_L86 mW mH mS JN JS JL k59 F m x1 (nI x2) x3 (nI k) mC MY KP = Option.bind (f_X6_units mS JS JL F (nI 0) (upd MY2 x2 (nI 1 <<< (x3 &&& 31))) x1) (fun q14 =>
        if ¬ q14.1 = nI 0 then k59 x1 (nI x2) (x3 + nI 1) q14.1 q14.2 KP else some (nI 0, q14.1, q14.2, KP)) := by
  intro d
  induction d with
  | zero =>
    intro k m MY e1 e2 e3
    obtain ⟨m, rfl⟩ : ∃ m', m = m' + 1 := ⟨m - 1, by omega⟩
    refine ⟨MY, fun c hc => e3 c (by omega), ?_⟩
    rw [f_X6_bySplit_L86]
    simp (disch := omega) only [q0, q1, q2, q3, q4, q5, q7, q9, q10, q16, q30, q48, q57, q60, q99, q255, q300, q4096, pk_mul, nI_add, pk_sub, n_gin, n_cl, ifle_t, ifle_f, iflt_t, iflt_f, ifeq_t, ifeq_f, ifne_t, ifne_f, ifm_f, ifm_t, iflm_f, ifm0_t, ifm0_f, ob, g1n, g0n, ↓reduceIte, not_true_eq_false, not_false_eq_true, f_X6_bySplit_J141]
  | succ d ih =>
    intro k m MY e1 e2 e3
    obtain ⟨m, rfl⟩ : ∃ m', m = m' + 1 := ⟨m - 1, by omega⟩
    obtain ⟨MY2, i1, i2⟩ := ih (k + 1) m (upd MY k (KP k)) (by omega) (by omega) (fun c hc => by
      by_cases hk : c = k
      · subst hk; exact pk_us
      · rw [pk_un hk]; exact e3 c (by omega))
    refine ⟨MY2, i1, ?_⟩
    rw [f_X6_bySplit_L86]
    simp (disch := omega) only [q0, q1, q2, q3, q4, q5, q7, q9, q10, q16, q30, q48, q57, q60, q99, q255, q300, q4096, pk_mul, nI_add, pk_sub, n_gin, n_cl, ifle_t, ifle_f, iflt_t, iflt_f, ifeq_t, ifeq_f, ifne_t, ifne_f, ifm_f, ifm_t, iflm_f, ifm0_t, ifm0_f, ob, g1n, g0n, ↓reduceIte, not_true_eq_false, not_false_eq_true]
    exact i2
theorem cl0 : (0 : Int32).toNatClampNeg = 0 ∧ (16 : Int32).toNatClampNeg = 16 := by decide
theorem b_split_L (V : LV N s nl LK LN LS LL JK JN JS JL Z C Y B) (hnl : nl ≤ 60) (hN : N ≤ 16) (hs : s ≤ 6) (hs1 : 1 ≤ s) {i c0 : Nat} (hi : i < nl) (hc : c0 < N) {F : Nat} (hF : 6000 < F) (mW mH : Int32) {UB KP : Nat → Int32} {Mf : Nat → Nat} (hUB : Rep N UB Mf) (hKP : Rep N KP Mf) (hMf : ∀ c, c < N → Mf c < 2 ^ s ∧ ¬ Mf c = 0) :
    ∀ d y m US MY mC, y + d = s → d < m → ∃ r US' MY' mC', (r = 0 ∨ r = 1) ∧ f_X4_refuteBySplit_L27 (nI N) (nI s) LS LL F m (nI i) (nI c0) (nI y) US UB = some (nI r, US', UB) ∧ f_X6_bySplit_L59 mW mH (nI s) JN JS JL F m (nI i) (nI c0) (nI y) mC MY KP = some (nI r, mC', MY', KP) := by
  intro d
  induction d with
  | zero =>
    intro y m US MY mC e1 e2
    obtain ⟨m, rfl⟩ : ∃ m', m = m' + 1 := ⟨m - 1, by omega⟩
    refine ⟨1, US, MY, mC, Or.inr rfl, ?_, ?_⟩
    · rw [f_X4_refuteBySplit_L27]
      simp (disch := omega) only [q0, q1, q2, q3, q4, q5, q7, q9, q10, q16, q30, q48, q57, q60, q99, q255, q300, q4096, pk_mul, nI_add, pk_sub, n_gin, n_cl, ifle_t, ifle_f, iflt_t, iflt_f, ifeq_t, ifeq_f, ifne_t, ifne_f, ifm_f, ifm_t, iflm_f, ifm0_t, ifm0_f, ob, g1n, g0n, ↓reduceIte, not_true_eq_false, not_false_eq_true, f_X0_symbols]
    · rw [f_X6_bySplit_L59]
      simp (disch := omega) only [q0, q1, q2, q3, q4, q5, q7, q9, q10, q16, q30, q48, q57, q60, q99, q255, q300, q4096, pk_mul, nI_add, pk_sub, n_gin, n_cl, ifle_t, ifle_f, iflt_t, iflt_f, ifeq_t, ifeq_f, ifne_t, ifne_f, ifm_f, ifm_t, iflm_f, ifm0_t, ifm0_f, ob, g1n, g0n, ↓reduceIte, not_true_eq_false, not_false_eq_true]
  | succ d ih =>
    intro y m US MY mC e1 e2
    obtain ⟨m, rfl⟩ : ∃ m', m = m' + 1 := ⟨m - 1, by omega⟩
    obtain ⟨u1, u2⟩ := hUB c0 hc
    obtain ⟨k1, k2⟩ := hKP c0 hc
    have hp := nb_pw2 (k := y) (by omega)
    have hp0 := Nat.two_pow_pos y
    have hps : 2 ^ y < 2 ^ s := Nat.pow_lt_pow_right (by omega) (by omega)
    have hp6 := pw_s hs hs1
    have hb := nb_bit (Mf c0) y
    have hsh := tb_shr (a := Mf c0) (k := y) (by omega) (by omega)
    rw [f_X4_refuteBySplit_L27, f_X6_bySplit_L59]
    by_cases ht : (Mf c0).testBit y = true
    · rw [if_pos ht] at hb hsh
      obtain ⟨MY2, m1, m2⟩ := m_cp2 (JN := JN) (JS := JS) (JL := JL) mW mH (nI s) F (f_X6_bySplit_L59 mW mH (nI s) JN JS JL F m) (nI i) (nI y) mC (x2 := c0) (by omega) KP 16 0 F MY (by omega) (by omega) (fun c hc => by omega)
      have hr1 : Rep N (upd (va_cpy UB US 0 0 16) c0 (nI (2 ^ y))) (upN Mf c0 (2 ^ y)) := by
        refine Rep.up (fun c hcN => ?_) (by omega)
        rw [pk_cpy_in (Nat.zero_le _) (by omega)]
        have := hUB c hcN
        rw [show 0 + (c - 0) = c by omega]; exact this
      have hr2 : Rep N (upd MY2 c0 (nI (2 ^ y))) (upN Mf c0 (2 ^ y)) := by
        refine Rep.up (fun c hcN => ?_) (by omega)
        rw [m1 c (by omega)]; exact hKP c hcN
      have hlt : ∀ k, k < N → upN Mf c0 (2 ^ y) k < 2 ^ s := fun k hk => by
        unfold upN
        split
        · exact hps
        · exact (hMf k hk).1
      have hnz : ¬ ∃ j, j < N ∧ upN Mf c0 (2 ^ y) j = 0 := fun ⟨j, hj, h⟩ => by
        unfold upN at h
        by_cases hjc : j = c0
        · rw [if_pos hjc] at h; omega
        · rw [if_neg hjc] at h; exact (hMf j hj).2 h
      obtain ⟨r, US', MY', Mf', g1, g2, g3, _⟩ := b_run V hnl hN hs hi hlt hr1 hr2 hF
      rw [bI_f hnz, q0] at g3
      rcases g1 with rfl | rfl
      · refine ⟨0, US', MY', nI 0, Or.inl rfl, ?_, ?_⟩
        · rw [cl0.1, cl0.2]
          simp (disch := omega) only [q0, q1, q2, q3, q4, q5, q7, q9, q10, q16, q30, q48, q57, q60, q99, q255, q300, q4096, pk_mul, nI_add, pk_sub, n_gin, n_cl, ifle_t, ifle_f, iflt_t, iflt_f, ifeq_t, ifeq_f, ifne_t, ifne_f, ifm_f, ifm_t, iflm_f, ifm0_t, ifm0_f, ob, g1n, g0n, ↓reduceIte, not_true_eq_false, not_false_eq_true, f_X0_symbols, u1, nb_pow, nb_and, hb, g2]
        · simp (disch := omega) only [q0, q1, q2, q3, q4, q5, q7, q9, q10, q16, q30, q48, q57, q60, q99, q255, q300, q4096, pk_mul, nI_add, pk_sub, n_gin, n_cl, ifle_t, ifle_f, iflt_t, iflt_f, ifeq_t, ifeq_f, ifne_t, ifne_f, ifm_f, ifm_t, iflm_f, ifm0_t, ifm0_f, ob, g1n, g0n, ↓reduceIte, not_true_eq_false, not_false_eq_true, k1, hsh, m2, nb_pow, g3]
      · obtain ⟨r', US2, MY3, mC', j1, j2, j3⟩ := ih (y + 1) m US' MY' (nI 1) (by omega) (by omega)
        refine ⟨r', US2, MY3, mC', j1, ?_, ?_⟩
        · rw [cl0.1, cl0.2]
          simp (disch := omega) only [q0, q1, q2, q3, q4, q5, q7, q9, q10, q16, q30, q48, q57, q60, q99, q255, q300, q4096, pk_mul, nI_add, pk_sub, n_gin, n_cl, ifle_t, ifle_f, iflt_t, iflt_f, ifeq_t, ifeq_f, ifne_t, ifne_f, ifm_f, ifm_t, iflm_f, ifm0_t, ifm0_f, ob, g1n, g0n, ↓reduceIte, not_true_eq_false, not_false_eq_true, f_X0_symbols, u1, nb_pow, nb_and, hb, g2, f_X4_refuteBySplit_J88]
          exact j2
        · simp (disch := omega) only [q0, q1, q2, q3, q4, q5, q7, q9, q10, q16, q30, q48, q57, q60, q99, q255, q300, q4096, pk_mul, nI_add, pk_sub, n_gin, n_cl, ifle_t, ifle_f, iflt_t, iflt_f, ifeq_t, ifeq_f, ifne_t, ifne_f, ifm_f, ifm_t, iflm_f, ifm0_t, ifm0_f, ob, g1n, g0n, ↓reduceIte, not_true_eq_false, not_false_eq_true, k1, hsh, m2, nb_pow, g3]
          exact j3
    · rw [if_neg ht] at hb hsh
      obtain ⟨r', US2, MY3, mC', j1, j2, j3⟩ := ih (y + 1) m US MY mC (by omega) (by omega)
      refine ⟨r', US2, MY3, mC', j1, ?_, ?_⟩
      · simp (disch := omega) only [q0, q1, q2, q3, q4, q5, q7, q9, q10, q16, q30, q48, q57, q60, q99, q255, q300, q4096, pk_mul, nI_add, pk_sub, n_gin, n_cl, ifle_t, ifle_f, iflt_t, iflt_f, ifeq_t, ifeq_f, ifne_t, ifne_f, ifm_f, ifm_t, iflm_f, ifm0_t, ifm0_f, ob, g1n, g0n, ↓reduceIte, not_true_eq_false, not_false_eq_true, f_X0_symbols, u1, nb_pow, nb_and, hb, f_X4_refuteBySplit_J88]
        exact j2
      · simp (disch := omega) only [q0, q1, q2, q3, q4, q5, q7, q9, q10, q16, q30, q48, q57, q60, q99, q255, q300, q4096, pk_mul, nI_add, pk_sub, n_gin, n_cl, ifle_t, ifle_f, iflt_t, iflt_f, ifeq_t, ifeq_f, ifne_t, ifne_f, ifm_f, ifm_t, iflm_f, ifm0_t, ifm0_f, ob, g1n, g0n, ↓reduceIte, not_true_eq_false, not_false_eq_true, k1, hsh, f_X6_bySplit_J141]
        exact j3
theorem b_split (V : LV N s nl LK LN LS LL JK JN JS JL Z C Y B) (hnl : nl ≤ 60) {w h : Nat} (hN : w * h ≤ 16) (hNe : N = w * h) (hs : s ≤ 6) (hs1 : 1 ≤ s) {i c0 : Nat} (hi : i < nl) (hc : c0 < N) (hJ : JN i = nI c0) {F : Nat} (hF : 6000 < F) (US UB MY KP : Nat → Int32) (mC : Int32) :
    ∃ r US' UB' MY' KP' mC', (r = 0 ∨ r = 1) ∧ f_X4_refuteBySplit (nI N) (nI s) LS LL F US UB (nI i) (nI c0) = some (nI r, US', UB') ∧ f_X6_bySplit (nI w) (nI h) (nI s) JN JS JL F mC MY KP (nI i) = some (nI r, mC', MY', KP') := by
  subst hNe
  obtain ⟨r, US1, MY1, Mf, a1, a2, a3, a4⟩ := b_refute V hnl hN hs hs1 hi hF US MY mC
  have hcell : f_X6_isCell (nI w) (nI h) (nI c0) = some (nI 1) := by
    simp (disch := omega) only [q0, q1, q2, q3, q4, q5, q7, q9, q10, q16, q30, q48, q57, q60, q99, q255, q300, q4096, pk_mul, nI_add, pk_sub, n_gin, n_cl, ifle_t, ifle_f, iflt_t, iflt_f, ifeq_t, ifeq_f, ifne_t, ifne_f, ifm_f, ifm_t, iflm_f, ifm0_t, ifm0_f, ob, g1n, g0n, ↓reduceIte, not_true_eq_false, not_false_eq_true, f_X6_isCell, f_X6_cells]
  unfold f_X4_refuteBySplit f_X6_bySplit
  rcases a1 with rfl | rfl
  · obtain ⟨m1, m2, m3⟩ := a4 rfl
    obtain ⟨KP2, k1, k2⟩ := m_cp1 (JN := JN) (JS := JS) (JL := JL) (nI w) (nI h) (nI s) F (nI i) (nI c0) (nI 0) MY1 16 0 F KP (by omega) (by omega) (fun c hc => by omega)
    have hUB : Rep (w * h) (va_cpy US1 UB 0 0 16) Mf := fun c hcN => by
      rw [pk_cpy_in (Nat.zero_le _) (by omega), show 0 + (c - 0) = c by omega]; exact m1 c hcN
    have hKP : Rep (w * h) KP2 Mf := fun c hcN => by rw [k1 c (by omega)]; exact m2 c hcN
    obtain ⟨r', US2, MY2, mC', j1, j2, j3⟩ := b_split_L V hnl hN hs hs1 hi hc hF (nI w) (nI h) hUB hKP m3 s 0 F US1 MY1 (nI 0) (by omega) (by omega)
    refine ⟨r', US2, va_cpy US1 UB 0 0 16, MY2, KP2, mC', j1, ?_, ?_⟩
    · rw [cl0.1, cl0.2]
      simp (disch := omega) only [q0, q1, q2, q3, q4, q5, q7, q9, q10, q16, q30, q48, q57, q60, q99, q255, q300, q4096, pk_mul, nI_add, pk_sub, n_gin, n_cl, ifle_t, ifle_f, iflt_t, iflt_f, ifeq_t, ifeq_f, ifne_t, ifne_f, ifm_f, ifm_t, iflm_f, ifm0_t, ifm0_f, ob, g1n, g0n, ↓reduceIte, not_true_eq_false, not_false_eq_true, a2]
      exact j2
    · simp (disch := omega) only [q0, q1, q2, q3, q4, q5, q7, q9, q10, q16, q30, q48, q57, q60, q99, q255, q300, q4096, pk_mul, nI_add, pk_sub, n_gin, n_cl, ifle_t, ifle_f, iflt_t, iflt_f, ifeq_t, ifeq_f, ifne_t, ifne_f, ifm_f, ifm_t, iflm_f, ifm0_t, ifm0_f, ob, g1n, g0n, ↓reduceIte, not_true_eq_false, not_false_eq_true, hJ, hcell, a3]
      rw [k2]; exact j3
  · refine ⟨1, US1, UB, MY1, KP, nI 1, Or.inr rfl, ?_, ?_⟩
    · simp (disch := omega) only [q0, q1, q2, q3, q4, q5, q7, q9, q10, q16, q30, q48, q57, q60, q99, q255, q300, q4096, pk_mul, nI_add, pk_sub, n_gin, n_cl, ifle_t, ifle_f, iflt_t, iflt_f, ifeq_t, ifeq_f, ifne_t, ifne_f, ifm_f, ifm_t, iflm_f, ifm0_t, ifm0_f, ob, g1n, g0n, ↓reduceIte, not_true_eq_false, not_false_eq_true, a2]
    · simp (disch := omega) only [q0, q1, q2, q3, q4, q5, q7, q9, q10, q16, q30, q48, q57, q60, q99, q255, q300, q4096, pk_mul, nI_add, pk_sub, n_gin, n_cl, ifle_t, ifle_f, iflt_t, iflt_f, ifeq_t, ifeq_f, ifne_t, ifne_f, ifm_f, ifm_t, iflm_f, ifm0_t, ifm0_f, ob, g1n, g0n, ↓reduceIte, not_true_eq_false, not_false_eq_true, hJ, hcell, a3]
end SP
