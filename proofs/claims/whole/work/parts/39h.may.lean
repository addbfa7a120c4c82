/-! PURE PART. from the start: all symbols, the line turned round; may, by units, by split -/
section WH
variable {N s : Nat} {US MY LS LL JS JL : Nat → Int32}
theorem pw_s {s : Nat} (hs : s ≤ 6) (h1 : 1 ≤ s) : 2 ≤ 2 ^ s ∧ 2 ^ s ≤ 64 := by
  have a := Nat.pow_le_pow_right (n := 2) (by omega) h1
  have b := Nat.pow_le_pow_right (n := 2) (by omega) hs
  omega
theorem c_whole_L (hN : N ≤ 16) (hs : s ≤ 6) (h1 : 1 ≤ s) (F : Nat) : ∀ d k m US, k + d = N → d < m → (∀ c, c < k → US c = nI (2 ^ s - 1)) → ∃ US', f_X4_startWhole_L2 (nI N) (nI s) F m (nI k) US = some US' ∧ Rep N US' (fun _ => 2 ^ s - 1) := by
  have hp := pw_s hs h1
  intro d
  induction d with
  | zero =>
    intro k m US e1 e2 e3
    obtain ⟨m, rfl⟩ : ∃ m', m = m' + 1 := ⟨m - 1, by omega⟩
    refine ⟨US, ?_, fun c hc => ⟨e3 c (by omega), by show 2 ^ s - 1 < 64; omega⟩⟩
    rw [f_X4_startWhole_L2]
    simp (disch := omega) only [q0, q1, q2, q3, q4, q5, q7, q9, q10, q16, q30, q48, q57, q60, q99, q255, q300, q4096, pk_mul, nI_add, pk_sub, n_gin, n_cl, ifle_t, ifle_f, iflt_t, iflt_f, ifeq_t, ifeq_f, ifne_t, ifne_f, ifm_f, ifm_t, iflm_f, ifm0_t, ifm0_f, ob, g1n, g0n, ↓reduceIte, not_true_eq_false, not_false_eq_true, f_X0_cells]
  | succ d ih =>
    intro k m US e1 e2 e3
    obtain ⟨m, rfl⟩ : ∃ m', m = m' + 1 := ⟨m - 1, by omega⟩
    rw [f_X4_startWhole_L2]
    simp (disch := omega) only [q0, q1, q2, q3, q4, q5, q7, q9, q10, q16, q30, q48, q57, q60, q99, q255, q300, q4096, pk_mul, nI_add, pk_sub, n_gin, n_cl, ifle_t, ifle_f, iflt_t, iflt_f, ifeq_t, ifeq_f, ifne_t, ifne_f, ifm_f, ifm_t, iflm_f, ifm0_t, ifm0_f, ob, g1n, g0n, ↓reduceIte, not_true_eq_false, not_false_eq_true, f_X0_cells, f_X0_allSymbols, nb_pow]
    refine ih (k + 1) m _ (by omega) (by omega) (fun c hc => ?_)
    by_cases hk : c = k
    · subst hk; exact pk_us
    · rw [pk_un hk]; exact e3 c (by omega)
theorem c_whole (hN : N ≤ 16) (hs : s ≤ 6) (h1 : 1 ≤ s) {F : Nat} (hF : 20 < F) (US : Nat → Int32) : ∃ US', f_X4_startWhole (nI N) (nI s) F US = some US' ∧ Rep N US' (fun _ => 2 ^ s - 1) :=
  c_whole_L hN hs h1 F N 0 F US (by omega) (by omega) (fun c hc => by omega)
theorem m_all_L (hN : N ≤ 16) (hs : s ≤ 6) (h1 : 1 ≤ s) (F : Nat) (mC : Int32) : ∀ d k m US, k + d = 16 → d < m → (∀ c, c < k → US c = nI (2 ^ s - 1)) → ∃ US', f_X6_all_L7 (nI s) F m (nI k) mC US = some (mC, US') ∧ Rep N US' (fun _ => 2 ^ s - 1) := by
  have hp := pw_s hs h1
  intro d
  induction d with
  | zero =>
    intro k m US e1 e2 e3
    obtain ⟨m, rfl⟩ : ∃ m', m = m' + 1 := ⟨m - 1, by omega⟩
    refine ⟨US, ?_, fun c hc => ⟨e3 c (by omega), by show 2 ^ s - 1 < 64; omega⟩⟩
    rw [f_X6_all_L7]
    simp (disch := omega) only [q0, q1, q2, q3, q4, q5, q7, q9, q10, q16, q30, q48, q57, q60, q99, q255, q300, q4096, pk_mul, nI_add, pk_sub, n_gin, n_cl, ifle_t, ifle_f, iflt_t, iflt_f, ifeq_t, ifeq_f, ifne_t, ifne_f, ifm_f, ifm_t, iflm_f, ifm0_t, ifm0_f, ob, g1n, g0n, ↓reduceIte, not_true_eq_false, not_false_eq_true]
  | succ d ih =>
    intro k m US e1 e2 e3
    obtain ⟨m, rfl⟩ : ∃ m', m = m' + 1 := ⟨m - 1, by omega⟩
    rw [f_X6_all_L7]
    simp (disch := omega) only [q0, q1, q2, q3, q4, q5, q7, q9, q10, q16, q30, q48, q57, q60, q99, q255, q300, q4096, pk_mul, nI_add, pk_sub, n_gin, n_cl, ifle_t, ifle_f, iflt_t, iflt_f, ifeq_t, ifeq_f, ifne_t, ifne_f, ifm_f, ifm_t, iflm_f, ifm0_t, ifm0_f, ob, g1n, g0n, ↓reduceIte, not_true_eq_false, not_false_eq_true, nb_pow]
    refine ih (k + 1) m _ (by omega) (by omega) (fun c hc => ?_)
    by_cases hk : c = k
    · subst hk; exact pk_us
    · rw [pk_un hk]; exact e3 c (by omega)
theorem m_all (hN : N ≤ 16) (hs : s ≤ 6) (h1 : 1 ≤ s) {F : Nat} (hF : 20 < F) (mC : Int32) (MY : Nat → Int32) : ∃ MY', f_X6_all (nI s) F mC MY = some (nI 0, MY') ∧ Rep N MY' (fun _ => 2 ^ s - 1) := by
  unfold f_X6_all
  rw [q0]
  exact m_all_L hN hs h1 F _ 16 0 F MY (by omega) (by omega) (fun c hc => by omega)
/-- the masks behind the first k literals of a line turned round -/
def TR (s : Nat) (c y b : Nat → Nat) : Nat → Nat → Nat
  | 0 => fun _ => 2 ^ s - 1
  | k + 1 => upN (TR s c y b k) (c k) (nar (TR s c y b k (c k)) (y k) (1 - b k))
theorem nar_le (m y b : Nat) : nar m y b ≤ m := by
  unfold nar
  split
  · exact Nat.and_le_left
  · exact Nat.and_le_left
theorem TR_lt {c y b : Nat → Nat} : ∀ k j, TR s c y b k j < 2 ^ s := by
  intro k
  induction k with
  | zero => intro j; show 2 ^ s - 1 < 2 ^ s; have := Nat.two_pow_pos s; omega
  | succ k ih =>
    intro j
    show upN _ _ _ _ < _
    unfold upN
    split
    · have := nar_le (TR s c y b k (c k)) (y k) (1 - b k)
      have := ih (c k)
      omega
    · exact ih j
theorem nar_0 (y b : Nat) : nar 0 y b = 0 := by
  have := nar_le 0 y b; omega
theorem TR_zero {c y b : Nat → Nat} {k : Nat} (hc : c k < N) : ((∃ j, j < N ∧ TR s c y b k j = 0) ∨ nar (TR s c y b k (c k)) (y k) (1 - b k) = 0) ↔ ∃ j, j < N ∧ TR s c y b (k + 1) j = 0 := by
  constructor
  · rintro (⟨j, h1, h2⟩ | h)
    · refine ⟨j, h1, ?_⟩
      show upN _ _ _ _ = 0
      unfold upN
      by_cases hj : j = c k
      · rw [if_pos hj, ← hj, h2, nar_0]
      · rw [if_neg hj, h2]
    · refine ⟨c k, hc, ?_⟩
      show upN _ _ _ _ = 0
      unfold upN
      rw [if_pos rfl, h]
  · rintro ⟨j, h1, h2⟩
    have h2 : upN (TR s c y b k) (c k) (nar (TR s c y b k (c k)) (y k) (1 - b k)) j = 0 := h2
    unfold upN at h2
    by_cases hj : j = c k
    · rw [if_pos hj] at h2; exact Or.inr h2
    · rw [if_neg hj] at h2; exact Or.inl ⟨j, h1, h2⟩
variable {i z : Nat} {c y b : Nat → Nat}
theorem c_turn_L (hN : N ≤ 16) (hs : s ≤ 6) (R : RowC LS LL i z c y b) (hi : i < 61) (O : OkL N s z c y b) (gc gs : Int32) (F : Nat) :
    ∀ d k m US, k + d = z → d < m → Rep N US (TR s c y b k) → ∃ US', f_X4_turnRound_L6 gc gs LS LL F m (nI i) (nI k) US = some US' ∧ Rep N US' (TR s c y b z) := by
  have hz := O.1
  intro d
  induction d with
  | zero =>
    intro k m US e1 e2 e3
    obtain ⟨m, rfl⟩ : ∃ m', m = m' + 1 := ⟨m - 1, by omega⟩
    obtain rfl : k = z := by omega
    refine ⟨US, ?_, e3⟩
    rw [f_X4_turnRound_L6]
    simp (disch := omega) only [q0, q1, q2, q3, q4, q5, q7, q9, q10, q16, q30, q48, q57, q60, q99, q255, q300, q4096, pk_mul, nI_add, pk_sub, n_gin, n_cl, ifle_t, ifle_f, iflt_t, iflt_f, ifeq_t, ifeq_f, ifne_t, ifne_f, ifm_f, ifm_t, iflm_f, ifm0_t, ifm0_f, ob, g1n, g0n, ↓reduceIte, not_true_eq_false, not_false_eq_true, l_sizeOf R hi]
  | succ d ih =>
    intro k m US e1 e2 e3
    obtain ⟨m, rfl⟩ : ∃ m', m = m' + 1 := ⟨m - 1, by omega⟩
    have hk := O.2.1 k (by omega)
    have eC := e_litC (c k) (by omega) (y k) (by omega) (b k) (by omega)
    have eN := c_narrow e3 hN (c := c k) (y := y k) (b := b k) (b' := 1 - b k) (by omega) (by omega) (by omega) (by omega)
    have h64 := (f_4 (y k) (by omega) (1 - b k) (by omega) _ (e3 (c k) hk.1).2).1
    obtain ⟨US', i1, i2⟩ := ih (k + 1) m _ (by omega) (by omega) (e3.up (c := c k) h64)
    refine ⟨US', ?_, i2⟩
    rw [f_X4_turnRound_L6]
    by_cases hb : b k = 0
    · rw [hb] at eN eC i1
      simp (disch := omega) only [q0, q1, q2, q3, q4, q5, q7, q9, q10, q16, q30, q48, q57, q60, q99, q255, q300, q4096, pk_mul, nI_add, pk_sub, n_gin, n_cl, ifle_t, ifle_f, iflt_t, iflt_f, ifeq_t, ifeq_f, ifne_t, ifne_f, ifm_f, ifm_t, iflm_f, ifm0_t, ifm0_f, ob, g1n, g0n, ↓reduceIte, not_true_eq_false, not_false_eq_true, l_sizeOf R hi, l_litAt R hi hz (show k < z by omega), hb, eC.2.2.2, f_X4_turnRound_J42]
      rw [show f_X4_narrow US (nI (16 * c k + 2 * y k + 0)) (nI 1) = _ from eN]
      exact i1
    · have hb1 : b k = 1 := by omega
      rw [hb1] at eN eC i1
      simp (disch := omega) only [q0, q1, q2, q3, q4, q5, q7, q9, q10, q16, q30, q48, q57, q60, q99, q255, q300, q4096, pk_mul, nI_add, pk_sub, n_gin, n_cl, ifle_t, ifle_f, iflt_t, iflt_f, ifeq_t, ifeq_f, ifne_t, ifne_f, ifm_f, ifm_t, iflm_f, ifm0_t, ifm0_f, ob, g1n, g0n, ↓reduceIte, not_true_eq_false, not_false_eq_true, l_sizeOf R hi, l_litAt R hi hz (show k < z by omega), hb1, eC.2.2.2, f_X4_turnRound_J42]
      rw [show f_X4_narrow US (nI (16 * c k + 2 * y k + 1)) (nI 0) = _ from eN]
      exact i1
theorem c_turn (hN : N ≤ 16) (hs : s ≤ 6) (h1 : 1 ≤ s) (R : RowC LS LL i z c y b) (hi : i < 61) (O : OkL N s z c y b) {F : Nat} (hF : 20 < F) (US : Nat → Int32) :
    ∃ US', f_X4_turnRound (nI N) (nI s) LS LL F US (nI i) = some US' ∧ Rep N US' (TR s c y b z) := by
  have hz := O.1
  obtain ⟨US1, a1, a2⟩ := c_whole hN hs h1 hF US
  obtain ⟨US2, b1, b2⟩ := c_turn_L hN hs R hi O (nI N) (nI s) F z 0 F US1 (by omega) (by omega) a2
  refine ⟨US2, ?_, b2⟩
  unfold f_X4_turnRound
  rw [a1, ob, q0]; exact b1
theorem m_turn_L (hN : N ≤ 16) (hs : s ≤ 6) (R : RowM s JS JL i z c y b) (hi : i < 120) (O : OkL N s z c y b) (F : Nat) :
    ∀ d k m MY, k + d = z → d < m → Rep N MY (TR s c y b k) → ∃ MY', f_X6_turned_L6 (nI s) JS JL F m (nI i) (nI k) (bI (∃ j, j < N ∧ TR s c y b k j = 0)) MY = Option.bind (f_X6_units (nI s) JS JL F (bI (∃ j, j < N ∧ TR s c y b z j = 0)) MY' (nI i)) (fun q4 => some (q4.1, q4.2)) ∧ Rep N MY' (TR s c y b z) := by
  have hz := O.1
  have hr := R.1
  intro d
  induction d with
  | zero =>
    intro k m MY e1 e2 e3
    obtain ⟨m, rfl⟩ : ∃ m', m = m' + 1 := ⟨m - 1, by omega⟩
    obtain rfl : k = z := by omega
    refine ⟨MY, ?_, e3⟩
    rw [f_X6_turned_L6]
    simp (disch := omega) only [q0, q1, q2, q3, q4, q5, q7, q9, q10, q16, q30, q48, q57, q60, q99, q255, q300, q4096, pk_mul, nI_add, pk_sub, n_gin, n_cl, ifle_t, ifle_f, iflt_t, iflt_f, ifeq_t, ifeq_f, ifne_t, ifne_f, ifm_f, ifm_t, iflm_f, ifm0_t, ifm0_f, ob, g1n, g0n, ↓reduceIte, not_true_eq_false, not_false_eq_true, hr]
  | succ d ih =>
    intro k m MY e1 e2 e3
    obtain ⟨m, rfl⟩ : ∃ m', m = m' + 1 := ⟨m - 1, by omega⟩
    have hk := O.2.1 k (by omega)
    have eL := e_litM s (by omega) (c k) (by omega) (y k) (by omega) (b k) (by omega)
    have eM := m_make e3 hN hs (c := c k) (y := y k) (b := 1 - b k) (by omega) (by omega) (by omega) (∃ j, j < N ∧ TR s c y b k j = 0)
    have h64 := (f_4 (y k) (by omega) (1 - b k) (by omega) _ (e3 (c k) hk.1).2).1
    obtain ⟨MY', i1, i2⟩ := ih (k + 1) m _ (by omega) (by omega) (e3.up (c := c k) h64)
    refine ⟨MY', ?_, i2⟩
    rw [bI_c (TR_zero hk.1)] at eM
    rw [f_X6_turned_L6]
    simp (disch := omega) only [q0, q1, q2, q3, q4, q5, q7, q9, q10, q16, q30, q48, q57, q60, q99, q255, q300, q4096, pk_mul, nI_add, pk_sub, n_gin, n_cl, ifle_t, ifle_f, iflt_t, iflt_f, ifeq_t, ifeq_f, ifne_t, ifne_f, ifm_f, ifm_t, iflm_f, ifm0_t, ifm0_f, ob, g1n, g0n, ↓reduceIte, not_true_eq_false, not_false_eq_true, hr, R.2 k (show k < z by omega), eL.2.2.2.2.2, eM]
    exact i1
theorem m_turned (hN : N ≤ 16) (hs : s ≤ 6) (h1 : 1 ≤ s) (R : RowM s JS JL i z c y b) (hi : i < 120) (O : OkL N s z c y b) {F : Nat} (hF : 20 < F) (mC : Int32) (MY : Nat → Int32) :
    ∃ MY', f_X6_turned (nI s) JS JL F mC MY (nI i) = Option.bind (f_X6_units (nI s) JS JL F (bI (∃ j, j < N ∧ TR s c y b z j = 0)) MY' (nI i)) (fun q4 => some (q4.1, q4.2)) ∧ Rep N MY' (TR s c y b z) := by
  have hz := O.1
  have hp := pw_s hs h1
  obtain ⟨MY1, a1, a2⟩ := m_all hN hs h1 hF mC MY
  obtain ⟨MY2, b1, b2⟩ := m_turn_L hN hs R hi O F z 0 F MY1 (by omega) (by omega) a2
  refine ⟨MY2, ?_, b2⟩
  unfold f_X6_turned
  rw [a1, ob, q0]
  rw [bI_f (fun ⟨j, _, h⟩ => by
    have h : 2 ^ s - 1 = 0 := h
    omega), q0] at b1
  exact b1
end WH
theorem lines_fn {N s nl : Nat} {LK LN LS LL JK JN JS JL : Nat → Int32} (hL : ∀ i, i < nl → Lin N s LK LN LS LL JK JN JS JL i i) : ∃ (Z : Nat → Nat) (C Y B : Nat → Nat → Nat), ∀ i, i < nl → JK i = LK i ∧ JN i = LN i ∧ RowC LS LL i (Z i) (C i) (Y i) (B i) ∧ RowM s JS JL i (Z i) (C i) (Y i) (B i) ∧ OkL N s (Z i) (C i) (Y i) (B i) := by
  have h2 : ∀ i, ∃ p : Nat × (Nat → Nat) × (Nat → Nat) × (Nat → Nat), i < nl → JK i = LK i ∧ JN i = LN i ∧ RowC LS LL i p.1 p.2.1 p.2.2.1 p.2.2.2 ∧ RowM s JS JL i p.1 p.2.1 p.2.2.1 p.2.2.2 ∧ OkL N s p.1 p.2.1 p.2.2.1 p.2.2.2 := by
    intro i
    by_cases hi : i < nl
    · obtain ⟨a, b, z, c, y, bb, d, e, f⟩ := hL i hi
      exact ⟨(z, c, y, bb), fun _ => ⟨a, b, d, e, f⟩⟩
    · exact ⟨(0, fun _ => 0, fun _ => 0, fun _ => 0), fun h => absurd h hi⟩
  exact ⟨fun i => (Classical.choose (h2 i)).1, fun i => (Classical.choose (h2 i)).2.1, fun i => (Classical.choose (h2 i)).2.2.1, fun i => (Classical.choose (h2 i)).2.2.2, fun i hi => Classical.choose_spec (h2 i) hi⟩
set_option maxHeartbeats 4000000 in
theorem P_may (gw gc gs ge gf cR cL cB pB : Int32) (SD RK RN RS RC RT LK LN LS LL US UB BB : Nat → Int32) (mT mW mH mS mR mL mC mZ mA mB : Int32) (KK KN KS KC AN JK JN JS JL MY KP FI TX : Nat → Int32) (hs : Sim gw gc gs ge gf cR cL cB pB SD RK RN RS RC RT LK LN LS LL US UB BB mT mW mH mS mR mL mC mZ mA mB KK KN KS KC AN JK JN JS JL MY KP FI TX) (x1 : Int32) : (∃ (r : Int32 × (Nat → Int32)) (t : Int32 × Int32 × Int32 × (Nat → Int32)), f_X5_may gc gs cL LS LL FF US x1 = some r ∧ f_X6_may mW mH mS mL JS JL FF mT mC MY x1 = some t ∧ t.2.1 = 0 ∧ r.1 = t.1 ∧ Sim gw gc gs ge gf cR cL cB pB SD RK RN RS RC RT LK LN LS LL r.2 UB BB t.2.1 mW mH mS mR mL t.2.2.1 mZ mA mB KK KN KS KC AN JK JN JS JL t.2.2.2 KP FI TX) ∨
  (f_X0_hasCell gc x1 = some 0 ∧ ∃ t : Int32 × Int32 × Int32 × (Nat → Int32), f_X6_may mW mH mS mL JS JL FF mT mC MY x1 = some t ∧ t.2.1 = 1 ∧ Sim gw gc gs ge gf cR cL cB pB SD RK RN RS RC RT LK LN LS LL US UB BB t.2.1 mW mH mS mR mL t.2.2.1 mZ mA mB KK KN KS KC AN JK JN JS JL t.2.2.2 KP FI TX) := by
  obtain ⟨w, h, s, ⟨D0, rfl, rfl, rfl, rfl, rfl, rfl, rfl, rfl⟩, R, A, ⟨nl, hl, rfl, rfl, hL⟩, T⟩ := hs
  have D : Dim (nI w) (nI (w * h)) (nI s) (nI (edgeN w h)) (nI (edgeN w h * 2 ^ (w - 1))) (nI w) (nI h) (nI s) w h s := ⟨D0, rfl, rfl, rfl, rfl, rfl, rfl, rfl, rfl⟩
  have S0 : SLines (w * h) s (nI nl) (nI nl) LK LN LS LL JK JN JS JL := ⟨nl, hl, rfl, rfl, hL⟩
  have SS := fun (mT mC : Int32) (US MY : Nat → Int32) => sim_mk (pB := pB) (RT := RT) (US := US) (UB := UB) (mT := mT) (mC := mC) (mA := mA) (mB := mB) (MY := MY) (KP := KP) (FI := FI) D R A S0 T
  rcases pk_ix x1 (n := w * h) (by omega) with h1 | h1 | ⟨c0, hc, rfl⟩
  · rw [q0] at h1
    refine Or.inr ?_
    simp (disch := omega) only [q0, q1, q2, q3, q4, q5, q7, q9, q10, q16, q30, q48, q57, q60, q99, q255, q300, q4096, pk_mul, nI_add, pk_sub, n_gin, n_cl, ifle_t, ifle_f, iflt_t, iflt_f, ifeq_t, ifeq_f, ifne_t, ifne_f, ifm_f, ifm_t, iflm_f, ifm0_t, ifm0_f, ob, g1n, g0n, ↓reduceIte, not_true_eq_false, not_false_eq_true, f_X0_hasCell, if_pos h1, f_X6_may, f_X6_isCell, f_X6_may_J15, f_X6_throwsIf]
    exact ⟨trivial, _, rfl, rfl, SS _ _ _ _⟩
  · refine Or.inr ?_
    simp (disch := omega) only [q0, q1, q2, q3, q4, q5, q7, q9, q10, q16, q30, q48, q57, q60, q99, q255, q300, q4096, pk_mul, nI_add, pk_sub, n_gin, n_cl, ifle_t, ifle_f, iflt_t, iflt_f, ifeq_t, ifeq_f, ifne_t, ifne_f, ifm_f, ifm_t, iflm_f, ifm0_t, ifm0_f, ob, g1n, g0n, ↓reduceIte, not_true_eq_false, not_false_eq_true, f_X0_hasCell, if_neg (x_neg h1 (by omega)), if_pos h1, f_X6_may, f_X6_isCell, f_X6_cells, f_X6_may_J15, f_X6_throwsIf]
    exact ⟨trivial, _, rfl, rfl, SS _ _ _ _⟩
  have hcell : f_X5_needCell (nI (w * h)) (nI c0) = some () := by
    simp (disch := omega) only [q0, q1, q2, q3, q4, q5, q7, q9, q10, q16, q30, q48, q57, q60, q99, q255, q300, q4096, pk_mul, nI_add, pk_sub, n_gin, n_cl, ifle_t, ifle_f, iflt_t, iflt_f, ifeq_t, ifeq_f, ifne_t, ifne_f, ifm_f, ifm_t, iflm_f, ifm0_t, ifm0_f, ob, g1n, g0n, ↓reduceIte, not_true_eq_false, not_false_eq_true, f_X5_needCell, f_X0_hasCell]
  refine Or.inl ?_
  obtain ⟨Z, C, Y, B, V⟩ := lines_fn hL
  have hp := pw_s (s := s) (by omega) (by omega)
  obtain ⟨US1, a1, a2⟩ := c_whole (N := w * h) (s := s) (by omega) (by omega) (by omega) (F := FF) (by unfold FF; omega) US
  obtain ⟨MY1, b1, b2⟩ := m_all (N := w * h) (s := s) (by omega) (by omega) (by omega) (F := FF) (by unfold FF; omega) mC MY
  have hlt : ∀ k, k < w * h → (fun _ : Nat => 2 ^ s - 1) k < 2 ^ s := fun k _ => by show 2 ^ s - 1 < 2 ^ s; omega
  obtain ⟨r, Mf, US2, c1, c2, c3⟩ := c_come (N := w * h) (s := s) (ah := nl) (by omega) (by omega) hl (fun i hi => (V i hi).2.2.1) (fun i hi => (V i hi).2.2.2.2) hlt a2 (F := FF) (by unfold FF; omega)
  obtain ⟨r', Mf', MY2, d1, d2, d3⟩ := m_units (N := w * h) (s := s) (ah := nl) (by omega) (by omega) hl (fun i hi => (V i hi).2.2.2.1) (fun i hi => (V i hi).2.2.2.2) hlt b2 (F := FF) (by unfold FF; omega)
  rw [bI_f (fun ⟨j, _, h⟩ => by
    have h : 2 ^ s - 1 = 0 := h
    omega), q0] at d1
  obtain ⟨u1, u2⟩ := c3.uniq d3
  subst u1
  have hr : r = 0 ∨ r = 1 := by
    rcases c3 with ⟨g, _⟩ | ⟨g, _⟩
    · exact Or.inr g
    · exact Or.inl g
  rcases hr with rfl | rfl
  · have e1 := (c2 c0 hc).1
    have e2 := (d2 c0 hc).1
    have e3 := u2 rfl c0 hc
    simp (disch := omega) only [q0, q1, q2, q3, q4, q5, q7, q9, q10, q16, q30, q48, q57, q60, q99, q255, q300, q4096, pk_mul, nI_add, pk_sub, n_gin, n_cl, ifle_t, ifle_f, iflt_t, iflt_f, ifeq_t, ifeq_f, ifne_t, ifne_f, ifm_f, ifm_t, iflm_f, ifm0_t, ifm0_f, ob, g1n, g0n, ↓reduceIte, not_true_eq_false, not_false_eq_true, f_X5_may, hcell, a1, f_X1_count, c1, f_X4_symbolsOf, e1, f_X6_may, f_X6_isCell, f_X6_cells, f_X6_may_J15, f_X6_throwsIf, b1, d1, e2]
    exact ⟨_, _, rfl, rfl, rfl, by show nI _ = nI _; rw [e3], SS _ _ _ _⟩
  · simp (disch := omega) only [q0, q1, q2, q3, q4, q5, q7, q9, q10, q16, q30, q48, q57, q60, q99, q255, q300, q4096, pk_mul, nI_add, pk_sub, n_gin, n_cl, ifle_t, ifle_f, iflt_t, iflt_f, ifeq_t, ifeq_f, ifne_t, ifne_f, ifm_f, ifm_t, iflm_f, ifm0_t, ifm0_f, ob, g1n, g0n, ↓reduceIte, not_true_eq_false, not_false_eq_true, f_X5_may, hcell, a1, f_X1_count, c1, f_X6_may, f_X6_isCell, f_X6_cells, f_X6_may_J15, f_X6_throwsIf, b1, d1]
    exact ⟨_, _, rfl, rfl, rfl, rfl, SS _ _ _ _⟩
