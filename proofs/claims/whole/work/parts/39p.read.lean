/-! PURE PART. read -/
section RA
variable {BB TX : Nat → Int32} {nb w h s nl : Nat} {t : Nat → Nat}
theorem Lin.keep {N s : Nat} {LK LN LS LL JK JN JS JL LK' LN' LS' LL' JK' JN' JS' JL' : Nat → Int32} {i j rc rm : Nat} (hi : ¬ i = rc) (hj : ¬ j = rm) (a : ∀ i, ¬ i = rc → LK' i = LK i ∧ LN' i = LN i) (b : ∀ i, ¬ i = rm → JK' i = JK i ∧ JN' i = JN i) (k : Kp LS LL LS' LL' rc) (k' : Kp JS JL JS' JL' rm) (l : Lin N s LK LN LS LL JK JN JS JL i j) : Lin N s LK' LN' LS' LL' JK' JN' JS' JL' i j := by
  obtain ⟨l1, l2, z, c, y, b0, l3, l4, l5⟩ := l
  exact ⟨by rw [(a i hi).1, (b j hj).1, l1], by rw [(a i hi).2, (b j hj).2, l2], z, c, y, b0, l3.keep l5.1 (k.1 i hi) (fun q hq => k.2 i q hi hq), l4.keep l5.1 (k'.1 j hj) (fun q hq => k'.2 j q hj hq), l5⟩
theorem m_copy1 {JK JN : Nat → Int32} {z : Nat} {c y b : Nat → Nat} (O : OkL (w * h) s z c y b) (mW mH mS : Int32) {k r : Nat} (hk : k < 60) (hr : r < 60) (k87 : Int32 → Int32 → Int32 → Int32 → Int32 → Int32 → Int32 → (Nat → Int32) → (Nat → Int32) → (Nat → Int32) → (Nat → Int32) → Option (Int32 × Int32 × Int32 × Int32 × Int32 × Int32 × (Nat → Int32) × (Nat → Int32) × (Nat → Int32) × (Nat → Int32))) (F : Nat) (x1 mT mZ mA mB : Int32) :
    ∀ d j m JS JL, j + d = z → d < m → JS r = nI j → RowM s JS JL (60 + k) z c y b → (∀ i, i < j → JL (16 * r + i) = nI (2 * (s * c i + y i) + b i)) → ∃ JS' JL', Kp JS JL JS' JL' r ∧ RowM s JS' JL' r z c y b ∧ f_X6_read_L120 mW mH mS TX k87 F m x1 (nI k) (nI j) mT (nI r) mZ mA mB JK JN JS JL = k87 x1 (nI (k + 1)) mT (nI (r + 1)) mZ mA mB JK JN JS' JL' := by
  have hz := O.1
  intro d
  induction d with
  | zero =>
    intro j m JS JL e1 e2 e3 e4 e5
    obtain ⟨m, rfl⟩ : ∃ m', m = m' + 1 := ⟨m - 1, by omega⟩
    obtain rfl : j = z := by omega
    refine ⟨JS, JL, Kp.rf, ⟨e3, e5⟩, ?_⟩
    have h0 := e4.1
    rw [f_X6_read_L120]
    simp (disch := omega) only [q0, q1, q2, q3, q4, q5, q7, q9, q10, q16, q30, q48, q57, q60, q99, q255, q300, q4096, pk_mul, nI_add, pk_sub, n_gin, n_cl, ifle_t, ifle_f, iflt_t, iflt_f, ifeq_t, ifeq_f, ifne_t, ifne_f, ifm_f, ifm_t, iflm_f, ifm0_t, ifm0_f, ob, g1n, g0n, ↓reduceIte, not_true_eq_false, not_false_eq_true, q32, q43, q45, q46, q59, q98, q114, q115, q117, if_neg m1_nle, if_pos m1_lt, ifmn_f, ifmn_t, h0]
  | succ d ih =>
    intro j m JS JL e1 e2 e3 e4 e5
    obtain ⟨m, rfl⟩ : ∃ m', m = m' + 1 := ⟨m - 1, by omega⟩
    have h0 := e4.1
    have h1 := e4.2 j (by omega)
    have mA := m_add (s := s) (c := c) (y := y) (b := b) (i := r) (z := j) (JS := JS) (JL := JL) ⟨e3, e5⟩ (by omega) (by omega) (nI (2 * (s * c j + y j) + b j))
    obtain ⟨JS', JL', i1, i2, i3⟩ := ih (j + 1) m (upd JS r (nI (j + 1))) (upd JL (16 * r + j) (nI (2 * (s * c j + y j) + b j))) (by omega) (by omega) pk_us (e4.keep hz (pk_un (by omega)) (fun q hq => pk_un (by omega))) (fun i hi => by
      by_cases hij : i = j
      · subst hij; exact pk_us
      · rw [pk_un (by omega)]; exact e5 i (by omega))
    refine ⟨JS', JL', (Kp.up (by omega) _ _).trans i1, i2, ?_⟩
    rw [f_X6_read_L120]
    simp (disch := omega) only [q0, q1, q2, q3, q4, q5, q7, q9, q10, q16, q30, q48, q57, q60, q99, q255, q300, q4096, pk_mul, nI_add, pk_sub, n_gin, n_cl, ifle_t, ifle_f, iflt_t, iflt_f, ifeq_t, ifeq_f, ifne_t, ifne_f, ifm_f, ifm_t, iflm_f, ifm0_t, ifm0_f, ob, g1n, g0n, ↓reduceIte, not_true_eq_false, not_false_eq_true, q32, q43, q45, q46, q59, q98, q114, q115, q117, if_neg m1_nle, if_pos m1_lt, ifmn_f, ifmn_t, h0, h1, mA]
    exact i3
theorem m_copy {LK LN LS LL : Nat → Int32} (mW mH mS : Int32) {n' : Nat} (hn' : nl + n' ≤ 60) {F : Nat} (hF : 100 < F) (mT mZ mA mB : Int32) :
    ∀ d k m JK JN JS JL, k + d = n' → d < m → (∀ i, i < nl + k → Lin (w * h) s LK LN LS LL JK JN JS JL i i) → (∀ i, k ≤ i → i < n' → Lin (w * h) s LK LN LS LL JK JN JS JL (nl + i) (60 + i)) →
    ∃ JK' JN' JS' JL', f_X6_read_L87 mW mH mS TX F m (nI n') (nI k) mT (nI (nl + k)) mZ mA mB JK JN JS JL = some (nI n', mT, nI (nl + n'), mZ, mA, mB, JK', JN', JS', JL') ∧ ∀ i, i < nl + n' → Lin (w * h) s LK LN LS LL JK' JN' JS' JL' i i := by
  intro d
  induction d with
  | zero =>
    intro k m JK JN JS JL e1 e2 e3 e4
    obtain ⟨m, rfl⟩ : ∃ m', m = m' + 1 := ⟨m - 1, by omega⟩
    obtain rfl : k = n' := by omega
    refine ⟨JK, JN, JS, JL, ?_, e3⟩
    rw [f_X6_read_L87]
    simp (disch := omega) only [q0, q1, q2, q3, q4, q5, q7, q9, q10, q16, q30, q48, q57, q60, q99, q255, q300, q4096, pk_mul, nI_add, pk_sub, n_gin, n_cl, ifle_t, ifle_f, iflt_t, iflt_f, ifeq_t, ifeq_f, ifne_t, ifne_f, ifm_f, ifm_t, iflm_f, ifm0_t, ifm0_f, ob, g1n, g0n, ↓reduceIte, not_true_eq_false, not_false_eq_true, q32, q43, q45, q46, q59, q98, q114, q115, q117, if_neg m1_nle, if_pos m1_lt, ifmn_f, ifmn_t]
  | succ d ih =>
    intro k m JK JN JS JL e1 e2 e3 e4
    obtain ⟨m, rfl⟩ : ∃ m', m = m' + 1 := ⟨m - 1, by omega⟩
    obtain ⟨l1, l2, z, c, y, b, l3, l4, l5⟩ := e4 k (Nat.le_refl _) (by omega)
    have kp0 : Kp JS JL (upd JS (nl + k) (nI 0)) JL (nl + k) := ⟨fun i hi => pk_un hi, fun _ _ _ _ => rfl⟩
    obtain ⟨JS', JL', i1, i2, i3⟩ := m_copy1 (JK := upd JK (nl + k) (JK (60 + k))) (JN := upd JN (nl + k) (JN (60 + k))) (TX := TX) l5 mW mH mS (k := k) (r := nl + k) (by omega) (by omega) (f_X6_read_L87 mW mH mS TX F m) F (nI n') mT mZ mA mB z 0 F (upd JS (nl + k) (nI 0)) JL (by omega) (by have := l5.1; omega) pk_us (l4.keep l5.1 (pk_un (by omega)) (fun _ _ => rfl)) (fun i hi => by omega)
    have ha : ∀ i, ¬ i = nl + k → upd JK (nl + k) (JK (60 + k)) i = JK i ∧ upd JN (nl + k) (JN (60 + k)) i = JN i := fun i hi => ⟨pk_un hi, pk_un hi⟩
    have hnone : ∀ i, ¬ i = 1000000 → LK i = LK i ∧ LN i = LN i := fun _ _ => ⟨rfl, rfl⟩
    obtain ⟨JK2, JN2, JS2, JL2, j1, j2⟩ := ih (k + 1) m _ _ JS' JL' (by omega) (by omega) (fun i hi => by
      by_cases hik : i = nl + k
      · subst hik
        exact ⟨by rw [pk_us]; exact l1, by rw [pk_us]; exact l2, z, c, y, b, l3, i2, l5⟩
      · exact Lin.keep (rc := 1000000) (by omega) hik hnone ha Kp.rf (kp0.trans i1) (e3 i (by omega))) (fun i hi1 hi2 => Lin.keep (rc := 1000000) (by omega) (by omega) hnone ha Kp.rf (kp0.trans i1) (e4 i (by omega) hi2))
    refine ⟨JK2, JN2, JS2, JL2, ?_, j2⟩
    rw [f_X6_read_L87]
    simp (disch := omega) only [q0, q1, q2, q3, q4, q5, q7, q9, q10, q16, q30, q48, q57, q60, q99, q255, q300, q4096, pk_mul, nI_add, pk_sub, n_gin, n_cl, ifle_t, ifle_f, iflt_t, iflt_f, ifeq_t, ifeq_f, ifne_t, ifne_f, ifm_f, ifm_t, iflm_f, ifm0_t, ifm0_f, ob, g1n, g0n, ↓reduceIte, not_true_eq_false, not_false_eq_true, q32, q43, q45, q46, q59, q98, q114, q115, q117, if_neg m1_nle, if_pos m1_lt, ifmn_f, ifmn_t, f_X6_begin]
    rw [i3]
    exact j1
set_option maxHeartbeats 4000000 in
theorem r_all (H : HT nb BB TX t) (D0 : 1 ≤ w ∧ w ≤ 4 ∧ 1 ≤ h ∧ h ≤ 4 ∧ 1 ≤ s ∧ s ≤ 6 ∧ 1 ≤ w * h ∧ w * h ≤ 16) {F : Nat} (hF : 1000 < F) (hnl : nl ≤ 60) (mT : Int32) :
    ∀ d n p m m' LK LN LS LL JK JN JS JL, nb ≤ p + d → p ≤ nb → n ≤ p → nl + n ≤ 60 → d + 1 < m → d + 1 < m' → (∀ i, i < nl → Lin (w * h) s LK LN LS LL JK JN JS JL i i) → (∀ i, i < n → Lin (w * h) s LK LN LS LL JK JN JS JL (nl + i) (60 + i)) →
    (∃ f a LK' LN' LS' LL' JK' JN' JS' JL', (∀ i, i < nl → Lin (w * h) s LK' LN' LS' LL' JK' JN' JS' JL' i i) ∧ f_X2_readAll_L17 (nI (w * h)) (nI s) BB F m (nI nl) (nI 1) (nI n) (nI (nl + n)) (nI nb) (nI p) LK LN LS LL = some (-nI 1 - nI f, nI nl, nI 0, nI f, LK', LN', LS', LL') ∧ f_X6_read_L17 (nI w) (nI h) (nI s) TX F m' (nI n) mT (nI nl) (nI nb) (nI p) (-nI 1) JK JN JS JL = some (-nI 1 - nI f, mT, nI nl, nI 0, a, nI f, JK', JN', JS', JL')) ∨
    (∃ n' p' LK' LN' LS' LL' JK' JN' JS' JL', nl + n' ≤ 60 ∧ (∀ i, i < nl → Lin (w * h) s LK' LN' LS' LL' JK' JN' JS' JL' i i) ∧ (∀ i, i < n' → Lin (w * h) s LK' LN' LS' LL' JK' JN' JS' JL' (nl + i) (60 + i)) ∧ f_X2_readAll_L17 (nI (w * h)) (nI s) BB F m (nI nl) (nI 1) (nI n) (nI (nl + n)) (nI nb) (nI p) LK LN LS LL = some (nI n', nI (nl + n'), nI 0, nI p', LK', LN', LS', LL') ∧ f_X6_read_L17 (nI w) (nI h) (nI s) TX F m' (nI n) mT (nI nl) (nI nb) (nI p) (-nI 1) JK JN JS JL = f_X6_read_L87 (nI w) (nI h) (nI s) TX F F (nI n') (nI 0) mT (nI nl) (nI 0) (nI p') (-nI 1) JK' JN' JS' JL') := by
  have hnb := H.1
  have fin : ∀ n p m m' (LK LN LS LL JK JN JS JL : Nat → Int32), p = nb → n ≤ p → nl + n ≤ 60 → f_X2_readAll_L17 (nI (w * h)) (nI s) BB F (m + 1) (nI nl) (nI 1) (nI n) (nI (nl + n)) (nI nb) (nI p) LK LN LS LL = some (nI n, nI (nl + n), nI 0, nI p, LK, LN, LS, LL) ∧ f_X6_read_L17 (nI w) (nI h) (nI s) TX F (m' + 1) (nI n) mT (nI nl) (nI nb) (nI p) (-nI 1) JK JN JS JL = f_X6_read_L87 (nI w) (nI h) (nI s) TX F F (nI n) (nI 0) mT (nI nl) (nI 0) (nI p) (-nI 1) JK JN JS JL := by
    intro n p m m' LK LN LS LL JK JN JS JL e1 e2 e3
    subst e1
    have hsub : nI (nl + n) - nI nl = nI n := by rw [pk_sub (by omega), show nl + n - nl = n by omega]
    have hJ : f_X2_readAll_J50 (nI (w * h)) (nI s) BB F (nI nl) (nI 1) (nI (nl + n)) (nI p) (nI p) LK LN LS LL = some (nI n, nI (nl + n), nI 0, nI p, LK, LN, LS, LL) := by
      unfold f_X2_readAll_J50 f_X1_count
      rw [if_pos (show ¬ nI 1 = 0 by decide), ob, hsub, q0]
    constructor
    · rw [f_X2_readAll_L17, hJ, if_neg (show ¬ nI 1 = 0 by decide), ifle_t (Nat.le_refl p) (by omega)]
      by_cases h3 : (300 : Int32) ≤ nI n
      · rw [if_pos h3]
      · rw [if_neg h3]
    · rw [f_X6_read_L17, q0, if_neg m1_nle, ifle_t (Nat.le_refl p) (by omega)]
      unfold f_X6_read_J66
      rw [q0, if_pos m1_lt]
  intro d
  induction d with
  | zero =>
    intro n p m m' LK LN LS LL JK JN JS JL e1 e2 e3 e4 e5 e6 e7 e8
    obtain ⟨m, rfl⟩ : ∃ m', m = m' + 1 := ⟨m - 1, by omega⟩
    obtain ⟨m', rfl⟩ : ∃ q, m' = q + 1 := ⟨m' - 1, by omega⟩
    obtain ⟨f1, f2⟩ := fin n p m m' LK LN LS LL JK JN JS JL (by omega) e3 e4
    exact Or.inr ⟨n, p, LK, LN, LS, LL, JK, JN, JS, JL, e4, e7, e8, f1, f2⟩
  | succ d ih =>
    intro n p m m' LK LN LS LL JK JN JS JL e1 e2 e3 e4 e5 e6 e7 e8
    obtain ⟨m, rfl⟩ : ∃ m', m = m' + 1 := ⟨m - 1, by omega⟩
    obtain ⟨m', rfl⟩ : ∃ q, m' = q + 1 := ⟨m' - 1, by omega⟩
    by_cases hp : p < nb
    · obtain ⟨m, rfl⟩ : ∃ q, m = q + 1 := ⟨m - 1, by omega⟩
      obtain ⟨m', rfl⟩ : ∃ q, m' = q + 1 := ⟨m' - 1, by omega⟩
      have hline := r_line (LK := LK) (LN := LN) (LS := LS) (LL := LL) (JK := JK) (JN := JN) (JS := JS) (JL := JL) (rc := nl + n) (rm := 60 + (if 60 ≤ n then 59 else n)) H D0 e4 (by split <;> omega) hF hp
      have hrm : (if 60 ≤ n then 59 else n) < 60 := by split <;> omega
      have hc : f_X2_readAll_L17 (nI (w * h)) (nI s) BB F (m + 1 + 1) (nI nl) (nI 1) (nI n) (nI (nl + n)) (nI nb) (nI p) LK LN LS LL = Option.bind (f_X2_readLine (nI (w * h)) (nI s) (nI nb) BB F (nI (nl + n)) (nI p) LK LN LS LL) (fun q5 =>
            f_X2_readAll_L17 (nI (w * h)) (nI s) BB F (m + 1) (nI nl) q5.1 (nI (n + 1)) q5.2.1 (nI nb) q5.2.2.1 q5.2.2.2.1 q5.2.2.2.2.1 q5.2.2.2.2.2.1 q5.2.2.2.2.2.2) := by
        rw [f_X2_readAll_L17, q300, ifle_f (by omega) (by omega), if_neg (show ¬ nI 1 = 0 by decide), ifle_f hp (by omega), q1, nI_add]
      have hm : f_X6_read_L17 (nI w) (nI h) (nI s) TX F (m' + 1 + 1) (nI n) mT (nI nl) (nI nb) (nI p) (-nI 1) JK JN JS JL = Option.bind (f_X6_readLine (nI w) (nI h) (nI s) (nI nb) TX F (nI p) (-nI 1) JK JN JS JL (nI (60 + (if 60 ≤ n then 59 else n))) (nI (nl + n))) (fun q13 =>
            f_X6_read_L17 (nI w) (nI h) (nI s) TX F (m' + 1) (nI (n + 1)) mT (nI nl) (nI nb) q13.1 q13.2.1 q13.2.2.1 q13.2.2.2.1 q13.2.2.2.2.1 q13.2.2.2.2.2) := by
        rw [f_X6_read_L17, q0, if_neg m1_nle, ifle_f hp (by omega), q60]
        by_cases h60 : 60 ≤ n
        · rw [ifle_t h60 (by omega), if_pos h60]
          unfold f_X6_read_J50
          rw [show (59 : Int32) = nI 59 from q59, nI_add, nI_add, q1, nI_add]
        · rw [ifle_f (by omega) (by omega), if_neg h60]
          unfold f_X6_read_J50
          rw [nI_add, nI_add, q1, nI_add]
      rw [hc, hm]
      rcases hline with ⟨f, a, LK', LN', LS', LL', JK', JN', JS', JL', g1, g2, g3, g4, g5, g6, g7⟩ | ⟨q, LK', LN', LS', LL', JK', JN', JS', JL', g0, g1, g2, g3, g4, g5, g6, g7, g8, g9⟩
      · refine Or.inl ⟨f, a, LK', LN', LS', LL', JK', JN', JS', JL', fun i hi => Lin.keep (by omega) (by omega) g2 g3 g4 g5 (e7 i hi), ?_, ?_⟩
        · rw [g6, ob]
          show f_X2_readAll_L17 (nI (w * h)) (nI s) BB F (m + 1) (nI nl) (nI 0) (nI (n + 1)) (nI (nl + n)) (nI nb) (nI f) LK' LN' LS' LL' = _
          have hJ : f_X2_readAll_J50 (nI (w * h)) (nI s) BB F (nI nl) (nI 0) (nI (nl + n)) (nI nb) (nI f) LK' LN' LS' LL' = some (-nI 1 - nI f, nI nl, nI 0, nI f, LK', LN', LS', LL') := by
            unfold f_X2_readAll_J50 f_X1_cutTo
            rw [if_neg (show ¬ ¬ nI 0 = 0 by decide), ob, q0, q1]
          rw [f_X2_readAll_L17, hJ, if_pos (show nI 0 = 0 by decide)]
          by_cases h3 : (300 : Int32) ≤ nI (n + 1)
          · rw [if_pos h3]
          · rw [if_neg h3]
        · rw [g7, ob]
          show f_X6_read_L17 (nI w) (nI h) (nI s) TX F (m' + 1) (nI (n + 1)) mT (nI nl) (nI nb) a (nI f) JK' JN' JS' JL' = _
          rw [f_X6_read_L17, q0, ifle_t (by omega) (by omega)]
          unfold f_X6_read_J66
          rw [q0, iflt_f (by omega) (by omega), q1]
      · have hn60 : ¬ 60 ≤ n := by omega
        rw [if_neg hn60] at g4 g6 g7 g9
        rw [if_neg hn60]
        have go := ih (n + 1) q (m + 1) (m' + 1) LK' LN' LS' LL' JK' JN' JS' JL' (by omega) g2 (by omega) (by omega) (by omega) (by omega) (fun i hi => Lin.keep (by omega) (by omega) g3 g4 g5 g6 (e7 i hi)) (fun i hi => by
          by_cases hin : i = n
          · subst hin; exact g7
          · exact Lin.keep (by omega) (by omega) g3 g4 g5 g6 (e8 i (by omega)))
        rw [g8, g9, ob, ob]
        exact go
    · obtain ⟨f1, f2⟩ := fin n p m m' LK LN LS LL JK JN JS JL (by omega) e3 e4
      exact Or.inr ⟨n, p, LK, LN, LS, LL, JK, JN, JS, JL, e4, e7, e8, f1, f2⟩
end RA
theorem P_read (gw gc gs ge gf cR cL cB pB : Int32) (SD RK RN RS RC RT LK LN LS LL US UB BB : Nat → Int32) (mT mW mH mS mR mL mC mZ mA mB : Int32) (KK KN KS KC AN JK JN JS JL MY KP FI TX : Nat → Int32) (hs : Sim gw gc gs ge gf cR cL cB pB SD RK RN RS RC RT LK LN LS LL US UB BB mT mW mH mS mR mL mC mZ mA mB KK KN KS KC AN JK JN JS JL MY KP FI TX) : ∃ (r : Int32 × Int32 × Int32 × Int32 × (Nat → Int32) × (Nat → Int32) × (Nat → Int32) × (Nat → Int32)) (t : Int32 × Int32 × Int32 × Int32 × Int32 × Int32 × (Nat → Int32) × (Nat → Int32) × (Nat → Int32) × (Nat → Int32)), f_X5_read gc gs BB FF cL cB pB LK LN LS LL = some r ∧ f_X6_read mW mH mS TX FF mT mL mZ mA mB JK JN JS JL = some t ∧ r.1 = t.1 ∧ Sim gw gc gs ge gf cR r.2.1 r.2.2.1 r.2.2.2.1 SD RK RN RS RC RT r.2.2.2.2.1 r.2.2.2.2.2.1 r.2.2.2.2.2.2.1 r.2.2.2.2.2.2.2 US UB BB t.2.1 mW mH mS mR t.2.2.1 mC t.2.2.2.1 t.2.2.2.2.1 t.2.2.2.2.2.1 KK KN KS KC AN t.2.2.2.2.2.2.1 t.2.2.2.2.2.2.2.1 t.2.2.2.2.2.2.2.2.1 t.2.2.2.2.2.2.2.2.2 MY KP FI TX := by
  obtain ⟨w, h, s, ⟨D0, rfl, rfl, rfl, rfl, rfl, rfl, rfl, rfl⟩, R, A, ⟨nl, hl, rfl, rfl, hL⟩, ⟨nb, hb, rfl, rfl, hT⟩⟩ := hs
  have D : Dim (nI w) (nI (w * h)) (nI s) (nI (edgeN w h)) (nI (edgeN w h * 2 ^ (w - 1))) (nI w) (nI h) (nI s) w h s := ⟨D0, rfl, rfl, rfl, rfl, rfl, rfl, rfl, rfl⟩
  have H : HT nb BB TX (fun i => (BB i).toNatClampNeg) := ⟨hb, fun i hi => by
    obtain ⟨a, y, y1, y2⟩ := hT i hi
    show BB i = nI (BB i).toNatClampNeg ∧ TX i = nI (BB i).toNatClampNeg ∧ (BB i).toNatClampNeg < 256
    rw [a, y2, n_cl (by omega)]; exact ⟨rfl, rfl, y1⟩⟩
  have T0 : SText (nI 0) (nI 0) BB TX := ⟨0, by omega, rfl, rfl, fun i hi => by omega⟩
  rcases r_all H D0 (F := FF) (by unfold FF; omega) hl (nI 0) nb 0 0 FF FF LK LN LS LL JK JN JS JL (by omega) (by omega) (by omega) (by omega) (by unfold FF; omega) (by unfold FF; omega) hL (fun i hi => by omega) with ⟨f, a, LK', LN', LS', LL', JK', JN', JS', JL', g1, g2, g3⟩ | ⟨n', p', LK', LN', LS', LL', JK', JN', JS', JL', g0, g1, g2, g3, g4⟩
  · refine ⟨(-nI 1 - nI f, nI nl, nI 0, nI f, LK', LN', LS', LL'), (-nI 1 - nI f, nI 0, nI nl, nI 0, a, nI f, JK', JN', JS', JL'), ?_, ?_, rfl, sim_mk D R A ⟨nl, hl, rfl, rfl, g1⟩ T0⟩
    · unfold f_X5_read f_X2_readAll f_X1_count
      rw [ob, q0, q1, show f_X2_readAll_L17 (nI (w * h)) (nI s) BB FF FF (nI nl) (nI 1) (nI 0) (nI nl) (nI nb) (nI 0) LK LN LS LL = _ from g2, ob]
    · unfold f_X6_read
      rw [q0, q1]; exact g3
  · obtain ⟨JK2, JN2, JS2, JL2, c1, c2⟩ := m_copy (TX := TX) (LK := LK') (LN := LN') (LS := LS') (LL := LL') (w := w) (h := h) (s := s) (nI w) (nI h) (nI s) g0 (F := FF) (by unfold FF; omega) (nI 0) (nI 0) (nI p') (-nI 1) n' 0 FF JK' JN' JS' JL' (by omega) (by unfold FF; omega) g1 (fun i _ hi => g2 i hi)
    refine ⟨(nI n', nI (nl + n'), nI 0, nI p', LK', LN', LS', LL'), (nI n', nI 0, nI (nl + n'), nI 0, nI p', -nI 1, JK2, JN2, JS2, JL2), ?_, ?_, rfl, sim_mk D R A ⟨nl + n', g0, rfl, rfl, c2⟩ T0⟩
    · unfold f_X5_read f_X2_readAll f_X1_count
      rw [ob, q0, q1, show f_X2_readAll_L17 (nI (w * h)) (nI s) BB FF FF (nI nl) (nI 1) (nI 0) (nI nl) (nI nb) (nI 0) LK LN LS LL = _ from g3, ob]
    · unfold f_X6_read
      rw [q0, q1]
      exact g4.trans c1
