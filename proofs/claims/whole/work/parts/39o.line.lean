/-! PURE PART. reading a line -/
section RLN
variable {BB TX LK LN LS LL JK JN JS JL : Nat → Int32} {nb p w h s rc rm z : Nat} {t c y b : Nat → Nat}
def Kp (Z L Z' L' : Nat → Int32) (r : Nat) : Prop := (∀ i, ¬ i = r → Z' i = Z i) ∧ ∀ i k, ¬ i = r → k < 16 → L' (16 * i + k) = L (16 * i + k)
theorem Kp.rf {Z L : Nat → Int32} {r : Nat} : Kp Z L Z L r := ⟨fun _ _ => rfl, fun _ _ _ _ => rfl⟩
theorem Kp.trans {Z L Z' L' Z2 L2 : Nat → Int32} {r : Nat} (a : Kp Z L Z' L' r) (b : Kp Z' L' Z2 L2 r) : Kp Z L Z2 L2 r :=
  ⟨fun i hi => (b.1 i hi).trans (a.1 i hi), fun i k hi hk => (b.2 i k hi hk).trans (a.2 i k hi hk)⟩
theorem Kp.up {Z L : Nat → Int32} {r k : Nat} (hk : k < 16) (x v : Int32) : Kp Z L (upd Z r x) (upd L (16 * r + k) v) r :=
  ⟨fun i hi => pk_un hi, fun i j hi hj => pk_un (by omega)⟩
theorem m_endb {f : Nat} (hf : f < 2000) (x2 a : Int32) {F : Nat} : f_X6_readLine_J118 (nI w) (nI h) (nI s) (nI nb) TX F x2 a (nI f) JK JN JS JL = some (a, nI f, JK, JN, JS, JL) := by
  unfold f_X6_readLine_J118
  rw [q0, ifle_t (by omega) (by omega), exb hf, ob]
theorem m_L94b {f : Nat} (hf : f < 2000) (x1 x2 a : Int32) {F m : Nat} : f_X6_readLine_L94 (nI w) (nI h) (nI s) (nI nb) TX F (m + 1) x1 x2 a (nI f) JK JN JS JL = some (a, nI f, JK, JN, JS, JL) := by
  rw [f_X6_readLine_L94, q0, ifle_t (by omega) (by omega), m_endb hf]
theorem r_end (H : HT nb BB TX t) (hp : p ≤ nb) (hrc : rc ≤ 60) {F : Nat} (gc gs : Int32) (hno : ¬ (p < nb ∧ t p = 32)) :
    (∃ f a, f ≤ 400 ∧ f_X2_readLine_J62 gc gs (nI nb) BB F (nI rc) (nI p) LK LN LS LL = some (nI 0, nI rc, nI f, LK, LN, LS, LL) ∧ f_X6_readLine_J118 (nI w) (nI h) (nI s) (nI nb) TX F (nI rc) (nI p) (-nI 1) JK JN JS JL = some (a, nI f, JK, JN, JS, JL)) ∨
    (rc < 60 ∧ p + 1 ≤ nb ∧ f_X2_readLine_J62 gc gs (nI nb) BB F (nI rc) (nI p) LK LN LS LL = some (nI 1, nI (rc + 1), nI (p + 1), LK, LN, LS, LL) ∧ f_X6_readLine_J118 (nI w) (nI h) (nI s) (nI nb) TX F (nI rc) (nI p) (-nI 1) JK JN JS JL = some (nI (p + 1), -nI 1, JK, JN, JS, JL)) := by
  have hnb := H.1
  unfold f_X2_readLine_J62 f_X6_readLine_J118
  by_cases h1 : p < nb ∧ t p = 59
  · have e1 := c_here_t H h1.1 h1.2
    have e2 := m_look_t H h1.1
    rw [h1.2] at e2
    by_cases h60 : rc < 60
    · refine Or.inr ⟨h60, by omega, ?_, ?_⟩
      · simp (disch := omega) only [q0, q1, q2, q3, q4, q5, q7, q9, q10, q16, q30, q48, q57, q60, q99, q255, q300, q4096, pk_mul, nI_add, pk_sub, n_gin, n_cl, ifle_t, ifle_f, iflt_t, iflt_f, ifeq_t, ifeq_f, ifne_t, ifne_f, ifm_f, ifm_t, iflm_f, ifm0_t, ifm0_f, ob, g1n, g0n, ↓reduceIte, not_true_eq_false, not_false_eq_true, q32, q43, q45, q46, q59, q98, q114, q115, q117, if_neg m1_nle, if_pos m1_lt, ifmn_f, ifmn_t, e1, f_X1_keepDraft, f_X1_isFull]
      · simp (disch := omega) only [q0, q1, q2, q3, q4, q5, q7, q9, q10, q16, q30, q48, q57, q60, q99, q255, q300, q4096, pk_mul, nI_add, pk_sub, n_gin, n_cl, ifle_t, ifle_f, iflt_t, iflt_f, ifeq_t, ifeq_f, ifne_t, ifne_f, ifm_f, ifm_t, iflm_f, ifm0_t, ifm0_f, ob, g1n, g0n, ↓reduceIte, not_true_eq_false, not_false_eq_true, q32, q43, q45, q46, q59, q98, q114, q115, q117, if_neg m1_nle, if_pos m1_lt, ifmn_f, ifmn_t, e2, f_X6_expect, f_X6_expect_J24]
    · refine Or.inl ⟨p, nI p, by omega, ?_, ?_⟩
      · simp (disch := omega) only [q0, q1, q2, q3, q4, q5, q7, q9, q10, q16, q30, q48, q57, q60, q99, q255, q300, q4096, pk_mul, nI_add, pk_sub, n_gin, n_cl, ifle_t, ifle_f, iflt_t, iflt_f, ifeq_t, ifeq_f, ifne_t, ifne_f, ifm_f, ifm_t, iflm_f, ifm0_t, ifm0_f, ob, g1n, g0n, ↓reduceIte, not_true_eq_false, not_false_eq_true, q32, q43, q45, q46, q59, q98, q114, q115, q117, if_neg m1_nle, if_pos m1_lt, ifmn_f, ifmn_t, e1, f_X1_keepDraft, f_X1_isFull]
      · simp (disch := omega) only [q0, q1, q2, q3, q4, q5, q7, q9, q10, q16, q30, q48, q57, q60, q99, q255, q300, q4096, pk_mul, nI_add, pk_sub, n_gin, n_cl, ifle_t, ifle_f, iflt_t, iflt_f, ifeq_t, ifeq_f, ifne_t, ifne_f, ifm_f, ifm_t, iflm_f, ifm0_t, ifm0_f, ob, g1n, g0n, ↓reduceIte, not_true_eq_false, not_false_eq_true, q32, q43, q45, q46, q59, q98, q114, q115, q117, if_neg m1_nle, if_pos m1_lt, ifmn_f, ifmn_t, e2, f_X6_wrong, exb]
  · have e1 := c_here_f H h1 (show p < 2000 by omega) (show 59 < 256 by omega)
    refine Or.inl ⟨p, nI (p + 1), by omega, ?_, ?_⟩
    · simp (disch := omega) only [q0, q1, q2, q3, q4, q5, q7, q9, q10, q16, q30, q48, q57, q60, q99, q255, q300, q4096, pk_mul, nI_add, pk_sub, n_gin, n_cl, ifle_t, ifle_f, iflt_t, iflt_f, ifeq_t, ifeq_f, ifne_t, ifne_f, ifm_f, ifm_t, iflm_f, ifm0_t, ifm0_f, ob, g1n, g0n, ↓reduceIte, not_true_eq_false, not_false_eq_true, q32, q43, q45, q46, q59, q98, q114, q115, q117, if_neg m1_nle, if_pos m1_lt, ifmn_f, ifmn_t, e1]
    · by_cases h2 : p < nb
      · have ht := (H.2 p h2).2.2
        simp (disch := omega) only [q0, q1, q2, q3, q4, q5, q7, q9, q10, q16, q30, q48, q57, q60, q99, q255, q300, q4096, pk_mul, nI_add, pk_sub, n_gin, n_cl, ifle_t, ifle_f, iflt_t, iflt_f, ifeq_t, ifeq_f, ifne_t, ifne_f, ifm_f, ifm_t, iflm_f, ifm0_t, ifm0_f, ob, g1n, g0n, ↓reduceIte, not_true_eq_false, not_false_eq_true, q32, q43, q45, q46, q59, q98, q114, q115, q117, if_neg m1_nle, if_pos m1_lt, ifmn_f, ifmn_t, m_look_t H h2, f_X6_expect, f_X6_expect_J24, f_X6_wrong]
      · simp (disch := omega) only [q0, q1, q2, q3, q4, q5, q7, q9, q10, q16, q30, q48, q57, q60, q99, q255, q300, q4096, pk_mul, nI_add, pk_sub, n_gin, n_cl, ifle_t, ifle_f, iflt_t, iflt_f, ifeq_t, ifeq_f, ifne_t, ifne_f, ifm_f, ifm_t, iflm_f, ifm0_t, ifm0_f, ob, g1n, g0n, ↓reduceIte, not_true_eq_false, not_false_eq_true, q32, q43, q45, q46, q59, q98, q114, q115, q117, if_neg m1_nle, if_pos m1_lt, ifmn_f, ifmn_t, m_look_f H (show nb ≤ p by omega) (show p < 2000 by omega), f_X6_expect, f_X6_expect_J24, f_X6_wrong]
theorem r_lits (H : HT nb BB TX t) (D0 : 1 ≤ w ∧ w ≤ 4 ∧ 1 ≤ h ∧ h ≤ 4 ∧ 1 ≤ s ∧ s ≤ 6 ∧ 1 ≤ w * h ∧ w * h ≤ 16) (hrc : rc ≤ 60) (hrm : rm < 120) {F : Nat} (hF : 1000 < F) :
    ∀ d p x2 m m' LS LL JS JL z c y b, nb ≤ p + d → p ≤ nb → x2 ≤ p → d + 1 < m → d + 1 < m' → RowC LS LL rc z c y b → RowM s JS JL rm z c y b → OkL (w * h) s z c y b →
    (∃ f a LS' LL' JS' JL', f ≤ 400 ∧ Kp LS LL LS' LL' rc ∧ Kp JS JL JS' JL' rm ∧ f_X2_readLine_L19 (nI (w * h)) (nI s) (nI nb) BB F m (nI rc) (nI x2) (nI rc) (nI p) LK LN LS LL = some (nI 0, nI rc, nI f, LK, LN, LS', LL') ∧ f_X6_readLine_L94 (nI w) (nI h) (nI s) (nI nb) TX F m' (nI rm) (nI rc) (nI p) (-nI 1) JK JN JS JL = some (a, nI f, JK, JN, JS', JL')) ∨
    (∃ q LS' LL' JS' JL' z' c' y' b', rc < 60 ∧ p < q ∧ q ≤ nb ∧ Kp LS LL LS' LL' rc ∧ Kp JS JL JS' JL' rm ∧ RowC LS' LL' rc z' c' y' b' ∧ RowM s JS' JL' rm z' c' y' b' ∧ OkL (w * h) s z' c' y' b' ∧ f_X2_readLine_L19 (nI (w * h)) (nI s) (nI nb) BB F m (nI rc) (nI x2) (nI rc) (nI p) LK LN LS LL = some (nI 1, nI (rc + 1), nI q, LK, LN, LS', LL') ∧ f_X6_readLine_L94 (nI w) (nI h) (nI s) (nI nb) TX F m' (nI rm) (nI rc) (nI p) (-nI 1) JK JN JS JL = some (nI q, -nI 1, JK, JN, JS', JL')) := by
  have hnb := H.1
  intro d
  induction d with
  | zero =>
    intro p x2 m m' LS LL JS JL z c y b e1 e2 e3 e4 e5 R R' O
    obtain ⟨m, rfl⟩ : ∃ m', m = m' + 1 := ⟨m - 1, by omega⟩
    obtain ⟨m', rfl⟩ : ∃ q, m' = q + 1 := ⟨m' - 1, by omega⟩
    have hno : ¬ (p < nb ∧ t p = 32) := fun g => by omega
    have hc : f_X2_readLine_L19 (nI (w * h)) (nI s) (nI nb) BB F (m + 1) (nI rc) (nI x2) (nI rc) (nI p) LK LN LS LL = f_X2_readLine_J62 (nI (w * h)) (nI s) (nI nb) BB F (nI rc) (nI p) LK LN LS LL := by
      rw [f_X2_readLine_L19, q32, c_here_f H hno (by omega) (by omega), ob]
      by_cases h3 : 300 ≤ x2
      · rw [q300, ifle_t h3 (by omega)]
      · rw [q300, ifle_f (by omega) (by omega), if_pos (show nI 0 = 0 by decide)]
    have hm : f_X6_readLine_L94 (nI w) (nI h) (nI s) (nI nb) TX F (m' + 1) (nI rm) (nI rc) (nI p) (-nI 1) JK JN JS JL = f_X6_readLine_J118 (nI w) (nI h) (nI s) (nI nb) TX F (nI rc) (nI p) (-nI 1) JK JN JS JL := by
      rw [f_X6_readLine_L94, q0, if_neg m1_nle, m_look_f H (by omega) (by omega), ob, q32, ifmn_t (by omega)]
    rw [hc, hm]
    rcases r_end (LK := LK) (LN := LN) (LS := LS) (LL := LL) (JK := JK) (JN := JN) (JS := JS) (JL := JL) (w := w) (h := h) (s := s) H e2 hrc (F := F) (nI (w * h)) (nI s) hno with ⟨f, a, g1, g2, g3⟩ | ⟨g0, g1, g2, g3⟩
    · exact Or.inl ⟨f, a, LS, LL, JS, JL, g1, Kp.rf, Kp.rf, g2, g3⟩
    · exact Or.inr ⟨p + 1, LS, LL, JS, JL, z, c, y, b, g0, by omega, g1, Kp.rf, Kp.rf, R, R', O, g2, g3⟩
  | succ d ih =>
    intro p x2 m m' LS LL JS JL z c y b e1 e2 e3 e4 e5 R R' O
    obtain ⟨m, rfl⟩ : ∃ m', m = m' + 1 := ⟨m - 1, by omega⟩
    obtain ⟨m', rfl⟩ : ∃ q, m' = q + 1 := ⟨m' - 1, by omega⟩
    have hz := O.1
    by_cases hb : p < nb ∧ t p = 32
    · have hlk := m_look_t H hb.1
      rw [hb.2] at hlk
      have hJ := R'.1
      have hL := R.1
      have hc : f_X2_readLine_L19 (nI (w * h)) (nI s) (nI nb) BB F (m + 1) (nI rc) (nI x2) (nI rc) (nI p) LK LN LS LL = (if nI z < nI 16 then Option.bind (f_X2_readLiteral (nI (w * h)) (nI s) (nI nb) BB F (nI p) LS LL (nI rc)) (fun q9 =>
            if ¬ q9.1 = nI 0 then
            f_X2_readLine_L19 (nI (w * h)) (nI s) (nI nb) BB F m (nI rc) (nI (x2 + 1)) (nI rc) q9.2.1 LK LN q9.2.2.1 q9.2.2.2
          else
            some (nI 0, nI rc, q9.2.1, LK, LN, q9.2.2.1, q9.2.2.2)) else some (nI 0, nI rc, nI p, LK, LN, LS, LL)) := by
        rw [f_X2_readLine_L19, q300, ifle_f (by omega) (by omega), q32, c_here_t H hb.1 hb.2, ob, if_neg (show ¬ nI 1 = 0 by decide)]
        unfold f_X1_isFullOfLiterals
        rw [n_gin (by omega) (by omega), n_cl (by omega), hL, q16, q0, q1, nI_add]
        by_cases h16 : z < 16
        · rw [iflt_t h16 (by omega), iflt_t h16 (by omega), ob, ifne_f rfl]
        · rw [iflt_f (by omega) (by omega), iflt_f (by omega) (by omega), ob, ifne_t (by omega) (by omega) (by omega)]
      have hm : f_X6_readLine_L94 (nI w) (nI h) (nI s) (nI nb) TX F (m' + 1) (nI rm) (nI rc) (nI p) (-nI 1) JK JN JS JL = Option.bind (f_X6_readLiteral (nI w) (nI h) (nI s) (nI nb) TX F (nI p) (-nI 1) JS JL (nI rm)) (fun q15 =>
          f_X6_readLine_L94 (nI w) (nI h) (nI s) (nI nb) TX F m' (nI rm) (nI rc) q15.1 q15.2.1 JK JN q15.2.2.1 q15.2.2.2) := by
        rw [f_X6_readLine_L94, q0, if_neg m1_nle, hlk, ob, q32, ifne_f rfl]
      obtain ⟨m', rfl⟩ : ∃ q, m' = q + 1 := ⟨m' - 1, by omega⟩
      rw [hc, hm]
      by_cases h16 : z < 16
      · rw [iflt_t h16 (by omega)]
        rcases r_lit H D0 R (by omega) R' hrm O h16 (F := F) (by omega) hb.1 with ⟨f, a, g1, g2, g3⟩ | ⟨c0, y0, b0, q, g1, g2, g3, g4, g5, g6, g7, g8⟩
        · refine Or.inl ⟨f, a, LS, LL, JS, JL, g1, Kp.rf, Kp.rf, ?_, ?_⟩
          · rw [g2, ob]; exact ifne_f rfl
          · rw [g3, ob]; exact m_L94b (by omega) _ _ _
        · have go := ih q (x2 + 1) m (m' + 1) _ _ _ _ _ _ _ _ (by omega) g5 (by omega) (by omega) (by omega) (R.grow (c0 := c0) (y0 := y0) (b0 := b0)) (R'.grow (c0 := c0) (y0 := y0) (b0 := b0)) (O.grow h16 g1 g2 g3 g6)
          rw [g7, g8, ob, ob]
          have hne : ¬ (nI 1 : Int32) = nI 0 := by decide
          rw [if_pos hne]
          rcases go with ⟨f, a, LS', LL', JS', JL', k1, k2, k3, k4, k5⟩ | ⟨q', LS', LL', JS', JL', z', c', y', b', k0, k1, k2, k3, k4, k5, k6, k7, k8, k9⟩
          · exact Or.inl ⟨f, a, LS', LL', JS', JL', k1, (Kp.up h16 _ _).trans k2, (Kp.up h16 _ _).trans k3, k4, k5⟩
          · exact Or.inr ⟨q', LS', LL', JS', JL', z', c', y', b', k0, by omega, k2, (Kp.up h16 _ _).trans k3, (Kp.up h16 _ _).trans k4, k5, k6, k7, k8, k9⟩
      · rw [iflt_f (by omega) (by omega)]
        refine Or.inl ⟨p, nI p, LS, LL, JS, JL, by omega, Kp.rf, Kp.rf, rfl, ?_⟩
        have hl : f_X6_readLiteral (nI w) (nI h) (nI s) (nI nb) TX F (nI p) (-nI 1) JS JL (nI rm) = some (nI p, nI p, JS, JL) := by
          unfold f_X6_readLiteral
          rw [n_gin (by omega) (by omega), n_cl (by omega), hJ, q16, ifne_f (by omega)]
          unfold f_X6_wrong
          rw [q0, if_neg m1_nle, ob]
        rw [hl, ob]
        exact m_L94b (by omega) _ _ _
    · have hc : f_X2_readLine_L19 (nI (w * h)) (nI s) (nI nb) BB F (m + 1) (nI rc) (nI x2) (nI rc) (nI p) LK LN LS LL = f_X2_readLine_J62 (nI (w * h)) (nI s) (nI nb) BB F (nI rc) (nI p) LK LN LS LL := by
        rw [f_X2_readLine_L19, q32, c_here_f H hb (by omega) (by omega), ob]
        by_cases h3 : 300 ≤ x2
        · rw [q300, ifle_t h3 (by omega)]
        · rw [q300, ifle_f (by omega) (by omega), if_pos (show nI 0 = 0 by decide)]
      have hm : f_X6_readLine_L94 (nI w) (nI h) (nI s) (nI nb) TX F (m' + 1) (nI rm) (nI rc) (nI p) (-nI 1) JK JN JS JL = f_X6_readLine_J118 (nI w) (nI h) (nI s) (nI nb) TX F (nI rc) (nI p) (-nI 1) JK JN JS JL := by
        rw [f_X6_readLine_L94, q0, if_neg m1_nle]
        by_cases h2 : p < nb
        · have ht := (H.2 p h2).2.2
          rw [m_look_t H h2, ob, q32, ifne_t (by omega) (by omega) (by omega)]
        · rw [m_look_f H (by omega) (by omega), ob, q32, ifmn_t (by omega)]
      rw [hc, hm]
      rcases r_end (LK := LK) (LN := LN) (LS := LS) (LL := LL) (JK := JK) (JN := JN) (JS := JS) (JL := JL) (w := w) (h := h) (s := s) H e2 hrc (F := F) (nI (w * h)) (nI s) hb with ⟨f, a, g1, g2, g3⟩ | ⟨g0, g1, g2, g3⟩
      · exact Or.inl ⟨f, a, LS, LL, JS, JL, g1, Kp.rf, Kp.rf, g2, g3⟩
      · exact Or.inr ⟨p + 1, LS, LL, JS, JL, z, c, y, b, g0, by omega, g1, Kp.rf, Kp.rf, R, R', O, g2, g3⟩
/-- a row that begins -/
theorem Row0 (x : Int32) : RowC (upd LS rc (nI 0)) LL rc 0 (fun _ => 0) (fun _ => 0) (fun _ => 0) ∧ RowM s (upd JS rm (nI 0)) JL rm 0 (fun _ => 0) (fun _ => 0) (fun _ => 0) ∧ OkL (w * h) s 0 (fun _ => 0) (fun _ => 0) (fun _ => 0) :=
  ⟨⟨pk_us, fun k hk => by omega⟩, ⟨pk_us, fun k hk => by omega⟩, by omega, fun k hk => by omega, fun i j _ hj => by omega⟩
/-- both lines behind their heads: kind k, number v, place p -/
def LineR (w h s nb rc rm p : Nat) (LK LN LS LL JK JN JS JL : Nat → Int32) (X : Option (Int32 × Int32 × Int32 × (Nat → Int32) × (Nat → Int32) × (Nat → Int32) × (Nat → Int32))) (Y : Option (Int32 × Int32 × (Nat → Int32) × (Nat → Int32) × (Nat → Int32) × (Nat → Int32))) : Prop :=
  (∃ f a LK' LN' LS' LL' JK' JN' JS' JL', f ≤ 400 ∧ (∀ i, ¬ i = rc → LK' i = LK i ∧ LN' i = LN i) ∧ (∀ i, ¬ i = rm → JK' i = JK i ∧ JN' i = JN i) ∧ Kp LS LL LS' LL' rc ∧ Kp JS JL JS' JL' rm ∧ X = some (nI 0, nI rc, nI f, LK', LN', LS', LL') ∧ Y = some (a, nI f, JK', JN', JS', JL')) ∨
  (∃ q LK' LN' LS' LL' JK' JN' JS' JL', rc < 60 ∧ p < q ∧ q ≤ nb ∧ (∀ i, ¬ i = rc → LK' i = LK i ∧ LN' i = LN i) ∧ (∀ i, ¬ i = rm → JK' i = JK i ∧ JN' i = JN i) ∧ Kp LS LL LS' LL' rc ∧ Kp JS JL JS' JL' rm ∧ Lin (w * h) s LK' LN' LS' LL' JK' JN' JS' JL' rc rm ∧ X = some (nI 1, nI (rc + 1), nI q, LK', LN', LS', LL') ∧ Y = some (nI q, -nI 1, JK', JN', JS', JL'))
theorem r_body (H : HT nb BB TX t) (D0 : 1 ≤ w ∧ w ≤ 4 ∧ 1 ≤ h ∧ h ≤ 4 ∧ 1 ≤ s ∧ s ≤ 6 ∧ 1 ≤ w * h ∧ w * h ≤ 16) (hrc : rc ≤ 60) (hrm : rm < 120) {F : Nat} (hF : 1000 < F) {p0 : Nat} (hp0 : p0 < p) (hp : p ≤ nb) (kd v : Int32) :
    LineR w h s nb rc rm p0 LK LN LS LL JK JN JS JL (f_X2_readLine_L19 (nI (w * h)) (nI s) (nI nb) BB F F (nI rc) (nI 0) (nI rc) (nI p) (upd LK rc kd) (upd LN rc v) (upd LS rc (nI 0)) LL) (f_X6_readLine_L94 (nI w) (nI h) (nI s) (nI nb) TX F F (nI rm) (nI rc) (nI p) (-nI 1) (upd JK rm kd) (upd JN rm v) (upd JS rm (nI 0)) JL) := by
  have hnb := H.1
  obtain ⟨r1, r2, r3⟩ := Row0 (LS := LS) (LL := LL) (JS := JS) (JL := JL) (rc := rc) (rm := rm) (s := s) (w := w) (h := h) 0
  have k1 : Kp LS LL (upd LS rc (nI 0)) LL rc := ⟨fun i hi => pk_un hi, fun _ _ _ _ => rfl⟩
  have k2 : Kp JS JL (upd JS rm (nI 0)) JL rm := ⟨fun i hi => pk_un hi, fun _ _ _ _ => rfl⟩
  have hl : ∀ i, ¬ i = rc → upd LK rc kd i = LK i ∧ upd LN rc v i = LN i := fun i hi => ⟨pk_un hi, pk_un hi⟩
  have hj : ∀ i, ¬ i = rm → upd JK rm kd i = JK i ∧ upd JN rm v i = JN i := fun i hi => ⟨pk_un hi, pk_un hi⟩
  rcases r_lits (LK := upd LK rc kd) (LN := upd LN rc v) (JK := upd JK rm kd) (JN := upd JN rm v) H D0 hrc hrm hF nb p 0 F F _ _ _ _ _ _ _ _ (by omega) hp (by omega) (by omega) (by omega) r1 r2 r3 with ⟨f, a, LS', LL', JS', JL', g1, g2, g3, g4, g5⟩ | ⟨q, LS', LL', JS', JL', z', c', y', b', g0, g1, g2, g3, g4, g5, g6, g7, g8, g9⟩
  · exact Or.inl ⟨f, a, _, _, LS', LL', _, _, JS', JL', g1, hl, hj, k1.trans g2, k2.trans g3, g4, g5⟩
  · exact Or.inr ⟨q, _, _, LS', LL', _, _, JS', JL', g0, by omega, g2, hl, hj, k1.trans g3, k2.trans g4, ⟨by rw [pk_us, pk_us], by rw [pk_us, pk_us], z', c', y', b', g5, g6, g7⟩, g8, g9⟩
set_option maxHeartbeats 4000000 in
theorem r_line (H : HT nb BB TX t) (D0 : 1 ≤ w ∧ w ≤ 4 ∧ 1 ≤ h ∧ h ≤ 4 ∧ 1 ≤ s ∧ s ≤ 6 ∧ 1 ≤ w * h ∧ w * h ≤ 16) (hrc : rc ≤ 60) (hrm : rm < 120) {F : Nat} (hF : 1000 < F) (hp : p < nb) :
    LineR w h s nb rc rm p LK LN LS LL JK JN JS JL (f_X2_readLine (nI (w * h)) (nI s) (nI nb) BB F (nI rc) (nI p) LK LN LS LL) (f_X6_readLine (nI w) (nI h) (nI s) (nI nb) TX F (nI p) (-nI 1) JK JN JS JL (nI rm) (nI rc)) := by
  have hnb := H.1
  have ht := (H.2 p hp).2.2
  have hlk := m_look_t H hp
  have here : ∀ x, x < 256 → f_X2_isHere (nI nb) (nI p) BB (nI x) = some (nI (if t p = x then 1 else 0)) := fun x hx => by
    by_cases e : t p = x
    · rw [if_pos e]; exact c_here_t H hp e
    · rw [if_neg e]; exact c_here_f H (fun q => e q.2) (by omega) hx
  have h117 := here 117 (by omega)
  have h98 := here 98 (by omega)
  have h114 := here 114 (by omega)
  have h115 := here 115 (by omega)
  have gz : ∀ {α : Type} (k : Option α), gnz (nI 2) k = k := fun k => by unfold gnz; rw [if_neg (by decide)]
  -- a line with a number
  have num : ∀ (kd : Nat), kd < 4 → kd % 2 = 0 →
      LineR w h s nb rc rm p LK LN LS LL JK JN JS JL (Option.bind (f_X2_readHead_J86 (nI rc) (nI nb) BB (nI kd) (nI p) LK LN LS) (fun q1 => if ¬ q1.1 = 0 then Option.bind (f_X1_count (nI rc)) (fun q3 => f_X2_readLine_L19 (nI (w * h)) (nI s) (nI nb) BB F F q3 (0 : Int32) (nI rc) q1.2.1 q1.2.2.1 q1.2.2.2.1 q1.2.2.2.2 LL) else some ((0 : Int32), nI rc, q1.2.1, q1.2.2.1, q1.2.2.2.1, q1.2.2.2.2, LL))) (f_X6_readLine_J46 (nI w) (nI h) (nI s) (nI nb) TX F (nI kd) (nI rm) (nI rc) (nI p) (-nI 1) JK JN JS JL) := by
    intro kd hkd hev
    have hrem : nI kd - nI kd / nI 2 * nI 2 = nI 0 := by rw [pk_rem (by omega) (by omega) (by omega), hev]
    unfold f_X2_readHead_J86 f_X6_readLine_J46 f_X1_startDraft f_X1_count
    rw [q0, ifle_t (by omega) (by omega), q2, gz, hrem, ifne_f rfl, q1, nI_add]
    unfold f_X6_readLine_J91 f_X6_begin
    rcases r_num (p := p + 1) H (by omega) with ⟨n1, n2⟩ | ⟨v, q, g1, g2, g3, n1, n2⟩
    · refine Or.inl ⟨p + 1, nI (p + 1), upd LK rc (nI kd), upd LN rc (-nI 1), upd LS rc (nI 0), LL, upd JK rm (nI kd), upd JN rm (nI 0), upd JS rm (nI 0), JL, by omega, fun i hi => ⟨pk_un hi, pk_un hi⟩, fun i hi => ⟨pk_un hi, pk_un hi⟩, ⟨fun i hi => pk_un hi, fun _ _ _ _ => rfl⟩, ⟨fun i hi => pk_un hi, fun _ _ _ _ => rfl⟩, ?_, ?_⟩
      · simp (disch := omega) only [q0, q1, q2, q3, q4, q5, q7, q9, q10, q16, q30, q48, q57, q60, q99, q255, q300, q4096, pk_mul, nI_add, pk_sub, n_gin, n_cl, ifle_t, ifle_f, iflt_t, iflt_f, ifeq_t, ifeq_f, ifne_t, ifne_f, ifm_f, ifm_t, iflm_f, ifm0_t, ifm0_f, ob, g1n, g0n, ↓reduceIte, not_true_eq_false, not_false_eq_true, q32, q43, q45, q46, q59, q98, q114, q115, q117, if_neg m1_nle, if_pos m1_lt, ifmn_f, ifmn_t, n1]
      · obtain ⟨F, rfl⟩ : ∃ F', F = F' + 1 := ⟨F - 1, by omega⟩
        simp (disch := omega) only [q0, q1, q2, q3, q4, q5, q7, q9, q10, q16, q30, q48, q57, q60, q99, q255, q300, q4096, pk_mul, nI_add, pk_sub, n_gin, n_cl, ifle_t, ifle_f, iflt_t, iflt_f, ifeq_t, ifeq_f, ifne_t, ifne_f, ifm_f, ifm_t, iflm_f, ifm0_t, ifm0_f, ob, g1n, g0n, ↓reduceIte, not_true_eq_false, not_false_eq_true, q32, q43, q45, q46, q59, q98, q114, q115, q117, if_neg m1_nle, if_pos m1_lt, ifmn_f, ifmn_t, n2, m_L94b]
    · have body := r_body (LK := LK) (LN := LN) (LS := LS) (LL := LL) (JK := JK) (JN := JN) (JS := JS) (JL := JL) H D0 hrc hrm hF (p0 := p) (p := q) (by omega) g3 (nI kd) (nI v)
      simp (disch := omega) only [q0, q1, q2, q3, q4, q5, q7, q9, q10, q16, q30, q48, q57, q60, q99, q255, q300, q4096, pk_mul, nI_add, pk_sub, n_gin, n_cl, ifle_t, ifle_f, iflt_t, iflt_f, ifeq_t, ifeq_f, ifne_t, ifne_f, ifm_f, ifm_t, iflm_f, ifm0_t, ifm0_f, ob, g1n, g0n, ↓reduceIte, not_true_eq_false, not_false_eq_true, q32, q43, q45, q46, q59, q98, q114, q115, q117, if_neg m1_nle, if_pos m1_lt, ifmn_f, ifmn_t, n1, n2]
      exact body
  -- a line without one
  have non : ∀ (kd : Nat), kd < 4 → kd % 2 = 1 →
      LineR w h s nb rc rm p LK LN LS LL JK JN JS JL (Option.bind (f_X2_readHead_J36 (nI rc) (nI nb) BB (nI kd) (nI p) LK LN LS) (fun q1 => if ¬ q1.1 = 0 then Option.bind (f_X1_count (nI rc)) (fun q3 => f_X2_readLine_L19 (nI (w * h)) (nI s) (nI nb) BB F F q3 (0 : Int32) (nI rc) q1.2.1 q1.2.2.1 q1.2.2.2.1 q1.2.2.2.2 LL) else some ((0 : Int32), nI rc, q1.2.1, q1.2.2.1, q1.2.2.2.1, q1.2.2.2.2, LL))) (f_X6_readLine_J46 (nI w) (nI h) (nI s) (nI nb) TX F (nI kd) (nI rm) (nI rc) (nI p) (-nI 1) JK JN JS JL) := by
    intro kd hkd hev
    have hrem : nI kd - nI kd / nI 2 * nI 2 = nI 1 := by rw [pk_rem (by omega) (by omega) (by omega), hev]
    have body := r_body (LK := LK) (LN := LN) (LS := LS) (LL := LL) (JK := JK) (JN := JN) (JS := JS) (JL := JL) H D0 hrc hrm hF (p0 := p) (p := p + 1) (by omega) (by omega) (nI kd) (nI 0)
    unfold f_X2_readHead_J36 f_X6_readLine_J46 f_X1_startDraft f_X1_count
    rw [q0, ifle_t (by omega) (by omega), q2, gz, hrem, ifne_t (by omega) (by omega) (by omega), q1, nI_add]
    unfold f_X6_readLine_J91 f_X6_begin
    simp (disch := omega) only [q0, q1, q2, q3, q4, q5, q7, q9, q10, q16, q30, q48, q57, q60, q99, q255, q300, q4096, pk_mul, nI_add, pk_sub, n_gin, n_cl, ifle_t, ifle_f, iflt_t, iflt_f, ifeq_t, ifeq_f, ifne_t, ifne_f, ifm_f, ifm_t, iflm_f, ifm0_t, ifm0_f, ob, g1n, g0n, ↓reduceIte, not_true_eq_false, not_false_eq_true, q32, q43, q45, q46, q59, q98, q114, q115, q117, if_neg m1_nle, if_pos m1_lt, ifmn_f, ifmn_t]
    exact body
  unfold f_X2_readLine f_X2_readHead f_X6_readLine
  rw [hlk, ob, q117, q98, q114, q115, h117, ob]
  by_cases e1 : t p = 117
  · rw [if_pos e1, ifne_t (by omega) (by omega) (by omega), if_pos (show ¬ nI 1 = 0 by decide), ifne_f e1]
    have : f_X2_readHead_J18 (nI rc) (nI nb) BB (nI p) LK LN LS = f_X2_readHead_J36 (nI rc) (nI nb) BB (nI 1) (nI p) LK LN LS := by
      unfold f_X2_readHead_J18
      rw [q117, h117, ob, if_pos e1, if_neg (show ¬ nI 1 = 0 by decide)]; rfl
    rw [this]
    exact non 1 (by omega) (by omega)
  · rw [if_neg e1, if_neg (show ¬ ¬ nI 0 = 0 by decide), h98, ob]
    by_cases e2 : t p = 98
    · rw [if_pos e2, if_neg (show ¬ nI 1 = 0 by decide), ifne_t (by omega) (by omega) (by omega), ifne_t (by omega) (by omega) (by omega), ifne_t (by omega) (by omega) (by omega), ifne_f e2]
      have : f_X2_readHead_J18 (nI rc) (nI nb) BB (nI p) LK LN LS = f_X2_readHead_J36 (nI rc) (nI nb) BB (nI 3) (nI p) LK LN LS := by
        unfold f_X2_readHead_J18
        rw [q117, h117, ob, if_neg e1, if_pos (show nI 0 = 0 by decide)]; rfl
      rw [this]
      exact non 3 (by omega) (by omega)
    · rw [if_neg e2, if_pos (show nI 0 = 0 by decide), h114, ob]
      by_cases e3 : t p = 114
      · rw [if_pos e3, if_pos (show ¬ nI 1 = 0 by decide), ifne_f e3]
        have : f_X2_readHead_J72 (nI rc) (nI nb) BB (nI p) LK LN LS = f_X2_readHead_J86 (nI rc) (nI nb) BB (nI 0) (nI p) LK LN LS := by
          unfold f_X2_readHead_J72
          rw [q114, h114, ob, if_pos e3, if_neg (show ¬ nI 1 = 0 by decide)]; rfl
        rw [this]
        exact num 0 (by omega) (by omega)
      · rw [if_neg e3, if_neg (show ¬ ¬ nI 0 = 0 by decide), h115, ob, ifne_t (by omega) (by omega) (by omega), ifne_t (by omega) (by omega) (by omega)]
        by_cases e4 : t p = 115
        · rw [if_pos e4, if_pos (show ¬ nI 1 = 0 by decide), ifne_f e4]
          have : f_X2_readHead_J72 (nI rc) (nI nb) BB (nI p) LK LN LS = f_X2_readHead_J86 (nI rc) (nI nb) BB (nI 2) (nI p) LK LN LS := by
            unfold f_X2_readHead_J72
            rw [q114, h114, ob, if_neg e3, if_pos (show nI 0 = 0 by decide)]; rfl
          rw [this]
          exact num 2 (by omega) (by omega)
        · rw [if_neg e4, if_neg (show ¬ ¬ nI 0 = 0 by decide), ifne_t (by omega) (by omega) (by omega), ifne_t (by omega) (by omega) (by omega), ob]
          refine Or.inl ⟨p, nI p, LK, LN, LS, LL, JK, JN, JS, JL, by omega, fun _ _ => ⟨rfl, rfl⟩, fun _ _ => ⟨rfl, rfl⟩, Kp.rf, Kp.rf, ?_, ?_⟩
          · rfl
          · unfold f_X6_readLine_J46 f_X6_wrong
            rw [q0, q1, if_neg m1_nle, if_neg m1_nle, ob]
end RLN
