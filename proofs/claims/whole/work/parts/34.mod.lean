/-! PURE PART. the reference's meets -/
section MM
variable {KK KN KS KC FI : Nat → Int32} {r n : Nat} {cs v : Nat → Nat}
theorem m_in_L (hv : ∀ k, k < n → FI k = nI (v k)) (h6 : ∀ k, k < n → v k < 6) (hn : n ≤ 9) (mW : Int32) (k21 : Int32 → Int32 → Int32 → Int32 → Int32 → Int32 → Int32 → Option Int32) (F : Nat) (x1 x2 x3 x4 x6 : Int32) {k : Nat} (hk : k < n) : ∀ d i m (P : Prop), i + d = k → d < m →
    f_X6_meets_L102 mW KK KN KS KC FI k21 F m x1 x2 x3 x4 (bI P) x6 (nI k) (nI i) = k21 x1 x2 x3 x4 (bI (P ∧ ∀ j, i ≤ j → j < k → ¬ v j = v k)) x6 (nI (k + 1)) := by
  intro d
  induction d with
  | zero =>
    intro i m P e1 e2
    obtain ⟨m, rfl⟩ : ∃ m', m = m' + 1 := ⟨m - 1, by omega⟩
    rw [f_X6_meets_L102]
    simp (disch := omega) only [q0, q1, q2, q3, q4, q5, q7, q9, q10, q16, q30, q48, q57, q60, q99, q255, q300, q4096, pk_mul, nI_add, pk_sub, n_gin, n_cl, ifle_t, ifle_f, iflt_t, iflt_f, ifeq_t, ifeq_f, ifne_t, ifne_f, ifm_f, ifm_t, iflm_f, ifm0_t, ifm0_f, ob, g1n, g0n, ↓reduceIte, not_true_eq_false, not_false_eq_true]
    rw [bI_c (show P ↔ (P ∧ ∀ j, i ≤ j → j < k → ¬ v j = v k) from ⟨fun h => ⟨h, fun j a b => by omega⟩, fun h => h.1⟩)]
  | succ d ih =>
    intro i m P e1 e2
    obtain ⟨m, rfl⟩ : ∃ m', m = m' + 1 := ⟨m - 1, by omega⟩
    have h6a := h6 k hk
    have h6b := h6 i (by omega)
    have e := fun Q => ih (i + 1) m Q (by omega) (by omega)
    rw [f_X6_meets_L102]
    by_cases hP : P
    · rw [bI_t hP]
      by_cases hq : v i = v k
      · simp (disch := omega) only [q0, q1, q2, q3, q4, q5, q7, q9, q10, q16, q30, q48, q57, q60, q99, q255, q300, q4096, pk_mul, nI_add, pk_sub, n_gin, n_cl, ifle_t, ifle_f, iflt_t, iflt_f, ifeq_t, ifeq_f, ifne_t, ifne_f, ifm_f, ifm_t, iflm_f, ifm0_t, ifm0_f, ob, g1n, g0n, ↓reduceIte, not_true_eq_false, not_false_eq_true, hv k hk, hv i (show i < n by omega), f_X6_meets_J135, f_X6_meets_J136]
        have e' := e False
        rw [bI_F] at e'
        refine e'.trans ?_
        rw [bI_f (fun h => h.1), bI_f (fun h => h.2 i (Nat.le_refl _) (by omega) hq)]
      · simp (disch := omega) only [q0, q1, q2, q3, q4, q5, q7, q9, q10, q16, q30, q48, q57, q60, q99, q255, q300, q4096, pk_mul, nI_add, pk_sub, n_gin, n_cl, ifle_t, ifle_f, iflt_t, iflt_f, ifeq_t, ifeq_f, ifne_t, ifne_f, ifm_f, ifm_t, iflm_f, ifm0_t, ifm0_f, ob, g1n, g0n, ↓reduceIte, not_true_eq_false, not_false_eq_true, hv k hk, hv i (show i < n by omega), f_X6_meets_J135, f_X6_meets_J136]
        have e' := e True
        rw [bI_T] at e'
        refine e'.trans ?_
        rw [bI_c (show (True ∧ ∀ j, i + 1 ≤ j → j < k → ¬ v j = v k) ↔ (P ∧ ∀ j, i ≤ j → j < k → ¬ v j = v k) from ⟨fun h => ⟨hP, fun j a b => ?_⟩, fun h => ⟨trivial, fun j a b => h.2 j (by omega) b⟩⟩)]
        by_cases hj : j = i
        · subst hj; exact hq
        · exact h.2 j (by omega) b
    · rw [bI_f hP]
      simp (disch := omega) only [q0, q1, q2, q3, q4, q5, q7, q9, q10, q16, q30, q48, q57, q60, q99, q255, q300, q4096, pk_mul, nI_add, pk_sub, n_gin, n_cl, ifle_t, ifle_f, iflt_t, iflt_f, ifeq_t, ifeq_f, ifne_t, ifne_f, ifm_f, ifm_t, iflm_f, ifm0_t, ifm0_f, ob, g1n, g0n, ↓reduceIte, not_true_eq_false, not_false_eq_true, f_X6_meets_J135, f_X6_meets_J136]
      have e' := e False
      rw [bI_F] at e'
      refine e'.trans ?_
      rw [bI_f (fun h => h.1), bI_f (fun h => hP h.1)]
def Unl (n : Nat) (v : Nat → Nat) : Prop := ∀ i j, i < j → j < n → ¬ v i = v j
def Ris (n : Nat) (v : Nat → Nat) : Prop := ∀ j, 1 ≤ j → j < n → v (j - 1) < v j
noncomputable def mEnd (kd nu : Int32) (n : Nat) (v : Nat → Nat) (hg : Option Int32) : Option Int32 :=
  if kd = 0 then some (bI (Unl n v))
  else if kd = 1 then some (bI (nI (sumT v n) = nu))
  else if kd = 2 then some (bI (Ris n v))
  else if kd = 3 then some (bI (n = 0 ∨ nI (cntT v n) = nu))
  else Option.bind hg (fun q => gbl q (some q))
theorem m_L21 (R : RowR KS KC r n cs) (hv : ∀ k, k < n → FI k = nI (v k)) (h6 : ∀ k, k < n → v k < 6) (mW : Int32) {F : Nat} (hF : 20 < F) : ∀ d k m, k + d = n → d < m →
    f_X6_meets_L21 mW KK KN KS KC FI F m (nI r) (nI n) (nI (sumT v k)) (nI (cntT v k)) (bI (Unl k v)) (bI (Ris k v)) (nI k) = mEnd (KK r) (KN r) n v (f_X6_hangs mW KS KC FI F (nI r)) := by
  have ⟨h1, h2, h3, h4, h5⟩ := R
  intro d
  induction d with
  | zero =>
    intro k m e1 e2
    obtain ⟨m, rfl⟩ : ∃ m', m = m' + 1 := ⟨m - 1, by omega⟩
    obtain rfl : k = n := by omega
    rw [f_X6_meets_L21]
    unfold mEnd
    rw [ifle_t (by omega) (by omega), n_gin (by omega) (by omega), n_cl (by omega)]
    split
    · rw [bI_gbl]
    split
    · rw [n_gin (by omega) (by omega)]
      split
      · rw [bI_f (by assumption)]
      · rename_i h; rw [bI_t (Classical.not_not.mp h)]
    split
    · rw [bI_gbl]
    split
    · split
      · rename_i h
        rw [bI_t (Or.inl (by rw [q0, n_eq (by omega) (by omega)] at h; exact h))]
      · rename_i hne
        rw [n_gin (by omega) (by omega)]
        split
        · rename_i h; rw [bI_f (fun q => q.elim (fun q => hne (by rw [q]; rfl)) h)]
        · rename_i h; rw [bI_t (Or.inr (Classical.not_not.mp h))]
    · rfl
  | succ d ih =>
    intro k m e1 e2
    obtain ⟨m, rfl⟩ : ∃ m', m = m' + 1 := ⟨m - 1, by omega⟩
    have hk : k < n := by omega
    have h6a := h6 k hk
    have h60 := h6 0 (by omega)
    have hs := sumT_le (v := v) k (fun j a => h6 j (by omega))
    have hcn := cntT_le (v := v) k
    have e := ih (k + 1) m (by omega) (by omega)
    have cl0 : (0 : Int32).toNatClampNeg = 0 := by decide
    rw [f_X6_meets_L21]
    rw [ifle_f (by omega) (by omega), n_gin (by omega) (by omega), n_gin (by omega) (by omega), n_cl (by omega), cl0, gin_in (by decide), hv k hk, hv 0 (by omega)]
    have hJ : ∀ (t1 : Int32) (z : Nat), t1 = nI z → cntT v (k + 1) = cntT v k + z →
        f_X6_meets_J60 mW KK KN KS KC FI (f_X6_meets_L21 mW KK KN KS KC FI F m) F (nI (cntT v k)) t1 (nI r) (nI n) (nI (sumT v k) + nI (v k)) (bI (Unl k v)) (bI (Ris k v)) (nI k) = mEnd (KK r) (KN r) n v (f_X6_hangs mW KS KC FI F (nI r)) := by
      intro t1 z hz hc
      subst hz
      have hU : (Unl k v ∧ ∀ j, 0 ≤ j → j < k → ¬ v j = v k) ↔ Unl (k + 1) v := by
        constructor
        · intro h i j a b
          by_cases hj : j = k
          · subst hj; exact h.2 i (by omega) a
          · exact h.1 i j a (by omega)
        · intro h
          exact ⟨fun i j a b => h i j a (by omega), fun j _ b => h j k b (by omega)⟩
      have hin : ∀ Q : Prop, f_X6_meets_L102 mW KK KN KS KC FI (f_X6_meets_L21 mW KK KN KS KC FI F m) F F (nI r) (nI n) (nI (sumT v (k + 1))) (nI (cntT v (k + 1))) (bI (Unl k v)) (bI Q) (nI k) (nI 0) = f_X6_meets_L21 mW KK KN KS KC FI F m (nI r) (nI n) (nI (sumT v (k + 1))) (nI (cntT v (k + 1))) (bI (Unl (k + 1) v)) (bI Q) (nI (k + 1)) := by
        intro Q
        rw [m_in_L hv h6 h3 mW _ F (nI r) (nI n) _ _ (bI Q) hk k 0 F (Unl k v) (by omega) (by omega), bI_c hU]
      unfold f_X6_meets_J60
      rw [nI_add, nI_add, ← hc]
      show (if bI (Ris k v) = 0 then f_X6_meets_J96 mW KK KN KS KC FI _ F (nI r) (nI n) (nI (sumT v (k + 1))) (nI (cntT v (k + 1))) (bI (Unl k v)) (nI k) else _) = _
      by_cases hR : Ris k v
      · rw [if_neg (by rw [bI_0]; exact fun h => h hR)]
        by_cases hk0 : k = 0
        · subst hk0
          rw [if_pos (show nI 0 = 0 from rfl)]
          unfold f_X6_meets_J92 f_X6_meets_J97
          have e2 := hin (Ris (0 + 1) v)
          rw [bI_t (p := Ris (0 + 1) v) (fun j a b => by omega)] at e2
          refine e2.trans ?_
          rw [bI_t (p := Ris (0 + 1) v) (fun j a b => by omega)] at e
          exact e
        · have h6b := h6 (k - 1) (by omega)
          rw [if_neg (by rw [q0, n_eq (by omega) (by omega)]; exact hk0), q1, pk_sub (by omega), n_gin (by omega) (by omega), n_gin (by omega) (by omega), n_cl (by omega), n_cl (by omega), hv k hk, hv (k - 1) (by omega)]
          by_cases hl : v (k - 1) < v k
          · rw [ifle_f hl (by omega)]
            have hR1 : Ris (k + 1) v := fun j a b => by
              by_cases hj : j = k
              · subst hj; exact hl
              · exact hR j a (by omega)
            unfold f_X6_meets_J92 f_X6_meets_J97
            have e2 := hin (Ris (k + 1) v)
            rw [bI_t hR1] at e2 e
            exact e2.trans e
          · rw [ifle_t (by omega) (by omega)]
            have hR1 : ¬ Ris (k + 1) v := fun h => hl (h k (by omega) (by omega))
            unfold f_X6_meets_J96 f_X6_meets_J97
            have e2 := hin (Ris (k + 1) v)
            rw [bI_f hR1] at e2 e
            exact e2.trans e
      · rw [if_pos (by rw [bI_0]; exact hR)]
        have hR1 : ¬ Ris (k + 1) v := fun h => hR (fun j a b => h j a (by omega))
        unfold f_X6_meets_J96 f_X6_meets_J97
        have e2 := hin (Ris (k + 1) v)
        rw [bI_f hR1] at e2 e
        exact e2.trans e
    by_cases hq : v k = v 0
    · rw [ifne_f hq]
      exact hJ 1 1 rfl (by rw [cntT, if_pos hq])
    · rw [ifne_t hq (by omega) (by omega)]
      exact hJ 0 0 rfl (by rw [cntT, if_neg hq])
theorem m_meets (R : RowR KS KC r n cs) (hv : ∀ k, k < n → FI k = nI (v k)) (h6 : ∀ k, k < n → v k < 6) (mW : Int32) {F : Nat} (hF : 20 < F) :
    f_X6_meets mW KK KN KS KC FI F (nI r) = mEnd (KK r) (KN r) n v (f_X6_hangs mW KS KC FI F (nI r)) := by
  have ⟨h1, h2, h3, h4, h5⟩ := R
  unfold f_X6_meets
  rw [n_gin (by omega) (by omega), n_cl (by omega), h2]
  have e := m_L21 (KK := KK) (KN := KN) R hv h6 mW hF n 0 F (by omega) (by omega)
  rw [bI_t (p := Unl 0 v) (fun i j a b => by omega), bI_t (p := Ris 0 v) (fun j a b => by omega)] at e
  exact e
end MM
section CM
variable {RK RN RS RC SY : Nat → Int32} {r n : Nat} {cs v : Nat → Nat}
theorem c_meets (R : RowR RS RC r n cs) (hv : ∀ k, k < n → SY (cs k) = nI (v k)) (h6 : ∀ k, k < n → v k < 6) (gw gc ge gf : Int32) {F : Nat} (hF : 20 < F) :
    f_X3_meets gw gc ge gf RK RN RS RC SY F (nI r) = mEnd (RK r) (RN r) n v (f_X0_hangTogether gw gc ge gf F (nI (oneT cs v n))) := by
  have ⟨h1, h2, h3, h4, h5⟩ := R
  unfold f_X3_meets mEnd
  rw [n_gin (by omega) (by omega), n_cl (by omega)]
  have i0 := l_unl_L R hv h6 F n 0 F (by omega) (by omega) (fun i j a b => by omega)
  have i1 := l_sum_L R hv F n 0 F (by omega) (by omega)
  have i2 := l_rise_L R hv h6 F n 1 F (by omega) (by omega) (by omega) (by omega)
  have i4 := l_one_L R hv h6 F n 0 F (by omega) (by omega)
  split
  · unfold f_X3_areUnlike
    rw [show f_X3_areUnlike_L5 RS RC SY F F (nI r) 0 0 = _ from i0, ob, bI_gbl]; rfl
  split
  · unfold f_X3_sum
    rw [show f_X3_sum_L5 RS RC SY F F (nI r) 0 0 = _ from i1, ob, n_gin (by omega) (by omega)]
    split
    · rw [bI_f (by assumption)]
    · rename_i h; rw [bI_t (Classical.not_not.mp h)]
  split
  · unfold f_X3_rise
    rw [show f_X3_rise_L2 RS RC SY F F (nI r) 1 = _ from i2, ob, bI_gbl]; rfl
  split
  · rw [n_gin (by omega) (by omega), h2]
    by_cases hn : n = 0
    · subst hn
      rw [if_pos (show nI 0 = 0 from rfl), bI_t (Or.inl rfl)]
    · rw [if_neg (by rw [q0, n_eq (by omega) (by omega)]; exact hn)]
      have i3 := l_like_L R hv h6 F (by omega) n 0 F (by omega) (by omega)
      have hc := h5 0 (by omega)
      unfold f_X3_likeTheFirst
      rw [show f_X3_cellAt RC (nI r) 0 = _ from l_cellAt R (k := 0) (by omega), ob, n_gin (by omega) (by omega), n_cl (by omega), hv 0 (by omega), show f_X3_likeTheFirst_L15 RS RC SY F F (nI r) (nI (v 0)) 0 0 = _ from i3, ob, n_gin (by omega) (by omega)]
      split
      · rename_i h; rw [bI_f (fun q => q.elim hn h)]
      · rename_i h; rw [bI_t (Or.inr (Classical.not_not.mp h))]
  · unfold f_X3_cellsWithOne
    rw [show f_X3_cellsWithOne_L5 RS RC SY F F (nI r) 0 0 = _ from i4, ob]
end CM
