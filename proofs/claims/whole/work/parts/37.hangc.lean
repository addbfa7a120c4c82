/-! PURE PART. the class's hangTogether -/
def edgeN (w : Nat) : Nat → Nat
  | 0 => 0
  | h + 1 => edgeN w h ||| 2 ^ (w * h)
theorem edge_tb : ∀ w, w < 5 → 0 < w → ∀ h, h < 5 → ∀ c, c < 16 → (edgeN w h).testBit c = decide (c < w * h ∧ c % w = 0) := by decide +kernel
theorem edge_tb2 : ∀ w, w < 5 → 0 < w → ∀ h, h < 5 → ∀ c, c < 16 → (edgeN w h * 2 ^ (w - 1)).testBit c = decide (c < w * h ∧ c % w = w - 1) := by decide +kernel
theorem edge_lt : ∀ w, w < 5 → 0 < w → ∀ h, h < 5 → edgeN w h < 65536 ∧ edgeN w h * 2 ^ (w - 1) < 65536 := by decide +kernel
def nxt (w e f R : Nat) : Nat := ((R / 2 ^ w ||| R * 2 ^ w) ||| (R &&& (e ^^^ 65535)) / 2 ^ 1) ||| (R &&& (f ^^^ 65535)) * 2 ^ 1
theorem c_nextTo {w e f R : Nat} (hw : w < 5) (he : e < 65536) (hf : f < 65536) (hR : R < 65536) : f_X0_nextTo (nI w) (nI e) (nI f) (nI R) = some (nI (nxt w e f R)) := by
  have a1 : R &&& (e ^^^ 65535) < 65536 := Nat.lt_of_le_of_lt Nat.and_le_left hR
  have a2 : R &&& (f ^^^ 65535) < 65536 := Nat.lt_of_le_of_lt Nat.and_le_left hR
  have a3 : (2 : Nat) ^ w ≤ 2 ^ 4 := Nat.pow_le_pow_right (by omega) (by omega)
  have a4 : R * 2 ^ w ≤ 65536 * 16 := Nat.mul_le_mul (by omega) (by omega)
  unfold f_X0_nextTo nxt
  simp (disch := omega) only [q1, nb_not', nb_shr, nb_shl, nb_or]
theorem nxt_tb {w h R d : Nat} (hw : w < 5) (hw0 : 0 < w) (hh : h < 5) (hR : ∀ c, R.testBit c = true → c < w * h) (hN : w * h ≤ 16) (hd : d < 16) :
    (nxt w (edgeN w h) (edgeN w h * 2 ^ (w - 1)) R).testBit d = true ↔ ∃ c, R.testBit c = true ∧ adjB w c d = true := by
  have t16 : ∀ c, c < 16 → Nat.testBit 65535 c = true := by decide +kernel
  unfold nxt
  rw [Nat.testBit_or, Nat.testBit_or, Nat.testBit_or, Nat.testBit_div_two_pow, Nat.testBit_div_two_pow, Nat.testBit_mul_two_pow, Nat.testBit_mul_two_pow, Nat.testBit_and, Nat.testBit_and, Nat.testBit_xor, Nat.testBit_xor]
  unfold adjB
  simp only [Bool.or_eq_true, Bool.and_eq_true, decide_eq_true_eq]
  constructor
  · rintro (((h1 | ⟨h1, h2⟩) | ⟨h1, h2⟩) | ⟨h1, h2, h3⟩)
    · exact ⟨_, h1, Or.inl (Or.inl (Or.inr (by omega)))⟩
    · exact ⟨_, h2, Or.inl (Or.inl (Or.inl (by omega)))⟩
    · have := hR _ h1
      rw [edge_tb w hw hw0 h hh _ (by omega), t16 _ (by omega)] at h2
      refine ⟨_, h1, Or.inl (Or.inr ⟨by omega, fun h0 => ?_⟩)⟩
      rw [decide_eq_true (p := d + 1 < w * h ∧ (d + 1) % w = 0) ⟨by omega, by simpa using h0⟩] at h2
      cases h2
    · have := hR _ h2
      rw [edge_tb2 w hw hw0 h hh _ (by omega), t16 _ (by omega)] at h3
      refine ⟨_, h2, Or.inr ⟨by omega, fun h0 => ?_⟩⟩
      rw [decide_eq_true (p := d - 1 < w * h ∧ (d - 1) % w = w - 1) ⟨by omega, h0⟩] at h3
      cases h3
  · rintro ⟨c, hc, (((h1 | h1) | ⟨h1, h2⟩) | ⟨h1, h2⟩)⟩
    · subst h1
      exact Or.inl (Or.inl (Or.inr ⟨by omega, by rw [Nat.add_sub_cancel]; exact hc⟩))
    · subst h1
      exact Or.inl (Or.inl (Or.inl hc))
    · have := hR _ hc
      subst h1
      refine Or.inl (Or.inr ⟨hc, ?_⟩)
      rw [edge_tb w hw hw0 h hh _ (by omega), t16 _ (by omega), decide_eq_false (fun q => h2 q.2)]
      rfl
    · have := hR _ hc
      subst h1
      refine Or.inr ⟨by omega, ?_, ?_⟩
      · rw [Nat.add_sub_cancel]; exact hc
      · rw [Nat.add_sub_cancel, edge_tb2 w hw hw0 h hh _ (by omega), t16 _ (by omega), decide_eq_false (fun q => h2 q.2)]
        rfl
/-! the lowest bit -/
theorem low_land (c q W : Nat) (hq : 2 * q + 1 < 2 ^ W) : (2 ^ c * (2 * q + 1)) &&& (2 ^ c * (2 ^ W - (2 * q + 1))) = 2 ^ c := by
  obtain ⟨V, rfl⟩ : ∃ V, W = V + 1 := ⟨W - 1, by cases W <;> simp_all⟩
  have hq2 : q < 2 ^ V := by rw [Nat.pow_succ] at hq; omega
  have e : 2 ^ (V + 1) - (2 * q + 1) = 2 * (2 ^ V - (q + 1)) + 1 := by rw [Nat.pow_succ]; omega
  rw [e]
  apply Nat.eq_of_testBit_eq
  intro i
  rw [Nat.testBit_and, Nat.testBit_two_pow_mul, Nat.testBit_two_pow_mul, Nat.testBit_two_pow]
  by_cases h1 : c ≤ i
  · obtain ⟨j, rfl⟩ : ∃ j, i = c + j := ⟨i - c, by omega⟩
    cases j with
    | zero => simp
    | succ j =>
      have e2 : c + (j + 1) - c = j + 1 := by omega
      rw [e2, Nat.testBit_succ, Nat.testBit_succ, show (2 * q + 1) / 2 = q by omega, show (2 * (2 ^ V - (q + 1)) + 1) / 2 = 2 ^ V - (q + 1) by omega, Nat.testBit_two_pow_sub_succ hq2]
      have : ¬ c = c + (j + 1) := by omega
      cases q.testBit j <;> simp [this]
  · have h2 : ¬ c = i := by omega
    have h3 : decide (i ≥ c) = false := decide_eq_false h1
    rw [h3]; simp [h2]
theorem low_ex : ∀ B, 0 < B → ∃ c q, B = 2 ^ c * (2 * q + 1) := by
  intro B
  induction B using Nat.strongRecOn with
  | ind B ih =>
    intro h0
    by_cases h : B % 2 = 1
    · exact ⟨0, B / 2, by rw [Nat.pow_zero]; omega⟩
    · obtain ⟨c, q, e⟩ := ih (B / 2) (by omega) (by omega)
      refine ⟨c + 1, q, ?_⟩
      rw [Nat.pow_succ, Nat.mul_assoc, Nat.mul_comm 2, ← Nat.mul_assoc, ← e]; omega
theorem low_bit {B : Nat} (h0 : 0 < B) (hB : B < 65536) : ∃ c, B.testBit c = true ∧ nI B &&& -(nI B) = nI (2 ^ c) := by
  obtain ⟨c, q, e⟩ := low_ex B h0
  have hc : c < 32 := by
    apply Classical.byContradiction
    intro hn
    have : 2 ^ 32 ≤ 2 ^ c := Nat.pow_le_pow_right (by omega) (by omega)
    have h2 : 2 ^ c * 1 ≤ 2 ^ c * (2 * q + 1) := Nat.mul_le_mul_left _ (by omega)
    omega
  have hn : -(nI B) = nI (2 ^ c * (2 ^ (32 - c) - (2 * q + 1))) := by
    rw [Nat.mul_sub, ← Nat.pow_add, show c + (32 - c) = 32 by omega, ← e]
    have : nI B + nI (2 ^ 32 - B) = 0 := by rw [nI_add, show B + (2 ^ 32 - B) = 2 ^ 32 by omega]; decide
    have h3 : nI (2 ^ 32 - B) = -(nI B) + (nI B + nI (2 ^ 32 - B)) := by rw [← Int32.add_assoc, Int32.add_left_neg, Int32.zero_add]
    rw [h3, this, Int32.add_zero]
  have hq : 2 * q + 1 < 2 ^ (32 - c) := by
    apply Classical.byContradiction
    intro hn
    have h2 : 2 ^ c * 2 ^ (32 - c) ≤ 2 ^ c * (2 * q + 1) := Nat.mul_le_mul_left _ (by omega)
    rw [← Nat.pow_add, show c + (32 - c) = 32 by omega] at h2
    omega
  refine ⟨c, ?_, ?_⟩
  · rw [e, Nat.testBit_two_pow_mul]; simp
  · rw [hn, nb_and]
    have e3 := low_land c q (32 - c) hq
    rw [← e] at e3
    rw [e3]
section HC
variable {n w h : Nat} {cs v : Nat → Nat}
theorem c_L7 (hw : w < 5) (hw0 : 0 < w) (hh : h < 5) (hN : w * h ≤ 16) (hc : ∀ k, k < n → cs k < w * h) (hi : ∀ i j, i < n → j < n → cs i = cs j → i = j) (F : Nat) {B : Nat} (hB16 : B < 65536) (hB : ∀ c, B.testBit c = true ↔ ∃ j, j < n ∧ v j = 1 ∧ cs j = c) {a0 : Nat} (ha0 : a0 < n) (ha1 : v a0 = 1) :
    ∀ d t m R, w * h ≤ t + d → t < 100 → d < m → Sb R B → R.testBit (cs a0) = true → (∀ P, Clo w n cs v P → P a0 → ∀ j, j < n → R.testBit (cs j) = true → P j) → (t + 1 ≤ cntB R.testBit (w * h) ∨ Clo w n cs v (fun j => R.testBit (cs j) = true)) →
      f_X0_hangTogether_L7 (nI w) (nI (w * h)) (nI (edgeN w h)) (nI (edgeN w h * 2 ^ (w - 1))) F m (nI B) (nI R) (nI t) = some (bI (Conn w n cs v)) := by
  have hc16 : ∀ k, k < n → cs k < 16 := fun k hk => by have := hc k hk; omega
  have he := edge_lt w hw hw0 h hh
  intro d
  induction d with
  | zero =>
    intro t m R e1 e11 e2 hR hR0 hS hK
    obtain ⟨m, rfl⟩ : ∃ m', m = m' + 1 := ⟨m - 1, by omega⟩
    have hR16 : R < 65536 := hR.lt (k := 16) hB16
    have hcl : Clo w n cs v (fun j => R.testBit (cs j) = true) := by
      rcases hK with hK | hK
      · have := cntB_le (p := R.testBit) (w * h); omega
      · exact hK
    rw [f_X0_hangTogether_L7]
    by_cases hE : R = B
    · rw [bI_t ((conn_from hw hw0 hc16 ha0 ha1).mpr (fun b hb hb1 P hP h0 => hS P hP h0 b hb (by rw [hE]; exact (hB _).mpr ⟨b, hb, hb1, rfl⟩)))]
      simp (disch := omega) only [q0, q1, q2, q3, q4, q5, q7, q9, q10, q16, q30, q48, q57, q60, q99, q255, q300, q4096, pk_mul, nI_add, pk_sub, n_gin, n_cl, ifle_t, ifle_f, iflt_t, iflt_f, ifeq_t, ifeq_f, ifne_t, ifne_f, ifm_f, ifm_t, iflm_f, ifm0_t, ifm0_f, ob, g1n, g0n, ↓reduceIte, not_true_eq_false, not_false_eq_true, f_X0_hangTogether_J36]
    · rw [bI_f (fun hq => hE (Sb.antisymm hR (fun j hj => by
        obtain ⟨k, g1, g2, rfl⟩ := (hB j).mp hj
        exact (conn_from hw hw0 hc16 ha0 ha1).mp hq k g1 g2 _ hcl hR0)))]
      simp (disch := omega) only [q0, q1, q2, q3, q4, q5, q7, q9, q10, q16, q30, q48, q57, q60, q99, q255, q300, q4096, pk_mul, nI_add, pk_sub, n_gin, n_cl, ifle_t, ifle_f, iflt_t, iflt_f, ifeq_t, ifeq_f, ifne_t, ifne_f, ifm_f, ifm_t, iflm_f, ifm0_t, ifm0_f, ob, g1n, g0n, ↓reduceIte, not_true_eq_false, not_false_eq_true, f_X0_hangTogether_J36]
  | succ d ih =>
    intro t m R e1 e11 e2 hR hR0 hS hK
    obtain ⟨m, rfl⟩ : ∃ m', m = m' + 1 := ⟨m - 1, by omega⟩
    have hR16 : R < 65536 := hR.lt (k := 16) hB16
    by_cases hE : R = B
    · rw [f_X0_hangTogether_L7]
      rw [bI_t ((conn_from hw hw0 hc16 ha0 ha1).mpr (fun b hb hb1 P hP h0 => hS P hP h0 b hb (by rw [hE]; exact (hB _).mpr ⟨b, hb, hb1, rfl⟩)))]
      by_cases ht : w * h ≤ t
      · simp (disch := omega) only [q0, q1, q2, q3, q4, q5, q7, q9, q10, q16, q30, q48, q57, q60, q99, q255, q300, q4096, pk_mul, nI_add, pk_sub, n_gin, n_cl, ifle_t, ifle_f, iflt_t, iflt_f, ifeq_t, ifeq_f, ifne_t, ifne_f, ifm_f, ifm_t, iflm_f, ifm0_t, ifm0_f, ob, g1n, g0n, ↓reduceIte, not_true_eq_false, not_false_eq_true, f_X0_hangTogether_J36]
      · simp (disch := omega) only [q0, q1, q2, q3, q4, q5, q7, q9, q10, q16, q30, q48, q57, q60, q99, q255, q300, q4096, pk_mul, nI_add, pk_sub, n_gin, n_cl, ifle_t, ifle_f, iflt_t, iflt_f, ifeq_t, ifeq_f, ifne_t, ifne_f, ifm_f, ifm_t, iflm_f, ifm0_t, ifm0_f, ob, g1n, g0n, ↓reduceIte, not_true_eq_false, not_false_eq_true, f_X0_hangTogether_J36]
    · by_cases ht : w * h ≤ t
      · have hcl : Clo w n cs v (fun j => R.testBit (cs j) = true) := by
          rcases hK with hK | hK
          · have := cntB_le (p := R.testBit) (w * h); omega
          · exact hK
        rw [f_X0_hangTogether_L7]
        rw [bI_f (fun hq => hE (Sb.antisymm hR (fun j hj => by
          obtain ⟨k, g1, g2, rfl⟩ := (hB j).mp hj
          exact (conn_from hw hw0 hc16 ha0 ha1).mp hq k g1 g2 _ hcl hR0)))]
        simp (disch := omega) only [q0, q1, q2, q3, q4, q5, q7, q9, q10, q16, q30, q48, q57, q60, q99, q255, q300, q4096, pk_mul, nI_add, pk_sub, n_gin, n_cl, ifle_t, ifle_f, iflt_t, iflt_f, ifeq_t, ifeq_f, ifne_t, ifne_f, ifm_f, ifm_t, iflm_f, ifm0_t, ifm0_f, ob, g1n, g0n, ↓reduceIte, not_true_eq_false, not_false_eq_true, f_X0_hangTogether_J36]
      · have hRN : ∀ c, R.testBit c = true → c < w * h := fun c hc1 => by
          obtain ⟨k, g1, g2, rfl⟩ := (hB c).mp (hR c hc1)
          exact hc k g1
        have hN1 := fun d hd => nxt_tb (R := R) (d := d) hw hw0 hh hRN hN hd
        have hnx : nxt w (edgeN w h) (edgeN w h * 2 ^ (w - 1)) R &&& B < 65536 := Nat.lt_of_le_of_lt Nat.and_le_right hB16
        rw [f_X0_hangTogether_L7]
        simp (disch := omega) only [q0, q1, q2, q3, q4, q5, q7, q9, q10, q16, q30, q48, q57, q60, q99, q255, q300, q4096, pk_mul, nI_add, pk_sub, n_gin, n_cl, ifle_t, ifle_f, iflt_t, iflt_f, ifeq_t, ifeq_f, ifne_t, ifne_f, ifm_f, ifm_t, iflm_f, ifm0_t, ifm0_f, ob, g1n, g0n, ↓reduceIte, not_true_eq_false, not_false_eq_true, c_nextTo, nb_and, nb_or]
        have hmem : ∀ j, (R ||| nxt w (edgeN w h) (edgeN w h * 2 ^ (w - 1)) R &&& B).testBit j = true ↔ R.testBit j = true ∨ (B.testBit j = true ∧ ∃ c, R.testBit c = true ∧ adjB w c j = true) := by
          intro j
          rw [Nat.testBit_or, Nat.testBit_and, Bool.or_eq_true, Bool.and_eq_true]
          constructor
          · rintro (h1 | ⟨h1, h2⟩)
            · exact Or.inl h1
            · exact Or.inr ⟨h2, (hN1 j (tb_lt (k := 16) hB16 h2)).mp h1⟩
          · rintro (h1 | ⟨h1, h2⟩)
            · exact Or.inl h1
            · exact Or.inr ⟨(hN1 j (tb_lt (k := 16) hB16 h1)).mpr h2, h1⟩
        have hsub : Sb R (R ||| nxt w (edgeN w h) (edgeN w h * 2 ^ (w - 1)) R &&& B) := fun j hj => (hmem j).mpr (Or.inl hj)
        refine ih (t + 1) m _ (by omega) (by omega) (by omega) (fun j hj => ?_) (hsub _ hR0) (fun P hP h0 j hj hj2 => ?_) ?_
        · rcases (hmem j).mp hj with h1 | h1
          · exact hR j h1
          · exact h1.1
        · rcases (hmem _).mp hj2 with h1 | ⟨h1, c, h2, h3⟩
          · exact hS P hP h0 j hj h1
          · obtain ⟨k, g1, g2, rfl⟩ := (hB c).mp (hR c h2)
            obtain ⟨j', g3, g4, g5⟩ := (hB _).mp h1
            obtain rfl := hi j' j g3 hj g5
            exact hP k j' g1 g3 g2 g4 (hS P hP h0 k g1 h2) h3
        · by_cases hE2 : R ||| nxt w (edgeN w h) (edgeN w h * 2 ^ (w - 1)) R &&& B = R
          · rw [hE2]
            refine Or.inr (fun k i x1 x2 x3 x4 x5 x6 => ?_)
            show R.testBit (cs i) = true
            rw [← hE2]
            exact (hmem _).mpr (Or.inr ⟨(hB _).mpr ⟨i, x2, x4, rfl⟩, _, x5, x6⟩)
          · rcases hK with hK | hK
            · obtain ⟨j, hj, hj2⟩ : ∃ j, (R ||| nxt w (edgeN w h) (edgeN w h * 2 ^ (w - 1)) R &&& B).testBit j = true ∧ ¬ R.testBit j = true := by
                apply Classical.byContradiction
                intro hn
                refine hE2 (Sb.antisymm (fun j hj => ?_) hsub)
                apply Classical.byContradiction
                exact fun h => hn ⟨j, hj, h⟩
              have hjN : j < w * h := by
                rcases (hmem j).mp hj with h1 | h1
                · exact hRN j h1
                · obtain ⟨k, g1, g2, rfl⟩ := (hB j).mp h1.1
                  exact hc k g1
              have := cntB_lt (w * h) (fun i _ h => hsub i h) j hjN hj hj2
              exact Or.inl (by omega)
            · refine absurd (Sb.antisymm (fun j hj => ?_) hsub) hE2
              rcases (hmem j).mp hj with h1 | ⟨h1, c, h2, h3⟩
              · exact h1
              · obtain ⟨k, g1, g2, rfl⟩ := (hB c).mp (hR c h2)
                obtain ⟨j', g3, g4, rfl⟩ := (hB _).mp h1
                exact hK k j' g1 g3 g2 g4 h2 h3
theorem c_hang (hw : w < 5) (hw0 : 0 < w) (hh : h < 5) (hN : w * h ≤ 16) (hc : ∀ k, k < n → cs k < w * h) (hi : ∀ i j, i < n → j < n → cs i = cs j → i = j) {F : Nat} (hF : 100 < F) :
    f_X0_hangTogether (nI w) (nI (w * h)) (nI (edgeN w h)) (nI (edgeN w h * 2 ^ (w - 1))) F (nI (oneT cs v n)) = some (bI (Conn w n cs v)) := by
  have hB := fun c => oneT_tb (cs := cs) (v := v) c n
  have hB16 : oneT cs v n < 2 ^ 16 := oneT_lt n (fun j hj => by have := hc j hj; omega)
  unfold f_X0_hangTogether
  rw [q0]
  by_cases h0 : oneT cs v n = 0
  · have hn : ∀ k, k < n → ¬ v k = 1 := fun k hk h1 => by
      have := (hB (cs k)).mpr ⟨k, hk, h1, rfl⟩
      rw [h0, Nat.zero_testBit] at this; cases this
    rw [bI_t (conn_none hn), h0, show nI 0 &&& -nI 0 = nI 0 by decide]
    obtain ⟨F, rfl⟩ : ∃ F', F = F' + 1 := ⟨F - 1, by omega⟩
    rw [f_X0_hangTogether_L7]
    by_cases hg : w * h = 0
    · simp (disch := omega) only [q0, q1, q2, q3, q4, q5, q7, q9, q10, q16, q30, q48, q57, q60, q99, q255, q300, q4096, pk_mul, nI_add, pk_sub, n_gin, n_cl, ifle_t, ifle_f, iflt_t, iflt_f, ifeq_t, ifeq_f, ifne_t, ifne_f, ifm_f, ifm_t, iflm_f, ifm0_t, ifm0_f, ob, g1n, g0n, ↓reduceIte, not_true_eq_false, not_false_eq_true, f_X0_hangTogether_J36]
    · simp (disch := omega) only [q0, q1, q2, q3, q4, q5, q7, q9, q10, q16, q30, q48, q57, q60, q99, q255, q300, q4096, pk_mul, nI_add, pk_sub, n_gin, n_cl, ifle_t, ifle_f, iflt_t, iflt_f, ifeq_t, ifeq_f, ifne_t, ifne_f, ifm_f, ifm_t, iflm_f, ifm0_t, ifm0_f, ob, g1n, g0n, ↓reduceIte, not_true_eq_false, not_false_eq_true, f_X0_hangTogether_J36]
  · obtain ⟨c, h1, h2⟩ := low_bit (B := oneT cs v n) (by omega) hB16
    obtain ⟨a0, g1, g2, rfl⟩ := (hB c).mp h1
    have t1 : (2 ^ cs a0).testBit (cs a0) = true := by rw [Nat.testBit_two_pow]; simp
    have t2 : ∀ j, (2 ^ cs a0).testBit j = true → cs a0 = j := fun j h => by rw [Nat.testBit_two_pow] at h; exact of_decide_eq_true h
    rw [h2]
    refine c_L7 hw hw0 hh hN hc hi F hB16 hB g1 g2 (w * h) 0 F (2 ^ cs a0) (by omega) (by omega) (by omega) (fun j hj => ?_) t1 (fun P hP h j hj hj2 => ?_) (Or.inl ?_)
    · rw [← t2 j hj]; exact h1
    · rw [← hi _ _ g1 hj (t2 _ hj2)]; exact h
    · have := cntB_pos (p := (2 ^ cs a0).testBit) (w * h) (hc a0 g1) t1; omega
end HC
