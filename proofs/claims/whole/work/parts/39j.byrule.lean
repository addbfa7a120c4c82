/-! PURE PART. by rule -/
section BR
variable {RK RN RS RC KK KN KS KC LS LL JS JL JN : Nat → Int32} {w h s r n N i z : Nat} {cs : Nat → Nat} {c y b : Nat → Nat}
/-- a literal is so in a way to fill the rule's cells -/
def LitSo (n : Nat) (cs v : Nat → Nat) (c0 y0 b0 : Nat) : Prop := ∃ k, k < n ∧ cs k = c0 ∧ (v k = y0 ↔ b0 = 1)
def ByRuleP (kd nu : Int32) (w s n z : Nat) (cs c y b : Nat → Nat) : Prop := ∀ v : Nat → Nat, (∀ k, k < n → v k < s) → MeetsP kd nu w n cs v → ∃ j, j < z ∧ LitSo n cs v (c j) (y j) (b j)
theorem mt_congr (kd nu : Int32) {v v' : Nat → Nat} (hw : 1 ≤ w) (hw4 : w ≤ 4) (hn : n ≤ 9) (hc : ∀ k, k < n → cs k < 16) (h6 : ∀ k, k < n → v k < 6) (e : ∀ k, k < n → v' k = v k) : MeetsP kd nu w n cs v ↔ MeetsP kd nu w n cs v' := by
  have R : RowR (fun _ => nI n) (fun k => nI (cs (k - 9 * 0))) 0 n cs := ⟨by omega, rfl, hn, fun k hk => by show nI (cs (9 * 0 + k - 9 * 0)) = _; rw [show 9 * 0 + k - 9 * 0 = k by omega], hc⟩
  have a := m_mt (KK := fun _ => kd) (KN := fun _ => nu) (FI := fun k => nI (v k)) (v := v) hw hw4 R (fun k hk => rfl) h6 (F := 101) (by omega)
  have b := m_mt (KK := fun _ => kd) (KN := fun _ => nu) (FI := fun k => nI (v k)) (v := v') hw hw4 R (fun k hk => by show nI (v k) = _; rw [e k hk]) (fun k hk => by rw [e k hk]; exact h6 k hk) (F := 101) (by omega)
  rw [a] at b
  have e2 : bI (MeetsP kd nu w n cs v) = bI (MeetsP kd nu w n cs v') := by
    have := b; rw [Option.some.injEq] at this; exact this
  constructor
  · intro h1
    rw [bI_t h1] at e2
    rw [← bI_1 (MeetsP kd nu w n cs v')]; exact e2.symm
  · intro h1
    rw [bI_t h1] at e2
    rw [← bI_1 (MeetsP kd nu w n cs v)]; exact e2
theorem pow_b {s k : Nat} (hs : s ≤ 6) (hk : k ≤ 9) : s ^ k ≤ 10077696 := by
  have h1 : s ^ k ≤ 6 ^ k := Nat.pow_le_pow_left hs k
  have h2 : 6 ^ k ≤ 6 ^ 9 := Nat.pow_le_pow_right (by omega) hk
  have : (6 : Nat) ^ 9 = 10077696 := by decide
  omega
theorem c_tried_L (R : RowR RS RC r n cs) (hs : s ≤ 6) (F : Nat) : ∀ d k m, k + d = n → d < m → f_X3_canBeTried_L4 (nI s) RS F m (nI r) (nI (s ^ k)) (nI k) = some (bI (s ^ n ≤ 4096)) := by
  have ⟨h1, h2, h3, h4, h5⟩ := R
  intro d
  induction d with
  | zero =>
    intro k m e1 e2
    obtain ⟨m, rfl⟩ : ∃ m', m = m' + 1 := ⟨m - 1, by omega⟩
    obtain rfl : k = n := by omega
    have hb := pow_b (k := k) hs h3
    rw [f_X3_canBeTried_L4]
    by_cases hq : s ^ k ≤ 4096
    · simp (disch := omega) only [q0, q1, q2, q3, q4, q5, q7, q9, q10, q16, q30, q48, q57, q60, q99, q255, q300, q4096, pk_mul, nI_add, pk_sub, n_gin, n_cl, ifle_t, ifle_f, iflt_t, iflt_f, ifeq_t, ifeq_f, ifne_t, ifne_f, ifm_f, ifm_t, iflm_f, ifm0_t, ifm0_f, ob, g1n, g0n, ↓reduceIte, not_true_eq_false, not_false_eq_true, h2, bI_t hq]
    · have hl : nI 4096 < nI (s ^ k) := nI_lt (by omega) (by omega)
      simp (disch := omega) only [q0, q1, q2, q3, q4, q5, q7, q9, q10, q16, q30, q48, q57, q60, q99, q255, q300, q4096, pk_mul, nI_add, pk_sub, n_gin, n_cl, ifle_t, ifle_f, iflt_t, iflt_f, ifeq_t, ifeq_f, ifne_t, ifne_f, ifm_f, ifm_t, iflm_f, ifm0_t, ifm0_f, ob, g1n, g0n, ↓reduceIte, not_true_eq_false, not_false_eq_true, h2, bI_f hq, if_pos hl]
  | succ d ih =>
    intro k m e1 e2
    obtain ⟨m, rfl⟩ : ∃ m', m = m' + 1 := ⟨m - 1, by omega⟩
    have e := ih (k + 1) m (by omega) (by omega)
    rw [Nat.pow_succ] at e
    rw [f_X3_canBeTried_L4]
    simp (disch := omega) only [q0, q1, q2, q3, q4, q5, q7, q9, q10, q16, q30, q48, q57, q60, q99, q255, q300, q4096, pk_mul, nI_add, pk_sub, n_gin, n_cl, ifle_t, ifle_f, iflt_t, iflt_f, ifeq_t, ifeq_f, ifne_t, ifne_f, ifm_f, ifm_t, iflm_f, ifm0_t, ifm0_f, ob, g1n, g0n, ↓reduceIte, not_true_eq_false, not_false_eq_true, h2, f_X0_symbols]
    exact e
theorem TR_tb (O : OkL N s z c y b) (hs : s ≤ 6) (cell x : Nat) : ∀ k, k ≤ z → ((TR s c y b k cell).testBit x = true ↔ x < s ∧ ∀ j, j < k → c j = cell → (x = y j ↔ b j = 0)) := by
  intro k
  induction k with
  | zero =>
    intro _
    show (2 ^ s - 1).testBit x = true ↔ _
    rw [Nat.testBit_two_pow_sub_one, decide_eq_true_eq]
    exact ⟨fun h => ⟨h, fun j hj => by omega⟩, fun h => h.1⟩
  | succ k ih =>
    intro hk
    have i0 := ih (by omega)
    have o := O.2.1 k (by omega)
    show (upN (TR s c y b k) (c k) (nar (TR s c y b k (c k)) (y k) (1 - b k)) cell).testBit x = true ↔ _
    unfold upN
    by_cases hc : cell = c k
    · subst hc
      rw [if_pos rfl]
      have key : (nar (TR s c y b k (c k)) (y k) (1 - b k)).testBit x = true ↔ (TR s c y b k (c k)).testBit x = true ∧ (x = y k ↔ b k = 0) := by
        unfold nar
        by_cases hb : b k = 0
        · rw [if_pos (by omega), Nat.testBit_and, Nat.testBit_two_pow, Bool.and_eq_true, decide_eq_true_eq]
          exact ⟨fun h => ⟨h.1, ⟨fun _ => hb, fun _ => h.2.symm⟩⟩, fun h => ⟨h.1, (h.2.mpr hb).symm⟩⟩
        · rw [if_neg (by omega), Nat.testBit_and, Nat.testBit_xor, Nat.testBit_two_pow, Bool.and_eq_true]
          constructor
          · intro hh
            refine ⟨hh.1, ⟨fun e => ?_, fun e => absurd e hb⟩⟩
            subst e
            have t : Nat.testBit 65535 (y k) = true := (by decide +kernel : ∀ q, q < 16 → Nat.testBit 65535 q = true) (y k) (by omega)
            rw [t, decide_eq_true rfl] at hh
            exact absurd hh.2 (by decide)
          · intro hh
            have hx := (i0.mp hh.1).1
            have t : Nat.testBit 65535 x = true := (by decide +kernel : ∀ q, q < 16 → Nat.testBit 65535 q = true) x (by omega)
            refine ⟨hh.1, ?_⟩
            rw [t, decide_eq_false (fun e => hb (hh.2.mp e.symm))]; rfl
      rw [key, i0]
      constructor
      · rintro ⟨⟨a1, a2⟩, a3⟩
        refine ⟨a1, fun j hj hcj => ?_⟩
        by_cases hjk : j = k
        · subst hjk; exact a3
        · exact a2 j (by omega) hcj
      · rintro ⟨a1, a2⟩
        exact ⟨⟨a1, fun j hj hcj => a2 j (by omega) hcj⟩, a2 k (by omega) rfl⟩
    · rw [if_neg hc, i0]
      constructor
      · rintro ⟨a1, a2⟩
        refine ⟨a1, fun j hj hcj => ?_⟩
        by_cases hjk : j = k
        · subst hjk; exact absurd hcj.symm hc
        · exact a2 j (by omega) hcj
      · rintro ⟨a1, a2⟩
        exact ⟨a1, fun j hj hcj => a2 j (by omega) hcj⟩
/-- some way from place k on within the masks meets the rule -/
def CanB (kd nu : Int32) (w s n : Nat) (cs M v : Nat → Nat) (k : Nat) : Prop := ∃ v' : Nat → Nat, (∀ j, j < k → v' j = v j) ∧ (∀ j, k ≤ j → j < n → v' j < s ∧ (M (cs j)).testBit (v' j) = true) ∧ MeetsP kd nu w n cs v'
theorem canb_step {kd nu : Int32} {M v : Nat → Nat} {k : Nat} (hk : k < n) : CanB kd nu w s n cs M v k ↔ ∃ x, x < s ∧ (M (cs k)).testBit x = true ∧ CanB kd nu w s n cs M (upN v k x) (k + 1) := by
  constructor
  · rintro ⟨v', a1, a2, a3⟩
    refine ⟨v' k, (a2 k (Nat.le_refl _) hk).1, (a2 k (Nat.le_refl _) hk).2, v', fun j hj => ?_, fun j h1 h2 => a2 j (by omega) h2, a3⟩
    unfold upN
    by_cases hjk : j = k
    · rw [if_pos hjk, hjk]
    · rw [if_neg hjk]; exact a1 j (by omega)
  · rintro ⟨x, b1, b2, v', a1, a2, a3⟩
    have hkx : v' k = x := by
      have := a1 k (by omega)
      unfold upN at this
      rw [if_pos rfl] at this; exact this
    refine ⟨v', fun j hj => ?_, fun j h1 h2 => ?_, a3⟩
    · have := a1 j (by omega)
      unfold upN at this
      rw [if_neg (by omega)] at this; exact this
    · by_cases hjk : j = k
      · rw [hjk, hkx]; exact ⟨b1, b2⟩
      · exact a2 j (by omega) h2
theorem c_met (D0 : 1 ≤ w ∧ w ≤ 4 ∧ 1 ≤ h ∧ h ≤ 4 ∧ 1 ≤ s ∧ s ≤ 6 ∧ 1 ≤ w * h ∧ w * h ≤ 16) (R : RowR RS RC r n cs) (O : OkR (w * h) n cs) {US : Nat → Int32} {M : Nat → Nat} (hU : Rep (w * h) US M) {F : Nat} (hF : 100 < F) :
    ∀ d k RT v, n < k + d → k ≤ n → (∀ j, j < k → RT (cs j) = nI (v j) ∧ v j < s) → ∃ RT', (∀ j, j < k → RT' (cs j) = RT (cs j)) ∧ f_X3_canBeMet (nI w) (nI (w * h)) (nI s) (nI (edgeN w h)) (nI (edgeN w h * 2 ^ (w - 1))) RK RN RS RC US F d RT (nI r) (nI k) = some (bI (CanB (RK r) (RN r) w s n cs M v k), RT') := by
  have ⟨h1, h2, h3, h4, h5⟩ := R
  intro d
  induction d with
  | zero => intro k RT v e1 e2; omega
  | succ d ih =>
    intro k RT v e1 e2 e3
    rw [f_X3_canBeMet]
    by_cases hk : k = n
    · subst hk
      refine ⟨RT, fun j hj => rfl, ?_⟩
      have em := c_mt (RK := RK) (RN := RN) D0 R O (SY := RT) (v := v) (fun j hj => (e3 j hj).1) (fun j hj => by have := (e3 j hj).2; omega) hF
      have hE : CanB (RK r) (RN r) w s k cs M v k ↔ MeetsP (RK r) (RN r) w k cs v := by
        constructor
        · rintro ⟨v', a1, _, a3⟩
          exact (mt_congr _ _ (by omega) (by omega) h3 h5 (fun j hj => by have := (e3 j hj).2; omega) a1).mpr a3
        · intro a
          exact ⟨v, fun _ _ => rfl, fun j q1 q2 => by omega, a⟩
      simp (disch := omega) only [q0, q1, q2, q3, q4, q5, q7, q9, q10, q16, q30, q48, q57, q60, q99, q255, q300, q4096, pk_mul, nI_add, pk_sub, n_gin, n_cl, ifle_t, ifle_f, iflt_t, iflt_f, ifeq_t, ifeq_f, ifne_t, ifne_f, ifm_f, ifm_t, iflm_f, ifm0_t, ifm0_f, ob, g1n, g0n, ↓reduceIte, not_true_eq_false, not_false_eq_true, h2, em, bI_gbl]
      rw [bI_c hE]
    · have hkn : k < n := by omega
      have hck := O.1 k hkn
      obtain ⟨u1, u2⟩ := hU (cs k) hck
      -- the loop over the symbols
      have loop : ∀ e x m RT, x + e = s → e < m → (∀ j, j < k → RT (cs j) = nI (v j) ∧ v j < s) → ∃ RT', (∀ j, j < k → RT' (cs j) = RT (cs j)) ∧ f_X3_canBeMet_L39 (nI w) (nI (w * h)) (nI s) (nI (edgeN w h)) (nI (edgeN w h * 2 ^ (w - 1))) RK RN RS RC US (f_X3_canBeMet (nI w) (nI (w * h)) (nI s) (nI (edgeN w h)) (nI (edgeN w h * 2 ^ (w - 1))) RK RN RS RC US F d) F m (nI r) (nI k) (nI (cs k)) (nI (M (cs k))) (nI x) RT = some (bI (∃ x', x ≤ x' ∧ x' < s ∧ (M (cs k)).testBit x' = true ∧ CanB (RK r) (RN r) w s n cs M (upN v k x') (k + 1)), RT') := by
        intro e
        induction e with
        | zero =>
          intro x m RT g1 g2 g3
          obtain ⟨m, rfl⟩ : ∃ m', m = m' + 1 := ⟨m - 1, by omega⟩
          refine ⟨RT, fun _ _ => rfl, ?_⟩
          rw [f_X3_canBeMet_L39, bI_f (fun ⟨x', a, b, _⟩ => by omega)]
          simp (disch := omega) only [q0, q1, q2, q3, q4, q5, q7, q9, q10, q16, q30, q48, q57, q60, q99, q255, q300, q4096, pk_mul, nI_add, pk_sub, n_gin, n_cl, ifle_t, ifle_f, iflt_t, iflt_f, ifeq_t, ifeq_f, ifne_t, ifne_f, ifm_f, ifm_t, iflm_f, ifm0_t, ifm0_f, ob, g1n, g0n, ↓reduceIte, not_true_eq_false, not_false_eq_true, f_X0_symbols]
        | succ e ihe =>
          intro x m RT g1 g2 g3
          obtain ⟨m, rfl⟩ : ∃ m', m = m' + 1 := ⟨m - 1, by omega⟩
          have hp := nb_pw2 (k := x) (by omega)
          have hp0 := Nat.two_pow_pos x
          have hb := nb_bit (M (cs k)) x
          rw [f_X3_canBeMet_L39]
          by_cases ht : (M (cs k)).testBit x = true
          · rw [if_pos ht] at hb
            obtain ⟨RT1, i1, i2⟩ := ih (k + 1) (upd RT (cs k) (nI x)) (upN v k x) (by omega) (by omega) (fun j hj => by
              unfold upN
              by_cases hjk : j = k
              · subst hjk; rw [pk_us, if_pos rfl]; exact ⟨rfl, by omega⟩
              · rw [pk_un (fun q => hjk (O.2 j k (by omega) hkn q)), if_neg hjk]; exact g3 j (by omega))
            have hkeep : ∀ j, j < k → RT1 (cs j) = RT (cs j) := fun j hj => by
              rw [i1 j (by omega), pk_un (fun q => by have := O.2 j k (by omega) hkn q; omega)]
            by_cases hC : CanB (RK r) (RN r) w s n cs M (upN v k x) (k + 1)
            · refine ⟨RT1, hkeep, ?_⟩
              rw [bI_t ⟨x, Nat.le_refl _, by omega, ht, hC⟩]
              rw [bI_t hC] at i2
              simp (disch := omega) only [q0, q1, q2, q3, q4, q5, q7, q9, q10, q16, q30, q48, q57, q60, q99, q255, q300, q4096, pk_mul, nI_add, pk_sub, n_gin, n_cl, ifle_t, ifle_f, iflt_t, iflt_f, ifeq_t, ifeq_f, ifne_t, ifne_f, ifm_f, ifm_t, iflm_f, ifm0_t, ifm0_f, ob, g1n, g0n, ↓reduceIte, not_true_eq_false, not_false_eq_true, f_X0_symbols, nb_pow, nb_and, hb, i2]
            · rw [bI_f hC] at i2
              obtain ⟨RT2, j1, j2⟩ := ihe (x + 1) m RT1 (by omega) (by omega) (fun j hj => by rw [hkeep j hj]; exact g3 j hj)
              refine ⟨RT2, fun j hj => by rw [j1 j hj, hkeep j hj], ?_⟩
              simp (disch := omega) only [q0, q1, q2, q3, q4, q5, q7, q9, q10, q16, q30, q48, q57, q60, q99, q255, q300, q4096, pk_mul, nI_add, pk_sub, n_gin, n_cl, ifle_t, ifle_f, iflt_t, iflt_f, ifeq_t, ifeq_f, ifne_t, ifne_f, ifm_f, ifm_t, iflm_f, ifm0_t, ifm0_f, ob, g1n, g0n, ↓reduceIte, not_true_eq_false, not_false_eq_true, f_X0_symbols, nb_pow, nb_and, hb, i2, f_X3_canBeMet_J84]
              rw [j2]
              congr 2
              apply bI_c
              constructor
              · rintro ⟨x', a, a2⟩; exact ⟨x', by omega, a2⟩
              · rintro ⟨x', a, a2, a3, a4⟩
                by_cases hx : x' = x
                · subst hx; exact absurd a4 hC
                · exact ⟨x', by omega, a2, a3, a4⟩
          · rw [if_neg ht] at hb
            obtain ⟨RT2, j1, j2⟩ := ihe (x + 1) m RT (by omega) (by omega) g3
            refine ⟨RT2, j1, ?_⟩
            simp (disch := omega) only [q0, q1, q2, q3, q4, q5, q7, q9, q10, q16, q30, q48, q57, q60, q99, q255, q300, q4096, pk_mul, nI_add, pk_sub, n_gin, n_cl, ifle_t, ifle_f, iflt_t, iflt_f, ifeq_t, ifeq_f, ifne_t, ifne_f, ifm_f, ifm_t, iflm_f, ifm0_t, ifm0_f, ob, g1n, g0n, ↓reduceIte, not_true_eq_false, not_false_eq_true, f_X0_symbols, nb_pow, nb_and, hb, f_X3_canBeMet_J84]
            rw [j2]
            congr 2
            apply bI_c
            constructor
            · rintro ⟨x', a, a2⟩; exact ⟨x', by omega, a2⟩
            · rintro ⟨x', a, a2, a3, a4⟩
              by_cases hx : x' = x
              · subst hx; exact absurd a3 ht
              · exact ⟨x', by omega, a2, a3, a4⟩
      obtain ⟨RT', l1, l2⟩ := loop s 0 F RT (by omega) (by omega) e3
      refine ⟨RT', l1, ?_⟩
      simp (disch := omega) only [q0, q1, q2, q3, q4, q5, q7, q9, q10, q16, q30, q48, q57, q60, q99, q255, q300, q4096, pk_mul, nI_add, pk_sub, n_gin, n_cl, ifle_t, ifle_f, iflt_t, iflt_f, ifeq_t, ifeq_f, ifne_t, ifne_f, ifm_f, ifm_t, iflm_f, ifm0_t, ifm0_f, ob, g1n, g0n, ↓reduceIte, not_true_eq_false, not_false_eq_true, h2, l_cellAt R hkn, f_X4_symbolsOf, u1]
      rw [l2]
      congr 2
      apply bI_c
      rw [canb_step hkn]
      constructor
      · rintro ⟨x', _, a⟩; exact ⟨x', a⟩
      · rintro ⟨x', a⟩; exact ⟨x', by omega, a⟩
theorem byrule_iff (O : OkL N s z c y b) (hs : s ≤ 6) (kd nu : Int32) (v0 : Nat → Nat) : ¬ CanB kd nu w s n cs (TR s c y b z) v0 0 ↔ ByRuleP kd nu w s n z cs c y b := by
  constructor
  · intro hn v hv hm
    apply Classical.byContradiction
    intro hno
    refine hn ⟨v, fun j hj => by omega, fun j _ hj => ⟨hv j hj, ?_⟩, hm⟩
    rw [TR_tb O hs (cs j) (v j) z (Nat.le_refl _)]
    refine ⟨hv j hj, fun q hq hcq => ?_⟩
    have hb := (O.2.1 q hq).2.2
    have : ¬ (v j = y q ↔ b q = 1) := fun e => hno ⟨q, hq, j, hj, hcq.symm, e⟩
    by_cases hvy : v j = y q
    · have : ¬ b q = 1 := fun e => this ⟨fun _ => e, fun _ => hvy⟩
      exact ⟨fun _ => by omega, fun _ => hvy⟩
    · have : b q = 1 := by
        apply Classical.byContradiction
        intro e
        exact this ⟨fun e2 => absurd e2 hvy, fun e2 => absurd e2 e⟩
      exact ⟨fun e => absurd e hvy, fun e => by omega⟩
  · rintro hB ⟨v, _, h2, h3⟩
    obtain ⟨q, hq, j, hj, hcj, hiff⟩ := hB v (fun k hk => (h2 k (by omega) hk).1) h3
    have := ((TR_tb O hs (cs j) (v j) z (Nat.le_refl _)).mp (h2 j (by omega) hj).2).2 q hq hcj.symm
    have hb := (O.2.1 q hq).2.2
    by_cases hvy : v j = y q
    · have e1 := hiff.mp hvy
      have e2 := this.mp hvy
      omega
    · have e1 : ¬ b q = 1 := fun e => hvy (hiff.mpr e)
      have e2 : ¬ b q = 0 := fun e => hvy (this.mpr e)
      omega
theorem c_byRule (D0 : 1 ≤ w ∧ w ≤ 4 ∧ 1 ≤ h ∧ h ≤ 4 ∧ 1 ≤ s ∧ s ≤ 6 ∧ 1 ≤ w * h ∧ w * h ≤ 16) (R : RowR RS RC r n cs) (O : OkR (w * h) n cs) (L : RowC LS LL i z c y b) (hi : i < 61) (OL : OkL (w * h) s z c y b) {F : Nat} (hF : 100 < F) (RT US : Nat → Int32) :
    ∃ RT' US', f_X5_isByRule (nI w) (nI (w * h)) (nI s) (nI (edgeN w h)) (nI (edgeN w h * 2 ^ (w - 1))) RK RN RS RC LS LL F RT US (nI i) (nI r) = some (bI (s ^ n ≤ 4096 ∧ ByRuleP (RK r) (RN r) w s n z cs c y b), RT', US') := by
  have ht := c_tried_L (s := s) R (by omega) F n 0 F (by omega) (by have := R.2.2.1; omega)
  have hn := R.2.2.1
  have htr : f_X3_canBeTried (nI s) RS F (nI r) = some (bI (s ^ n ≤ 4096)) := ht
  unfold f_X5_isByRule
  rw [htr, ob]
  by_cases hw : s ^ n ≤ 4096
  · rw [bI_t hw]
    obtain ⟨US1, a1, a2⟩ := c_turn (by omega) (by omega) (by omega) L hi OL (F := F) (by omega) US
    obtain ⟨RT1, b1, b2⟩ := c_met (RK := RK) (RN := RN) D0 R O a2 hF 16 0 RT (fun _ => 0) (by omega) (by omega) (fun j hj => by omega)
    refine ⟨RT1, US1, ?_⟩
    have hB := byrule_iff (w := w) (n := n) (cs := cs) OL (by omega) (RK r) (RN r) (fun _ => 0)
    by_cases hC : CanB (RK r) (RN r) w s n cs (TR s c y b z) (fun _ => 0) 0
    · rw [bI_f (fun e => hB.mpr e.2 hC)]
      rw [bI_t hC] at b2
      simp (disch := omega) only [q0, q1, q2, q3, q4, q5, q7, q9, q10, q16, q30, q48, q57, q60, q99, q255, q300, q4096, pk_mul, nI_add, pk_sub, n_gin, n_cl, ifle_t, ifle_f, iflt_t, iflt_f, ifeq_t, ifeq_f, ifne_t, ifne_f, ifm_f, ifm_t, iflm_f, ifm0_t, ifm0_f, ob, g1n, g0n, ↓reduceIte, not_true_eq_false, not_false_eq_true, a1, b2]
    · rw [bI_t ⟨hw, hB.mp hC⟩]
      rw [bI_f hC] at b2
      simp (disch := omega) only [q0, q1, q2, q3, q4, q5, q7, q9, q10, q16, q30, q48, q57, q60, q99, q255, q300, q4096, pk_mul, nI_add, pk_sub, n_gin, n_cl, ifle_t, ifle_f, iflt_t, iflt_f, ifeq_t, ifeq_f, ifne_t, ifne_f, ifm_f, ifm_t, iflm_f, ifm0_t, ifm0_f, ob, g1n, g0n, ↓reduceIte, not_true_eq_false, not_false_eq_true, a1, b2]
  · rw [bI_f hw, bI_f (fun e => hw e.1)]
    refine ⟨RT, US, ?_⟩
    simp (disch := omega) only [q0, q1, q2, q3, q4, q5, q7, q9, q10, q16, q30, q48, q57, q60, q99, q255, q300, q4096, pk_mul, nI_add, pk_sub, n_gin, n_cl, ifle_t, ifle_f, iflt_t, iflt_f, ifeq_t, ifeq_f, ifne_t, ifne_f, ifm_f, ifm_t, iflm_f, ifm0_t, ifm0_f, ob, g1n, g0n, ↓reduceIte, not_true_eq_false, not_false_eq_true]
end BR
