/-! PURE PART. unit steps to their end: both sides come to the greatest quiet state, or there is none -/
def leM (N : Nat) (G M : Nat → Nat) : Prop := ∀ c, c < N → G c &&& M c = G c ∧ ¬ G c = 0 ∧ G c < 64
def QuietAll (ah : Nat) (Z : Nat → Nat) (C Y B : Nat → Nat → Nat) (M : Nat → Nat) : Prop := ∀ i, i < ah → Quiet M (Z i) (C i) (Y i) (B i)
def popN (M : Nat → Nat) : Nat → Nat
  | 0 => 0
  | n + 1 => popN M n + pcn (M n)
theorem popN_ext {M M' : Nat → Nat} : ∀ n, (∀ c, c < n → M c = M' c) → popN M n = popN M' n := by
  intro n
  induction n with
  | zero => intro _; rfl
  | succ n ih => intro h; rw [popN, popN, ih (fun c hc => h c (by omega)), h n (by omega)]
theorem popN_up {M : Nat → Nat} {c x : Nat} (hx : pcn x < pcn (M c)) : ∀ n, c < n → popN (upN M c x) n < popN M n := by
  intro n
  induction n with
  | zero => intro h; omega
  | succ n ih =>
    intro h
    rw [popN, popN]
    by_cases hc : c = n
    · subst hc
      have e := popN_ext (M := upN M c x) (M' := M) c (fun k hk => if_neg (by omega))
      have e2 : upN M c x c = x := if_pos rfl
      rw [e, e2]; omega
    · have e2 : upN M c x n = M n := if_neg (by omega)
      have := ih (by omega)
      rw [e2]; omega
theorem popN_le {M : Nat → Nat} {s : Nat} (hs : s < 7) : ∀ n, (∀ c, c < n → M c < 2 ^ s) → popN M n ≤ n * s := by
  intro n
  induction n with
  | zero => intro _; exact Nat.zero_le _
  | succ n ih =>
    intro h
    have := ih (fun c hc => h c (by omega))
    have h2 := f_5 s hs (M n) (h n (by omega))
    rw [popN, Nat.succ_mul]; omega
section RN
variable {N s ah : Nat} {Z : Nat → Nat} {C Y B : Nat → Nat → Nat} {M M0 : Nat → Nat}
theorem le_step {G : Nat → Nat} {z : Nat} {c y b : Nat → Nat} (hs : s ≤ 6) (O : OkL N s z c y b) (hM : ∀ k, k < N → M k < 64) (hG : leM N G M) (hq : Quiet G z c y b) {k0 : Nat} (hf : Forced M z c y b k0) : leM N G (upN M (c k0) (nar (M (c k0)) (y k0) (b k0))) := by
  have hd : ∀ k, k < z → slk M c y b k = 2 → slk G c y b k = 2 := fun k hk h => by
    have o := O.2.1 k hk
    have g := hG (c k) o.1
    exact f_1 (y k) (by omega) (b k) (by omega) (M (c k)) (hM _ o.1) (G (c k)) g.2.2 g.2.1 g.1 h
  have o := O.2.1 k0 hf.1
  have g := hG (c k0) o.1
  have h1 : slk G c y b k0 = 1 := by
    rcases st_3 (G (c k0)) (y k0) (b k0) with e | e | e
    · exact absurd ⟨hf.1, e, fun k hk hkk => hd k hk (hf.2.2 k hk hkk)⟩ (hq.2 k0)
    · exact e
    · refine absurd (fun k hk => ?_) hq.1
      by_cases hkk : k = k0
      · subst hkk; exact e
      · exact hd k hk (hf.2.2 k hk hkk)
  intro k hk
  unfold upN
  by_cases hkk : k = c k0
  · subst hkk
    rw [if_pos rfl]
    exact ⟨f_2 (y k0) (by omega) (b k0) (by omega) (M (c k0)) (hM _ o.1) (G (c k0)) g.2.2 g.2.1 g.1 h1, g.2⟩
  · rw [if_neg hkk]; exact hG k hk
theorem le_noconf {G : Nat → Nat} {z : Nat} {c y b : Nat → Nat} (hs : s ≤ 6) (O : OkL N s z c y b) (hM : ∀ k, k < N → M k < 64) (hG : leM N G M) (hq : Quiet G z c y b) : ¬ AllNot M z c y b := fun h =>
  hq.1 (fun k hk => by
    have o := O.2.1 k hk
    have g := hG (c k) o.1
    exact f_1 (y k) (by omega) (b k) (by omega) (M (c k)) (hM _ o.1) (G (c k)) g.2.2 g.2.1 g.1 (h k hk))
def Good (N ah : Nat) (Z : Nat → Nat) (C Y B : Nat → Nat → Nat) (M0 M : Nat → Nat) : Prop := leM N M M0 ∧ ∀ G, leM N G M0 → QuietAll ah Z C Y B G → leM N G M
theorem Good.lt (h : Good N ah Z C Y B M0 M) : ∀ k, k < N → M k < 64 := fun k hk => (h.1 k hk).2.2
theorem Good.step (hs : s ≤ 6) (hO : ∀ i, i < ah → OkL N s (Z i) (C i) (Y i) (B i)) (hM0 : ∀ k, k < N → M0 k < 64) (h : Good N ah Z C Y B M0 M) {i k0 : Nat} (hi : i < ah) (hf : Forced M (Z i) (C i) (Y i) (B i) k0) : Good N ah Z C Y B M0 (upN M (C i k0) (nar (M (C i k0)) (Y i k0) (B i k0))) := by
  have o := (hO i hi).2.1 k0 hf.1
  have h64 := h.lt (C i k0) o.1
  have f3 := f_3 (Y i k0) (by omega) (B i k0) (by omega) (M (C i k0)) h64 hf.2.1
  have f4 := f_4 (Y i k0) (by omega) (B i k0) (by omega) (M (C i k0)) h64
  refine ⟨fun k hk => ?_, fun G g1 g2 => le_step hs (hO i hi) h.lt (h.2 G g1 g2) (g2 i hi) hf⟩
  unfold upN
  by_cases hkk : k = C i k0
  · subst hkk
    rw [if_pos rfl]
    have hh := h.1 (C i k0) o.1
    exact ⟨f_7 _ f4.1 _ h64 _ (hM0 _ o.1) f3.1 hh.1, f3.2.2, f4.1⟩
  · rw [if_neg hkk]; exact h.1 k hk
theorem Good.pop (hs : s ≤ 6) (hO : ∀ i, i < ah → OkL N s (Z i) (C i) (Y i) (B i)) (h : Good N ah Z C Y B M0 M) {i k0 : Nat} (hi : i < ah) (hf : Forced M (Z i) (C i) (Y i) (B i) k0) : popN (upN M (C i k0) (nar (M (C i k0)) (Y i k0) (B i k0))) N < popN M N := by
  have o := (hO i hi).2.1 k0 hf.1
  have h64 := h.lt (C i k0) o.1
  exact popN_up (f_3 (Y i k0) (by omega) (B i k0) (by omega) (M (C i k0)) h64 hf.2.1).2.1 N o.1
def Spec (N ah : Nat) (Z : Nat → Nat) (C Y B : Nat → Nat → Nat) (M0 : Nat → Nat) (r : Nat) (Mf : Nat → Nat) : Prop :=
  (r = 1 ∧ ∀ G, leM N G M0 → ¬ QuietAll ah Z C Y B G) ∨ (r = 0 ∧ leM N Mf M0 ∧ QuietAll ah Z C Y B Mf ∧ ∀ G, leM N G M0 → QuietAll ah Z C Y B G → leM N G Mf)
theorem Good.spec0 (h : Good N ah Z C Y B M0 M) (hq : QuietAll ah Z C Y B M) : Spec N ah Z C Y B M0 0 M := Or.inr ⟨rfl, h.1, hq, h.2⟩
theorem Good.spec1 (hs : s ≤ 6) (hO : ∀ i, i < ah → OkL N s (Z i) (C i) (Y i) (B i)) (h : Good N ah Z C Y B M0 M) {i : Nat} (hi : i < ah) (hc : AllNot M (Z i) (C i) (Y i) (B i)) (Mf : Nat → Nat) : Spec N ah Z C Y B M0 1 Mf :=
  Or.inl ⟨rfl, fun G g1 g2 => le_noconf hs (hO i hi) h.lt (h.2 G g1 g2) (g2 i hi) hc⟩
theorem Spec.uniq {r r' : Nat} {Mf Mf' : Nat → Nat} (h : Spec N ah Z C Y B M0 r Mf) (h' : Spec N ah Z C Y B M0 r' Mf') : r = r' ∧ (r = 0 → ∀ c, c < N → Mf c = Mf' c) := by
  rcases h with ⟨rfl, h⟩ | ⟨rfl, a, b, c⟩
  · rcases h' with ⟨rfl, h'⟩ | ⟨rfl, a', b', c'⟩
    · exact ⟨rfl, fun h => by omega⟩
    · exact absurd b' (h _ a')
  · rcases h' with ⟨rfl, h'⟩ | ⟨rfl, a', b', c'⟩
    · exact absurd b (h' _ a)
    · refine ⟨rfl, fun _ k hk => ?_⟩
      have e1 := c' Mf a b k hk
      have e2 := c Mf' a' b' k hk
      exact f_6 _ e1.2.2 _ e2.2.2 e1.1 e2.1
theorem Good.start (h0 : ∀ k, k < N → M0 k < 64 ∧ ¬ M0 k = 0) : Good N ah Z C Y B M0 M0 :=
  ⟨fun k hk => ⟨Nat.and_self _, (h0 k hk).2, (h0 k hk).1⟩, fun G g _ => g⟩
/-! the class -/
theorem c_some_L {US : Nat → Int32} (h : Rep N US M) (hN : N ≤ 16) (F : Nat) : ∀ d k m, k + d = N → d < m → f_X4_someCellMayBeNothing_L2 (nI N) US F m (nI k) = some (bI (∃ j, k ≤ j ∧ j < N ∧ M j = 0)) := by
  intro d
  induction d with
  | zero =>
    intro k m e1 e2
    obtain ⟨m, rfl⟩ : ∃ m', m = m' + 1 := ⟨m - 1, by omega⟩
    rw [f_X4_someCellMayBeNothing_L2, bI_f (fun ⟨j, a, b, _⟩ => by omega)]
    simp (disch := omega) only [q0, q1, q2, q3, q4, q5, q7, q9, q10, q16, q30, q48, q57, q60, q99, q255, q300, q4096, pk_mul, nI_add, pk_sub, n_gin, n_cl, ifle_t, ifle_f, iflt_t, iflt_f, ifeq_t, ifeq_f, ifne_t, ifne_f, ifm_f, ifm_t, iflm_f, ifm0_t, ifm0_f, ob, g1n, g0n, ↓reduceIte, not_true_eq_false, not_false_eq_true, f_X0_cells]
  | succ d ih =>
    intro k m e1 e2
    obtain ⟨m, rfl⟩ : ∃ m', m = m' + 1 := ⟨m - 1, by omega⟩
    obtain ⟨h1, h2⟩ := h k (by omega)
    rw [f_X4_someCellMayBeNothing_L2]
    by_cases hz : M k = 0
    · rw [bI_t ⟨k, Nat.le_refl _, by omega, hz⟩]
      simp (disch := omega) only [q0, q1, q2, q3, q4, q5, q7, q9, q10, q16, q30, q48, q57, q60, q99, q255, q300, q4096, pk_mul, nI_add, pk_sub, n_gin, n_cl, ifle_t, ifle_f, iflt_t, iflt_f, ifeq_t, ifeq_f, ifne_t, ifne_f, ifm_f, ifm_t, iflm_f, ifm0_t, ifm0_f, ob, g1n, g0n, ↓reduceIte, not_true_eq_false, not_false_eq_true, f_X0_cells, h1]
    · simp (disch := omega) only [q0, q1, q2, q3, q4, q5, q7, q9, q10, q16, q30, q48, q57, q60, q99, q255, q300, q4096, pk_mul, nI_add, pk_sub, n_gin, n_cl, ifle_t, ifle_f, iflt_t, iflt_f, ifeq_t, ifeq_f, ifne_t, ifne_f, ifm_f, ifm_t, iflm_f, ifm0_t, ifm0_f, ob, g1n, g0n, ↓reduceIte, not_true_eq_false, not_false_eq_true, f_X0_cells, h1]
      rw [ih (k + 1) m (by omega) (by omega)]
      refine congrArg some (bI_c ⟨fun ⟨j, a, b, e⟩ => ⟨j, by omega, b, e⟩, fun ⟨j, a, b, e⟩ => ⟨j, ?_, b, e⟩⟩)
      by_cases hj : j = k
      · subst hj; exact absurd e hz
      · omega
variable {US MY LS LL JS JL : Nat → Int32}
theorem c_come_L (hs : s ≤ 6) (hN : N ≤ 16) (hah : ah ≤ 60) (hR : ∀ i, i < ah → RowC LS LL i (Z i) (C i) (Y i) (B i)) (hO : ∀ i, i < ah → OkL N s (Z i) (C i) (Y i) (B i)) (hM0 : ∀ k, k < N → M0 k < 64) {F : Nat} (hF : 20 < F) (gc gs : Int32) (hK : N * s ≤ 96) :
    ∀ m US M line looks ch, (N * s + 1) * ah < looks + m → ch + popN M N ≤ N * s → looks ≤ ch * ah + line → line ≤ ah → (∀ i, i < line → Quiet M (Z i) (C i) (Y i) (B i)) → Good N ah Z C Y B M0 M → Rep N US M →
    ∃ r Mf US', f_X4_comeToNothing_L30 gc gs LS LL F m (nI ah) (nI (N * s)) (nI line) (nI looks) US = some (nI r, US') ∧ Rep N US' Mf ∧ Spec N ah Z C Y B M0 r Mf := by
  intro m
  have hb : (N * s + 1) * ah ≤ 97 * 60 := Nat.mul_le_mul (by omega) hah
  have hb2 : (N * s + 1) * ah = N * s * ah + ah := Nat.succ_mul _ _
  induction m with
  | zero =>
    intro US M line looks ch e1 e2 e3 e4 e5 e6 e7
    have : ch * ah ≤ N * s * ah := Nat.mul_le_mul_right _ (by omega)
    omega
  | succ m ih =>
    intro US M line looks ch e1 e2 e3 e4 e5 e6 e7
    have hch : ch * ah ≤ N * s * ah := Nat.mul_le_mul_right _ (by omega)
    rw [f_X4_comeToNothing_L30]
    by_cases hl : line = ah
    · subst hl
      refine ⟨0, M, US, ?_, e7, e6.spec0 e5⟩
      by_cases hk : (N * s + 1) * line ≤ looks
      · simp (disch := omega) only [q0, q1, q2, q3, q4, q5, q7, q9, q10, q16, q30, q48, q57, q60, q99, q255, q300, q4096, pk_mul, nI_add, pk_sub, n_gin, n_cl, ifle_t, ifle_f, iflt_t, iflt_f, ifeq_t, ifeq_f, ifne_t, ifne_f, ifm_f, ifm_t, iflm_f, ifm0_t, ifm0_f, ob, g1n, g0n, ↓reduceIte, not_true_eq_false, not_false_eq_true]
      · simp (disch := omega) only [q0, q1, q2, q3, q4, q5, q7, q9, q10, q16, q30, q48, q57, q60, q99, q255, q300, q4096, pk_mul, nI_add, pk_sub, n_gin, n_cl, ifle_t, ifle_f, iflt_t, iflt_f, ifeq_t, ifeq_f, ifne_t, ifne_f, ifm_f, ifm_t, iflm_f, ifm0_t, ifm0_f, ob, g1n, g0n, ↓reduceIte, not_true_eq_false, not_false_eq_true]
    · have hlt : looks < (N * s + 1) * ah := by omega
      have hla : line < ah := by omega
      rcases c_step e7 hN hs (hR line hla) (by omega) (hO line hla) hF with ⟨a1, a2⟩ | ⟨k0, a1, a2⟩ | ⟨a1, a2⟩
      · refine ⟨1, M, US, ?_, e7, e6.spec1 hs hO hla a1 M⟩
        simp (disch := omega) only [q0, q1, q2, q3, q4, q5, q7, q9, q10, q16, q30, q48, q57, q60, q99, q255, q300, q4096, pk_mul, nI_add, pk_sub, n_gin, n_cl, ifle_t, ifle_f, iflt_t, iflt_f, ifeq_t, ifeq_f, ifne_t, ifne_f, ifm_f, ifm_t, iflm_f, ifm0_t, ifm0_f, ob, g1n, g0n, ↓reduceIte, not_true_eq_false, not_false_eq_true, a2]
      · obtain ⟨r, Mf, US', i1, i2, i3⟩ := ih _ _ 0 (looks + 1) (ch + 1) (by omega) (by have := e6.pop hs hO hla a1; omega) (by rw [Nat.succ_mul]; omega) (by omega) (fun i hi => by omega) (e6.step hs hO hM0 hla a1) (e7.up (c := C line k0) (x := nar (M (C line k0)) (Y line k0) (B line k0)) (by
          have o := (hO line hla).2.1 k0 a1.1
          exact (f_4 (Y line k0) (by omega) (B line k0) (by omega) _ (e6.lt _ o.1)).1))
        refine ⟨r, Mf, US', ?_, i2, i3⟩
        simp (disch := omega) only [q0, q1, q2, q3, q4, q5, q7, q9, q10, q16, q30, q48, q57, q60, q99, q255, q300, q4096, pk_mul, nI_add, pk_sub, n_gin, n_cl, ifle_t, ifle_f, iflt_t, iflt_f, ifeq_t, ifeq_f, ifne_t, ifne_f, ifm_f, ifm_t, iflm_f, ifm0_t, ifm0_f, ob, g1n, g0n, ↓reduceIte, not_true_eq_false, not_false_eq_true, a2, f_X4_comeToNothing_J73]
        exact i1
      · obtain ⟨r, Mf, US', i1, i2, i3⟩ := ih US M (line + 1) (looks + 1) ch (by omega) e2 (by omega) (by omega) (fun i hi => by
          by_cases hil : i = line
          · subst hil; exact a1
          · exact e5 i (by omega)) e6 e7
        refine ⟨r, Mf, US', ?_, i2, i3⟩
        simp (disch := omega) only [q0, q1, q2, q3, q4, q5, q7, q9, q10, q16, q30, q48, q57, q60, q99, q255, q300, q4096, pk_mul, nI_add, pk_sub, n_gin, n_cl, ifle_t, ifle_f, iflt_t, iflt_f, ifeq_t, ifeq_f, ifne_t, ifne_f, ifm_f, ifm_t, iflm_f, ifm0_t, ifm0_f, ob, g1n, g0n, ↓reduceIte, not_true_eq_false, not_false_eq_true, a2, f_X4_comeToNothing_J73]
        exact i1
theorem c_come (hs : s ≤ 6) (hN : N ≤ 16) (hah : ah ≤ 60) (hR : ∀ i, i < ah → RowC LS LL i (Z i) (C i) (Y i) (B i)) (hO : ∀ i, i < ah → OkL N s (Z i) (C i) (Y i) (B i)) (hM0 : ∀ k, k < N → M0 k < 2 ^ s) (h : Rep N US M0) {F : Nat} (hF : 6000 < F) :
    ∃ r Mf US', f_X4_comeToNothing (nI N) (nI s) LS LL F US (nI ah) = some (nI r, US') ∧ Rep N US' Mf ∧ Spec N ah Z C Y B M0 r Mf := by
  have hK : N * s ≤ 16 * 6 := Nat.mul_le_mul hN hs
  have hb : (N * s + 1) * ah ≤ 97 * 60 := Nat.mul_le_mul (by omega) hah
  have e0 := c_some_L h hN F N 0 F (by omega) (by omega)
  unfold f_X4_comeToNothing f_X4_someCellMayBeNothing
  rw [q0, e0, ob]
  by_cases hz : ∃ j, 0 ≤ j ∧ j < N ∧ M0 j = 0
  · rw [bI_t hz]
    obtain ⟨j, _, hj, hj0⟩ := hz
    refine ⟨1, M0, US, ?_, h, Or.inl ⟨rfl, fun G g _ => ?_⟩⟩
    · simp (disch := omega) only [q0, q1, q2, q3, q4, q5, q7, q9, q10, q16, q30, q48, q57, q60, q99, q255, q300, q4096, pk_mul, nI_add, pk_sub, n_gin, n_cl, ifle_t, ifle_f, iflt_t, iflt_f, ifeq_t, ifeq_f, ifne_t, ifne_f, ifm_f, ifm_t, iflm_f, ifm0_t, ifm0_f, ob, g1n, g0n, ↓reduceIte, not_true_eq_false, not_false_eq_true]
    · have := g j hj
      rw [hj0, Nat.and_zero] at this
      exact this.2.1 this.1.symm
  · rw [bI_f hz]
    obtain ⟨r, Mf, US', i1, i2, i3⟩ := c_come_L (Z := Z) (C := C) (Y := Y) (B := B) (LS := LS) (LL := LL) hs hN hah hR hO (fun k hk => (h k hk).2) (F := F) (by omega) (nI N) (nI s) (by omega) F US M0 0 0 0 (by omega) (by have := popN_le (s := s) (by omega) N hM0; omega) (by omega) (by omega) (fun i hi => by omega) (Good.start (fun k hk => ⟨(h k hk).2, fun e => hz ⟨k, by omega, hk, e⟩⟩)) h
    refine ⟨r, Mf, US', ?_, i2, i3⟩
    simp (disch := omega) only [q0, q1, q2, q3, q4, q5, q7, q9, q10, q16, q30, q48, q57, q60, q99, q255, q300, q4096, pk_mul, nI_add, pk_sub, n_gin, n_cl, ifle_t, ifle_f, iflt_t, iflt_f, ifeq_t, ifeq_f, ifne_t, ifne_f, ifm_f, ifm_t, iflm_f, ifm0_t, ifm0_f, ob, g1n, g0n, ↓reduceIte, not_true_eq_false, not_false_eq_true, f_X0_cells, f_X0_symbols]
    exact i1
/-! the reference -/
theorem u_L21 (hs : s ≤ 6) (hN : N ≤ 16) (hah : ah ≤ 60) (hR : ∀ i, i < ah → RowM s JS JL i (Z i) (C i) (Y i) (B i)) (hO : ∀ i, i < ah → OkL N s (Z i) (C i) (Y i) (B i)) (hM0 : ∀ k, k < N → M0 k < 64) (k13 : Int32 → Int32 → Int32 → (Nat → Int32) → Option (Int32 × (Nat → Int32))) (hk13 : ∀ x1 mC MY, k13 x1 (nI 0) mC MY = some (mC, MY)) {F : Nat} (hF : 20 < F) {P : Nat} :
    ∀ d l m MY M x2, l + d = ah → d < m → Good N ah Z C Y B M0 M → Rep N MY M → ((x2 = 0 ∧ popN M N ≤ P ∧ ∀ i, i < l → Quiet M (Z i) (C i) (Y i) (B i)) ∨ (x2 = 1 ∧ popN M N < P)) →
    (∃ r Mf MY', f_X6_units_L21 (nI s) JS JL k13 F m (nI ah) (nI x2) (nI l) (nI 0) MY = some (nI r, MY') ∧ Rep N MY' Mf ∧ Spec N ah Z C Y B M0 r Mf) ∨
    (∃ M' MY', f_X6_units_L21 (nI s) JS JL k13 F m (nI ah) (nI x2) (nI l) (nI 0) MY = k13 (nI ah) (nI 1) (nI 0) MY' ∧ Rep N MY' M' ∧ Good N ah Z C Y B M0 M' ∧ popN M' N < P) := by
  intro d
  induction d with
  | zero =>
    intro l m MY M x2 e1 e2 e3 e4 e5
    obtain ⟨m, rfl⟩ : ∃ m', m = m' + 1 := ⟨m - 1, by omega⟩
    obtain rfl : l = ah := by omega
    rw [f_X6_units_L21]
    rcases e5 with ⟨rfl, g1, g2⟩ | ⟨rfl, g1⟩
    · refine Or.inl ⟨0, M, MY, ?_, e4, e3.spec0 g2⟩
      simp (disch := omega) only [q0, q1, q2, q3, q4, q5, q7, q9, q10, q16, q30, q48, q57, q60, q99, q255, q300, q4096, pk_mul, nI_add, pk_sub, n_gin, n_cl, ifle_t, ifle_f, iflt_t, iflt_f, ifeq_t, ifeq_f, ifne_t, ifne_f, ifm_f, ifm_t, iflm_f, ifm0_t, ifm0_f, ob, g1n, g0n, ↓reduceIte, not_true_eq_false, not_false_eq_true, f_X6_units_J158, f_X6_units_J173, f_X6_units_J174, hk13]
    · refine Or.inr ⟨M, MY, ?_, e4, e3, g1⟩
      simp (disch := omega) only [q0, q1, q2, q3, q4, q5, q7, q9, q10, q16, q30, q48, q57, q60, q99, q255, q300, q4096, pk_mul, nI_add, pk_sub, n_gin, n_cl, ifle_t, ifle_f, iflt_t, iflt_f, ifeq_t, ifeq_f, ifne_t, ifne_f, ifm_f, ifm_t, iflm_f, ifm0_t, ifm0_f, ob, g1n, g0n, ↓reduceIte, not_true_eq_false, not_false_eq_true, f_X6_units_J158, f_X6_units_J173, f_X6_units_J174]
  | succ d ih =>
    intro l m MY M x2 e1 e2 e3 e4 e5
    obtain ⟨m, rfl⟩ : ∃ m', m = m' + 1 := ⟨m - 1, by omega⟩
    have hl : l < ah := by omega
    have hst := m_step_L e4 hN hs (hR l hl) (by omega) (hO l hl) k13 (f_X6_units_L21 (nI s) JS JL k13 F m) F (nI ah) (nI x2) (Z l) 0 F (-nI 1) 0 (by omega) (by have := (hO l hl).1; omega) (by omega) (Or.inl ⟨rfl, fun j hj => by omega⟩)
    rw [bI_f (fun ⟨j, hj, _⟩ => by omega), q0] at hst
    have hun : f_X6_units_L21 (nI s) JS JL k13 F (m + 1) (nI ah) (nI x2) (nI l) (nI 0) MY = f_X6_units_L45 (nI s) JS JL k13 (f_X6_units_L21 (nI s) JS JL k13 F m) F F (nI ah) (nI x2) (nI l) (-nI 1) (nI 0) (nI 0) (nI 0) (nI 0) MY := by
      rw [f_X6_units_L21]
      simp (disch := omega) only [q0, q1, q2, q3, q4, q5, q7, q9, q10, q16, q30, q48, q57, q60, q99, q255, q300, q4096, pk_mul, nI_add, pk_sub, n_gin, n_cl, ifle_t, ifle_f, iflt_t, iflt_f, ifeq_t, ifeq_f, ifne_t, ifne_f, ifm_f, ifm_t, iflm_f, ifm0_t, ifm0_f, ob, g1n, g0n, ↓reduceIte, not_true_eq_false, not_false_eq_true]
    rw [hun]
    rcases hst with ⟨a1, a2⟩ | ⟨k0, a1, a2⟩ | ⟨a1, a2⟩
    · rw [a2]
      refine Or.inl ⟨1, M, MY, ?_, e4, e3.spec1 hs hO hl a1 M⟩
      -- the flag is up: the rest of the turn is passed over
      obtain ⟨m, rfl⟩ : ∃ m', m = m' + 1 := ⟨m - 1, by omega⟩
      rw [f_X6_units_L21]
      have hx2 : x2 = 0 ∨ x2 = 1 := by
        rcases e5 with ⟨g, _⟩ | ⟨g, _⟩
        · exact Or.inl g
        · exact Or.inr g
      by_cases hla : l + 1 = ah
      · rcases hx2 with rfl | rfl
        · simp (disch := omega) only [q0, q1, q2, q3, q4, q5, q7, q9, q10, q16, q30, q48, q57, q60, q99, q255, q300, q4096, pk_mul, nI_add, pk_sub, n_gin, n_cl, ifle_t, ifle_f, iflt_t, iflt_f, ifeq_t, ifeq_f, ifne_t, ifne_f, ifm_f, ifm_t, iflm_f, ifm0_t, ifm0_f, ob, g1n, g0n, ↓reduceIte, not_true_eq_false, not_false_eq_true, f_X6_units_J158, f_X6_units_J173, f_X6_units_J174, hk13]
        · simp (disch := omega) only [q0, q1, q2, q3, q4, q5, q7, q9, q10, q16, q30, q48, q57, q60, q99, q255, q300, q4096, pk_mul, nI_add, pk_sub, n_gin, n_cl, ifle_t, ifle_f, iflt_t, iflt_f, ifeq_t, ifeq_f, ifne_t, ifne_f, ifm_f, ifm_t, iflm_f, ifm0_t, ifm0_f, ob, g1n, g0n, ↓reduceIte, not_true_eq_false, not_false_eq_true, f_X6_units_J158, f_X6_units_J173, f_X6_units_J174, hk13]
      · rcases hx2 with rfl | rfl
        · simp (disch := omega) only [q0, q1, q2, q3, q4, q5, q7, q9, q10, q16, q30, q48, q57, q60, q99, q255, q300, q4096, pk_mul, nI_add, pk_sub, n_gin, n_cl, ifle_t, ifle_f, iflt_t, iflt_f, ifeq_t, ifeq_f, ifne_t, ifne_f, ifm_f, ifm_t, iflm_f, ifm0_t, ifm0_f, ob, g1n, g0n, ↓reduceIte, not_true_eq_false, not_false_eq_true, f_X6_units_J158, f_X6_units_J173, f_X6_units_J174, hk13]
        · simp (disch := omega) only [q0, q1, q2, q3, q4, q5, q7, q9, q10, q16, q30, q48, q57, q60, q99, q255, q300, q4096, pk_mul, nI_add, pk_sub, n_gin, n_cl, ifle_t, ifle_f, iflt_t, iflt_f, ifeq_t, ifeq_f, ifne_t, ifne_f, ifm_f, ifm_t, iflm_f, ifm0_t, ifm0_f, ob, g1n, g0n, ↓reduceIte, not_true_eq_false, not_false_eq_true, f_X6_units_J158, f_X6_units_J173, f_X6_units_J174, hk13]
    · rw [a2]
      have o := (hO l hl).2.1 k0 a1.1
      exact ih (l + 1) m _ _ 1 (by omega) (by omega) (e3.step hs hO hM0 hl a1) (e4.up (f_4 (Y l k0) (by omega) (B l k0) (by omega) _ (e3.lt _ o.1)).1) (Or.inr ⟨rfl, by
        have hp := e3.pop hs hO hl a1
        rcases e5 with ⟨_, g, _⟩ | ⟨_, g⟩ <;> omega⟩)
    · rw [a2]
      refine ih (l + 1) m MY M x2 (by omega) (by omega) e3 e4 ?_
      rcases e5 with ⟨g, g1, g2⟩ | g
      · refine Or.inl ⟨g, g1, fun i hi => ?_⟩
        by_cases hil : i = l
        · subst hil; exact a1
        · exact g2 i (by omega)
      · exact Or.inr g
theorem u_L13 (hs : s ≤ 6) (hN : N ≤ 16) (hah : ah ≤ 60) (hR : ∀ i, i < ah → RowM s JS JL i (Z i) (C i) (Y i) (B i)) (hO : ∀ i, i < ah → OkL N s (Z i) (C i) (Y i) (B i)) (hM0 : ∀ k, k < N → M0 k < 64) {F : Nat} (hF : 100 < F) :
    ∀ P m MY M, popN M N ≤ P → P + 1 < m → Good N ah Z C Y B M0 M → Rep N MY M →
    ∃ r Mf MY', f_X6_units_L13 (nI s) JS JL F m (nI ah) (nI 1) (nI 0) MY = some (nI r, MY') ∧ Rep N MY' Mf ∧ Spec N ah Z C Y B M0 r Mf := by
  intro P
  induction P with
  | zero =>
    intro m MY M e1 e2 e3 e4
    obtain ⟨m, rfl⟩ : ∃ m', m = m' + 1 := ⟨m - 1, by omega⟩
    have hk13 : ∀ x1 mC MY, f_X6_units_L13 (nI s) JS JL F m x1 (nI 0) mC MY = some (mC, MY) := by
      intro x1 mC MY
      obtain ⟨m, rfl⟩ : ∃ m', m = m' + 1 := ⟨m - 1, by omega⟩
      rw [f_X6_units_L13]
      simp (disch := omega) only [q0, q1, q2, q3, q4, q5, q7, q9, q10, q16, q30, q48, q57, q60, q99, q255, q300, q4096, pk_mul, nI_add, pk_sub, n_gin, n_cl, ifle_t, ifle_f, iflt_t, iflt_f, ifeq_t, ifeq_f, ifne_t, ifne_f, ifm_f, ifm_t, iflm_f, ifm0_t, ifm0_f, ob, g1n, g0n, ↓reduceIte, not_true_eq_false, not_false_eq_true]
    rcases u_L21 (Z := Z) (C := C) (Y := Y) (B := B) hs hN hah hR hO hM0 (f_X6_units_L13 (nI s) JS JL F m) hk13 (F := F) (by omega) (P := 0) ah 0 F MY M 0 (by omega) (by omega) e3 e4 (Or.inl ⟨rfl, e1, fun i hi => by omega⟩) with ⟨r, Mf, MY', i1, i2, i3⟩ | ⟨M', MY', _, _, _, i4⟩
    · refine ⟨r, Mf, MY', ?_, i2, i3⟩
      rw [f_X6_units_L13]
      simp (disch := omega) only [q0, q1, q2, q3, q4, q5, q7, q9, q10, q16, q30, q48, q57, q60, q99, q255, q300, q4096, pk_mul, nI_add, pk_sub, n_gin, n_cl, ifle_t, ifle_f, iflt_t, iflt_f, ifeq_t, ifeq_f, ifne_t, ifne_f, ifm_f, ifm_t, iflm_f, ifm0_t, ifm0_f, ob, g1n, g0n, ↓reduceIte, not_true_eq_false, not_false_eq_true]
      exact i1
    · omega
  | succ P ih =>
    intro m MY M e1 e2 e3 e4
    obtain ⟨m, rfl⟩ : ∃ m', m = m' + 1 := ⟨m - 1, by omega⟩
    have hk13 : ∀ x1 mC MY, f_X6_units_L13 (nI s) JS JL F m x1 (nI 0) mC MY = some (mC, MY) := by
      intro x1 mC MY
      obtain ⟨m, rfl⟩ : ∃ m', m = m' + 1 := ⟨m - 1, by omega⟩
      rw [f_X6_units_L13]
      simp (disch := omega) only [q0, q1, q2, q3, q4, q5, q7, q9, q10, q16, q30, q48, q57, q60, q99, q255, q300, q4096, pk_mul, nI_add, pk_sub, n_gin, n_cl, ifle_t, ifle_f, iflt_t, iflt_f, ifeq_t, ifeq_f, ifne_t, ifne_f, ifm_f, ifm_t, iflm_f, ifm0_t, ifm0_f, ob, g1n, g0n, ↓reduceIte, not_true_eq_false, not_false_eq_true]
    rcases u_L21 (Z := Z) (C := C) (Y := Y) (B := B) hs hN hah hR hO hM0 (f_X6_units_L13 (nI s) JS JL F m) hk13 (F := F) (by omega) (P := P + 1) ah 0 F MY M 0 (by omega) (by omega) e3 e4 (Or.inl ⟨rfl, e1, fun i hi => by omega⟩) with ⟨r, Mf, MY', i1, i2, i3⟩ | ⟨M', MY', i1, i2, i3, i4⟩
    · refine ⟨r, Mf, MY', ?_, i2, i3⟩
      rw [f_X6_units_L13]
      simp (disch := omega) only [q0, q1, q2, q3, q4, q5, q7, q9, q10, q16, q30, q48, q57, q60, q99, q255, q300, q4096, pk_mul, nI_add, pk_sub, n_gin, n_cl, ifle_t, ifle_f, iflt_t, iflt_f, ifeq_t, ifeq_f, ifne_t, ifne_f, ifm_f, ifm_t, iflm_f, ifm0_t, ifm0_f, ob, g1n, g0n, ↓reduceIte, not_true_eq_false, not_false_eq_true]
      exact i1
    · obtain ⟨r, Mf, MY2, j1, j2, j3⟩ := ih m MY' M' (by omega) (by omega) i3 i2
      refine ⟨r, Mf, MY2, ?_, j2, j3⟩
      rw [f_X6_units_L13]
      simp (disch := omega) only [q0, q1, q2, q3, q4, q5, q7, q9, q10, q16, q30, q48, q57, q60, q99, q255, q300, q4096, pk_mul, nI_add, pk_sub, n_gin, n_cl, ifle_t, ifle_f, iflt_t, iflt_f, ifeq_t, ifeq_f, ifne_t, ifne_f, ifm_f, ifm_t, iflm_f, ifm0_t, ifm0_f, ob, g1n, g0n, ↓reduceIte, not_true_eq_false, not_false_eq_true]
      exact i1.trans j1
theorem m_units (hs : s ≤ 6) (hN : N ≤ 16) (hah : ah ≤ 60) (hR : ∀ i, i < ah → RowM s JS JL i (Z i) (C i) (Y i) (B i)) (hO : ∀ i, i < ah → OkL N s (Z i) (C i) (Y i) (B i)) (hM0 : ∀ k, k < N → M0 k < 2 ^ s) (h : Rep N MY M0) {F : Nat} (hF : 6000 < F) :
    ∃ r Mf MY', f_X6_units (nI s) JS JL F (bI (∃ j, j < N ∧ M0 j = 0)) MY (nI ah) = some (nI r, MY') ∧ Rep N MY' Mf ∧ Spec N ah Z C Y B M0 r Mf := by
  have hK : N * s ≤ 16 * 6 := Nat.mul_le_mul hN hs
  unfold f_X6_units f_X6_units_J12
  by_cases hz : ∃ j, j < N ∧ M0 j = 0
  · rw [bI_t hz]
    obtain ⟨j, hj, hj0⟩ := hz
    refine ⟨1, M0, MY, ?_, h, Or.inl ⟨rfl, fun G g _ => ?_⟩⟩
    · obtain ⟨F, rfl⟩ : ∃ F', F = F' + 1 := ⟨F - 1, by omega⟩
      rw [f_X6_units_L13]
      simp (disch := omega) only [q0, q1, q2, q3, q4, q5, q7, q9, q10, q16, q30, q48, q57, q60, q99, q255, q300, q4096, pk_mul, nI_add, pk_sub, n_gin, n_cl, ifle_t, ifle_f, iflt_t, iflt_f, ifeq_t, ifeq_f, ifne_t, ifne_f, ifm_f, ifm_t, iflm_f, ifm0_t, ifm0_f, ob, g1n, g0n, ↓reduceIte, not_true_eq_false, not_false_eq_true]
    · have := g j hj
      rw [hj0, Nat.and_zero] at this
      exact this.2.1 this.1.symm
  · rw [bI_f hz]
    obtain ⟨r, Mf, MY', i1, i2, i3⟩ := u_L13 (Z := Z) (C := C) (Y := Y) (B := B) (JS := JS) (JL := JL) hs hN hah hR hO (fun k hk => (h k hk).2) (F := F) (by omega) (N * s) F MY M0 (popN_le (s := s) (by omega) N hM0) (by omega) (Good.start (fun k hk => ⟨(h k hk).2, fun e => hz ⟨k, hk, e⟩⟩)) h
    refine ⟨r, Mf, MY', ?_, i2, i3⟩
    simp (disch := omega) only [q0, q1, q2, q3, q4, q5, q7, q9, q10, q16, q30, q48, q57, q60, q99, q255, q300, q4096, pk_mul, nI_add, pk_sub, n_gin, n_cl, ifle_t, ifle_f, iflt_t, iflt_f, ifeq_t, ifeq_f, ifne_t, ifne_f, ifm_f, ifm_t, iflm_f, ifm0_t, ifm0_f, ob, g1n, g0n, ↓reduceIte, not_true_eq_false, not_false_eq_true]
    exact i1
end RN
