/-! PURE PART. what a cell may be, as bits; what a literal is then: 1 so, 2 not so, 0 open -/
def st (m y b : Nat) : Nat := if m = 2 ^ y then (if b = 1 then 1 else 2) else if m.testBit y then 0 else (if b = 1 then 2 else 1)
def nar (m y b : Nat) : Nat := if b = 1 then m &&& 2 ^ y else m &&& (2 ^ y ^^^ 65535)
def pcn (m : Nat) : Nat := m % 2 + m / 2 % 2 + m / 4 % 2 + m / 8 % 2 + m / 16 % 2 + m / 32 % 2
theorem st_3 (m y b : Nat) : st m y b = 0 ∨ st m y b = 1 ∨ st m y b = 2 := by
  unfold st
  split
  · split
    · exact Or.inr (Or.inl rfl)
    · exact Or.inr (Or.inr rfl)
  · split
    · exact Or.inl rfl
    · split
      · exact Or.inr (Or.inr rfl)
      · exact Or.inr (Or.inl rfl)
def ck1 (y b m g : Nat) : Bool := decide (g = 0) || !decide (g &&& m = g) || !decide (st m y b = 2) || decide (st g y b = 2)
def ck2 (y b m g : Nat) : Bool := decide (g = 0) || !decide (g &&& m = g) || !decide (st g y b = 1) || decide (g &&& nar m y b = g)
theorem f_1k : ∀ y, y < 6 → ∀ b, b < 2 → ∀ m, m < 64 → ∀ g, g < 64 → ck1 y b m g = true := by decide +kernel
theorem f_2k : ∀ y, y < 6 → ∀ b, b < 2 → ∀ m, m < 64 → ∀ g, g < 64 → ck2 y b m g = true := by decide +kernel
theorem f_1 (y : Nat) (hy : y < 6) (b : Nat) (hb : b < 2) (m : Nat) (hm : m < 64) (g : Nat) (hg : g < 64) (h0 : ¬ g = 0) (h1 : g &&& m = g) (h2 : st m y b = 2) : st g y b = 2 := by
  have := f_1k y hy b hb m hm g hg
  unfold ck1 at this
  rw [decide_eq_false h0, decide_eq_true h1, decide_eq_true h2] at this
  exact of_decide_eq_true this
theorem f_2 (y : Nat) (hy : y < 6) (b : Nat) (hb : b < 2) (m : Nat) (hm : m < 64) (g : Nat) (hg : g < 64) (h0 : ¬ g = 0) (h1 : g &&& m = g) (h2 : st g y b = 1) : g &&& nar m y b = g := by
  have := f_2k y hy b hb m hm g hg
  unfold ck2 at this
  rw [decide_eq_false h0, decide_eq_true h1, decide_eq_true h2] at this
  exact of_decide_eq_true this
theorem f_3 : ∀ y, y < 6 → ∀ b, b < 2 → ∀ m, m < 64 → st m y b = 0 → nar m y b &&& m = nar m y b ∧ pcn (nar m y b) < pcn m ∧ ¬ nar m y b = 0 := by decide +kernel
theorem f_4 : ∀ y, y < 6 → ∀ b, b < 2 → ∀ m, m < 64 → nar m y b < 64 ∧ nar m y b &&& m = nar m y b := by decide +kernel
theorem f_5 : ∀ s, s < 7 → ∀ m, m < 2 ^ s → pcn m ≤ s := by decide +kernel
theorem f_6 : ∀ a, a < 64 → ∀ b, b < 64 → a &&& b = a → b &&& a = b → a = b := by decide +kernel
theorem f_7 : ∀ a, a < 64 → ∀ b, b < 64 → ∀ c, c < 64 → a &&& b = a → b &&& c = b → a &&& c = a := by
  intro a _ b _ c _ h1 h2
  rw [← h1, Nat.and_assoc, h2]
theorem n_nar {m y b : Nat} (hm : m < 64) (hy : y < 6) : (b = 1 → nI m &&& (nI 1 <<< (nI y &&& 31)) = nI (nar m y b)) ∧ (¬ b = 1 → nI m &&& ((nI 1 <<< (nI y &&& 31)) ^^^ -nI 1) = nI (nar m y b)) := by
  have hp := Nat.pow_lt_pow_right (a := 2) (by omega) hy
  unfold nar
  constructor
  · intro h; rw [if_pos h, nb_pow (by omega), nb_and]
  · intro h; rw [if_neg h, nb_pow (by omega), nb_not' (by omega) (by omega)]
section SU
variable {US MY : Nat → Int32} {N s : Nat} {M : Nat → Nat}
def Rep (N : Nat) (US : Nat → Int32) (M : Nat → Nat) : Prop := ∀ c, c < N → US c = nI (M c) ∧ M c < 64
def upN (M : Nat → Nat) (c x : Nat) : Nat → Nat := fun k => if k = c then x else M k
theorem Rep.up (h : Rep N US M) {c x : Nat} (hx : x < 64) : Rep N (upd US c (nI x)) (upN M c x) := by
  intro k hk
  unfold upN
  by_cases hc : k = c
  · subst hc; rw [pk_us, if_pos rfl]; exact ⟨rfl, hx⟩
  · rw [pk_un hc, if_neg hc]; exact h k hk
theorem c_state (h : Rep N US M) (hN : N ≤ 16) {c y b : Nat} (hc : c < N) (hy : y < 6) (hb : b < 2) :
    f_X4_stateOf US (nI (16 * c + 2 * y + b)) = some (if st (M c) y b = 1 then nI 3 else if st (M c) y b = 2 then nI 4 else nI 5) := by
  obtain ⟨_, e2, e3, e4⟩ := e_litC c (by omega) y hy b hb
  obtain ⟨h1, h2⟩ := h c hc
  have hp := nb_pw2 (k := y) (by omega)
  have hp0 := Nat.two_pow_pos y
  unfold f_X4_stateOf st
  rw [e2, ob, n_gin (by omega) (by omega), n_cl (by omega), e3, ob, e4, ob, ob, h1, q1, nb_pow (by omega), nb_and]
  have hb1 := nb_bit (M c) y
  by_cases g1 : M c = 2 ^ y
  · rw [ifne_f g1, if_pos g1]
    by_cases g2 : b = 1
    · subst g2; rfl
    · obtain rfl : b = 0 := by omega
      rfl
  · rw [ifne_t g1 (by omega) (by omega), if_neg g1]
    by_cases g3 : (M c).testBit y = true
    · rw [if_pos g3] at hb1
      rw [hb1, q0, ifne_t (by omega) (by omega) (by omega), if_pos g3]; rfl
    · rw [if_neg g3] at hb1
      rw [hb1, q0, ifne_f rfl, if_neg g3]
      by_cases g2 : b = 1
      · subst g2; rfl
      · obtain rfl : b = 0 := by omega
        rfl
theorem c_narrow (h : Rep N US M) (hN : N ≤ 16) {c y b b' : Nat} (hc : c < N) (hy : y < 6) (hb : b < 2) (hb' : b' < 2) :
    f_X4_narrow US (nI (16 * c + 2 * y + b)) (nI b') = some (upd US c (nI (nar (M c) y b'))) := by
  obtain ⟨_, e2, e3, e4⟩ := e_litC c (by omega) y hy b hb
  obtain ⟨h1, h2⟩ := h c hc
  obtain ⟨n1, n2⟩ := n_nar (b := b') h2 hy
  unfold f_X4_narrow
  by_cases g2 : b' = 1
  · simp (disch := omega) only [q0, q1, q2, q3, q4, q5, q7, q9, q10, q16, q30, q48, q57, q60, q99, q255, q300, q4096, pk_mul, nI_add, pk_sub, n_gin, n_cl, ifle_t, ifle_f, iflt_t, iflt_f, ifeq_t, ifeq_f, ifne_t, ifne_f, ifm_f, ifm_t, iflm_f, ifm0_t, ifm0_f, ob, g1n, g0n, ↓reduceIte, not_true_eq_false, not_false_eq_true, e2, e3, h1, n1 g2]
  · simp (disch := omega) only [q0, q1, q2, q3, q4, q5, q7, q9, q10, q16, q30, q48, q57, q60, q99, q255, q300, q4096, pk_mul, nI_add, pk_sub, n_gin, n_cl, ifle_t, ifle_f, iflt_t, iflt_f, ifeq_t, ifeq_f, ifne_t, ifne_f, ifm_f, ifm_t, iflm_f, ifm0_t, ifm0_f, ob, g1n, g0n, ↓reduceIte, not_true_eq_false, not_false_eq_true, e2, e3, h1, n2 g2]
theorem m_how (h : Rep N MY M) (hN : N ≤ 16) (hs : s ≤ 6) {c y b : Nat} (hc : c < N) (hy : y < s) (hb : b < 2) :
    f_X6_how (nI s) MY (nI (2 * (s * c + y) + b)) = some (if st (M c) y b = 1 then nI 1 else if st (M c) y b = 2 then -nI 1 else nI 0) := by
  obtain ⟨_, e2, e3, e4, _, _⟩ := e_litM s (by omega) c (by omega) y hy b hb
  obtain ⟨h1, h2⟩ := h c hc
  have hp := nb_pw2 (k := y) (by omega)
  have hp0 := Nat.two_pow_pos y
  have hJ : ∀ t : Int32, f_X6_how_J39 (nI s) MY t (nI (2 * (s * c + y) + b)) = some (if b = 1 then t else -t) := by
    intro t
    unfold f_X6_how_J39
    rw [q2, e4]
    unfold gnz
    rw [if_neg (by decide)]
    by_cases g2 : b = 1
    · subst g2; rfl
    · obtain rfl : b = 0 := by omega
      rfl
  unfold f_X6_how st
  rw [e3, ob, e2, ob, n_gin (by omega) (by omega), n_cl (by omega), h1, q1, nb_pow (by omega), nb_and, hJ, hJ, hJ]
  have hb1 := nb_bit (M c) y
  by_cases g1 : M c = 2 ^ y
  · rw [ifne_f g1, if_pos g1]
    by_cases g2 : b = 1
    · subst g2; rfl
    · obtain rfl : b = 0 := by omega
      rfl
  · rw [ifne_t g1 (by omega) (by omega), if_neg g1]
    by_cases g3 : (M c).testBit y = true
    · rw [if_pos g3] at hb1
      rw [hb1, q0, ifne_t (by omega) (by omega) (by omega), if_pos g3]
      by_cases g2 : b = 1
      · subst g2; rfl
      · obtain rfl : b = 0 := by omega
        rfl
    · rw [if_neg g3] at hb1
      rw [hb1, q0, ifne_f rfl, if_neg g3]
      by_cases g2 : b = 1
      · subst g2; rfl
      · obtain rfl : b = 0 := by omega
        rfl
theorem m_make (h : Rep N MY M) (hN : N ≤ 16) (hs : s ≤ 6) {c y b : Nat} (hc : c < N) (hy : y < s) (hb : b < 2) (P : Prop) :
    f_X6_make (nI s) (bI P) MY (nI (2 * (s * c + y) + b)) = some (bI (P ∨ nar (M c) y b = 0), upd MY c (nI (nar (M c) y b))) := by
  obtain ⟨_, e2, e3, e4, _, _⟩ := e_litM s (by omega) c (by omega) y hy b hb
  obtain ⟨h1, h2⟩ := h c hc
  obtain ⟨n1, n2⟩ := n_nar (b := b) h2 (show y < 6 by omega)
  have h64 := (f_4 y (by omega) b hb (M c) h2).1
  have hJ : f_X6_make_J47 (nI s) (nI c) (nI (nar (M c) y b)) (nI c) (bI P) MY = some (bI (P ∨ nar (M c) y b = 0), upd MY c (nI (nar (M c) y b))) := by
    unfold f_X6_make_J47
    rw [n_gin (by omega) (by omega), n_cl (by omega), pk_us, n_gin (by omega) (by omega)]
    by_cases hP : P
    · rw [bI_t hP, bI_t (Or.inl hP), if_pos (by decide)]
    · rw [bI_f hP, if_neg (by decide)]
      by_cases hz : nar (M c) y b = 0
      · rw [bI_t (Or.inr hz), q0, ifne_f hz]
      · rw [bI_f (fun q => q.elim hP hz), q0, ifne_t hz (by omega) (by omega)]
  unfold f_X6_make
  rw [e2, ob, e3, ob]
  unfold gnz
  rw [if_neg (by decide), q2, e4, n_gin (by omega) (by omega), n_cl (by omega), n_gin (by omega) (by omega), h1, q1]
  by_cases g2 : b = 1
  · rw [ifne_f g2, n1 g2, hJ]
  · rw [ifne_t g2 (by omega) (by omega), n2 g2, hJ]
end SU
