/-! PURE PART. hanging together -/
def adjB (w c d : Nat) : Bool := decide (d = c + w) || decide (c = d + w) || (decide (c = d + 1) && decide (c % w ≠ 0)) || (decide (d = c + 1) && decide (c % w ≠ w - 1))
theorem adj_sym : ∀ w, w < 5 → 0 < w → ∀ c, c < 16 → ∀ d, d < 16 → adjB w c d = true → adjB w d c = true := by decide +kernel
theorem adj_m : ∀ w, w < 5 → 0 < w → ∀ c, c < 16 → ∀ d, d < 16 → f_X6_isNext (nI w) (nI c) (nI d) = some (if adjB w c d then 1 else 0) := by decide +kernel
/-- a set of places that holds with one that has 1 all next to it that have 1 -/
def Clo (w n : Nat) (cs v : Nat → Nat) (P : Nat → Prop) : Prop := ∀ k i, k < n → i < n → v k = 1 → v i = 1 → P k → adjB w (cs k) (cs i) = true → P i
def Conn (w n : Nat) (cs v : Nat → Nat) : Prop := ∀ a b, a < n → b < n → v a = 1 → v b = 1 → ∀ P : Nat → Prop, Clo w n cs v P → P a → P b
theorem conn_from {w n : Nat} {cs v : Nat → Nat} (hw : w < 5) (hw0 : 0 < w) (hc : ∀ k, k < n → cs k < 16) {a0 : Nat} (h0 : a0 < n) (h1 : v a0 = 1) :
    Conn w n cs v ↔ ∀ b, b < n → v b = 1 → ∀ P : Nat → Prop, Clo w n cs v P → P a0 → P b := by
  constructor
  · intro h b hb hb1 P hP
    exact h a0 b h0 hb h1 hb1 P hP
  · intro h a b ha hb ha1 hb1 P hP hPa
    have hq : P a0 := by
      apply Classical.byContradiction
      intro hn
      refine h a ha ha1 (fun x => ¬ P x) ?_ hn hPa
      intro k i hk hi hk1 hi1 hnk hadj hpi
      exact hnk (hP i k hi hk hi1 hk1 hpi (adj_sym w hw hw0 _ (hc k hk) _ (hc i hi) hadj))
    exact h b hb hb1 P hP hq
theorem conn_none {w n : Nat} {cs v : Nat → Nat} (h : ∀ k, k < n → ¬ v k = 1) : Conn w n cs v := fun a b ha hb ha1 => absurd ha1 (h a ha)
/-- how many of the first n -/
def cntB (p : Nat → Bool) : Nat → Nat
  | 0 => 0
  | k + 1 => cntB p k + (if p k then 1 else 0)
theorem cntB_le {p : Nat → Bool} : ∀ n, cntB p n ≤ n := by
  intro n
  induction n with
  | zero => exact Nat.le_refl _
  | succ n ih => rw [cntB]; split <;> omega
theorem cntB_mono {p q : Nat → Bool} : ∀ n, (∀ i, i < n → p i = true → q i = true) → cntB p n ≤ cntB q n := by
  intro n
  induction n with
  | zero => intro _; exact Nat.le_refl _
  | succ n ih =>
    intro h
    have i1 := ih (fun i a => h i (by omega))
    have i2 := h n (by omega)
    rw [cntB, cntB]
    by_cases hp : p n = true
    · rw [if_pos hp, if_pos (i2 hp)]; omega
    · rw [if_neg hp]; omega
theorem cntB_lt {p q : Nat → Bool} : ∀ n, (∀ i, i < n → p i = true → q i = true) → ∀ j, j < n → q j = true → ¬ p j = true → cntB p n + 1 ≤ cntB q n := by
  intro n
  induction n with
  | zero => intro _ j h; omega
  | succ n ih =>
    intro h j hj hq hp
    have i2 := h n (by omega)
    have im := cntB_mono n (fun i a => h i (by omega))
    rw [cntB, cntB]
    by_cases hjn : j = n
    · subst hjn
      rw [if_neg hp, if_pos hq]; omega
    · have i1 := ih (fun i a => h i (by omega)) j (by omega) hq hp
      by_cases hp : p n = true
      · rw [if_pos hp, if_pos (i2 hp)]; omega
      · rw [if_neg hp]; omega
theorem cntB_pos {p : Nat → Bool} (n : Nat) {j : Nat} (hj : j < n) (h : p j = true) : 1 ≤ cntB p n := by
  have := cntB_lt (p := fun _ => false) (q := p) n (fun i _ h => absurd h (by decide)) j hj h (by decide)
  omega
def Sb (a b : Nat) : Prop := ∀ i, a.testBit i = true → b.testBit i = true
theorem Sb.antisymm {a b : Nat} (h1 : Sb a b) (h2 : Sb b a) : a = b := by
  apply Nat.eq_of_testBit_eq
  intro i
  have := h1 i
  have := h2 i
  cases h : a.testBit i <;> cases h' : b.testBit i <;> simp_all
theorem Sb.lt {a b k : Nat} (h : Sb a b) (hb : b < 2 ^ k) : a < 2 ^ k := by
  apply Nat.lt_pow_two_of_testBit
  intro i hi
  cases h2 : a.testBit i with
  | false => rfl
  | true =>
    have h3 := h i h2
    rw [Nat.testBit_lt_two_pow (Nat.lt_of_lt_of_le hb (Nat.pow_le_pow_right (by omega) hi))] at h3
    cases h3
theorem tb_lt {a k i : Nat} (ha : a < 2 ^ k) (h : a.testBit i = true) : i < k := by
  apply Classical.byContradiction
  intro hn
  rw [Nat.testBit_lt_two_pow (Nat.lt_of_lt_of_le ha (Nat.pow_le_pow_right (by omega) (by omega)))] at h
  cases h
theorem tb_shr {a k : Nat} (hk : k < 32) (ha : a < 2000000) : ((nI a >>> (nI k &&& 31)) &&& nI 1) = nI (if a.testBit k then 1 else 0) := by
  rw [nb_shr hk ha, nb_and]
  congr 1
  rw [Nat.and_one_is_mod, Nat.testBit_eq_decide_div_mod_eq]
  have := Nat.mod_two_eq_zero_or_one (a / 2 ^ k)
  by_cases h : a / 2 ^ k % 2 = 1
  · simp [h]
  · have h0 : a / 2 ^ k % 2 = 0 := by omega
    simp [h0]
