/-! PURE PART. bits of small numbers -/
theorem nb_and (a b : Nat) : nI a &&& nI b = nI (a &&& b) := Int32.toBitVec_inj.mp (by
  show BitVec.ofNat 32 a &&& BitVec.ofNat 32 b = BitVec.ofNat 32 (a &&& b)
  apply BitVec.eq_of_getLsbD_eq
  intro i hi
  simp [hi])
theorem nb_or (a b : Nat) : nI a ||| nI b = nI (a ||| b) := Int32.toBitVec_inj.mp (by
  show BitVec.ofNat 32 a ||| BitVec.ofNat 32 b = BitVec.ofNat 32 (a ||| b)
  apply BitVec.eq_of_getLsbD_eq
  intro i hi
  simp [hi])
theorem nb_xor (a b : Nat) : nI a ^^^ nI b = nI (a ^^^ b) := Int32.toBitVec_inj.mp (by
  show BitVec.ofNat 32 a ^^^ BitVec.ofNat 32 b = BitVec.ofNat 32 (a ^^^ b)
  apply BitVec.eq_of_getLsbD_eq
  intro i hi
  simp [hi])
theorem nb_sm : ∀ k, k < 32 → ((nI k &&& 31).toBitVec.smod 32).toNat = k := by decide +kernel
theorem nb_shl {a k : Nat} (hk : k < 32) (h : a * 2 ^ k < 4294967296) : nI a <<< (nI k &&& 31) = nI (a * 2 ^ k) := pk_shlN _ k (nb_sm k hk) h
theorem nb_shr {a k : Nat} (hk : k < 32) (h : a < 2000000) : nI a >>> (nI k &&& 31) = nI (a / 2 ^ k) := pk_shrN (by omega) _ k (nb_sm k hk)
theorem nb_pow {k : Nat} (hk : k < 20) : nI 1 <<< (nI k &&& 31) = nI (2 ^ k) := by
  have h2 : (2 : Nat) ^ k ≤ 2 ^ 19 := Nat.pow_le_pow_right (by omega) (by omega)
  rw [nb_shl (by omega) (by omega), Nat.one_mul]
theorem nb_not {a b : Nat} (ha : a < 65536) (hb : b < 65536) : nI a &&& (nI b ^^^ (-1 : Int32)) = nI (a &&& (b ^^^ 65535)) := by
  have h1 : (-1 : Int32) = nI 4294967295 := by decide
  rw [h1, nb_xor, nb_and]
  congr 1
  apply Nat.eq_of_testBit_eq
  intro i
  simp only [Nat.testBit_and, Nat.testBit_xor]
  by_cases hi : i < 16
  · have e1 : Nat.testBit 4294967295 i = true := by
      have : (4294967295 : Nat) = 2 ^ 32 - 1 := rfl
      rw [this, Nat.testBit_two_pow_sub_one]; simp; omega
    have e2 : Nat.testBit 65535 i = true := by
      have : (65535 : Nat) = 2 ^ 16 - 1 := rfl
      rw [this, Nat.testBit_two_pow_sub_one]; simp; omega
    rw [e1, e2]
  · have e3 : a.testBit i = false := Nat.testBit_lt_two_pow (Nat.lt_of_lt_of_le ha (Nat.pow_le_pow_right (n := 2) (by omega) (by omega : 16 ≤ i)))
    rw [e3]; rfl
theorem nb_pw2 {k : Nat} (h : k < 20) : 2 ^ k < 2000000 := by
  have h2 : (2 : Nat) ^ k ≤ 2 ^ 19 := Nat.pow_le_pow_right (by omega) (by omega)
  omega
theorem nb_bit (m y : Nat) : m &&& 2 ^ y = if m.testBit y then 2 ^ y else 0 := by
  apply Nat.eq_of_testBit_eq
  intro i
  rw [Nat.testBit_and, Nat.testBit_two_pow]
  by_cases h : y = i
  · subst h
    cases h2 : m.testBit y <;> simp
  · cases h2 : m.testBit y <;> simp [h]
theorem nb_ne0 (m y : Nat) : (m &&& 2 ^ y = 0) = (m.testBit y = false) := by
  rw [nb_bit]
  have := Nat.two_pow_pos y
  cases m.testBit y <;> simp <;> omega
theorem nb_orlt {a b k : Nat} (ha : a < 2 ^ k) (hb : b < 2 ^ k) : a ||| b < 2 ^ k := Nat.or_lt_two_pow ha hb
theorem nb_not' {a b : Nat} (ha : a < 65536) (hb : b < 65536) : nI a &&& (nI b ^^^ -nI 1) = nI (a &&& (b ^^^ 65535)) := nb_not ha hb
