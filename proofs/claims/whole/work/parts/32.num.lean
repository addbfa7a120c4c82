/-! PURE PART. numbers -/
theorem q0 : (0 : Int32) = nI 0 := by decide
theorem q1 : (1 : Int32) = nI 1 := by decide
theorem q2 : (2 : Int32) = nI 2 := by decide
theorem q3 : (3 : Int32) = nI 3 := by decide
theorem q4 : (4 : Int32) = nI 4 := by decide
theorem q5 : (5 : Int32) = nI 5 := by decide
theorem q7 : (7 : Int32) = nI 7 := by decide
theorem q9 : (9 : Int32) = nI 9 := by decide
theorem q10 : (10 : Int32) = nI 10 := by decide
theorem q16 : (16 : Int32) = nI 16 := by decide
theorem q30 : (30 : Int32) = nI 30 := by decide
theorem q48 : (48 : Int32) = nI 48 := by decide
theorem q57 : (57 : Int32) = nI 57 := by decide
theorem q60 : (60 : Int32) = nI 60 := by decide
theorem q99 : (99 : Int32) = nI 99 := by decide
theorem q255 : (255 : Int32) = nI 255 := by decide
theorem q300 : (300 : Int32) = nI 300 := by decide
theorem q4096 : (4096 : Int32) = nI 4096 := by decide
theorem n_gin {α : Type} {i N : Nat} {k : Option α} (h : i < N) (hN : N < 2000000) : gin (nI i) N k = k :=
  gin_in (by rw [nI_toInt (by omega)]; omega)
theorem n_cl {n : Nat} (h : n < 2000000) : (nI n).toNatClampNeg = n := nI_clamp (by omega)
theorem n_le {a b : Nat} (ha : a < 2000000) (hb : b < 2000000) : (nI a ≤ nI b) = (a ≤ b) := propext (nI_leI (by omega) (by omega))
theorem n_lt {a b : Nat} (ha : a < 2000000) (hb : b < 2000000) : (nI a < nI b) = (a < b) := propext (nI_ltI (by omega) (by omega))
theorem n_eq {a b : Nat} (ha : a < 2000000) (hb : b < 2000000) : (nI a = nI b) = (a = b) := propext (nI_eq (by omega) (by omega))
theorem n_m1 {a : Nat} (ha : a < 2000000) : (nI a = (-1 : Int32)) = False := by
  apply eq_false
  intro h
  have := congrArg Int32.toInt h
  rw [nI_toInt (by omega)] at this
  have h2 : (-1 : Int32).toInt = -1 := by decide
  omega
theorem n_m1' {a : Nat} (ha : a < 2000000) : ((-1 : Int32) = nI a) = False := by
  apply eq_false; intro h; rw [← n_m1 ha]; exact h.symm
theorem n_m1lt : ((-1 : Int32) < 0) = True := by decide
theorem n_sub1 {a : Nat} (h : 0 < a) : nI a - nI 1 = nI (a - 1) := pk_sub h
theorem n_neg (x : Int32) (h : x < 0) {n : Nat} (hn : n < 2000000) : ¬ nI n ≤ x ∧ x ≤ nI n ∧ ¬ x = nI n ∧ ¬ nI n = x := by
  have h1 : x.toInt < 0 := by have := Int32.lt_iff_toInt_lt.mp h; simpa using this
  have h2 := nI_toInt (n := n) (by omega)
  refine ⟨?_, ?_, ?_, ?_⟩
  · rw [Int32.le_iff_toInt_le]; omega
  · rw [Int32.le_iff_toInt_le]; omega
  · rintro rfl; omega
  · rintro rfl; omega
/-- truth as a number -/
noncomputable def bI (p : Prop) : Int32 := @ite _ p (Classical.propDecidable p) 1 0
theorem bI_t {p : Prop} (h : p) : bI p = 1 := by unfold bI; exact if_pos h
theorem bI_f {p : Prop} (h : ¬ p) : bI p = 0 := by unfold bI; exact if_neg h
theorem bI_or (p : Prop) : bI p = 0 ∨ bI p = 1 := by
  cases Classical.em p with
  | inl h => exact Or.inr (bI_t h)
  | inr h => exact Or.inl (bI_f h)
theorem bI_0 (p : Prop) : (bI p = 0) = ¬ p := by
  apply propext
  cases Classical.em p with
  | inl h => rw [bI_t h]; exact ⟨fun q => absurd q (by decide), fun q => absurd h q⟩
  | inr h => rw [bI_f h]; exact ⟨fun _ => h, fun _ => rfl⟩
theorem bI_1 (p : Prop) : (bI p = 1) = p := by
  apply propext
  cases Classical.em p with
  | inl h => rw [bI_t h]; exact ⟨fun _ => h, fun _ => rfl⟩
  | inr h => rw [bI_f h]; exact ⟨fun q => absurd q (by decide), fun q => absurd q h⟩
theorem bI_c {p q : Prop} (h : p ↔ q) : bI p = bI q := by rw [propext h]
theorem bI_T : bI True = 1 := bI_t trivial
theorem bI_F : bI False = 0 := bI_f id
theorem bI_gbl {α : Type} (p : Prop) (k : Option α) : gbl (bI p) k = k := by
  unfold gbl; exact if_pos (bI_or p)
theorem b1_gbl {α : Type} (k : Option α) : gbl (1 : Int32) k = k := by unfold gbl; exact if_pos (Or.inr rfl)
theorem b0_gbl {α : Type} (k : Option α) : gbl (0 : Int32) k = k := by unfold gbl; exact if_pos (Or.inl rfl)
theorem ob {α β : Type} (x : α) (f : α → Option β) : Option.bind (some x) f = f x := by rw [Option.bind_some]
theorem lb_bI (p : Prop) : (lb (bI p)) = (lb (bI p)) := rfl
theorem g1n {α : Type} (k : Option α) : gbl (nI 1) k = k := by unfold gbl; exact if_pos (Or.inr rfl)
theorem g0n {α : Type} (k : Option α) : gbl (nI 0) k = k := by unfold gbl; exact if_pos (Or.inl rfl)
theorem n_big {j M : Nat} (h : M < j) (hj : j < 2 ^ 31) : ¬ nI j < nI M ∧ ¬ nI j ≤ nI M := ⟨nI_nlt (Nat.le_of_lt h) hj, nI_ge h hj⟩
section IFS
variable {α : Type} {X Y : α} {a b : Nat}
theorem ifle_t [Decidable (nI a ≤ nI b)] (h : a ≤ b) (hb : b < 2000000) : (if nI a ≤ nI b then X else Y) = X := if_pos ((nI_leI (by omega) (by omega)).mpr h)
theorem ifle_f [Decidable (nI a ≤ nI b)] (h : b < a) (hb : a < 2000000) : (if nI a ≤ nI b then X else Y) = Y := if_neg (fun q => by have := (nI_leI (by omega) (by omega)).mp q; omega)
theorem iflt_t [Decidable (nI a < nI b)] (h : a < b) (hb : b < 2000000) : (if nI a < nI b then X else Y) = X := if_pos ((nI_ltI (by omega) (by omega)).mpr h)
theorem iflt_f [Decidable (nI a < nI b)] (h : b ≤ a) (hb : a < 2000000) : (if nI a < nI b then X else Y) = Y := if_neg (fun q => by have := (nI_ltI (by omega) (by omega)).mp q; omega)
theorem ifeq_t [Decidable (nI a = nI b)] (h : a = b) : (if nI a = nI b then X else Y) = X := if_pos (by rw [h])
theorem ifeq_f [Decidable (nI a = nI b)] (h : ¬ a = b) (ha : a < 2000000) (hb : b < 2000000) : (if nI a = nI b then X else Y) = Y := if_neg (fun q => h ((nI_eq (by omega) (by omega)).mp q))
theorem ifne_t [Decidable (¬ nI a = nI b)] (h : ¬ a = b) (ha : a < 2000000) (hb : b < 2000000) : (if ¬ nI a = nI b then X else Y) = X := if_pos (fun q => h ((nI_eq (by omega) (by omega)).mp q))
theorem ifne_f [Decidable (¬ nI a = nI b)] (h : a = b) : (if ¬ nI a = nI b then X else Y) = Y := if_neg (fun q => q (by rw [h]))
theorem ifm_f [Decidable (nI a = -nI 1)] (ha : a < 2000000) : (if nI a = -nI 1 then X else Y) = Y := if_neg (fun q => by rw [← n_m1 ha]; exact q)
theorem ifm_t [Decidable (¬ nI a = -nI 1)] (ha : a < 2000000) : (if ¬ nI a = -nI 1 then X else Y) = X := if_pos (fun q => by rw [← n_m1 ha]; exact q)
theorem iflm_f [Decidable (nI a < -nI 1)] (ha : a < 2000000) : (if nI a < -nI 1 then X else Y) = Y := if_neg (fun q => by
  have h := Int32.lt_iff_toInt_lt.mp q
  rw [nI_toInt (by omega)] at h
  have h2 : (-nI 1).toInt = -1 := by decide
  omega)
theorem ifm0_t [Decidable (-nI 1 < nI a)] (ha : a < 2000000) : (if -nI 1 < nI a then X else Y) = X := if_pos (by
  rw [Int32.lt_iff_toInt_lt, nI_toInt (by omega)]
  have h2 : (-nI 1).toInt = -1 := by decide
  omega)
theorem ifm0_f [Decidable (nI a ≤ -nI 1)] (ha : a < 2000000) : (if nI a ≤ -nI 1 then X else Y) = Y := if_neg (fun q => by
  have h := Int32.le_iff_toInt_le.mp q
  rw [nI_toInt (by omega)] at h
  have h2 : (-nI 1).toInt = -1 := by decide
  omega)
end IFS
