/-! PURE PART. how the class's cells and the reference's go together -/
def FF : Nat := 10000
def Dim (gw gc gs ge gf mW mH mS : Int32) (w h s : Nat) : Prop :=
  (1 ≤ w ∧ w ≤ 4 ∧ 1 ≤ h ∧ h ≤ 4 ∧ 1 ≤ s ∧ s ≤ 6 ∧ 1 ≤ w * h ∧ w * h ≤ 16) ∧ gw = nI w ∧ gc = nI (w * h) ∧ gs = nI s ∧ ge = nI (edgeN w h) ∧ gf = nI (edgeN w h * 2 ^ (w - 1)) ∧ mW = nI w ∧ mH = nI h ∧ mS = nI s
def OkR (N n : Nat) (cs : Nat → Nat) : Prop := (∀ k, k < n → cs k < N) ∧ ∀ i j, i < n → j < n → cs i = cs j → i = j
def SRules (N : Nat) (cR mR : Int32) (RK RN RS RC KK KN KS KC : Nat → Int32) : Prop :=
  ∃ nr, nr ≤ 30 ∧ cR = nI nr ∧ mR = nI nr ∧ (∀ i, nr ≤ i → i < 30 → RS i = nI 0) ∧ ∀ i, i < nr → KK i = RK i ∧ KN i = RN i ∧ ∃ n cs, RowR RS RC i n cs ∧ RowR KS KC i n cs ∧ OkR N n cs
def SAns (s : Nat) (SD AN : Nat → Int32) : Prop := ∀ c, c < 16 → AN c = SD c ∧ (SD c = -1 ∨ ∃ y, y < s ∧ SD c = nI y)
def RowC (LS LL : Nat → Int32) (i z : Nat) (c y b : Nat → Nat) : Prop := LS i = nI z ∧ ∀ k, k < z → LL (16 * i + k) = nI (16 * c k + 2 * y k + b k)
def RowM (s : Nat) (JS JL : Nat → Int32) (i z : Nat) (c y b : Nat → Nat) : Prop := JS i = nI z ∧ ∀ k, k < z → JL (16 * i + k) = nI (2 * (s * c k + y k) + b k)
def OkL (N s z : Nat) (c y b : Nat → Nat) : Prop := z ≤ 16 ∧ (∀ k, k < z → c k < N ∧ y k < s ∧ b k < 2) ∧ ∀ i j, i < j → j < z → ¬ (c i = c j ∧ y i = y j ∧ b i = b j)
def Lin (N s : Nat) (LK LN LS LL JK JN JS JL : Nat → Int32) (i j : Nat) : Prop :=
  JK j = LK i ∧ JN j = LN i ∧ ∃ z c y b, RowC LS LL i z c y b ∧ RowM s JS JL j z c y b ∧ OkL N s z c y b
def SLines (N s : Nat) (cL mL : Int32) (LK LN LS LL JK JN JS JL : Nat → Int32) : Prop :=
  ∃ nl, nl ≤ 60 ∧ cL = nI nl ∧ mL = nI nl ∧ ∀ i, i < nl → Lin N s LK LN LS LL JK JN JS JL i i
def SText (cB mZ : Int32) (BB TX : Nat → Int32) : Prop := ∃ nb, nb ≤ 300 ∧ cB = nI nb ∧ mZ = nI nb ∧ ∀ i, i < nb → TX i = BB i ∧ ∃ y, y < 256 ∧ BB i = nI y
def Sim (gw gc gs ge gf cR cL cB pB : Int32) (SD RK RN RS RC RT LK LN LS LL US UB BB : Nat → Int32) (mT mW mH mS mR mL mC mZ mA mB : Int32) (KK KN KS KC AN JK JN JS JL MY KP FI TX : Nat → Int32) : Prop :=
  ∃ w h s, Dim gw gc gs ge gf mW mH mS w h s ∧ SRules (w * h) cR mR RK RN RS RC KK KN KS KC ∧ SAns s SD AN ∧ SLines (w * h) s cL mL LK LN LS LL JK JN JS JL ∧ SText cB mZ BB TX
theorem sim_mk {gw gc gs ge gf cR cL cB pB : Int32} {SD RK RN RS RC RT LK LN LS LL US UB BB : Nat → Int32} {mT mW mH mS mR mL mC mZ mA mB : Int32} {KK KN KS KC AN JK JN JS JL MY KP FI TX : Nat → Int32} {w h s : Nat} (a : Dim gw gc gs ge gf mW mH mS w h s) (b : SRules (w * h) cR mR RK RN RS RC KK KN KS KC) (c : SAns s SD AN) (d : SLines (w * h) s cL mL LK LN LS LL JK JN JS JL) (e : SText cB mZ BB TX) :
  Sim gw gc gs ge gf cR cL cB pB SD RK RN RS RC RT LK LN LS LL US UB BB mT mW mH mS mR mL mC mZ mA mB KK KN KS KC AN JK JN JS JL MY KP FI TX := ⟨w, h, s, a, b, c, d, e⟩
theorem RowR.keep {Z C Z' C' : Nat → Int32} {r n : Nat} {cs : Nat → Nat} (R : RowR Z C r n cs) (h1 : Z' r = Z r) (h2 : ∀ k, k < 9 → C' (9 * r + k) = C (9 * r + k)) : RowR Z' C' r n cs :=
  ⟨R.1, by rw [h1]; exact R.2.1, R.2.2.1, fun k hk => by rw [h2 k (by have := R.2.2.1; omega)]; exact R.2.2.2.1 k hk, R.2.2.2.2⟩
theorem P_rule (gw gc gs ge gf cR cL cB pB : Int32) (SD RK RN RS RC RT LK LN LS LL US UB BB : Nat → Int32) (mT mW mH mS mR mL mC mZ mA mB : Int32) (KK KN KS KC AN JK JN JS JL MY KP FI TX : Nat → Int32) (hs : Sim gw gc gs ge gf cR cL cB pB SD RK RN RS RC RT LK LN LS LL US UB BB mT mW mH mS mR mL mC mZ mA mB KK KN KS KC AN JK JN JS JL MY KP FI TX) (x1 : Int32) (x2 : Int32) : ∃ (r : Int32 × Int32 × (Nat → Int32) × (Nat → Int32)) (t : Int32 × Int32 × Int32 × (Nat → Int32) × (Nat → Int32) × (Nat → Int32)), f_X5_rule cR RK RN x1 x2 = some r ∧ f_X6_rule mT mR KK KN KS x1 x2 = some t ∧ r.1 = t.1 ∧ Sim gw gc gs ge gf r.2.1 cL cB pB SD r.2.2.1 r.2.2.2 RS RC RT LK LN LS LL US UB BB t.2.1 mW mH mS t.2.2.1 mL mC mZ mA mB t.2.2.2.1 t.2.2.2.2.1 t.2.2.2.2.2 KC AN JK JN JS JL MY KP FI TX := by
  obtain ⟨w, h, s, D, ⟨nr, hr, rfl, rfl, hz, hR⟩, A, L, T⟩ := hs
  have S0 : SRules (w * h) (nI nr) (nI nr) RK RN RS RC KK KN KS KC := ⟨nr, hr, rfl, rfl, hz, hR⟩
  unfold f_X5_rule f_X6_rule
  by_cases a1 : x1 < 0
  · rw [if_pos a1, if_pos a1]; exact ⟨_, _, rfl, rfl, rfl, sim_mk D S0 A L T⟩
  rw [if_neg a1, if_neg a1]
  by_cases a2 : 4 < x1
  · rw [if_pos a2, if_pos a2]; exact ⟨_, _, rfl, rfl, rfl, sim_mk D S0 A L T⟩
  rw [if_neg a2, if_neg a2]
  by_cases a3 : x2 < 0
  · rw [if_pos a3, if_pos a3]; exact ⟨_, _, rfl, rfl, rfl, sim_mk D S0 A L T⟩
  rw [if_neg a3, if_neg a3]
  by_cases a4 : x2 ≤ 99
  · rw [if_pos a4, if_neg (Int32.not_lt.mpr a4)]
    unfold f_X3_append
    by_cases a5 : nr = 30
    · simp (disch := omega) only [q0, q1, q2, q3, q4, q5, q7, q9, q10, q16, q30, q48, q57, q60, q99, q255, q300, q4096, pk_mul, nI_add, pk_sub, n_gin, n_cl, ifle_t, ifle_f, iflt_t, iflt_f, ifeq_t, ifeq_f, ifne_t, ifne_f, ifm_f, ifm_t, iflm_f, ifm0_t, ifm0_f, ob, g1n, g0n, ↓reduceIte, not_true_eq_false, not_false_eq_true]
      exact ⟨_, _, rfl, rfl, rfl, sim_mk D S0 A L T⟩
    · simp (disch := omega) only [q0, q1, q2, q3, q4, q5, q7, q9, q10, q16, q30, q48, q57, q60, q99, q255, q300, q4096, pk_mul, nI_add, pk_sub, n_gin, n_cl, ifle_t, ifle_f, iflt_t, iflt_f, ifeq_t, ifeq_f, ifne_t, ifne_f, ifm_f, ifm_t, iflm_f, ifm0_t, ifm0_f, ob, g1n, g0n, ↓reduceIte, not_true_eq_false, not_false_eq_true]
      refine ⟨_, _, rfl, rfl, rfl, sim_mk D ⟨nr + 1, by omega, rfl, rfl, fun i g1 g2 => hz i (by omega) g2, fun i g1 => ?_⟩ A L T⟩
      by_cases hi : i = nr
      · subst hi
        refine ⟨by show upd _ _ _ _ = upd _ _ _ _; rw [pk_us, pk_us], by show upd _ _ _ _ = upd _ _ _ _; rw [pk_us, pk_us], 0, fun _ => 0, ⟨by omega, hz i (by omega) (by omega), by omega, fun k g => by omega, fun k g => by omega⟩, ⟨by omega, pk_us, by omega, fun k g => by omega, fun k g => by omega⟩, fun k g => by omega, fun k j g => by omega⟩
      · obtain ⟨b1, b2, n, cs, b3, b4, b5⟩ := hR i (by omega)
        refine ⟨by show upd _ _ _ _ = upd _ _ _ _; rw [pk_un hi, pk_un hi]; exact b1, by show upd _ _ _ _ = upd _ _ _ _; rw [pk_un hi, pk_un hi]; exact b2, n, cs, b3, b4.keep (pk_un hi) (fun _ _ => rfl), b5⟩
  · rw [if_neg a4, if_pos (Int32.not_le.mp a4)]; exact ⟨_, _, rfl, rfl, rfl, sim_mk D S0 A L T⟩
theorem P_unit (gw gc gs ge gf cR cL cB pB : Int32) (SD RK RN RS RC RT LK LN LS LL US UB BB : Nat → Int32) (mT mW mH mS mR mL mC mZ mA mB : Int32) (KK KN KS KC AN JK JN JS JL MY KP FI TX : Nat → Int32) (hs : Sim gw gc gs ge gf cR cL cB pB SD RK RN RS RC RT LK LN LS LL US UB BB mT mW mH mS mR mL mC mZ mA mB KK KN KS KC AN JK JN JS JL MY KP FI TX) (x1 : Int32) : ∃ (r : Int32 × Int32 × (Nat → Int32)) (t : Int32 × Int32 × Int32 × (Nat → Int32)), f_X5_unit cB BB x1 = some r ∧ f_X6_unit mT mZ TX x1 = some t ∧ r.1 = t.1 ∧ Sim gw gc gs ge gf cR cL r.2.1 pB SD RK RN RS RC RT LK LN LS LL US UB r.2.2 t.2.1 mW mH mS mR mL mC t.2.2.1 mA mB KK KN KS KC AN JK JN JS JL MY KP FI t.2.2.2 := by
  obtain ⟨w, h, s, D, R, A, L, ⟨nb, hb, rfl, rfl, hT⟩⟩ := hs
  have S0 : SText (nI nb) (nI nb) BB TX := ⟨nb, hb, rfl, rfl, hT⟩
  unfold f_X5_unit f_X6_unit f_X2_append
  by_cases a1 : x1 < 0
  · rw [if_pos a1, if_pos a1]; exact ⟨_, _, rfl, rfl, rfl, sim_mk D R A L S0⟩
  rw [if_neg a1, if_neg a1]
  by_cases a2 : 255 < x1
  · rw [if_pos a2, if_pos a2]; exact ⟨_, _, rfl, rfl, rfl, sim_mk D R A L S0⟩
  rw [if_neg a2, if_neg a2]
  obtain ⟨y, hy, rfl⟩ := nI_of2 (n := 255) (M := 255) (by decide) a1 (Int32.not_lt.mp a2)
  by_cases a5 : nb = 300
  · simp (disch := omega) only [q0, q1, q2, q3, q4, q5, q7, q9, q10, q16, q30, q48, q57, q60, q99, q255, q300, q4096, pk_mul, nI_add, pk_sub, n_gin, n_cl, ifle_t, ifle_f, iflt_t, iflt_f, ifeq_t, ifeq_f, ifne_t, ifne_f, ifm_f, ifm_t, iflm_f, ifm0_t, ifm0_f, ob, g1n, g0n, ↓reduceIte, not_true_eq_false, not_false_eq_true]
    exact ⟨_, _, rfl, rfl, rfl, sim_mk D R A L S0⟩
  · simp (disch := omega) only [q0, q1, q2, q3, q4, q5, q7, q9, q10, q16, q30, q48, q57, q60, q99, q255, q300, q4096, pk_mul, nI_add, pk_sub, n_gin, n_cl, ifle_t, ifle_f, iflt_t, iflt_f, ifeq_t, ifeq_f, ifne_t, ifne_f, ifm_f, ifm_t, iflm_f, ifm0_t, ifm0_f, ob, g1n, g0n, ↓reduceIte, not_true_eq_false, not_false_eq_true]
    refine ⟨_, _, rfl, rfl, rfl, sim_mk D R A L ⟨nb + 1, by omega, rfl, rfl, fun i g1 => ?_⟩⟩
    by_cases hi : i = nb
    · subst hi
      exact ⟨by show upd _ _ _ _ = upd _ _ _ _; rw [pk_us, pk_us], y, by omega, pk_us⟩
    · obtain ⟨b1, b2⟩ := hT i (by omega)
      refine ⟨by show upd _ _ _ _ = upd _ _ _ _; rw [pk_un hi, pk_un hi]; exact b1, ?_⟩
      show ∃ y, y < 256 ∧ upd _ _ _ _ = nI y
      rw [pk_un hi]; exact b2
theorem P_drop (gw gc gs ge gf cR cL cB pB : Int32) (SD RK RN RS RC RT LK LN LS LL US UB BB : Nat → Int32) (mT mW mH mS mR mL mC mZ mA mB : Int32) (KK KN KS KC AN JK JN JS JL MY KP FI TX : Nat → Int32) (hs : Sim gw gc gs ge gf cR cL cB pB SD RK RN RS RC RT LK LN LS LL US UB BB mT mW mH mS mR mL mC mZ mA mB KK KN KS KC AN JK JN JS JL MY KP FI TX) : ∃ (r : Int32 × Int32) (t : Int32 × Int32 × Int32), f_X5_drop cL = some r ∧ f_X6_drop mT mL = some t ∧ r.1 = t.1 ∧ Sim gw gc gs ge gf cR r.2 cB pB SD RK RN RS RC RT LK LN LS LL US UB BB t.2.1 mW mH mS mR t.2.2 mC mZ mA mB KK KN KS KC AN JK JN JS JL MY KP FI TX := by
  obtain ⟨w, h, s, D, R, A, ⟨nl, hl, rfl, rfl, hL⟩, T⟩ := hs
  unfold f_X5_drop f_X6_drop f_X1_count f_X1_cutTo
  by_cases a : nl = 0
  · simp (disch := omega) only [q0, q1, q2, q3, q4, q5, q7, q9, q10, q16, q30, q48, q57, q60, q99, q255, q300, q4096, pk_mul, nI_add, pk_sub, n_gin, n_cl, ifle_t, ifle_f, iflt_t, iflt_f, ifeq_t, ifeq_f, ifne_t, ifne_f, ifm_f, ifm_t, iflm_f, ifm0_t, ifm0_f, ob, g1n, g0n, ↓reduceIte, not_true_eq_false, not_false_eq_true]
    exact ⟨_, _, rfl, rfl, rfl, sim_mk D R A ⟨nl, hl, rfl, rfl, hL⟩ T⟩
  · simp (disch := omega) only [q0, q1, q2, q3, q4, q5, q7, q9, q10, q16, q30, q48, q57, q60, q99, q255, q300, q4096, pk_mul, nI_add, pk_sub, n_gin, n_cl, ifle_t, ifle_f, iflt_t, iflt_f, ifeq_t, ifeq_f, ifne_t, ifne_f, ifm_f, ifm_t, iflm_f, ifm0_t, ifm0_f, ob, g1n, g0n, ↓reduceIte, not_true_eq_false, not_false_eq_true]
    refine ⟨_, _, rfl, rfl, rfl, ?_⟩
    exact sim_mk D R A ⟨nl - 1, by omega, rfl, rfl, fun i g => hL i (by omega)⟩ T
theorem RowC.keep {LS LL LS' LL' : Nat → Int32} {i z : Nat} {c y b : Nat → Nat} (R : RowC LS LL i z c y b) (hz : z ≤ 16) (h1 : LS' i = LS i) (h2 : ∀ k, k < 16 → LL' (16 * i + k) = LL (16 * i + k)) : RowC LS' LL' i z c y b :=
  ⟨by rw [h1]; exact R.1, fun k hk => by rw [h2 k (by omega)]; exact R.2 k hk⟩
theorem RowM.keep {s : Nat} {LS LL LS' LL' : Nat → Int32} {i z : Nat} {c y b : Nat → Nat} (R : RowM s LS LL i z c y b) (hz : z ≤ 16) (h1 : LS' i = LS i) (h2 : ∀ k, k < 16 → LL' (16 * i + k) = LL (16 * i + k)) : RowM s LS' LL' i z c y b :=
  ⟨by rw [h1]; exact R.1, fun k hk => by rw [h2 k (by omega)]; exact R.2 k hk⟩
theorem P_line (gw gc gs ge gf cR cL cB pB : Int32) (SD RK RN RS RC RT LK LN LS LL US UB BB : Nat → Int32) (mT mW mH mS mR mL mC mZ mA mB : Int32) (KK KN KS KC AN JK JN JS JL MY KP FI TX : Nat → Int32) (hs : Sim gw gc gs ge gf cR cL cB pB SD RK RN RS RC RT LK LN LS LL US UB BB mT mW mH mS mR mL mC mZ mA mB KK KN KS KC AN JK JN JS JL MY KP FI TX) (x1 : Int32) (x2 : Int32) : ∃ (r : Int32 × Int32 × (Nat → Int32) × (Nat → Int32) × (Nat → Int32)) (t : Int32 × Int32 × Int32 × (Nat → Int32) × (Nat → Int32) × (Nat → Int32)), f_X5_line cL LK LN LS x1 x2 = some r ∧ f_X6_line mT mL JK JN JS x1 x2 = some t ∧ r.1 = t.1 ∧ Sim gw gc gs ge gf cR r.2.1 cB pB SD RK RN RS RC RT r.2.2.1 r.2.2.2.1 r.2.2.2.2 LL US UB BB t.2.1 mW mH mS mR t.2.2.1 mC mZ mA mB KK KN KS KC AN t.2.2.2.1 t.2.2.2.2.1 t.2.2.2.2.2 JL MY KP FI TX := by
  obtain ⟨w, h, s, D, R, A, ⟨nl, hl, rfl, rfl, hL⟩, T⟩ := hs
  have S0 : SLines (w * h) s (nI nl) (nI nl) LK LN LS LL JK JN JS JL := ⟨nl, hl, rfl, rfl, hL⟩
  unfold f_X5_line f_X6_line
  by_cases a1 : x1 < 0
  · rw [if_pos a1, if_pos a1]; exact ⟨_, _, rfl, rfl, rfl, sim_mk D R A S0 T⟩
  rw [if_neg a1, if_neg a1]
  by_cases a2 : 3 < x1
  · rw [if_pos a2, if_pos a2]; exact ⟨_, _, rfl, rfl, rfl, sim_mk D R A S0 T⟩
  rw [if_neg a2, if_neg a2]
  by_cases a5 : nl = 60
  · simp (disch := omega) only [q0, q1, q2, q3, q4, q5, q7, q9, q10, q16, q30, q48, q57, q60, q99, q255, q300, q4096, pk_mul, nI_add, pk_sub, n_gin, n_cl, ifle_t, ifle_f, iflt_t, iflt_f, ifeq_t, ifeq_f, ifne_t, ifne_f, ifm_f, ifm_t, iflm_f, ifm0_t, ifm0_f, ob, g1n, g0n, ↓reduceIte, not_true_eq_false, not_false_eq_true, f_X1_isFull]
    exact ⟨_, _, rfl, rfl, rfl, sim_mk D R A S0 T⟩
  · simp (disch := omega) only [q0, q1, q2, q3, q4, q5, q7, q9, q10, q16, q30, q48, q57, q60, q99, q255, q300, q4096, pk_mul, nI_add, pk_sub, n_gin, n_cl, ifle_t, ifle_f, iflt_t, iflt_f, ifeq_t, ifeq_f, ifne_t, ifne_f, ifm_f, ifm_t, iflm_f, ifm0_t, ifm0_f, ob, g1n, g0n, ↓reduceIte, not_true_eq_false, not_false_eq_true, f_X1_isFull, f_X1_startDraft, f_X1_keepDraft, f_X1_count, f_X6_begin]
    refine ⟨_, _, rfl, rfl, rfl, sim_mk D R A ⟨nl + 1, by omega, rfl, rfl, fun i g1 => ?_⟩ T⟩
    by_cases hi : i = nl
    · subst hi
      exact ⟨by show upd _ _ _ _ = upd _ _ _ _; rw [pk_us, pk_us], by show upd _ _ _ _ = upd _ _ _ _; rw [pk_us, pk_us], 0, fun _ => 0, fun _ => 0, fun _ => 0, ⟨pk_us, fun k g => by omega⟩, ⟨pk_us, fun k g => by omega⟩, by omega, fun k g => by omega, fun k j g => by omega⟩
    · obtain ⟨b1, b2, z, c, y, b, b3, b4, b5⟩ := hL i (by omega)
      exact ⟨by show upd _ _ _ _ = upd _ _ _ _; rw [pk_un hi, pk_un hi]; exact b1, by show upd _ _ _ _ = upd _ _ _ _; rw [pk_un hi, pk_un hi]; exact b2, z, c, y, b, b3.keep b5.1 (pk_un hi) (fun _ _ => rfl), b4.keep b5.1 (pk_un hi) (fun _ _ => rfl), b5⟩
