abbrev rm_X5_tell : Room := { frames := 2, cells := 0, slots := 0, locals := 46 }
set_option maxHeartbeats 4000000 in
set_option maxRecDepth 100000 in
theorem c_X5_tell (l : Launch) (D : va_G) (cI : ClassId) (α : Nat → Nat) (gw gc gs ge gf cR cL cB pB : Int32) (SD RK RN RS RC RT LK LN LS LL US UB BB : Nat → Int32) (x1 : Int32) (x2 : Int32) (res : Int32) (hf : f_X5_tell gs cL LK LN LS LL x1 x2 = some res) : kI l yX5_tell wsX5_tell rm_X5_tell D cI [.ref (α 0), .int x1, .int x2] (wC cI α gw gc gs ge gf cR cL cB pB SD RK RN RS RC RT LK LN LS LL US UB BB) (wC cI α gw gc gs ge gf cR cL cB pB SD RK RN RS RC RT LK LN LS LL US UB BB) res := by
  unfold f_X5_tell at hf
  refine kI_of (cc := cX5_tell) (maxL := 3) (ret := (some .int)) (by decide +kernel) rfl (Nat.le_of_ble_eq_true rfl) ?_
  intro p e s m args below meth c A ls S hP hD hS hl
  have S : kC p s m args meth c cX5_tell 3 wsX5_tell RX5 (some .int) D cI A := S
  have hx := S.1.1
  have hb := S.1.2.1
  have hml := S.1.2.2.1
  have hown : s.vm.findClass RX5 = some m.cls := S.1.2.2.2.1
  have hts := S.1.2.2.2.2
  have hK := S.2.2.2.1
  have hnk := S.2.2.2.2.1.2
  have hiX5 : ∀ w ∈ u_ws RX5 TX5 6, w ∈ wsX5_tell := by decide +kernel
  have fl30 := hts (.fieldLink RX5 30 "ProofChecker" "lines" "LProofChecker$Lines;") (by decide +kernel)
  have hl : lv_has ls 3 [(0, .ref (α 0)), (1, .int x1), (2, .int x2)] := hl
  suffices hgo : ∀ (H : Heap) (locs : List Loc), va_P D vwCl (wC cI α gw gc gs ge gf cR cL cB pB SD RK RN RS RC RT LK LN LS LL US UB BB) H → va_D A (wC cI α gw gc gs ge gf cR cL cB pB SD RK RN RS RC RT LK LN LS LL US UB BB) → va_S A s.heap H locs → W p l e rm_X5_tell s m args below meth c H locs 0 0 (MQ below (kQi D A (wC cI α gw gc gs ge gf cR cL cB pB SD RK RN RS RC RT LK LN LS LL US UB BB) res) args s 0 0 A) (F0 m 0 ls []) from hgo _ _ hP hD hS
  clear hP hD hS
  intro H locs hP hD hS
  refine lv_iload_n hx hb dX5_tell_0 rfl (lv_at hl 1 rfl) ?_
  refine lv_if_lt (tgt := 15) hx hb dX5_tell_1 (by decide) (fun c1 => ?_) (fun c1 => ?_)
  · have hf := it_t c1 hf
    cases hf
  · have hf := it_f c1 hf
    refine lv_iload_n hx hb dX5_tell_4 rfl (lv_at hl 1 rfl) ?_
    refine lv_aload_n hx hb dX5_tell_5 rfl (lv_at hl 0 rfl) ?_
    refine va_get (D := D) (ci := 6) (v := .ref (α 3)) (C := RX5) (T := TX5) (N := 6) hx hb hts hiX5 hown hK hP 0 rfl rfl 2 (by decide) fl30 (fun _ h9 => h9) rfl dX5_tell_6 ?_
    obtain ⟨q2, hq2, hf⟩ := bnd hf
    refine kI_callV (As := []) (rest := [.int x1]) S hP hD hS (c_X1_count l D cI α gw gc gs ge gf cR cL cB pB SD RK RN RS RC RT LK LN LS LL US UB BB q2 hq2) (cwV 0 hts gX5_tell_X1_count rfl rfl rfl (by decide +kernel) ⟨Nat.le_of_ble_eq_true rfl, Nat.le_of_ble_eq_true rfl⟩) 3 rfl rfl rfl hl.1 rfl (Nat.le_of_ble_eq_true rfl) dX5_tell_9 ⟨Nat.zero_le _, Nat.zero_le _⟩ (fun H locs hP hD hS => ?_)
    have hP : va_P D vwCl (wC cI α gw gc gs ge gf cR cL cB pB SD RK RN RS RC RT LK LN LS LL US UB BB) H := hP
    have hD : va_D A (wC cI α gw gc gs ge gf cR cL cB pB SD RK RN RS RC RT LK LN LS LL US UB BB) := hD
    refine lv_icmp_lt (tgt := 25) hx hb dX5_tell_12 (by decide) (fun c3 => ?_) (fun c3 => ?_)
    · have hf := it_t c3 hf
      refine lv_iload_n hx hb dX5_tell_25 rfl (lv_at hl 2 rfl) ?_
      by_cases c4 : x2 = (0 : Int32)
      · have hf := it_t c4 hf
        refine sw_in (k := (0 : Int32)) (tgt := 52) hx hb c4 dX5_tell_26 (by decide) (by decide) rfl (by decide) ?_
        refine lv_aload_n hx hb dX5_tell_52 rfl (lv_at hl 0 rfl) ?_
        refine va_get (D := D) (ci := 6) (v := .ref (α 3)) (C := RX5) (T := TX5) (N := 6) hx hb hts hiX5 hown hK hP 0 rfl rfl 2 (by decide) fl30 (fun _ h9 => h9) rfl dX5_tell_53 ?_
        refine lv_iload_n hx hb dX5_tell_56 rfl (lv_at hl 1 rfl) ?_
        obtain ⟨q5, hq5, hf⟩ := bnd hf
        refine kI_callV (As := [.int x1]) (rest := []) S hP hD hS (c_X1_kindOf l D cI α gw gc gs ge gf cR cL cB pB SD RK RN RS RC RT LK LN LS LL US UB BB x1 q5 hq5) (cwV 1 hts gX5_tell_X1_kindOf rfl rfl rfl (by decide +kernel) ⟨Nat.le_of_ble_eq_true rfl, Nat.le_of_ble_eq_true rfl⟩) 3 rfl rfl rfl hl.1 rfl (Nat.le_of_ble_eq_true rfl) dX5_tell_57 ⟨Nat.zero_le _, Nat.zero_le _⟩ (fun H locs hP hD hS => ?_)
        have hP : va_P D vwCl (wC cI α gw gc gs ge gf cR cL cB pB SD RK RN RS RC RT LK LN LS LL US UB BB) H := hP
        have hD : va_D A (wC cI α gw gc gs ge gf cR cL cB pB SD RK RN RS RC RT LK LN LS LL US UB BB) := hD
        have e9 := Option.some.inj hf
        subst e9
        exact kI_ret S rfl hP hD hS dX5_tell_60
      have hf := it_f c4 hf
      by_cases c6 : x2 = (1 : Int32)
      · have hf := it_t c6 hf
        refine sw_in (k := (1 : Int32)) (tgt := 61) hx hb c6 dX5_tell_26 (by decide) (by decide) rfl (by decide) ?_
        refine lv_aload_n hx hb dX5_tell_61 rfl (lv_at hl 0 rfl) ?_
        refine va_get (D := D) (ci := 6) (v := .ref (α 3)) (C := RX5) (T := TX5) (N := 6) hx hb hts hiX5 hown hK hP 0 rfl rfl 2 (by decide) fl30 (fun _ h9 => h9) rfl dX5_tell_62 ?_
        refine lv_iload_n hx hb dX5_tell_65 rfl (lv_at hl 1 rfl) ?_
        obtain ⟨q7, hq7, hf⟩ := bnd hf
        refine kI_callV (As := [.int x1]) (rest := []) S hP hD hS (c_X1_numberOf l D cI α gw gc gs ge gf cR cL cB pB SD RK RN RS RC RT LK LN LS LL US UB BB x1 q7 hq7) (cwV 1 hts gX5_tell_X1_numberOf rfl rfl rfl (by decide +kernel) ⟨Nat.le_of_ble_eq_true rfl, Nat.le_of_ble_eq_true rfl⟩) 3 rfl rfl rfl hl.1 rfl (Nat.le_of_ble_eq_true rfl) dX5_tell_66 ⟨Nat.zero_le _, Nat.zero_le _⟩ (fun H locs hP hD hS => ?_)
        have hP : va_P D vwCl (wC cI α gw gc gs ge gf cR cL cB pB SD RK RN RS RC RT LK LN LS LL US UB BB) H := hP
        have hD : va_D A (wC cI α gw gc gs ge gf cR cL cB pB SD RK RN RS RC RT LK LN LS LL US UB BB) := hD
        have e9 := Option.some.inj hf
        subst e9
        exact kI_ret S rfl hP hD hS dX5_tell_69
      have hf := it_f c6 hf
      by_cases c8 : x2 = (2 : Int32)
      · have hf := it_t c8 hf
        refine sw_in (k := (2 : Int32)) (tgt := 70) hx hb c8 dX5_tell_26 (by decide) (by decide) rfl (by decide) ?_
        refine lv_aload_n hx hb dX5_tell_70 rfl (lv_at hl 0 rfl) ?_
        refine va_get (D := D) (ci := 6) (v := .ref (α 3)) (C := RX5) (T := TX5) (N := 6) hx hb hts hiX5 hown hK hP 0 rfl rfl 2 (by decide) fl30 (fun _ h9 => h9) rfl dX5_tell_71 ?_
        refine lv_iload_n hx hb dX5_tell_74 rfl (lv_at hl 1 rfl) ?_
        obtain ⟨q9, hq9, hf⟩ := bnd hf
        refine kI_callV (As := [.int x1]) (rest := []) S hP hD hS (c_X1_sizeOf l D cI α gw gc gs ge gf cR cL cB pB SD RK RN RS RC RT LK LN LS LL US UB BB x1 q9 hq9) (cwV 1 hts gX5_tell_X1_sizeOf rfl rfl rfl (by decide +kernel) ⟨Nat.le_of_ble_eq_true rfl, Nat.le_of_ble_eq_true rfl⟩) 3 rfl rfl rfl hl.1 rfl (Nat.le_of_ble_eq_true rfl) dX5_tell_75 ⟨Nat.zero_le _, Nat.zero_le _⟩ (fun H locs hP hD hS => ?_)
        have hP : va_P D vwCl (wC cI α gw gc gs ge gf cR cL cB pB SD RK RN RS RC RT LK LN LS LL US UB BB) H := hP
        have hD : va_D A (wC cI α gw gc gs ge gf cR cL cB pB SD RK RN RS RC RT LK LN LS LL US UB BB) := hD
        have e9 := Option.some.inj hf
        subst e9
        exact kI_ret S rfl hP hD hS dX5_tell_78
      have hf := it_f c8 hf
      refine lv_tableOut (tgt := 79) hx hb dX5_tell_26 (by have e0 := lv_neT (a := 0) c4 rfl; have e1 := lv_neT (a := 1) c6 rfl; have e2 := lv_neT (a := 2) c8 rfl; omega) (by decide) ?_
      refine lv_aload_n hx hb dX5_tell_79 rfl (lv_at hl 0 rfl) ?_
      refine lv_iload_n hx hb dX5_tell_80 rfl (lv_at hl 1 rfl) ?_
      refine lv_iload_n hx hb dX5_tell_81 rfl (lv_at hl 2 rfl) ?_
      obtain ⟨q10, hq10, hf⟩ := bnd hf
      refine kI_callV (As := [.int x1, .int x2]) (rest := []) S hP hD hS (c_X5_toldLiteral l D cI α gw gc gs ge gf cR cL cB pB SD RK RN RS RC RT LK LN LS LL US UB BB x1 x2 q10 hq10) (cwV 2 hts gX5_tell_X5_toldLiteral rfl rfl rfl (by decide +kernel) ⟨Nat.le_of_ble_eq_true rfl, Nat.le_of_ble_eq_true rfl⟩) 0 rfl rfl rfl hl.1 rfl (Nat.le_of_ble_eq_true rfl) dX5_tell_82 ⟨Nat.zero_le _, Nat.zero_le _⟩ (fun H locs hP hD hS => ?_)
      have hP : va_P D vwCl (wC cI α gw gc gs ge gf cR cL cB pB SD RK RN RS RC RT LK LN LS LL US UB BB) H := hP
      have hD : va_D A (wC cI α gw gc gs ge gf cR cL cB pB SD RK RN RS RC RT LK LN LS LL US UB BB) := hD
      have e9 := Option.some.inj hf
      subst e9
      exact kI_ret S rfl hP hD hS dX5_tell_85
    · have hf := it_f c3 hf
      cases hf
abbrev rm_X5_may : Room := { frames := 4, cells := 0, slots := 0, locals := 94 }
set_option maxHeartbeats 4000000 in
set_option maxRecDepth 100000 in
theorem c_X5_may (l : Launch) (D : va_G) (cI : ClassId) (α : Nat → Nat) (gw gc gs ge gf cR cL cB pB : Int32) (SD RK RN RS RC RT LK LN LS LL US UB BB : Nat → Int32) (F : Nat) (x1 : Int32) (res : Int32 × (Nat → Int32)) (hf : f_X5_may gc gs cL LS LL F US x1 = some res) : kI l yX5_may wsX5_may rm_X5_may D cI [.ref (α 0), .int x1] (wC cI α gw gc gs ge gf cR cL cB pB SD RK RN RS RC RT LK LN LS LL US UB BB) (wC cI α gw gc gs ge gf cR cL cB pB SD RK RN RS RC RT LK LN LS LL res.2 UB BB) res.1 := by
  unfold f_X5_may at hf
  refine kI_of (cc := cX5_may) (maxL := 2) (ret := (some .int)) (by decide +kernel) rfl (Nat.le_of_ble_eq_true rfl) ?_
  intro p e s m args below meth c A ls S hP hD hS hl
  have S : kC p s m args meth c cX5_may 2 wsX5_may RX5 (some .int) D cI A := S
  have hx := S.1.1
  have hb := S.1.2.1
  have hml := S.1.2.2.1
  have hown : s.vm.findClass RX5 = some m.cls := S.1.2.2.2.1
  have hts := S.1.2.2.2.2
  have hK := S.2.2.2.1
  have hnk := S.2.2.2.2.1.2
  have hiX5 : ∀ w ∈ u_ws RX5 TX5 6, w ∈ wsX5_may := by decide +kernel
  have fl30 := hts (.fieldLink RX5 30 "ProofChecker" "lines" "LProofChecker$Lines;") (by decide +kernel)
  have fl39 := hts (.fieldLink RX5 39 "ProofChecker" "units" "LProofChecker$Units;") (by decide +kernel)
  have hl : lv_has ls 2 [(0, .ref (α 0)), (1, .int x1)] := hl
  suffices hgo : ∀ (H : Heap) (locs : List Loc), va_P D vwCl (wC cI α gw gc gs ge gf cR cL cB pB SD RK RN RS RC RT LK LN LS LL US UB BB) H → va_D A (wC cI α gw gc gs ge gf cR cL cB pB SD RK RN RS RC RT LK LN LS LL US UB BB) → va_S A s.heap H locs → W p l e rm_X5_may s m args below meth c H locs 0 0 (MQ below (kQi D A (wC cI α gw gc gs ge gf cR cL cB pB SD RK RN RS RC RT LK LN LS LL res.2 UB BB) res.1) args s 0 0 A) (F0 m 0 ls []) from hgo _ _ hP hD hS
  clear hP hD hS
  intro H locs hP hD hS
  refine lv_aload_n hx hb dX5_may_0 rfl (lv_at hl 0 rfl) ?_
  refine lv_iload_n hx hb dX5_may_1 rfl (lv_at hl 1 rfl) ?_
  obtain ⟨q1, hq1, hf⟩ := bnd hf
  refine kV_callV (As := [.int x1]) (rest := []) S hP hD hS (c_X5_needCell l D cI α gw gc gs ge gf cR cL cB pB SD RK RN RS RC RT LK LN LS LL US UB BB x1 q1 hq1) (cwV 1 hts gX5_may_X5_needCell rfl rfl rfl (by decide +kernel) ⟨Nat.le_of_ble_eq_true rfl, Nat.le_of_ble_eq_true rfl⟩) 0 rfl rfl rfl hl.1 rfl (Nat.le_of_ble_eq_true rfl) dX5_may_2 ⟨Nat.zero_le _, Nat.zero_le _⟩ (fun H locs hP hD hS => ?_)
  have hP : va_P D vwCl (wC cI α gw gc gs ge gf cR cL cB pB SD RK RN RS RC RT LK LN LS LL US UB BB) H := hP
  have hD : va_D A (wC cI α gw gc gs ge gf cR cL cB pB SD RK RN RS RC RT LK LN LS LL US UB BB) := hD
  refine lv_aload_n hx hb dX5_may_5 rfl (lv_at hl 0 rfl) ?_
  refine va_get (D := D) (ci := 6) (v := .ref (α 4)) (C := RX5) (T := TX5) (N := 6) hx hb hts hiX5 hown hK hP 0 rfl rfl 3 (by decide) fl39 (fun _ h9 => h9) rfl dX5_may_6 ?_
  obtain ⟨q2, hq2, hf⟩ := bnd hf
  refine kV_callV (As := []) (rest := []) S hP hD hS (c_X4_startWhole l D cI α gw gc gs ge gf cR cL cB pB SD RK RN RS RC RT LK LN LS LL US UB BB F q2 hq2) (cwV 0 hts gX5_may_X4_startWhole rfl rfl rfl (by decide +kernel) ⟨Nat.le_of_ble_eq_true rfl, Nat.le_of_ble_eq_true rfl⟩) 4 rfl rfl rfl hl.1 rfl (Nat.le_of_ble_eq_true rfl) dX5_may_9 ⟨Nat.zero_le _, Nat.zero_le _⟩ (fun H locs hP hD hS => ?_)
  have hP : va_P D vwCl (wC cI α gw gc gs ge gf cR cL cB pB SD RK RN RS RC RT LK LN LS LL q2 UB BB) H := hP
  have hD : va_D A (wC cI α gw gc gs ge gf cR cL cB pB SD RK RN RS RC RT LK LN LS LL q2 UB BB) := hD
  refine lv_aload_n hx hb dX5_may_12 rfl (lv_at hl 0 rfl) ?_
  refine va_get (D := D) (ci := 6) (v := .ref (α 4)) (C := RX5) (T := TX5) (N := 6) hx hb hts hiX5 hown hK hP 0 rfl rfl 3 (by decide) fl39 (fun _ h9 => h9) rfl dX5_may_13 ?_
  refine lv_aload_n hx hb dX5_may_16 rfl (lv_at hl 0 rfl) ?_
  refine va_get (D := D) (ci := 6) (v := .ref (α 3)) (C := RX5) (T := TX5) (N := 6) hx hb hts hiX5 hown hK hP 0 rfl rfl 2 (by decide) fl30 (fun _ h9 => h9) rfl dX5_may_17 ?_
  obtain ⟨q3, hq3, hf⟩ := bnd hf
  refine kI_callV (As := []) (rest := [.ref (α 4)]) S hP hD hS (c_X1_count l D cI α gw gc gs ge gf cR cL cB pB SD RK RN RS RC RT LK LN LS LL q2 UB BB q3 hq3) (cwV 0 hts gX5_may_X1_count rfl rfl rfl (by decide +kernel) ⟨Nat.le_of_ble_eq_true rfl, Nat.le_of_ble_eq_true rfl⟩) 3 rfl rfl rfl hl.1 rfl (Nat.le_of_ble_eq_true rfl) dX5_may_20 ⟨Nat.zero_le _, Nat.zero_le _⟩ (fun H locs hP hD hS => ?_)
  have hP : va_P D vwCl (wC cI α gw gc gs ge gf cR cL cB pB SD RK RN RS RC RT LK LN LS LL q2 UB BB) H := hP
  have hD : va_D A (wC cI α gw gc gs ge gf cR cL cB pB SD RK RN RS RC RT LK LN LS LL q2 UB BB) := hD
  obtain ⟨q4, hq4, hf⟩ := bnd hf
  refine kI_callV (As := [.int q3]) (rest := []) S hP hD hS (c_X4_comeToNothing l D cI α gw gc gs ge gf cR cL cB pB SD RK RN RS RC RT LK LN LS LL q2 UB BB F q3 q4 hq4) (cwV 1 hts gX5_may_X4_comeToNothing rfl rfl rfl (by decide +kernel) ⟨Nat.le_of_ble_eq_true rfl, Nat.le_of_ble_eq_true rfl⟩) 4 rfl rfl rfl hl.1 rfl (Nat.le_of_ble_eq_true rfl) dX5_may_23 ⟨Nat.zero_le _, Nat.zero_le _⟩ (fun H locs hP hD hS => ?_)
  have hP : va_P D vwCl (wC cI α gw gc gs ge gf cR cL cB pB SD RK RN RS RC RT LK LN LS LL q4.2 UB BB) H := hP
  have hD : va_D A (wC cI α gw gc gs ge gf cR cL cB pB SD RK RN RS RC RT LK LN LS LL q4.2 UB BB) := hD
  refine lv_if_eq (tgt := 33) hx hb dX5_may_26 (by decide) (fun c5 => ?_) (fun c5 => ?_)
  · have hf := it_t c5 hf
    refine lv_aload_n hx hb dX5_may_33 rfl (lv_at hl 0 rfl) ?_
    refine va_get (D := D) (ci := 6) (v := .ref (α 4)) (C := RX5) (T := TX5) (N := 6) hx hb hts hiX5 hown hK hP 0 rfl rfl 3 (by decide) fl39 (fun _ h9 => h9) rfl dX5_may_34 ?_
    refine lv_iload_n hx hb dX5_may_37 rfl (lv_at hl 1 rfl) ?_
    obtain ⟨q6, hq6, hf⟩ := bnd hf
    refine kI_callV (As := [.int x1]) (rest := []) S hP hD hS (c_X4_symbolsOf l D cI α gw gc gs ge gf cR cL cB pB SD RK RN RS RC RT LK LN LS LL q4.2 UB BB x1 q6 hq6) (cwV 1 hts gX5_may_X4_symbolsOf rfl rfl rfl (by decide +kernel) ⟨Nat.le_of_ble_eq_true rfl, Nat.le_of_ble_eq_true rfl⟩) 4 rfl rfl rfl hl.1 rfl (Nat.le_of_ble_eq_true rfl) dX5_may_38 ⟨Nat.zero_le _, Nat.zero_le _⟩ (fun H locs hP hD hS => ?_)
    have hP : va_P D vwCl (wC cI α gw gc gs ge gf cR cL cB pB SD RK RN RS RC RT LK LN LS LL q4.2 UB BB) H := hP
    have hD : va_D A (wC cI α gw gc gs ge gf cR cL cB pB SD RK RN RS RC RT LK LN LS LL q4.2 UB BB) := hD
    have e9 := Option.some.inj hf
    subst e9
    exact kI_ret S rfl hP hD hS dX5_may_41
  · have hf := it_f c5 hf
    refine lv_iconst (v := (0 : Int32)) hx hb dX5_may_29 (by decide) ?_
    refine lv_goto (tgt := 41) hx hb dX5_may_30 (by decide) ?_
    have e9 := Option.some.inj hf
    subst e9
    exact kI_ret S rfl hP hD hS dX5_may_41
abbrev rm_X5_unit : Room := { frames := 1, cells := 0, slots := 0, locals := 21 }
set_option maxHeartbeats 4000000 in
set_option maxRecDepth 100000 in
theorem c_X5_unit (l : Launch) (D : va_G) (cI : ClassId) (α : Nat → Nat) (gw gc gs ge gf cR cL cB pB : Int32) (SD RK RN RS RC RT LK LN LS LL US UB BB : Nat → Int32) (x1 : Int32) (res : Int32 × Int32 × (Nat → Int32)) (hf : f_X5_unit cB BB x1 = some res) : kI l yX5_unit wsX5_unit rm_X5_unit D cI [.ref (α 0), .int x1] (wC cI α gw gc gs ge gf cR cL cB pB SD RK RN RS RC RT LK LN LS LL US UB BB) (wC cI α gw gc gs ge gf cR cL res.2.1 pB SD RK RN RS RC RT LK LN LS LL US UB res.2.2) res.1 := by
  unfold f_X5_unit at hf
  refine kI_of (cc := cX5_unit) (maxL := 2) (ret := (some .boolean)) (by decide +kernel) rfl (Nat.le_of_ble_eq_true rfl) ?_
  intro p e s m args below meth c A ls S hP hD hS hl
  have S : kC p s m args meth c cX5_unit 2 wsX5_unit RX5 (some .boolean) D cI A := S
  have hx := S.1.1
  have hb := S.1.2.1
  have hml := S.1.2.2.1
  have hown : s.vm.findClass RX5 = some m.cls := S.1.2.2.2.1
  have hts := S.1.2.2.2.2
  have hK := S.2.2.2.1
  have hnk := S.2.2.2.2.1.2
  have hiX5 : ∀ w ∈ u_ws RX5 TX5 6, w ∈ wsX5_unit := by decide +kernel
  have fl46 := hts (.fieldLink RX5 46 "ProofChecker" "reader" "LProofChecker$Reader;") (by decide +kernel)
  have hl : lv_has ls 2 [(0, .ref (α 0)), (1, .int x1)] := hl
  suffices hgo : ∀ (H : Heap) (locs : List Loc), va_P D vwCl (wC cI α gw gc gs ge gf cR cL cB pB SD RK RN RS RC RT LK LN LS LL US UB BB) H → va_D A (wC cI α gw gc gs ge gf cR cL cB pB SD RK RN RS RC RT LK LN LS LL US UB BB) → va_S A s.heap H locs → W p l e rm_X5_unit s m args below meth c H locs 0 0 (MQ below (kQi D A (wC cI α gw gc gs ge gf cR cL res.2.1 pB SD RK RN RS RC RT LK LN LS LL US UB res.2.2) res.1) args s 0 0 A) (F0 m 0 ls []) from hgo _ _ hP hD hS
  clear hP hD hS
  intro H locs hP hD hS
  refine lv_aload_n hx hb dX5_unit_0 rfl (lv_at hl 0 rfl) ?_
  refine va_get (D := D) (ci := 6) (v := .ref (α 5)) (C := RX5) (T := TX5) (N := 6) hx hb hts hiX5 hown hK hP 0 rfl rfl 4 (by decide) fl46 (fun _ h9 => h9) rfl dX5_unit_1 ?_
  refine lv_iload_n hx hb dX5_unit_4 rfl (lv_at hl 1 rfl) ?_
  obtain ⟨q1, hq1, hf⟩ := bnd hf
  refine kI_callV (As := [.int x1]) (rest := []) S hP hD hS (c_X2_append l D cI α gw gc gs ge gf cR cL cB pB SD RK RN RS RC RT LK LN LS LL US UB BB x1 q1 hq1) (cwV 1 hts gX5_unit_X2_append rfl rfl rfl (by decide +kernel) ⟨Nat.le_of_ble_eq_true rfl, Nat.le_of_ble_eq_true rfl⟩) 5 rfl rfl rfl hl.1 rfl (Nat.le_of_ble_eq_true rfl) dX5_unit_5 ⟨Nat.zero_le _, Nat.zero_le _⟩ (fun H locs hP hD hS => ?_)
  have hP : va_P D vwCl (wC cI α gw gc gs ge gf cR cL q1.2.1 pB SD RK RN RS RC RT LK LN LS LL US UB q1.2.2) H := hP
  have hD : va_D A (wC cI α gw gc gs ge gf cR cL q1.2.1 pB SD RK RN RS RC RT LK LN LS LL US UB q1.2.2) := hD
  obtain ⟨g2, hf⟩ := gbl_some hf
  have e9 := Option.some.inj hf
  subst e9
  exact kI_ret S (nar_b g2) hP hD hS dX5_unit_8
abbrev rm_X5_read : Room := { frames := 6, cells := 0, slots := 0, locals := 133 }
set_option maxHeartbeats 4000000 in
set_option maxRecDepth 100000 in
theorem c_X5_read (l : Launch) (D : va_G) (cI : ClassId) (α : Nat → Nat) (gw gc gs ge gf cR cL cB pB : Int32) (SD RK RN RS RC RT LK LN LS LL US UB BB : Nat → Int32) (F : Nat)  (res : Int32 × Int32 × Int32 × Int32 × (Nat → Int32) × (Nat → Int32) × (Nat → Int32) × (Nat → Int32)) (hf : f_X5_read gc gs BB F cL cB pB LK LN LS LL = some res) : kI l yX5_read wsX5_read rm_X5_read D cI [.ref (α 0)] (wC cI α gw gc gs ge gf cR cL cB pB SD RK RN RS RC RT LK LN LS LL US UB BB) (wC cI α gw gc gs ge gf cR res.2.1 res.2.2.1 res.2.2.2.1 SD RK RN RS RC RT res.2.2.2.2.1 res.2.2.2.2.2.1 res.2.2.2.2.2.2.1 res.2.2.2.2.2.2.2 US UB BB) res.1 := by
  unfold f_X5_read at hf
  refine kI_of (cc := cX5_read) (maxL := 1) (ret := (some .int)) (by decide +kernel) rfl (Nat.le_of_ble_eq_true rfl) ?_
  intro p e s m args below meth c A ls S hP hD hS hl
  have S : kC p s m args meth c cX5_read 1 wsX5_read RX5 (some .int) D cI A := S
  have hx := S.1.1
  have hb := S.1.2.1
  have hml := S.1.2.2.1
  have hown : s.vm.findClass RX5 = some m.cls := S.1.2.2.2.1
  have hts := S.1.2.2.2.2
  have hK := S.2.2.2.1
  have hnk := S.2.2.2.2.1.2
  have hiX5 : ∀ w ∈ u_ws RX5 TX5 6, w ∈ wsX5_read := by decide +kernel
  have fl46 := hts (.fieldLink RX5 46 "ProofChecker" "reader" "LProofChecker$Reader;") (by decide +kernel)
  have hl : lv_has ls 1 [(0, .ref (α 0))] := hl
  suffices hgo : ∀ (H : Heap) (locs : List Loc), va_P D vwCl (wC cI α gw gc gs ge gf cR cL cB pB SD RK RN RS RC RT LK LN LS LL US UB BB) H → va_D A (wC cI α gw gc gs ge gf cR cL cB pB SD RK RN RS RC RT LK LN LS LL US UB BB) → va_S A s.heap H locs → W p l e rm_X5_read s m args below meth c H locs 0 0 (MQ below (kQi D A (wC cI α gw gc gs ge gf cR res.2.1 res.2.2.1 res.2.2.2.1 SD RK RN RS RC RT res.2.2.2.2.1 res.2.2.2.2.2.1 res.2.2.2.2.2.2.1 res.2.2.2.2.2.2.2 US UB BB) res.1) args s 0 0 A) (F0 m 0 ls []) from hgo _ _ hP hD hS
  clear hP hD hS
  intro H locs hP hD hS
  refine lv_aload_n hx hb dX5_read_0 rfl (lv_at hl 0 rfl) ?_
  refine va_get (D := D) (ci := 6) (v := .ref (α 5)) (C := RX5) (T := TX5) (N := 6) hx hb hts hiX5 hown hK hP 0 rfl rfl 4 (by decide) fl46 (fun _ h9 => h9) rfl dX5_read_1 ?_
  obtain ⟨q1, hq1, hf⟩ := bnd hf
  refine kI_callV (As := []) (rest := []) S hP hD hS (c_X2_readAll l D cI α gw gc gs ge gf cR cL cB pB SD RK RN RS RC RT LK LN LS LL US UB BB F q1 hq1) (cwV 0 hts gX5_read_X2_readAll rfl rfl rfl (by decide +kernel) ⟨Nat.le_of_ble_eq_true rfl, Nat.le_of_ble_eq_true rfl⟩) 5 rfl rfl rfl hl.1 rfl (Nat.le_of_ble_eq_true rfl) dX5_read_4 ⟨Nat.zero_le _, Nat.zero_le _⟩ (fun H locs hP hD hS => ?_)
  have hP : va_P D vwCl (wC cI α gw gc gs ge gf cR q1.2.1 q1.2.2.1 q1.2.2.2.1 SD RK RN RS RC RT q1.2.2.2.2.1 q1.2.2.2.2.2.1 q1.2.2.2.2.2.2.1 q1.2.2.2.2.2.2.2 US UB BB) H := hP
  have hD : va_D A (wC cI α gw gc gs ge gf cR q1.2.1 q1.2.2.1 q1.2.2.2.1 SD RK RN RS RC RT q1.2.2.2.2.1 q1.2.2.2.2.2.1 q1.2.2.2.2.2.2.1 q1.2.2.2.2.2.2.2 US UB BB) := hD
  have e9 := Option.some.inj hf
  subst e9
  exact kI_ret S rfl hP hD hS dX5_read_7
