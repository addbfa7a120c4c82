abbrev rm_X5_literal : Room := { frames := 2, cells := 0, slots := 0, locals := 46 }
set_option maxHeartbeats 4000000 in
set_option maxRecDepth 100000 in
theorem c_X5_literal (l : Launch) (D : va_G) (cI : ClassId) (α : Nat → Nat) (gw gc gs ge gf cR cL cB pB : Int32) (SD RK RN RS RC RT LK LN LS LL US UB BB : Nat → Int32) (F : Nat) (x1 : Int32) (x2 : Int32) (x3 : Int32) (res : Int32 × (Nat → Int32) × (Nat → Int32)) (hf : f_X5_literal gc gs cL F LS LL x1 x2 x3 = some res) : kI l yX5_literal wsX5_literal rm_X5_literal D cI [.ref (α 0), .int x1, .int x2, .int x3] (wC cI α gw gc gs ge gf cR cL cB pB SD RK RN RS RC RT LK LN LS LL US UB BB) (wC cI α gw gc gs ge gf cR cL cB pB SD RK RN RS RC RT LK LN res.2.1 res.2.2 US UB BB) res.1 := by
  unfold f_X5_literal at hf
  refine kI_of (cc := cX5_literal) (maxL := 4) (ret := (some .boolean)) (by decide +kernel) rfl (Nat.le_of_ble_eq_true rfl) ?_
  intro p e s m args below meth c A ls S hP hD hS hl
  have S : kC p s m args meth c cX5_literal 4 wsX5_literal RX5 (some .boolean) D cI A := S
  have hx := S.1.1
  have hb := S.1.2.1
  have hml := S.1.2.2.1
  have hown : s.vm.findClass RX5 = some m.cls := S.1.2.2.2.1
  have hts := S.1.2.2.2.2
  have hK := S.2.2.2.1
  have hnk := S.2.2.2.2.1.2
  have hiX5 : ∀ w ∈ u_ws RX5 TX5 6, w ∈ wsX5_literal := by decide +kernel
  have fl30 := hts (.fieldLink RX5 30 "ProofChecker" "lines" "LProofChecker$Lines;") (by decide +kernel)
  have hl : lv_has ls 4 [(0, .ref (α 0)), (1, .int x1), (2, .int x2), (3, .int x3)] := hl
  suffices hgo : ∀ (H : Heap) (locs : List Loc), va_P D vwCl (wC cI α gw gc gs ge gf cR cL cB pB SD RK RN RS RC RT LK LN LS LL US UB BB) H → va_D A (wC cI α gw gc gs ge gf cR cL cB pB SD RK RN RS RC RT LK LN LS LL US UB BB) → va_S A s.heap H locs → W p l e rm_X5_literal s m args below meth c H locs 0 0 (MQ below (kQi D A (wC cI α gw gc gs ge gf cR cL cB pB SD RK RN RS RC RT LK LN res.2.1 res.2.2 US UB BB) res.1) args s 0 0 A) (F0 m 0 ls []) from hgo _ _ hP hD hS
  clear hP hD hS
  intro H locs hP hD hS
  refine lv_aload_n hx hb dX5_literal_0 rfl (lv_at hl 0 rfl) ?_
  refine lv_iload_n hx hb dX5_literal_1 rfl (lv_at hl 1 rfl) ?_
  obtain ⟨q1, hq1, hf⟩ := bnd hf
  refine kV_callV (As := [.int x1]) (rest := []) S hP hD hS (c_X5_needCell l D cI α gw gc gs ge gf cR cL cB pB SD RK RN RS RC RT LK LN LS LL US UB BB x1 q1 hq1) (cwV 1 hts gX5_literal_X5_needCell rfl rfl rfl (by decide +kernel) ⟨Nat.le_of_ble_eq_true rfl, Nat.le_of_ble_eq_true rfl⟩) 0 rfl rfl rfl hl.1 rfl (Nat.le_of_ble_eq_true rfl) dX5_literal_2 ⟨Nat.zero_le _, Nat.zero_le _⟩ (fun H locs hP hD hS => ?_)
  have hP : va_P D vwCl (wC cI α gw gc gs ge gf cR cL cB pB SD RK RN RS RC RT LK LN LS LL US UB BB) H := hP
  have hD : va_D A (wC cI α gw gc gs ge gf cR cL cB pB SD RK RN RS RC RT LK LN LS LL US UB BB) := hD
  refine lv_aload_n hx hb dX5_literal_5 rfl (lv_at hl 0 rfl) ?_
  refine lv_iload_n hx hb dX5_literal_6 rfl (lv_at hl 2 rfl) ?_
  obtain ⟨q2, hq2, hf⟩ := bnd hf
  refine kV_callV (As := [.int x2]) (rest := []) S hP hD hS (c_X5_needSymbol l D cI α gw gc gs ge gf cR cL cB pB SD RK RN RS RC RT LK LN LS LL US UB BB x2 q2 hq2) (cwV 1 hts gX5_literal_X5_needSymbol rfl rfl rfl (by decide +kernel) ⟨Nat.le_of_ble_eq_true rfl, Nat.le_of_ble_eq_true rfl⟩) 0 rfl rfl rfl hl.1 rfl (Nat.le_of_ble_eq_true rfl) dX5_literal_7 ⟨Nat.zero_le _, Nat.zero_le _⟩ (fun H locs hP hD hS => ?_)
  have hP : va_P D vwCl (wC cI α gw gc gs ge gf cR cL cB pB SD RK RN RS RC RT LK LN LS LL US UB BB) H := hP
  have hD : va_D A (wC cI α gw gc gs ge gf cR cL cB pB SD RK RN RS RC RT LK LN LS LL US UB BB) := hD
  refine lv_aload_n hx hb dX5_literal_10 rfl (lv_at hl 0 rfl) ?_
  refine va_get (D := D) (ci := 6) (v := .ref (α 3)) (C := RX5) (T := TX5) (N := 6) hx hb hts hiX5 hown hK hP 0 rfl rfl 2 (by decide) fl30 (fun _ h9 => h9) rfl dX5_literal_11 ?_
  obtain ⟨q3, hq3, hf⟩ := bnd hf
  refine kI_callV (As := []) (rest := []) S hP hD hS (c_X1_count l D cI α gw gc gs ge gf cR cL cB pB SD RK RN RS RC RT LK LN LS LL US UB BB q3 hq3) (cwV 0 hts gX5_literal_X1_count rfl rfl rfl (by decide +kernel) ⟨Nat.le_of_ble_eq_true rfl, Nat.le_of_ble_eq_true rfl⟩) 3 rfl rfl rfl hl.1 rfl (Nat.le_of_ble_eq_true rfl) dX5_literal_14 ⟨Nat.zero_le _, Nat.zero_le _⟩ (fun H locs hP hD hS => ?_)
  have hP : va_P D vwCl (wC cI α gw gc gs ge gf cR cL cB pB SD RK RN RS RC RT LK LN LS LL US UB BB) H := hP
  have hD : va_D A (wC cI α gw gc gs ge gf cR cL cB pB SD RK RN RS RC RT LK LN LS LL US UB BB) := hD
  refine lv_if_ne (tgt := 22) hx hb dX5_literal_17 (by decide) (fun c4 => ?_) (fun c4 => ?_)
  · have hf := it_t c4 hf
    refine lv_aload_n hx hb dX5_literal_22 rfl (lv_at hl 0 rfl) ?_
    refine va_get (D := D) (ci := 6) (v := .ref (α 3)) (C := RX5) (T := TX5) (N := 6) hx hb hts hiX5 hown hK hP 0 rfl rfl 2 (by decide) fl30 (fun _ h9 => h9) rfl dX5_literal_23 ?_
    refine lv_aload_n hx hb dX5_literal_26 rfl (lv_at hl 0 rfl) ?_
    refine va_get (D := D) (ci := 6) (v := .ref (α 3)) (C := RX5) (T := TX5) (N := 6) hx hb hts hiX5 hown hK hP 0 rfl rfl 2 (by decide) fl30 (fun _ h9 => h9) rfl dX5_literal_27 ?_
    obtain ⟨q5, hq5, hf⟩ := bnd hf
    refine kI_callV (As := []) (rest := [.ref (α 3)]) S hP hD hS (c_X1_count l D cI α gw gc gs ge gf cR cL cB pB SD RK RN RS RC RT LK LN LS LL US UB BB q5 hq5) (cwV 0 hts gX5_literal_X1_count rfl rfl rfl (by decide +kernel) ⟨Nat.le_of_ble_eq_true rfl, Nat.le_of_ble_eq_true rfl⟩) 3 rfl rfl rfl hl.1 rfl (Nat.le_of_ble_eq_true rfl) dX5_literal_30 ⟨Nat.zero_le _, Nat.zero_le _⟩ (fun H locs hP hD hS => ?_)
    have hP : va_P D vwCl (wC cI α gw gc gs ge gf cR cL cB pB SD RK RN RS RC RT LK LN LS LL US UB BB) H := hP
    have hD : va_D A (wC cI α gw gc gs ge gf cR cL cB pB SD RK RN RS RC RT LK LN LS LL US UB BB) := hD
    refine lv_iconst (v := (1 : Int32)) hx hb dX5_literal_33 (by decide) ?_
    refine lv_isub hx hb dX5_literal_34 ?_
    refine lv_iload_n hx hb dX5_literal_35 rfl (lv_at hl 1 rfl) ?_
    refine lv_iload_n hx hb dX5_literal_36 rfl (lv_at hl 2 rfl) ?_
    refine lv_iload_n hx hb dX5_literal_37 rfl (lv_at hl 3 rfl) ?_
    obtain ⟨q6, hq6, hf⟩ := bnd hf
    refine kI_callS (As := [.int x1, .int x2, .int x3]) (rest := [.int (q5 - (1 : Int32)), .ref (α 3)]) S hP hD hS (c_X1_literalOf l D cI x1 x2 x3 q6 hq6) (va_cwS 3 hts gX5_literal_X1_literalOf rfl rfl rfl (by decide +kernel) ⟨Nat.le_of_ble_eq_true rfl, Nat.le_of_ble_eq_true rfl⟩) rfl hl.1 rfl (Nat.le_of_ble_eq_true rfl) dX5_literal_38 ⟨Nat.zero_le _, Nat.zero_le _⟩ (fun H locs hP hD hS => ?_)
    obtain ⟨q7, hq7, hf⟩ := bnd hf
    refine kI_callV (As := [.int (q5 - (1 : Int32)), .int q6]) (rest := []) S hP hD hS (c_X1_addLiteral l D cI α gw gc gs ge gf cR cL cB pB SD RK RN RS RC RT LK LN LS LL US UB BB F (q5 - (1 : Int32)) q6 q7 hq7) (cwV 2 hts gX5_literal_X1_addLiteral rfl rfl rfl (by decide +kernel) ⟨Nat.le_of_ble_eq_true rfl, Nat.le_of_ble_eq_true rfl⟩) 3 rfl rfl rfl hl.1 rfl (Nat.le_of_ble_eq_true rfl) dX5_literal_41 ⟨Nat.zero_le _, Nat.zero_le _⟩ (fun H locs hP hD hS => ?_)
    have hP : va_P D vwCl (wC cI α gw gc gs ge gf cR cL cB pB SD RK RN RS RC RT LK LN q7.2.1 q7.2.2 US UB BB) H := hP
    have hD : va_D A (wC cI α gw gc gs ge gf cR cL cB pB SD RK RN RS RC RT LK LN q7.2.1 q7.2.2 US UB BB) := hD
    obtain ⟨g8, hf⟩ := gbl_some hf
    have e9 := Option.some.inj hf
    subst e9
    exact kI_ret S (nar_b g8) hP hD hS dX5_literal_44
  · have hf := it_f (fun h9 => h9 c4) hf
    refine lv_iconst (v := (0 : Int32)) hx hb dX5_literal_20 (by decide) ?_
    have e9 := Option.some.inj hf
    subst e9
    exact kI_ret S narrow_b0 hP hD hS dX5_literal_21
abbrev rm_X5_drop : Room := { frames := 1, cells := 0, slots := 0, locals := 21 }
set_option maxHeartbeats 4000000 in
set_option maxRecDepth 100000 in
theorem c_X5_drop (l : Launch) (D : va_G) (cI : ClassId) (α : Nat → Nat) (gw gc gs ge gf cR cL cB pB : Int32) (SD RK RN RS RC RT LK LN LS LL US UB BB : Nat → Int32)  (res : Int32 × Int32) (hf : f_X5_drop cL = some res) : kI l yX5_drop wsX5_drop rm_X5_drop D cI [.ref (α 0)] (wC cI α gw gc gs ge gf cR cL cB pB SD RK RN RS RC RT LK LN LS LL US UB BB) (wC cI α gw gc gs ge gf cR res.2 cB pB SD RK RN RS RC RT LK LN LS LL US UB BB) res.1 := by
  unfold f_X5_drop at hf
  refine kI_of (cc := cX5_drop) (maxL := 1) (ret := (some .boolean)) (by decide +kernel) rfl (Nat.le_of_ble_eq_true rfl) ?_
  intro p e s m args below meth c A ls S hP hD hS hl
  have S : kC p s m args meth c cX5_drop 1 wsX5_drop RX5 (some .boolean) D cI A := S
  have hx := S.1.1
  have hb := S.1.2.1
  have hml := S.1.2.2.1
  have hown : s.vm.findClass RX5 = some m.cls := S.1.2.2.2.1
  have hts := S.1.2.2.2.2
  have hK := S.2.2.2.1
  have hnk := S.2.2.2.2.1.2
  have hiX5 : ∀ w ∈ u_ws RX5 TX5 6, w ∈ wsX5_drop := by decide +kernel
  have fl30 := hts (.fieldLink RX5 30 "ProofChecker" "lines" "LProofChecker$Lines;") (by decide +kernel)
  have hl : lv_has ls 1 [(0, .ref (α 0))] := hl
  suffices hgo : ∀ (H : Heap) (locs : List Loc), va_P D vwCl (wC cI α gw gc gs ge gf cR cL cB pB SD RK RN RS RC RT LK LN LS LL US UB BB) H → va_D A (wC cI α gw gc gs ge gf cR cL cB pB SD RK RN RS RC RT LK LN LS LL US UB BB) → va_S A s.heap H locs → W p l e rm_X5_drop s m args below meth c H locs 0 0 (MQ below (kQi D A (wC cI α gw gc gs ge gf cR res.2 cB pB SD RK RN RS RC RT LK LN LS LL US UB BB) res.1) args s 0 0 A) (F0 m 0 ls []) from hgo _ _ hP hD hS
  clear hP hD hS
  intro H locs hP hD hS
  refine lv_aload_n hx hb dX5_drop_0 rfl (lv_at hl 0 rfl) ?_
  refine va_get (D := D) (ci := 6) (v := .ref (α 3)) (C := RX5) (T := TX5) (N := 6) hx hb hts hiX5 hown hK hP 0 rfl rfl 2 (by decide) fl30 (fun _ h9 => h9) rfl dX5_drop_1 ?_
  obtain ⟨q1, hq1, hf⟩ := bnd hf
  refine kI_callV (As := []) (rest := []) S hP hD hS (c_X1_count l D cI α gw gc gs ge gf cR cL cB pB SD RK RN RS RC RT LK LN LS LL US UB BB q1 hq1) (cwV 0 hts gX5_drop_X1_count rfl rfl rfl (by decide +kernel) ⟨Nat.le_of_ble_eq_true rfl, Nat.le_of_ble_eq_true rfl⟩) 3 rfl rfl rfl hl.1 rfl (Nat.le_of_ble_eq_true rfl) dX5_drop_4 ⟨Nat.zero_le _, Nat.zero_le _⟩ (fun H locs hP hD hS => ?_)
  have hP : va_P D vwCl (wC cI α gw gc gs ge gf cR cL cB pB SD RK RN RS RC RT LK LN LS LL US UB BB) H := hP
  have hD : va_D A (wC cI α gw gc gs ge gf cR cL cB pB SD RK RN RS RC RT LK LN LS LL US UB BB) := hD
  refine lv_if_ne (tgt := 12) hx hb dX5_drop_7 (by decide) (fun c2 => ?_) (fun c2 => ?_)
  · have hf := it_t c2 hf
    refine lv_aload_n hx hb dX5_drop_12 rfl (lv_at hl 0 rfl) ?_
    refine va_get (D := D) (ci := 6) (v := .ref (α 3)) (C := RX5) (T := TX5) (N := 6) hx hb hts hiX5 hown hK hP 0 rfl rfl 2 (by decide) fl30 (fun _ h9 => h9) rfl dX5_drop_13 ?_
    refine lv_aload_n hx hb dX5_drop_16 rfl (lv_at hl 0 rfl) ?_
    refine va_get (D := D) (ci := 6) (v := .ref (α 3)) (C := RX5) (T := TX5) (N := 6) hx hb hts hiX5 hown hK hP 0 rfl rfl 2 (by decide) fl30 (fun _ h9 => h9) rfl dX5_drop_17 ?_
    obtain ⟨q3, hq3, hf⟩ := bnd hf
    refine kI_callV (As := []) (rest := [.ref (α 3)]) S hP hD hS (c_X1_count l D cI α gw gc gs ge gf cR cL cB pB SD RK RN RS RC RT LK LN LS LL US UB BB q3 hq3) (cwV 0 hts gX5_drop_X1_count rfl rfl rfl (by decide +kernel) ⟨Nat.le_of_ble_eq_true rfl, Nat.le_of_ble_eq_true rfl⟩) 3 rfl rfl rfl hl.1 rfl (Nat.le_of_ble_eq_true rfl) dX5_drop_20 ⟨Nat.zero_le _, Nat.zero_le _⟩ (fun H locs hP hD hS => ?_)
    have hP : va_P D vwCl (wC cI α gw gc gs ge gf cR cL cB pB SD RK RN RS RC RT LK LN LS LL US UB BB) H := hP
    have hD : va_D A (wC cI α gw gc gs ge gf cR cL cB pB SD RK RN RS RC RT LK LN LS LL US UB BB) := hD
    refine lv_iconst (v := (1 : Int32)) hx hb dX5_drop_23 (by decide) ?_
    refine lv_isub hx hb dX5_drop_24 ?_
    obtain ⟨q4, hq4, hf⟩ := bnd hf
    refine kV_callV (As := [.int (q3 - (1 : Int32))]) (rest := []) S hP hD hS (c_X1_cutTo l D cI α gw gc gs ge gf cR cL cB pB SD RK RN RS RC RT LK LN LS LL US UB BB (q3 - (1 : Int32)) q4 hq4) (cwV 1 hts gX5_drop_X1_cutTo rfl rfl rfl (by decide +kernel) ⟨Nat.le_of_ble_eq_true rfl, Nat.le_of_ble_eq_true rfl⟩) 3 rfl rfl rfl hl.1 rfl (Nat.le_of_ble_eq_true rfl) dX5_drop_25 ⟨Nat.zero_le _, Nat.zero_le _⟩ (fun H locs hP hD hS => ?_)
    have hP : va_P D vwCl (wC cI α gw gc gs ge gf cR q4 cB pB SD RK RN RS RC RT LK LN LS LL US UB BB) H := hP
    have hD : va_D A (wC cI α gw gc gs ge gf cR q4 cB pB SD RK RN RS RC RT LK LN LS LL US UB BB) := hD
    refine lv_iconst (v := (1 : Int32)) hx hb dX5_drop_28 (by decide) ?_
    have e9 := Option.some.inj hf
    subst e9
    exact kI_ret S narrow_b1 hP hD hS dX5_drop_29
  · have hf := it_f (fun h9 => h9 c2) hf
    refine lv_iconst (v := (0 : Int32)) hx hb dX5_drop_10 (by decide) ?_
    have e9 := Option.some.inj hf
    subst e9
    exact kI_ret S narrow_b0 hP hD hS dX5_drop_11
abbrev rm_X5_isByRule : Room := { frames := 20, cells := 0, slots := 0, locals := 511 }
set_option maxHeartbeats 4000000 in
set_option maxRecDepth 100000 in
theorem c_X5_isByRule (l : Launch) (D : va_G) (cI : ClassId) (α : Nat → Nat) (gw gc gs ge gf cR cL cB pB : Int32) (SD RK RN RS RC RT LK LN LS LL US UB BB : Nat → Int32) (F : Nat) (x1 : Int32) (x2 : Int32) (res : Int32 × (Nat → Int32) × (Nat → Int32)) (hf : f_X5_isByRule gw gc gs ge gf RK RN RS RC LS LL F RT US x1 x2 = some res) : kI l yX5_isByRule wsX5_isByRule rm_X5_isByRule D cI [.ref (α 0), .int x1, .int x2] (wC cI α gw gc gs ge gf cR cL cB pB SD RK RN RS RC RT LK LN LS LL US UB BB) (wC cI α gw gc gs ge gf cR cL cB pB SD RK RN RS RC res.2.1 LK LN LS LL res.2.2 UB BB) res.1 := by
  unfold f_X5_isByRule at hf
  refine kI_of (cc := cX5_isByRule) (maxL := 3) (ret := (some .boolean)) (by decide +kernel) rfl (Nat.le_of_ble_eq_true rfl) ?_
  intro p e s m args below meth c A ls S hP hD hS hl
  have S : kC p s m args meth c cX5_isByRule 3 wsX5_isByRule RX5 (some .boolean) D cI A := S
  have hx := S.1.1
  have hb := S.1.2.1
  have hml := S.1.2.2.1
  have hown : s.vm.findClass RX5 = some m.cls := S.1.2.2.2.1
  have hts := S.1.2.2.2.2
  have hK := S.2.2.2.1
  have hnk := S.2.2.2.2.1.2
  have hiX5 : ∀ w ∈ u_ws RX5 TX5 6, w ∈ wsX5_isByRule := by decide +kernel
  have fl23 := hts (.fieldLink RX5 23 "ProofChecker" "rules" "LProofChecker$Rules;") (by decide +kernel)
  have fl39 := hts (.fieldLink RX5 39 "ProofChecker" "units" "LProofChecker$Units;") (by decide +kernel)
  have hl : lv_has ls 3 [(0, .ref (α 0)), (1, .int x1), (2, .int x2)] := hl
  suffices hgo : ∀ (H : Heap) (locs : List Loc), va_P D vwCl (wC cI α gw gc gs ge gf cR cL cB pB SD RK RN RS RC RT LK LN LS LL US UB BB) H → va_D A (wC cI α gw gc gs ge gf cR cL cB pB SD RK RN RS RC RT LK LN LS LL US UB BB) → va_S A s.heap H locs → W p l e rm_X5_isByRule s m args below meth c H locs 0 0 (MQ below (kQi D A (wC cI α gw gc gs ge gf cR cL cB pB SD RK RN RS RC res.2.1 LK LN LS LL res.2.2 UB BB) res.1) args s 0 0 A) (F0 m 0 ls []) from hgo _ _ hP hD hS
  clear hP hD hS
  intro H locs hP hD hS
  refine lv_aload_n hx hb dX5_isByRule_0 rfl (lv_at hl 0 rfl) ?_
  refine va_get (D := D) (ci := 6) (v := .ref (α 2)) (C := RX5) (T := TX5) (N := 6) hx hb hts hiX5 hown hK hP 0 rfl rfl 1 (by decide) fl23 (fun _ h9 => h9) rfl dX5_isByRule_1 ?_
  refine lv_iload_n hx hb dX5_isByRule_4 rfl (lv_at hl 2 rfl) ?_
  obtain ⟨q1, hq1, hf⟩ := bnd hf
  refine kI_callV (As := [.int x2]) (rest := []) S hP hD hS (c_X3_canBeTried l D cI α gw gc gs ge gf cR cL cB pB SD RK RN RS RC RT LK LN LS LL US UB BB F x2 q1 hq1) (cwV 1 hts gX5_isByRule_X3_canBeTried rfl rfl rfl (by decide +kernel) ⟨Nat.le_of_ble_eq_true rfl, Nat.le_of_ble_eq_true rfl⟩) 2 rfl rfl rfl hl.1 rfl (Nat.le_of_ble_eq_true rfl) dX5_isByRule_5 ⟨Nat.zero_le _, Nat.zero_le _⟩ (fun H locs hP hD hS => ?_)
  have hP : va_P D vwCl (wC cI α gw gc gs ge gf cR cL cB pB SD RK RN RS RC RT LK LN LS LL US UB BB) H := hP
  have hD : va_D A (wC cI α gw gc gs ge gf cR cL cB pB SD RK RN RS RC RT LK LN LS LL US UB BB) := hD
  refine lv_if_ne (tgt := 13) hx hb dX5_isByRule_8 (by decide) (fun c2 => ?_) (fun c2 => ?_)
  · have hf := it_t c2 hf
    refine lv_aload_n hx hb dX5_isByRule_13 rfl (lv_at hl 0 rfl) ?_
    refine va_get (D := D) (ci := 6) (v := .ref (α 4)) (C := RX5) (T := TX5) (N := 6) hx hb hts hiX5 hown hK hP 0 rfl rfl 3 (by decide) fl39 (fun _ h9 => h9) rfl dX5_isByRule_14 ?_
    refine lv_iload_n hx hb dX5_isByRule_17 rfl (lv_at hl 1 rfl) ?_
    obtain ⟨q3, hq3, hf⟩ := bnd hf
    refine kV_callV (As := [.int x1]) (rest := []) S hP hD hS (c_X4_turnRound l D cI α gw gc gs ge gf cR cL cB pB SD RK RN RS RC RT LK LN LS LL US UB BB F x1 q3 hq3) (cwV 1 hts gX5_isByRule_X4_turnRound rfl rfl rfl (by decide +kernel) ⟨Nat.le_of_ble_eq_true rfl, Nat.le_of_ble_eq_true rfl⟩) 4 rfl rfl rfl hl.1 rfl (Nat.le_of_ble_eq_true rfl) dX5_isByRule_18 ⟨Nat.zero_le _, Nat.zero_le _⟩ (fun H locs hP hD hS => ?_)
    have hP : va_P D vwCl (wC cI α gw gc gs ge gf cR cL cB pB SD RK RN RS RC RT LK LN LS LL q3 UB BB) H := hP
    have hD : va_D A (wC cI α gw gc gs ge gf cR cL cB pB SD RK RN RS RC RT LK LN LS LL q3 UB BB) := hD
    refine lv_aload_n hx hb dX5_isByRule_21 rfl (lv_at hl 0 rfl) ?_
    refine va_get (D := D) (ci := 6) (v := .ref (α 2)) (C := RX5) (T := TX5) (N := 6) hx hb hts hiX5 hown hK hP 0 rfl rfl 1 (by decide) fl23 (fun _ h9 => h9) rfl dX5_isByRule_22 ?_
    refine lv_iload_n hx hb dX5_isByRule_25 rfl (lv_at hl 2 rfl) ?_
    refine lv_aload_n hx hb dX5_isByRule_26 rfl (lv_at hl 0 rfl) ?_
    refine va_get (D := D) (ci := 6) (v := .ref (α 4)) (C := RX5) (T := TX5) (N := 6) hx hb hts hiX5 hown hK hP 0 rfl rfl 3 (by decide) fl39 (fun _ h9 => h9) rfl dX5_isByRule_27 ?_
    refine lv_iconst (v := (0 : Int32)) hx hb dX5_isByRule_30 (by decide) ?_
    obtain ⟨q4, hq4, hf⟩ := bnd hf
    refine kI_callVN (As := [.int x2, .ref (α 4), .int (0 : Int32)]) (rest := []) S hP hD hS (c_X3_canBeMet l D cI α gw gc gs ge gf cR cL cB pB SD RK RN RS RC RT LK LN LS LL q3 UB BB F 16 RT x2 (0 : Int32) q4 hq4) ⟨va_cnB 3 hts gX5_isByRule_X3_canBeMet_n194 rfl rfl rfl hnk (hts (.initialized RX3) (by decide +kernel)) (by decide +kernel) ⟨Nat.le_of_ble_eq_true rfl, Nat.le_of_ble_eq_true rfl⟩, hts (.instanceMethod yX3_canBeMet) (by decide +kernel), hts (.selects RX3 yX3_canBeMet yX3_canBeMet) (by decide +kernel)⟩ 2 rfl rfl rfl hl.1 rfl (Nat.le_of_ble_eq_true rfl) dX5_isByRule_31 ⟨Nat.zero_le _, Nat.zero_le _⟩ (fun H locs hP hD hS => ?_)
    have hP : va_P D vwCl (wC cI α gw gc gs ge gf cR cL cB pB SD RK RN RS RC q4.2 LK LN LS LL q3 UB BB) H := hP
    have hD : va_D A (wC cI α gw gc gs ge gf cR cL cB pB SD RK RN RS RC q4.2 LK LN LS LL q3 UB BB) := hD
    refine lv_if_ne (tgt := 41) hx hb dX5_isByRule_34 (by decide) (fun c5 => ?_) (fun c5 => ?_)
    · have hf := it_t c5 hf
      refine lv_iconst (v := (0 : Int32)) hx hb dX5_isByRule_41 (by decide) ?_
      have e9 := Option.some.inj hf
      subst e9
      exact kI_ret S narrow_b0 hP hD hS dX5_isByRule_42
    · have hf := it_f (fun h9 => h9 c5) hf
      refine lv_iconst (v := (1 : Int32)) hx hb dX5_isByRule_37 (by decide) ?_
      refine lv_goto (tgt := 42) hx hb dX5_isByRule_38 (by decide) ?_
      have e9 := Option.some.inj hf
      subst e9
      exact kI_ret S narrow_b1 hP hD hS dX5_isByRule_42
  · have hf := it_f (fun h9 => h9 c2) hf
    refine lv_iconst (v := (0 : Int32)) hx hb dX5_isByRule_11 (by decide) ?_
    have e9 := Option.some.inj hf
    subst e9
    exact kI_ret S narrow_b0 hP hD hS dX5_isByRule_12
abbrev rm_X5_deniesOnlyWhatIsSaid : Room := { frames := 1, cells := 0, slots := 0, locals := 22 }
set_option maxHeartbeats 4000000 in
set_option maxRecDepth 100000 in
theorem c_X5_deniesOnlyWhatIsSaid (l : Launch) (D : va_G) (cI : ClassId) (α : Nat → Nat) (gw gc gs ge gf cR cL cB pB : Int32) (SD RK RN RS RC RT LK LN LS LL US UB BB : Nat → Int32) (F : Nat) (x1 : Int32) (res : Int32) (hf : f_X5_deniesOnlyWhatIsSaid SD LS LL F x1 = some res) : kI l yX5_deniesOnlyWhatIsSaid wsX5_deniesOnlyWhatIsSaid rm_X5_deniesOnlyWhatIsSaid D cI [.ref (α 0), .int x1] (wC cI α gw gc gs ge gf cR cL cB pB SD RK RN RS RC RT LK LN LS LL US UB BB) (wC cI α gw gc gs ge gf cR cL cB pB SD RK RN RS RC RT LK LN LS LL US UB BB) res := by
  unfold f_X5_deniesOnlyWhatIsSaid at hf
  refine kI_of (cc := cX5_deniesOnlyWhatIsSaid) (maxL := 4) (ret := (some .boolean)) (by decide +kernel) rfl (Nat.le_of_ble_eq_true rfl) ?_
  intro p e s m args below meth c A ls S hP hD hS hl
  have S : kC p s m args meth c cX5_deniesOnlyWhatIsSaid 4 wsX5_deniesOnlyWhatIsSaid RX5 (some .boolean) D cI A := S
  have hx := S.1.1
  have hb := S.1.2.1
  have hml := S.1.2.2.1
  have hown : s.vm.findClass RX5 = some m.cls := S.1.2.2.2.1
  have hts := S.1.2.2.2.2
  have hK := S.2.2.2.1
  have hnk := S.2.2.2.2.1.2
  have hiX5 : ∀ w ∈ u_ws RX5 TX5 6, w ∈ wsX5_deniesOnlyWhatIsSaid := by decide +kernel
  have fl30 := hts (.fieldLink RX5 30 "ProofChecker" "lines" "LProofChecker$Lines;") (by decide +kernel)
  have fl50 := hts (.fieldLink RX5 50 "ProofChecker" "said" "[I") (by decide +kernel)
  have hl : lv_has ls 4 [(0, .ref (α 0)), (1, .int x1)] := hl
  have w2 : ∀ (n : Nat), ∀ (x1 : Int32) (x2 : Int32) (H : Heap) (locs : List Loc) (ls : Array Slot), f_X5_deniesOnlyWhatIsSaid_L2 SD LS LL F n x1 x2 = some res → va_P D vwCl (wC cI α gw gc gs ge gf cR cL cB pB SD RK RN RS RC RT LK LN LS LL US UB BB) H → va_D A (wC cI α gw gc gs ge gf cR cL cB pB SD RK RN RS RC RT LK LN LS LL US UB BB) → va_S A s.heap H locs → lv_has ls 4 [(0, .ref (α 0)), (1, .int x1), (2, .int x2)] → W p l e rm_X5_deniesOnlyWhatIsSaid s m args below meth c H locs 0 0 (MQ below (kQi D A (wC cI α gw gc gs ge gf cR cL cB pB SD RK RN RS RC RT LK LN LS LL US UB BB) res) args s 0 0 A) (F0 m 2 ls []) := by
    intro n
    induction n with
    | zero => intro x1 x2 H locs ls hf; cases hf
    | succ n ih =>
      intro x1 x2 H locs ls hf hP hD hS hl
      rw [f_X5_deniesOnlyWhatIsSaid_L2.eq_2] at hf
      refine lv_iload_n hx hb dX5_deniesOnlyWhatIsSaid_2 rfl (lv_at hl 2 rfl) ?_
      refine lv_aload_n hx hb dX5_deniesOnlyWhatIsSaid_3 rfl (lv_at hl 0 rfl) ?_
      refine va_get (D := D) (ci := 6) (v := .ref (α 3)) (C := RX5) (T := TX5) (N := 6) hx hb hts hiX5 hown hK hP 0 rfl rfl 2 (by decide) fl30 (fun _ h9 => h9) rfl dX5_deniesOnlyWhatIsSaid_4 ?_
      refine lv_iload_n hx hb dX5_deniesOnlyWhatIsSaid_7 rfl (lv_at hl 1 rfl) ?_
      obtain ⟨q1, hq1, hf⟩ := bnd hf
      refine kI_callV (As := [.int x1]) (rest := [.int x2]) S hP hD hS (c_X1_sizeOf l D cI α gw gc gs ge gf cR cL cB pB SD RK RN RS RC RT LK LN LS LL US UB BB x1 q1 hq1) (cwV 1 hts gX5_deniesOnlyWhatIsSaid_X1_sizeOf rfl rfl rfl (by decide +kernel) ⟨Nat.le_of_ble_eq_true rfl, Nat.le_of_ble_eq_true rfl⟩) 3 rfl rfl rfl hl.1 rfl (Nat.le_of_ble_eq_true rfl) dX5_deniesOnlyWhatIsSaid_8 ⟨Nat.zero_le _, Nat.zero_le _⟩ (fun H locs hP hD hS => ?_)
      have hP : va_P D vwCl (wC cI α gw gc gs ge gf cR cL cB pB SD RK RN RS RC RT LK LN LS LL US UB BB) H := hP
      have hD : va_D A (wC cI α gw gc gs ge gf cR cL cB pB SD RK RN RS RC RT LK LN LS LL US UB BB) := hD
      refine lv_icmp_ge (tgt := 55) hx hb dX5_deniesOnlyWhatIsSaid_11 (by decide) (fun c2 => ?_) (fun c2 => ?_)
      · have hf := it_t c2 hf
        refine lv_iconst (v := (1 : Int32)) hx hb dX5_deniesOnlyWhatIsSaid_55 (by decide) ?_
        have e9 := Option.some.inj hf
        subst e9
        exact kI_ret S narrow_b1 hP hD hS dX5_deniesOnlyWhatIsSaid_56
      · have hf := it_f c2 hf
        refine lv_aload_n hx hb dX5_deniesOnlyWhatIsSaid_14 rfl (lv_at hl 0 rfl) ?_
        refine va_get (D := D) (ci := 6) (v := .ref (α 3)) (C := RX5) (T := TX5) (N := 6) hx hb hts hiX5 hown hK hP 0 rfl rfl 2 (by decide) fl30 (fun _ h9 => h9) rfl dX5_deniesOnlyWhatIsSaid_15 ?_
        refine lv_iload_n hx hb dX5_deniesOnlyWhatIsSaid_18 rfl (lv_at hl 1 rfl) ?_
        refine lv_iload_n hx hb dX5_deniesOnlyWhatIsSaid_19 rfl (lv_at hl 2 rfl) ?_
        obtain ⟨q3, hq3, hf⟩ := bnd hf
        refine kI_callV (As := [.int x1, .int x2]) (rest := []) S hP hD hS (c_X1_literalAt l D cI α gw gc gs ge gf cR cL cB pB SD RK RN RS RC RT LK LN LS LL US UB BB x1 x2 q3 hq3) (cwV 2 hts gX5_deniesOnlyWhatIsSaid_X1_literalAt rfl rfl rfl (by decide +kernel) ⟨Nat.le_of_ble_eq_true rfl, Nat.le_of_ble_eq_true rfl⟩) 3 rfl rfl rfl hl.1 rfl (Nat.le_of_ble_eq_true rfl) dX5_deniesOnlyWhatIsSaid_20 ⟨Nat.zero_le _, Nat.zero_le _⟩ (fun H locs hP hD hS => ?_)
        have hP : va_P D vwCl (wC cI α gw gc gs ge gf cR cL cB pB SD RK RN RS RC RT LK LN LS LL US UB BB) H := hP
        have hD : va_D A (wC cI α gw gc gs ge gf cR cL cB pB SD RK RN RS RC RT LK LN LS LL US UB BB) := hD
        refine lv_istore_n (lv' := [(3, .int q3), (0, .ref (α 0)), (1, .int x1), (2, .int x2)]) hx hb dX5_deniesOnlyWhatIsSaid_23 rfl hl (by decide) rfl (fun ls hl => ?_)
        refine lv_iload_n hx hb dX5_deniesOnlyWhatIsSaid_24 rfl (lv_at hl 0 rfl) ?_
        obtain ⟨q4, hq4, hf⟩ := bnd hf
        refine kI_callS (As := [.int q3]) (rest := []) S hP hD hS (c_X1_saysIs l D cI q3 q4 hq4) (va_cwS 1 hts gX5_deniesOnlyWhatIsSaid_X1_saysIs rfl rfl rfl (by decide +kernel) ⟨Nat.le_of_ble_eq_true rfl, Nat.le_of_ble_eq_true rfl⟩) rfl hl.1 rfl (Nat.le_of_ble_eq_true rfl) dX5_deniesOnlyWhatIsSaid_25 ⟨Nat.zero_le _, Nat.zero_le _⟩ (fun H locs hP hD hS => ?_)
        refine lv_if_ne (tgt := 47) hx hb dX5_deniesOnlyWhatIsSaid_28 (by decide) (fun c5 => ?_) (fun c5 => ?_)
        · have hf := it_t c5 hf
          refine lv_iconst (v := (0 : Int32)) hx hb dX5_deniesOnlyWhatIsSaid_47 (by decide) ?_
          have e9 := Option.some.inj hf
          subst e9
          exact kI_ret S narrow_b0 hP hD hS dX5_deniesOnlyWhatIsSaid_48
        · have hf := it_f (fun h9 => h9 c5) hf
          refine lv_aload_n hx hb dX5_deniesOnlyWhatIsSaid_31 rfl (lv_at hl 1 rfl) ?_
          refine va_get (D := D) (ci := 6) (v := .ref (α 6)) (C := RX5) (T := TX5) (N := 6) hx hb hts hiX5 hown hK hP 0 rfl rfl 5 (by decide) fl50 (fun _ h9 => h9) rfl dX5_deniesOnlyWhatIsSaid_32 ?_
          refine lv_iload_n hx hb dX5_deniesOnlyWhatIsSaid_35 rfl (lv_at hl 0 rfl) ?_
          obtain ⟨q6, hq6, hf⟩ := bnd hf
          refine kI_callS (As := [.int q3]) (rest := [.ref (α 6)]) S hP hD hS (c_X1_cellOf l D cI q3 q6 hq6) (va_cwS 1 hts gX5_deniesOnlyWhatIsSaid_X1_cellOf rfl rfl rfl (by decide +kernel) ⟨Nat.le_of_ble_eq_true rfl, Nat.le_of_ble_eq_true rfl⟩) rfl hl.1 rfl (Nat.le_of_ble_eq_true rfl) dX5_deniesOnlyWhatIsSaid_36 ⟨Nat.zero_le _, Nat.zero_le _⟩ (fun H locs hP hD hS => ?_)
          obtain ⟨g7, hf⟩ := gin_some hf
          refine va_iald hx hb hK hP 6 0 rfl rfl g7 dX5_deniesOnlyWhatIsSaid_39 ?_
          refine lv_iload_n hx hb dX5_deniesOnlyWhatIsSaid_40 rfl (lv_at hl 0 rfl) ?_
          obtain ⟨q8, hq8, hf⟩ := bnd hf
          refine kI_callS (As := [.int q3]) (rest := [.int (SD q6.toNatClampNeg)]) S hP hD hS (c_X1_symbolOf l D cI q3 q8 hq8) (va_cwS 1 hts gX5_deniesOnlyWhatIsSaid_X1_symbolOf rfl rfl rfl (by decide +kernel) ⟨Nat.le_of_ble_eq_true rfl, Nat.le_of_ble_eq_true rfl⟩) rfl hl.1 rfl (Nat.le_of_ble_eq_true rfl) dX5_deniesOnlyWhatIsSaid_41 ⟨Nat.zero_le _, Nat.zero_le _⟩ (fun H locs hP hD hS => ?_)
          refine lv_icmp_eq (tgt := 49) hx hb dX5_deniesOnlyWhatIsSaid_44 (by decide) (fun c9 => ?_) (fun c9 => ?_)
          · have hf := it_t c9 hf
            refine lv_iinc (v := (x2 + (1 : Int32))) (lv' := [(2, .int (x2 + (1 : Int32))), (3, .int q3), (0, .ref (α 0)), (1, .int x1)]) hx hb dX5_deniesOnlyWhatIsSaid_49 hl (k := 3) rfl rfl (by decide) rfl (fun ls hl => ?_)
            refine lv_goto (tgt := 2) hx hb dX5_deniesOnlyWhatIsSaid_52 (by decide) ?_
            exact ih _ _ H locs ls hf hP hD hS (lv_sub hl [2, 3, 0] rfl)
          · have hf := it_f c9 hf
            refine lv_iconst (v := (0 : Int32)) hx hb dX5_deniesOnlyWhatIsSaid_47 (by decide) ?_
            have e9 := Option.some.inj hf
            subst e9
            exact kI_ret S narrow_b0 hP hD hS dX5_deniesOnlyWhatIsSaid_48
  suffices hgo : ∀ (H : Heap) (locs : List Loc), va_P D vwCl (wC cI α gw gc gs ge gf cR cL cB pB SD RK RN RS RC RT LK LN LS LL US UB BB) H → va_D A (wC cI α gw gc gs ge gf cR cL cB pB SD RK RN RS RC RT LK LN LS LL US UB BB) → va_S A s.heap H locs → W p l e rm_X5_deniesOnlyWhatIsSaid s m args below meth c H locs 0 0 (MQ below (kQi D A (wC cI α gw gc gs ge gf cR cL cB pB SD RK RN RS RC RT LK LN LS LL US UB BB) res) args s 0 0 A) (F0 m 0 ls []) from hgo _ _ hP hD hS
  clear hP hD hS
  intro H locs hP hD hS
  refine lv_iconst (v := (0 : Int32)) hx hb dX5_deniesOnlyWhatIsSaid_0 (by decide) ?_
  refine lv_istore_n (lv' := [(2, .int (0 : Int32)), (0, .ref (α 0)), (1, .int x1)]) hx hb dX5_deniesOnlyWhatIsSaid_1 rfl hl (by decide) rfl (fun ls hl => ?_)
  exact w2 F _ _ H locs ls hf hP hD hS (lv_sub hl [1, 2, 0] rfl)
abbrev rm_X5_isBarred : Room := { frames := 4, cells := 0, slots := 0, locals := 90 }
set_option maxHeartbeats 4000000 in
set_option maxRecDepth 100000 in
theorem c_X5_isBarred (l : Launch) (D : va_G) (cI : ClassId) (α : Nat → Nat) (gw gc gs ge gf cR cL cB pB : Int32) (SD RK RN RS RC RT LK LN LS LL US UB BB : Nat → Int32) (F : Nat) (x1 : Int32) (res : Int32) (hf : f_X5_isBarred gw gc ge gf cR SD RK RN RS RC LS LL F x1 = some res) : kI l yX5_isBarred wsX5_isBarred rm_X5_isBarred D cI [.ref (α 0), .int x1] (wC cI α gw gc gs ge gf cR cL cB pB SD RK RN RS RC RT LK LN LS LL US UB BB) (wC cI α gw gc gs ge gf cR cL cB pB SD RK RN RS RC RT LK LN LS LL US UB BB) res := by
  unfold f_X5_isBarred at hf
  refine kI_of (cc := cX5_isBarred) (maxL := 2) (ret := (some .boolean)) (by decide +kernel) rfl (Nat.le_of_ble_eq_true rfl) ?_
  intro p e s m args below meth c A ls S hP hD hS hl
  have S : kC p s m args meth c cX5_isBarred 2 wsX5_isBarred RX5 (some .boolean) D cI A := S
  have hx := S.1.1
  have hb := S.1.2.1
  have hml := S.1.2.2.1
  have hown : s.vm.findClass RX5 = some m.cls := S.1.2.2.2.1
  have hts := S.1.2.2.2.2
  have hK := S.2.2.2.1
  have hnk := S.2.2.2.2.1.2
  have hiX5 : ∀ w ∈ u_ws RX5 TX5 6, w ∈ wsX5_isBarred := by decide +kernel
  have fl12 := hts (.fieldLink RX5 12 "ProofChecker" "grid" "LProofChecker$Grid;") (by decide +kernel)
  have fl30 := hts (.fieldLink RX5 30 "ProofChecker" "lines" "LProofChecker$Lines;") (by decide +kernel)
  have hl : lv_has ls 2 [(0, .ref (α 0)), (1, .int x1)] := hl
  suffices hgo : ∀ (H : Heap) (locs : List Loc), va_P D vwCl (wC cI α gw gc gs ge gf cR cL cB pB SD RK RN RS RC RT LK LN LS LL US UB BB) H → va_D A (wC cI α gw gc gs ge gf cR cL cB pB SD RK RN RS RC RT LK LN LS LL US UB BB) → va_S A s.heap H locs → W p l e rm_X5_isBarred s m args below meth c H locs 0 0 (MQ below (kQi D A (wC cI α gw gc gs ge gf cR cL cB pB SD RK RN RS RC RT LK LN LS LL US UB BB) res) args s 0 0 A) (F0 m 0 ls []) from hgo _ _ hP hD hS
  clear hP hD hS
  intro H locs hP hD hS
  refine lv_aload_n hx hb dX5_isBarred_0 rfl (lv_at hl 0 rfl) ?_
  refine va_get (D := D) (ci := 6) (v := .ref (α 3)) (C := RX5) (T := TX5) (N := 6) hx hb hts hiX5 hown hK hP 0 rfl rfl 2 (by decide) fl30 (fun _ h9 => h9) rfl dX5_isBarred_1 ?_
  refine lv_iload_n hx hb dX5_isBarred_4 rfl (lv_at hl 1 rfl) ?_
  obtain ⟨q1, hq1, hf⟩ := bnd hf
  refine kI_callV (As := [.int x1]) (rest := []) S hP hD hS (c_X1_sizeOf l D cI α gw gc gs ge gf cR cL cB pB SD RK RN RS RC RT LK LN LS LL US UB BB x1 q1 hq1) (cwV 1 hts gX5_isBarred_X1_sizeOf rfl rfl rfl (by decide +kernel) ⟨Nat.le_of_ble_eq_true rfl, Nat.le_of_ble_eq_true rfl⟩) 3 rfl rfl rfl hl.1 rfl (Nat.le_of_ble_eq_true rfl) dX5_isBarred_5 ⟨Nat.zero_le _, Nat.zero_le _⟩ (fun H locs hP hD hS => ?_)
  have hP : va_P D vwCl (wC cI α gw gc gs ge gf cR cL cB pB SD RK RN RS RC RT LK LN LS LL US UB BB) H := hP
  have hD : va_D A (wC cI α gw gc gs ge gf cR cL cB pB SD RK RN RS RC RT LK LN LS LL US UB BB) := hD
  refine lv_aload_n hx hb dX5_isBarred_8 rfl (lv_at hl 0 rfl) ?_
  refine va_get (D := D) (ci := 6) (v := .ref (α 1)) (C := RX5) (T := TX5) (N := 6) hx hb hts hiX5 hown hK hP 0 rfl rfl 0 (by decide) fl12 (fun _ h9 => h9) rfl dX5_isBarred_9 ?_
  obtain ⟨q2, hq2, hf⟩ := bnd hf
  refine kI_callV (As := []) (rest := [.int q1]) S hP hD hS (c_X0_cells l D cI α gw gc gs ge gf cR cL cB pB SD RK RN RS RC RT LK LN LS LL US UB BB q2 hq2) (cwV 0 hts gX5_isBarred_X0_cells rfl rfl rfl (by decide +kernel) ⟨Nat.le_of_ble_eq_true rfl, Nat.le_of_ble_eq_true rfl⟩) 1 rfl rfl rfl hl.1 rfl (Nat.le_of_ble_eq_true rfl) dX5_isBarred_12 ⟨Nat.zero_le _, Nat.zero_le _⟩ (fun H locs hP hD hS => ?_)
  have hP : va_P D vwCl (wC cI α gw gc gs ge gf cR cL cB pB SD RK RN RS RC RT LK LN LS LL US UB BB) H := hP
  have hD : va_D A (wC cI α gw gc gs ge gf cR cL cB pB SD RK RN RS RC RT LK LN LS LL US UB BB) := hD
  refine lv_icmp_ne (tgt := 38) hx hb dX5_isBarred_15 (by decide) (fun c3 => ?_) (fun c3 => ?_)
  · have hf := it_t c3 hf
    refine lv_iconst (v := (0 : Int32)) hx hb dX5_isBarred_38 (by decide) ?_
    have e9 := Option.some.inj hf
    subst e9
    exact kI_ret S narrow_b0 hP hD hS dX5_isBarred_39
  · have hf := it_f (fun h9 => h9 c3) hf
    refine lv_aload_n hx hb dX5_isBarred_18 rfl (lv_at hl 0 rfl) ?_
    refine lv_iload_n hx hb dX5_isBarred_19 rfl (lv_at hl 1 rfl) ?_
    obtain ⟨q4, hq4, hf⟩ := bnd hf
    refine kI_callV (As := [.int x1]) (rest := []) S hP hD hS (c_X5_deniesOnlyWhatIsSaid l D cI α gw gc gs ge gf cR cL cB pB SD RK RN RS RC RT LK LN LS LL US UB BB F x1 q4 hq4) (cwV 1 hts gX5_isBarred_X5_deniesOnlyWhatIsSaid rfl rfl rfl (by decide +kernel) ⟨Nat.le_of_ble_eq_true rfl, Nat.le_of_ble_eq_true rfl⟩) 0 rfl rfl rfl hl.1 rfl (Nat.le_of_ble_eq_true rfl) dX5_isBarred_20 ⟨Nat.zero_le _, Nat.zero_le _⟩ (fun H locs hP hD hS => ?_)
    have hP : va_P D vwCl (wC cI α gw gc gs ge gf cR cL cB pB SD RK RN RS RC RT LK LN LS LL US UB BB) H := hP
    have hD : va_D A (wC cI α gw gc gs ge gf cR cL cB pB SD RK RN RS RC RT LK LN LS LL US UB BB) := hD
    refine lv_if_eq (tgt := 38) hx hb dX5_isBarred_23 (by decide) (fun c5 => ?_) (fun c5 => ?_)
    · have hf := it_t c5 hf
      refine lv_iconst (v := (0 : Int32)) hx hb dX5_isBarred_38 (by decide) ?_
      have e9 := Option.some.inj hf
      subst e9
      exact kI_ret S narrow_b0 hP hD hS dX5_isBarred_39
    · have hf := it_f c5 hf
      refine lv_aload_n hx hb dX5_isBarred_26 rfl (lv_at hl 0 rfl) ?_
      obtain ⟨q6, hq6, hf⟩ := bnd hf
      refine kI_callV (As := []) (rest := []) S hP hD hS (c_X5_fails l D cI α gw gc gs ge gf cR cL cB pB SD RK RN RS RC RT LK LN LS LL US UB BB F q6 hq6) (cwV 0 hts gX5_isBarred_X5_fails rfl rfl rfl (by decide +kernel) ⟨Nat.le_of_ble_eq_true rfl, Nat.le_of_ble_eq_true rfl⟩) 0 rfl rfl rfl hl.1 rfl (Nat.le_of_ble_eq_true rfl) dX5_isBarred_27 ⟨Nat.zero_le _, Nat.zero_le _⟩ (fun H locs hP hD hS => ?_)
      have hP : va_P D vwCl (wC cI α gw gc gs ge gf cR cL cB pB SD RK RN RS RC RT LK LN LS LL US UB BB) H := hP
      have hD : va_D A (wC cI α gw gc gs ge gf cR cL cB pB SD RK RN RS RC RT LK LN LS LL US UB BB) := hD
      refine lv_iconst (v := (-1 : Int32)) hx hb dX5_isBarred_30 (by decide) ?_
      refine lv_icmp_ne (tgt := 38) hx hb dX5_isBarred_31 (by decide) (fun c7 => ?_) (fun c7 => ?_)
      · have hf := it_t c7 hf
        refine lv_iconst (v := (0 : Int32)) hx hb dX5_isBarred_38 (by decide) ?_
        have e9 := Option.some.inj hf
        subst e9
        exact kI_ret S narrow_b0 hP hD hS dX5_isBarred_39
      · have hf := it_f (fun h9 => h9 c7) hf
        refine lv_iconst (v := (1 : Int32)) hx hb dX5_isBarred_34 (by decide) ?_
        refine lv_goto (tgt := 39) hx hb dX5_isBarred_35 (by decide) ?_
        have e9 := Option.some.inj hf
        subst e9
        exact kI_ret S narrow_b1 hP hD hS dX5_isBarred_39
abbrev rm_X5_followsFromLinesAhead : Room := { frames := 21, cells := 0, slots := 0, locals := 533 }
set_option maxHeartbeats 4000000 in
set_option maxRecDepth 100000 in
theorem c_X5_followsFromLinesAhead (l : Launch) (D : va_G) (cI : ClassId) (α : Nat → Nat) (gw gc gs ge gf cR cL cB pB : Int32) (SD RK RN RS RC RT LK LN LS LL US UB BB : Nat → Int32) (F : Nat) (x1 : Int32) (res : Int32 × (Nat → Int32) × (Nat → Int32) × (Nat → Int32)) (hf : f_X5_followsFromLinesAhead gw gc gs ge gf cR SD RK RN RS RC LK LN LS LL F RT US UB x1 = some res) : kI l yX5_followsFromLinesAhead wsX5_followsFromLinesAhead rm_X5_followsFromLinesAhead D cI [.ref (α 0), .int x1] (wC cI α gw gc gs ge gf cR cL cB pB SD RK RN RS RC RT LK LN LS LL US UB BB) (wC cI α gw gc gs ge gf cR cL cB pB SD RK RN RS RC res.2.1 LK LN LS LL res.2.2.1 res.2.2.2 BB) res.1 := by
  unfold f_X5_followsFromLinesAhead at hf
  refine kI_of (cc := cX5_followsFromLinesAhead) (maxL := 3) (ret := (some .boolean)) (by decide +kernel) rfl (Nat.le_of_ble_eq_true rfl) ?_
  intro p e s m args below meth c A ls S hP hD hS hl
  have S : kC p s m args meth c cX5_followsFromLinesAhead 3 wsX5_followsFromLinesAhead RX5 (some .boolean) D cI A := S
  have hx := S.1.1
  have hb := S.1.2.1
  have hml := S.1.2.2.1
  have hown : s.vm.findClass RX5 = some m.cls := S.1.2.2.2.1
  have hts := S.1.2.2.2.2
  have hK := S.2.2.2.1
  have hnk := S.2.2.2.2.1.2
  have hiX5 : ∀ w ∈ u_ws RX5 TX5 6, w ∈ wsX5_followsFromLinesAhead := by decide +kernel
  have fl12 := hts (.fieldLink RX5 12 "ProofChecker" "grid" "LProofChecker$Grid;") (by decide +kernel)
  have fl23 := hts (.fieldLink RX5 23 "ProofChecker" "rules" "LProofChecker$Rules;") (by decide +kernel)
  have fl30 := hts (.fieldLink RX5 30 "ProofChecker" "lines" "LProofChecker$Lines;") (by decide +kernel)
  have fl39 := hts (.fieldLink RX5 39 "ProofChecker" "units" "LProofChecker$Units;") (by decide +kernel)
  have hl : lv_has ls 3 [(0, .ref (α 0)), (1, .int x1)] := hl
  suffices hgo : ∀ (H : Heap) (locs : List Loc), va_P D vwCl (wC cI α gw gc gs ge gf cR cL cB pB SD RK RN RS RC RT LK LN LS LL US UB BB) H → va_D A (wC cI α gw gc gs ge gf cR cL cB pB SD RK RN RS RC RT LK LN LS LL US UB BB) → va_S A s.heap H locs → W p l e rm_X5_followsFromLinesAhead s m args below meth c H locs 0 0 (MQ below (kQi D A (wC cI α gw gc gs ge gf cR cL cB pB SD RK RN RS RC res.2.1 LK LN LS LL res.2.2.1 res.2.2.2 BB) res.1) args s 0 0 A) (F0 m 0 ls []) from hgo _ _ hP hD hS
  clear hP hD hS
  intro H locs hP hD hS
  refine lv_aload_n hx hb dX5_followsFromLinesAhead_0 rfl (lv_at hl 0 rfl) ?_
  refine va_get (D := D) (ci := 6) (v := .ref (α 3)) (C := RX5) (T := TX5) (N := 6) hx hb hts hiX5 hown hK hP 0 rfl rfl 2 (by decide) fl30 (fun _ h9 => h9) rfl dX5_followsFromLinesAhead_1 ?_
  refine lv_iload_n hx hb dX5_followsFromLinesAhead_4 rfl (lv_at hl 1 rfl) ?_
  obtain ⟨q1, hq1, hf⟩ := bnd hf
  refine kI_callV (As := [.int x1]) (rest := []) S hP hD hS (c_X1_numberOf l D cI α gw gc gs ge gf cR cL cB pB SD RK RN RS RC RT LK LN LS LL US UB BB x1 q1 hq1) (cwV 1 hts gX5_followsFromLinesAhead_X1_numberOf rfl rfl rfl (by decide +kernel) ⟨Nat.le_of_ble_eq_true rfl, Nat.le_of_ble_eq_true rfl⟩) 3 rfl rfl rfl hl.1 rfl (Nat.le_of_ble_eq_true rfl) dX5_followsFromLinesAhead_5 ⟨Nat.zero_le _, Nat.zero_le _⟩ (fun H locs hP hD hS => ?_)
  have hP : va_P D vwCl (wC cI α gw gc gs ge gf cR cL cB pB SD RK RN RS RC RT LK LN LS LL US UB BB) H := hP
  have hD : va_D A (wC cI α gw gc gs ge gf cR cL cB pB SD RK RN RS RC RT LK LN LS LL US UB BB) := hD
  refine lv_istore_n (lv' := [(2, .int q1), (0, .ref (α 0)), (1, .int x1)]) hx hb dX5_followsFromLinesAhead_8 rfl hl (by decide) rfl (fun ls hl => ?_)
  refine lv_aload_n hx hb dX5_followsFromLinesAhead_9 rfl (lv_at hl 1 rfl) ?_
  refine va_get (D := D) (ci := 6) (v := .ref (α 3)) (C := RX5) (T := TX5) (N := 6) hx hb hts hiX5 hown hK hP 0 rfl rfl 2 (by decide) fl30 (fun _ h9 => h9) rfl dX5_followsFromLinesAhead_10 ?_
  refine lv_iload_n hx hb dX5_followsFromLinesAhead_13 rfl (lv_at hl 2 rfl) ?_
  obtain ⟨q2, hq2, hf⟩ := bnd hf
  refine kI_callV (As := [.int x1]) (rest := []) S hP hD hS (c_X1_kindOf l D cI α gw gc gs ge gf cR cL cB pB SD RK RN RS RC RT LK LN LS LL US UB BB x1 q2 hq2) (cwV 1 hts gX5_followsFromLinesAhead_X1_kindOf rfl rfl rfl (by decide +kernel) ⟨Nat.le_of_ble_eq_true rfl, Nat.le_of_ble_eq_true rfl⟩) 3 rfl rfl rfl hl.1 rfl (Nat.le_of_ble_eq_true rfl) dX5_followsFromLinesAhead_14 ⟨Nat.zero_le _, Nat.zero_le _⟩ (fun H locs hP hD hS => ?_)
  have hP : va_P D vwCl (wC cI α gw gc gs ge gf cR cL cB pB SD RK RN RS RC RT LK LN LS LL US UB BB) H := hP
  have hD : va_D A (wC cI α gw gc gs ge gf cR cL cB pB SD RK RN RS RC RT LK LN LS LL US UB BB) := hD
  by_cases c3 : q2 = (0 : Int32)
  · have hf := it_t c3 hf
    refine sw_in (k := (0 : Int32)) (tgt := 44) hx hb c3 dX5_followsFromLinesAhead_17 (by decide) (by decide) rfl (by decide) ?_
    refine lv_aload_n hx hb dX5_followsFromLinesAhead_44 rfl (lv_at hl 1 rfl) ?_
    refine va_get (D := D) (ci := 6) (v := .ref (α 2)) (C := RX5) (T := TX5) (N := 6) hx hb hts hiX5 hown hK hP 0 rfl rfl 1 (by decide) fl23 (fun _ h9 => h9) rfl dX5_followsFromLinesAhead_45 ?_
    refine lv_iload_n hx hb dX5_followsFromLinesAhead_48 rfl (lv_at hl 0 rfl) ?_
    obtain ⟨q4, hq4, hf⟩ := bnd hf
    refine kI_callV (As := [.int q1]) (rest := []) S hP hD hS (c_X3_has l D cI α gw gc gs ge gf cR cL cB pB SD RK RN RS RC RT LK LN LS LL US UB BB q1 q4 hq4) (cwV 1 hts gX5_followsFromLinesAhead_X3_has rfl rfl rfl (by decide +kernel) ⟨Nat.le_of_ble_eq_true rfl, Nat.le_of_ble_eq_true rfl⟩) 2 rfl rfl rfl hl.1 rfl (Nat.le_of_ble_eq_true rfl) dX5_followsFromLinesAhead_49 ⟨Nat.zero_le _, Nat.zero_le _⟩ (fun H locs hP hD hS => ?_)
    have hP : va_P D vwCl (wC cI α gw gc gs ge gf cR cL cB pB SD RK RN RS RC RT LK LN LS LL US UB BB) H := hP
    have hD : va_D A (wC cI α gw gc gs ge gf cR cL cB pB SD RK RN RS RC RT LK LN LS LL US UB BB) := hD
    refine lv_if_eq (tgt := 68) hx hb dX5_followsFromLinesAhead_52 (by decide) (fun c5 => ?_) (fun c5 => ?_)
    · have hf := it_t c5 hf
      refine lv_iconst (v := (0 : Int32)) hx hb dX5_followsFromLinesAhead_68 (by decide) ?_
      have e9 := Option.some.inj hf
      subst e9
      exact kI_ret S narrow_b0 hP hD hS dX5_followsFromLinesAhead_69
    · have hf := it_f c5 hf
      refine lv_aload_n hx hb dX5_followsFromLinesAhead_55 rfl (lv_at hl 1 rfl) ?_
      refine lv_iload_n hx hb dX5_followsFromLinesAhead_56 rfl (lv_at hl 2 rfl) ?_
      refine lv_iload_n hx hb dX5_followsFromLinesAhead_57 rfl (lv_at hl 0 rfl) ?_
      obtain ⟨q6, hq6, hf⟩ := bnd hf
      refine kI_callV (As := [.int x1, .int q1]) (rest := []) S hP hD hS (c_X5_isByRule l D cI α gw gc gs ge gf cR cL cB pB SD RK RN RS RC RT LK LN LS LL US UB BB F x1 q1 q6 hq6) (cwV 2 hts gX5_followsFromLinesAhead_X5_isByRule rfl rfl rfl (by decide +kernel) ⟨Nat.le_of_ble_eq_true rfl, Nat.le_of_ble_eq_true rfl⟩) 0 rfl rfl rfl hl.1 rfl (Nat.le_of_ble_eq_true rfl) dX5_followsFromLinesAhead_58 ⟨Nat.zero_le _, Nat.zero_le _⟩ (fun H locs hP hD hS => ?_)
      have hP : va_P D vwCl (wC cI α gw gc gs ge gf cR cL cB pB SD RK RN RS RC q6.2.1 LK LN LS LL q6.2.2 UB BB) H := hP
      have hD : va_D A (wC cI α gw gc gs ge gf cR cL cB pB SD RK RN RS RC q6.2.1 LK LN LS LL q6.2.2 UB BB) := hD
      refine lv_if_eq (tgt := 68) hx hb dX5_followsFromLinesAhead_61 (by decide) (fun c7 => ?_) (fun c7 => ?_)
      · have hf := it_t c7 hf
        refine lv_iconst (v := (0 : Int32)) hx hb dX5_followsFromLinesAhead_68 (by decide) ?_
        have e9 := Option.some.inj hf
        subst e9
        exact kI_ret S narrow_b0 hP hD hS dX5_followsFromLinesAhead_69
      · have hf := it_f c7 hf
        refine lv_iconst (v := (1 : Int32)) hx hb dX5_followsFromLinesAhead_64 (by decide) ?_
        refine lv_goto (tgt := 69) hx hb dX5_followsFromLinesAhead_65 (by decide) ?_
        have e9 := Option.some.inj hf
        subst e9
        exact kI_ret S narrow_b1 hP hD hS dX5_followsFromLinesAhead_69
  have hf := it_f c3 hf
  by_cases c8 : q2 = (1 : Int32)
  · have hf := it_t c8 hf
    refine sw_in (k := (1 : Int32)) (tgt := 70) hx hb c8 dX5_followsFromLinesAhead_17 (by decide) (by decide) rfl (by decide) ?_
    refine lv_aload_n hx hb dX5_followsFromLinesAhead_70 rfl (lv_at hl 1 rfl) ?_
    refine va_get (D := D) (ci := 6) (v := .ref (α 4)) (C := RX5) (T := TX5) (N := 6) hx hb hts hiX5 hown hK hP 0 rfl rfl 3 (by decide) fl39 (fun _ h9 => h9) rfl dX5_followsFromLinesAhead_71 ?_
    refine lv_iload_n hx hb dX5_followsFromLinesAhead_74 rfl (lv_at hl 2 rfl) ?_
    obtain ⟨q9, hq9, hf⟩ := bnd hf
    refine kI_callV (As := [.int x1]) (rest := []) S hP hD hS (c_X4_refute l D cI α gw gc gs ge gf cR cL cB pB SD RK RN RS RC RT LK LN LS LL US UB BB F x1 q9 hq9) (cwV 1 hts gX5_followsFromLinesAhead_X4_refute rfl rfl rfl (by decide +kernel) ⟨Nat.le_of_ble_eq_true rfl, Nat.le_of_ble_eq_true rfl⟩) 4 rfl rfl rfl hl.1 rfl (Nat.le_of_ble_eq_true rfl) dX5_followsFromLinesAhead_75 ⟨Nat.zero_le _, Nat.zero_le _⟩ (fun H locs hP hD hS => ?_)
    have hP : va_P D vwCl (wC cI α gw gc gs ge gf cR cL cB pB SD RK RN RS RC RT LK LN LS LL q9.2 UB BB) H := hP
    have hD : va_D A (wC cI α gw gc gs ge gf cR cL cB pB SD RK RN RS RC RT LK LN LS LL q9.2 UB BB) := hD
    obtain ⟨g10, hf⟩ := gbl_some hf
    have e9 := Option.some.inj hf
    subst e9
    exact kI_ret S (nar_b g10) hP hD hS dX5_followsFromLinesAhead_78
  have hf := it_f c8 hf
  by_cases c11 : q2 = (2 : Int32)
  · have hf := it_t c11 hf
    refine sw_in (k := (2 : Int32)) (tgt := 79) hx hb c11 dX5_followsFromLinesAhead_17 (by decide) (by decide) rfl (by decide) ?_
    refine lv_aload_n hx hb dX5_followsFromLinesAhead_79 rfl (lv_at hl 1 rfl) ?_
    refine va_get (D := D) (ci := 6) (v := .ref (α 1)) (C := RX5) (T := TX5) (N := 6) hx hb hts hiX5 hown hK hP 0 rfl rfl 0 (by decide) fl12 (fun _ h9 => h9) rfl dX5_followsFromLinesAhead_80 ?_
    refine lv_iload_n hx hb dX5_followsFromLinesAhead_83 rfl (lv_at hl 0 rfl) ?_
    obtain ⟨q12, hq12, hf⟩ := bnd hf
    refine kI_callV (As := [.int q1]) (rest := []) S hP hD hS (c_X0_hasCell l D cI α gw gc gs ge gf cR cL cB pB SD RK RN RS RC RT LK LN LS LL US UB BB q1 q12 hq12) (cwV 1 hts gX5_followsFromLinesAhead_X0_hasCell rfl rfl rfl (by decide +kernel) ⟨Nat.le_of_ble_eq_true rfl, Nat.le_of_ble_eq_true rfl⟩) 1 rfl rfl rfl hl.1 rfl (Nat.le_of_ble_eq_true rfl) dX5_followsFromLinesAhead_84 ⟨Nat.zero_le _, Nat.zero_le _⟩ (fun H locs hP hD hS => ?_)
    have hP : va_P D vwCl (wC cI α gw gc gs ge gf cR cL cB pB SD RK RN RS RC RT LK LN LS LL US UB BB) H := hP
    have hD : va_D A (wC cI α gw gc gs ge gf cR cL cB pB SD RK RN RS RC RT LK LN LS LL US UB BB) := hD
    refine lv_if_eq (tgt := 106) hx hb dX5_followsFromLinesAhead_87 (by decide) (fun c13 => ?_) (fun c13 => ?_)
    · have hf := it_t c13 hf
      refine lv_iconst (v := (0 : Int32)) hx hb dX5_followsFromLinesAhead_106 (by decide) ?_
      have e9 := Option.some.inj hf
      subst e9
      exact kI_ret S narrow_b0 hP hD hS dX5_followsFromLinesAhead_107
    · have hf := it_f c13 hf
      refine lv_aload_n hx hb dX5_followsFromLinesAhead_90 rfl (lv_at hl 1 rfl) ?_
      refine va_get (D := D) (ci := 6) (v := .ref (α 4)) (C := RX5) (T := TX5) (N := 6) hx hb hts hiX5 hown hK hP 0 rfl rfl 3 (by decide) fl39 (fun _ h9 => h9) rfl dX5_followsFromLinesAhead_91 ?_
      refine lv_iload_n hx hb dX5_followsFromLinesAhead_94 rfl (lv_at hl 2 rfl) ?_
      refine lv_iload_n hx hb dX5_followsFromLinesAhead_95 rfl (lv_at hl 0 rfl) ?_
      obtain ⟨q14, hq14, hf⟩ := bnd hf
      refine kI_callV (As := [.int x1, .int q1]) (rest := []) S hP hD hS (c_X4_refuteBySplit l D cI α gw gc gs ge gf cR cL cB pB SD RK RN RS RC RT LK LN LS LL US UB BB F x1 q1 q14 hq14) (cwV 2 hts gX5_followsFromLinesAhead_X4_refuteBySplit rfl rfl rfl (by decide +kernel) ⟨Nat.le_of_ble_eq_true rfl, Nat.le_of_ble_eq_true rfl⟩) 4 rfl rfl rfl hl.1 rfl (Nat.le_of_ble_eq_true rfl) dX5_followsFromLinesAhead_96 ⟨Nat.zero_le _, Nat.zero_le _⟩ (fun H locs hP hD hS => ?_)
      have hP : va_P D vwCl (wC cI α gw gc gs ge gf cR cL cB pB SD RK RN RS RC RT LK LN LS LL q14.2.1 q14.2.2 BB) H := hP
      have hD : va_D A (wC cI α gw gc gs ge gf cR cL cB pB SD RK RN RS RC RT LK LN LS LL q14.2.1 q14.2.2 BB) := hD
      refine lv_if_eq (tgt := 106) hx hb dX5_followsFromLinesAhead_99 (by decide) (fun c15 => ?_) (fun c15 => ?_)
      · have hf := it_t c15 hf
        refine lv_iconst (v := (0 : Int32)) hx hb dX5_followsFromLinesAhead_106 (by decide) ?_
        have e9 := Option.some.inj hf
        subst e9
        exact kI_ret S narrow_b0 hP hD hS dX5_followsFromLinesAhead_107
      · have hf := it_f c15 hf
        refine lv_iconst (v := (1 : Int32)) hx hb dX5_followsFromLinesAhead_102 (by decide) ?_
        refine lv_goto (tgt := 107) hx hb dX5_followsFromLinesAhead_103 (by decide) ?_
        have e9 := Option.some.inj hf
        subst e9
        exact kI_ret S narrow_b1 hP hD hS dX5_followsFromLinesAhead_107
  have hf := it_f c11 hf
  refine lv_tableOut (tgt := 108) hx hb dX5_followsFromLinesAhead_17 (by have e0 := lv_neT (a := 0) c3 rfl; have e1 := lv_neT (a := 1) c8 rfl; have e2 := lv_neT (a := 2) c11 rfl; omega) (by decide) ?_
  refine lv_aload_n hx hb dX5_followsFromLinesAhead_108 rfl (lv_at hl 1 rfl) ?_
  refine lv_iload_n hx hb dX5_followsFromLinesAhead_109 rfl (lv_at hl 2 rfl) ?_
  obtain ⟨q16, hq16, hf⟩ := bnd hf
  refine kI_callV (As := [.int x1]) (rest := []) S hP hD hS (c_X5_isBarred l D cI α gw gc gs ge gf cR cL cB pB SD RK RN RS RC RT LK LN LS LL US UB BB F x1 q16 hq16) (cwV 1 hts gX5_followsFromLinesAhead_X5_isBarred rfl rfl rfl (by decide +kernel) ⟨Nat.le_of_ble_eq_true rfl, Nat.le_of_ble_eq_true rfl⟩) 0 rfl rfl rfl hl.1 rfl (Nat.le_of_ble_eq_true rfl) dX5_followsFromLinesAhead_110 ⟨Nat.zero_le _, Nat.zero_le _⟩ (fun H locs hP hD hS => ?_)
  have hP : va_P D vwCl (wC cI α gw gc gs ge gf cR cL cB pB SD RK RN RS RC RT LK LN LS LL US UB BB) H := hP
  have hD : va_D A (wC cI α gw gc gs ge gf cR cL cB pB SD RK RN RS RC RT LK LN LS LL US UB BB) := hD
  obtain ⟨g17, hf⟩ := gbl_some hf
  have e9 := Option.some.inj hf
  subst e9
  exact kI_ret S (nar_b g17) hP hD hS dX5_followsFromLinesAhead_113
abbrev rm_X5_check : Room := { frames := 22, cells := 0, slots := 0, locals := 555 }
set_option maxHeartbeats 4000000 in
set_option maxRecDepth 100000 in
theorem c_X5_check (l : Launch) (D : va_G) (cI : ClassId) (α : Nat → Nat) (gw gc gs ge gf cR cL cB pB : Int32) (SD RK RN RS RC RT LK LN LS LL US UB BB : Nat → Int32) (F : Nat)  (res : Int32 × (Nat → Int32) × (Nat → Int32) × (Nat → Int32)) (hf : f_X5_check gw gc gs ge gf cR cL SD RK RN RS RC LK LN LS LL F RT US UB = some res) : kI l yX5_check wsX5_check rm_X5_check D cI [.ref (α 0)] (wC cI α gw gc gs ge gf cR cL cB pB SD RK RN RS RC RT LK LN LS LL US UB BB) (wC cI α gw gc gs ge gf cR cL cB pB SD RK RN RS RC res.2.1 LK LN LS LL res.2.2.1 res.2.2.2 BB) res.1 := by
  unfold f_X5_check at hf
  refine kI_of (cc := cX5_check) (maxL := 2) (ret := (some .int)) (by decide +kernel) rfl (Nat.le_of_ble_eq_true rfl) ?_
  intro p e s m args below meth c A ls S hP hD hS hl
  have S : kC p s m args meth c cX5_check 2 wsX5_check RX5 (some .int) D cI A := S
  have hx := S.1.1
  have hb := S.1.2.1
  have hml := S.1.2.2.1
  have hown : s.vm.findClass RX5 = some m.cls := S.1.2.2.2.1
  have hts := S.1.2.2.2.2
  have hK := S.2.2.2.1
  have hnk := S.2.2.2.2.1.2
  have hiX5 : ∀ w ∈ u_ws RX5 TX5 6, w ∈ wsX5_check := by decide +kernel
  have fl30 := hts (.fieldLink RX5 30 "ProofChecker" "lines" "LProofChecker$Lines;") (by decide +kernel)
  have hl : lv_has ls 2 [(0, .ref (α 0))] := hl
  have w2 : ∀ (n : Nat), ∀ (x1 : Int32) (RT : Nat → Int32) (US : Nat → Int32) (UB : Nat → Int32) (H : Heap) (locs : List Loc) (ls : Array Slot), f_X5_check_L2 gw gc gs ge gf cR cL SD RK RN RS RC LK LN LS LL F n x1 RT US UB = some res → va_P D vwCl (wC cI α gw gc gs ge gf cR cL cB pB SD RK RN RS RC RT LK LN LS LL US UB BB) H → va_D A (wC cI α gw gc gs ge gf cR cL cB pB SD RK RN RS RC RT LK LN LS LL US UB BB) → va_S A s.heap H locs → lv_has ls 2 [(0, .ref (α 0)), (1, .int x1)] → W p l e rm_X5_check s m args below meth c H locs 0 0 (MQ below (kQi D A (wC cI α gw gc gs ge gf cR cL cB pB SD RK RN RS RC res.2.1 LK LN LS LL res.2.2.1 res.2.2.2 BB) res.1) args s 0 0 A) (F0 m 2 ls []) := by
    intro n
    induction n with
    | zero => intro x1 RT US UB H locs ls hf; cases hf
    | succ n ih =>
      intro x1 RT US UB H locs ls hf hP hD hS hl
      rw [f_X5_check_L2.eq_2] at hf
      refine lv_iload_n hx hb dX5_check_2 rfl (lv_at hl 1 rfl) ?_
      refine lv_aload_n hx hb dX5_check_3 rfl (lv_at hl 0 rfl) ?_
      refine va_get (D := D) (ci := 6) (v := .ref (α 3)) (C := RX5) (T := TX5) (N := 6) hx hb hts hiX5 hown hK hP 0 rfl rfl 2 (by decide) fl30 (fun _ h9 => h9) rfl dX5_check_4 ?_
      obtain ⟨q1, hq1, hf⟩ := bnd hf
      refine kI_callV (As := []) (rest := [.int x1]) S hP hD hS (c_X1_count l D cI α gw gc gs ge gf cR cL cB pB SD RK RN RS RC RT LK LN LS LL US UB BB q1 hq1) (cwV 0 hts gX5_check_X1_count rfl rfl rfl (by decide +kernel) ⟨Nat.le_of_ble_eq_true rfl, Nat.le_of_ble_eq_true rfl⟩) 3 rfl rfl rfl hl.1 rfl (Nat.le_of_ble_eq_true rfl) dX5_check_7 ⟨Nat.zero_le _, Nat.zero_le _⟩ (fun H locs hP hD hS => ?_)
      have hP : va_P D vwCl (wC cI α gw gc gs ge gf cR cL cB pB SD RK RN RS RC RT LK LN LS LL US UB BB) H := hP
      have hD : va_D A (wC cI α gw gc gs ge gf cR cL cB pB SD RK RN RS RC RT LK LN LS LL US UB BB) := hD
      refine lv_icmp_ge (tgt := 27) hx hb dX5_check_10 (by decide) (fun c2 => ?_) (fun c2 => ?_)
      · have hf := it_t c2 hf
        refine lv_iload_n hx hb dX5_check_27 rfl (lv_at hl 1 rfl) ?_
        have e9 := Option.some.inj hf
        subst e9
        exact kI_ret S rfl hP hD hS dX5_check_28
      · have hf := it_f c2 hf
        refine lv_aload_n hx hb dX5_check_13 rfl (lv_at hl 0 rfl) ?_
        refine lv_iload_n hx hb dX5_check_14 rfl (lv_at hl 1 rfl) ?_
        obtain ⟨q3, hq3, hf⟩ := bnd hf
        refine kI_callV (As := [.int x1]) (rest := []) S hP hD hS (c_X5_followsFromLinesAhead l D cI α gw gc gs ge gf cR cL cB pB SD RK RN RS RC RT LK LN LS LL US UB BB F x1 q3 hq3) (cwV 1 hts gX5_check_X5_followsFromLinesAhead rfl rfl rfl (by decide +kernel) ⟨Nat.le_of_ble_eq_true rfl, Nat.le_of_ble_eq_true rfl⟩) 0 rfl rfl rfl hl.1 rfl (Nat.le_of_ble_eq_true rfl) dX5_check_15 ⟨Nat.zero_le _, Nat.zero_le _⟩ (fun H locs hP hD hS => ?_)
        have hP : va_P D vwCl (wC cI α gw gc gs ge gf cR cL cB pB SD RK RN RS RC q3.2.1 LK LN LS LL q3.2.2.1 q3.2.2.2 BB) H := hP
        have hD : va_D A (wC cI α gw gc gs ge gf cR cL cB pB SD RK RN RS RC q3.2.1 LK LN LS LL q3.2.2.1 q3.2.2.2 BB) := hD
        refine lv_if_eq (tgt := 27) hx hb dX5_check_18 (by decide) (fun c4 => ?_) (fun c4 => ?_)
        · have hf := it_t c4 hf
          refine lv_iload_n hx hb dX5_check_27 rfl (lv_at hl 1 rfl) ?_
          have e9 := Option.some.inj hf
          subst e9
          exact kI_ret S rfl hP hD hS dX5_check_28
        · have hf := it_f c4 hf
          refine lv_iinc (v := (x1 + (1 : Int32))) (lv' := [(1, .int (x1 + (1 : Int32))), (0, .ref (α 0))]) hx hb dX5_check_21 hl (k := 1) rfl rfl (by decide) rfl (fun ls hl => ?_)
          refine lv_goto (tgt := 2) hx hb dX5_check_24 (by decide) ?_
          exact ih _ _ _ _ H locs ls hf hP hD hS (lv_sub hl [1, 0] rfl)
  suffices hgo : ∀ (H : Heap) (locs : List Loc), va_P D vwCl (wC cI α gw gc gs ge gf cR cL cB pB SD RK RN RS RC RT LK LN LS LL US UB BB) H → va_D A (wC cI α gw gc gs ge gf cR cL cB pB SD RK RN RS RC RT LK LN LS LL US UB BB) → va_S A s.heap H locs → W p l e rm_X5_check s m args below meth c H locs 0 0 (MQ below (kQi D A (wC cI α gw gc gs ge gf cR cL cB pB SD RK RN RS RC res.2.1 LK LN LS LL res.2.2.1 res.2.2.2 BB) res.1) args s 0 0 A) (F0 m 0 ls []) from hgo _ _ hP hD hS
  clear hP hD hS
  intro H locs hP hD hS
  refine lv_iconst (v := (0 : Int32)) hx hb dX5_check_0 (by decide) ?_
  refine lv_istore_n (lv' := [(1, .int (0 : Int32)), (0, .ref (α 0))]) hx hb dX5_check_1 rfl hl (by decide) rfl (fun ls hl => ?_)
  exact w2 F _ _ _ _ H locs ls hf hP hD hS (lv_sub hl [1, 0] rfl)
abbrev rm_X5_proves : Room := { frames := 22, cells := 0, slots := 0, locals := 555 }
set_option maxHeartbeats 4000000 in
set_option maxRecDepth 100000 in
theorem c_X5_proves (l : Launch) (D : va_G) (cI : ClassId) (α : Nat → Nat) (gw gc gs ge gf cR cL cB pB : Int32) (SD RK RN RS RC RT LK LN LS LL US UB BB : Nat → Int32) (F : Nat)  (res : Int32 × (Nat → Int32) × (Nat → Int32) × (Nat → Int32)) (hf : f_X5_proves gw gc gs ge gf cR cL SD RK RN RS RC LK LN LS LL F RT US UB = some res) : kI l yX5_proves wsX5_proves rm_X5_proves D cI [.ref (α 0)] (wC cI α gw gc gs ge gf cR cL cB pB SD RK RN RS RC RT LK LN LS LL US UB BB) (wC cI α gw gc gs ge gf cR cL cB pB SD RK RN RS RC res.2.1 LK LN LS LL res.2.2.1 res.2.2.2 BB) res.1 := by
  unfold f_X5_proves at hf
  refine kI_of (cc := cX5_proves) (maxL := 4) (ret := (some .int)) (by decide +kernel) rfl (Nat.le_of_ble_eq_true rfl) ?_
  intro p e s m args below meth c A ls S hP hD hS hl
  have S : kC p s m args meth c cX5_proves 4 wsX5_proves RX5 (some .int) D cI A := S
  have hx := S.1.1
  have hb := S.1.2.1
  have hml := S.1.2.2.1
  have hown : s.vm.findClass RX5 = some m.cls := S.1.2.2.2.1
  have hts := S.1.2.2.2.2
  have hK := S.2.2.2.1
  have hnk := S.2.2.2.2.1.2
  have hiX5 : ∀ w ∈ u_ws RX5 TX5 6, w ∈ wsX5_proves := by decide +kernel
  have fl30 := hts (.fieldLink RX5 30 "ProofChecker" "lines" "LProofChecker$Lines;") (by decide +kernel)
  have hl : lv_has ls 4 [(0, .ref (α 0))] := hl
  have w60 : ∀ (k31 : Int32 → Int32 → Int32 → (Nat → Int32) → (Nat → Int32) → (Nat → Int32) → Option (Int32 × (Nat → Int32) × (Nat → Int32) × (Nat → Int32))) (hk31 : ∀ (x1 : Int32) (x2 : Int32) (x3 : Int32) (RT : Nat → Int32) (US : Nat → Int32) (UB : Nat → Int32) (H : Heap) (locs : List Loc) (ls : Array Slot), k31 x1 x2 x3 RT US UB = some res → va_P D vwCl (wC cI α gw gc gs ge gf cR cL cB pB SD RK RN RS RC RT LK LN LS LL US UB BB) H → va_D A (wC cI α gw gc gs ge gf cR cL cB pB SD RK RN RS RC RT LK LN LS LL US UB BB) → va_S A s.heap H locs → lv_has ls 4 [(0, .ref (α 0)), (1, .int x1), (2, .int x2), (3, .int x3)] → W p l e rm_X5_proves s m args below meth c H locs 0 0 (MQ below (kQi D A (wC cI α gw gc gs ge gf cR cL cB pB SD RK RN RS RC res.2.1 LK LN LS LL res.2.2.1 res.2.2.2 BB) res.1) args s 0 0 A) (F0 m 31 ls [])), ∀ (x1 : Int32) (x2 : Int32) (x3 : Int32) (RT : Nat → Int32) (US : Nat → Int32) (UB : Nat → Int32) (H : Heap) (locs : List Loc) (ls : Array Slot), f_X5_proves_J60 gw gc gs ge gf cR cL SD RK RN RS RC LK LN LS LL k31 F x1 x2 x3 RT US UB = some res → va_P D vwCl (wC cI α gw gc gs ge gf cR cL cB pB SD RK RN RS RC RT LK LN LS LL US UB BB) H → va_D A (wC cI α gw gc gs ge gf cR cL cB pB SD RK RN RS RC RT LK LN LS LL US UB BB) → va_S A s.heap H locs → lv_has ls 4 [(0, .ref (α 0)), (1, .int x1), (2, .int x2), (3, .int x3)] → W p l e rm_X5_proves s m args below meth c H locs 0 0 (MQ below (kQi D A (wC cI α gw gc gs ge gf cR cL cB pB SD RK RN RS RC res.2.1 LK LN LS LL res.2.2.1 res.2.2.2 BB) res.1) args s 0 0 A) (F0 m 60 ls []) := by
    intro k31 hk31 x1 x2 x3 RT US UB H locs ls hf hP hD hS hl
    unfold f_X5_proves_J60 at hf
    refine lv_iinc (v := (x3 + (1 : Int32))) (lv' := [(3, .int (x3 + (1 : Int32))), (0, .ref (α 0)), (1, .int x1), (2, .int x2)]) hx hb dX5_proves_60 hl (k := 3) rfl rfl (by decide) rfl (fun ls hl => ?_)
    refine lv_goto (tgt := 31) hx hb dX5_proves_63 (by decide) ?_
    exact hk31 _ _ _ _ _ _ H locs ls hf hP hD hS (lv_sub hl [1, 2, 3, 0] rfl)
  have w31 : ∀ (n : Nat), ∀ (x1 : Int32) (x2 : Int32) (x3 : Int32) (RT : Nat → Int32) (US : Nat → Int32) (UB : Nat → Int32) (H : Heap) (locs : List Loc) (ls : Array Slot), f_X5_proves_L31 gw gc gs ge gf cR cL SD RK RN RS RC LK LN LS LL F n x1 x2 x3 RT US UB = some res → va_P D vwCl (wC cI α gw gc gs ge gf cR cL cB pB SD RK RN RS RC RT LK LN LS LL US UB BB) H → va_D A (wC cI α gw gc gs ge gf cR cL cB pB SD RK RN RS RC RT LK LN LS LL US UB BB) → va_S A s.heap H locs → lv_has ls 4 [(0, .ref (α 0)), (1, .int x1), (2, .int x2), (3, .int x3)] → W p l e rm_X5_proves s m args below meth c H locs 0 0 (MQ below (kQi D A (wC cI α gw gc gs ge gf cR cL cB pB SD RK RN RS RC res.2.1 LK LN LS LL res.2.2.1 res.2.2.2 BB) res.1) args s 0 0 A) (F0 m 31 ls []) := by
    intro n
    induction n with
    | zero => intro x1 x2 x3 RT US UB H locs ls hf; cases hf
    | succ n ih =>
      intro x1 x2 x3 RT US UB H locs ls hf hP hD hS hl
      rw [f_X5_proves_L31.eq_2] at hf
      refine lv_iload_n hx hb dX5_proves_31 rfl (lv_at hl 3 rfl) ?_
      refine lv_iload_n hx hb dX5_proves_32 rfl (lv_at hl 1 rfl) ?_
      refine lv_icmp_ge (tgt := 66) hx hb dX5_proves_33 (by decide) (fun c5 => ?_) (fun c5 => ?_)
      · have hf := it_t c5 hf
        refine lv_iload_n hx hb dX5_proves_66 rfl (lv_at hl 2 rfl) ?_
        have e9 := Option.some.inj hf
        subst e9
        exact kI_ret S rfl hP hD hS dX5_proves_67
      · have hf := it_f c5 hf
        refine lv_aload_n hx hb dX5_proves_36 rfl (lv_at hl 0 rfl) ?_
        refine lv_iload_n hx hb dX5_proves_37 rfl (lv_at hl 3 rfl) ?_
        obtain ⟨q6, hq6, hf⟩ := bnd hf
        refine kI_callV (As := [.int x3]) (rest := []) S hP hD hS (c_X5_followsFromLinesAhead l D cI α gw gc gs ge gf cR cL cB pB SD RK RN RS RC RT LK LN LS LL US UB BB F x3 q6 hq6) (cwV 1 hts gX5_proves_X5_followsFromLinesAhead rfl rfl rfl (by decide +kernel) ⟨Nat.le_of_ble_eq_true rfl, Nat.le_of_ble_eq_true rfl⟩) 0 rfl rfl rfl hl.1 rfl (Nat.le_of_ble_eq_true rfl) dX5_proves_38 ⟨Nat.zero_le _, Nat.zero_le _⟩ (fun H locs hP hD hS => ?_)
        have hP : va_P D vwCl (wC cI α gw gc gs ge gf cR cL cB pB SD RK RN RS RC q6.2.1 LK LN LS LL q6.2.2.1 q6.2.2.2 BB) H := hP
        have hD : va_D A (wC cI α gw gc gs ge gf cR cL cB pB SD RK RN RS RC q6.2.1 LK LN LS LL q6.2.2.1 q6.2.2.2 BB) := hD
        refine lv_if_ne (tgt := 46) hx hb dX5_proves_41 (by decide) (fun c7 => ?_) (fun c7 => ?_)
        · have hf := it_t c7 hf
          refine lv_aload_n hx hb dX5_proves_46 rfl (lv_at hl 0 rfl) ?_
          refine va_get (D := D) (ci := 6) (v := .ref (α 3)) (C := RX5) (T := TX5) (N := 6) hx hb hts hiX5 hown hK hP 0 rfl rfl 2 (by decide) fl30 (fun _ h9 => h9) rfl dX5_proves_47 ?_
          refine lv_iload_n hx hb dX5_proves_50 rfl (lv_at hl 3 rfl) ?_
          obtain ⟨q8, hq8, hf⟩ := bnd hf
          refine kI_callV (As := [.int x3]) (rest := []) S hP hD hS (c_X1_kindOf l D cI α gw gc gs ge gf cR cL cB pB SD RK RN RS RC q6.2.1 LK LN LS LL q6.2.2.1 q6.2.2.2 BB x3 q8 hq8) (cwV 1 hts gX5_proves_X1_kindOf rfl rfl rfl (by decide +kernel) ⟨Nat.le_of_ble_eq_true rfl, Nat.le_of_ble_eq_true rfl⟩) 3 rfl rfl rfl hl.1 rfl (Nat.le_of_ble_eq_true rfl) dX5_proves_51 ⟨Nat.zero_le _, Nat.zero_le _⟩ (fun H locs hP hD hS => ?_)
          have hP : va_P D vwCl (wC cI α gw gc gs ge gf cR cL cB pB SD RK RN RS RC q6.2.1 LK LN LS LL q6.2.2.1 q6.2.2.2 BB) H := hP
          have hD : va_D A (wC cI α gw gc gs ge gf cR cL cB pB SD RK RN RS RC q6.2.1 LK LN LS LL q6.2.2.1 q6.2.2.2 BB) := hD
          refine lv_iconst (v := (3 : Int32)) hx hb dX5_proves_54 (by decide) ?_
          refine lv_icmp_ne (tgt := 60) hx hb dX5_proves_55 (by decide) (fun c9 => ?_) (fun c9 => ?_)
          · have hf := it_t c9 hf
            exact w60 _ ih _ _ _ _ _ _ H locs ls hf hP hD hS (lv_sub hl [0, 1, 2, 3] rfl)
          · have hf := it_f (fun h9 => h9 c9) hf
            refine lv_iconst (v := (2 : Int32)) hx hb dX5_proves_58 (by decide) ?_
            refine lv_istore_n (lv' := [(2, .int (2 : Int32)), (0, .ref (α 0)), (1, .int x1), (3, .int x3)]) hx hb dX5_proves_59 rfl hl (by decide) rfl (fun ls hl => ?_)
            exact w60 _ ih _ _ _ _ _ _ H locs ls hf hP hD hS (lv_sub hl [1, 2, 0, 3] rfl)
        · have hf := it_f (fun h9 => h9 c7) hf
          refine lv_iconst (v := (0 : Int32)) hx hb dX5_proves_44 (by decide) ?_
          have e9 := Option.some.inj hf
          subst e9
          exact kI_ret S rfl hP hD hS dX5_proves_45
  suffices hgo : ∀ (H : Heap) (locs : List Loc), va_P D vwCl (wC cI α gw gc gs ge gf cR cL cB pB SD RK RN RS RC RT LK LN LS LL US UB BB) H → va_D A (wC cI α gw gc gs ge gf cR cL cB pB SD RK RN RS RC RT LK LN LS LL US UB BB) → va_S A s.heap H locs → W p l e rm_X5_proves s m args below meth c H locs 0 0 (MQ below (kQi D A (wC cI α gw gc gs ge gf cR cL cB pB SD RK RN RS RC res.2.1 LK LN LS LL res.2.2.1 res.2.2.2 BB) res.1) args s 0 0 A) (F0 m 0 ls []) from hgo _ _ hP hD hS
  clear hP hD hS
  intro H locs hP hD hS
  refine lv_aload_n hx hb dX5_proves_0 rfl (lv_at hl 0 rfl) ?_
  refine va_get (D := D) (ci := 6) (v := .ref (α 3)) (C := RX5) (T := TX5) (N := 6) hx hb hts hiX5 hown hK hP 0 rfl rfl 2 (by decide) fl30 (fun _ h9 => h9) rfl dX5_proves_1 ?_
  obtain ⟨q1, hq1, hf⟩ := bnd hf
  refine kI_callV (As := []) (rest := []) S hP hD hS (c_X1_count l D cI α gw gc gs ge gf cR cL cB pB SD RK RN RS RC RT LK LN LS LL US UB BB q1 hq1) (cwV 0 hts gX5_proves_X1_count rfl rfl rfl (by decide +kernel) ⟨Nat.le_of_ble_eq_true rfl, Nat.le_of_ble_eq_true rfl⟩) 3 rfl rfl rfl hl.1 rfl (Nat.le_of_ble_eq_true rfl) dX5_proves_4 ⟨Nat.zero_le _, Nat.zero_le _⟩ (fun H locs hP hD hS => ?_)
  have hP : va_P D vwCl (wC cI α gw gc gs ge gf cR cL cB pB SD RK RN RS RC RT LK LN LS LL US UB BB) H := hP
  have hD : va_D A (wC cI α gw gc gs ge gf cR cL cB pB SD RK RN RS RC RT LK LN LS LL US UB BB) := hD
  refine lv_istore_n (lv' := [(1, .int q1), (0, .ref (α 0))]) hx hb dX5_proves_7 rfl hl (by decide) rfl (fun ls hl => ?_)
  refine lv_iload_n hx hb dX5_proves_8 rfl (lv_at hl 0 rfl) ?_
  refine lv_if_eq (tgt := 25) hx hb dX5_proves_9 (by decide) (fun c2 => ?_) (fun c2 => ?_)
  · have hf := it_t c2 hf
    refine lv_iconst (v := (0 : Int32)) hx hb dX5_proves_25 (by decide) ?_
    have e9 := Option.some.inj hf
    subst e9
    exact kI_ret S rfl hP hD hS dX5_proves_26
  · have hf := it_f c2 hf
    refine lv_aload_n hx hb dX5_proves_12 rfl (lv_at hl 1 rfl) ?_
    refine va_get (D := D) (ci := 6) (v := .ref (α 3)) (C := RX5) (T := TX5) (N := 6) hx hb hts hiX5 hown hK hP 0 rfl rfl 2 (by decide) fl30 (fun _ h9 => h9) rfl dX5_proves_13 ?_
    refine lv_iload_n hx hb dX5_proves_16 rfl (lv_at hl 0 rfl) ?_
    refine lv_iconst (v := (1 : Int32)) hx hb dX5_proves_17 (by decide) ?_
    refine lv_isub hx hb dX5_proves_18 ?_
    obtain ⟨q3, hq3, hf⟩ := bnd hf
    refine kI_callV (As := [.int (q1 - (1 : Int32))]) (rest := []) S hP hD hS (c_X1_sizeOf l D cI α gw gc gs ge gf cR cL cB pB SD RK RN RS RC RT LK LN LS LL US UB BB (q1 - (1 : Int32)) q3 hq3) (cwV 1 hts gX5_proves_X1_sizeOf rfl rfl rfl (by decide +kernel) ⟨Nat.le_of_ble_eq_true rfl, Nat.le_of_ble_eq_true rfl⟩) 3 rfl rfl rfl hl.1 rfl (Nat.le_of_ble_eq_true rfl) dX5_proves_19 ⟨Nat.zero_le _, Nat.zero_le _⟩ (fun H locs hP hD hS => ?_)
    have hP : va_P D vwCl (wC cI α gw gc gs ge gf cR cL cB pB SD RK RN RS RC RT LK LN LS LL US UB BB) H := hP
    have hD : va_D A (wC cI α gw gc gs ge gf cR cL cB pB SD RK RN RS RC RT LK LN LS LL US UB BB) := hD
    refine lv_if_eq (tgt := 27) hx hb dX5_proves_22 (by decide) (fun c4 => ?_) (fun c4 => ?_)
    · have hf := it_t c4 hf
      refine lv_iconst (v := (1 : Int32)) hx hb dX5_proves_27 (by decide) ?_
      refine lv_istore_n (lv' := [(2, .int (1 : Int32)), (1, .int q1), (0, .ref (α 0))]) hx hb dX5_proves_28 rfl hl (by decide) rfl (fun ls hl => ?_)
      refine lv_iconst (v := (0 : Int32)) hx hb dX5_proves_29 (by decide) ?_
      refine lv_istore_n (lv' := [(3, .int (0 : Int32)), (2, .int (1 : Int32)), (1, .int q1), (0, .ref (α 0))]) hx hb dX5_proves_30 rfl hl (by decide) rfl (fun ls hl => ?_)
      exact w31 F _ _ _ _ _ _ H locs ls hf hP hD hS (lv_sub hl [3, 2, 1, 0] rfl)
    · have hf := it_f c4 hf
      refine lv_iconst (v := (0 : Int32)) hx hb dX5_proves_25 (by decide) ?_
      have e9 := Option.some.inj hf
      subst e9
      exact kI_ret S rfl hP hD hS dX5_proves_26
abbrev rm_X5_toldLiteral : Room := { frames := 1, cells := 0, slots := 0, locals := 22 }
set_option maxHeartbeats 4000000 in
set_option maxRecDepth 100000 in
theorem c_X5_toldLiteral (l : Launch) (D : va_G) (cI : ClassId) (α : Nat → Nat) (gw gc gs ge gf cR cL cB pB : Int32) (SD RK RN RS RC RT LK LN LS LL US UB BB : Nat → Int32) (x1 : Int32) (x2 : Int32) (res : Int32) (hf : f_X5_toldLiteral gs LS LL x1 x2 = some res) : kI l yX5_toldLiteral wsX5_toldLiteral rm_X5_toldLiteral D cI [.ref (α 0), .int x1, .int x2] (wC cI α gw gc gs ge gf cR cL cB pB SD RK RN RS RC RT LK LN LS LL US UB BB) (wC cI α gw gc gs ge gf cR cL cB pB SD RK RN RS RC RT LK LN LS LL US UB BB) res := by
  unfold f_X5_toldLiteral at hf
  refine kI_of (cc := cX5_toldLiteral) (maxL := 5) (ret := (some .int)) (by decide +kernel) rfl (Nat.le_of_ble_eq_true rfl) ?_
  intro p e s m args below meth c A ls S hP hD hS hl
  have S : kC p s m args meth c cX5_toldLiteral 5 wsX5_toldLiteral RX5 (some .int) D cI A := S
  have hx := S.1.1
  have hb := S.1.2.1
  have hml := S.1.2.2.1
  have hown : s.vm.findClass RX5 = some m.cls := S.1.2.2.2.1
  have hts := S.1.2.2.2.2
  have hK := S.2.2.2.1
  have hnk := S.2.2.2.2.1.2
  have hiX5 : ∀ w ∈ u_ws RX5 TX5 6, w ∈ wsX5_toldLiteral := by decide +kernel
  have fl12 := hts (.fieldLink RX5 12 "ProofChecker" "grid" "LProofChecker$Grid;") (by decide +kernel)
  have fl30 := hts (.fieldLink RX5 30 "ProofChecker" "lines" "LProofChecker$Lines;") (by decide +kernel)
  have hl : lv_has ls 5 [(0, .ref (α 0)), (1, .int x1), (2, .int x2)] := hl
  suffices hgo : ∀ (H : Heap) (locs : List Loc), va_P D vwCl (wC cI α gw gc gs ge gf cR cL cB pB SD RK RN RS RC RT LK LN LS LL US UB BB) H → va_D A (wC cI α gw gc gs ge gf cR cL cB pB SD RK RN RS RC RT LK LN LS LL US UB BB) → va_S A s.heap H locs → W p l e rm_X5_toldLiteral s m args below meth c H locs 0 0 (MQ below (kQi D A (wC cI α gw gc gs ge gf cR cL cB pB SD RK RN RS RC RT LK LN LS LL US UB BB) res) args s 0 0 A) (F0 m 0 ls []) from hgo _ _ hP hD hS
  clear hP hD hS
  intro H locs hP hD hS
  refine lv_iload_n hx hb dX5_toldLiteral_0 rfl (lv_at hl 2 rfl) ?_
  refine lv_iconst (v := (3 : Int32)) hx hb dX5_toldLiteral_1 (by decide) ?_
  refine lv_icmp_lt (tgt := 19) hx hb dX5_toldLiteral_2 (by decide) (fun c1 => ?_) (fun c1 => ?_)
  · have hf := it_t c1 hf
    refine lv_iconst (v := (-1 : Int32)) hx hb dX5_toldLiteral_19 (by decide) ?_
    have e9 := Option.some.inj hf
    subst e9
    exact kI_ret S rfl hP hD hS dX5_toldLiteral_20
  · have hf := it_f c1 hf
    refine lv_iload_n hx hb dX5_toldLiteral_5 rfl (lv_at hl 2 rfl) ?_
    refine lv_iconst (v := (3 : Int32)) hx hb dX5_toldLiteral_6 (by decide) ?_
    refine lv_isub hx hb dX5_toldLiteral_7 ?_
    refine lv_aload_n hx hb dX5_toldLiteral_8 rfl (lv_at hl 0 rfl) ?_
    refine va_get (D := D) (ci := 6) (v := .ref (α 3)) (C := RX5) (T := TX5) (N := 6) hx hb hts hiX5 hown hK hP 0 rfl rfl 2 (by decide) fl30 (fun _ h9 => h9) rfl dX5_toldLiteral_9 ?_
    refine lv_iload_n hx hb dX5_toldLiteral_12 rfl (lv_at hl 1 rfl) ?_
    obtain ⟨q2, hq2, hf⟩ := bnd hf
    refine kI_callV (As := [.int x1]) (rest := [.int (x2 - (3 : Int32))]) S hP hD hS (c_X1_sizeOf l D cI α gw gc gs ge gf cR cL cB pB SD RK RN RS RC RT LK LN LS LL US UB BB x1 q2 hq2) (cwV 1 hts gX5_toldLiteral_X1_sizeOf rfl rfl rfl (by decide +kernel) ⟨Nat.le_of_ble_eq_true rfl, Nat.le_of_ble_eq_true rfl⟩) 3 rfl rfl rfl hl.1 rfl (Nat.le_of_ble_eq_true rfl) dX5_toldLiteral_13 ⟨Nat.zero_le _, Nat.zero_le _⟩ (fun H locs hP hD hS => ?_)
    have hP : va_P D vwCl (wC cI α gw gc gs ge gf cR cL cB pB SD RK RN RS RC RT LK LN LS LL US UB BB) H := hP
    have hD : va_D A (wC cI α gw gc gs ge gf cR cL cB pB SD RK RN RS RC RT LK LN LS LL US UB BB) := hD
    refine lv_icmp_lt (tgt := 21) hx hb dX5_toldLiteral_16 (by decide) (fun c3 => ?_) (fun c3 => ?_)
    · have hf := it_t c3 hf
      refine lv_aload_n hx hb dX5_toldLiteral_21 rfl (lv_at hl 0 rfl) ?_
      refine va_get (D := D) (ci := 6) (v := .ref (α 3)) (C := RX5) (T := TX5) (N := 6) hx hb hts hiX5 hown hK hP 0 rfl rfl 2 (by decide) fl30 (fun _ h9 => h9) rfl dX5_toldLiteral_22 ?_
      refine lv_iload_n hx hb dX5_toldLiteral_25 rfl (lv_at hl 1 rfl) ?_
      refine lv_iload_n hx hb dX5_toldLiteral_26 rfl (lv_at hl 2 rfl) ?_
      refine lv_iconst (v := (3 : Int32)) hx hb dX5_toldLiteral_27 (by decide) ?_
      refine lv_isub hx hb dX5_toldLiteral_28 ?_
      obtain ⟨q4, hq4, hf⟩ := bnd hf
      refine kI_callV (As := [.int x1, .int (x2 - (3 : Int32))]) (rest := []) S hP hD hS (c_X1_literalAt l D cI α gw gc gs ge gf cR cL cB pB SD RK RN RS RC RT LK LN LS LL US UB BB x1 (x2 - (3 : Int32)) q4 hq4) (cwV 2 hts gX5_toldLiteral_X1_literalAt rfl rfl rfl (by decide +kernel) ⟨Nat.le_of_ble_eq_true rfl, Nat.le_of_ble_eq_true rfl⟩) 3 rfl rfl rfl hl.1 rfl (Nat.le_of_ble_eq_true rfl) dX5_toldLiteral_29 ⟨Nat.zero_le _, Nat.zero_le _⟩ (fun H locs hP hD hS => ?_)
      have hP : va_P D vwCl (wC cI α gw gc gs ge gf cR cL cB pB SD RK RN RS RC RT LK LN LS LL US UB BB) H := hP
      have hD : va_D A (wC cI α gw gc gs ge gf cR cL cB pB SD RK RN RS RC RT LK LN LS LL US UB BB) := hD
      refine lv_istore_n (lv' := [(3, .int q4), (0, .ref (α 0)), (1, .int x1), (2, .int x2)]) hx hb dX5_toldLiteral_32 rfl hl (by decide) rfl (fun ls hl => ?_)
      refine lv_aload_n hx hb dX5_toldLiteral_33 rfl (lv_at hl 1 rfl) ?_
      refine va_get (D := D) (ci := 6) (v := .ref (α 1)) (C := RX5) (T := TX5) (N := 6) hx hb hts hiX5 hown hK hP 0 rfl rfl 0 (by decide) fl12 (fun _ h9 => h9) rfl dX5_toldLiteral_34 ?_
      obtain ⟨q5, hq5, hf⟩ := bnd hf
      refine kI_callV (As := []) (rest := []) S hP hD hS (c_X0_symbols l D cI α gw gc gs ge gf cR cL cB pB SD RK RN RS RC RT LK LN LS LL US UB BB q5 hq5) (cwV 0 hts gX5_toldLiteral_X0_symbols rfl rfl rfl (by decide +kernel) ⟨Nat.le_of_ble_eq_true rfl, Nat.le_of_ble_eq_true rfl⟩) 1 rfl rfl rfl hl.1 rfl (Nat.le_of_ble_eq_true rfl) dX5_toldLiteral_37 ⟨Nat.zero_le _, Nat.zero_le _⟩ (fun H locs hP hD hS => ?_)
      have hP : va_P D vwCl (wC cI α gw gc gs ge gf cR cL cB pB SD RK RN RS RC RT LK LN LS LL US UB BB) H := hP
      have hD : va_D A (wC cI α gw gc gs ge gf cR cL cB pB SD RK RN RS RC RT LK LN LS LL US UB BB) := hD
      refine lv_iload_n hx hb dX5_toldLiteral_40 rfl (lv_at hl 0 rfl) ?_
      obtain ⟨q6, hq6, hf⟩ := bnd hf
      refine kI_callS (As := [.int q4]) (rest := [.int q5]) S hP hD hS (c_X1_cellOf l D cI q4 q6 hq6) (va_cwS 1 hts gX5_toldLiteral_X1_cellOf rfl rfl rfl (by decide +kernel) ⟨Nat.le_of_ble_eq_true rfl, Nat.le_of_ble_eq_true rfl⟩) rfl hl.1 rfl (Nat.le_of_ble_eq_true rfl) dX5_toldLiteral_41 ⟨Nat.zero_le _, Nat.zero_le _⟩ (fun H locs hP hD hS => ?_)
      refine lv_imul hx hb dX5_toldLiteral_44 ?_
      refine lv_iload_n hx hb dX5_toldLiteral_45 rfl (lv_at hl 0 rfl) ?_
      obtain ⟨q7, hq7, hf⟩ := bnd hf
      refine kI_callS (As := [.int q4]) (rest := [.int (q5 * q6)]) S hP hD hS (c_X1_symbolOf l D cI q4 q7 hq7) (va_cwS 1 hts gX5_toldLiteral_X1_symbolOf rfl rfl rfl (by decide +kernel) ⟨Nat.le_of_ble_eq_true rfl, Nat.le_of_ble_eq_true rfl⟩) rfl hl.1 rfl (Nat.le_of_ble_eq_true rfl) dX5_toldLiteral_46 ⟨Nat.zero_le _, Nat.zero_le _⟩ (fun H locs hP hD hS => ?_)
      refine lv_iadd hx hb dX5_toldLiteral_49 ?_
      refine lv_istore (lv' := [(4, .int ((q5 * q6) + q7)), (3, .int q4), (0, .ref (α 0)), (1, .int x1), (2, .int x2)]) hx hb dX5_toldLiteral_50 hl (by decide) rfl (fun ls hl => ?_)
      refine lv_iconst (v := (2 : Int32)) hx hb dX5_toldLiteral_52 (by decide) ?_
      refine lv_iload hx hb dX5_toldLiteral_53 (lv_at hl 0 rfl) ?_
      refine lv_imul hx hb dX5_toldLiteral_55 ?_
      refine lv_iload_n hx hb dX5_toldLiteral_56 rfl (lv_at hl 1 rfl) ?_
      obtain ⟨q8, hq8, hf⟩ := bnd hf
      refine kI_callS (As := [.int q4]) (rest := [.int (((2 : Int32) * ((q5 * q6) + q7)))]) S hP hD hS (c_X1_saysIs l D cI q4 q8 hq8) (va_cwS 1 hts gX5_toldLiteral_X1_saysIs rfl rfl rfl (by decide +kernel) ⟨Nat.le_of_ble_eq_true rfl, Nat.le_of_ble_eq_true rfl⟩) rfl hl.1 rfl (Nat.le_of_ble_eq_true rfl) dX5_toldLiteral_57 ⟨Nat.zero_le _, Nat.zero_le _⟩ (fun H locs hP hD hS => ?_)
      refine lv_if_eq (tgt := 67) hx hb dX5_toldLiteral_60 (by decide) (fun c9 => ?_) (fun c9 => ?_)
      · have hf := it_t c9 hf
        refine lv_iconst (v := (0 : Int32)) hx hb dX5_toldLiteral_67 (by decide) ?_
        refine lv_iadd hx hb dX5_toldLiteral_68 ?_
        have e9 := Option.some.inj hf
        subst e9
        exact kI_ret S rfl hP hD hS dX5_toldLiteral_69
      · have hf := it_f c9 hf
        refine lv_iconst (v := (1 : Int32)) hx hb dX5_toldLiteral_63 (by decide) ?_
        refine lv_goto (tgt := 68) hx hb dX5_toldLiteral_64 (by decide) ?_
        refine lv_iadd hx hb dX5_toldLiteral_68 ?_
        have e9 := Option.some.inj hf
        subst e9
        exact kI_ret S rfl hP hD hS dX5_toldLiteral_69
    · have hf := it_f c3 hf
      refine lv_iconst (v := (-1 : Int32)) hx hb dX5_toldLiteral_19 (by decide) ?_
      have e9 := Option.some.inj hf
      subst e9
      exact kI_ret S rfl hP hD hS dX5_toldLiteral_20
