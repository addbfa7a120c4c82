abbrev rm_X6_isFilled : Room := { frames := 2, cells := 0, slots := 0, locals := 45 }
set_option maxHeartbeats 4000000 in
set_option maxRecDepth 100000 in
theorem c_X6_isFilled (l : Launch) (D : va_G) (cI : ClassId) (β : Nat → Nat) (mT mW mH mS mR mL mC mZ mA mB : Int32) (KK KN KS KC AN JK JN JS JL MY KP FI TX : Nat → Int32) (F : Nat) (x1 : Int32) (x2 : Int32) (res : Int32) (hf : f_X6_isFilled mS KS KC FI F x1 x2 = some res) : kI l yX6_isFilled wsX6_isFilled rm_X6_isFilled D cI [.ref (β 0), .int x1, .int x2] (wM cI β mT mW mH mS mR mL mC mZ mA mB KK KN KS KC AN JK JN JS JL MY KP FI TX) (wM cI β mT mW mH mS mR mL mC mZ mA mB KK KN KS KC AN JK JN JS JL MY KP FI TX) res := by
  unfold f_X6_isFilled at hf
  refine kI_of (cc := cX6_isFilled) (maxL := 4) (ret := (some .boolean)) (by decide +kernel) rfl (Nat.le_of_ble_eq_true rfl) ?_
  intro p e s m args below meth c A ls S hP hD hS hl
  have S : kC p s m args meth c cX6_isFilled 4 wsX6_isFilled RX6 (some .boolean) D cI A := S
  have hx := S.1.1
  have hb := S.1.2.1
  have hml := S.1.2.2.1
  have hown : s.vm.findClass RX6 = some m.cls := S.1.2.2.2.1
  have hts := S.1.2.2.2.2
  have hK := S.2.2.2.1
  have hnk := S.2.2.2.2.1.2
  have hiX6 : ∀ w ∈ u_ws RX6 TX6 23, w ∈ wsX6_isFilled := by decide +kernel
  have fl43 := hts (.fieldLink RX6 43 "ProofCheckerModel" "fill" "[I") (by decide +kernel)
  have hl : lv_has ls 4 [(0, .ref (β 0)), (1, .int x1), (2, .int x2)] := hl
  have w34 : ∀ (t0 : Int32) (x2 : Int32) (H : Heap) (locs : List Loc) (ls : Array Slot), f_X6_isFilled_J34 mS KS KC FI F t0 x2 = some res → va_P D vwCl (wM cI β mT mW mH mS mR mL mC mZ mA mB KK KN KS KC AN JK JN JS JL MY KP FI TX) H → va_D A (wM cI β mT mW mH mS mR mL mC mZ mA mB KK KN KS KC AN JK JN JS JL MY KP FI TX) → va_S A s.heap H locs → lv_has ls 4 [(2, .int x2)] → W p l e rm_X6_isFilled s m args below meth c H locs 0 0 (MQ below (kQi D A (wM cI β mT mW mH mS mR mL mC mZ mA mB KK KN KS KC AN JK JN JS JL MY KP FI TX) res) args s 0 0 A) (F0 m 34 ls [.int t0]) := by
    intro t0 x2 H locs ls hf hP hD hS hl
    unfold f_X6_isFilled_J34 at hf
    refine lv_iload_n hx hb dX6_isFilled_34 rfl (lv_at hl 0 rfl) ?_
    refine lv_iconst (v := (2 : Int32)) hx hb dX6_isFilled_35 (by decide) ?_
    obtain ⟨g7, hf⟩ := gnz_some hf
    refine lv_irem hx hb dX6_isFilled_36 g7 ?_
    refine lv_iconst (v := (1 : Int32)) hx hb dX6_isFilled_37 (by decide) ?_
    refine lv_icmp_ne (tgt := 45) hx hb dX6_isFilled_38 (by decide) (fun c8 => ?_) (fun c8 => ?_)
    · have hf := it_t c8 hf
      refine lv_iconst (v := (0 : Int32)) hx hb dX6_isFilled_45 (by decide) ?_
      refine lv_icmp_ne (tgt := 53) hx hb dX6_isFilled_46 (by decide) (fun c9 => ?_) (fun c9 => ?_)
      · have hf := it_t c9 hf
        refine lv_iconst (v := (0 : Int32)) hx hb dX6_isFilled_53 (by decide) ?_
        have e9 := Option.some.inj hf
        subst e9
        exact kI_ret S narrow_b0 hP hD hS dX6_isFilled_54
      · have hf := it_f (fun h9 => h9 c9) hf
        refine lv_iconst (v := (1 : Int32)) hx hb dX6_isFilled_49 (by decide) ?_
        refine lv_goto (tgt := 54) hx hb dX6_isFilled_50 (by decide) ?_
        have e9 := Option.some.inj hf
        subst e9
        exact kI_ret S narrow_b1 hP hD hS dX6_isFilled_54
    · have hf := it_f (fun h9 => h9 c8) hf
      refine lv_iconst (v := (1 : Int32)) hx hb dX6_isFilled_41 (by decide) ?_
      refine lv_goto (tgt := 46) hx hb dX6_isFilled_42 (by decide) ?_
      refine lv_icmp_ne (tgt := 53) hx hb dX6_isFilled_46 (by decide) (fun c10 => ?_) (fun c10 => ?_)
      · have hf := it_t c10 hf
        refine lv_iconst (v := (0 : Int32)) hx hb dX6_isFilled_53 (by decide) ?_
        have e9 := Option.some.inj hf
        subst e9
        exact kI_ret S narrow_b0 hP hD hS dX6_isFilled_54
      · have hf := it_f (fun h9 => h9 c10) hf
        refine lv_iconst (v := (1 : Int32)) hx hb dX6_isFilled_49 (by decide) ?_
        refine lv_goto (tgt := 54) hx hb dX6_isFilled_50 (by decide) ?_
        have e9 := Option.some.inj hf
        subst e9
        exact kI_ret S narrow_b1 hP hD hS dX6_isFilled_54
  suffices hgo : ∀ (H : Heap) (locs : List Loc), va_P D vwCl (wM cI β mT mW mH mS mR mL mC mZ mA mB KK KN KS KC AN JK JN JS JL MY KP FI TX) H → va_D A (wM cI β mT mW mH mS mR mL mC mZ mA mB KK KN KS KC AN JK JN JS JL MY KP FI TX) → va_S A s.heap H locs → W p l e rm_X6_isFilled s m args below meth c H locs 0 0 (MQ below (kQi D A (wM cI β mT mW mH mS mR mL mC mZ mA mB KK KN KS KC AN JK JN JS JL MY KP FI TX) res) args s 0 0 A) (F0 m 0 ls []) from hgo _ _ hP hD hS
  clear hP hD hS
  intro H locs hP hD hS
  refine lv_aload_n hx hb dX6_isFilled_0 rfl (lv_at hl 0 rfl) ?_
  refine lv_iload_n hx hb dX6_isFilled_1 rfl (lv_at hl 1 rfl) ?_
  refine lv_aload_n hx hb dX6_isFilled_2 rfl (lv_at hl 0 rfl) ?_
  refine lv_iload_n hx hb dX6_isFilled_3 rfl (lv_at hl 2 rfl) ?_
  obtain ⟨q1, hq1, hf⟩ := bnd hf
  refine kI_callV (As := [.int x2]) (rest := [.int x1, .ref (β 0)]) S hP hD hS (c_X6_cellOf l D cI β mT mW mH mS mR mL mC mZ mA mB KK KN KS KC AN JK JN JS JL MY KP FI TX x2 q1 hq1) (cwV 1 hts gX6_isFilled_X6_cellOf rfl rfl rfl (by decide +kernel) ⟨Nat.le_of_ble_eq_true rfl, Nat.le_of_ble_eq_true rfl⟩) 0 rfl rfl rfl hl.1 rfl (Nat.le_of_ble_eq_true rfl) dX6_isFilled_4 ⟨Nat.zero_le _, Nat.zero_le _⟩ (fun H locs hP hD hS => ?_)
  have hP : va_P D vwCl (wM cI β mT mW mH mS mR mL mC mZ mA mB KK KN KS KC AN JK JN JS JL MY KP FI TX) H := hP
  have hD : va_D A (wM cI β mT mW mH mS mR mL mC mZ mA mB KK KN KS KC AN JK JN JS JL MY KP FI TX) := hD
  obtain ⟨q2, hq2, hf⟩ := bnd hf
  refine kI_callV (As := [.int x1, .int q1]) (rest := []) S hP hD hS (c_X6_seat l D cI β mT mW mH mS mR mL mC mZ mA mB KK KN KS KC AN JK JN JS JL MY KP FI TX F x1 q1 q2 hq2) (cwV 2 hts gX6_isFilled_X6_seat rfl rfl rfl (by decide +kernel) ⟨Nat.le_of_ble_eq_true rfl, Nat.le_of_ble_eq_true rfl⟩) 0 rfl rfl rfl hl.1 rfl (Nat.le_of_ble_eq_true rfl) dX6_isFilled_7 ⟨Nat.zero_le _, Nat.zero_le _⟩ (fun H locs hP hD hS => ?_)
  have hP : va_P D vwCl (wM cI β mT mW mH mS mR mL mC mZ mA mB KK KN KS KC AN JK JN JS JL MY KP FI TX) H := hP
  have hD : va_D A (wM cI β mT mW mH mS mR mL mC mZ mA mB KK KN KS KC AN JK JN JS JL MY KP FI TX) := hD
  refine lv_istore_n (lv' := [(3, .int q2), (0, .ref (β 0)), (1, .int x1), (2, .int x2)]) hx hb dX6_isFilled_10 rfl hl (by decide) rfl (fun ls hl => ?_)
  refine lv_iload_n hx hb dX6_isFilled_11 rfl (lv_at hl 0 rfl) ?_
  refine lv_if_lt (tgt := 53) hx hb dX6_isFilled_12 (by decide) (fun c3 => ?_) (fun c3 => ?_)
  · have hf := it_t c3 hf
    refine lv_iconst (v := (0 : Int32)) hx hb dX6_isFilled_53 (by decide) ?_
    have e9 := Option.some.inj hf
    subst e9
    exact kI_ret S narrow_b0 hP hD hS dX6_isFilled_54
  · have hf := it_f c3 hf
    refine lv_aload_n hx hb dX6_isFilled_15 rfl (lv_at hl 1 rfl) ?_
    refine va_get (D := D) (ci := 7) (v := .ref (β 12)) (C := RX6) (T := TX6) (N := 23) hx hb hts hiX6 hown hK hP 0 rfl rfl 18 (by decide) fl43 (fun _ h9 => h9) rfl dX6_isFilled_16 ?_
    refine lv_iload_n hx hb dX6_isFilled_19 rfl (lv_at hl 0 rfl) ?_
    obtain ⟨g4, hf⟩ := gin_some hf
    refine va_iald hx hb hK hP 12 0 rfl rfl g4 dX6_isFilled_20 ?_
    refine lv_aload_n hx hb dX6_isFilled_21 rfl (lv_at hl 1 rfl) ?_
    refine lv_iload_n hx hb dX6_isFilled_22 rfl (lv_at hl 3 rfl) ?_
    obtain ⟨q5, hq5, hf⟩ := bnd hf
    refine kI_callV (As := [.int x2]) (rest := [.int (FI q2.toNatClampNeg)]) S hP hD hS (c_X6_symbolOf l D cI β mT mW mH mS mR mL mC mZ mA mB KK KN KS KC AN JK JN JS JL MY KP FI TX x2 q5 hq5) (cwV 1 hts gX6_isFilled_X6_symbolOf rfl rfl rfl (by decide +kernel) ⟨Nat.le_of_ble_eq_true rfl, Nat.le_of_ble_eq_true rfl⟩) 0 rfl rfl rfl hl.1 rfl (Nat.le_of_ble_eq_true rfl) dX6_isFilled_23 ⟨Nat.zero_le _, Nat.zero_le _⟩ (fun H locs hP hD hS => ?_)
    have hP : va_P D vwCl (wM cI β mT mW mH mS mR mL mC mZ mA mB KK KN KS KC AN JK JN JS JL MY KP FI TX) H := hP
    have hD : va_D A (wM cI β mT mW mH mS mR mL mC mZ mA mB KK KN KS KC AN JK JN JS JL MY KP FI TX) := hD
    refine lv_icmp_ne (tgt := 33) hx hb dX6_isFilled_26 (by decide) (fun c6 => ?_) (fun c6 => ?_)
    · have hf := it_t c6 hf
      refine lv_iconst (v := (0 : Int32)) hx hb dX6_isFilled_33 (by decide) ?_
      exact w34 _ _ H locs ls hf hP hD hS (lv_sub hl [3] rfl)
    · have hf := it_f (fun h9 => h9 c6) hf
      refine lv_iconst (v := (1 : Int32)) hx hb dX6_isFilled_29 (by decide) ?_
      refine lv_goto (tgt := 34) hx hb dX6_isFilled_30 (by decide) ?_
      exact w34 _ _ H locs ls hf hP hD hS (lv_sub hl [3] rfl)
abbrev rm_X6_byRule : Room := { frames := 3, cells := 0, slots := 0, locals := 79 }
set_option maxHeartbeats 4000000 in
set_option maxRecDepth 100000 in
theorem c_X6_byRule (l : Launch) (D : va_G) (cI : ClassId) (β : Nat → Nat) (mT mW mH mS mR mL mC mZ mA mB : Int32) (KK KN KS KC AN JK JN JS JL MY KP FI TX : Nat → Int32) (F : Nat) (x1 : Int32) (res : Int32 × (Nat → Int32)) (hf : f_X6_byRule mW mS mR KK KN KS KC JN JS JL F FI x1 = some res) : kI l yX6_byRule wsX6_byRule rm_X6_byRule D cI [.ref (β 0), .int x1] (wM cI β mT mW mH mS mR mL mC mZ mA mB KK KN KS KC AN JK JN JS JL MY KP FI TX) (wM cI β mT mW mH mS mR mL mC mZ mA mB KK KN KS KC AN JK JN JS JL MY KP res.2 TX) res.1 := by
  unfold f_X6_byRule at hf
  refine kI_of (cc := cX6_byRule) (maxL := 8) (ret := (some .boolean)) (by decide +kernel) rfl (Nat.le_of_ble_eq_true rfl) ?_
  intro p e s m args below meth c A ls S hP hD hS hl
  have S : kC p s m args meth c cX6_byRule 8 wsX6_byRule RX6 (some .boolean) D cI A := S
  have hx := S.1.1
  have hb := S.1.2.1
  have hml := S.1.2.2.1
  have hown : s.vm.findClass RX6 = some m.cls := S.1.2.2.2.1
  have hts := S.1.2.2.2.2
  have hK := S.2.2.2.1
  have hnk := S.2.2.2.2.1.2
  have hiX6 : ∀ w ∈ u_ws RX6 TX6 23, w ∈ wsX6_byRule := by decide +kernel
  have fl16 := hts (.fieldLink RX6 16 "ProofCheckerModel" "ruleSize" "[I") (by decide +kernel)
  have fl28 := hts (.fieldLink RX6 28 "ProofCheckerModel" "lineNumber" "[I") (by decide +kernel)
  have fl31 := hts (.fieldLink RX6 31 "ProofCheckerModel" "lineSize" "[I") (by decide +kernel)
  have fl34 := hts (.fieldLink RX6 34 "ProofCheckerModel" "literal" "[I") (by decide +kernel)
  have fl43 := hts (.fieldLink RX6 43 "ProofCheckerModel" "fill" "[I") (by decide +kernel)
  have fl60 := hts (.fieldLink RX6 60 "ProofCheckerModel" "symbols" "I") (by decide +kernel)
  have fl70 := hts (.fieldLink RX6 70 "ProofCheckerModel" "rules" "I") (by decide +kernel)
  have hl : lv_has ls 8 [(0, .ref (β 0)), (1, .int x1)] := hl
  have w185 : ∀ (k73 : Int32 → Int32 → Int32 → Int32 → (Nat → Int32) → Option (Int32 × (Nat → Int32))) (hk73 : ∀ (x1 : Int32) (x2 : Int32) (x3 : Int32) (x4 : Int32) (FI : Nat → Int32) (H : Heap) (locs : List Loc) (ls : Array Slot), k73 x1 x2 x3 x4 FI = some res → va_P D vwCl (wM cI β mT mW mH mS mR mL mC mZ mA mB KK KN KS KC AN JK JN JS JL MY KP FI TX) H → va_D A (wM cI β mT mW mH mS mR mL mC mZ mA mB KK KN KS KC AN JK JN JS JL MY KP FI TX) → va_S A s.heap H locs → lv_has ls 8 [(0, .ref (β 0)), (1, .int x1), (2, .int x2), (3, .int x3), (4, .int x4)] → W p l e rm_X6_byRule s m args below meth c H locs 0 0 (MQ below (kQi D A (wM cI β mT mW mH mS mR mL mC mZ mA mB KK KN KS KC AN JK JN JS JL MY KP res.2 TX) res.1) args s 0 0 A) (F0 m 73 ls [])), ∀ (k144 : Int32 → Int32 → Int32 → Int32 → Int32 → Int32 → (Nat → Int32) → Option (Int32 × (Nat → Int32))) (hk144 : ∀ (x1 : Int32) (x2 : Int32) (x3 : Int32) (x4 : Int32) (x6 : Int32) (x7 : Int32) (FI : Nat → Int32) (H : Heap) (locs : List Loc) (ls : Array Slot), k144 x1 x2 x3 x4 x6 x7 FI = some res → va_P D vwCl (wM cI β mT mW mH mS mR mL mC mZ mA mB KK KN KS KC AN JK JN JS JL MY KP FI TX) H → va_D A (wM cI β mT mW mH mS mR mL mC mZ mA mB KK KN KS KC AN JK JN JS JL MY KP FI TX) → va_S A s.heap H locs → lv_has ls 8 [(0, .ref (β 0)), (1, .int x1), (2, .int x2), (3, .int x3), (4, .int x4), (6, .int x6), (7, .int x7)] → W p l e rm_X6_byRule s m args below meth c H locs 0 0 (MQ below (kQi D A (wM cI β mT mW mH mS mR mL mC mZ mA mB KK KN KS KC AN JK JN JS JL MY KP res.2 TX) res.1) args s 0 0 A) (F0 m 144 ls [])), ∀ (t0 : Int32) (x1 : Int32) (x2 : Int32) (x3 : Int32) (x4 : Int32) (x7 : Int32) (FI : Nat → Int32) (H : Heap) (locs : List Loc) (ls : Array Slot), f_X6_byRule_J185 mW mS mR KK KN KS KC JN JS JL k73 k144 F t0 x1 x2 x3 x4 x7 FI = some res → va_P D vwCl (wM cI β mT mW mH mS mR mL mC mZ mA mB KK KN KS KC AN JK JN JS JL MY KP FI TX) H → va_D A (wM cI β mT mW mH mS mR mL mC mZ mA mB KK KN KS KC AN JK JN JS JL MY KP FI TX) → va_S A s.heap H locs → lv_has ls 8 [(0, .ref (β 0)), (1, .int x1), (2, .int x2), (3, .int x3), (4, .int x4), (7, .int x7)] → W p l e rm_X6_byRule s m args below meth c H locs 0 0 (MQ below (kQi D A (wM cI β mT mW mH mS mR mL mC mZ mA mB KK KN KS KC AN JK JN JS JL MY KP res.2 TX) res.1) args s 0 0 A) (F0 m 185 ls [.int t0]) := by
    intro k73 hk73 k144 hk144 t0 x1 x2 x3 x4 x7 FI H locs ls hf hP hD hS hl
    unfold f_X6_byRule_J185 at hf
    refine lv_istore (lv' := [(6, .int t0), (0, .ref (β 0)), (1, .int x1), (2, .int x2), (3, .int x3), (4, .int x4), (7, .int x7)]) hx hb dX6_byRule_185 hl (by decide) rfl (fun ls hl => ?_)
    refine lv_iinc (v := (x7 + (1 : Int32))) (lv' := [(7, .int (x7 + (1 : Int32))), (6, .int t0), (0, .ref (β 0)), (1, .int x1), (2, .int x2), (3, .int x3), (4, .int x4)]) hx hb dX6_byRule_187 hl (k := 6) rfl rfl (by decide) rfl (fun ls hl => ?_)
    refine lv_goto (tgt := 144) hx hb dX6_byRule_190 (by decide) ?_
    exact hk144 _ _ _ _ _ _ _ H locs ls hf hP hD hS (lv_sub hl [2, 3, 4, 5, 6, 1, 0] rfl)
  have w180 : ∀ (k73 : Int32 → Int32 → Int32 → Int32 → (Nat → Int32) → Option (Int32 × (Nat → Int32))) (hk73 : ∀ (x1 : Int32) (x2 : Int32) (x3 : Int32) (x4 : Int32) (FI : Nat → Int32) (H : Heap) (locs : List Loc) (ls : Array Slot), k73 x1 x2 x3 x4 FI = some res → va_P D vwCl (wM cI β mT mW mH mS mR mL mC mZ mA mB KK KN KS KC AN JK JN JS JL MY KP FI TX) H → va_D A (wM cI β mT mW mH mS mR mL mC mZ mA mB KK KN KS KC AN JK JN JS JL MY KP FI TX) → va_S A s.heap H locs → lv_has ls 8 [(0, .ref (β 0)), (1, .int x1), (2, .int x2), (3, .int x3), (4, .int x4)] → W p l e rm_X6_byRule s m args below meth c H locs 0 0 (MQ below (kQi D A (wM cI β mT mW mH mS mR mL mC mZ mA mB KK KN KS KC AN JK JN JS JL MY KP res.2 TX) res.1) args s 0 0 A) (F0 m 73 ls [])), ∀ (k144 : Int32 → Int32 → Int32 → Int32 → Int32 → Int32 → (Nat → Int32) → Option (Int32 × (Nat → Int32))) (hk144 : ∀ (x1 : Int32) (x2 : Int32) (x3 : Int32) (x4 : Int32) (x6 : Int32) (x7 : Int32) (FI : Nat → Int32) (H : Heap) (locs : List Loc) (ls : Array Slot), k144 x1 x2 x3 x4 x6 x7 FI = some res → va_P D vwCl (wM cI β mT mW mH mS mR mL mC mZ mA mB KK KN KS KC AN JK JN JS JL MY KP FI TX) H → va_D A (wM cI β mT mW mH mS mR mL mC mZ mA mB KK KN KS KC AN JK JN JS JL MY KP FI TX) → va_S A s.heap H locs → lv_has ls 8 [(0, .ref (β 0)), (1, .int x1), (2, .int x2), (3, .int x3), (4, .int x4), (6, .int x6), (7, .int x7)] → W p l e rm_X6_byRule s m args below meth c H locs 0 0 (MQ below (kQi D A (wM cI β mT mW mH mS mR mL mC mZ mA mB KK KN KS KC AN JK JN JS JL MY KP res.2 TX) res.1) args s 0 0 A) (F0 m 144 ls [])), ∀ (x1 : Int32) (x2 : Int32) (x3 : Int32) (x4 : Int32) (x7 : Int32) (FI : Nat → Int32) (H : Heap) (locs : List Loc) (ls : Array Slot), f_X6_byRule_J180 mW mS mR KK KN KS KC JN JS JL k73 k144 F x1 x2 x3 x4 x7 FI = some res → va_P D vwCl (wM cI β mT mW mH mS mR mL mC mZ mA mB KK KN KS KC AN JK JN JS JL MY KP FI TX) H → va_D A (wM cI β mT mW mH mS mR mL mC mZ mA mB KK KN KS KC AN JK JN JS JL MY KP FI TX) → va_S A s.heap H locs → lv_has ls 8 [(0, .ref (β 0)), (1, .int x1), (2, .int x2), (3, .int x3), (4, .int x4), (7, .int x7)] → W p l e rm_X6_byRule s m args below meth c H locs 0 0 (MQ below (kQi D A (wM cI β mT mW mH mS mR mL mC mZ mA mB KK KN KS KC AN JK JN JS JL MY KP res.2 TX) res.1) args s 0 0 A) (F0 m 180 ls []) := by
    intro k73 hk73 k144 hk144 x1 x2 x3 x4 x7 FI H locs ls hf hP hD hS hl
    unfold f_X6_byRule_J180 at hf
    refine lv_iconst (v := (1 : Int32)) hx hb dX6_byRule_180 (by decide) ?_
    refine lv_goto (tgt := 185) hx hb dX6_byRule_181 (by decide) ?_
    exact w185 k73 hk73 k144 hk144 _ _ _ _ _ _ _ H locs ls hf hP hD hS (lv_sub hl [0, 1, 2, 3, 4, 5] rfl)
  have w144 : ∀ (k73 : Int32 → Int32 → Int32 → Int32 → (Nat → Int32) → Option (Int32 × (Nat → Int32))) (hk73 : ∀ (x1 : Int32) (x2 : Int32) (x3 : Int32) (x4 : Int32) (FI : Nat → Int32) (H : Heap) (locs : List Loc) (ls : Array Slot), k73 x1 x2 x3 x4 FI = some res → va_P D vwCl (wM cI β mT mW mH mS mR mL mC mZ mA mB KK KN KS KC AN JK JN JS JL MY KP FI TX) H → va_D A (wM cI β mT mW mH mS mR mL mC mZ mA mB KK KN KS KC AN JK JN JS JL MY KP FI TX) → va_S A s.heap H locs → lv_has ls 8 [(0, .ref (β 0)), (1, .int x1), (2, .int x2), (3, .int x3), (4, .int x4)] → W p l e rm_X6_byRule s m args below meth c H locs 0 0 (MQ below (kQi D A (wM cI β mT mW mH mS mR mL mC mZ mA mB KK KN KS KC AN JK JN JS JL MY KP res.2 TX) res.1) args s 0 0 A) (F0 m 73 ls [])), ∀ (n : Nat), ∀ (x1 : Int32) (x2 : Int32) (x3 : Int32) (x4 : Int32) (x6 : Int32) (x7 : Int32) (FI : Nat → Int32) (H : Heap) (locs : List Loc) (ls : Array Slot), f_X6_byRule_L144 mW mS mR KK KN KS KC JN JS JL k73 F n x1 x2 x3 x4 x6 x7 FI = some res → va_P D vwCl (wM cI β mT mW mH mS mR mL mC mZ mA mB KK KN KS KC AN JK JN JS JL MY KP FI TX) H → va_D A (wM cI β mT mW mH mS mR mL mC mZ mA mB KK KN KS KC AN JK JN JS JL MY KP FI TX) → va_S A s.heap H locs → lv_has ls 8 [(0, .ref (β 0)), (1, .int x1), (2, .int x2), (3, .int x3), (4, .int x4), (6, .int x6), (7, .int x7)] → W p l e rm_X6_byRule s m args below meth c H locs 0 0 (MQ below (kQi D A (wM cI β mT mW mH mS mR mL mC mZ mA mB KK KN KS KC AN JK JN JS JL MY KP res.2 TX) res.1) args s 0 0 A) (F0 m 144 ls []) := by
    intro k73 hk73 n
    induction n with
    | zero => intro x1 x2 x3 x4 x6 x7 FI H locs ls hf; cases hf
    | succ n ih =>
      intro x1 x2 x3 x4 x6 x7 FI H locs ls hf hP hD hS hl
      rw [f_X6_byRule_L144.eq_2] at hf
      refine lv_iload hx hb dX6_byRule_144 (lv_at hl 6 rfl) ?_
      refine lv_aload_n hx hb dX6_byRule_146 rfl (lv_at hl 0 rfl) ?_
      refine va_get (D := D) (ci := 7) (v := .ref (β 8)) (C := RX6) (T := TX6) (N := 23) hx hb hts hiX6 hown hK hP 0 rfl rfl 13 (by decide) fl31 (fun _ h9 => h9) rfl dX6_byRule_147 ?_
      refine lv_iload_n hx hb dX6_byRule_150 rfl (lv_at hl 1 rfl) ?_
      obtain ⟨g16, hf⟩ := gin_some hf
      refine va_iald hx hb hK hP 8 0 rfl rfl g16 dX6_byRule_151 ?_
      refine lv_icmp_ge (tgt := 193) hx hb dX6_byRule_152 (by decide) (fun c17 => ?_) (fun c17 => ?_)
      · have hf := it_t c17 hf
        refine lv_iload hx hb dX6_byRule_193 (lv_at hl 5 rfl) ?_
        refine lv_if_ne (tgt := 200) hx hb dX6_byRule_195 (by decide) (fun c18 => ?_) (fun c18 => ?_)
        · have hf := it_t c18 hf
          refine lv_iinc (v := (x4 + (1 : Int32))) (lv' := [(4, .int (x4 + (1 : Int32))), (0, .ref (β 0)), (1, .int x1), (2, .int x2), (3, .int x3), (6, .int x6), (7, .int x7)]) hx hb dX6_byRule_200 hl (k := 4) rfl rfl (by decide) rfl (fun ls hl => ?_)
          refine lv_goto (tgt := 73) hx hb dX6_byRule_203 (by decide) ?_
          exact hk73 _ _ _ _ _ H locs ls hf hP hD hS (lv_sub hl [1, 2, 3, 4, 0] rfl)
        · have hf := it_f (fun h9 => h9 c18) hf
          refine lv_iconst (v := (0 : Int32)) hx hb dX6_byRule_198 (by decide) ?_
          have e9 := Option.some.inj hf
          subst e9
          exact kI_ret S narrow_b0 hP hD hS dX6_byRule_199
      · have hf := it_f c17 hf
        refine lv_iload hx hb dX6_byRule_155 (lv_at hl 5 rfl) ?_
        refine lv_if_ne (tgt := 180) hx hb dX6_byRule_157 (by decide) (fun c19 => ?_) (fun c19 => ?_)
        · have hf := it_t c19 hf
          exact w180 k73 hk73 _ ih _ _ _ _ _ _ H locs ls hf hP hD hS (lv_sub hl [0, 1, 2, 3, 4, 6] rfl)
        · have hf := it_f (fun h9 => h9 c19) hf
          refine lv_aload_n hx hb dX6_byRule_160 rfl (lv_at hl 0 rfl) ?_
          refine lv_iload_n hx hb dX6_byRule_161 rfl (lv_at hl 2 rfl) ?_
          refine lv_aload_n hx hb dX6_byRule_162 rfl (lv_at hl 0 rfl) ?_
          refine va_get (D := D) (ci := 7) (v := .ref (β 9)) (C := RX6) (T := TX6) (N := 23) hx hb hts hiX6 hown hK hP 0 rfl rfl 14 (by decide) fl34 (fun _ h9 => h9) rfl dX6_byRule_163 ?_
          refine lv_bipush (v := (16 : Int32)) hx hb dX6_byRule_166 (by decide) ?_
          refine lv_iload_n hx hb dX6_byRule_168 rfl (lv_at hl 1 rfl) ?_
          refine lv_imul hx hb dX6_byRule_169 ?_
          refine lv_iload hx hb dX6_byRule_170 (lv_at hl 6 rfl) ?_
          refine lv_iadd hx hb dX6_byRule_172 ?_
          obtain ⟨g20, hf⟩ := gin_some hf
          refine va_iald hx hb hK hP 9 0 rfl rfl g20 dX6_byRule_173 ?_
          obtain ⟨q21, hq21, hf⟩ := bnd hf
          refine kI_callV (As := [.int x2, .int ((JL ((((16 : Int32) * x1) + x7)).toNatClampNeg))]) (rest := []) S hP hD hS (c_X6_isFilled l D cI β mT mW mH mS mR mL mC mZ mA mB KK KN KS KC AN JK JN JS JL MY KP FI TX F x2 ((JL ((((16 : Int32) * x1) + x7)).toNatClampNeg)) q21 hq21) (cwV 2 hts gX6_byRule_X6_isFilled rfl rfl rfl (by decide +kernel) ⟨Nat.le_of_ble_eq_true rfl, Nat.le_of_ble_eq_true rfl⟩) 0 rfl rfl rfl hl.1 rfl (Nat.le_of_ble_eq_true rfl) dX6_byRule_174 ⟨Nat.zero_le _, Nat.zero_le _⟩ (fun H locs hP hD hS => ?_)
          have hP : va_P D vwCl (wM cI β mT mW mH mS mR mL mC mZ mA mB KK KN KS KC AN JK JN JS JL MY KP FI TX) H := hP
          have hD : va_D A (wM cI β mT mW mH mS mR mL mC mZ mA mB KK KN KS KC AN JK JN JS JL MY KP FI TX) := hD
          refine lv_if_eq (tgt := 184) hx hb dX6_byRule_177 (by decide) (fun c22 => ?_) (fun c22 => ?_)
          · have hf := it_t c22 hf
            refine lv_iconst (v := (0 : Int32)) hx hb dX6_byRule_184 (by decide) ?_
            exact w185 k73 hk73 _ ih _ _ _ _ _ _ _ H locs ls hf hP hD hS (lv_sub hl [0, 1, 2, 3, 4, 6] rfl)
          · have hf := it_f c22 hf
            exact w180 k73 hk73 _ ih _ _ _ _ _ _ H locs ls hf hP hD hS (lv_sub hl [0, 1, 2, 3, 4, 6] rfl)
  have w139 : ∀ (k73 : Int32 → Int32 → Int32 → Int32 → (Nat → Int32) → Option (Int32 × (Nat → Int32))) (hk73 : ∀ (x1 : Int32) (x2 : Int32) (x3 : Int32) (x4 : Int32) (FI : Nat → Int32) (H : Heap) (locs : List Loc) (ls : Array Slot), k73 x1 x2 x3 x4 FI = some res → va_P D vwCl (wM cI β mT mW mH mS mR mL mC mZ mA mB KK KN KS KC AN JK JN JS JL MY KP FI TX) H → va_D A (wM cI β mT mW mH mS mR mL mC mZ mA mB KK KN KS KC AN JK JN JS JL MY KP FI TX) → va_S A s.heap H locs → lv_has ls 8 [(0, .ref (β 0)), (1, .int x1), (2, .int x2), (3, .int x3), (4, .int x4)] → W p l e rm_X6_byRule s m args below meth c H locs 0 0 (MQ below (kQi D A (wM cI β mT mW mH mS mR mL mC mZ mA mB KK KN KS KC AN JK JN JS JL MY KP res.2 TX) res.1) args s 0 0 A) (F0 m 73 ls [])), ∀ (t0 : Int32) (x1 : Int32) (x2 : Int32) (x3 : Int32) (x4 : Int32) (FI : Nat → Int32) (H : Heap) (locs : List Loc) (ls : Array Slot), f_X6_byRule_J139 mW mS mR KK KN KS KC JN JS JL k73 F t0 x1 x2 x3 x4 FI = some res → va_P D vwCl (wM cI β mT mW mH mS mR mL mC mZ mA mB KK KN KS KC AN JK JN JS JL MY KP FI TX) H → va_D A (wM cI β mT mW mH mS mR mL mC mZ mA mB KK KN KS KC AN JK JN JS JL MY KP FI TX) → va_S A s.heap H locs → lv_has ls 8 [(0, .ref (β 0)), (1, .int x1), (2, .int x2), (3, .int x3), (4, .int x4)] → W p l e rm_X6_byRule s m args below meth c H locs 0 0 (MQ below (kQi D A (wM cI β mT mW mH mS mR mL mC mZ mA mB KK KN KS KC AN JK JN JS JL MY KP res.2 TX) res.1) args s 0 0 A) (F0 m 139 ls [.int t0]) := by
    intro k73 hk73 t0 x1 x2 x3 x4 FI H locs ls hf hP hD hS hl
    unfold f_X6_byRule_J139 at hf
    refine lv_istore (lv' := [(6, .int t0), (0, .ref (β 0)), (1, .int x1), (2, .int x2), (3, .int x3), (4, .int x4)]) hx hb dX6_byRule_139 hl (by decide) rfl (fun ls hl => ?_)
    refine lv_iconst (v := (0 : Int32)) hx hb dX6_byRule_141 (by decide) ?_
    refine lv_istore (lv' := [(7, .int (0 : Int32)), (6, .int t0), (0, .ref (β 0)), (1, .int x1), (2, .int x2), (3, .int x3), (4, .int x4)]) hx hb dX6_byRule_142 hl (by decide) rfl (fun ls hl => ?_)
    exact w144 k73 hk73 F _ _ _ _ _ _ _ H locs ls hf hP hD hS (lv_sub hl [2, 3, 4, 5, 6, 1, 0] rfl)
  have w86 : ∀ (k73 : Int32 → Int32 → Int32 → Int32 → (Nat → Int32) → Option (Int32 × (Nat → Int32))) (hk73 : ∀ (x1 : Int32) (x2 : Int32) (x3 : Int32) (x4 : Int32) (FI : Nat → Int32) (H : Heap) (locs : List Loc) (ls : Array Slot), k73 x1 x2 x3 x4 FI = some res → va_P D vwCl (wM cI β mT mW mH mS mR mL mC mZ mA mB KK KN KS KC AN JK JN JS JL MY KP FI TX) H → va_D A (wM cI β mT mW mH mS mR mL mC mZ mA mB KK KN KS KC AN JK JN JS JL MY KP FI TX) → va_S A s.heap H locs → lv_has ls 8 [(0, .ref (β 0)), (1, .int x1), (2, .int x2), (3, .int x3), (4, .int x4)] → W p l e rm_X6_byRule s m args below meth c H locs 0 0 (MQ below (kQi D A (wM cI β mT mW mH mS mR mL mC mZ mA mB KK KN KS KC AN JK JN JS JL MY KP res.2 TX) res.1) args s 0 0 A) (F0 m 73 ls [])), ∀ (n : Nat), ∀ (x1 : Int32) (x2 : Int32) (x3 : Int32) (x4 : Int32) (x5 : Int32) (x6 : Int32) (FI : Nat → Int32) (H : Heap) (locs : List Loc) (ls : Array Slot), f_X6_byRule_L86 mW mS mR KK KN KS KC JN JS JL k73 F n x1 x2 x3 x4 x5 x6 FI = some res → va_P D vwCl (wM cI β mT mW mH mS mR mL mC mZ mA mB KK KN KS KC AN JK JN JS JL MY KP FI TX) H → va_D A (wM cI β mT mW mH mS mR mL mC mZ mA mB KK KN KS KC AN JK JN JS JL MY KP FI TX) → va_S A s.heap H locs → lv_has ls 8 [(0, .ref (β 0)), (1, .int x1), (2, .int x2), (3, .int x3), (4, .int x4), (5, .int x5), (6, .int x6)] → W p l e rm_X6_byRule s m args below meth c H locs 0 0 (MQ below (kQi D A (wM cI β mT mW mH mS mR mL mC mZ mA mB KK KN KS KC AN JK JN JS JL MY KP res.2 TX) res.1) args s 0 0 A) (F0 m 86 ls []) := by
    intro k73 hk73 n
    induction n with
    | zero => intro x1 x2 x3 x4 x5 x6 FI H locs ls hf; cases hf
    | succ n ih =>
      intro x1 x2 x3 x4 x5 x6 FI H locs ls hf hP hD hS hl
      rw [f_X6_byRule_L86.eq_2] at hf
      refine lv_iload hx hb dX6_byRule_86 (lv_at hl 6 rfl) ?_
      refine lv_aload_n hx hb dX6_byRule_88 rfl (lv_at hl 0 rfl) ?_
      refine va_get (D := D) (ci := 7) (v := .ref (β 3)) (C := RX6) (T := TX6) (N := 23) hx hb hts hiX6 hown hK hP 0 rfl rfl 7 (by decide) fl16 (fun _ h9 => h9) rfl dX6_byRule_89 ?_
      refine lv_iload_n hx hb dX6_byRule_92 rfl (lv_at hl 2 rfl) ?_
      obtain ⟨g9, hf⟩ := gin_some hf
      refine va_iald hx hb hK hP 3 0 rfl rfl g9 dX6_byRule_93 ?_
      refine lv_icmp_ge (tgt := 126) hx hb dX6_byRule_94 (by decide) (fun c10 => ?_) (fun c10 => ?_)
      · have hf := it_t c10 hf
        refine lv_aload_n hx hb dX6_byRule_126 rfl (lv_at hl 0 rfl) ?_
        refine lv_iload_n hx hb dX6_byRule_127 rfl (lv_at hl 2 rfl) ?_
        obtain ⟨q11, hq11, hf⟩ := bnd hf
        refine kI_callV (As := [.int x2]) (rest := []) S hP hD hS (c_X6_meets l D cI β mT mW mH mS mR mL mC mZ mA mB KK KN KS KC AN JK JN JS JL MY KP FI TX F x2 q11 hq11) (cwV 1 hts gX6_byRule_X6_meets rfl rfl rfl (by decide +kernel) ⟨Nat.le_of_ble_eq_true rfl, Nat.le_of_ble_eq_true rfl⟩) 0 rfl rfl rfl hl.1 rfl (Nat.le_of_ble_eq_true rfl) dX6_byRule_128 ⟨Nat.zero_le _, Nat.zero_le _⟩ (fun H locs hP hD hS => ?_)
        have hP : va_P D vwCl (wM cI β mT mW mH mS mR mL mC mZ mA mB KK KN KS KC AN JK JN JS JL MY KP FI TX) H := hP
        have hD : va_D A (wM cI β mT mW mH mS mR mL mC mZ mA mB KK KN KS KC AN JK JN JS JL MY KP FI TX) := hD
        refine lv_if_ne (tgt := 138) hx hb dX6_byRule_131 (by decide) (fun c12 => ?_) (fun c12 => ?_)
        · have hf := it_t c12 hf
          refine lv_iconst (v := (0 : Int32)) hx hb dX6_byRule_138 (by decide) ?_
          exact w139 k73 hk73 _ _ _ _ _ _ H locs ls hf hP hD hS (lv_sub hl [0, 1, 2, 3, 4] rfl)
        · have hf := it_f (fun h9 => h9 c12) hf
          refine lv_iconst (v := (1 : Int32)) hx hb dX6_byRule_134 (by decide) ?_
          refine lv_goto (tgt := 139) hx hb dX6_byRule_135 (by decide) ?_
          exact w139 k73 hk73 _ _ _ _ _ _ H locs ls hf hP hD hS (lv_sub hl [0, 1, 2, 3, 4] rfl)
      · have hf := it_f c10 hf
        refine lv_aload_n hx hb dX6_byRule_97 rfl (lv_at hl 0 rfl) ?_
        refine va_get (D := D) (ci := 7) (v := .ref (β 12)) (C := RX6) (T := TX6) (N := 23) hx hb hts hiX6 hown hK hP 0 rfl rfl 18 (by decide) fl43 (fun _ h9 => h9) rfl dX6_byRule_98 ?_
        refine lv_iload hx hb dX6_byRule_101 (lv_at hl 6 rfl) ?_
        refine lv_iload hx hb dX6_byRule_103 (lv_at hl 5 rfl) ?_
        refine lv_aload_n hx hb dX6_byRule_105 rfl (lv_at hl 0 rfl) ?_
        refine va_get (D := D) (ci := 7) (v := .int mS) (C := RX6) (T := TX6) (N := 23) hx hb hts hiX6 hown hK hP 0 rfl rfl 3 (by decide) fl60 (fun _ h9 => h9) rfl dX6_byRule_106 ?_
        obtain ⟨g13, hf⟩ := gnz_some hf
        refine lv_irem hx hb dX6_byRule_109 g13 ?_
        obtain ⟨g14, hf⟩ := gin_some hf
        refine va_iast hx hb hK hP hD hS 12 0 rfl rfl g14 dX6_byRule_110 (fun H locs hP hD hS => ?_)
        have hP : va_P D vwCl (wM cI β mT mW mH mS mR mL mC mZ mA mB KK KN KS KC AN JK JN JS JL MY KP (upd FI x6.toNatClampNeg (x5 - x5 / mS * mS)) TX) H := hP
        have hD : va_D A (wM cI β mT mW mH mS mR mL mC mZ mA mB KK KN KS KC AN JK JN JS JL MY KP (upd FI x6.toNatClampNeg (x5 - x5 / mS * mS)) TX) := hD
        refine lv_iload hx hb dX6_byRule_111 (lv_at hl 5 rfl) ?_
        refine lv_aload_n hx hb dX6_byRule_113 rfl (lv_at hl 0 rfl) ?_
        refine va_get (D := D) (ci := 7) (v := .int mS) (C := RX6) (T := TX6) (N := 23) hx hb hts hiX6 hown hK hP 0 rfl rfl 3 (by decide) fl60 (fun _ h9 => h9) rfl dX6_byRule_114 ?_
        obtain ⟨g15, hf⟩ := gnz_some hf
        refine lv_idiv hx hb dX6_byRule_117 g15 ?_
        refine lv_istore (lv' := [(5, .int (x5 / mS)), (0, .ref (β 0)), (1, .int x1), (2, .int x2), (3, .int x3), (4, .int x4), (6, .int x6)]) hx hb dX6_byRule_118 hl (by decide) rfl (fun ls hl => ?_)
        refine lv_iinc (v := (x6 + (1 : Int32))) (lv' := [(6, .int (x6 + (1 : Int32))), (5, .int (x5 / mS)), (0, .ref (β 0)), (1, .int x1), (2, .int x2), (3, .int x3), (4, .int x4)]) hx hb dX6_byRule_120 hl (k := 6) rfl rfl (by decide) rfl (fun ls hl => ?_)
        refine lv_goto (tgt := 86) hx hb dX6_byRule_123 (by decide) ?_
        exact ih _ _ _ _ _ _ _ H locs ls hf hP hD hS (lv_sub hl [2, 3, 4, 5, 6, 1, 0] rfl)
  have w73 : ∀ (n : Nat), ∀ (x1 : Int32) (x2 : Int32) (x3 : Int32) (x4 : Int32) (FI : Nat → Int32) (H : Heap) (locs : List Loc) (ls : Array Slot), f_X6_byRule_L73 mW mS mR KK KN KS KC JN JS JL F n x1 x2 x3 x4 FI = some res → va_P D vwCl (wM cI β mT mW mH mS mR mL mC mZ mA mB KK KN KS KC AN JK JN JS JL MY KP FI TX) H → va_D A (wM cI β mT mW mH mS mR mL mC mZ mA mB KK KN KS KC AN JK JN JS JL MY KP FI TX) → va_S A s.heap H locs → lv_has ls 8 [(0, .ref (β 0)), (1, .int x1), (2, .int x2), (3, .int x3), (4, .int x4)] → W p l e rm_X6_byRule s m args below meth c H locs 0 0 (MQ below (kQi D A (wM cI β mT mW mH mS mR mL mC mZ mA mB KK KN KS KC AN JK JN JS JL MY KP res.2 TX) res.1) args s 0 0 A) (F0 m 73 ls []) := by
    intro n
    induction n with
    | zero => intro x1 x2 x3 x4 FI H locs ls hf; cases hf
    | succ n ih =>
      intro x1 x2 x3 x4 FI H locs ls hf hP hD hS hl
      rw [f_X6_byRule_L73.eq_2] at hf
      refine lv_iload hx hb dX6_byRule_73 (lv_at hl 4 rfl) ?_
      refine lv_iload_n hx hb dX6_byRule_75 rfl (lv_at hl 3 rfl) ?_
      refine lv_icmp_ge (tgt := 206) hx hb dX6_byRule_76 (by decide) (fun c8 => ?_) (fun c8 => ?_)
      · have hf := it_t c8 hf
        refine lv_iconst (v := (1 : Int32)) hx hb dX6_byRule_206 (by decide) ?_
        have e9 := Option.some.inj hf
        subst e9
        exact kI_ret S narrow_b1 hP hD hS dX6_byRule_207
      · have hf := it_f c8 hf
        refine lv_iload hx hb dX6_byRule_79 (lv_at hl 4 rfl) ?_
        refine lv_istore (lv' := [(5, .int x4), (0, .ref (β 0)), (1, .int x1), (2, .int x2), (3, .int x3), (4, .int x4)]) hx hb dX6_byRule_81 hl (by decide) rfl (fun ls hl => ?_)
        refine lv_iconst (v := (0 : Int32)) hx hb dX6_byRule_83 (by decide) ?_
        refine lv_istore (lv' := [(6, .int (0 : Int32)), (5, .int x4), (0, .ref (β 0)), (1, .int x1), (2, .int x2), (3, .int x3), (4, .int x4)]) hx hb dX6_byRule_84 hl (by decide) rfl (fun ls hl => ?_)
        exact w86 _ ih F _ _ _ _ _ _ _ H locs ls hf hP hD hS (lv_sub hl [2, 3, 4, 5, 6, 1, 0] rfl)
  have w54 : ∀ (k26 : Int32 → Int32 → Int32 → Int32 → (Nat → Int32) → Option (Int32 × (Nat → Int32))) (hk26 : ∀ (x1 : Int32) (x2 : Int32) (x3 : Int32) (x4 : Int32) (FI : Nat → Int32) (H : Heap) (locs : List Loc) (ls : Array Slot), k26 x1 x2 x3 x4 FI = some res → va_P D vwCl (wM cI β mT mW mH mS mR mL mC mZ mA mB KK KN KS KC AN JK JN JS JL MY KP FI TX) H → va_D A (wM cI β mT mW mH mS mR mL mC mZ mA mB KK KN KS KC AN JK JN JS JL MY KP FI TX) → va_S A s.heap H locs → lv_has ls 8 [(0, .ref (β 0)), (1, .int x1), (2, .int x2), (3, .int x3), (4, .int x4)] → W p l e rm_X6_byRule s m args below meth c H locs 0 0 (MQ below (kQi D A (wM cI β mT mW mH mS mR mL mC mZ mA mB KK KN KS KC AN JK JN JS JL MY KP res.2 TX) res.1) args s 0 0 A) (F0 m 26 ls [])), ∀ (t0 : Int32) (x1 : Int32) (x2 : Int32) (x4 : Int32) (FI : Nat → Int32) (H : Heap) (locs : List Loc) (ls : Array Slot), f_X6_byRule_J54 mW mS mR KK KN KS KC JN JS JL k26 F t0 x1 x2 x4 FI = some res → va_P D vwCl (wM cI β mT mW mH mS mR mL mC mZ mA mB KK KN KS KC AN JK JN JS JL MY KP FI TX) H → va_D A (wM cI β mT mW mH mS mR mL mC mZ mA mB KK KN KS KC AN JK JN JS JL MY KP FI TX) → va_S A s.heap H locs → lv_has ls 8 [(0, .ref (β 0)), (1, .int x1), (2, .int x2), (4, .int x4)] → W p l e rm_X6_byRule s m args below meth c H locs 0 0 (MQ below (kQi D A (wM cI β mT mW mH mS mR mL mC mZ mA mB KK KN KS KC AN JK JN JS JL MY KP res.2 TX) res.1) args s 0 0 A) (F0 m 54 ls [.int t0]) := by
    intro k26 hk26 t0 x1 x2 x4 FI H locs ls hf hP hD hS hl
    unfold f_X6_byRule_J54 at hf
    refine lv_istore_n (lv' := [(3, .int t0), (0, .ref (β 0)), (1, .int x1), (2, .int x2), (4, .int x4)]) hx hb dX6_byRule_54 rfl hl (by decide) rfl (fun ls hl => ?_)
    refine lv_iinc (v := (x4 + (1 : Int32))) (lv' := [(4, .int (x4 + (1 : Int32))), (3, .int t0), (0, .ref (β 0)), (1, .int x1), (2, .int x2)]) hx hb dX6_byRule_55 hl (k := 4) rfl rfl (by decide) rfl (fun ls hl => ?_)
    refine lv_goto (tgt := 26) hx hb dX6_byRule_58 (by decide) ?_
    exact hk26 _ _ _ _ _ H locs ls hf hP hD hS (lv_sub hl [2, 3, 4, 1, 0] rfl)
  have w26 : ∀ (n : Nat), ∀ (x1 : Int32) (x2 : Int32) (x3 : Int32) (x4 : Int32) (FI : Nat → Int32) (H : Heap) (locs : List Loc) (ls : Array Slot), f_X6_byRule_L26 mW mS mR KK KN KS KC JN JS JL F n x1 x2 x3 x4 FI = some res → va_P D vwCl (wM cI β mT mW mH mS mR mL mC mZ mA mB KK KN KS KC AN JK JN JS JL MY KP FI TX) H → va_D A (wM cI β mT mW mH mS mR mL mC mZ mA mB KK KN KS KC AN JK JN JS JL MY KP FI TX) → va_S A s.heap H locs → lv_has ls 8 [(0, .ref (β 0)), (1, .int x1), (2, .int x2), (3, .int x3), (4, .int x4)] → W p l e rm_X6_byRule s m args below meth c H locs 0 0 (MQ below (kQi D A (wM cI β mT mW mH mS mR mL mC mZ mA mB KK KN KS KC AN JK JN JS JL MY KP res.2 TX) res.1) args s 0 0 A) (F0 m 26 ls []) := by
    intro n
    induction n with
    | zero => intro x1 x2 x3 x4 FI H locs ls hf; cases hf
    | succ n ih =>
      intro x1 x2 x3 x4 FI H locs ls hf hP hD hS hl
      rw [f_X6_byRule_L26.eq_2] at hf
      refine lv_iload hx hb dX6_byRule_26 (lv_at hl 4 rfl) ?_
      refine lv_aload_n hx hb dX6_byRule_28 rfl (lv_at hl 0 rfl) ?_
      refine va_get (D := D) (ci := 7) (v := .ref (β 3)) (C := RX6) (T := TX6) (N := 23) hx hb hts hiX6 hown hK hP 0 rfl rfl 7 (by decide) fl16 (fun _ h9 => h9) rfl dX6_byRule_29 ?_
      refine lv_iload_n hx hb dX6_byRule_32 rfl (lv_at hl 2 rfl) ?_
      obtain ⟨g4, hf⟩ := gin_some hf
      refine va_iald hx hb hK hP 3 0 rfl rfl g4 dX6_byRule_33 ?_
      refine lv_icmp_ge (tgt := 61) hx hb dX6_byRule_34 (by decide) (fun c5 => ?_) (fun c5 => ?_)
      · have hf := it_t c5 hf
        refine lv_iload_n hx hb dX6_byRule_61 rfl (lv_at hl 3 rfl) ?_
        refine lv_sipush (v := (4096 : Int32)) hx hb dX6_byRule_62 (by decide) ?_
        refine lv_icmp_le (tgt := 70) hx hb dX6_byRule_65 (by decide) (fun c6 => ?_) (fun c6 => ?_)
        · have hf := it_t c6 hf
          refine lv_iconst (v := (0 : Int32)) hx hb dX6_byRule_70 (by decide) ?_
          refine lv_istore (lv' := [(4, .int (0 : Int32)), (0, .ref (β 0)), (1, .int x1), (2, .int x2), (3, .int x3)]) hx hb dX6_byRule_71 hl (by decide) rfl (fun ls hl => ?_)
          exact w73 F _ _ _ _ _ H locs ls hf hP hD hS (lv_sub hl [1, 2, 3, 4, 0] rfl)
        · have hf := it_f c6 hf
          refine lv_iconst (v := (0 : Int32)) hx hb dX6_byRule_68 (by decide) ?_
          have e9 := Option.some.inj hf
          subst e9
          exact kI_ret S narrow_b0 hP hD hS dX6_byRule_69
      · have hf := it_f c5 hf
        refine lv_iload_n hx hb dX6_byRule_37 rfl (lv_at hl 3 rfl) ?_
        refine lv_sipush (v := (4096 : Int32)) hx hb dX6_byRule_38 (by decide) ?_
        refine lv_icmp_le (tgt := 48) hx hb dX6_byRule_41 (by decide) (fun c7 => ?_) (fun c7 => ?_)
        · have hf := it_t c7 hf
          refine lv_iload_n hx hb dX6_byRule_48 rfl (lv_at hl 3 rfl) ?_
          refine lv_aload_n hx hb dX6_byRule_49 rfl (lv_at hl 0 rfl) ?_
          refine va_get (D := D) (ci := 7) (v := .int mS) (C := RX6) (T := TX6) (N := 23) hx hb hts hiX6 hown hK hP 0 rfl rfl 3 (by decide) fl60 (fun _ h9 => h9) rfl dX6_byRule_50 ?_
          refine lv_imul hx hb dX6_byRule_53 ?_
          exact w54 _ ih _ _ _ _ _ H locs ls hf hP hD hS (lv_sub hl [0, 1, 2, 4] rfl)
        · have hf := it_f c7 hf
          refine lv_iload_n hx hb dX6_byRule_44 rfl (lv_at hl 3 rfl) ?_
          refine lv_goto (tgt := 54) hx hb dX6_byRule_45 (by decide) ?_
          exact w54 _ ih _ _ _ _ _ H locs ls hf hP hD hS (lv_sub hl [0, 1, 2, 4] rfl)
  suffices hgo : ∀ (H : Heap) (locs : List Loc), va_P D vwCl (wM cI β mT mW mH mS mR mL mC mZ mA mB KK KN KS KC AN JK JN JS JL MY KP FI TX) H → va_D A (wM cI β mT mW mH mS mR mL mC mZ mA mB KK KN KS KC AN JK JN JS JL MY KP FI TX) → va_S A s.heap H locs → W p l e rm_X6_byRule s m args below meth c H locs 0 0 (MQ below (kQi D A (wM cI β mT mW mH mS mR mL mC mZ mA mB KK KN KS KC AN JK JN JS JL MY KP res.2 TX) res.1) args s 0 0 A) (F0 m 0 ls []) from hgo _ _ hP hD hS
  clear hP hD hS
  intro H locs hP hD hS
  refine lv_aload_n hx hb dX6_byRule_0 rfl (lv_at hl 0 rfl) ?_
  refine va_get (D := D) (ci := 7) (v := .ref (β 7)) (C := RX6) (T := TX6) (N := 23) hx hb hts hiX6 hown hK hP 0 rfl rfl 12 (by decide) fl28 (fun _ h9 => h9) rfl dX6_byRule_1 ?_
  refine lv_iload_n hx hb dX6_byRule_4 rfl (lv_at hl 1 rfl) ?_
  obtain ⟨g1, hf⟩ := gin_some hf
  refine va_iald hx hb hK hP 7 0 rfl rfl g1 dX6_byRule_5 ?_
  refine lv_istore_n (lv' := [(2, .int (JN x1.toNatClampNeg)), (0, .ref (β 0)), (1, .int x1)]) hx hb dX6_byRule_6 rfl hl (by decide) rfl (fun ls hl => ?_)
  refine lv_iload_n hx hb dX6_byRule_7 rfl (lv_at hl 0 rfl) ?_
  refine lv_if_lt (tgt := 19) hx hb dX6_byRule_8 (by decide) (fun c2 => ?_) (fun c2 => ?_)
  · have hf := it_t c2 hf
    refine lv_iconst (v := (0 : Int32)) hx hb dX6_byRule_19 (by decide) ?_
    have e9 := Option.some.inj hf
    subst e9
    exact kI_ret S narrow_b0 hP hD hS dX6_byRule_20
  · have hf := it_f c2 hf
    refine lv_iload_n hx hb dX6_byRule_11 rfl (lv_at hl 0 rfl) ?_
    refine lv_aload_n hx hb dX6_byRule_12 rfl (lv_at hl 1 rfl) ?_
    refine va_get (D := D) (ci := 7) (v := .int mR) (C := RX6) (T := TX6) (N := 23) hx hb hts hiX6 hown hK hP 0 rfl rfl 4 (by decide) fl70 (fun _ h9 => h9) rfl dX6_byRule_13 ?_
    refine lv_icmp_lt (tgt := 21) hx hb dX6_byRule_16 (by decide) (fun c3 => ?_) (fun c3 => ?_)
    · have hf := it_t c3 hf
      refine lv_iconst (v := (1 : Int32)) hx hb dX6_byRule_21 (by decide) ?_
      refine lv_istore_n (lv' := [(3, .int (1 : Int32)), (2, .int (JN x1.toNatClampNeg)), (0, .ref (β 0)), (1, .int x1)]) hx hb dX6_byRule_22 rfl hl (by decide) rfl (fun ls hl => ?_)
      refine lv_iconst (v := (0 : Int32)) hx hb dX6_byRule_23 (by decide) ?_
      refine lv_istore (lv' := [(4, .int (0 : Int32)), (3, .int (1 : Int32)), (2, .int (JN x1.toNatClampNeg)), (0, .ref (β 0)), (1, .int x1)]) hx hb dX6_byRule_24 hl (by decide) rfl (fun ls hl => ?_)
      exact w26 F _ _ _ _ _ H locs ls hf hP hD hS (lv_sub hl [3, 4, 2, 1, 0] rfl)
    · have hf := it_f c3 hf
      refine lv_iconst (v := (0 : Int32)) hx hb dX6_byRule_19 (by decide) ?_
      have e9 := Option.some.inj hf
      subst e9
      exact kI_ret S narrow_b0 hP hD hS dX6_byRule_20
abbrev rm_X6_all : Room := { frames := 0, cells := 0, slots := 0, locals := 0 }
set_option maxHeartbeats 4000000 in
set_option maxRecDepth 100000 in
theorem c_X6_all (l : Launch) (D : va_G) (cI : ClassId) (β : Nat → Nat) (mT mW mH mS mR mL mC mZ mA mB : Int32) (KK KN KS KC AN JK JN JS JL MY KP FI TX : Nat → Int32) (F : Nat)  (res : Int32 × (Nat → Int32)) (hf : f_X6_all mS F mC MY = some res) : kV l yX6_all wsX6_all rm_X6_all D cI [.ref (β 0)] (wM cI β mT mW mH mS mR mL mC mZ mA mB KK KN KS KC AN JK JN JS JL MY KP FI TX) (wM cI β mT mW mH mS mR mL res.1 mZ mA mB KK KN KS KC AN JK JN JS JL res.2 KP FI TX) := by
  unfold f_X6_all at hf
  refine kV_of (cc := cX6_all) (maxL := 2) (ret := none) (by decide +kernel) rfl (Nat.le_of_ble_eq_true rfl) ?_
  intro p e s m args below meth c A ls S hP hD hS hl
  have S : kC p s m args meth c cX6_all 2 wsX6_all RX6 none D cI A := S
  have hx := S.1.1
  have hb := S.1.2.1
  have hml := S.1.2.2.1
  have hown : s.vm.findClass RX6 = some m.cls := S.1.2.2.2.1
  have hts := S.1.2.2.2.2
  have hK := S.2.2.2.1
  have hnk := S.2.2.2.2.1.2
  have hiX6 : ∀ w ∈ u_ws RX6 TX6 23, w ∈ wsX6_all := by decide +kernel
  have fl37 := hts (.fieldLink RX6 37 "ProofCheckerModel" "may" "[I") (by decide +kernel)
  have fl60 := hts (.fieldLink RX6 60 "ProofCheckerModel" "symbols" "I") (by decide +kernel)
  have fl134 := hts (.fieldLink RX6 134 "ProofCheckerModel" "cannot" "Z") (by decide +kernel)
  have hl : lv_has ls 2 [(0, .ref (β 0))] := hl
  have w7 : ∀ (n : Nat), ∀ (x1 : Int32) (mC : Int32) (MY : Nat → Int32) (H : Heap) (locs : List Loc) (ls : Array Slot), f_X6_all_L7 mS F n x1 mC MY = some res → va_P D vwCl (wM cI β mT mW mH mS mR mL mC mZ mA mB KK KN KS KC AN JK JN JS JL MY KP FI TX) H → va_D A (wM cI β mT mW mH mS mR mL mC mZ mA mB KK KN KS KC AN JK JN JS JL MY KP FI TX) → va_S A s.heap H locs → lv_has ls 2 [(0, .ref (β 0)), (1, .int x1)] → W p l e rm_X6_all s m args below meth c H locs 0 0 (MQ below (kQv D A (wM cI β mT mW mH mS mR mL res.1 mZ mA mB KK KN KS KC AN JK JN JS JL res.2 KP FI TX)) args s 0 0 A) (F0 m 7 ls []) := by
    intro n
    induction n with
    | zero => intro x1 mC MY H locs ls hf; cases hf
    | succ n ih =>
      intro x1 mC MY H locs ls hf hP hD hS hl
      rw [f_X6_all_L7.eq_2] at hf
      refine lv_iload_n hx hb dX6_all_7 rfl (lv_at hl 1 rfl) ?_
      refine lv_bipush (v := (16 : Int32)) hx hb dX6_all_8 (by decide) ?_
      refine lv_icmp_ge (tgt := 33) hx hb dX6_all_10 (by decide) (fun c1 => ?_) (fun c1 => ?_)
      · have hf := it_t c1 hf
        have e9 := Option.some.inj hf
        subst e9
        exact kV_ret S hP hD hS dX6_all_33
      · have hf := it_f c1 hf
        refine lv_aload_n hx hb dX6_all_13 rfl (lv_at hl 0 rfl) ?_
        refine va_get (D := D) (ci := 7) (v := .ref (β 10)) (C := RX6) (T := TX6) (N := 23) hx hb hts hiX6 hown hK hP 0 rfl rfl 15 (by decide) fl37 (fun _ h9 => h9) rfl dX6_all_14 ?_
        refine lv_iload_n hx hb dX6_all_17 rfl (lv_at hl 1 rfl) ?_
        refine lv_iconst (v := (1 : Int32)) hx hb dX6_all_18 (by decide) ?_
        refine lv_aload_n hx hb dX6_all_19 rfl (lv_at hl 0 rfl) ?_
        refine va_get (D := D) (ci := 7) (v := .int mS) (C := RX6) (T := TX6) (N := 23) hx hb hts hiX6 hown hK hP 0 rfl rfl 3 (by decide) fl60 (fun _ h9 => h9) rfl dX6_all_20 ?_
        refine lv_ishl hx hb dX6_all_23 ?_
        refine lv_iconst (v := (1 : Int32)) hx hb dX6_all_24 (by decide) ?_
        refine lv_isub hx hb dX6_all_25 ?_
        obtain ⟨g2, hf⟩ := gin_some hf
        refine va_iast hx hb hK hP hD hS 10 0 rfl rfl g2 dX6_all_26 (fun H locs hP hD hS => ?_)
        have hP : va_P D vwCl (wM cI β mT mW mH mS mR mL mC mZ mA mB KK KN KS KC AN JK JN JS JL ((upd MY x1.toNatClampNeg ((((1 : Int32) <<< (mS &&& 31)) - (1 : Int32))))) KP FI TX) H := hP
        have hD : va_D A (wM cI β mT mW mH mS mR mL mC mZ mA mB KK KN KS KC AN JK JN JS JL ((upd MY x1.toNatClampNeg ((((1 : Int32) <<< (mS &&& 31)) - (1 : Int32))))) KP FI TX) := hD
        refine lv_iinc (v := (x1 + (1 : Int32))) (lv' := [(1, .int (x1 + (1 : Int32))), (0, .ref (β 0))]) hx hb dX6_all_27 hl (k := 1) rfl rfl (by decide) rfl (fun ls hl => ?_)
        refine lv_goto (tgt := 7) hx hb dX6_all_30 (by decide) ?_
        exact ih _ _ _ H locs ls hf hP hD hS (lv_sub hl [1, 0] rfl)
  suffices hgo : ∀ (H : Heap) (locs : List Loc), va_P D vwCl (wM cI β mT mW mH mS mR mL mC mZ mA mB KK KN KS KC AN JK JN JS JL MY KP FI TX) H → va_D A (wM cI β mT mW mH mS mR mL mC mZ mA mB KK KN KS KC AN JK JN JS JL MY KP FI TX) → va_S A s.heap H locs → W p l e rm_X6_all s m args below meth c H locs 0 0 (MQ below (kQv D A (wM cI β mT mW mH mS mR mL res.1 mZ mA mB KK KN KS KC AN JK JN JS JL res.2 KP FI TX)) args s 0 0 A) (F0 m 0 ls []) from hgo _ _ hP hD hS
  clear hP hD hS
  intro H locs hP hD hS
  refine lv_aload_n hx hb dX6_all_0 rfl (lv_at hl 0 rfl) ?_
  refine lv_iconst (v := (0 : Int32)) hx hb dX6_all_1 (by decide) ?_
  refine va_put (D := D) (ci := 7) (v := .int (0 : Int32)) (ty := .boolean) (C := RX6) (T := TX6) (N := 23) hx hb hts hiX6 tyX6 tyX6_ok nmX6 hown hK hP hD hS 0 rfl rfl 17 (by decide) fl134 (fun _ h9 => h9) rfl (by decide +kernel) rfl rfl (Nat.le_of_ble_eq_true rfl) dX6_all_2 (fun H locs hP hD hS => ?_)
  have hP : va_P D vwCl (wM cI β mT mW mH mS mR mL (0 : Int32) mZ mA mB KK KN KS KC AN JK JN JS JL MY KP FI TX) H := hP
  have hD : va_D A (wM cI β mT mW mH mS mR mL (0 : Int32) mZ mA mB KK KN KS KC AN JK JN JS JL MY KP FI TX) := hD
  refine lv_iconst (v := (0 : Int32)) hx hb dX6_all_5 (by decide) ?_
  refine lv_istore_n (lv' := [(1, .int (0 : Int32)), (0, .ref (β 0))]) hx hb dX6_all_6 rfl hl (by decide) rfl (fun ls hl => ?_)
  exact w7 F _ _ _ H locs ls hf hP hD hS (lv_sub hl [1, 0] rfl)
abbrev rm_X6_make : Room := { frames := 1, cells := 0, slots := 0, locals := 21 }
set_option maxHeartbeats 4000000 in
set_option maxRecDepth 100000 in
theorem c_X6_make (l : Launch) (D : va_G) (cI : ClassId) (β : Nat → Nat) (mT mW mH mS mR mL mC mZ mA mB : Int32) (KK KN KS KC AN JK JN JS JL MY KP FI TX : Nat → Int32) (x1 : Int32) (res : Int32 × (Nat → Int32)) (hf : f_X6_make mS mC MY x1 = some res) : kV l yX6_make wsX6_make rm_X6_make D cI [.ref (β 0), .int x1] (wM cI β mT mW mH mS mR mL mC mZ mA mB KK KN KS KC AN JK JN JS JL MY KP FI TX) (wM cI β mT mW mH mS mR mL res.1 mZ mA mB KK KN KS KC AN JK JN JS JL res.2 KP FI TX) := by
  unfold f_X6_make at hf
  refine kV_of (cc := cX6_make) (maxL := 4) (ret := none) (by decide +kernel) rfl (Nat.le_of_ble_eq_true rfl) ?_
  intro p e s m args below meth c A ls S hP hD hS hl
  have S : kC p s m args meth c cX6_make 4 wsX6_make RX6 none D cI A := S
  have hx := S.1.1
  have hb := S.1.2.1
  have hml := S.1.2.2.1
  have hown : s.vm.findClass RX6 = some m.cls := S.1.2.2.2.1
  have hts := S.1.2.2.2.2
  have hK := S.2.2.2.1
  have hnk := S.2.2.2.2.1.2
  have hiX6 : ∀ w ∈ u_ws RX6 TX6 23, w ∈ wsX6_make := by decide +kernel
  have fl37 := hts (.fieldLink RX6 37 "ProofCheckerModel" "may" "[I") (by decide +kernel)
  have fl134 := hts (.fieldLink RX6 134 "ProofCheckerModel" "cannot" "Z") (by decide +kernel)
  have hl : lv_has ls 4 [(0, .ref (β 0)), (1, .int x1)] := hl
  have w47 : ∀ (t1 : Int32) (t2 : Int32) (x2 : Int32) (mC : Int32) (MY : Nat → Int32) (H : Heap) (locs : List Loc) (ls : Array Slot), f_X6_make_J47 mS t1 t2 x2 mC MY = some res → va_P D vwCl (wM cI β mT mW mH mS mR mL mC mZ mA mB KK KN KS KC AN JK JN JS JL MY KP FI TX) H → va_D A (wM cI β mT mW mH mS mR mL mC mZ mA mB KK KN KS KC AN JK JN JS JL MY KP FI TX) → va_S A s.heap H locs → lv_has ls 4 [(0, .ref (β 0)), (2, .int x2)] → W p l e rm_X6_make s m args below meth c H locs 0 0 (MQ below (kQv D A (wM cI β mT mW mH mS mR mL res.1 mZ mA mB KK KN KS KC AN JK JN JS JL res.2 KP FI TX)) args s 0 0 A) (F0 m 47 ls [.int t2, .int t1, .ref (β 10)]) := by
    intro t1 t2 x2 mC MY H locs ls hf hP hD hS hl
    unfold f_X6_make_J47 at hf
    obtain ⟨g7, hf⟩ := gin_some hf
    refine va_iast hx hb hK hP hD hS 10 0 rfl rfl g7 dX6_make_47 (fun H locs hP hD hS => ?_)
    have hP : va_P D vwCl (wM cI β mT mW mH mS mR mL mC mZ mA mB KK KN KS KC AN JK JN JS JL (upd MY t1.toNatClampNeg t2) KP FI TX) H := hP
    have hD : va_D A (wM cI β mT mW mH mS mR mL mC mZ mA mB KK KN KS KC AN JK JN JS JL (upd MY t1.toNatClampNeg t2) KP FI TX) := hD
    refine lv_aload_n hx hb dX6_make_48 rfl (lv_at hl 0 rfl) ?_
    refine lv_aload_n hx hb dX6_make_49 rfl (lv_at hl 0 rfl) ?_
    refine va_get (D := D) (ci := 7) (v := .int mC) (C := RX6) (T := TX6) (N := 23) hx hb hts hiX6 hown hK hP 0 rfl rfl 17 (by decide) fl134 (fun _ h9 => h9) rfl dX6_make_50 ?_
    refine lv_if_ne (tgt := 65) hx hb dX6_make_53 (by decide) (fun c8 => ?_) (fun c8 => ?_)
    · have hf := it_t c8 hf
      refine lv_iconst (v := (1 : Int32)) hx hb dX6_make_65 (by decide) ?_
      refine lv_goto (tgt := 70) hx hb dX6_make_66 (by decide) ?_
      refine va_put (D := D) (ci := 7) (v := .int (1 : Int32)) (ty := .boolean) (C := RX6) (T := TX6) (N := 23) hx hb hts hiX6 tyX6 tyX6_ok nmX6 hown hK hP hD hS 0 rfl rfl 17 (by decide) fl134 (fun _ h9 => h9) rfl (by decide +kernel) rfl rfl (Nat.le_of_ble_eq_true rfl) dX6_make_70 (fun H locs hP hD hS => ?_)
      have hP : va_P D vwCl (wM cI β mT mW mH mS mR mL (1 : Int32) mZ mA mB KK KN KS KC AN JK JN JS JL (upd MY t1.toNatClampNeg t2) KP FI TX) H := hP
      have hD : va_D A (wM cI β mT mW mH mS mR mL (1 : Int32) mZ mA mB KK KN KS KC AN JK JN JS JL (upd MY t1.toNatClampNeg t2) KP FI TX) := hD
      have e9 := Option.some.inj hf
      subst e9
      exact kV_ret S hP hD hS dX6_make_73
    · have hf := it_f (fun h9 => h9 c8) hf
      refine lv_aload_n hx hb dX6_make_56 rfl (lv_at hl 0 rfl) ?_
      refine va_get (D := D) (ci := 7) (v := .ref (β 10)) (C := RX6) (T := TX6) (N := 23) hx hb hts hiX6 hown hK hP 0 rfl rfl 15 (by decide) fl37 (fun _ h9 => h9) rfl dX6_make_57 ?_
      refine lv_iload_n hx hb dX6_make_60 rfl (lv_at hl 1 rfl) ?_
      obtain ⟨g9, hf⟩ := gin_some hf
      refine va_iald hx hb hK hP 10 0 rfl rfl g9 dX6_make_61 ?_
      refine lv_if_ne (tgt := 69) hx hb dX6_make_62 (by decide) (fun c10 => ?_) (fun c10 => ?_)
      · have hf := it_t c10 hf
        refine lv_iconst (v := (0 : Int32)) hx hb dX6_make_69 (by decide) ?_
        refine va_put (D := D) (ci := 7) (v := .int (0 : Int32)) (ty := .boolean) (C := RX6) (T := TX6) (N := 23) hx hb hts hiX6 tyX6 tyX6_ok nmX6 hown hK hP hD hS 0 rfl rfl 17 (by decide) fl134 (fun _ h9 => h9) rfl (by decide +kernel) rfl rfl (Nat.le_of_ble_eq_true rfl) dX6_make_70 (fun H locs hP hD hS => ?_)
        have hP : va_P D vwCl (wM cI β mT mW mH mS mR mL (0 : Int32) mZ mA mB KK KN KS KC AN JK JN JS JL (upd MY t1.toNatClampNeg t2) KP FI TX) H := hP
        have hD : va_D A (wM cI β mT mW mH mS mR mL (0 : Int32) mZ mA mB KK KN KS KC AN JK JN JS JL (upd MY t1.toNatClampNeg t2) KP FI TX) := hD
        have e9 := Option.some.inj hf
        subst e9
        exact kV_ret S hP hD hS dX6_make_73
      · have hf := it_f (fun h9 => h9 c10) hf
        refine lv_iconst (v := (1 : Int32)) hx hb dX6_make_65 (by decide) ?_
        refine lv_goto (tgt := 70) hx hb dX6_make_66 (by decide) ?_
        refine va_put (D := D) (ci := 7) (v := .int (1 : Int32)) (ty := .boolean) (C := RX6) (T := TX6) (N := 23) hx hb hts hiX6 tyX6 tyX6_ok nmX6 hown hK hP hD hS 0 rfl rfl 17 (by decide) fl134 (fun _ h9 => h9) rfl (by decide +kernel) rfl rfl (Nat.le_of_ble_eq_true rfl) dX6_make_70 (fun H locs hP hD hS => ?_)
        have hP : va_P D vwCl (wM cI β mT mW mH mS mR mL (1 : Int32) mZ mA mB KK KN KS KC AN JK JN JS JL (upd MY t1.toNatClampNeg t2) KP FI TX) H := hP
        have hD : va_D A (wM cI β mT mW mH mS mR mL (1 : Int32) mZ mA mB KK KN KS KC AN JK JN JS JL (upd MY t1.toNatClampNeg t2) KP FI TX) := hD
        have e9 := Option.some.inj hf
        subst e9
        exact kV_ret S hP hD hS dX6_make_73
  suffices hgo : ∀ (H : Heap) (locs : List Loc), va_P D vwCl (wM cI β mT mW mH mS mR mL mC mZ mA mB KK KN KS KC AN JK JN JS JL MY KP FI TX) H → va_D A (wM cI β mT mW mH mS mR mL mC mZ mA mB KK KN KS KC AN JK JN JS JL MY KP FI TX) → va_S A s.heap H locs → W p l e rm_X6_make s m args below meth c H locs 0 0 (MQ below (kQv D A (wM cI β mT mW mH mS mR mL res.1 mZ mA mB KK KN KS KC AN JK JN JS JL res.2 KP FI TX)) args s 0 0 A) (F0 m 0 ls []) from hgo _ _ hP hD hS
  clear hP hD hS
  intro H locs hP hD hS
  refine lv_aload_n hx hb dX6_make_0 rfl (lv_at hl 0 rfl) ?_
  refine lv_iload_n hx hb dX6_make_1 rfl (lv_at hl 1 rfl) ?_
  obtain ⟨q1, hq1, hf⟩ := bnd hf
  refine kI_callV (As := [.int x1]) (rest := []) S hP hD hS (c_X6_cellOf l D cI β mT mW mH mS mR mL mC mZ mA mB KK KN KS KC AN JK JN JS JL MY KP FI TX x1 q1 hq1) (cwV 1 hts gX6_make_X6_cellOf rfl rfl rfl (by decide +kernel) ⟨Nat.le_of_ble_eq_true rfl, Nat.le_of_ble_eq_true rfl⟩) 0 rfl rfl rfl hl.1 rfl (Nat.le_of_ble_eq_true rfl) dX6_make_2 ⟨Nat.zero_le _, Nat.zero_le _⟩ (fun H locs hP hD hS => ?_)
  have hP : va_P D vwCl (wM cI β mT mW mH mS mR mL mC mZ mA mB KK KN KS KC AN JK JN JS JL MY KP FI TX) H := hP
  have hD : va_D A (wM cI β mT mW mH mS mR mL mC mZ mA mB KK KN KS KC AN JK JN JS JL MY KP FI TX) := hD
  refine lv_istore_n (lv' := [(2, .int q1), (0, .ref (β 0)), (1, .int x1)]) hx hb dX6_make_5 rfl hl (by decide) rfl (fun ls hl => ?_)
  refine lv_iconst (v := (1 : Int32)) hx hb dX6_make_6 (by decide) ?_
  refine lv_aload_n hx hb dX6_make_7 rfl (lv_at hl 1 rfl) ?_
  refine lv_iload_n hx hb dX6_make_8 rfl (lv_at hl 2 rfl) ?_
  obtain ⟨q2, hq2, hf⟩ := bnd hf
  refine kI_callV (As := [.int x1]) (rest := [.int (1 : Int32)]) S hP hD hS (c_X6_symbolOf l D cI β mT mW mH mS mR mL mC mZ mA mB KK KN KS KC AN JK JN JS JL MY KP FI TX x1 q2 hq2) (cwV 1 hts gX6_make_X6_symbolOf rfl rfl rfl (by decide +kernel) ⟨Nat.le_of_ble_eq_true rfl, Nat.le_of_ble_eq_true rfl⟩) 0 rfl rfl rfl hl.1 rfl (Nat.le_of_ble_eq_true rfl) dX6_make_9 ⟨Nat.zero_le _, Nat.zero_le _⟩ (fun H locs hP hD hS => ?_)
  have hP : va_P D vwCl (wM cI β mT mW mH mS mR mL mC mZ mA mB KK KN KS KC AN JK JN JS JL MY KP FI TX) H := hP
  have hD : va_D A (wM cI β mT mW mH mS mR mL mC mZ mA mB KK KN KS KC AN JK JN JS JL MY KP FI TX) := hD
  refine lv_ishl hx hb dX6_make_12 ?_
  refine lv_istore_n (lv' := [(3, .int ((1 : Int32) <<< (q2 &&& 31))), (2, .int q1), (0, .ref (β 0)), (1, .int x1)]) hx hb dX6_make_13 rfl hl (by decide) rfl (fun ls hl => ?_)
  refine lv_aload_n hx hb dX6_make_14 rfl (lv_at hl 2 rfl) ?_
  refine va_get (D := D) (ci := 7) (v := .ref (β 10)) (C := RX6) (T := TX6) (N := 23) hx hb hts hiX6 hown hK hP 0 rfl rfl 15 (by decide) fl37 (fun _ h9 => h9) rfl dX6_make_15 ?_
  refine lv_iload_n hx hb dX6_make_18 rfl (lv_at hl 1 rfl) ?_
  refine lv_iload_n hx hb dX6_make_19 rfl (lv_at hl 3 rfl) ?_
  refine lv_iconst (v := (2 : Int32)) hx hb dX6_make_20 (by decide) ?_
  obtain ⟨g3, hf⟩ := gnz_some hf
  refine lv_irem hx hb dX6_make_21 g3 ?_
  refine lv_iconst (v := (1 : Int32)) hx hb dX6_make_22 (by decide) ?_
  refine lv_icmp_ne (tgt := 37) hx hb dX6_make_23 (by decide) (fun c4 => ?_) (fun c4 => ?_)
  · have hf := it_t c4 hf
    refine lv_aload_n hx hb dX6_make_37 rfl (lv_at hl 2 rfl) ?_
    refine va_get (D := D) (ci := 7) (v := .ref (β 10)) (C := RX6) (T := TX6) (N := 23) hx hb hts hiX6 hown hK hP 0 rfl rfl 15 (by decide) fl37 (fun _ h9 => h9) rfl dX6_make_38 ?_
    refine lv_iload_n hx hb dX6_make_41 rfl (lv_at hl 1 rfl) ?_
    obtain ⟨g5, hf⟩ := gin_some hf
    refine va_iald hx hb hK hP 10 0 rfl rfl g5 dX6_make_42 ?_
    refine lv_iload_n hx hb dX6_make_43 rfl (lv_at hl 0 rfl) ?_
    refine lv_iconst (v := (-1 : Int32)) hx hb dX6_make_44 (by decide) ?_
    refine lv_ixor hx hb dX6_make_45 ?_
    refine lv_iand hx hb dX6_make_46 ?_
    exact w47 _ _ _ _ _ H locs ls hf hP hD hS (lv_sub hl [2, 1] rfl)
  · have hf := it_f (fun h9 => h9 c4) hf
    refine lv_aload_n hx hb dX6_make_26 rfl (lv_at hl 2 rfl) ?_
    refine va_get (D := D) (ci := 7) (v := .ref (β 10)) (C := RX6) (T := TX6) (N := 23) hx hb hts hiX6 hown hK hP 0 rfl rfl 15 (by decide) fl37 (fun _ h9 => h9) rfl dX6_make_27 ?_
    refine lv_iload_n hx hb dX6_make_30 rfl (lv_at hl 1 rfl) ?_
    obtain ⟨g6, hf⟩ := gin_some hf
    refine va_iald hx hb hK hP 10 0 rfl rfl g6 dX6_make_31 ?_
    refine lv_iload_n hx hb dX6_make_32 rfl (lv_at hl 0 rfl) ?_
    refine lv_iand hx hb dX6_make_33 ?_
    refine lv_goto (tgt := 47) hx hb dX6_make_34 (by decide) ?_
    exact w47 _ _ _ _ _ H locs ls hf hP hD hS (lv_sub hl [2, 1] rfl)
abbrev rm_X6_how : Room := { frames := 1, cells := 0, slots := 0, locals := 21 }
set_option maxHeartbeats 4000000 in
set_option maxRecDepth 100000 in
theorem c_X6_how (l : Launch) (D : va_G) (cI : ClassId) (β : Nat → Nat) (mT mW mH mS mR mL mC mZ mA mB : Int32) (KK KN KS KC AN JK JN JS JL MY KP FI TX : Nat → Int32) (x1 : Int32) (res : Int32) (hf : f_X6_how mS MY x1 = some res) : kI l yX6_how wsX6_how rm_X6_how D cI [.ref (β 0), .int x1] (wM cI β mT mW mH mS mR mL mC mZ mA mB KK KN KS KC AN JK JN JS JL MY KP FI TX) (wM cI β mT mW mH mS mR mL mC mZ mA mB KK KN KS KC AN JK JN JS JL MY KP FI TX) res := by
  unfold f_X6_how at hf
  refine kI_of (cc := cX6_how) (maxL := 5) (ret := (some .int)) (by decide +kernel) rfl (Nat.le_of_ble_eq_true rfl) ?_
  intro p e s m args below meth c A ls S hP hD hS hl
  have S : kC p s m args meth c cX6_how 5 wsX6_how RX6 (some .int) D cI A := S
  have hx := S.1.1
  have hb := S.1.2.1
  have hml := S.1.2.2.1
  have hown : s.vm.findClass RX6 = some m.cls := S.1.2.2.2.1
  have hts := S.1.2.2.2.2
  have hK := S.2.2.2.1
  have hnk := S.2.2.2.2.1.2
  have hiX6 : ∀ w ∈ u_ws RX6 TX6 23, w ∈ wsX6_how := by decide +kernel
  have fl37 := hts (.fieldLink RX6 37 "ProofCheckerModel" "may" "[I") (by decide +kernel)
  have hl : lv_has ls 5 [(0, .ref (β 0)), (1, .int x1)] := hl
  have w39 : ∀ (t0 : Int32) (x1 : Int32) (H : Heap) (locs : List Loc) (ls : Array Slot), f_X6_how_J39 mS MY t0 x1 = some res → va_P D vwCl (wM cI β mT mW mH mS mR mL mC mZ mA mB KK KN KS KC AN JK JN JS JL MY KP FI TX) H → va_D A (wM cI β mT mW mH mS mR mL mC mZ mA mB KK KN KS KC AN JK JN JS JL MY KP FI TX) → va_S A s.heap H locs → lv_has ls 5 [(1, .int x1)] → W p l e rm_X6_how s m args below meth c H locs 0 0 (MQ below (kQi D A (wM cI β mT mW mH mS mR mL mC mZ mA mB KK KN KS KC AN JK JN JS JL MY KP FI TX) res) args s 0 0 A) (F0 m 39 ls [.int t0]) := by
    intro t0 x1 H locs ls hf hP hD hS hl
    unfold f_X6_how_J39 at hf
    refine lv_istore (lv' := [(4, .int t0), (1, .int x1)]) hx hb dX6_how_39 hl (by decide) rfl (fun ls hl => ?_)
    refine lv_iload_n hx hb dX6_how_41 rfl (lv_at hl 1 rfl) ?_
    refine lv_iconst (v := (2 : Int32)) hx hb dX6_how_42 (by decide) ?_
    obtain ⟨g6, hf⟩ := gnz_some hf
    refine lv_irem hx hb dX6_how_43 g6 ?_
    refine lv_iconst (v := (1 : Int32)) hx hb dX6_how_44 (by decide) ?_
    refine lv_icmp_ne (tgt := 53) hx hb dX6_how_45 (by decide) (fun c7 => ?_) (fun c7 => ?_)
    · have hf := it_t c7 hf
      refine lv_iload hx hb dX6_how_53 (lv_at hl 0 rfl) ?_
      refine lv_ineg hx hb dX6_how_55 ?_
      have e9 := Option.some.inj hf
      subst e9
      exact kI_ret S rfl hP hD hS dX6_how_56
    · have hf := it_f (fun h9 => h9 c7) hf
      refine lv_iload hx hb dX6_how_48 (lv_at hl 0 rfl) ?_
      refine lv_goto (tgt := 56) hx hb dX6_how_50 (by decide) ?_
      have e9 := Option.some.inj hf
      subst e9
      exact kI_ret S rfl hP hD hS dX6_how_56
  suffices hgo : ∀ (H : Heap) (locs : List Loc), va_P D vwCl (wM cI β mT mW mH mS mR mL mC mZ mA mB KK KN KS KC AN JK JN JS JL MY KP FI TX) H → va_D A (wM cI β mT mW mH mS mR mL mC mZ mA mB KK KN KS KC AN JK JN JS JL MY KP FI TX) → va_S A s.heap H locs → W p l e rm_X6_how s m args below meth c H locs 0 0 (MQ below (kQi D A (wM cI β mT mW mH mS mR mL mC mZ mA mB KK KN KS KC AN JK JN JS JL MY KP FI TX) res) args s 0 0 A) (F0 m 0 ls []) from hgo _ _ hP hD hS
  clear hP hD hS
  intro H locs hP hD hS
  refine lv_iconst (v := (1 : Int32)) hx hb dX6_how_0 (by decide) ?_
  refine lv_aload_n hx hb dX6_how_1 rfl (lv_at hl 0 rfl) ?_
  refine lv_iload_n hx hb dX6_how_2 rfl (lv_at hl 1 rfl) ?_
  obtain ⟨q1, hq1, hf⟩ := bnd hf
  refine kI_callV (As := [.int x1]) (rest := [.int (1 : Int32)]) S hP hD hS (c_X6_symbolOf l D cI β mT mW mH mS mR mL mC mZ mA mB KK KN KS KC AN JK JN JS JL MY KP FI TX x1 q1 hq1) (cwV 1 hts gX6_how_X6_symbolOf rfl rfl rfl (by decide +kernel) ⟨Nat.le_of_ble_eq_true rfl, Nat.le_of_ble_eq_true rfl⟩) 0 rfl rfl rfl hl.1 rfl (Nat.le_of_ble_eq_true rfl) dX6_how_3 ⟨Nat.zero_le _, Nat.zero_le _⟩ (fun H locs hP hD hS => ?_)
  have hP : va_P D vwCl (wM cI β mT mW mH mS mR mL mC mZ mA mB KK KN KS KC AN JK JN JS JL MY KP FI TX) H := hP
  have hD : va_D A (wM cI β mT mW mH mS mR mL mC mZ mA mB KK KN KS KC AN JK JN JS JL MY KP FI TX) := hD
  refine lv_ishl hx hb dX6_how_6 ?_
  refine lv_istore_n (lv' := [(2, .int ((1 : Int32) <<< (q1 &&& 31))), (0, .ref (β 0)), (1, .int x1)]) hx hb dX6_how_7 rfl hl (by decide) rfl (fun ls hl => ?_)
  refine lv_aload_n hx hb dX6_how_8 rfl (lv_at hl 1 rfl) ?_
  refine va_get (D := D) (ci := 7) (v := .ref (β 10)) (C := RX6) (T := TX6) (N := 23) hx hb hts hiX6 hown hK hP 0 rfl rfl 15 (by decide) fl37 (fun _ h9 => h9) rfl dX6_how_9 ?_
  refine lv_aload_n hx hb dX6_how_12 rfl (lv_at hl 1 rfl) ?_
  refine lv_iload_n hx hb dX6_how_13 rfl (lv_at hl 2 rfl) ?_
  obtain ⟨q2, hq2, hf⟩ := bnd hf
  refine kI_callV (As := [.int x1]) (rest := [.ref (β 10)]) S hP hD hS (c_X6_cellOf l D cI β mT mW mH mS mR mL mC mZ mA mB KK KN KS KC AN JK JN JS JL MY KP FI TX x1 q2 hq2) (cwV 1 hts gX6_how_X6_cellOf rfl rfl rfl (by decide +kernel) ⟨Nat.le_of_ble_eq_true rfl, Nat.le_of_ble_eq_true rfl⟩) 0 rfl rfl rfl hl.1 rfl (Nat.le_of_ble_eq_true rfl) dX6_how_14 ⟨Nat.zero_le _, Nat.zero_le _⟩ (fun H locs hP hD hS => ?_)
  have hP : va_P D vwCl (wM cI β mT mW mH mS mR mL mC mZ mA mB KK KN KS KC AN JK JN JS JL MY KP FI TX) H := hP
  have hD : va_D A (wM cI β mT mW mH mS mR mL mC mZ mA mB KK KN KS KC AN JK JN JS JL MY KP FI TX) := hD
  obtain ⟨g3, hf⟩ := gin_some hf
  refine va_iald hx hb hK hP 10 0 rfl rfl g3 dX6_how_17 ?_
  refine lv_istore_n (lv' := [(3, .int (MY q2.toNatClampNeg)), (2, .int ((1 : Int32) <<< (q1 &&& 31))), (0, .ref (β 0)), (1, .int x1)]) hx hb dX6_how_18 rfl hl (by decide) rfl (fun ls hl => ?_)
  refine lv_iload_n hx hb dX6_how_19 rfl (lv_at hl 0 rfl) ?_
  refine lv_iload_n hx hb dX6_how_20 rfl (lv_at hl 1 rfl) ?_
  refine lv_icmp_ne (tgt := 28) hx hb dX6_how_21 (by decide) (fun c4 => ?_) (fun c4 => ?_)
  · have hf := it_t c4 hf
    refine lv_iload_n hx hb dX6_how_28 rfl (lv_at hl 0 rfl) ?_
    refine lv_iload_n hx hb dX6_how_29 rfl (lv_at hl 1 rfl) ?_
    refine lv_iand hx hb dX6_how_30 ?_
    refine lv_if_ne (tgt := 38) hx hb dX6_how_31 (by decide) (fun c5 => ?_) (fun c5 => ?_)
    · have hf := it_t c5 hf
      refine lv_iconst (v := (0 : Int32)) hx hb dX6_how_38 (by decide) ?_
      exact w39 _ _ H locs ls hf hP hD hS (lv_sub hl [3] rfl)
    · have hf := it_f (fun h9 => h9 c5) hf
      refine lv_iconst (v := (-1 : Int32)) hx hb dX6_how_34 (by decide) ?_
      refine lv_goto (tgt := 39) hx hb dX6_how_35 (by decide) ?_
      exact w39 _ _ H locs ls hf hP hD hS (lv_sub hl [3] rfl)
  · have hf := it_f (fun h9 => h9 c4) hf
    refine lv_iconst (v := (1 : Int32)) hx hb dX6_how_24 (by decide) ?_
    refine lv_goto (tgt := 39) hx hb dX6_how_25 (by decide) ?_
    exact w39 _ _ H locs ls hf hP hD hS (lv_sub hl [3] rfl)
abbrev rm_X6_units : Room := { frames := 2, cells := 0, slots := 0, locals := 45 }
set_option maxHeartbeats 4000000 in
set_option maxRecDepth 100000 in
theorem c_X6_units (l : Launch) (D : va_G) (cI : ClassId) (β : Nat → Nat) (mT mW mH mS mR mL mC mZ mA mB : Int32) (KK KN KS KC AN JK JN JS JL MY KP FI TX : Nat → Int32) (F : Nat) (x1 : Int32) (res : Int32 × (Nat → Int32)) (hf : f_X6_units mS JS JL F mC MY x1 = some res) : kV l yX6_units wsX6_units rm_X6_units D cI [.ref (β 0), .int x1] (wM cI β mT mW mH mS mR mL mC mZ mA mB KK KN KS KC AN JK JN JS JL MY KP FI TX) (wM cI β mT mW mH mS mR mL res.1 mZ mA mB KK KN KS KC AN JK JN JS JL res.2 KP FI TX) := by
  unfold f_X6_units at hf
  refine kV_of (cc := cX6_units) (maxL := 9) (ret := none) (by decide +kernel) rfl (Nat.le_of_ble_eq_true rfl) ?_
  intro p e s m args below meth c A ls S hP hD hS hl
  have S : kC p s m args meth c cX6_units 9 wsX6_units RX6 none D cI A := S
  have hx := S.1.1
  have hb := S.1.2.1
  have hml := S.1.2.2.1
  have hown : s.vm.findClass RX6 = some m.cls := S.1.2.2.2.1
  have hts := S.1.2.2.2.2
  have hK := S.2.2.2.1
  have hnk := S.2.2.2.2.1.2
  have hiX6 : ∀ w ∈ u_ws RX6 TX6 23, w ∈ wsX6_units := by decide +kernel
  have fl31 := hts (.fieldLink RX6 31 "ProofCheckerModel" "lineSize" "[I") (by decide +kernel)
  have fl34 := hts (.fieldLink RX6 34 "ProofCheckerModel" "literal" "[I") (by decide +kernel)
  have fl134 := hts (.fieldLink RX6 134 "ProofCheckerModel" "cannot" "Z") (by decide +kernel)
  have hl : lv_has ls 9 [(0, .ref (β 0)), (1, .int x1)] := hl
  have w174 : ∀ (k13 : Int32 → Int32 → Int32 → (Nat → Int32) → Option (Int32 × (Nat → Int32))) (hk13 : ∀ (x1 : Int32) (x2 : Int32) (mC : Int32) (MY : Nat → Int32) (H : Heap) (locs : List Loc) (ls : Array Slot), k13 x1 x2 mC MY = some res → va_P D vwCl (wM cI β mT mW mH mS mR mL mC mZ mA mB KK KN KS KC AN JK JN JS JL MY KP FI TX) H → va_D A (wM cI β mT mW mH mS mR mL mC mZ mA mB KK KN KS KC AN JK JN JS JL MY KP FI TX) → va_S A s.heap H locs → lv_has ls 9 [(0, .ref (β 0)), (1, .int x1), (2, .int x2)] → W p l e rm_X6_units s m args below meth c H locs 0 0 (MQ below (kQv D A (wM cI β mT mW mH mS mR mL res.1 mZ mA mB KK KN KS KC AN JK JN JS JL res.2 KP FI TX)) args s 0 0 A) (F0 m 13 ls [])), ∀ (t0 : Int32) (x1 : Int32) (mC : Int32) (MY : Nat → Int32) (H : Heap) (locs : List Loc) (ls : Array Slot), f_X6_units_J174 mS JS JL k13 F t0 x1 mC MY = some res → va_P D vwCl (wM cI β mT mW mH mS mR mL mC mZ mA mB KK KN KS KC AN JK JN JS JL MY KP FI TX) H → va_D A (wM cI β mT mW mH mS mR mL mC mZ mA mB KK KN KS KC AN JK JN JS JL MY KP FI TX) → va_S A s.heap H locs → lv_has ls 9 [(0, .ref (β 0)), (1, .int x1)] → W p l e rm_X6_units s m args below meth c H locs 0 0 (MQ below (kQv D A (wM cI β mT mW mH mS mR mL res.1 mZ mA mB KK KN KS KC AN JK JN JS JL res.2 KP FI TX)) args s 0 0 A) (F0 m 174 ls [.int t0]) := by
    intro k13 hk13 t0 x1 mC MY H locs ls hf hP hD hS hl
    unfold f_X6_units_J174 at hf
    refine lv_istore_n (lv' := [(2, .int t0), (0, .ref (β 0)), (1, .int x1)]) hx hb dX6_units_174 rfl hl (by decide) rfl (fun ls hl => ?_)
    refine lv_goto (tgt := 13) hx hb dX6_units_175 (by decide) ?_
    exact hk13 _ _ _ _ H locs ls hf hP hD hS (lv_sub hl [1, 2, 0] rfl)
  have w173 : ∀ (k13 : Int32 → Int32 → Int32 → (Nat → Int32) → Option (Int32 × (Nat → Int32))) (hk13 : ∀ (x1 : Int32) (x2 : Int32) (mC : Int32) (MY : Nat → Int32) (H : Heap) (locs : List Loc) (ls : Array Slot), k13 x1 x2 mC MY = some res → va_P D vwCl (wM cI β mT mW mH mS mR mL mC mZ mA mB KK KN KS KC AN JK JN JS JL MY KP FI TX) H → va_D A (wM cI β mT mW mH mS mR mL mC mZ mA mB KK KN KS KC AN JK JN JS JL MY KP FI TX) → va_S A s.heap H locs → lv_has ls 9 [(0, .ref (β 0)), (1, .int x1), (2, .int x2)] → W p l e rm_X6_units s m args below meth c H locs 0 0 (MQ below (kQv D A (wM cI β mT mW mH mS mR mL res.1 mZ mA mB KK KN KS KC AN JK JN JS JL res.2 KP FI TX)) args s 0 0 A) (F0 m 13 ls [])), ∀ (x1 : Int32) (mC : Int32) (MY : Nat → Int32) (H : Heap) (locs : List Loc) (ls : Array Slot), f_X6_units_J173 mS JS JL k13 F x1 mC MY = some res → va_P D vwCl (wM cI β mT mW mH mS mR mL mC mZ mA mB KK KN KS KC AN JK JN JS JL MY KP FI TX) H → va_D A (wM cI β mT mW mH mS mR mL mC mZ mA mB KK KN KS KC AN JK JN JS JL MY KP FI TX) → va_S A s.heap H locs → lv_has ls 9 [(0, .ref (β 0)), (1, .int x1)] → W p l e rm_X6_units s m args below meth c H locs 0 0 (MQ below (kQv D A (wM cI β mT mW mH mS mR mL res.1 mZ mA mB KK KN KS KC AN JK JN JS JL res.2 KP FI TX)) args s 0 0 A) (F0 m 173 ls []) := by
    intro k13 hk13 x1 mC MY H locs ls hf hP hD hS hl
    unfold f_X6_units_J173 at hf
    refine lv_iconst (v := (0 : Int32)) hx hb dX6_units_173 (by decide) ?_
    exact w174 k13 hk13 _ _ _ _ H locs ls hf hP hD hS (lv_sub hl [0, 1] rfl)
  have w158 : ∀ (k13 : Int32 → Int32 → Int32 → (Nat → Int32) → Option (Int32 × (Nat → Int32))) (hk13 : ∀ (x1 : Int32) (x2 : Int32) (mC : Int32) (MY : Nat → Int32) (H : Heap) (locs : List Loc) (ls : Array Slot), k13 x1 x2 mC MY = some res → va_P D vwCl (wM cI β mT mW mH mS mR mL mC mZ mA mB KK KN KS KC AN JK JN JS JL MY KP FI TX) H → va_D A (wM cI β mT mW mH mS mR mL mC mZ mA mB KK KN KS KC AN JK JN JS JL MY KP FI TX) → va_S A s.heap H locs → lv_has ls 9 [(0, .ref (β 0)), (1, .int x1), (2, .int x2)] → W p l e rm_X6_units s m args below meth c H locs 0 0 (MQ below (kQv D A (wM cI β mT mW mH mS mR mL res.1 mZ mA mB KK KN KS KC AN JK JN JS JL res.2 KP FI TX)) args s 0 0 A) (F0 m 13 ls [])), ∀ (x1 : Int32) (x2 : Int32) (mC : Int32) (MY : Nat → Int32) (H : Heap) (locs : List Loc) (ls : Array Slot), f_X6_units_J158 mS JS JL k13 F x1 x2 mC MY = some res → va_P D vwCl (wM cI β mT mW mH mS mR mL mC mZ mA mB KK KN KS KC AN JK JN JS JL MY KP FI TX) H → va_D A (wM cI β mT mW mH mS mR mL mC mZ mA mB KK KN KS KC AN JK JN JS JL MY KP FI TX) → va_S A s.heap H locs → lv_has ls 9 [(0, .ref (β 0)), (1, .int x1), (2, .int x2)] → W p l e rm_X6_units s m args below meth c H locs 0 0 (MQ below (kQv D A (wM cI β mT mW mH mS mR mL res.1 mZ mA mB KK KN KS KC AN JK JN JS JL res.2 KP FI TX)) args s 0 0 A) (F0 m 158 ls []) := by
    intro k13 hk13 x1 x2 mC MY H locs ls hf hP hD hS hl
    unfold f_X6_units_J158 at hf
    refine lv_iload_n hx hb dX6_units_158 rfl (lv_at hl 2 rfl) ?_
    refine lv_if_eq (tgt := 173) hx hb dX6_units_159 (by decide) (fun c5 => ?_) (fun c5 => ?_)
    · have hf := it_t c5 hf
      exact w173 k13 hk13 _ _ _ H locs ls hf hP hD hS (lv_sub hl [0, 1] rfl)
    · have hf := it_f c5 hf
      refine lv_aload_n hx hb dX6_units_162 rfl (lv_at hl 0 rfl) ?_
      refine va_get (D := D) (ci := 7) (v := .int mC) (C := RX6) (T := TX6) (N := 23) hx hb hts hiX6 hown hK hP 0 rfl rfl 17 (by decide) fl134 (fun _ h9 => h9) rfl dX6_units_163 ?_
      refine lv_if_ne (tgt := 173) hx hb dX6_units_166 (by decide) (fun c6 => ?_) (fun c6 => ?_)
      · have hf := it_t c6 hf
        exact w173 k13 hk13 _ _ _ H locs ls hf hP hD hS (lv_sub hl [0, 1] rfl)
      · have hf := it_f (fun h9 => h9 c6) hf
        refine lv_iconst (v := (1 : Int32)) hx hb dX6_units_169 (by decide) ?_
        refine lv_goto (tgt := 174) hx hb dX6_units_170 (by decide) ?_
        exact w174 k13 hk13 _ _ _ _ H locs ls hf hP hD hS (lv_sub hl [0, 1] rfl)
  have w152 : ∀ (k13 : Int32 → Int32 → Int32 → (Nat → Int32) → Option (Int32 × (Nat → Int32))) (hk13 : ∀ (x1 : Int32) (x2 : Int32) (mC : Int32) (MY : Nat → Int32) (H : Heap) (locs : List Loc) (ls : Array Slot), k13 x1 x2 mC MY = some res → va_P D vwCl (wM cI β mT mW mH mS mR mL mC mZ mA mB KK KN KS KC AN JK JN JS JL MY KP FI TX) H → va_D A (wM cI β mT mW mH mS mR mL mC mZ mA mB KK KN KS KC AN JK JN JS JL MY KP FI TX) → va_S A s.heap H locs → lv_has ls 9 [(0, .ref (β 0)), (1, .int x1), (2, .int x2)] → W p l e rm_X6_units s m args below meth c H locs 0 0 (MQ below (kQv D A (wM cI β mT mW mH mS mR mL res.1 mZ mA mB KK KN KS KC AN JK JN JS JL res.2 KP FI TX)) args s 0 0 A) (F0 m 13 ls [])), ∀ (k21 : Int32 → Int32 → Int32 → Int32 → (Nat → Int32) → Option (Int32 × (Nat → Int32))) (hk21 : ∀ (x1 : Int32) (x2 : Int32) (x3 : Int32) (mC : Int32) (MY : Nat → Int32) (H : Heap) (locs : List Loc) (ls : Array Slot), k21 x1 x2 x3 mC MY = some res → va_P D vwCl (wM cI β mT mW mH mS mR mL mC mZ mA mB KK KN KS KC AN JK JN JS JL MY KP FI TX) H → va_D A (wM cI β mT mW mH mS mR mL mC mZ mA mB KK KN KS KC AN JK JN JS JL MY KP FI TX) → va_S A s.heap H locs → lv_has ls 9 [(0, .ref (β 0)), (1, .int x1), (2, .int x2), (3, .int x3)] → W p l e rm_X6_units s m args below meth c H locs 0 0 (MQ below (kQv D A (wM cI β mT mW mH mS mR mL res.1 mZ mA mB KK KN KS KC AN JK JN JS JL res.2 KP FI TX)) args s 0 0 A) (F0 m 21 ls [])), ∀ (x1 : Int32) (x2 : Int32) (x3 : Int32) (mC : Int32) (MY : Nat → Int32) (H : Heap) (locs : List Loc) (ls : Array Slot), f_X6_units_J152 mS JS JL k13 k21 F x1 x2 x3 mC MY = some res → va_P D vwCl (wM cI β mT mW mH mS mR mL mC mZ mA mB KK KN KS KC AN JK JN JS JL MY KP FI TX) H → va_D A (wM cI β mT mW mH mS mR mL mC mZ mA mB KK KN KS KC AN JK JN JS JL MY KP FI TX) → va_S A s.heap H locs → lv_has ls 9 [(0, .ref (β 0)), (1, .int x1), (2, .int x2), (3, .int x3)] → W p l e rm_X6_units s m args below meth c H locs 0 0 (MQ below (kQv D A (wM cI β mT mW mH mS mR mL res.1 mZ mA mB KK KN KS KC AN JK JN JS JL res.2 KP FI TX)) args s 0 0 A) (F0 m 152 ls []) := by
    intro k13 hk13 k21 hk21 x1 x2 x3 mC MY H locs ls hf hP hD hS hl
    unfold f_X6_units_J152 at hf
    refine lv_iinc (v := (x3 + (1 : Int32))) (lv' := [(3, .int (x3 + (1 : Int32))), (0, .ref (β 0)), (1, .int x1), (2, .int x2)]) hx hb dX6_units_152 hl (k := 3) rfl rfl (by decide) rfl (fun ls hl => ?_)
    refine lv_goto (tgt := 21) hx hb dX6_units_155 (by decide) ?_
    exact hk21 _ _ _ _ _ H locs ls hf hP hD hS (lv_sub hl [1, 2, 3, 0] rfl)
  have w111 : ∀ (k13 : Int32 → Int32 → Int32 → (Nat → Int32) → Option (Int32 × (Nat → Int32))) (hk13 : ∀ (x1 : Int32) (x2 : Int32) (mC : Int32) (MY : Nat → Int32) (H : Heap) (locs : List Loc) (ls : Array Slot), k13 x1 x2 mC MY = some res → va_P D vwCl (wM cI β mT mW mH mS mR mL mC mZ mA mB KK KN KS KC AN JK JN JS JL MY KP FI TX) H → va_D A (wM cI β mT mW mH mS mR mL mC mZ mA mB KK KN KS KC AN JK JN JS JL MY KP FI TX) → va_S A s.heap H locs → lv_has ls 9 [(0, .ref (β 0)), (1, .int x1), (2, .int x2)] → W p l e rm_X6_units s m args below meth c H locs 0 0 (MQ below (kQv D A (wM cI β mT mW mH mS mR mL res.1 mZ mA mB KK KN KS KC AN JK JN JS JL res.2 KP FI TX)) args s 0 0 A) (F0 m 13 ls [])), ∀ (k21 : Int32 → Int32 → Int32 → Int32 → (Nat → Int32) → Option (Int32 × (Nat → Int32))) (hk21 : ∀ (x1 : Int32) (x2 : Int32) (x3 : Int32) (mC : Int32) (MY : Nat → Int32) (H : Heap) (locs : List Loc) (ls : Array Slot), k21 x1 x2 x3 mC MY = some res → va_P D vwCl (wM cI β mT mW mH mS mR mL mC mZ mA mB KK KN KS KC AN JK JN JS JL MY KP FI TX) H → va_D A (wM cI β mT mW mH mS mR mL mC mZ mA mB KK KN KS KC AN JK JN JS JL MY KP FI TX) → va_S A s.heap H locs → lv_has ls 9 [(0, .ref (β 0)), (1, .int x1), (2, .int x2), (3, .int x3)] → W p l e rm_X6_units s m args below meth c H locs 0 0 (MQ below (kQv D A (wM cI β mT mW mH mS mR mL res.1 mZ mA mB KK KN KS KC AN JK JN JS JL res.2 KP FI TX)) args s 0 0 A) (F0 m 21 ls [])), ∀ (k45 : Int32 → Int32 → Int32 → Int32 → Int32 → Int32 → Int32 → Int32 → (Nat → Int32) → Option (Int32 × (Nat → Int32))) (hk45 : ∀ (x1 : Int32) (x2 : Int32) (x3 : Int32) (x4 : Int32) (x5 : Int32) (x6 : Int32) (x7 : Int32) (mC : Int32) (MY : Nat → Int32) (H : Heap) (locs : List Loc) (ls : Array Slot), k45 x1 x2 x3 x4 x5 x6 x7 mC MY = some res → va_P D vwCl (wM cI β mT mW mH mS mR mL mC mZ mA mB KK KN KS KC AN JK JN JS JL MY KP FI TX) H → va_D A (wM cI β mT mW mH mS mR mL mC mZ mA mB KK KN KS KC AN JK JN JS JL MY KP FI TX) → va_S A s.heap H locs → lv_has ls 9 [(0, .ref (β 0)), (1, .int x1), (2, .int x2), (3, .int x3), (4, .int x4), (5, .int x5), (6, .int x6), (7, .int x7)] → W p l e rm_X6_units s m args below meth c H locs 0 0 (MQ below (kQv D A (wM cI β mT mW mH mS mR mL res.1 mZ mA mB KK KN KS KC AN JK JN JS JL res.2 KP FI TX)) args s 0 0 A) (F0 m 45 ls [])), ∀ (x1 : Int32) (x2 : Int32) (x3 : Int32) (x4 : Int32) (x5 : Int32) (x6 : Int32) (x7 : Int32) (mC : Int32) (MY : Nat → Int32) (H : Heap) (locs : List Loc) (ls : Array Slot), f_X6_units_J111 mS JS JL k13 k21 k45 F x1 x2 x3 x4 x5 x6 x7 mC MY = some res → va_P D vwCl (wM cI β mT mW mH mS mR mL mC mZ mA mB KK KN KS KC AN JK JN JS JL MY KP FI TX) H → va_D A (wM cI β mT mW mH mS mR mL mC mZ mA mB KK KN KS KC AN JK JN JS JL MY KP FI TX) → va_S A s.heap H locs → lv_has ls 9 [(0, .ref (β 0)), (1, .int x1), (2, .int x2), (3, .int x3), (4, .int x4), (5, .int x5), (6, .int x6), (7, .int x7)] → W p l e rm_X6_units s m args below meth c H locs 0 0 (MQ below (kQv D A (wM cI β mT mW mH mS mR mL res.1 mZ mA mB KK KN KS KC AN JK JN JS JL res.2 KP FI TX)) args s 0 0 A) (F0 m 111 ls []) := by
    intro k13 hk13 k21 hk21 k45 hk45 x1 x2 x3 x4 x5 x6 x7 mC MY H locs ls hf hP hD hS hl
    unfold f_X6_units_J111 at hf
    refine lv_iinc (v := (x7 + (1 : Int32))) (lv' := [(7, .int (x7 + (1 : Int32))), (0, .ref (β 0)), (1, .int x1), (2, .int x2), (3, .int x3), (4, .int x4), (5, .int x5), (6, .int x6)]) hx hb dX6_units_111 hl (k := 7) rfl rfl (by decide) rfl (fun ls hl => ?_)
    refine lv_goto (tgt := 45) hx hb dX6_units_114 (by decide) ?_
    exact hk45 _ _ _ _ _ _ _ _ _ H locs ls hf hP hD hS (lv_sub hl [1, 2, 3, 4, 5, 6, 7, 0] rfl)
  have w90 : ∀ (k13 : Int32 → Int32 → Int32 → (Nat → Int32) → Option (Int32 × (Nat → Int32))) (hk13 : ∀ (x1 : Int32) (x2 : Int32) (mC : Int32) (MY : Nat → Int32) (H : Heap) (locs : List Loc) (ls : Array Slot), k13 x1 x2 mC MY = some res → va_P D vwCl (wM cI β mT mW mH mS mR mL mC mZ mA mB KK KN KS KC AN JK JN JS JL MY KP FI TX) H → va_D A (wM cI β mT mW mH mS mR mL mC mZ mA mB KK KN KS KC AN JK JN JS JL MY KP FI TX) → va_S A s.heap H locs → lv_has ls 9 [(0, .ref (β 0)), (1, .int x1), (2, .int x2)] → W p l e rm_X6_units s m args below meth c H locs 0 0 (MQ below (kQv D A (wM cI β mT mW mH mS mR mL res.1 mZ mA mB KK KN KS KC AN JK JN JS JL res.2 KP FI TX)) args s 0 0 A) (F0 m 13 ls [])), ∀ (k21 : Int32 → Int32 → Int32 → Int32 → (Nat → Int32) → Option (Int32 × (Nat → Int32))) (hk21 : ∀ (x1 : Int32) (x2 : Int32) (x3 : Int32) (mC : Int32) (MY : Nat → Int32) (H : Heap) (locs : List Loc) (ls : Array Slot), k21 x1 x2 x3 mC MY = some res → va_P D vwCl (wM cI β mT mW mH mS mR mL mC mZ mA mB KK KN KS KC AN JK JN JS JL MY KP FI TX) H → va_D A (wM cI β mT mW mH mS mR mL mC mZ mA mB KK KN KS KC AN JK JN JS JL MY KP FI TX) → va_S A s.heap H locs → lv_has ls 9 [(0, .ref (β 0)), (1, .int x1), (2, .int x2), (3, .int x3)] → W p l e rm_X6_units s m args below meth c H locs 0 0 (MQ below (kQv D A (wM cI β mT mW mH mS mR mL res.1 mZ mA mB KK KN KS KC AN JK JN JS JL res.2 KP FI TX)) args s 0 0 A) (F0 m 21 ls [])), ∀ (k45 : Int32 → Int32 → Int32 → Int32 → Int32 → Int32 → Int32 → Int32 → (Nat → Int32) → Option (Int32 × (Nat → Int32))) (hk45 : ∀ (x1 : Int32) (x2 : Int32) (x3 : Int32) (x4 : Int32) (x5 : Int32) (x6 : Int32) (x7 : Int32) (mC : Int32) (MY : Nat → Int32) (H : Heap) (locs : List Loc) (ls : Array Slot), k45 x1 x2 x3 x4 x5 x6 x7 mC MY = some res → va_P D vwCl (wM cI β mT mW mH mS mR mL mC mZ mA mB KK KN KS KC AN JK JN JS JL MY KP FI TX) H → va_D A (wM cI β mT mW mH mS mR mL mC mZ mA mB KK KN KS KC AN JK JN JS JL MY KP FI TX) → va_S A s.heap H locs → lv_has ls 9 [(0, .ref (β 0)), (1, .int x1), (2, .int x2), (3, .int x3), (4, .int x4), (5, .int x5), (6, .int x6), (7, .int x7)] → W p l e rm_X6_units s m args below meth c H locs 0 0 (MQ below (kQv D A (wM cI β mT mW mH mS mR mL res.1 mZ mA mB KK KN KS KC AN JK JN JS JL res.2 KP FI TX)) args s 0 0 A) (F0 m 45 ls [])), ∀ (t0 : Int32) (x1 : Int32) (x2 : Int32) (x3 : Int32) (x4 : Int32) (x5 : Int32) (x7 : Int32) (x8 : Int32) (mC : Int32) (MY : Nat → Int32) (H : Heap) (locs : List Loc) (ls : Array Slot), f_X6_units_J90 mS JS JL k13 k21 k45 F t0 x1 x2 x3 x4 x5 x7 x8 mC MY = some res → va_P D vwCl (wM cI β mT mW mH mS mR mL mC mZ mA mB KK KN KS KC AN JK JN JS JL MY KP FI TX) H → va_D A (wM cI β mT mW mH mS mR mL mC mZ mA mB KK KN KS KC AN JK JN JS JL MY KP FI TX) → va_S A s.heap H locs → lv_has ls 9 [(0, .ref (β 0)), (1, .int x1), (2, .int x2), (3, .int x3), (4, .int x4), (5, .int x5), (7, .int x7), (8, .int x8)] → W p l e rm_X6_units s m args below meth c H locs 0 0 (MQ below (kQv D A (wM cI β mT mW mH mS mR mL res.1 mZ mA mB KK KN KS KC AN JK JN JS JL res.2 KP FI TX)) args s 0 0 A) (F0 m 90 ls [.int t0]) := by
    intro k13 hk13 k21 hk21 k45 hk45 t0 x1 x2 x3 x4 x5 x7 x8 mC MY H locs ls hf hP hD hS hl
    unfold f_X6_units_J90 at hf
    refine lv_istore (lv' := [(6, .int t0), (0, .ref (β 0)), (1, .int x1), (2, .int x2), (3, .int x3), (4, .int x4), (5, .int x5), (7, .int x7), (8, .int x8)]) hx hb dX6_units_90 hl (by decide) rfl (fun ls hl => ?_)
    refine lv_aload_n hx hb dX6_units_92 rfl (lv_at hl 1 rfl) ?_
    refine lv_iload hx hb dX6_units_93 (lv_at hl 8 rfl) ?_
    obtain ⟨q17, hq17, hf⟩ := bnd hf
    refine kI_callV (As := [.int x8]) (rest := []) S hP hD hS (c_X6_how l D cI β mT mW mH mS mR mL mC mZ mA mB KK KN KS KC AN JK JN JS JL MY KP FI TX x8 q17 hq17) (cwV 1 hts gX6_units_X6_how rfl rfl rfl (by decide +kernel) ⟨Nat.le_of_ble_eq_true rfl, Nat.le_of_ble_eq_true rfl⟩) 0 rfl rfl rfl hl.1 rfl (Nat.le_of_ble_eq_true rfl) dX6_units_95 ⟨Nat.zero_le _, Nat.zero_le _⟩ (fun H locs hP hD hS => ?_)
    have hP : va_P D vwCl (wM cI β mT mW mH mS mR mL mC mZ mA mB KK KN KS KC AN JK JN JS JL MY KP FI TX) H := hP
    have hD : va_D A (wM cI β mT mW mH mS mR mL mC mZ mA mB KK KN KS KC AN JK JN JS JL MY KP FI TX) := hD
    refine lv_if_eq (tgt := 104) hx hb dX6_units_98 (by decide) (fun c18 => ?_) (fun c18 => ?_)
    · have hf := it_t c18 hf
      refine lv_iload hx hb dX6_units_104 (lv_at hl 8 rfl) ?_
      refine lv_istore (lv' := [(4, .int x8), (6, .int t0), (0, .ref (β 0)), (1, .int x1), (2, .int x2), (3, .int x3), (5, .int x5), (7, .int x7), (8, .int x8)]) hx hb dX6_units_106 hl (by decide) rfl (fun ls hl => ?_)
      refine lv_iinc (v := (x5 + (1 : Int32))) (lv' := [(5, .int (x5 + (1 : Int32))), (4, .int x8), (6, .int t0), (0, .ref (β 0)), (1, .int x1), (2, .int x2), (3, .int x3), (7, .int x7), (8, .int x8)]) hx hb dX6_units_108 hl (k := 6) rfl rfl (by decide) rfl (fun ls hl => ?_)
      exact w111 k13 hk13 k21 hk21 k45 hk45 _ _ _ _ _ _ _ _ _ H locs ls hf hP hD hS (lv_sub hl [3, 4, 5, 6, 1, 0, 2, 7] rfl)
    · have hf := it_f c18 hf
      refine lv_goto (tgt := 111) hx hb dX6_units_101 (by decide) ?_
      exact w111 k13 hk13 k21 hk21 k45 hk45 _ _ _ _ _ _ _ _ _ H locs ls hf hP hD hS (lv_sub hl [1, 2, 3, 4, 5, 6, 0, 7] rfl)
  have w85 : ∀ (k13 : Int32 → Int32 → Int32 → (Nat → Int32) → Option (Int32 × (Nat → Int32))) (hk13 : ∀ (x1 : Int32) (x2 : Int32) (mC : Int32) (MY : Nat → Int32) (H : Heap) (locs : List Loc) (ls : Array Slot), k13 x1 x2 mC MY = some res → va_P D vwCl (wM cI β mT mW mH mS mR mL mC mZ mA mB KK KN KS KC AN JK JN JS JL MY KP FI TX) H → va_D A (wM cI β mT mW mH mS mR mL mC mZ mA mB KK KN KS KC AN JK JN JS JL MY KP FI TX) → va_S A s.heap H locs → lv_has ls 9 [(0, .ref (β 0)), (1, .int x1), (2, .int x2)] → W p l e rm_X6_units s m args below meth c H locs 0 0 (MQ below (kQv D A (wM cI β mT mW mH mS mR mL res.1 mZ mA mB KK KN KS KC AN JK JN JS JL res.2 KP FI TX)) args s 0 0 A) (F0 m 13 ls [])), ∀ (k21 : Int32 → Int32 → Int32 → Int32 → (Nat → Int32) → Option (Int32 × (Nat → Int32))) (hk21 : ∀ (x1 : Int32) (x2 : Int32) (x3 : Int32) (mC : Int32) (MY : Nat → Int32) (H : Heap) (locs : List Loc) (ls : Array Slot), k21 x1 x2 x3 mC MY = some res → va_P D vwCl (wM cI β mT mW mH mS mR mL mC mZ mA mB KK KN KS KC AN JK JN JS JL MY KP FI TX) H → va_D A (wM cI β mT mW mH mS mR mL mC mZ mA mB KK KN KS KC AN JK JN JS JL MY KP FI TX) → va_S A s.heap H locs → lv_has ls 9 [(0, .ref (β 0)), (1, .int x1), (2, .int x2), (3, .int x3)] → W p l e rm_X6_units s m args below meth c H locs 0 0 (MQ below (kQv D A (wM cI β mT mW mH mS mR mL res.1 mZ mA mB KK KN KS KC AN JK JN JS JL res.2 KP FI TX)) args s 0 0 A) (F0 m 21 ls [])), ∀ (k45 : Int32 → Int32 → Int32 → Int32 → Int32 → Int32 → Int32 → Int32 → (Nat → Int32) → Option (Int32 × (Nat → Int32))) (hk45 : ∀ (x1 : Int32) (x2 : Int32) (x3 : Int32) (x4 : Int32) (x5 : Int32) (x6 : Int32) (x7 : Int32) (mC : Int32) (MY : Nat → Int32) (H : Heap) (locs : List Loc) (ls : Array Slot), k45 x1 x2 x3 x4 x5 x6 x7 mC MY = some res → va_P D vwCl (wM cI β mT mW mH mS mR mL mC mZ mA mB KK KN KS KC AN JK JN JS JL MY KP FI TX) H → va_D A (wM cI β mT mW mH mS mR mL mC mZ mA mB KK KN KS KC AN JK JN JS JL MY KP FI TX) → va_S A s.heap H locs → lv_has ls 9 [(0, .ref (β 0)), (1, .int x1), (2, .int x2), (3, .int x3), (4, .int x4), (5, .int x5), (6, .int x6), (7, .int x7)] → W p l e rm_X6_units s m args below meth c H locs 0 0 (MQ below (kQv D A (wM cI β mT mW mH mS mR mL res.1 mZ mA mB KK KN KS KC AN JK JN JS JL res.2 KP FI TX)) args s 0 0 A) (F0 m 45 ls [])), ∀ (x1 : Int32) (x2 : Int32) (x3 : Int32) (x4 : Int32) (x5 : Int32) (x7 : Int32) (x8 : Int32) (mC : Int32) (MY : Nat → Int32) (H : Heap) (locs : List Loc) (ls : Array Slot), f_X6_units_J85 mS JS JL k13 k21 k45 F x1 x2 x3 x4 x5 x7 x8 mC MY = some res → va_P D vwCl (wM cI β mT mW mH mS mR mL mC mZ mA mB KK KN KS KC AN JK JN JS JL MY KP FI TX) H → va_D A (wM cI β mT mW mH mS mR mL mC mZ mA mB KK KN KS KC AN JK JN JS JL MY KP FI TX) → va_S A s.heap H locs → lv_has ls 9 [(0, .ref (β 0)), (1, .int x1), (2, .int x2), (3, .int x3), (4, .int x4), (5, .int x5), (7, .int x7), (8, .int x8)] → W p l e rm_X6_units s m args below meth c H locs 0 0 (MQ below (kQv D A (wM cI β mT mW mH mS mR mL res.1 mZ mA mB KK KN KS KC AN JK JN JS JL res.2 KP FI TX)) args s 0 0 A) (F0 m 85 ls []) := by
    intro k13 hk13 k21 hk21 k45 hk45 x1 x2 x3 x4 x5 x7 x8 mC MY H locs ls hf hP hD hS hl
    unfold f_X6_units_J85 at hf
    refine lv_iconst (v := (1 : Int32)) hx hb dX6_units_85 (by decide) ?_
    refine lv_goto (tgt := 90) hx hb dX6_units_86 (by decide) ?_
    exact w90 k13 hk13 k21 hk21 k45 hk45 _ _ _ _ _ _ _ _ _ _ H locs ls hf hP hD hS (lv_sub hl [0, 1, 2, 3, 4, 5, 6, 7] rfl)
  have w45 : ∀ (k13 : Int32 → Int32 → Int32 → (Nat → Int32) → Option (Int32 × (Nat → Int32))) (hk13 : ∀ (x1 : Int32) (x2 : Int32) (mC : Int32) (MY : Nat → Int32) (H : Heap) (locs : List Loc) (ls : Array Slot), k13 x1 x2 mC MY = some res → va_P D vwCl (wM cI β mT mW mH mS mR mL mC mZ mA mB KK KN KS KC AN JK JN JS JL MY KP FI TX) H → va_D A (wM cI β mT mW mH mS mR mL mC mZ mA mB KK KN KS KC AN JK JN JS JL MY KP FI TX) → va_S A s.heap H locs → lv_has ls 9 [(0, .ref (β 0)), (1, .int x1), (2, .int x2)] → W p l e rm_X6_units s m args below meth c H locs 0 0 (MQ below (kQv D A (wM cI β mT mW mH mS mR mL res.1 mZ mA mB KK KN KS KC AN JK JN JS JL res.2 KP FI TX)) args s 0 0 A) (F0 m 13 ls [])), ∀ (k21 : Int32 → Int32 → Int32 → Int32 → (Nat → Int32) → Option (Int32 × (Nat → Int32))) (hk21 : ∀ (x1 : Int32) (x2 : Int32) (x3 : Int32) (mC : Int32) (MY : Nat → Int32) (H : Heap) (locs : List Loc) (ls : Array Slot), k21 x1 x2 x3 mC MY = some res → va_P D vwCl (wM cI β mT mW mH mS mR mL mC mZ mA mB KK KN KS KC AN JK JN JS JL MY KP FI TX) H → va_D A (wM cI β mT mW mH mS mR mL mC mZ mA mB KK KN KS KC AN JK JN JS JL MY KP FI TX) → va_S A s.heap H locs → lv_has ls 9 [(0, .ref (β 0)), (1, .int x1), (2, .int x2), (3, .int x3)] → W p l e rm_X6_units s m args below meth c H locs 0 0 (MQ below (kQv D A (wM cI β mT mW mH mS mR mL res.1 mZ mA mB KK KN KS KC AN JK JN JS JL res.2 KP FI TX)) args s 0 0 A) (F0 m 21 ls [])), ∀ (n : Nat), ∀ (x1 : Int32) (x2 : Int32) (x3 : Int32) (x4 : Int32) (x5 : Int32) (x6 : Int32) (x7 : Int32) (mC : Int32) (MY : Nat → Int32) (H : Heap) (locs : List Loc) (ls : Array Slot), f_X6_units_L45 mS JS JL k13 k21 F n x1 x2 x3 x4 x5 x6 x7 mC MY = some res → va_P D vwCl (wM cI β mT mW mH mS mR mL mC mZ mA mB KK KN KS KC AN JK JN JS JL MY KP FI TX) H → va_D A (wM cI β mT mW mH mS mR mL mC mZ mA mB KK KN KS KC AN JK JN JS JL MY KP FI TX) → va_S A s.heap H locs → lv_has ls 9 [(0, .ref (β 0)), (1, .int x1), (2, .int x2), (3, .int x3), (4, .int x4), (5, .int x5), (6, .int x6), (7, .int x7)] → W p l e rm_X6_units s m args below meth c H locs 0 0 (MQ below (kQv D A (wM cI β mT mW mH mS mR mL res.1 mZ mA mB KK KN KS KC AN JK JN JS JL res.2 KP FI TX)) args s 0 0 A) (F0 m 45 ls []) := by
    intro k13 hk13 k21 hk21 n
    induction n with
    | zero => intro x1 x2 x3 x4 x5 x6 x7 mC MY H locs ls hf; cases hf
    | succ n ih =>
      intro x1 x2 x3 x4 x5 x6 x7 mC MY H locs ls hf hP hD hS hl
      rw [f_X6_units_L45.eq_2] at hf
      refine lv_iload hx hb dX6_units_45 (lv_at hl 7 rfl) ?_
      refine lv_aload_n hx hb dX6_units_47 rfl (lv_at hl 0 rfl) ?_
      refine va_get (D := D) (ci := 7) (v := .ref (β 8)) (C := RX6) (T := TX6) (N := 23) hx hb hts hiX6 hown hK hP 0 rfl rfl 13 (by decide) fl31 (fun _ h9 => h9) rfl dX6_units_48 ?_
      refine lv_iload_n hx hb dX6_units_51 rfl (lv_at hl 3 rfl) ?_
      obtain ⟨g7, hf⟩ := gin_some hf
      refine va_iald hx hb hK hP 8 0 rfl rfl g7 dX6_units_52 ?_
      refine lv_icmp_ge (tgt := 117) hx hb dX6_units_53 (by decide) (fun c8 => ?_) (fun c8 => ?_)
      · have hf := it_t c8 hf
        refine lv_iload hx hb dX6_units_117 (lv_at hl 6 rfl) ?_
        refine lv_if_ne (tgt := 152) hx hb dX6_units_119 (by decide) (fun c9 => ?_) (fun c9 => ?_)
        · have hf := it_t c9 hf
          exact w152 k13 hk13 k21 hk21 _ _ _ _ _ H locs ls hf hP hD hS (lv_sub hl [0, 1, 2, 3] rfl)
        · have hf := it_f (fun h9 => h9 c9) hf
          refine lv_iload hx hb dX6_units_122 (lv_at hl 5 rfl) ?_
          refine lv_iconst (v := (1 : Int32)) hx hb dX6_units_124 (by decide) ?_
          refine lv_icmp_le (tgt := 131) hx hb dX6_units_125 (by decide) (fun c10 => ?_) (fun c10 => ?_)
          · have hf := it_t c10 hf
            refine lv_iload hx hb dX6_units_131 (lv_at hl 5 rfl) ?_
            refine lv_if_ne (tgt := 144) hx hb dX6_units_133 (by decide) (fun c11 => ?_) (fun c11 => ?_)
            · have hf := it_t c11 hf
              refine lv_aload_n hx hb dX6_units_144 rfl (lv_at hl 0 rfl) ?_
              refine lv_iload hx hb dX6_units_145 (lv_at hl 4 rfl) ?_
              obtain ⟨q12, hq12, hf⟩ := bnd hf
              refine kV_callV (As := [.int x4]) (rest := []) S hP hD hS (c_X6_make l D cI β mT mW mH mS mR mL mC mZ mA mB KK KN KS KC AN JK JN JS JL MY KP FI TX x4 q12 hq12) (cwV 1 hts gX6_units_X6_make rfl rfl rfl (by decide +kernel) ⟨Nat.le_of_ble_eq_true rfl, Nat.le_of_ble_eq_true rfl⟩) 0 rfl rfl rfl hl.1 rfl (Nat.le_of_ble_eq_true rfl) dX6_units_147 ⟨Nat.zero_le _, Nat.zero_le _⟩ (fun H locs hP hD hS => ?_)
              have hP : va_P D vwCl (wM cI β mT mW mH mS mR mL q12.1 mZ mA mB KK KN KS KC AN JK JN JS JL q12.2 KP FI TX) H := hP
              have hD : va_D A (wM cI β mT mW mH mS mR mL q12.1 mZ mA mB KK KN KS KC AN JK JN JS JL q12.2 KP FI TX) := hD
              refine lv_iconst (v := (1 : Int32)) hx hb dX6_units_150 (by decide) ?_
              refine lv_istore_n (lv' := [(2, .int (1 : Int32)), (0, .ref (β 0)), (1, .int x1), (3, .int x3), (4, .int x4), (5, .int x5), (6, .int x6), (7, .int x7)]) hx hb dX6_units_151 rfl hl (by decide) rfl (fun ls hl => ?_)
              exact w152 k13 hk13 k21 hk21 _ _ _ _ _ H locs ls hf hP hD hS (lv_sub hl [1, 2, 0, 3] rfl)
            · have hf := it_f (fun h9 => h9 c11) hf
              refine lv_aload_n hx hb dX6_units_136 rfl (lv_at hl 0 rfl) ?_
              refine lv_iconst (v := (1 : Int32)) hx hb dX6_units_137 (by decide) ?_
              refine va_put (D := D) (ci := 7) (v := .int (1 : Int32)) (ty := .boolean) (C := RX6) (T := TX6) (N := 23) hx hb hts hiX6 tyX6 tyX6_ok nmX6 hown hK hP hD hS 0 rfl rfl 17 (by decide) fl134 (fun _ h9 => h9) rfl (by decide +kernel) rfl rfl (Nat.le_of_ble_eq_true rfl) dX6_units_138 (fun H locs hP hD hS => ?_)
              have hP : va_P D vwCl (wM cI β mT mW mH mS mR mL (1 : Int32) mZ mA mB KK KN KS KC AN JK JN JS JL MY KP FI TX) H := hP
              have hD : va_D A (wM cI β mT mW mH mS mR mL (1 : Int32) mZ mA mB KK KN KS KC AN JK JN JS JL MY KP FI TX) := hD
              refine lv_goto (tgt := 152) hx hb dX6_units_141 (by decide) ?_
              exact w152 k13 hk13 k21 hk21 _ _ _ _ _ H locs ls hf hP hD hS (lv_sub hl [0, 1, 2, 3] rfl)
          · have hf := it_f c10 hf
            refine lv_goto (tgt := 152) hx hb dX6_units_128 (by decide) ?_
            exact w152 k13 hk13 k21 hk21 _ _ _ _ _ H locs ls hf hP hD hS (lv_sub hl [0, 1, 2, 3] rfl)
      · have hf := it_f c8 hf
        refine lv_aload_n hx hb dX6_units_56 rfl (lv_at hl 0 rfl) ?_
        refine va_get (D := D) (ci := 7) (v := .ref (β 9)) (C := RX6) (T := TX6) (N := 23) hx hb hts hiX6 hown hK hP 0 rfl rfl 14 (by decide) fl34 (fun _ h9 => h9) rfl dX6_units_57 ?_
        refine lv_bipush (v := (16 : Int32)) hx hb dX6_units_60 (by decide) ?_
        refine lv_iload_n hx hb dX6_units_62 rfl (lv_at hl 3 rfl) ?_
        refine lv_imul hx hb dX6_units_63 ?_
        refine lv_iload hx hb dX6_units_64 (lv_at hl 7 rfl) ?_
        refine lv_iadd hx hb dX6_units_66 ?_
        obtain ⟨g13, hf⟩ := gin_some hf
        refine va_iald hx hb hK hP 9 0 rfl rfl g13 dX6_units_67 ?_
        refine lv_istore (lv' := [(8, .int ((JL ((((16 : Int32) * x3) + x7)).toNatClampNeg))), (0, .ref (β 0)), (1, .int x1), (2, .int x2), (3, .int x3), (4, .int x4), (5, .int x5), (6, .int x6), (7, .int x7)]) hx hb dX6_units_68 hl (by decide) rfl (fun ls hl => ?_)
        refine lv_iload hx hb dX6_units_70 (lv_at hl 7 rfl) ?_
        refine lv_if_ne (tgt := 85) hx hb dX6_units_72 (by decide) (fun c14 => ?_) (fun c14 => ?_)
        · have hf := it_t c14 hf
          exact w85 k13 hk13 k21 hk21 _ ih _ _ _ _ _ _ _ _ _ H locs ls hf hP hD hS (lv_sub hl [1, 2, 3, 4, 5, 6, 8, 0] rfl)
        · have hf := it_f (fun h9 => h9 c14) hf
          refine lv_aload_n hx hb dX6_units_75 rfl (lv_at hl 1 rfl) ?_
          refine lv_iload hx hb dX6_units_76 (lv_at hl 0 rfl) ?_
          obtain ⟨q15, hq15, hf⟩ := bnd hf
          refine kI_callV (As := [.int ((JL ((((16 : Int32) * x3) + x7)).toNatClampNeg))]) (rest := []) S hP hD hS (c_X6_how l D cI β mT mW mH mS mR mL mC mZ mA mB KK KN KS KC AN JK JN JS JL MY KP FI TX ((JL ((((16 : Int32) * x3) + x7)).toNatClampNeg)) q15 hq15) (cwV 1 hts gX6_units_X6_how rfl rfl rfl (by decide +kernel) ⟨Nat.le_of_ble_eq_true rfl, Nat.le_of_ble_eq_true rfl⟩) 0 rfl rfl rfl hl.1 rfl (Nat.le_of_ble_eq_true rfl) dX6_units_78 ⟨Nat.zero_le _, Nat.zero_le _⟩ (fun H locs hP hD hS => ?_)
          have hP : va_P D vwCl (wM cI β mT mW mH mS mR mL mC mZ mA mB KK KN KS KC AN JK JN JS JL MY KP FI TX) H := hP
          have hD : va_D A (wM cI β mT mW mH mS mR mL mC mZ mA mB KK KN KS KC AN JK JN JS JL MY KP FI TX) := hD
          refine lv_iconst (v := (1 : Int32)) hx hb dX6_units_81 (by decide) ?_
          refine lv_icmp_ne (tgt := 89) hx hb dX6_units_82 (by decide) (fun c16 => ?_) (fun c16 => ?_)
          · have hf := it_t c16 hf
            refine lv_iconst (v := (0 : Int32)) hx hb dX6_units_89 (by decide) ?_
            exact w90 k13 hk13 k21 hk21 _ ih _ _ _ _ _ _ _ _ _ _ H locs ls hf hP hD hS (lv_sub hl [1, 2, 3, 4, 5, 6, 8, 0] rfl)
          · have hf := it_f (fun h9 => h9 c16) hf
            exact w85 k13 hk13 k21 hk21 _ ih _ _ _ _ _ _ _ _ _ H locs ls hf hP hD hS (lv_sub hl [1, 2, 3, 4, 5, 6, 8, 0] rfl)
  have w21 : ∀ (k13 : Int32 → Int32 → Int32 → (Nat → Int32) → Option (Int32 × (Nat → Int32))) (hk13 : ∀ (x1 : Int32) (x2 : Int32) (mC : Int32) (MY : Nat → Int32) (H : Heap) (locs : List Loc) (ls : Array Slot), k13 x1 x2 mC MY = some res → va_P D vwCl (wM cI β mT mW mH mS mR mL mC mZ mA mB KK KN KS KC AN JK JN JS JL MY KP FI TX) H → va_D A (wM cI β mT mW mH mS mR mL mC mZ mA mB KK KN KS KC AN JK JN JS JL MY KP FI TX) → va_S A s.heap H locs → lv_has ls 9 [(0, .ref (β 0)), (1, .int x1), (2, .int x2)] → W p l e rm_X6_units s m args below meth c H locs 0 0 (MQ below (kQv D A (wM cI β mT mW mH mS mR mL res.1 mZ mA mB KK KN KS KC AN JK JN JS JL res.2 KP FI TX)) args s 0 0 A) (F0 m 13 ls [])), ∀ (n : Nat), ∀ (x1 : Int32) (x2 : Int32) (x3 : Int32) (mC : Int32) (MY : Nat → Int32) (H : Heap) (locs : List Loc) (ls : Array Slot), f_X6_units_L21 mS JS JL k13 F n x1 x2 x3 mC MY = some res → va_P D vwCl (wM cI β mT mW mH mS mR mL mC mZ mA mB KK KN KS KC AN JK JN JS JL MY KP FI TX) H → va_D A (wM cI β mT mW mH mS mR mL mC mZ mA mB KK KN KS KC AN JK JN JS JL MY KP FI TX) → va_S A s.heap H locs → lv_has ls 9 [(0, .ref (β 0)), (1, .int x1), (2, .int x2), (3, .int x3)] → W p l e rm_X6_units s m args below meth c H locs 0 0 (MQ below (kQv D A (wM cI β mT mW mH mS mR mL res.1 mZ mA mB KK KN KS KC AN JK JN JS JL res.2 KP FI TX)) args s 0 0 A) (F0 m 21 ls []) := by
    intro k13 hk13 n
    induction n with
    | zero => intro x1 x2 x3 mC MY H locs ls hf; cases hf
    | succ n ih =>
      intro x1 x2 x3 mC MY H locs ls hf hP hD hS hl
      rw [f_X6_units_L21.eq_2] at hf
      refine lv_iload_n hx hb dX6_units_21 rfl (lv_at hl 3 rfl) ?_
      refine lv_iload_n hx hb dX6_units_22 rfl (lv_at hl 1 rfl) ?_
      refine lv_icmp_ge (tgt := 158) hx hb dX6_units_23 (by decide) (fun c3 => ?_) (fun c3 => ?_)
      · have hf := it_t c3 hf
        exact w158 k13 hk13 _ _ _ _ H locs ls hf hP hD hS (lv_sub hl [0, 1, 2] rfl)
      · have hf := it_f c3 hf
        refine lv_aload_n hx hb dX6_units_26 rfl (lv_at hl 0 rfl) ?_
        refine va_get (D := D) (ci := 7) (v := .int mC) (C := RX6) (T := TX6) (N := 23) hx hb hts hiX6 hown hK hP 0 rfl rfl 17 (by decide) fl134 (fun _ h9 => h9) rfl dX6_units_27 ?_
        refine lv_if_ne (tgt := 158) hx hb dX6_units_30 (by decide) (fun c4 => ?_) (fun c4 => ?_)
        · have hf := it_t c4 hf
          exact w158 k13 hk13 _ _ _ _ H locs ls hf hP hD hS (lv_sub hl [0, 1, 2] rfl)
        · have hf := it_f (fun h9 => h9 c4) hf
          refine lv_iconst (v := (-1 : Int32)) hx hb dX6_units_33 (by decide) ?_
          refine lv_istore (lv' := [(4, .int (-1 : Int32)), (0, .ref (β 0)), (1, .int x1), (2, .int x2), (3, .int x3)]) hx hb dX6_units_34 hl (by decide) rfl (fun ls hl => ?_)
          refine lv_iconst (v := (0 : Int32)) hx hb dX6_units_36 (by decide) ?_
          refine lv_istore (lv' := [(5, .int (0 : Int32)), (4, .int (-1 : Int32)), (0, .ref (β 0)), (1, .int x1), (2, .int x2), (3, .int x3)]) hx hb dX6_units_37 hl (by decide) rfl (fun ls hl => ?_)
          refine lv_iconst (v := (0 : Int32)) hx hb dX6_units_39 (by decide) ?_
          refine lv_istore (lv' := [(6, .int (0 : Int32)), (5, .int (0 : Int32)), (4, .int (-1 : Int32)), (0, .ref (β 0)), (1, .int x1), (2, .int x2), (3, .int x3)]) hx hb dX6_units_40 hl (by decide) rfl (fun ls hl => ?_)
          refine lv_iconst (v := (0 : Int32)) hx hb dX6_units_42 (by decide) ?_
          refine lv_istore (lv' := [(7, .int (0 : Int32)), (6, .int (0 : Int32)), (5, .int (0 : Int32)), (4, .int (-1 : Int32)), (0, .ref (β 0)), (1, .int x1), (2, .int x2), (3, .int x3)]) hx hb dX6_units_43 hl (by decide) rfl (fun ls hl => ?_)
          exact w45 k13 hk13 _ ih F _ _ _ _ _ _ _ _ _ H locs ls hf hP hD hS (lv_sub hl [4, 5, 6, 7, 3, 2, 1, 0] rfl)
  have w13 : ∀ (n : Nat), ∀ (x1 : Int32) (x2 : Int32) (mC : Int32) (MY : Nat → Int32) (H : Heap) (locs : List Loc) (ls : Array Slot), f_X6_units_L13 mS JS JL F n x1 x2 mC MY = some res → va_P D vwCl (wM cI β mT mW mH mS mR mL mC mZ mA mB KK KN KS KC AN JK JN JS JL MY KP FI TX) H → va_D A (wM cI β mT mW mH mS mR mL mC mZ mA mB KK KN KS KC AN JK JN JS JL MY KP FI TX) → va_S A s.heap H locs → lv_has ls 9 [(0, .ref (β 0)), (1, .int x1), (2, .int x2)] → W p l e rm_X6_units s m args below meth c H locs 0 0 (MQ below (kQv D A (wM cI β mT mW mH mS mR mL res.1 mZ mA mB KK KN KS KC AN JK JN JS JL res.2 KP FI TX)) args s 0 0 A) (F0 m 13 ls []) := by
    intro n
    induction n with
    | zero => intro x1 x2 mC MY H locs ls hf; cases hf
    | succ n ih =>
      intro x1 x2 mC MY H locs ls hf hP hD hS hl
      rw [f_X6_units_L13.eq_2] at hf
      refine lv_iload_n hx hb dX6_units_13 rfl (lv_at hl 2 rfl) ?_
      refine lv_if_eq (tgt := 178) hx hb dX6_units_14 (by decide) (fun c2 => ?_) (fun c2 => ?_)
      · have hf := it_t c2 hf
        have e9 := Option.some.inj hf
        subst e9
        exact kV_ret S hP hD hS dX6_units_178
      · have hf := it_f c2 hf
        refine lv_iconst (v := (0 : Int32)) hx hb dX6_units_17 (by decide) ?_
        refine lv_istore_n (lv' := [(2, .int (0 : Int32)), (0, .ref (β 0)), (1, .int x1)]) hx hb dX6_units_18 rfl hl (by decide) rfl (fun ls hl => ?_)
        refine lv_iconst (v := (0 : Int32)) hx hb dX6_units_19 (by decide) ?_
        refine lv_istore_n (lv' := [(3, .int (0 : Int32)), (2, .int (0 : Int32)), (0, .ref (β 0)), (1, .int x1)]) hx hb dX6_units_20 rfl hl (by decide) rfl (fun ls hl => ?_)
        exact w21 _ ih F _ _ _ _ _ H locs ls hf hP hD hS (lv_sub hl [2, 3, 1, 0] rfl)
  have w12 : ∀ (t0 : Int32) (x1 : Int32) (mC : Int32) (MY : Nat → Int32) (H : Heap) (locs : List Loc) (ls : Array Slot), f_X6_units_J12 mS JS JL F t0 x1 mC MY = some res → va_P D vwCl (wM cI β mT mW mH mS mR mL mC mZ mA mB KK KN KS KC AN JK JN JS JL MY KP FI TX) H → va_D A (wM cI β mT mW mH mS mR mL mC mZ mA mB KK KN KS KC AN JK JN JS JL MY KP FI TX) → va_S A s.heap H locs → lv_has ls 9 [(0, .ref (β 0)), (1, .int x1)] → W p l e rm_X6_units s m args below meth c H locs 0 0 (MQ below (kQv D A (wM cI β mT mW mH mS mR mL res.1 mZ mA mB KK KN KS KC AN JK JN JS JL res.2 KP FI TX)) args s 0 0 A) (F0 m 12 ls [.int t0]) := by
    intro t0 x1 mC MY H locs ls hf hP hD hS hl
    unfold f_X6_units_J12 at hf
    refine lv_istore_n (lv' := [(2, .int t0), (0, .ref (β 0)), (1, .int x1)]) hx hb dX6_units_12 rfl hl (by decide) rfl (fun ls hl => ?_)
    exact w13 F _ _ _ _ H locs ls hf hP hD hS (lv_sub hl [1, 2, 0] rfl)
  suffices hgo : ∀ (H : Heap) (locs : List Loc), va_P D vwCl (wM cI β mT mW mH mS mR mL mC mZ mA mB KK KN KS KC AN JK JN JS JL MY KP FI TX) H → va_D A (wM cI β mT mW mH mS mR mL mC mZ mA mB KK KN KS KC AN JK JN JS JL MY KP FI TX) → va_S A s.heap H locs → W p l e rm_X6_units s m args below meth c H locs 0 0 (MQ below (kQv D A (wM cI β mT mW mH mS mR mL res.1 mZ mA mB KK KN KS KC AN JK JN JS JL res.2 KP FI TX)) args s 0 0 A) (F0 m 0 ls []) from hgo _ _ hP hD hS
  clear hP hD hS
  intro H locs hP hD hS
  refine lv_aload_n hx hb dX6_units_0 rfl (lv_at hl 0 rfl) ?_
  refine va_get (D := D) (ci := 7) (v := .int mC) (C := RX6) (T := TX6) (N := 23) hx hb hts hiX6 hown hK hP 0 rfl rfl 17 (by decide) fl134 (fun _ h9 => h9) rfl dX6_units_1 ?_
  refine lv_if_ne (tgt := 11) hx hb dX6_units_4 (by decide) (fun c1 => ?_) (fun c1 => ?_)
  · have hf := it_t c1 hf
    refine lv_iconst (v := (0 : Int32)) hx hb dX6_units_11 (by decide) ?_
    exact w12 _ _ _ _ H locs ls hf hP hD hS (lv_sub hl [0, 1] rfl)
  · have hf := it_f (fun h9 => h9 c1) hf
    refine lv_iconst (v := (1 : Int32)) hx hb dX6_units_7 (by decide) ?_
    refine lv_goto (tgt := 12) hx hb dX6_units_8 (by decide) ?_
    exact w12 _ _ _ _ H locs ls hf hP hD hS (lv_sub hl [0, 1] rfl)
abbrev rm_X6_turned : Room := { frames := 3, cells := 0, slots := 0, locals := 73 }
set_option maxHeartbeats 4000000 in
set_option maxRecDepth 100000 in
theorem c_X6_turned (l : Launch) (D : va_G) (cI : ClassId) (β : Nat → Nat) (mT mW mH mS mR mL mC mZ mA mB : Int32) (KK KN KS KC AN JK JN JS JL MY KP FI TX : Nat → Int32) (F : Nat) (x1 : Int32) (res : Int32 × (Nat → Int32)) (hf : f_X6_turned mS JS JL F mC MY x1 = some res) : kV l yX6_turned wsX6_turned rm_X6_turned D cI [.ref (β 0), .int x1] (wM cI β mT mW mH mS mR mL mC mZ mA mB KK KN KS KC AN JK JN JS JL MY KP FI TX) (wM cI β mT mW mH mS mR mL res.1 mZ mA mB KK KN KS KC AN JK JN JS JL res.2 KP FI TX) := by
  unfold f_X6_turned at hf
  refine kV_of (cc := cX6_turned) (maxL := 3) (ret := none) (by decide +kernel) rfl (Nat.le_of_ble_eq_true rfl) ?_
  intro p e s m args below meth c A ls S hP hD hS hl
  have S : kC p s m args meth c cX6_turned 3 wsX6_turned RX6 none D cI A := S
  have hx := S.1.1
  have hb := S.1.2.1
  have hml := S.1.2.2.1
  have hown : s.vm.findClass RX6 = some m.cls := S.1.2.2.2.1
  have hts := S.1.2.2.2.2
  have hK := S.2.2.2.1
  have hnk := S.2.2.2.2.1.2
  have hiX6 : ∀ w ∈ u_ws RX6 TX6 23, w ∈ wsX6_turned := by decide +kernel
  have fl31 := hts (.fieldLink RX6 31 "ProofCheckerModel" "lineSize" "[I") (by decide +kernel)
  have fl34 := hts (.fieldLink RX6 34 "ProofCheckerModel" "literal" "[I") (by decide +kernel)
  have hl : lv_has ls 3 [(0, .ref (β 0)), (1, .int x1)] := hl
  have w6 : ∀ (n : Nat), ∀ (x1 : Int32) (x2 : Int32) (mC : Int32) (MY : Nat → Int32) (H : Heap) (locs : List Loc) (ls : Array Slot), f_X6_turned_L6 mS JS JL F n x1 x2 mC MY = some res → va_P D vwCl (wM cI β mT mW mH mS mR mL mC mZ mA mB KK KN KS KC AN JK JN JS JL MY KP FI TX) H → va_D A (wM cI β mT mW mH mS mR mL mC mZ mA mB KK KN KS KC AN JK JN JS JL MY KP FI TX) → va_S A s.heap H locs → lv_has ls 3 [(0, .ref (β 0)), (1, .int x1), (2, .int x2)] → W p l e rm_X6_turned s m args below meth c H locs 0 0 (MQ below (kQv D A (wM cI β mT mW mH mS mR mL res.1 mZ mA mB KK KN KS KC AN JK JN JS JL res.2 KP FI TX)) args s 0 0 A) (F0 m 6 ls []) := by
    intro n
    induction n with
    | zero => intro x1 x2 mC MY H locs ls hf; cases hf
    | succ n ih =>
      intro x1 x2 mC MY H locs ls hf hP hD hS hl
      rw [f_X6_turned_L6.eq_2] at hf
      refine lv_iload_n hx hb dX6_turned_6 rfl (lv_at hl 2 rfl) ?_
      refine lv_aload_n hx hb dX6_turned_7 rfl (lv_at hl 0 rfl) ?_
      refine va_get (D := D) (ci := 7) (v := .ref (β 8)) (C := RX6) (T := TX6) (N := 23) hx hb hts hiX6 hown hK hP 0 rfl rfl 13 (by decide) fl31 (fun _ h9 => h9) rfl dX6_turned_8 ?_
      refine lv_iload_n hx hb dX6_turned_11 rfl (lv_at hl 1 rfl) ?_
      obtain ⟨g2, hf⟩ := gin_some hf
      refine va_iald hx hb hK hP 8 0 rfl rfl g2 dX6_turned_12 ?_
      refine lv_icmp_ge (tgt := 39) hx hb dX6_turned_13 (by decide) (fun c3 => ?_) (fun c3 => ?_)
      · have hf := it_t c3 hf
        refine lv_aload_n hx hb dX6_turned_39 rfl (lv_at hl 0 rfl) ?_
        refine lv_iload_n hx hb dX6_turned_40 rfl (lv_at hl 1 rfl) ?_
        obtain ⟨q4, hq4, hf⟩ := bnd hf
        refine kV_callV (As := [.int x1]) (rest := []) S hP hD hS (c_X6_units l D cI β mT mW mH mS mR mL mC mZ mA mB KK KN KS KC AN JK JN JS JL MY KP FI TX F x1 q4 hq4) (cwV 1 hts gX6_turned_X6_units rfl rfl rfl (by decide +kernel) ⟨Nat.le_of_ble_eq_true rfl, Nat.le_of_ble_eq_true rfl⟩) 0 rfl rfl rfl hl.1 rfl (Nat.le_of_ble_eq_true rfl) dX6_turned_41 ⟨Nat.zero_le _, Nat.zero_le _⟩ (fun H locs hP hD hS => ?_)
        have hP : va_P D vwCl (wM cI β mT mW mH mS mR mL q4.1 mZ mA mB KK KN KS KC AN JK JN JS JL q4.2 KP FI TX) H := hP
        have hD : va_D A (wM cI β mT mW mH mS mR mL q4.1 mZ mA mB KK KN KS KC AN JK JN JS JL q4.2 KP FI TX) := hD
        have e9 := Option.some.inj hf
        subst e9
        exact kV_ret S hP hD hS dX6_turned_44
      · have hf := it_f c3 hf
        refine lv_aload_n hx hb dX6_turned_16 rfl (lv_at hl 0 rfl) ?_
        refine lv_aload_n hx hb dX6_turned_17 rfl (lv_at hl 0 rfl) ?_
        refine va_get (D := D) (ci := 7) (v := .ref (β 9)) (C := RX6) (T := TX6) (N := 23) hx hb hts hiX6 hown hK hP 0 rfl rfl 14 (by decide) fl34 (fun _ h9 => h9) rfl dX6_turned_18 ?_
        refine lv_bipush (v := (16 : Int32)) hx hb dX6_turned_21 (by decide) ?_
        refine lv_iload_n hx hb dX6_turned_23 rfl (lv_at hl 1 rfl) ?_
        refine lv_imul hx hb dX6_turned_24 ?_
        refine lv_iload_n hx hb dX6_turned_25 rfl (lv_at hl 2 rfl) ?_
        refine lv_iadd hx hb dX6_turned_26 ?_
        obtain ⟨g5, hf⟩ := gin_some hf
        refine va_iald hx hb hK hP 9 0 rfl rfl g5 dX6_turned_27 ?_
        refine lv_iconst (v := (1 : Int32)) hx hb dX6_turned_28 (by decide) ?_
        refine lv_ixor hx hb dX6_turned_29 ?_
        obtain ⟨q6, hq6, hf⟩ := bnd hf
        refine kV_callV (As := [.int ((((JL ((((16 : Int32) * x1) + x2)).toNatClampNeg)) ^^^ (1 : Int32)))]) (rest := []) S hP hD hS (c_X6_make l D cI β mT mW mH mS mR mL mC mZ mA mB KK KN KS KC AN JK JN JS JL MY KP FI TX ((((JL ((((16 : Int32) * x1) + x2)).toNatClampNeg)) ^^^ (1 : Int32))) q6 hq6) (cwV 1 hts gX6_turned_X6_make rfl rfl rfl (by decide +kernel) ⟨Nat.le_of_ble_eq_true rfl, Nat.le_of_ble_eq_true rfl⟩) 0 rfl rfl rfl hl.1 rfl (Nat.le_of_ble_eq_true rfl) dX6_turned_30 ⟨Nat.zero_le _, Nat.zero_le _⟩ (fun H locs hP hD hS => ?_)
        have hP : va_P D vwCl (wM cI β mT mW mH mS mR mL q6.1 mZ mA mB KK KN KS KC AN JK JN JS JL q6.2 KP FI TX) H := hP
        have hD : va_D A (wM cI β mT mW mH mS mR mL q6.1 mZ mA mB KK KN KS KC AN JK JN JS JL q6.2 KP FI TX) := hD
        refine lv_iinc (v := (x2 + (1 : Int32))) (lv' := [(2, .int (x2 + (1 : Int32))), (0, .ref (β 0)), (1, .int x1)]) hx hb dX6_turned_33 hl (k := 2) rfl rfl (by decide) rfl (fun ls hl => ?_)
        refine lv_goto (tgt := 6) hx hb dX6_turned_36 (by decide) ?_
        exact ih _ _ _ _ H locs ls hf hP hD hS (lv_sub hl [1, 2, 0] rfl)
  suffices hgo : ∀ (H : Heap) (locs : List Loc), va_P D vwCl (wM cI β mT mW mH mS mR mL mC mZ mA mB KK KN KS KC AN JK JN JS JL MY KP FI TX) H → va_D A (wM cI β mT mW mH mS mR mL mC mZ mA mB KK KN KS KC AN JK JN JS JL MY KP FI TX) → va_S A s.heap H locs → W p l e rm_X6_turned s m args below meth c H locs 0 0 (MQ below (kQv D A (wM cI β mT mW mH mS mR mL res.1 mZ mA mB KK KN KS KC AN JK JN JS JL res.2 KP FI TX)) args s 0 0 A) (F0 m 0 ls []) from hgo _ _ hP hD hS
  clear hP hD hS
  intro H locs hP hD hS
  refine lv_aload_n hx hb dX6_turned_0 rfl (lv_at hl 0 rfl) ?_
  obtain ⟨q1, hq1, hf⟩ := bnd hf
  refine kV_callV (As := []) (rest := []) S hP hD hS (c_X6_all l D cI β mT mW mH mS mR mL mC mZ mA mB KK KN KS KC AN JK JN JS JL MY KP FI TX F q1 hq1) (cwV 0 hts gX6_turned_X6_all rfl rfl rfl (by decide +kernel) ⟨Nat.le_of_ble_eq_true rfl, Nat.le_of_ble_eq_true rfl⟩) 0 rfl rfl rfl hl.1 rfl (Nat.le_of_ble_eq_true rfl) dX6_turned_1 ⟨Nat.zero_le _, Nat.zero_le _⟩ (fun H locs hP hD hS => ?_)
  have hP : va_P D vwCl (wM cI β mT mW mH mS mR mL q1.1 mZ mA mB KK KN KS KC AN JK JN JS JL q1.2 KP FI TX) H := hP
  have hD : va_D A (wM cI β mT mW mH mS mR mL q1.1 mZ mA mB KK KN KS KC AN JK JN JS JL q1.2 KP FI TX) := hD
  refine lv_iconst (v := (0 : Int32)) hx hb dX6_turned_4 (by decide) ?_
  refine lv_istore_n (lv' := [(2, .int (0 : Int32)), (0, .ref (β 0)), (1, .int x1)]) hx hb dX6_turned_5 rfl hl (by decide) rfl (fun ls hl => ?_)
  exact w6 F _ _ _ _ H locs ls hf hP hD hS (lv_sub hl [1, 2, 0] rfl)
abbrev rm_X6_bySplit : Room := { frames := 4, cells := 0, slots := 0, locals := 95 }
set_option maxHeartbeats 4000000 in
set_option maxRecDepth 100000 in
theorem c_X6_bySplit (l : Launch) (D : va_G) (cI : ClassId) (β : Nat → Nat) (mT mW mH mS mR mL mC mZ mA mB : Int32) (KK KN KS KC AN JK JN JS JL MY KP FI TX : Nat → Int32) (F : Nat) (x1 : Int32) (res : Int32 × Int32 × (Nat → Int32) × (Nat → Int32)) (hf : f_X6_bySplit mW mH mS JN JS JL F mC MY KP x1 = some res) : kI l yX6_bySplit wsX6_bySplit rm_X6_bySplit D cI [.ref (β 0), .int x1] (wM cI β mT mW mH mS mR mL mC mZ mA mB KK KN KS KC AN JK JN JS JL MY KP FI TX) (wM cI β mT mW mH mS mR mL res.2.1 mZ mA mB KK KN KS KC AN JK JN JS JL res.2.2.1 res.2.2.2 FI TX) res.1 := by
  unfold f_X6_bySplit at hf
  refine kI_of (cc := cX6_bySplit) (maxL := 5) (ret := (some .boolean)) (by decide +kernel) rfl (Nat.le_of_ble_eq_true rfl) ?_
  intro p e s m args below meth c A ls S hP hD hS hl
  have S : kC p s m args meth c cX6_bySplit 5 wsX6_bySplit RX6 (some .boolean) D cI A := S
  have hx := S.1.1
  have hb := S.1.2.1
  have hml := S.1.2.2.1
  have hown : s.vm.findClass RX6 = some m.cls := S.1.2.2.2.1
  have hts := S.1.2.2.2.2
  have hK := S.2.2.2.1
  have hnk := S.2.2.2.2.1.2
  have hiX6 : ∀ w ∈ u_ws RX6 TX6 23, w ∈ wsX6_bySplit := by decide +kernel
  have fl28 := hts (.fieldLink RX6 28 "ProofCheckerModel" "lineNumber" "[I") (by decide +kernel)
  have fl37 := hts (.fieldLink RX6 37 "ProofCheckerModel" "may" "[I") (by decide +kernel)
  have fl40 := hts (.fieldLink RX6 40 "ProofCheckerModel" "kept" "[I") (by decide +kernel)
  have fl60 := hts (.fieldLink RX6 60 "ProofCheckerModel" "symbols" "I") (by decide +kernel)
  have fl134 := hts (.fieldLink RX6 134 "ProofCheckerModel" "cannot" "Z") (by decide +kernel)
  have hl : lv_has ls 5 [(0, .ref (β 0)), (1, .int x1)] := hl
  have w141 : ∀ (k59 : Int32 → Int32 → Int32 → Int32 → (Nat → Int32) → (Nat → Int32) → Option (Int32 × Int32 × (Nat → Int32) × (Nat → Int32))) (hk59 : ∀ (x1 : Int32) (x2 : Int32) (x3 : Int32) (mC : Int32) (MY : Nat → Int32) (KP : Nat → Int32) (H : Heap) (locs : List Loc) (ls : Array Slot), k59 x1 x2 x3 mC MY KP = some res → va_P D vwCl (wM cI β mT mW mH mS mR mL mC mZ mA mB KK KN KS KC AN JK JN JS JL MY KP FI TX) H → va_D A (wM cI β mT mW mH mS mR mL mC mZ mA mB KK KN KS KC AN JK JN JS JL MY KP FI TX) → va_S A s.heap H locs → lv_has ls 5 [(0, .ref (β 0)), (1, .int x1), (2, .int x2), (3, .int x3)] → W p l e rm_X6_bySplit s m args below meth c H locs 0 0 (MQ below (kQi D A (wM cI β mT mW mH mS mR mL res.2.1 mZ mA mB KK KN KS KC AN JK JN JS JL res.2.2.1 res.2.2.2 FI TX) res.1) args s 0 0 A) (F0 m 59 ls [])), ∀ (x1 : Int32) (x2 : Int32) (x3 : Int32) (mC : Int32) (MY : Nat → Int32) (KP : Nat → Int32) (H : Heap) (locs : List Loc) (ls : Array Slot), f_X6_bySplit_J141 mW mH mS JN JS JL k59 F x1 x2 x3 mC MY KP = some res → va_P D vwCl (wM cI β mT mW mH mS mR mL mC mZ mA mB KK KN KS KC AN JK JN JS JL MY KP FI TX) H → va_D A (wM cI β mT mW mH mS mR mL mC mZ mA mB KK KN KS KC AN JK JN JS JL MY KP FI TX) → va_S A s.heap H locs → lv_has ls 5 [(0, .ref (β 0)), (1, .int x1), (2, .int x2), (3, .int x3)] → W p l e rm_X6_bySplit s m args below meth c H locs 0 0 (MQ below (kQi D A (wM cI β mT mW mH mS mR mL res.2.1 mZ mA mB KK KN KS KC AN JK JN JS JL res.2.2.1 res.2.2.2 FI TX) res.1) args s 0 0 A) (F0 m 141 ls []) := by
    intro k59 hk59 x1 x2 x3 mC MY KP H locs ls hf hP hD hS hl
    unfold f_X6_bySplit_J141 at hf
    refine lv_iinc (v := (x3 + (1 : Int32))) (lv' := [(3, .int (x3 + (1 : Int32))), (0, .ref (β 0)), (1, .int x1), (2, .int x2)]) hx hb dX6_bySplit_141 hl (k := 3) rfl rfl (by decide) rfl (fun ls hl => ?_)
    refine lv_goto (tgt := 59) hx hb dX6_bySplit_144 (by decide) ?_
    exact hk59 _ _ _ _ _ _ H locs ls hf hP hD hS (lv_sub hl [1, 2, 3, 0] rfl)
  have w86 : ∀ (k59 : Int32 → Int32 → Int32 → Int32 → (Nat → Int32) → (Nat → Int32) → Option (Int32 × Int32 × (Nat → Int32) × (Nat → Int32))) (hk59 : ∀ (x1 : Int32) (x2 : Int32) (x3 : Int32) (mC : Int32) (MY : Nat → Int32) (KP : Nat → Int32) (H : Heap) (locs : List Loc) (ls : Array Slot), k59 x1 x2 x3 mC MY KP = some res → va_P D vwCl (wM cI β mT mW mH mS mR mL mC mZ mA mB KK KN KS KC AN JK JN JS JL MY KP FI TX) H → va_D A (wM cI β mT mW mH mS mR mL mC mZ mA mB KK KN KS KC AN JK JN JS JL MY KP FI TX) → va_S A s.heap H locs → lv_has ls 5 [(0, .ref (β 0)), (1, .int x1), (2, .int x2), (3, .int x3)] → W p l e rm_X6_bySplit s m args below meth c H locs 0 0 (MQ below (kQi D A (wM cI β mT mW mH mS mR mL res.2.1 mZ mA mB KK KN KS KC AN JK JN JS JL res.2.2.1 res.2.2.2 FI TX) res.1) args s 0 0 A) (F0 m 59 ls [])), ∀ (n : Nat), ∀ (x1 : Int32) (x2 : Int32) (x3 : Int32) (x4 : Int32) (mC : Int32) (MY : Nat → Int32) (KP : Nat → Int32) (H : Heap) (locs : List Loc) (ls : Array Slot), f_X6_bySplit_L86 mW mH mS JN JS JL k59 F n x1 x2 x3 x4 mC MY KP = some res → va_P D vwCl (wM cI β mT mW mH mS mR mL mC mZ mA mB KK KN KS KC AN JK JN JS JL MY KP FI TX) H → va_D A (wM cI β mT mW mH mS mR mL mC mZ mA mB KK KN KS KC AN JK JN JS JL MY KP FI TX) → va_S A s.heap H locs → lv_has ls 5 [(0, .ref (β 0)), (1, .int x1), (2, .int x2), (3, .int x3), (4, .int x4)] → W p l e rm_X6_bySplit s m args below meth c H locs 0 0 (MQ below (kQi D A (wM cI β mT mW mH mS mR mL res.2.1 mZ mA mB KK KN KS KC AN JK JN JS JL res.2.2.1 res.2.2.2 FI TX) res.1) args s 0 0 A) (F0 m 86 ls []) := by
    intro k59 hk59 n
    induction n with
    | zero => intro x1 x2 x3 x4 mC MY KP H locs ls hf; cases hf
    | succ n ih =>
      intro x1 x2 x3 x4 mC MY KP H locs ls hf hP hD hS hl
      rw [f_X6_bySplit_L86.eq_2] at hf
      refine lv_iload hx hb dX6_bySplit_86 (lv_at hl 4 rfl) ?_
      refine lv_bipush (v := (16 : Int32)) hx hb dX6_bySplit_88 (by decide) ?_
      refine lv_icmp_ge (tgt := 113) hx hb dX6_bySplit_90 (by decide) (fun c12 => ?_) (fun c12 => ?_)
      · have hf := it_t c12 hf
        refine lv_aload_n hx hb dX6_bySplit_113 rfl (lv_at hl 0 rfl) ?_
        refine lv_iconst (v := (0 : Int32)) hx hb dX6_bySplit_114 (by decide) ?_
        refine va_put (D := D) (ci := 7) (v := .int (0 : Int32)) (ty := .boolean) (C := RX6) (T := TX6) (N := 23) hx hb hts hiX6 tyX6 tyX6_ok nmX6 hown hK hP hD hS 0 rfl rfl 17 (by decide) fl134 (fun _ h9 => h9) rfl (by decide +kernel) rfl rfl (Nat.le_of_ble_eq_true rfl) dX6_bySplit_115 (fun H locs hP hD hS => ?_)
        have hP : va_P D vwCl (wM cI β mT mW mH mS mR mL (0 : Int32) mZ mA mB KK KN KS KC AN JK JN JS JL MY KP FI TX) H := hP
        have hD : va_D A (wM cI β mT mW mH mS mR mL (0 : Int32) mZ mA mB KK KN KS KC AN JK JN JS JL MY KP FI TX) := hD
        refine lv_aload_n hx hb dX6_bySplit_118 rfl (lv_at hl 0 rfl) ?_
        refine va_get (D := D) (ci := 7) (v := .ref (β 10)) (C := RX6) (T := TX6) (N := 23) hx hb hts hiX6 hown hK hP 0 rfl rfl 15 (by decide) fl37 (fun _ h9 => h9) rfl dX6_bySplit_119 ?_
        refine lv_iload_n hx hb dX6_bySplit_122 rfl (lv_at hl 2 rfl) ?_
        refine lv_iconst (v := (1 : Int32)) hx hb dX6_bySplit_123 (by decide) ?_
        refine lv_iload_n hx hb dX6_bySplit_124 rfl (lv_at hl 3 rfl) ?_
        refine lv_ishl hx hb dX6_bySplit_125 ?_
        obtain ⟨g13, hf⟩ := gin_some hf
        refine va_iast hx hb hK hP hD hS 10 0 rfl rfl g13 dX6_bySplit_126 (fun H locs hP hD hS => ?_)
        have hP : va_P D vwCl (wM cI β mT mW mH mS mR mL (0 : Int32) mZ mA mB KK KN KS KC AN JK JN JS JL ((upd MY x2.toNatClampNeg ((1 : Int32) <<< (x3 &&& 31)))) KP FI TX) H := hP
        have hD : va_D A (wM cI β mT mW mH mS mR mL (0 : Int32) mZ mA mB KK KN KS KC AN JK JN JS JL ((upd MY x2.toNatClampNeg ((1 : Int32) <<< (x3 &&& 31)))) KP FI TX) := hD
        refine lv_aload_n hx hb dX6_bySplit_127 rfl (lv_at hl 0 rfl) ?_
        refine lv_iload_n hx hb dX6_bySplit_128 rfl (lv_at hl 1 rfl) ?_
        obtain ⟨q14, hq14, hf⟩ := bnd hf
        refine kV_callV (As := [.int x1]) (rest := []) S hP hD hS (c_X6_units l D cI β mT mW mH mS mR mL (0 : Int32) mZ mA mB KK KN KS KC AN JK JN JS JL ((upd MY x2.toNatClampNeg ((1 : Int32) <<< (x3 &&& 31)))) KP FI TX F x1 q14 hq14) (cwV 1 hts gX6_bySplit_X6_units rfl rfl rfl (by decide +kernel) ⟨Nat.le_of_ble_eq_true rfl, Nat.le_of_ble_eq_true rfl⟩) 0 rfl rfl rfl hl.1 rfl (Nat.le_of_ble_eq_true rfl) dX6_bySplit_129 ⟨Nat.zero_le _, Nat.zero_le _⟩ (fun H locs hP hD hS => ?_)
        have hP : va_P D vwCl (wM cI β mT mW mH mS mR mL q14.1 mZ mA mB KK KN KS KC AN JK JN JS JL q14.2 KP FI TX) H := hP
        have hD : va_D A (wM cI β mT mW mH mS mR mL q14.1 mZ mA mB KK KN KS KC AN JK JN JS JL q14.2 KP FI TX) := hD
        refine lv_aload_n hx hb dX6_bySplit_132 rfl (lv_at hl 0 rfl) ?_
        refine va_get (D := D) (ci := 7) (v := .int q14.1) (C := RX6) (T := TX6) (N := 23) hx hb hts hiX6 hown hK hP 0 rfl rfl 17 (by decide) fl134 (fun _ h9 => h9) rfl dX6_bySplit_133 ?_
        refine lv_if_ne (tgt := 141) hx hb dX6_bySplit_136 (by decide) (fun c15 => ?_) (fun c15 => ?_)
        · have hf := it_t c15 hf
          exact w141 k59 hk59 _ _ _ _ _ _ H locs ls hf hP hD hS (lv_sub hl [0, 1, 2, 3] rfl)
        · have hf := it_f (fun h9 => h9 c15) hf
          refine lv_iconst (v := (0 : Int32)) hx hb dX6_bySplit_139 (by decide) ?_
          have e9 := Option.some.inj hf
          subst e9
          exact kI_ret S narrow_b0 hP hD hS dX6_bySplit_140
      · have hf := it_f c12 hf
        refine lv_aload_n hx hb dX6_bySplit_93 rfl (lv_at hl 0 rfl) ?_
        refine va_get (D := D) (ci := 7) (v := .ref (β 10)) (C := RX6) (T := TX6) (N := 23) hx hb hts hiX6 hown hK hP 0 rfl rfl 15 (by decide) fl37 (fun _ h9 => h9) rfl dX6_bySplit_94 ?_
        refine lv_iload hx hb dX6_bySplit_97 (lv_at hl 4 rfl) ?_
        refine lv_aload_n hx hb dX6_bySplit_99 rfl (lv_at hl 0 rfl) ?_
        refine va_get (D := D) (ci := 7) (v := .ref (β 11)) (C := RX6) (T := TX6) (N := 23) hx hb hts hiX6 hown hK hP 0 rfl rfl 16 (by decide) fl40 (fun _ h9 => h9) rfl dX6_bySplit_100 ?_
        refine lv_iload hx hb dX6_bySplit_103 (lv_at hl 4 rfl) ?_
        obtain ⟨g16, hf⟩ := gin_some hf
        refine va_iald hx hb hK hP 11 0 rfl rfl g16 dX6_bySplit_105 ?_
        obtain ⟨g17, hf⟩ := gin_some hf
        refine va_iast hx hb hK hP hD hS 10 0 rfl rfl g17 dX6_bySplit_106 (fun H locs hP hD hS => ?_)
        have hP : va_P D vwCl (wM cI β mT mW mH mS mR mL mC mZ mA mB KK KN KS KC AN JK JN JS JL (upd MY x4.toNatClampNeg (KP x4.toNatClampNeg)) KP FI TX) H := hP
        have hD : va_D A (wM cI β mT mW mH mS mR mL mC mZ mA mB KK KN KS KC AN JK JN JS JL (upd MY x4.toNatClampNeg (KP x4.toNatClampNeg)) KP FI TX) := hD
        refine lv_iinc (v := (x4 + (1 : Int32))) (lv' := [(4, .int (x4 + (1 : Int32))), (0, .ref (β 0)), (1, .int x1), (2, .int x2), (3, .int x3)]) hx hb dX6_bySplit_107 hl (k := 4) rfl rfl (by decide) rfl (fun ls hl => ?_)
        refine lv_goto (tgt := 86) hx hb dX6_bySplit_110 (by decide) ?_
        exact ih _ _ _ _ _ _ _ H locs ls hf hP hD hS (lv_sub hl [1, 2, 3, 4, 0] rfl)
  have w59 : ∀ (n : Nat), ∀ (x1 : Int32) (x2 : Int32) (x3 : Int32) (mC : Int32) (MY : Nat → Int32) (KP : Nat → Int32) (H : Heap) (locs : List Loc) (ls : Array Slot), f_X6_bySplit_L59 mW mH mS JN JS JL F n x1 x2 x3 mC MY KP = some res → va_P D vwCl (wM cI β mT mW mH mS mR mL mC mZ mA mB KK KN KS KC AN JK JN JS JL MY KP FI TX) H → va_D A (wM cI β mT mW mH mS mR mL mC mZ mA mB KK KN KS KC AN JK JN JS JL MY KP FI TX) → va_S A s.heap H locs → lv_has ls 5 [(0, .ref (β 0)), (1, .int x1), (2, .int x2), (3, .int x3)] → W p l e rm_X6_bySplit s m args below meth c H locs 0 0 (MQ below (kQi D A (wM cI β mT mW mH mS mR mL res.2.1 mZ mA mB KK KN KS KC AN JK JN JS JL res.2.2.1 res.2.2.2 FI TX) res.1) args s 0 0 A) (F0 m 59 ls []) := by
    intro n
    induction n with
    | zero => intro x1 x2 x3 mC MY KP H locs ls hf; cases hf
    | succ n ih =>
      intro x1 x2 x3 mC MY KP H locs ls hf hP hD hS hl
      rw [f_X6_bySplit_L59.eq_2] at hf
      refine lv_iload_n hx hb dX6_bySplit_59 rfl (lv_at hl 3 rfl) ?_
      refine lv_aload_n hx hb dX6_bySplit_60 rfl (lv_at hl 0 rfl) ?_
      refine va_get (D := D) (ci := 7) (v := .int mS) (C := RX6) (T := TX6) (N := 23) hx hb hts hiX6 hown hK hP 0 rfl rfl 3 (by decide) fl60 (fun _ h9 => h9) rfl dX6_bySplit_61 ?_
      refine lv_icmp_ge (tgt := 147) hx hb dX6_bySplit_64 (by decide) (fun c9 => ?_) (fun c9 => ?_)
      · have hf := it_t c9 hf
        refine lv_iconst (v := (1 : Int32)) hx hb dX6_bySplit_147 (by decide) ?_
        have e9 := Option.some.inj hf
        subst e9
        exact kI_ret S narrow_b1 hP hD hS dX6_bySplit_148
      · have hf := it_f c9 hf
        refine lv_aload_n hx hb dX6_bySplit_67 rfl (lv_at hl 0 rfl) ?_
        refine va_get (D := D) (ci := 7) (v := .ref (β 11)) (C := RX6) (T := TX6) (N := 23) hx hb hts hiX6 hown hK hP 0 rfl rfl 16 (by decide) fl40 (fun _ h9 => h9) rfl dX6_bySplit_68 ?_
        refine lv_iload_n hx hb dX6_bySplit_71 rfl (lv_at hl 2 rfl) ?_
        obtain ⟨g10, hf⟩ := gin_some hf
        refine va_iald hx hb hK hP 11 0 rfl rfl g10 dX6_bySplit_72 ?_
        refine lv_iload_n hx hb dX6_bySplit_73 rfl (lv_at hl 3 rfl) ?_
        refine lv_ishr hx hb dX6_bySplit_74 ?_
        refine lv_iconst (v := (1 : Int32)) hx hb dX6_bySplit_75 (by decide) ?_
        refine lv_iand hx hb dX6_bySplit_76 ?_
        refine lv_if_ne (tgt := 83) hx hb dX6_bySplit_77 (by decide) (fun c11 => ?_) (fun c11 => ?_)
        · have hf := it_t c11 hf
          refine lv_iconst (v := (0 : Int32)) hx hb dX6_bySplit_83 (by decide) ?_
          refine lv_istore (lv' := [(4, .int (0 : Int32)), (0, .ref (β 0)), (1, .int x1), (2, .int x2), (3, .int x3)]) hx hb dX6_bySplit_84 hl (by decide) rfl (fun ls hl => ?_)
          exact w86 _ ih F _ _ _ _ _ _ _ H locs ls hf hP hD hS (lv_sub hl [1, 2, 3, 4, 0] rfl)
        · have hf := it_f (fun h9 => h9 c11) hf
          refine lv_goto (tgt := 141) hx hb dX6_bySplit_80 (by decide) ?_
          exact w141 _ ih _ _ _ _ _ _ H locs ls hf hP hD hS (lv_sub hl [0, 1, 2, 3] rfl)
  have w33 : ∀ (n : Nat), ∀ (x1 : Int32) (x2 : Int32) (x3 : Int32) (mC : Int32) (MY : Nat → Int32) (KP : Nat → Int32) (H : Heap) (locs : List Loc) (ls : Array Slot), f_X6_bySplit_L33 mW mH mS JN JS JL F n x1 x2 x3 mC MY KP = some res → va_P D vwCl (wM cI β mT mW mH mS mR mL mC mZ mA mB KK KN KS KC AN JK JN JS JL MY KP FI TX) H → va_D A (wM cI β mT mW mH mS mR mL mC mZ mA mB KK KN KS KC AN JK JN JS JL MY KP FI TX) → va_S A s.heap H locs → lv_has ls 5 [(0, .ref (β 0)), (1, .int x1), (2, .int x2), (3, .int x3)] → W p l e rm_X6_bySplit s m args below meth c H locs 0 0 (MQ below (kQi D A (wM cI β mT mW mH mS mR mL res.2.1 mZ mA mB KK KN KS KC AN JK JN JS JL res.2.2.1 res.2.2.2 FI TX) res.1) args s 0 0 A) (F0 m 33 ls []) := by
    intro n
    induction n with
    | zero => intro x1 x2 x3 mC MY KP H locs ls hf; cases hf
    | succ n ih =>
      intro x1 x2 x3 mC MY KP H locs ls hf hP hD hS hl
      rw [f_X6_bySplit_L33.eq_2] at hf
      refine lv_iload_n hx hb dX6_bySplit_33 rfl (lv_at hl 3 rfl) ?_
      refine lv_bipush (v := (16 : Int32)) hx hb dX6_bySplit_34 (by decide) ?_
      refine lv_icmp_ge (tgt := 57) hx hb dX6_bySplit_36 (by decide) (fun c6 => ?_) (fun c6 => ?_)
      · have hf := it_t c6 hf
        refine lv_iconst (v := (0 : Int32)) hx hb dX6_bySplit_57 (by decide) ?_
        refine lv_istore_n (lv' := [(3, .int (0 : Int32)), (0, .ref (β 0)), (1, .int x1), (2, .int x2)]) hx hb dX6_bySplit_58 rfl hl (by decide) rfl (fun ls hl => ?_)
        exact w59 F _ _ _ _ _ _ H locs ls hf hP hD hS (lv_sub hl [1, 2, 3, 0] rfl)
      · have hf := it_f c6 hf
        refine lv_aload_n hx hb dX6_bySplit_39 rfl (lv_at hl 0 rfl) ?_
        refine va_get (D := D) (ci := 7) (v := .ref (β 11)) (C := RX6) (T := TX6) (N := 23) hx hb hts hiX6 hown hK hP 0 rfl rfl 16 (by decide) fl40 (fun _ h9 => h9) rfl dX6_bySplit_40 ?_
        refine lv_iload_n hx hb dX6_bySplit_43 rfl (lv_at hl 3 rfl) ?_
        refine lv_aload_n hx hb dX6_bySplit_44 rfl (lv_at hl 0 rfl) ?_
        refine va_get (D := D) (ci := 7) (v := .ref (β 10)) (C := RX6) (T := TX6) (N := 23) hx hb hts hiX6 hown hK hP 0 rfl rfl 15 (by decide) fl37 (fun _ h9 => h9) rfl dX6_bySplit_45 ?_
        refine lv_iload_n hx hb dX6_bySplit_48 rfl (lv_at hl 3 rfl) ?_
        obtain ⟨g7, hf⟩ := gin_some hf
        refine va_iald hx hb hK hP 10 0 rfl rfl g7 dX6_bySplit_49 ?_
        obtain ⟨g8, hf⟩ := gin_some hf
        refine va_iast hx hb hK hP hD hS 11 0 rfl rfl g8 dX6_bySplit_50 (fun H locs hP hD hS => ?_)
        have hP : va_P D vwCl (wM cI β mT mW mH mS mR mL mC mZ mA mB KK KN KS KC AN JK JN JS JL MY (upd KP x3.toNatClampNeg (MY x3.toNatClampNeg)) FI TX) H := hP
        have hD : va_D A (wM cI β mT mW mH mS mR mL mC mZ mA mB KK KN KS KC AN JK JN JS JL MY (upd KP x3.toNatClampNeg (MY x3.toNatClampNeg)) FI TX) := hD
        refine lv_iinc (v := (x3 + (1 : Int32))) (lv' := [(3, .int (x3 + (1 : Int32))), (0, .ref (β 0)), (1, .int x1), (2, .int x2)]) hx hb dX6_bySplit_51 hl (k := 3) rfl rfl (by decide) rfl (fun ls hl => ?_)
        refine lv_goto (tgt := 33) hx hb dX6_bySplit_54 (by decide) ?_
        exact ih _ _ _ _ _ _ H locs ls hf hP hD hS (lv_sub hl [1, 2, 3, 0] rfl)
  suffices hgo : ∀ (H : Heap) (locs : List Loc), va_P D vwCl (wM cI β mT mW mH mS mR mL mC mZ mA mB KK KN KS KC AN JK JN JS JL MY KP FI TX) H → va_D A (wM cI β mT mW mH mS mR mL mC mZ mA mB KK KN KS KC AN JK JN JS JL MY KP FI TX) → va_S A s.heap H locs → W p l e rm_X6_bySplit s m args below meth c H locs 0 0 (MQ below (kQi D A (wM cI β mT mW mH mS mR mL res.2.1 mZ mA mB KK KN KS KC AN JK JN JS JL res.2.2.1 res.2.2.2 FI TX) res.1) args s 0 0 A) (F0 m 0 ls []) from hgo _ _ hP hD hS
  clear hP hD hS
  intro H locs hP hD hS
  refine lv_aload_n hx hb dX6_bySplit_0 rfl (lv_at hl 0 rfl) ?_
  refine va_get (D := D) (ci := 7) (v := .ref (β 7)) (C := RX6) (T := TX6) (N := 23) hx hb hts hiX6 hown hK hP 0 rfl rfl 12 (by decide) fl28 (fun _ h9 => h9) rfl dX6_bySplit_1 ?_
  refine lv_iload_n hx hb dX6_bySplit_4 rfl (lv_at hl 1 rfl) ?_
  obtain ⟨g1, hf⟩ := gin_some hf
  refine va_iald hx hb hK hP 7 0 rfl rfl g1 dX6_bySplit_5 ?_
  refine lv_istore_n (lv' := [(2, .int (JN x1.toNatClampNeg)), (0, .ref (β 0)), (1, .int x1)]) hx hb dX6_bySplit_6 rfl hl (by decide) rfl (fun ls hl => ?_)
  refine lv_aload_n hx hb dX6_bySplit_7 rfl (lv_at hl 1 rfl) ?_
  refine lv_iload_n hx hb dX6_bySplit_8 rfl (lv_at hl 0 rfl) ?_
  obtain ⟨q2, hq2, hf⟩ := bnd hf
  refine kI_callV (As := [.int (JN x1.toNatClampNeg)]) (rest := []) S hP hD hS (c_X6_isCell l D cI β mT mW mH mS mR mL mC mZ mA mB KK KN KS KC AN JK JN JS JL MY KP FI TX (JN x1.toNatClampNeg) q2 hq2) (cwV 1 hts gX6_bySplit_X6_isCell rfl rfl rfl (by decide +kernel) ⟨Nat.le_of_ble_eq_true rfl, Nat.le_of_ble_eq_true rfl⟩) 0 rfl rfl rfl hl.1 rfl (Nat.le_of_ble_eq_true rfl) dX6_bySplit_9 ⟨Nat.zero_le _, Nat.zero_le _⟩ (fun H locs hP hD hS => ?_)
  have hP : va_P D vwCl (wM cI β mT mW mH mS mR mL mC mZ mA mB KK KN KS KC AN JK JN JS JL MY KP FI TX) H := hP
  have hD : va_D A (wM cI β mT mW mH mS mR mL mC mZ mA mB KK KN KS KC AN JK JN JS JL MY KP FI TX) := hD
  refine lv_if_ne (tgt := 17) hx hb dX6_bySplit_12 (by decide) (fun c3 => ?_) (fun c3 => ?_)
  · have hf := it_t c3 hf
    refine lv_aload_n hx hb dX6_bySplit_17 rfl (lv_at hl 1 rfl) ?_
    refine lv_iload_n hx hb dX6_bySplit_18 rfl (lv_at hl 2 rfl) ?_
    obtain ⟨q4, hq4, hf⟩ := bnd hf
    refine kV_callV (As := [.int x1]) (rest := []) S hP hD hS (c_X6_turned l D cI β mT mW mH mS mR mL mC mZ mA mB KK KN KS KC AN JK JN JS JL MY KP FI TX F x1 q4 hq4) (cwV 1 hts gX6_bySplit_X6_turned rfl rfl rfl (by decide +kernel) ⟨Nat.le_of_ble_eq_true rfl, Nat.le_of_ble_eq_true rfl⟩) 0 rfl rfl rfl hl.1 rfl (Nat.le_of_ble_eq_true rfl) dX6_bySplit_19 ⟨Nat.zero_le _, Nat.zero_le _⟩ (fun H locs hP hD hS => ?_)
    have hP : va_P D vwCl (wM cI β mT mW mH mS mR mL q4.1 mZ mA mB KK KN KS KC AN JK JN JS JL q4.2 KP FI TX) H := hP
    have hD : va_D A (wM cI β mT mW mH mS mR mL q4.1 mZ mA mB KK KN KS KC AN JK JN JS JL q4.2 KP FI TX) := hD
    refine lv_aload_n hx hb dX6_bySplit_22 rfl (lv_at hl 1 rfl) ?_
    refine va_get (D := D) (ci := 7) (v := .int q4.1) (C := RX6) (T := TX6) (N := 23) hx hb hts hiX6 hown hK hP 0 rfl rfl 17 (by decide) fl134 (fun _ h9 => h9) rfl dX6_bySplit_23 ?_
    refine lv_if_eq (tgt := 31) hx hb dX6_bySplit_26 (by decide) (fun c5 => ?_) (fun c5 => ?_)
    · have hf := it_t c5 hf
      refine lv_iconst (v := (0 : Int32)) hx hb dX6_bySplit_31 (by decide) ?_
      refine lv_istore_n (lv' := [(3, .int (0 : Int32)), (2, .int (JN x1.toNatClampNeg)), (0, .ref (β 0)), (1, .int x1)]) hx hb dX6_bySplit_32 rfl hl (by decide) rfl (fun ls hl => ?_)
      exact w33 F _ _ _ _ _ _ H locs ls hf hP hD hS (lv_sub hl [2, 3, 1, 0] rfl)
    · have hf := it_f c5 hf
      refine lv_iconst (v := (1 : Int32)) hx hb dX6_bySplit_29 (by decide) ?_
      have e9 := Option.some.inj hf
      subst e9
      exact kI_ret S narrow_b1 hP hD hS dX6_bySplit_30
  · have hf := it_f (fun h9 => h9 c3) hf
    refine lv_iconst (v := (0 : Int32)) hx hb dX6_bySplit_15 (by decide) ?_
    have e9 := Option.some.inj hf
    subst e9
    exact kI_ret S narrow_b0 hP hD hS dX6_bySplit_16
abbrev rm_X6_isBarred : Room := { frames := 5, cells := 0, slots := 0, locals := 122 }
set_option maxHeartbeats 4000000 in
set_option maxRecDepth 100000 in
theorem c_X6_isBarred (l : Launch) (D : va_G) (cI : ClassId) (β : Nat → Nat) (mT mW mH mS mR mL mC mZ mA mB : Int32) (KK KN KS KC AN JK JN JS JL MY KP FI TX : Nat → Int32) (F : Nat) (x1 : Int32) (res : Int32 × (Nat → Int32)) (hf : f_X6_isBarred mW mH mS mR KK KN KS KC AN JS JL F FI x1 = some res) : kI l yX6_isBarred wsX6_isBarred rm_X6_isBarred D cI [.ref (β 0), .int x1] (wM cI β mT mW mH mS mR mL mC mZ mA mB KK KN KS KC AN JK JN JS JL MY KP FI TX) (wM cI β mT mW mH mS mR mL mC mZ mA mB KK KN KS KC AN JK JN JS JL MY KP res.2 TX) res.1 := by
  unfold f_X6_isBarred at hf
  refine kI_of (cc := cX6_isBarred) (maxL := 3) (ret := (some .boolean)) (by decide +kernel) rfl (Nat.le_of_ble_eq_true rfl) ?_
  intro p e s m args below meth c A ls S hP hD hS hl
  have S : kC p s m args meth c cX6_isBarred 3 wsX6_isBarred RX6 (some .boolean) D cI A := S
  have hx := S.1.1
  have hb := S.1.2.1
  have hml := S.1.2.2.1
  have hown : s.vm.findClass RX6 = some m.cls := S.1.2.2.2.1
  have hts := S.1.2.2.2.2
  have hK := S.2.2.2.1
  have hnk := S.2.2.2.2.1.2
  have hiX6 : ∀ w ∈ u_ws RX6 TX6 23, w ∈ wsX6_isBarred := by decide +kernel
  have fl22 := hts (.fieldLink RX6 22 "ProofCheckerModel" "answer" "[I") (by decide +kernel)
  have fl31 := hts (.fieldLink RX6 31 "ProofCheckerModel" "lineSize" "[I") (by decide +kernel)
  have hl : lv_has ls 3 [(0, .ref (β 0)), (1, .int x1)] := hl
  have w24 : ∀ (n : Nat), ∀ (x1 : Int32) (x2 : Int32) (FI : Nat → Int32) (H : Heap) (locs : List Loc) (ls : Array Slot), f_X6_isBarred_L24 mW mH mS mR KK KN KS KC AN JS JL F n x1 x2 FI = some res → va_P D vwCl (wM cI β mT mW mH mS mR mL mC mZ mA mB KK KN KS KC AN JK JN JS JL MY KP FI TX) H → va_D A (wM cI β mT mW mH mS mR mL mC mZ mA mB KK KN KS KC AN JK JN JS JL MY KP FI TX) → va_S A s.heap H locs → lv_has ls 3 [(0, .ref (β 0)), (1, .int x1), (2, .int x2)] → W p l e rm_X6_isBarred s m args below meth c H locs 0 0 (MQ below (kQi D A (wM cI β mT mW mH mS mR mL mC mZ mA mB KK KN KS KC AN JK JN JS JL MY KP res.2 TX) res.1) args s 0 0 A) (F0 m 24 ls []) := by
    intro n
    induction n with
    | zero => intro x1 x2 FI H locs ls hf; cases hf
    | succ n ih =>
      intro x1 x2 FI H locs ls hf hP hD hS hl
      rw [f_X6_isBarred_L24.eq_2] at hf
      refine lv_iload_n hx hb dX6_isBarred_24 rfl (lv_at hl 2 rfl) ?_
      refine lv_aload_n hx hb dX6_isBarred_25 rfl (lv_at hl 0 rfl) ?_
      obtain ⟨q6, hq6, hf⟩ := bnd hf
      refine kI_callV (As := []) (rest := [.int x2]) S hP hD hS (c_X6_cells l D cI β mT mW mH mS mR mL mC mZ mA mB KK KN KS KC AN JK JN JS JL MY KP FI TX q6 hq6) (cwV 0 hts gX6_isBarred_X6_cells rfl rfl rfl (by decide +kernel) ⟨Nat.le_of_ble_eq_true rfl, Nat.le_of_ble_eq_true rfl⟩) 0 rfl rfl rfl hl.1 rfl (Nat.le_of_ble_eq_true rfl) dX6_isBarred_26 ⟨Nat.zero_le _, Nat.zero_le _⟩ (fun H locs hP hD hS => ?_)
      have hP : va_P D vwCl (wM cI β mT mW mH mS mR mL mC mZ mA mB KK KN KS KC AN JK JN JS JL MY KP FI TX) H := hP
      have hD : va_D A (wM cI β mT mW mH mS mR mL mC mZ mA mB KK KN KS KC AN JK JN JS JL MY KP FI TX) := hD
      refine lv_icmp_ge (tgt := 69) hx hb dX6_isBarred_29 (by decide) (fun c7 => ?_) (fun c7 => ?_)
      · have hf := it_t c7 hf
        refine lv_iconst (v := (1 : Int32)) hx hb dX6_isBarred_69 (by decide) ?_
        have e9 := Option.some.inj hf
        subst e9
        exact kI_ret S narrow_b1 hP hD hS dX6_isBarred_70
      · have hf := it_f c7 hf
        refine lv_aload_n hx hb dX6_isBarred_32 rfl (lv_at hl 0 rfl) ?_
        refine va_get (D := D) (ci := 7) (v := .ref (β 5)) (C := RX6) (T := TX6) (N := 23) hx hb hts hiX6 hown hK hP 0 rfl rfl 9 (by decide) fl22 (fun _ h9 => h9) rfl dX6_isBarred_33 ?_
        refine lv_iload_n hx hb dX6_isBarred_36 rfl (lv_at hl 2 rfl) ?_
        obtain ⟨g8, hf⟩ := gin_some hf
        refine va_iald hx hb hK hP 5 0 rfl rfl g8 dX6_isBarred_37 ?_
        refine lv_if_lt (tgt := 61) hx hb dX6_isBarred_38 (by decide) (fun c9 => ?_) (fun c9 => ?_)
        · have hf := it_t c9 hf
          refine lv_iconst (v := (0 : Int32)) hx hb dX6_isBarred_61 (by decide) ?_
          have e9 := Option.some.inj hf
          subst e9
          exact kI_ret S narrow_b0 hP hD hS dX6_isBarred_62
        · have hf := it_f c9 hf
          refine lv_aload_n hx hb dX6_isBarred_41 rfl (lv_at hl 0 rfl) ?_
          refine lv_iload_n hx hb dX6_isBarred_42 rfl (lv_at hl 1 rfl) ?_
          refine lv_aload_n hx hb dX6_isBarred_43 rfl (lv_at hl 0 rfl) ?_
          refine lv_iload_n hx hb dX6_isBarred_44 rfl (lv_at hl 2 rfl) ?_
          refine lv_aload_n hx hb dX6_isBarred_45 rfl (lv_at hl 0 rfl) ?_
          refine va_get (D := D) (ci := 7) (v := .ref (β 5)) (C := RX6) (T := TX6) (N := 23) hx hb hts hiX6 hown hK hP 0 rfl rfl 9 (by decide) fl22 (fun _ h9 => h9) rfl dX6_isBarred_46 ?_
          refine lv_iload_n hx hb dX6_isBarred_49 rfl (lv_at hl 2 rfl) ?_
          obtain ⟨g10, hf⟩ := gin_some hf
          refine va_iald hx hb hK hP 5 0 rfl rfl g10 dX6_isBarred_50 ?_
          refine lv_iconst (v := (0 : Int32)) hx hb dX6_isBarred_51 (by decide) ?_
          obtain ⟨q11, hq11, hf⟩ := bnd hf
          refine kI_callV (As := [.int x2, .int (AN x2.toNatClampNeg), .int (0 : Int32)]) (rest := [.int x1, .ref (β 0)]) S hP hD hS (c_X6_literalOf l D cI β mT mW mH mS mR mL mC mZ mA mB KK KN KS KC AN JK JN JS JL MY KP FI TX x2 (AN x2.toNatClampNeg) (0 : Int32) q11 hq11) (cwV 3 hts gX6_isBarred_X6_literalOf rfl rfl rfl (by decide +kernel) ⟨Nat.le_of_ble_eq_true rfl, Nat.le_of_ble_eq_true rfl⟩) 0 rfl rfl rfl hl.1 rfl (Nat.le_of_ble_eq_true rfl) dX6_isBarred_52 ⟨Nat.zero_le _, Nat.zero_le _⟩ (fun H locs hP hD hS => ?_)
          have hP : va_P D vwCl (wM cI β mT mW mH mS mR mL mC mZ mA mB KK KN KS KC AN JK JN JS JL MY KP FI TX) H := hP
          have hD : va_D A (wM cI β mT mW mH mS mR mL mC mZ mA mB KK KN KS KC AN JK JN JS JL MY KP FI TX) := hD
          obtain ⟨q12, hq12, hf⟩ := bnd hf
          refine kI_callV (As := [.int x1, .int q11]) (rest := []) S hP hD hS (c_X6_has l D cI β mT mW mH mS mR mL mC mZ mA mB KK KN KS KC AN JK JN JS JL MY KP FI TX F x1 q11 q12 hq12) (cwV 2 hts gX6_isBarred_X6_has rfl rfl rfl (by decide +kernel) ⟨Nat.le_of_ble_eq_true rfl, Nat.le_of_ble_eq_true rfl⟩) 0 rfl rfl rfl hl.1 rfl (Nat.le_of_ble_eq_true rfl) dX6_isBarred_55 ⟨Nat.zero_le _, Nat.zero_le _⟩ (fun H locs hP hD hS => ?_)
          have hP : va_P D vwCl (wM cI β mT mW mH mS mR mL mC mZ mA mB KK KN KS KC AN JK JN JS JL MY KP FI TX) H := hP
          have hD : va_D A (wM cI β mT mW mH mS mR mL mC mZ mA mB KK KN KS KC AN JK JN JS JL MY KP FI TX) := hD
          refine lv_if_ne (tgt := 63) hx hb dX6_isBarred_58 (by decide) (fun c13 => ?_) (fun c13 => ?_)
          · have hf := it_t c13 hf
            refine lv_iinc (v := (x2 + (1 : Int32))) (lv' := [(2, .int (x2 + (1 : Int32))), (0, .ref (β 0)), (1, .int x1)]) hx hb dX6_isBarred_63 hl (k := 2) rfl rfl (by decide) rfl (fun ls hl => ?_)
            refine lv_goto (tgt := 24) hx hb dX6_isBarred_66 (by decide) ?_
            exact ih _ _ _ H locs ls hf hP hD hS (lv_sub hl [1, 2, 0] rfl)
          · have hf := it_f (fun h9 => h9 c13) hf
            refine lv_iconst (v := (0 : Int32)) hx hb dX6_isBarred_61 (by decide) ?_
            have e9 := Option.some.inj hf
            subst e9
            exact kI_ret S narrow_b0 hP hD hS dX6_isBarred_62
  suffices hgo : ∀ (H : Heap) (locs : List Loc), va_P D vwCl (wM cI β mT mW mH mS mR mL mC mZ mA mB KK KN KS KC AN JK JN JS JL MY KP FI TX) H → va_D A (wM cI β mT mW mH mS mR mL mC mZ mA mB KK KN KS KC AN JK JN JS JL MY KP FI TX) → va_S A s.heap H locs → W p l e rm_X6_isBarred s m args below meth c H locs 0 0 (MQ below (kQi D A (wM cI β mT mW mH mS mR mL mC mZ mA mB KK KN KS KC AN JK JN JS JL MY KP res.2 TX) res.1) args s 0 0 A) (F0 m 0 ls []) from hgo _ _ hP hD hS
  clear hP hD hS
  intro H locs hP hD hS
  refine lv_aload_n hx hb dX6_isBarred_0 rfl (lv_at hl 0 rfl) ?_
  obtain ⟨q1, hq1, hf⟩ := bnd hf
  refine kI_callV (As := []) (rest := []) S hP hD hS (c_X6_firstFailing l D cI β mT mW mH mS mR mL mC mZ mA mB KK KN KS KC AN JK JN JS JL MY KP FI TX F q1 hq1) (cwV 0 hts gX6_isBarred_X6_firstFailing rfl rfl rfl (by decide +kernel) ⟨Nat.le_of_ble_eq_true rfl, Nat.le_of_ble_eq_true rfl⟩) 0 rfl rfl rfl hl.1 rfl (Nat.le_of_ble_eq_true rfl) dX6_isBarred_1 ⟨Nat.zero_le _, Nat.zero_le _⟩ (fun H locs hP hD hS => ?_)
  have hP : va_P D vwCl (wM cI β mT mW mH mS mR mL mC mZ mA mB KK KN KS KC AN JK JN JS JL MY KP q1.2 TX) H := hP
  have hD : va_D A (wM cI β mT mW mH mS mR mL mC mZ mA mB KK KN KS KC AN JK JN JS JL MY KP q1.2 TX) := hD
  refine lv_if_ge (tgt := 20) hx hb dX6_isBarred_4 (by decide) (fun c2 => ?_) (fun c2 => ?_)
  · have hf := it_t c2 hf
    refine lv_iconst (v := (0 : Int32)) hx hb dX6_isBarred_20 (by decide) ?_
    have e9 := Option.some.inj hf
    subst e9
    exact kI_ret S narrow_b0 hP hD hS dX6_isBarred_21
  · have hf := it_f c2 hf
    refine lv_aload_n hx hb dX6_isBarred_7 rfl (lv_at hl 0 rfl) ?_
    refine va_get (D := D) (ci := 7) (v := .ref (β 8)) (C := RX6) (T := TX6) (N := 23) hx hb hts hiX6 hown hK hP 0 rfl rfl 13 (by decide) fl31 (fun _ h9 => h9) rfl dX6_isBarred_8 ?_
    refine lv_iload_n hx hb dX6_isBarred_11 rfl (lv_at hl 1 rfl) ?_
    obtain ⟨g3, hf⟩ := gin_some hf
    refine va_iald hx hb hK hP 8 0 rfl rfl g3 dX6_isBarred_12 ?_
    refine lv_aload_n hx hb dX6_isBarred_13 rfl (lv_at hl 0 rfl) ?_
    obtain ⟨q4, hq4, hf⟩ := bnd hf
    refine kI_callV (As := []) (rest := [.int (JS x1.toNatClampNeg)]) S hP hD hS (c_X6_cells l D cI β mT mW mH mS mR mL mC mZ mA mB KK KN KS KC AN JK JN JS JL MY KP q1.2 TX q4 hq4) (cwV 0 hts gX6_isBarred_X6_cells rfl rfl rfl (by decide +kernel) ⟨Nat.le_of_ble_eq_true rfl, Nat.le_of_ble_eq_true rfl⟩) 0 rfl rfl rfl hl.1 rfl (Nat.le_of_ble_eq_true rfl) dX6_isBarred_14 ⟨Nat.zero_le _, Nat.zero_le _⟩ (fun H locs hP hD hS => ?_)
    have hP : va_P D vwCl (wM cI β mT mW mH mS mR mL mC mZ mA mB KK KN KS KC AN JK JN JS JL MY KP q1.2 TX) H := hP
    have hD : va_D A (wM cI β mT mW mH mS mR mL mC mZ mA mB KK KN KS KC AN JK JN JS JL MY KP q1.2 TX) := hD
    refine lv_icmp_eq (tgt := 22) hx hb dX6_isBarred_17 (by decide) (fun c5 => ?_) (fun c5 => ?_)
    · have hf := it_t c5 hf
      refine lv_iconst (v := (0 : Int32)) hx hb dX6_isBarred_22 (by decide) ?_
      refine lv_istore_n (lv' := [(2, .int (0 : Int32)), (0, .ref (β 0)), (1, .int x1)]) hx hb dX6_isBarred_23 rfl hl (by decide) rfl (fun ls hl => ?_)
      exact w24 F _ _ _ H locs ls hf hP hD hS (lv_sub hl [1, 2, 0] rfl)
    · have hf := it_f c5 hf
      refine lv_iconst (v := (0 : Int32)) hx hb dX6_isBarred_20 (by decide) ?_
      have e9 := Option.some.inj hf
      subst e9
      exact kI_ret S narrow_b0 hP hD hS dX6_isBarred_21
