abbrev rm_X6_begin : Room := { frames := 0, cells := 0, slots := 0, locals := 0 }
set_option maxHeartbeats 4000000 in
set_option maxRecDepth 100000 in
theorem c_X6_begin (l : Launch) (D : va_G) (cI : ClassId) (β : Nat → Nat) (mT mW mH mS mR mL mC mZ mA mB : Int32) (KK KN KS KC AN JK JN JS JL MY KP FI TX : Nat → Int32) (x1 : Int32) (x2 : Int32) (x3 : Int32) (res : (Nat → Int32) × (Nat → Int32) × (Nat → Int32)) (hf : f_X6_begin JK JN JS x1 x2 x3 = some res) : kV l yX6_begin wsX6_begin rm_X6_begin D cI [.ref (β 0), .int x1, .int x2, .int x3] (wM cI β mT mW mH mS mR mL mC mZ mA mB KK KN KS KC AN JK JN JS JL MY KP FI TX) (wM cI β mT mW mH mS mR mL mC mZ mA mB KK KN KS KC AN res.1 res.2.1 res.2.2 JL MY KP FI TX) := by
  unfold f_X6_begin at hf
  refine kV_of (cc := cX6_begin) (maxL := 4) (ret := none) (by decide +kernel) rfl (Nat.le_of_ble_eq_true rfl) ?_
  intro p e s m args below meth c A ls S hP hD hS hl
  have S : kC p s m args meth c cX6_begin 4 wsX6_begin RX6 none D cI A := S
  have hx := S.1.1
  have hb := S.1.2.1
  have hml := S.1.2.2.1
  have hown : s.vm.findClass RX6 = some m.cls := S.1.2.2.2.1
  have hts := S.1.2.2.2.2
  have hK := S.2.2.2.1
  have hnk := S.2.2.2.2.1.2
  have hiX6 : ∀ w ∈ u_ws RX6 TX6 23, w ∈ wsX6_begin := by decide +kernel
  have fl25 := hts (.fieldLink RX6 25 "ProofCheckerModel" "lineKind" "[I") (by decide +kernel)
  have fl28 := hts (.fieldLink RX6 28 "ProofCheckerModel" "lineNumber" "[I") (by decide +kernel)
  have fl31 := hts (.fieldLink RX6 31 "ProofCheckerModel" "lineSize" "[I") (by decide +kernel)
  have hl : lv_has ls 4 [(0, .ref (β 0)), (1, .int x1), (2, .int x2), (3, .int x3)] := hl
  suffices hgo : ∀ (H : Heap) (locs : List Loc), va_P D vwCl (wM cI β mT mW mH mS mR mL mC mZ mA mB KK KN KS KC AN JK JN JS JL MY KP FI TX) H → va_D A (wM cI β mT mW mH mS mR mL mC mZ mA mB KK KN KS KC AN JK JN JS JL MY KP FI TX) → va_S A s.heap H locs → W p l e rm_X6_begin s m args below meth c H locs 0 0 (MQ below (kQv D A (wM cI β mT mW mH mS mR mL mC mZ mA mB KK KN KS KC AN res.1 res.2.1 res.2.2 JL MY KP FI TX)) args s 0 0 A) (F0 m 0 ls []) from hgo _ _ hP hD hS
  clear hP hD hS
  intro H locs hP hD hS
  refine lv_aload_n hx hb dX6_begin_0 rfl (lv_at hl 0 rfl) ?_
  refine va_get (D := D) (ci := 7) (v := .ref (β 6)) (C := RX6) (T := TX6) (N := 23) hx hb hts hiX6 hown hK hP 0 rfl rfl 11 (by decide) fl25 (fun _ h9 => h9) rfl dX6_begin_1 ?_
  refine lv_iload_n hx hb dX6_begin_4 rfl (lv_at hl 1 rfl) ?_
  refine lv_iload_n hx hb dX6_begin_5 rfl (lv_at hl 2 rfl) ?_
  obtain ⟨g1, hf⟩ := gin_some hf
  refine va_iast hx hb hK hP hD hS 6 0 rfl rfl g1 dX6_begin_6 (fun H locs hP hD hS => ?_)
  have hP : va_P D vwCl (wM cI β mT mW mH mS mR mL mC mZ mA mB KK KN KS KC AN (upd JK x1.toNatClampNeg x2) JN JS JL MY KP FI TX) H := hP
  have hD : va_D A (wM cI β mT mW mH mS mR mL mC mZ mA mB KK KN KS KC AN (upd JK x1.toNatClampNeg x2) JN JS JL MY KP FI TX) := hD
  refine lv_aload_n hx hb dX6_begin_7 rfl (lv_at hl 0 rfl) ?_
  refine va_get (D := D) (ci := 7) (v := .ref (β 7)) (C := RX6) (T := TX6) (N := 23) hx hb hts hiX6 hown hK hP 0 rfl rfl 12 (by decide) fl28 (fun _ h9 => h9) rfl dX6_begin_8 ?_
  refine lv_iload_n hx hb dX6_begin_11 rfl (lv_at hl 1 rfl) ?_
  refine lv_iload_n hx hb dX6_begin_12 rfl (lv_at hl 3 rfl) ?_
  obtain ⟨g2, hf⟩ := gin_some hf
  refine va_iast hx hb hK hP hD hS 7 0 rfl rfl g2 dX6_begin_13 (fun H locs hP hD hS => ?_)
  have hP : va_P D vwCl (wM cI β mT mW mH mS mR mL mC mZ mA mB KK KN KS KC AN (upd JK x1.toNatClampNeg x2) (upd JN x1.toNatClampNeg x3) JS JL MY KP FI TX) H := hP
  have hD : va_D A (wM cI β mT mW mH mS mR mL mC mZ mA mB KK KN KS KC AN (upd JK x1.toNatClampNeg x2) (upd JN x1.toNatClampNeg x3) JS JL MY KP FI TX) := hD
  refine lv_aload_n hx hb dX6_begin_14 rfl (lv_at hl 0 rfl) ?_
  refine va_get (D := D) (ci := 7) (v := .ref (β 8)) (C := RX6) (T := TX6) (N := 23) hx hb hts hiX6 hown hK hP 0 rfl rfl 13 (by decide) fl31 (fun _ h9 => h9) rfl dX6_begin_15 ?_
  refine lv_iload_n hx hb dX6_begin_18 rfl (lv_at hl 1 rfl) ?_
  refine lv_iconst (v := (0 : Int32)) hx hb dX6_begin_19 (by decide) ?_
  obtain ⟨g3, hf⟩ := gin_some hf
  refine va_iast hx hb hK hP hD hS 8 0 rfl rfl g3 dX6_begin_20 (fun H locs hP hD hS => ?_)
  have hP : va_P D vwCl (wM cI β mT mW mH mS mR mL mC mZ mA mB KK KN KS KC AN (upd JK x1.toNatClampNeg x2) (upd JN x1.toNatClampNeg x3) (upd JS x1.toNatClampNeg (0 : Int32)) JL MY KP FI TX) H := hP
  have hD : va_D A (wM cI β mT mW mH mS mR mL mC mZ mA mB KK KN KS KC AN (upd JK x1.toNatClampNeg x2) (upd JN x1.toNatClampNeg x3) (upd JS x1.toNatClampNeg (0 : Int32)) JL MY KP FI TX) := hD
  have e9 := Option.some.inj hf
  subst e9
  exact kV_ret S hP hD hS dX6_begin_21
abbrev rm_X6_line : Room := { frames := 1, cells := 0, slots := 0, locals := 23 }
set_option maxHeartbeats 4000000 in
set_option maxRecDepth 100000 in
theorem c_X6_line (l : Launch) (D : va_G) (cI : ClassId) (β : Nat → Nat) (mT mW mH mS mR mL mC mZ mA mB : Int32) (KK KN KS KC AN JK JN JS JL MY KP FI TX : Nat → Int32) (x1 : Int32) (x2 : Int32) (res : Int32 × Int32 × Int32 × (Nat → Int32) × (Nat → Int32) × (Nat → Int32)) (hf : f_X6_line mT mL JK JN JS x1 x2 = some res) : kI l yX6_line wsX6_line rm_X6_line D cI [.ref (β 0), .int x1, .int x2] (wM cI β mT mW mH mS mR mL mC mZ mA mB KK KN KS KC AN JK JN JS JL MY KP FI TX) (wM cI β res.2.1 mW mH mS mR res.2.2.1 mC mZ mA mB KK KN KS KC AN res.2.2.2.1 res.2.2.2.2.1 res.2.2.2.2.2 JL MY KP FI TX) res.1 := by
  unfold f_X6_line at hf
  refine kI_of (cc := cX6_line) (maxL := 3) (ret := (some .int)) (by decide +kernel) rfl (Nat.le_of_ble_eq_true rfl) ?_
  intro p e s m args below meth c A ls S hP hD hS hl
  have S : kC p s m args meth c cX6_line 3 wsX6_line RX6 (some .int) D cI A := S
  have hx := S.1.1
  have hb := S.1.2.1
  have hml := S.1.2.2.1
  have hown : s.vm.findClass RX6 = some m.cls := S.1.2.2.2.1
  have hts := S.1.2.2.2.2
  have hK := S.2.2.2.1
  have hnk := S.2.2.2.2.1.2
  have hiX6 : ∀ w ∈ u_ws RX6 TX6 23, w ∈ wsX6_line := by decide +kernel
  have fl63 := hts (.fieldLink RX6 63 "ProofCheckerModel" "thrown" "I") (by decide +kernel)
  have fl107 := hts (.fieldLink RX6 107 "ProofCheckerModel" "lines" "I") (by decide +kernel)
  have hl : lv_has ls 3 [(0, .ref (β 0)), (1, .int x1), (2, .int x2)] := hl
  suffices hgo : ∀ (H : Heap) (locs : List Loc), va_P D vwCl (wM cI β mT mW mH mS mR mL mC mZ mA mB KK KN KS KC AN JK JN JS JL MY KP FI TX) H → va_D A (wM cI β mT mW mH mS mR mL mC mZ mA mB KK KN KS KC AN JK JN JS JL MY KP FI TX) → va_S A s.heap H locs → W p l e rm_X6_line s m args below meth c H locs 0 0 (MQ below (kQi D A (wM cI β res.2.1 mW mH mS mR res.2.2.1 mC mZ mA mB KK KN KS KC AN res.2.2.2.1 res.2.2.2.2.1 res.2.2.2.2.2 JL MY KP FI TX) res.1) args s 0 0 A) (F0 m 0 ls []) from hgo _ _ hP hD hS
  clear hP hD hS
  intro H locs hP hD hS
  refine lv_aload_n hx hb dX6_line_0 rfl (lv_at hl 0 rfl) ?_
  refine lv_iconst (v := (0 : Int32)) hx hb dX6_line_1 (by decide) ?_
  refine va_put (D := D) (ci := 7) (v := .int (0 : Int32)) (ty := .int) (C := RX6) (T := TX6) (N := 23) hx hb hts hiX6 tyX6 tyX6_ok nmX6 hown hK hP hD hS 0 rfl rfl 0 (by decide) fl63 (fun _ h9 => h9) rfl (by decide +kernel) rfl rfl (Nat.le_of_ble_eq_true rfl) dX6_line_2 (fun H locs hP hD hS => ?_)
  have hP : va_P D vwCl (wM cI β (0 : Int32) mW mH mS mR mL mC mZ mA mB KK KN KS KC AN JK JN JS JL MY KP FI TX) H := hP
  have hD : va_D A (wM cI β (0 : Int32) mW mH mS mR mL mC mZ mA mB KK KN KS KC AN JK JN JS JL MY KP FI TX) := hD
  refine lv_iload_n hx hb dX6_line_5 rfl (lv_at hl 1 rfl) ?_
  refine lv_if_lt (tgt := 23) hx hb dX6_line_6 (by decide) (fun c1 => ?_) (fun c1 => ?_)
  · have hf := it_t c1 hf
    refine lv_iconst (v := (-1 : Int32)) hx hb dX6_line_23 (by decide) ?_
    have e9 := Option.some.inj hf
    subst e9
    exact kI_ret S rfl hP hD hS dX6_line_24
  · have hf := it_f c1 hf
    refine lv_iload_n hx hb dX6_line_9 rfl (lv_at hl 1 rfl) ?_
    refine lv_iconst (v := (3 : Int32)) hx hb dX6_line_10 (by decide) ?_
    refine lv_icmp_gt (tgt := 23) hx hb dX6_line_11 (by decide) (fun c2 => ?_) (fun c2 => ?_)
    · have hf := it_t c2 hf
      refine lv_iconst (v := (-1 : Int32)) hx hb dX6_line_23 (by decide) ?_
      have e9 := Option.some.inj hf
      subst e9
      exact kI_ret S rfl hP hD hS dX6_line_24
    · have hf := it_f c2 hf
      refine lv_aload_n hx hb dX6_line_14 rfl (lv_at hl 0 rfl) ?_
      refine va_get (D := D) (ci := 7) (v := .int mL) (C := RX6) (T := TX6) (N := 23) hx hb hts hiX6 hown hK hP 0 rfl rfl 10 (by decide) fl107 (fun _ h9 => h9) rfl dX6_line_15 ?_
      refine lv_bipush (v := (60 : Int32)) hx hb dX6_line_18 (by decide) ?_
      refine lv_icmp_ne (tgt := 25) hx hb dX6_line_20 (by decide) (fun c3 => ?_) (fun c3 => ?_)
      · have hf := it_t c3 hf
        refine lv_aload_n hx hb dX6_line_25 rfl (lv_at hl 0 rfl) ?_
        refine lv_aload_n hx hb dX6_line_26 rfl (lv_at hl 0 rfl) ?_
        refine va_get (D := D) (ci := 7) (v := .int mL) (C := RX6) (T := TX6) (N := 23) hx hb hts hiX6 hown hK hP 0 rfl rfl 10 (by decide) fl107 (fun _ h9 => h9) rfl dX6_line_27 ?_
        refine lv_iload_n hx hb dX6_line_30 rfl (lv_at hl 1 rfl) ?_
        refine lv_iload_n hx hb dX6_line_31 rfl (lv_at hl 2 rfl) ?_
        obtain ⟨q4, hq4, hf⟩ := bnd hf
        refine kV_callV (As := [.int mL, .int x1, .int x2]) (rest := []) S hP hD hS (c_X6_begin l D cI β (0 : Int32) mW mH mS mR mL mC mZ mA mB KK KN KS KC AN JK JN JS JL MY KP FI TX mL x1 x2 q4 hq4) (cwV 3 hts gX6_line_X6_begin rfl rfl rfl (by decide +kernel) ⟨Nat.le_of_ble_eq_true rfl, Nat.le_of_ble_eq_true rfl⟩) 0 rfl rfl rfl hl.1 rfl (Nat.le_of_ble_eq_true rfl) dX6_line_32 ⟨Nat.zero_le _, Nat.zero_le _⟩ (fun H locs hP hD hS => ?_)
        have hP : va_P D vwCl (wM cI β (0 : Int32) mW mH mS mR mL mC mZ mA mB KK KN KS KC AN q4.1 q4.2.1 q4.2.2 JL MY KP FI TX) H := hP
        have hD : va_D A (wM cI β (0 : Int32) mW mH mS mR mL mC mZ mA mB KK KN KS KC AN q4.1 q4.2.1 q4.2.2 JL MY KP FI TX) := hD
        refine lv_aload_n hx hb dX6_line_35 rfl (lv_at hl 0 rfl) ?_
        refine lv_dup hx hb dX6_line_36 rfl ?_
        refine va_get (D := D) (ci := 7) (v := .int mL) (C := RX6) (T := TX6) (N := 23) hx hb hts hiX6 hown hK hP 0 rfl rfl 10 (by decide) fl107 (fun _ h9 => h9) rfl dX6_line_37 ?_
        refine lv_iconst (v := (1 : Int32)) hx hb dX6_line_40 (by decide) ?_
        refine lv_iadd hx hb dX6_line_41 ?_
        refine va_put (D := D) (ci := 7) (v := .int (mL + (1 : Int32))) (ty := .int) (C := RX6) (T := TX6) (N := 23) hx hb hts hiX6 tyX6 tyX6_ok nmX6 hown hK hP hD hS 0 rfl rfl 10 (by decide) fl107 (fun _ h9 => h9) rfl (by decide +kernel) rfl rfl (Nat.le_of_ble_eq_true rfl) dX6_line_42 (fun H locs hP hD hS => ?_)
        have hP : va_P D vwCl (wM cI β (0 : Int32) mW mH mS mR (mL + (1 : Int32)) mC mZ mA mB KK KN KS KC AN q4.1 q4.2.1 q4.2.2 JL MY KP FI TX) H := hP
        have hD : va_D A (wM cI β (0 : Int32) mW mH mS mR (mL + (1 : Int32)) mC mZ mA mB KK KN KS KC AN q4.1 q4.2.1 q4.2.2 JL MY KP FI TX) := hD
        refine lv_aload_n hx hb dX6_line_45 rfl (lv_at hl 0 rfl) ?_
        refine va_get (D := D) (ci := 7) (v := .int (mL + (1 : Int32))) (C := RX6) (T := TX6) (N := 23) hx hb hts hiX6 hown hK hP 0 rfl rfl 10 (by decide) fl107 (fun _ h9 => h9) rfl dX6_line_46 ?_
        refine lv_iconst (v := (1 : Int32)) hx hb dX6_line_49 (by decide) ?_
        refine lv_isub hx hb dX6_line_50 ?_
        have e9 := Option.some.inj hf
        subst e9
        exact kI_ret S rfl hP hD hS dX6_line_51
      · have hf := it_f (fun h9 => h9 c3) hf
        refine lv_iconst (v := (-1 : Int32)) hx hb dX6_line_23 (by decide) ?_
        have e9 := Option.some.inj hf
        subst e9
        exact kI_ret S rfl hP hD hS dX6_line_24
abbrev rm_X6_has : Room := { frames := 0, cells := 0, slots := 0, locals := 0 }
set_option maxHeartbeats 4000000 in
set_option maxRecDepth 100000 in
theorem c_X6_has (l : Launch) (D : va_G) (cI : ClassId) (β : Nat → Nat) (mT mW mH mS mR mL mC mZ mA mB : Int32) (KK KN KS KC AN JK JN JS JL MY KP FI TX : Nat → Int32) (F : Nat) (x1 : Int32) (x2 : Int32) (res : Int32) (hf : f_X6_has JS JL F x1 x2 = some res) : kI l yX6_has wsX6_has rm_X6_has D cI [.ref (β 0), .int x1, .int x2] (wM cI β mT mW mH mS mR mL mC mZ mA mB KK KN KS KC AN JK JN JS JL MY KP FI TX) (wM cI β mT mW mH mS mR mL mC mZ mA mB KK KN KS KC AN JK JN JS JL MY KP FI TX) res := by
  unfold f_X6_has at hf
  refine kI_of (cc := cX6_has) (maxL := 4) (ret := (some .boolean)) (by decide +kernel) rfl (Nat.le_of_ble_eq_true rfl) ?_
  intro p e s m args below meth c A ls S hP hD hS hl
  have S : kC p s m args meth c cX6_has 4 wsX6_has RX6 (some .boolean) D cI A := S
  have hx := S.1.1
  have hb := S.1.2.1
  have hml := S.1.2.2.1
  have hown : s.vm.findClass RX6 = some m.cls := S.1.2.2.2.1
  have hts := S.1.2.2.2.2
  have hK := S.2.2.2.1
  have hnk := S.2.2.2.2.1.2
  have hiX6 : ∀ w ∈ u_ws RX6 TX6 23, w ∈ wsX6_has := by decide +kernel
  have fl31 := hts (.fieldLink RX6 31 "ProofCheckerModel" "lineSize" "[I") (by decide +kernel)
  have fl34 := hts (.fieldLink RX6 34 "ProofCheckerModel" "literal" "[I") (by decide +kernel)
  have hl : lv_has ls 4 [(0, .ref (β 0)), (1, .int x1), (2, .int x2)] := hl
  have w2 : ∀ (n : Nat), ∀ (x1 : Int32) (x2 : Int32) (x3 : Int32) (H : Heap) (locs : List Loc) (ls : Array Slot), f_X6_has_L2 JS JL F n x1 x2 x3 = some res → va_P D vwCl (wM cI β mT mW mH mS mR mL mC mZ mA mB KK KN KS KC AN JK JN JS JL MY KP FI TX) H → va_D A (wM cI β mT mW mH mS mR mL mC mZ mA mB KK KN KS KC AN JK JN JS JL MY KP FI TX) → va_S A s.heap H locs → lv_has ls 4 [(0, .ref (β 0)), (1, .int x1), (2, .int x2), (3, .int x3)] → W p l e rm_X6_has s m args below meth c H locs 0 0 (MQ below (kQi D A (wM cI β mT mW mH mS mR mL mC mZ mA mB KK KN KS KC AN JK JN JS JL MY KP FI TX) res) args s 0 0 A) (F0 m 2 ls []) := by
    intro n
    induction n with
    | zero => intro x1 x2 x3 H locs ls hf; cases hf
    | succ n ih =>
      intro x1 x2 x3 H locs ls hf hP hD hS hl
      rw [f_X6_has_L2.eq_2] at hf
      refine lv_iload_n hx hb dX6_has_2 rfl (lv_at hl 3 rfl) ?_
      refine lv_aload_n hx hb dX6_has_3 rfl (lv_at hl 0 rfl) ?_
      refine va_get (D := D) (ci := 7) (v := .ref (β 8)) (C := RX6) (T := TX6) (N := 23) hx hb hts hiX6 hown hK hP 0 rfl rfl 13 (by decide) fl31 (fun _ h9 => h9) rfl dX6_has_4 ?_
      refine lv_iload_n hx hb dX6_has_7 rfl (lv_at hl 1 rfl) ?_
      obtain ⟨g1, hf⟩ := gin_some hf
      refine va_iald hx hb hK hP 8 0 rfl rfl g1 dX6_has_8 ?_
      refine lv_icmp_ge (tgt := 35) hx hb dX6_has_9 (by decide) (fun c2 => ?_) (fun c2 => ?_)
      · have hf := it_t c2 hf
        refine lv_iconst (v := (0 : Int32)) hx hb dX6_has_35 (by decide) ?_
        have e9 := Option.some.inj hf
        subst e9
        exact kI_ret S narrow_b0 hP hD hS dX6_has_36
      · have hf := it_f c2 hf
        refine lv_aload_n hx hb dX6_has_12 rfl (lv_at hl 0 rfl) ?_
        refine va_get (D := D) (ci := 7) (v := .ref (β 9)) (C := RX6) (T := TX6) (N := 23) hx hb hts hiX6 hown hK hP 0 rfl rfl 14 (by decide) fl34 (fun _ h9 => h9) rfl dX6_has_13 ?_
        refine lv_bipush (v := (16 : Int32)) hx hb dX6_has_16 (by decide) ?_
        refine lv_iload_n hx hb dX6_has_18 rfl (lv_at hl 1 rfl) ?_
        refine lv_imul hx hb dX6_has_19 ?_
        refine lv_iload_n hx hb dX6_has_20 rfl (lv_at hl 3 rfl) ?_
        refine lv_iadd hx hb dX6_has_21 ?_
        obtain ⟨g3, hf⟩ := gin_some hf
        refine va_iald hx hb hK hP 9 0 rfl rfl g3 dX6_has_22 ?_
        refine lv_iload_n hx hb dX6_has_23 rfl (lv_at hl 2 rfl) ?_
        refine lv_icmp_ne (tgt := 29) hx hb dX6_has_24 (by decide) (fun c4 => ?_) (fun c4 => ?_)
        · have hf := it_t c4 hf
          refine lv_iinc (v := (x3 + (1 : Int32))) (lv' := [(3, .int (x3 + (1 : Int32))), (0, .ref (β 0)), (1, .int x1), (2, .int x2)]) hx hb dX6_has_29 hl (k := 3) rfl rfl (by decide) rfl (fun ls hl => ?_)
          refine lv_goto (tgt := 2) hx hb dX6_has_32 (by decide) ?_
          exact ih _ _ _ H locs ls hf hP hD hS (lv_sub hl [1, 2, 3, 0] rfl)
        · have hf := it_f (fun h9 => h9 c4) hf
          refine lv_iconst (v := (1 : Int32)) hx hb dX6_has_27 (by decide) ?_
          have e9 := Option.some.inj hf
          subst e9
          exact kI_ret S narrow_b1 hP hD hS dX6_has_28
  suffices hgo : ∀ (H : Heap) (locs : List Loc), va_P D vwCl (wM cI β mT mW mH mS mR mL mC mZ mA mB KK KN KS KC AN JK JN JS JL MY KP FI TX) H → va_D A (wM cI β mT mW mH mS mR mL mC mZ mA mB KK KN KS KC AN JK JN JS JL MY KP FI TX) → va_S A s.heap H locs → W p l e rm_X6_has s m args below meth c H locs 0 0 (MQ below (kQi D A (wM cI β mT mW mH mS mR mL mC mZ mA mB KK KN KS KC AN JK JN JS JL MY KP FI TX) res) args s 0 0 A) (F0 m 0 ls []) from hgo _ _ hP hD hS
  clear hP hD hS
  intro H locs hP hD hS
  refine lv_iconst (v := (0 : Int32)) hx hb dX6_has_0 (by decide) ?_
  refine lv_istore_n (lv' := [(3, .int (0 : Int32)), (0, .ref (β 0)), (1, .int x1), (2, .int x2)]) hx hb dX6_has_1 rfl hl (by decide) rfl (fun ls hl => ?_)
  exact w2 F _ _ _ H locs ls hf hP hD hS (lv_sub hl [1, 2, 3, 0] rfl)
abbrev rm_X6_literalOf : Room := { frames := 0, cells := 0, slots := 0, locals := 0 }
set_option maxHeartbeats 4000000 in
set_option maxRecDepth 100000 in
theorem c_X6_literalOf (l : Launch) (D : va_G) (cI : ClassId) (β : Nat → Nat) (mT mW mH mS mR mL mC mZ mA mB : Int32) (KK KN KS KC AN JK JN JS JL MY KP FI TX : Nat → Int32) (x1 : Int32) (x2 : Int32) (x3 : Int32) (res : Int32) (hf : f_X6_literalOf mS x1 x2 x3 = some res) : kI l yX6_literalOf wsX6_literalOf rm_X6_literalOf D cI [.ref (β 0), .int x1, .int x2, .int x3] (wM cI β mT mW mH mS mR mL mC mZ mA mB KK KN KS KC AN JK JN JS JL MY KP FI TX) (wM cI β mT mW mH mS mR mL mC mZ mA mB KK KN KS KC AN JK JN JS JL MY KP FI TX) res := by
  unfold f_X6_literalOf at hf
  refine kI_of (cc := cX6_literalOf) (maxL := 4) (ret := (some .int)) (by decide +kernel) rfl (Nat.le_of_ble_eq_true rfl) ?_
  intro p e s m args below meth c A ls S hP hD hS hl
  have S : kC p s m args meth c cX6_literalOf 4 wsX6_literalOf RX6 (some .int) D cI A := S
  have hx := S.1.1
  have hb := S.1.2.1
  have hml := S.1.2.2.1
  have hown : s.vm.findClass RX6 = some m.cls := S.1.2.2.2.1
  have hts := S.1.2.2.2.2
  have hK := S.2.2.2.1
  have hnk := S.2.2.2.2.1.2
  have hiX6 : ∀ w ∈ u_ws RX6 TX6 23, w ∈ wsX6_literalOf := by decide +kernel
  have fl60 := hts (.fieldLink RX6 60 "ProofCheckerModel" "symbols" "I") (by decide +kernel)
  have hl : lv_has ls 4 [(0, .ref (β 0)), (1, .int x1), (2, .int x2), (3, .int x3)] := hl
  suffices hgo : ∀ (H : Heap) (locs : List Loc), va_P D vwCl (wM cI β mT mW mH mS mR mL mC mZ mA mB KK KN KS KC AN JK JN JS JL MY KP FI TX) H → va_D A (wM cI β mT mW mH mS mR mL mC mZ mA mB KK KN KS KC AN JK JN JS JL MY KP FI TX) → va_S A s.heap H locs → W p l e rm_X6_literalOf s m args below meth c H locs 0 0 (MQ below (kQi D A (wM cI β mT mW mH mS mR mL mC mZ mA mB KK KN KS KC AN JK JN JS JL MY KP FI TX) res) args s 0 0 A) (F0 m 0 ls []) from hgo _ _ hP hD hS
  clear hP hD hS
  intro H locs hP hD hS
  refine lv_iconst (v := (2 : Int32)) hx hb dX6_literalOf_0 (by decide) ?_
  refine lv_aload_n hx hb dX6_literalOf_1 rfl (lv_at hl 0 rfl) ?_
  refine va_get (D := D) (ci := 7) (v := .int mS) (C := RX6) (T := TX6) (N := 23) hx hb hts hiX6 hown hK hP 0 rfl rfl 3 (by decide) fl60 (fun _ h9 => h9) rfl dX6_literalOf_2 ?_
  refine lv_iload_n hx hb dX6_literalOf_5 rfl (lv_at hl 1 rfl) ?_
  refine lv_imul hx hb dX6_literalOf_6 ?_
  refine lv_iload_n hx hb dX6_literalOf_7 rfl (lv_at hl 2 rfl) ?_
  refine lv_iadd hx hb dX6_literalOf_8 ?_
  refine lv_imul hx hb dX6_literalOf_9 ?_
  refine lv_iload_n hx hb dX6_literalOf_10 rfl (lv_at hl 3 rfl) ?_
  refine lv_if_eq (tgt := 18) hx hb dX6_literalOf_11 (by decide) (fun c1 => ?_) (fun c1 => ?_)
  · have hf := it_t c1 hf
    refine lv_iconst (v := (0 : Int32)) hx hb dX6_literalOf_18 (by decide) ?_
    refine lv_iadd hx hb dX6_literalOf_19 ?_
    have e9 := Option.some.inj hf
    subst e9
    exact kI_ret S rfl hP hD hS dX6_literalOf_20
  · have hf := it_f c1 hf
    refine lv_iconst (v := (1 : Int32)) hx hb dX6_literalOf_14 (by decide) ?_
    refine lv_goto (tgt := 19) hx hb dX6_literalOf_15 (by decide) ?_
    refine lv_iadd hx hb dX6_literalOf_19 ?_
    have e9 := Option.some.inj hf
    subst e9
    exact kI_ret S rfl hP hD hS dX6_literalOf_20
abbrev rm_X6_add : Room := { frames := 0, cells := 0, slots := 0, locals := 0 }
set_option maxHeartbeats 4000000 in
set_option maxRecDepth 100000 in
theorem c_X6_add (l : Launch) (D : va_G) (cI : ClassId) (β : Nat → Nat) (mT mW mH mS mR mL mC mZ mA mB : Int32) (KK KN KS KC AN JK JN JS JL MY KP FI TX : Nat → Int32) (x1 : Int32) (x2 : Int32) (res : (Nat → Int32) × (Nat → Int32)) (hf : f_X6_add JS JL x1 x2 = some res) : kV l yX6_add wsX6_add rm_X6_add D cI [.ref (β 0), .int x1, .int x2] (wM cI β mT mW mH mS mR mL mC mZ mA mB KK KN KS KC AN JK JN JS JL MY KP FI TX) (wM cI β mT mW mH mS mR mL mC mZ mA mB KK KN KS KC AN JK JN res.1 res.2 MY KP FI TX) := by
  unfold f_X6_add at hf
  refine kV_of (cc := cX6_add) (maxL := 3) (ret := none) (by decide +kernel) rfl (Nat.le_of_ble_eq_true rfl) ?_
  intro p e s m args below meth c A ls S hP hD hS hl
  have S : kC p s m args meth c cX6_add 3 wsX6_add RX6 none D cI A := S
  have hx := S.1.1
  have hb := S.1.2.1
  have hml := S.1.2.2.1
  have hown : s.vm.findClass RX6 = some m.cls := S.1.2.2.2.1
  have hts := S.1.2.2.2.2
  have hK := S.2.2.2.1
  have hnk := S.2.2.2.2.1.2
  have hiX6 : ∀ w ∈ u_ws RX6 TX6 23, w ∈ wsX6_add := by decide +kernel
  have fl31 := hts (.fieldLink RX6 31 "ProofCheckerModel" "lineSize" "[I") (by decide +kernel)
  have fl34 := hts (.fieldLink RX6 34 "ProofCheckerModel" "literal" "[I") (by decide +kernel)
  have hl : lv_has ls 3 [(0, .ref (β 0)), (1, .int x1), (2, .int x2)] := hl
  suffices hgo : ∀ (H : Heap) (locs : List Loc), va_P D vwCl (wM cI β mT mW mH mS mR mL mC mZ mA mB KK KN KS KC AN JK JN JS JL MY KP FI TX) H → va_D A (wM cI β mT mW mH mS mR mL mC mZ mA mB KK KN KS KC AN JK JN JS JL MY KP FI TX) → va_S A s.heap H locs → W p l e rm_X6_add s m args below meth c H locs 0 0 (MQ below (kQv D A (wM cI β mT mW mH mS mR mL mC mZ mA mB KK KN KS KC AN JK JN res.1 res.2 MY KP FI TX)) args s 0 0 A) (F0 m 0 ls []) from hgo _ _ hP hD hS
  clear hP hD hS
  intro H locs hP hD hS
  refine lv_aload_n hx hb dX6_add_0 rfl (lv_at hl 0 rfl) ?_
  refine va_get (D := D) (ci := 7) (v := .ref (β 9)) (C := RX6) (T := TX6) (N := 23) hx hb hts hiX6 hown hK hP 0 rfl rfl 14 (by decide) fl34 (fun _ h9 => h9) rfl dX6_add_1 ?_
  refine lv_bipush (v := (16 : Int32)) hx hb dX6_add_4 (by decide) ?_
  refine lv_iload_n hx hb dX6_add_6 rfl (lv_at hl 1 rfl) ?_
  refine lv_imul hx hb dX6_add_7 ?_
  refine lv_aload_n hx hb dX6_add_8 rfl (lv_at hl 0 rfl) ?_
  refine va_get (D := D) (ci := 7) (v := .ref (β 8)) (C := RX6) (T := TX6) (N := 23) hx hb hts hiX6 hown hK hP 0 rfl rfl 13 (by decide) fl31 (fun _ h9 => h9) rfl dX6_add_9 ?_
  refine lv_iload_n hx hb dX6_add_12 rfl (lv_at hl 1 rfl) ?_
  obtain ⟨g1, hf⟩ := gin_some hf
  refine va_iald hx hb hK hP 8 0 rfl rfl g1 dX6_add_13 ?_
  refine lv_iadd hx hb dX6_add_14 ?_
  refine lv_iload_n hx hb dX6_add_15 rfl (lv_at hl 2 rfl) ?_
  obtain ⟨g2, hf⟩ := gin_some hf
  refine va_iast hx hb hK hP hD hS 9 0 rfl rfl g2 dX6_add_16 (fun H locs hP hD hS => ?_)
  have hP : va_P D vwCl (wM cI β mT mW mH mS mR mL mC mZ mA mB KK KN KS KC AN JK JN JS ((upd JL ((((16 : Int32) * x1) + (JS x1.toNatClampNeg))).toNatClampNeg x2)) MY KP FI TX) H := hP
  have hD : va_D A (wM cI β mT mW mH mS mR mL mC mZ mA mB KK KN KS KC AN JK JN JS ((upd JL ((((16 : Int32) * x1) + (JS x1.toNatClampNeg))).toNatClampNeg x2)) MY KP FI TX) := hD
  refine lv_aload_n hx hb dX6_add_17 rfl (lv_at hl 0 rfl) ?_
  refine va_get (D := D) (ci := 7) (v := .ref (β 8)) (C := RX6) (T := TX6) (N := 23) hx hb hts hiX6 hown hK hP 0 rfl rfl 13 (by decide) fl31 (fun _ h9 => h9) rfl dX6_add_18 ?_
  refine lv_iload_n hx hb dX6_add_21 rfl (lv_at hl 1 rfl) ?_
  refine lv_dup2_11 hx hb dX6_add_22 rfl rfl ?_
  obtain ⟨g3, hf⟩ := gin_some hf
  refine va_iald hx hb hK hP 8 0 rfl rfl g3 dX6_add_23 ?_
  refine lv_iconst (v := (1 : Int32)) hx hb dX6_add_24 (by decide) ?_
  refine lv_iadd hx hb dX6_add_25 ?_
  obtain ⟨g4, hf⟩ := gin_some hf
  refine va_iast hx hb hK hP hD hS 8 0 rfl rfl g4 dX6_add_26 (fun H locs hP hD hS => ?_)
  have hP : va_P D vwCl (wM cI β mT mW mH mS mR mL mC mZ mA mB KK KN KS KC AN JK JN ((upd JS x1.toNatClampNeg ((JS x1.toNatClampNeg) + (1 : Int32)))) ((upd JL ((((16 : Int32) * x1) + (JS x1.toNatClampNeg))).toNatClampNeg x2)) MY KP FI TX) H := hP
  have hD : va_D A (wM cI β mT mW mH mS mR mL mC mZ mA mB KK KN KS KC AN JK JN ((upd JS x1.toNatClampNeg ((JS x1.toNatClampNeg) + (1 : Int32)))) ((upd JL ((((16 : Int32) * x1) + (JS x1.toNatClampNeg))).toNatClampNeg x2)) MY KP FI TX) := hD
  have e9 := Option.some.inj hf
  subst e9
  exact kV_ret S hP hD hS dX6_add_27
abbrev rm_X6_literal : Room := { frames := 2, cells := 0, slots := 0, locals := 41 }
set_option maxHeartbeats 4000000 in
set_option maxRecDepth 100000 in
theorem c_X6_literal (l : Launch) (D : va_G) (cI : ClassId) (β : Nat → Nat) (mT mW mH mS mR mL mC mZ mA mB : Int32) (KK KN KS KC AN JK JN JS JL MY KP FI TX : Nat → Int32) (F : Nat) (x1 : Int32) (x2 : Int32) (x3 : Int32) (res : Int32 × Int32 × (Nat → Int32) × (Nat → Int32)) (hf : f_X6_literal mW mH mS mL F mT JS JL x1 x2 x3 = some res) : kI l yX6_literal wsX6_literal rm_X6_literal D cI [.ref (β 0), .int x1, .int x2, .int x3] (wM cI β mT mW mH mS mR mL mC mZ mA mB KK KN KS KC AN JK JN JS JL MY KP FI TX) (wM cI β res.2.1 mW mH mS mR mL mC mZ mA mB KK KN KS KC AN JK JN res.2.2.1 res.2.2.2 MY KP FI TX) res.1 := by
  unfold f_X6_literal at hf
  refine kI_of (cc := cX6_literal) (maxL := 4) (ret := (some .boolean)) (by decide +kernel) rfl (Nat.le_of_ble_eq_true rfl) ?_
  intro p e s m args below meth c A ls S hP hD hS hl
  have S : kC p s m args meth c cX6_literal 4 wsX6_literal RX6 (some .boolean) D cI A := S
  have hx := S.1.1
  have hb := S.1.2.1
  have hml := S.1.2.2.1
  have hown : s.vm.findClass RX6 = some m.cls := S.1.2.2.2.1
  have hts := S.1.2.2.2.2
  have hK := S.2.2.2.1
  have hnk := S.2.2.2.2.1.2
  have hiX6 : ∀ w ∈ u_ws RX6 TX6 23, w ∈ wsX6_literal := by decide +kernel
  have fl31 := hts (.fieldLink RX6 31 "ProofCheckerModel" "lineSize" "[I") (by decide +kernel)
  have fl107 := hts (.fieldLink RX6 107 "ProofCheckerModel" "lines" "I") (by decide +kernel)
  have hl : lv_has ls 4 [(0, .ref (β 0)), (1, .int x1), (2, .int x2), (3, .int x3)] := hl
  have w36 : ∀ (t1 : Int32) (t2 : Int32) (x1 : Int32) (x2 : Int32) (x3 : Int32) (mT : Int32) (JS : Nat → Int32) (JL : Nat → Int32) (H : Heap) (locs : List Loc) (ls : Array Slot), f_X6_literal_J36 mW mH mS mL F t1 t2 x1 x2 x3 mT JS JL = some res → va_P D vwCl (wM cI β mT mW mH mS mR mL mC mZ mA mB KK KN KS KC AN JK JN JS JL MY KP FI TX) H → va_D A (wM cI β mT mW mH mS mR mL mC mZ mA mB KK KN KS KC AN JK JN JS JL MY KP FI TX) → va_S A s.heap H locs → lv_has ls 4 [(0, .ref (β 0)), (1, .int x1), (2, .int x2), (3, .int x3)] → W p l e rm_X6_literal s m args below meth c H locs 0 0 (MQ below (kQi D A (wM cI β res.2.1 mW mH mS mR mL mC mZ mA mB KK KN KS KC AN JK JN res.2.2.1 res.2.2.2 MY KP FI TX) res.1) args s 0 0 A) (F0 m 36 ls [.int t2, .int t1, .ref (β 0)]) := by
    intro t1 t2 x1 x2 x3 mT JS JL H locs ls hf hP hD hS hl
    unfold f_X6_literal_J36 at hf
    obtain ⟨q7, hq7, hf⟩ := bnd hf
    refine kI_callV (As := [.int t1, .int t2]) (rest := []) S hP hD hS (c_X6_throwsIf l D cI β mT mW mH mS mR mL mC mZ mA mB KK KN KS KC AN JK JN JS JL MY KP FI TX t1 t2 q7 hq7) (cwV 2 hts gX6_literal_X6_throwsIf rfl rfl rfl (by decide +kernel) ⟨Nat.le_of_ble_eq_true rfl, Nat.le_of_ble_eq_true rfl⟩) 0 rfl rfl rfl hl.1 rfl (Nat.le_of_ble_eq_true rfl) dX6_literal_36 ⟨Nat.zero_le _, Nat.zero_le _⟩ (fun H locs hP hD hS => ?_)
    have hP : va_P D vwCl (wM cI β q7.2 mW mH mS mR mL mC mZ mA mB KK KN KS KC AN JK JN JS JL MY KP FI TX) H := hP
    have hD : va_D A (wM cI β q7.2 mW mH mS mR mL mC mZ mA mB KK KN KS KC AN JK JN JS JL MY KP FI TX) := hD
    refine lv_if_ne (tgt := 49) hx hb dX6_literal_39 (by decide) (fun c8 => ?_) (fun c8 => ?_)
    · have hf := it_t c8 hf
      refine lv_iconst (v := (0 : Int32)) hx hb dX6_literal_49 (by decide) ?_
      have e9 := Option.some.inj hf
      subst e9
      exact kI_ret S narrow_b0 hP hD hS dX6_literal_50
    · have hf := it_f (fun h9 => h9 c8) hf
      refine lv_aload_n hx hb dX6_literal_42 rfl (lv_at hl 0 rfl) ?_
      refine va_get (D := D) (ci := 7) (v := .int mL) (C := RX6) (T := TX6) (N := 23) hx hb hts hiX6 hown hK hP 0 rfl rfl 10 (by decide) fl107 (fun _ h9 => h9) rfl dX6_literal_43 ?_
      refine lv_if_ne (tgt := 51) hx hb dX6_literal_46 (by decide) (fun c9 => ?_) (fun c9 => ?_)
      · have hf := it_t c9 hf
        refine lv_aload_n hx hb dX6_literal_51 rfl (lv_at hl 0 rfl) ?_
        refine lv_aload_n hx hb dX6_literal_52 rfl (lv_at hl 0 rfl) ?_
        refine va_get (D := D) (ci := 7) (v := .int mL) (C := RX6) (T := TX6) (N := 23) hx hb hts hiX6 hown hK hP 0 rfl rfl 10 (by decide) fl107 (fun _ h9 => h9) rfl dX6_literal_53 ?_
        refine lv_iconst (v := (1 : Int32)) hx hb dX6_literal_56 (by decide) ?_
        refine lv_isub hx hb dX6_literal_57 ?_
        refine lv_aload_n hx hb dX6_literal_58 rfl (lv_at hl 0 rfl) ?_
        refine lv_iload_n hx hb dX6_literal_59 rfl (lv_at hl 1 rfl) ?_
        refine lv_iload_n hx hb dX6_literal_60 rfl (lv_at hl 2 rfl) ?_
        refine lv_iload_n hx hb dX6_literal_61 rfl (lv_at hl 3 rfl) ?_
        obtain ⟨q10, hq10, hf⟩ := bnd hf
        refine kI_callV (As := [.int x1, .int x2, .int x3]) (rest := [.int (mL - (1 : Int32)), .ref (β 0)]) S hP hD hS (c_X6_literalOf l D cI β q7.2 mW mH mS mR mL mC mZ mA mB KK KN KS KC AN JK JN JS JL MY KP FI TX x1 x2 x3 q10 hq10) (cwV 3 hts gX6_literal_X6_literalOf rfl rfl rfl (by decide +kernel) ⟨Nat.le_of_ble_eq_true rfl, Nat.le_of_ble_eq_true rfl⟩) 0 rfl rfl rfl hl.1 rfl (Nat.le_of_ble_eq_true rfl) dX6_literal_62 ⟨Nat.zero_le _, Nat.zero_le _⟩ (fun H locs hP hD hS => ?_)
        have hP : va_P D vwCl (wM cI β q7.2 mW mH mS mR mL mC mZ mA mB KK KN KS KC AN JK JN JS JL MY KP FI TX) H := hP
        have hD : va_D A (wM cI β q7.2 mW mH mS mR mL mC mZ mA mB KK KN KS KC AN JK JN JS JL MY KP FI TX) := hD
        obtain ⟨q11, hq11, hf⟩ := bnd hf
        refine kI_callV (As := [.int (mL - (1 : Int32)), .int q10]) (rest := []) S hP hD hS (c_X6_has l D cI β q7.2 mW mH mS mR mL mC mZ mA mB KK KN KS KC AN JK JN JS JL MY KP FI TX F (mL - (1 : Int32)) q10 q11 hq11) (cwV 2 hts gX6_literal_X6_has rfl rfl rfl (by decide +kernel) ⟨Nat.le_of_ble_eq_true rfl, Nat.le_of_ble_eq_true rfl⟩) 0 rfl rfl rfl hl.1 rfl (Nat.le_of_ble_eq_true rfl) dX6_literal_65 ⟨Nat.zero_le _, Nat.zero_le _⟩ (fun H locs hP hD hS => ?_)
        have hP : va_P D vwCl (wM cI β q7.2 mW mH mS mR mL mC mZ mA mB KK KN KS KC AN JK JN JS JL MY KP FI TX) H := hP
        have hD : va_D A (wM cI β q7.2 mW mH mS mR mL mC mZ mA mB KK KN KS KC AN JK JN JS JL MY KP FI TX) := hD
        refine lv_if_ne (tgt := 87) hx hb dX6_literal_68 (by decide) (fun c12 => ?_) (fun c12 => ?_)
        · have hf := it_t c12 hf
          refine lv_iconst (v := (0 : Int32)) hx hb dX6_literal_87 (by decide) ?_
          have e9 := Option.some.inj hf
          subst e9
          exact kI_ret S narrow_b0 hP hD hS dX6_literal_88
        · have hf := it_f (fun h9 => h9 c12) hf
          refine lv_aload_n hx hb dX6_literal_71 rfl (lv_at hl 0 rfl) ?_
          refine va_get (D := D) (ci := 7) (v := .ref (β 8)) (C := RX6) (T := TX6) (N := 23) hx hb hts hiX6 hown hK hP 0 rfl rfl 13 (by decide) fl31 (fun _ h9 => h9) rfl dX6_literal_72 ?_
          refine lv_aload_n hx hb dX6_literal_75 rfl (lv_at hl 0 rfl) ?_
          refine va_get (D := D) (ci := 7) (v := .int mL) (C := RX6) (T := TX6) (N := 23) hx hb hts hiX6 hown hK hP 0 rfl rfl 10 (by decide) fl107 (fun _ h9 => h9) rfl dX6_literal_76 ?_
          refine lv_iconst (v := (1 : Int32)) hx hb dX6_literal_79 (by decide) ?_
          refine lv_isub hx hb dX6_literal_80 ?_
          obtain ⟨g13, hf⟩ := gin_some hf
          refine va_iald hx hb hK hP 8 0 rfl rfl g13 dX6_literal_81 ?_
          refine lv_bipush (v := (16 : Int32)) hx hb dX6_literal_82 (by decide) ?_
          refine lv_icmp_ne (tgt := 89) hx hb dX6_literal_84 (by decide) (fun c14 => ?_) (fun c14 => ?_)
          · have hf := it_t c14 hf
            refine lv_aload_n hx hb dX6_literal_89 rfl (lv_at hl 0 rfl) ?_
            refine lv_aload_n hx hb dX6_literal_90 rfl (lv_at hl 0 rfl) ?_
            refine va_get (D := D) (ci := 7) (v := .int mL) (C := RX6) (T := TX6) (N := 23) hx hb hts hiX6 hown hK hP 0 rfl rfl 10 (by decide) fl107 (fun _ h9 => h9) rfl dX6_literal_91 ?_
            refine lv_iconst (v := (1 : Int32)) hx hb dX6_literal_94 (by decide) ?_
            refine lv_isub hx hb dX6_literal_95 ?_
            refine lv_aload_n hx hb dX6_literal_96 rfl (lv_at hl 0 rfl) ?_
            refine lv_iload_n hx hb dX6_literal_97 rfl (lv_at hl 1 rfl) ?_
            refine lv_iload_n hx hb dX6_literal_98 rfl (lv_at hl 2 rfl) ?_
            refine lv_iload_n hx hb dX6_literal_99 rfl (lv_at hl 3 rfl) ?_
            obtain ⟨q15, hq15, hf⟩ := bnd hf
            refine kI_callV (As := [.int x1, .int x2, .int x3]) (rest := [.int (mL - (1 : Int32)), .ref (β 0)]) S hP hD hS (c_X6_literalOf l D cI β q7.2 mW mH mS mR mL mC mZ mA mB KK KN KS KC AN JK JN JS JL MY KP FI TX x1 x2 x3 q15 hq15) (cwV 3 hts gX6_literal_X6_literalOf rfl rfl rfl (by decide +kernel) ⟨Nat.le_of_ble_eq_true rfl, Nat.le_of_ble_eq_true rfl⟩) 0 rfl rfl rfl hl.1 rfl (Nat.le_of_ble_eq_true rfl) dX6_literal_100 ⟨Nat.zero_le _, Nat.zero_le _⟩ (fun H locs hP hD hS => ?_)
            have hP : va_P D vwCl (wM cI β q7.2 mW mH mS mR mL mC mZ mA mB KK KN KS KC AN JK JN JS JL MY KP FI TX) H := hP
            have hD : va_D A (wM cI β q7.2 mW mH mS mR mL mC mZ mA mB KK KN KS KC AN JK JN JS JL MY KP FI TX) := hD
            obtain ⟨q16, hq16, hf⟩ := bnd hf
            refine kV_callV (As := [.int (mL - (1 : Int32)), .int q15]) (rest := []) S hP hD hS (c_X6_add l D cI β q7.2 mW mH mS mR mL mC mZ mA mB KK KN KS KC AN JK JN JS JL MY KP FI TX (mL - (1 : Int32)) q15 q16 hq16) (cwV 2 hts gX6_literal_X6_add rfl rfl rfl (by decide +kernel) ⟨Nat.le_of_ble_eq_true rfl, Nat.le_of_ble_eq_true rfl⟩) 0 rfl rfl rfl hl.1 rfl (Nat.le_of_ble_eq_true rfl) dX6_literal_103 ⟨Nat.zero_le _, Nat.zero_le _⟩ (fun H locs hP hD hS => ?_)
            have hP : va_P D vwCl (wM cI β q7.2 mW mH mS mR mL mC mZ mA mB KK KN KS KC AN JK JN q16.1 q16.2 MY KP FI TX) H := hP
            have hD : va_D A (wM cI β q7.2 mW mH mS mR mL mC mZ mA mB KK KN KS KC AN JK JN q16.1 q16.2 MY KP FI TX) := hD
            refine lv_iconst (v := (1 : Int32)) hx hb dX6_literal_106 (by decide) ?_
            have e9 := Option.some.inj hf
            subst e9
            exact kI_ret S narrow_b1 hP hD hS dX6_literal_107
          · have hf := it_f (fun h9 => h9 c14) hf
            refine lv_iconst (v := (0 : Int32)) hx hb dX6_literal_87 (by decide) ?_
            have e9 := Option.some.inj hf
            subst e9
            exact kI_ret S narrow_b0 hP hD hS dX6_literal_88
      · have hf := it_f (fun h9 => h9 c9) hf
        refine lv_iconst (v := (0 : Int32)) hx hb dX6_literal_49 (by decide) ?_
        have e9 := Option.some.inj hf
        subst e9
        exact kI_ret S narrow_b0 hP hD hS dX6_literal_50
  have w15 : ∀ (t1 : Int32) (t2 : Int32) (x1 : Int32) (x2 : Int32) (x3 : Int32) (mT : Int32) (JS : Nat → Int32) (JL : Nat → Int32) (H : Heap) (locs : List Loc) (ls : Array Slot), f_X6_literal_J15 mW mH mS mL F t1 t2 x1 x2 x3 mT JS JL = some res → va_P D vwCl (wM cI β mT mW mH mS mR mL mC mZ mA mB KK KN KS KC AN JK JN JS JL MY KP FI TX) H → va_D A (wM cI β mT mW mH mS mR mL mC mZ mA mB KK KN KS KC AN JK JN JS JL MY KP FI TX) → va_S A s.heap H locs → lv_has ls 4 [(0, .ref (β 0)), (1, .int x1), (2, .int x2), (3, .int x3)] → W p l e rm_X6_literal s m args below meth c H locs 0 0 (MQ below (kQi D A (wM cI β res.2.1 mW mH mS mR mL mC mZ mA mB KK KN KS KC AN JK JN res.2.2.1 res.2.2.2 MY KP FI TX) res.1) args s 0 0 A) (F0 m 15 ls [.int t2, .int t1, .ref (β 0)]) := by
    intro t1 t2 x1 x2 x3 mT JS JL H locs ls hf hP hD hS hl
    unfold f_X6_literal_J15 at hf
    obtain ⟨q3, hq3, hf⟩ := bnd hf
    refine kI_callV (As := [.int t1, .int t2]) (rest := []) S hP hD hS (c_X6_throwsIf l D cI β mT mW mH mS mR mL mC mZ mA mB KK KN KS KC AN JK JN JS JL MY KP FI TX t1 t2 q3 hq3) (cwV 2 hts gX6_literal_X6_throwsIf rfl rfl rfl (by decide +kernel) ⟨Nat.le_of_ble_eq_true rfl, Nat.le_of_ble_eq_true rfl⟩) 0 rfl rfl rfl hl.1 rfl (Nat.le_of_ble_eq_true rfl) dX6_literal_15 ⟨Nat.zero_le _, Nat.zero_le _⟩ (fun H locs hP hD hS => ?_)
    have hP : va_P D vwCl (wM cI β q3.2 mW mH mS mR mL mC mZ mA mB KK KN KS KC AN JK JN JS JL MY KP FI TX) H := hP
    have hD : va_D A (wM cI β q3.2 mW mH mS mR mL mC mZ mA mB KK KN KS KC AN JK JN JS JL MY KP FI TX) := hD
    refine lv_if_ne (tgt := 49) hx hb dX6_literal_18 (by decide) (fun c4 => ?_) (fun c4 => ?_)
    · have hf := it_t c4 hf
      refine lv_iconst (v := (0 : Int32)) hx hb dX6_literal_49 (by decide) ?_
      have e9 := Option.some.inj hf
      subst e9
      exact kI_ret S narrow_b0 hP hD hS dX6_literal_50
    · have hf := it_f (fun h9 => h9 c4) hf
      refine lv_aload_n hx hb dX6_literal_21 rfl (lv_at hl 0 rfl) ?_
      refine lv_iconst (v := (2 : Int32)) hx hb dX6_literal_22 (by decide) ?_
      refine lv_aload_n hx hb dX6_literal_23 rfl (lv_at hl 0 rfl) ?_
      refine lv_iload_n hx hb dX6_literal_24 rfl (lv_at hl 2 rfl) ?_
      obtain ⟨q5, hq5, hf⟩ := bnd hf
      refine kI_callV (As := [.int x2]) (rest := [.int (2 : Int32), .ref (β 0)]) S hP hD hS (c_X6_isSymbol l D cI β q3.2 mW mH mS mR mL mC mZ mA mB KK KN KS KC AN JK JN JS JL MY KP FI TX x2 q5 hq5) (cwV 1 hts gX6_literal_X6_isSymbol rfl rfl rfl (by decide +kernel) ⟨Nat.le_of_ble_eq_true rfl, Nat.le_of_ble_eq_true rfl⟩) 0 rfl rfl rfl hl.1 rfl (Nat.le_of_ble_eq_true rfl) dX6_literal_25 ⟨Nat.zero_le _, Nat.zero_le _⟩ (fun H locs hP hD hS => ?_)
      have hP : va_P D vwCl (wM cI β q3.2 mW mH mS mR mL mC mZ mA mB KK KN KS KC AN JK JN JS JL MY KP FI TX) H := hP
      have hD : va_D A (wM cI β q3.2 mW mH mS mR mL mC mZ mA mB KK KN KS KC AN JK JN JS JL MY KP FI TX) := hD
      refine lv_if_ne (tgt := 35) hx hb dX6_literal_28 (by decide) (fun c6 => ?_) (fun c6 => ?_)
      · have hf := it_t c6 hf
        refine lv_iconst (v := (0 : Int32)) hx hb dX6_literal_35 (by decide) ?_
        exact w36 _ _ _ _ _ _ _ _ H locs ls hf hP hD hS (lv_sub hl [0, 1, 2, 3] rfl)
      · have hf := it_f (fun h9 => h9 c6) hf
        refine lv_iconst (v := (1 : Int32)) hx hb dX6_literal_31 (by decide) ?_
        refine lv_goto (tgt := 36) hx hb dX6_literal_32 (by decide) ?_
        exact w36 _ _ _ _ _ _ _ _ H locs ls hf hP hD hS (lv_sub hl [0, 1, 2, 3] rfl)
  suffices hgo : ∀ (H : Heap) (locs : List Loc), va_P D vwCl (wM cI β mT mW mH mS mR mL mC mZ mA mB KK KN KS KC AN JK JN JS JL MY KP FI TX) H → va_D A (wM cI β mT mW mH mS mR mL mC mZ mA mB KK KN KS KC AN JK JN JS JL MY KP FI TX) → va_S A s.heap H locs → W p l e rm_X6_literal s m args below meth c H locs 0 0 (MQ below (kQi D A (wM cI β res.2.1 mW mH mS mR mL mC mZ mA mB KK KN KS KC AN JK JN res.2.2.1 res.2.2.2 MY KP FI TX) res.1) args s 0 0 A) (F0 m 0 ls []) from hgo _ _ hP hD hS
  clear hP hD hS
  intro H locs hP hD hS
  refine lv_aload_n hx hb dX6_literal_0 rfl (lv_at hl 0 rfl) ?_
  refine lv_iconst (v := (1 : Int32)) hx hb dX6_literal_1 (by decide) ?_
  refine lv_aload_n hx hb dX6_literal_2 rfl (lv_at hl 0 rfl) ?_
  refine lv_iload_n hx hb dX6_literal_3 rfl (lv_at hl 1 rfl) ?_
  obtain ⟨q1, hq1, hf⟩ := bnd hf
  refine kI_callV (As := [.int x1]) (rest := [.int (1 : Int32), .ref (β 0)]) S hP hD hS (c_X6_isCell l D cI β mT mW mH mS mR mL mC mZ mA mB KK KN KS KC AN JK JN JS JL MY KP FI TX x1 q1 hq1) (cwV 1 hts gX6_literal_X6_isCell rfl rfl rfl (by decide +kernel) ⟨Nat.le_of_ble_eq_true rfl, Nat.le_of_ble_eq_true rfl⟩) 0 rfl rfl rfl hl.1 rfl (Nat.le_of_ble_eq_true rfl) dX6_literal_4 ⟨Nat.zero_le _, Nat.zero_le _⟩ (fun H locs hP hD hS => ?_)
  have hP : va_P D vwCl (wM cI β mT mW mH mS mR mL mC mZ mA mB KK KN KS KC AN JK JN JS JL MY KP FI TX) H := hP
  have hD : va_D A (wM cI β mT mW mH mS mR mL mC mZ mA mB KK KN KS KC AN JK JN JS JL MY KP FI TX) := hD
  refine lv_if_ne (tgt := 14) hx hb dX6_literal_7 (by decide) (fun c2 => ?_) (fun c2 => ?_)
  · have hf := it_t c2 hf
    refine lv_iconst (v := (0 : Int32)) hx hb dX6_literal_14 (by decide) ?_
    exact w15 _ _ _ _ _ _ _ _ H locs ls hf hP hD hS (lv_sub hl [0, 1, 2, 3] rfl)
  · have hf := it_f (fun h9 => h9 c2) hf
    refine lv_iconst (v := (1 : Int32)) hx hb dX6_literal_10 (by decide) ?_
    refine lv_goto (tgt := 15) hx hb dX6_literal_11 (by decide) ?_
    exact w15 _ _ _ _ _ _ _ _ H locs ls hf hP hD hS (lv_sub hl [0, 1, 2, 3] rfl)
abbrev rm_X6_drop : Room := { frames := 0, cells := 0, slots := 0, locals := 0 }
set_option maxHeartbeats 4000000 in
set_option maxRecDepth 100000 in
theorem c_X6_drop (l : Launch) (D : va_G) (cI : ClassId) (β : Nat → Nat) (mT mW mH mS mR mL mC mZ mA mB : Int32) (KK KN KS KC AN JK JN JS JL MY KP FI TX : Nat → Int32)  (res : Int32 × Int32 × Int32) (hf : f_X6_drop mT mL = some res) : kI l yX6_drop wsX6_drop rm_X6_drop D cI [.ref (β 0)] (wM cI β mT mW mH mS mR mL mC mZ mA mB KK KN KS KC AN JK JN JS JL MY KP FI TX) (wM cI β res.2.1 mW mH mS mR res.2.2 mC mZ mA mB KK KN KS KC AN JK JN JS JL MY KP FI TX) res.1 := by
  unfold f_X6_drop at hf
  refine kI_of (cc := cX6_drop) (maxL := 1) (ret := (some .boolean)) (by decide +kernel) rfl (Nat.le_of_ble_eq_true rfl) ?_
  intro p e s m args below meth c A ls S hP hD hS hl
  have S : kC p s m args meth c cX6_drop 1 wsX6_drop RX6 (some .boolean) D cI A := S
  have hx := S.1.1
  have hb := S.1.2.1
  have hml := S.1.2.2.1
  have hown : s.vm.findClass RX6 = some m.cls := S.1.2.2.2.1
  have hts := S.1.2.2.2.2
  have hK := S.2.2.2.1
  have hnk := S.2.2.2.2.1.2
  have hiX6 : ∀ w ∈ u_ws RX6 TX6 23, w ∈ wsX6_drop := by decide +kernel
  have fl63 := hts (.fieldLink RX6 63 "ProofCheckerModel" "thrown" "I") (by decide +kernel)
  have fl107 := hts (.fieldLink RX6 107 "ProofCheckerModel" "lines" "I") (by decide +kernel)
  have hl : lv_has ls 1 [(0, .ref (β 0))] := hl
  suffices hgo : ∀ (H : Heap) (locs : List Loc), va_P D vwCl (wM cI β mT mW mH mS mR mL mC mZ mA mB KK KN KS KC AN JK JN JS JL MY KP FI TX) H → va_D A (wM cI β mT mW mH mS mR mL mC mZ mA mB KK KN KS KC AN JK JN JS JL MY KP FI TX) → va_S A s.heap H locs → W p l e rm_X6_drop s m args below meth c H locs 0 0 (MQ below (kQi D A (wM cI β res.2.1 mW mH mS mR res.2.2 mC mZ mA mB KK KN KS KC AN JK JN JS JL MY KP FI TX) res.1) args s 0 0 A) (F0 m 0 ls []) from hgo _ _ hP hD hS
  clear hP hD hS
  intro H locs hP hD hS
  refine lv_aload_n hx hb dX6_drop_0 rfl (lv_at hl 0 rfl) ?_
  refine lv_iconst (v := (0 : Int32)) hx hb dX6_drop_1 (by decide) ?_
  refine va_put (D := D) (ci := 7) (v := .int (0 : Int32)) (ty := .int) (C := RX6) (T := TX6) (N := 23) hx hb hts hiX6 tyX6 tyX6_ok nmX6 hown hK hP hD hS 0 rfl rfl 0 (by decide) fl63 (fun _ h9 => h9) rfl (by decide +kernel) rfl rfl (Nat.le_of_ble_eq_true rfl) dX6_drop_2 (fun H locs hP hD hS => ?_)
  have hP : va_P D vwCl (wM cI β (0 : Int32) mW mH mS mR mL mC mZ mA mB KK KN KS KC AN JK JN JS JL MY KP FI TX) H := hP
  have hD : va_D A (wM cI β (0 : Int32) mW mH mS mR mL mC mZ mA mB KK KN KS KC AN JK JN JS JL MY KP FI TX) := hD
  refine lv_aload_n hx hb dX6_drop_5 rfl (lv_at hl 0 rfl) ?_
  refine va_get (D := D) (ci := 7) (v := .int mL) (C := RX6) (T := TX6) (N := 23) hx hb hts hiX6 hown hK hP 0 rfl rfl 10 (by decide) fl107 (fun _ h9 => h9) rfl dX6_drop_6 ?_
  refine lv_if_ne (tgt := 14) hx hb dX6_drop_9 (by decide) (fun c1 => ?_) (fun c1 => ?_)
  · have hf := it_t c1 hf
    refine lv_aload_n hx hb dX6_drop_14 rfl (lv_at hl 0 rfl) ?_
    refine lv_dup hx hb dX6_drop_15 rfl ?_
    refine va_get (D := D) (ci := 7) (v := .int mL) (C := RX6) (T := TX6) (N := 23) hx hb hts hiX6 hown hK hP 0 rfl rfl 10 (by decide) fl107 (fun _ h9 => h9) rfl dX6_drop_16 ?_
    refine lv_iconst (v := (1 : Int32)) hx hb dX6_drop_19 (by decide) ?_
    refine lv_isub hx hb dX6_drop_20 ?_
    refine va_put (D := D) (ci := 7) (v := .int (mL - (1 : Int32))) (ty := .int) (C := RX6) (T := TX6) (N := 23) hx hb hts hiX6 tyX6 tyX6_ok nmX6 hown hK hP hD hS 0 rfl rfl 10 (by decide) fl107 (fun _ h9 => h9) rfl (by decide +kernel) rfl rfl (Nat.le_of_ble_eq_true rfl) dX6_drop_21 (fun H locs hP hD hS => ?_)
    have hP : va_P D vwCl (wM cI β (0 : Int32) mW mH mS mR (mL - (1 : Int32)) mC mZ mA mB KK KN KS KC AN JK JN JS JL MY KP FI TX) H := hP
    have hD : va_D A (wM cI β (0 : Int32) mW mH mS mR (mL - (1 : Int32)) mC mZ mA mB KK KN KS KC AN JK JN JS JL MY KP FI TX) := hD
    refine lv_iconst (v := (1 : Int32)) hx hb dX6_drop_24 (by decide) ?_
    have e9 := Option.some.inj hf
    subst e9
    exact kI_ret S narrow_b1 hP hD hS dX6_drop_25
  · have hf := it_f (fun h9 => h9 c1) hf
    refine lv_iconst (v := (0 : Int32)) hx hb dX6_drop_12 (by decide) ?_
    have e9 := Option.some.inj hf
    subst e9
    exact kI_ret S narrow_b0 hP hD hS dX6_drop_13
abbrev rm_X6_cellOf : Room := { frames := 0, cells := 0, slots := 0, locals := 0 }
set_option maxHeartbeats 4000000 in
set_option maxRecDepth 100000 in
theorem c_X6_cellOf (l : Launch) (D : va_G) (cI : ClassId) (β : Nat → Nat) (mT mW mH mS mR mL mC mZ mA mB : Int32) (KK KN KS KC AN JK JN JS JL MY KP FI TX : Nat → Int32) (x1 : Int32) (res : Int32) (hf : f_X6_cellOf mS x1 = some res) : kI l yX6_cellOf wsX6_cellOf rm_X6_cellOf D cI [.ref (β 0), .int x1] (wM cI β mT mW mH mS mR mL mC mZ mA mB KK KN KS KC AN JK JN JS JL MY KP FI TX) (wM cI β mT mW mH mS mR mL mC mZ mA mB KK KN KS KC AN JK JN JS JL MY KP FI TX) res := by
  unfold f_X6_cellOf at hf
  refine kI_of (cc := cX6_cellOf) (maxL := 2) (ret := (some .int)) (by decide +kernel) rfl (Nat.le_of_ble_eq_true rfl) ?_
  intro p e s m args below meth c A ls S hP hD hS hl
  have S : kC p s m args meth c cX6_cellOf 2 wsX6_cellOf RX6 (some .int) D cI A := S
  have hx := S.1.1
  have hb := S.1.2.1
  have hml := S.1.2.2.1
  have hown : s.vm.findClass RX6 = some m.cls := S.1.2.2.2.1
  have hts := S.1.2.2.2.2
  have hK := S.2.2.2.1
  have hnk := S.2.2.2.2.1.2
  have hiX6 : ∀ w ∈ u_ws RX6 TX6 23, w ∈ wsX6_cellOf := by decide +kernel
  have fl60 := hts (.fieldLink RX6 60 "ProofCheckerModel" "symbols" "I") (by decide +kernel)
  have hl : lv_has ls 2 [(0, .ref (β 0)), (1, .int x1)] := hl
  suffices hgo : ∀ (H : Heap) (locs : List Loc), va_P D vwCl (wM cI β mT mW mH mS mR mL mC mZ mA mB KK KN KS KC AN JK JN JS JL MY KP FI TX) H → va_D A (wM cI β mT mW mH mS mR mL mC mZ mA mB KK KN KS KC AN JK JN JS JL MY KP FI TX) → va_S A s.heap H locs → W p l e rm_X6_cellOf s m args below meth c H locs 0 0 (MQ below (kQi D A (wM cI β mT mW mH mS mR mL mC mZ mA mB KK KN KS KC AN JK JN JS JL MY KP FI TX) res) args s 0 0 A) (F0 m 0 ls []) from hgo _ _ hP hD hS
  clear hP hD hS
  intro H locs hP hD hS
  refine lv_iload_n hx hb dX6_cellOf_0 rfl (lv_at hl 1 rfl) ?_
  refine lv_iconst (v := (2 : Int32)) hx hb dX6_cellOf_1 (by decide) ?_
  obtain ⟨g1, hf⟩ := gnz_some hf
  refine lv_idiv hx hb dX6_cellOf_2 g1 ?_
  refine lv_aload_n hx hb dX6_cellOf_3 rfl (lv_at hl 0 rfl) ?_
  refine va_get (D := D) (ci := 7) (v := .int mS) (C := RX6) (T := TX6) (N := 23) hx hb hts hiX6 hown hK hP 0 rfl rfl 3 (by decide) fl60 (fun _ h9 => h9) rfl dX6_cellOf_4 ?_
  obtain ⟨g2, hf⟩ := gnz_some hf
  refine lv_idiv hx hb dX6_cellOf_7 g2 ?_
  have e9 := Option.some.inj hf
  subst e9
  exact kI_ret S rfl hP hD hS dX6_cellOf_8
abbrev rm_X6_symbolOf : Room := { frames := 0, cells := 0, slots := 0, locals := 0 }
set_option maxHeartbeats 4000000 in
set_option maxRecDepth 100000 in
theorem c_X6_symbolOf (l : Launch) (D : va_G) (cI : ClassId) (β : Nat → Nat) (mT mW mH mS mR mL mC mZ mA mB : Int32) (KK KN KS KC AN JK JN JS JL MY KP FI TX : Nat → Int32) (x1 : Int32) (res : Int32) (hf : f_X6_symbolOf mS x1 = some res) : kI l yX6_symbolOf wsX6_symbolOf rm_X6_symbolOf D cI [.ref (β 0), .int x1] (wM cI β mT mW mH mS mR mL mC mZ mA mB KK KN KS KC AN JK JN JS JL MY KP FI TX) (wM cI β mT mW mH mS mR mL mC mZ mA mB KK KN KS KC AN JK JN JS JL MY KP FI TX) res := by
  unfold f_X6_symbolOf at hf
  refine kI_of (cc := cX6_symbolOf) (maxL := 2) (ret := (some .int)) (by decide +kernel) rfl (Nat.le_of_ble_eq_true rfl) ?_
  intro p e s m args below meth c A ls S hP hD hS hl
  have S : kC p s m args meth c cX6_symbolOf 2 wsX6_symbolOf RX6 (some .int) D cI A := S
  have hx := S.1.1
  have hb := S.1.2.1
  have hml := S.1.2.2.1
  have hown : s.vm.findClass RX6 = some m.cls := S.1.2.2.2.1
  have hts := S.1.2.2.2.2
  have hK := S.2.2.2.1
  have hnk := S.2.2.2.2.1.2
  have hiX6 : ∀ w ∈ u_ws RX6 TX6 23, w ∈ wsX6_symbolOf := by decide +kernel
  have fl60 := hts (.fieldLink RX6 60 "ProofCheckerModel" "symbols" "I") (by decide +kernel)
  have hl : lv_has ls 2 [(0, .ref (β 0)), (1, .int x1)] := hl
  suffices hgo : ∀ (H : Heap) (locs : List Loc), va_P D vwCl (wM cI β mT mW mH mS mR mL mC mZ mA mB KK KN KS KC AN JK JN JS JL MY KP FI TX) H → va_D A (wM cI β mT mW mH mS mR mL mC mZ mA mB KK KN KS KC AN JK JN JS JL MY KP FI TX) → va_S A s.heap H locs → W p l e rm_X6_symbolOf s m args below meth c H locs 0 0 (MQ below (kQi D A (wM cI β mT mW mH mS mR mL mC mZ mA mB KK KN KS KC AN JK JN JS JL MY KP FI TX) res) args s 0 0 A) (F0 m 0 ls []) from hgo _ _ hP hD hS
  clear hP hD hS
  intro H locs hP hD hS
  refine lv_iload_n hx hb dX6_symbolOf_0 rfl (lv_at hl 1 rfl) ?_
  refine lv_iconst (v := (2 : Int32)) hx hb dX6_symbolOf_1 (by decide) ?_
  obtain ⟨g1, hf⟩ := gnz_some hf
  refine lv_idiv hx hb dX6_symbolOf_2 g1 ?_
  refine lv_aload_n hx hb dX6_symbolOf_3 rfl (lv_at hl 0 rfl) ?_
  refine va_get (D := D) (ci := 7) (v := .int mS) (C := RX6) (T := TX6) (N := 23) hx hb hts hiX6 hown hK hP 0 rfl rfl 3 (by decide) fl60 (fun _ h9 => h9) rfl dX6_symbolOf_4 ?_
  obtain ⟨g2, hf⟩ := gnz_some hf
  refine lv_irem hx hb dX6_symbolOf_7 g2 ?_
  have e9 := Option.some.inj hf
  subst e9
  exact kI_ret S rfl hP hD hS dX6_symbolOf_8
