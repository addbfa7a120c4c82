abbrev rm_X6_wrong : Room := { frames := 0, cells := 0, slots := 0, locals := 0 }
set_option maxHeartbeats 4000000 in
set_option maxRecDepth 100000 in
theorem c_X6_wrong (l : Launch) (D : va_G) (cI : ClassId) (β : Nat → Nat) (mT mW mH mS mR mL mC mZ mA mB : Int32) (KK KN KS KC AN JK JN JS JL MY KP FI TX : Nat → Int32) (x1 : Int32) (res : Int32) (hf : f_X6_wrong mB x1 = some res) : kV l yX6_wrong wsX6_wrong rm_X6_wrong D cI [.ref (β 0), .int x1] (wM cI β mT mW mH mS mR mL mC mZ mA mB KK KN KS KC AN JK JN JS JL MY KP FI TX) (wM cI β mT mW mH mS mR mL mC mZ mA res KK KN KS KC AN JK JN JS JL MY KP FI TX) := by
  unfold f_X6_wrong at hf
  refine kV_of (cc := cX6_wrong) (maxL := 2) (ret := none) (by decide +kernel) rfl (Nat.le_of_ble_eq_true rfl) ?_
  intro p e s m args below meth c A ls S hP hD hS hl
  have S : kC p s m args meth c cX6_wrong 2 wsX6_wrong RX6 none D cI A := S
  have hx := S.1.1
  have hb := S.1.2.1
  have hml := S.1.2.2.1
  have hown : s.vm.findClass RX6 = some m.cls := S.1.2.2.2.1
  have hts := S.1.2.2.2.2
  have hK := S.2.2.2.1
  have hnk := S.2.2.2.2.1.2
  have hiX6 : ∀ w ∈ u_ws RX6 TX6 23, w ∈ wsX6_wrong := by decide +kernel
  have fl178 := hts (.fieldLink RX6 178 "ProofCheckerModel" "bad" "I") (by decide +kernel)
  have hl : lv_has ls 2 [(0, .ref (β 0)), (1, .int x1)] := hl
  suffices hgo : ∀ (H : Heap) (locs : List Loc), va_P D vwCl (wM cI β mT mW mH mS mR mL mC mZ mA mB KK KN KS KC AN JK JN JS JL MY KP FI TX) H → va_D A (wM cI β mT mW mH mS mR mL mC mZ mA mB KK KN KS KC AN JK JN JS JL MY KP FI TX) → va_S A s.heap H locs → W p l e rm_X6_wrong s m args below meth c H locs 0 0 (MQ below (kQv D A (wM cI β mT mW mH mS mR mL mC mZ mA res KK KN KS KC AN JK JN JS JL MY KP FI TX)) args s 0 0 A) (F0 m 0 ls []) from hgo _ _ hP hD hS
  clear hP hD hS
  intro H locs hP hD hS
  refine lv_aload_n hx hb dX6_wrong_0 rfl (lv_at hl 0 rfl) ?_
  refine lv_aload_n hx hb dX6_wrong_1 rfl (lv_at hl 0 rfl) ?_
  refine va_get (D := D) (ci := 7) (v := .int mB) (C := RX6) (T := TX6) (N := 23) hx hb hts hiX6 hown hK hP 0 rfl rfl 22 (by decide) fl178 (fun _ h9 => h9) rfl dX6_wrong_2 ?_
  refine lv_if_ge (tgt := 12) hx hb dX6_wrong_5 (by decide) (fun c1 => ?_) (fun c1 => ?_)
  · have hf := it_t c1 hf
    refine lv_aload_n hx hb dX6_wrong_12 rfl (lv_at hl 0 rfl) ?_
    refine va_get (D := D) (ci := 7) (v := .int mB) (C := RX6) (T := TX6) (N := 23) hx hb hts hiX6 hown hK hP 0 rfl rfl 22 (by decide) fl178 (fun _ h9 => h9) rfl dX6_wrong_13 ?_
    refine va_put (D := D) (ci := 7) (v := .int mB) (ty := .int) (C := RX6) (T := TX6) (N := 23) hx hb hts hiX6 tyX6 tyX6_ok nmX6 hown hK hP hD hS 0 rfl rfl 22 (by decide) fl178 (fun _ h9 => h9) rfl (by decide +kernel) rfl rfl (Nat.le_of_ble_eq_true rfl) dX6_wrong_16 (fun H locs hP hD hS => ?_)
    have hP : va_P D vwCl (wM cI β mT mW mH mS mR mL mC mZ mA mB KK KN KS KC AN JK JN JS JL MY KP FI TX) H := hP
    have hD : va_D A (wM cI β mT mW mH mS mR mL mC mZ mA mB KK KN KS KC AN JK JN JS JL MY KP FI TX) := hD
    have e9 := Option.some.inj hf
    subst e9
    exact kV_ret S hP hD hS dX6_wrong_19
  · have hf := it_f c1 hf
    refine lv_iload_n hx hb dX6_wrong_8 rfl (lv_at hl 1 rfl) ?_
    refine lv_goto (tgt := 16) hx hb dX6_wrong_9 (by decide) ?_
    refine va_put (D := D) (ci := 7) (v := .int x1) (ty := .int) (C := RX6) (T := TX6) (N := 23) hx hb hts hiX6 tyX6 tyX6_ok nmX6 hown hK hP hD hS 0 rfl rfl 22 (by decide) fl178 (fun _ h9 => h9) rfl (by decide +kernel) rfl rfl (Nat.le_of_ble_eq_true rfl) dX6_wrong_16 (fun H locs hP hD hS => ?_)
    have hP : va_P D vwCl (wM cI β mT mW mH mS mR mL mC mZ mA x1 KK KN KS KC AN JK JN JS JL MY KP FI TX) H := hP
    have hD : va_D A (wM cI β mT mW mH mS mR mL mC mZ mA x1 KK KN KS KC AN JK JN JS JL MY KP FI TX) := hD
    have e9 := Option.some.inj hf
    subst e9
    exact kV_ret S hP hD hS dX6_wrong_19
abbrev rm_X6_number : Room := { frames := 2, cells := 0, slots := 0, locals := 40 }
set_option maxHeartbeats 4000000 in
set_option maxRecDepth 100000 in
theorem c_X6_number (l : Launch) (D : va_G) (cI : ClassId) (β : Nat → Nat) (mT mW mH mS mR mL mC mZ mA mB : Int32) (KK KN KS KC AN JK JN JS JL MY KP FI TX : Nat → Int32)  (res : Int32 × Int32 × Int32) (hf : f_X6_number mZ TX mA mB = some res) : kI l yX6_number wsX6_number rm_X6_number D cI [.ref (β 0)] (wM cI β mT mW mH mS mR mL mC mZ mA mB KK KN KS KC AN JK JN JS JL MY KP FI TX) (wM cI β mT mW mH mS mR mL mC mZ res.2.1 res.2.2 KK KN KS KC AN JK JN JS JL MY KP FI TX) res.1 := by
  unfold f_X6_number at hf
  refine kI_of (cc := cX6_number) (maxL := 2) (ret := (some .int)) (by decide +kernel) rfl (Nat.le_of_ble_eq_true rfl) ?_
  intro p e s m args below meth c A ls S hP hD hS hl
  have S : kC p s m args meth c cX6_number 2 wsX6_number RX6 (some .int) D cI A := S
  have hx := S.1.1
  have hb := S.1.2.1
  have hml := S.1.2.2.1
  have hown : s.vm.findClass RX6 = some m.cls := S.1.2.2.2.1
  have hts := S.1.2.2.2.2
  have hK := S.2.2.2.1
  have hnk := S.2.2.2.2.1.2
  have hiX6 : ∀ w ∈ u_ws RX6 TX6 23, w ∈ wsX6_number := by decide +kernel
  have fl172 := hts (.fieldLink RX6 172 "ProofCheckerModel" "at" "I") (by decide +kernel)
  have hl : lv_has ls 2 [(0, .ref (β 0))] := hl
  suffices hgo : ∀ (H : Heap) (locs : List Loc), va_P D vwCl (wM cI β mT mW mH mS mR mL mC mZ mA mB KK KN KS KC AN JK JN JS JL MY KP FI TX) H → va_D A (wM cI β mT mW mH mS mR mL mC mZ mA mB KK KN KS KC AN JK JN JS JL MY KP FI TX) → va_S A s.heap H locs → W p l e rm_X6_number s m args below meth c H locs 0 0 (MQ below (kQi D A (wM cI β mT mW mH mS mR mL mC mZ res.2.1 res.2.2 KK KN KS KC AN JK JN JS JL MY KP FI TX) res.1) args s 0 0 A) (F0 m 0 ls []) from hgo _ _ hP hD hS
  clear hP hD hS
  intro H locs hP hD hS
  refine lv_aload_n hx hb dX6_number_0 rfl (lv_at hl 0 rfl) ?_
  obtain ⟨q1, hq1, hf⟩ := bnd hf
  refine kI_callV (As := []) (rest := []) S hP hD hS (c_X6_isDigit l D cI β mT mW mH mS mR mL mC mZ mA mB KK KN KS KC AN JK JN JS JL MY KP FI TX q1 hq1) (cwV 0 hts gX6_number_X6_isDigit rfl rfl rfl (by decide +kernel) ⟨Nat.le_of_ble_eq_true rfl, Nat.le_of_ble_eq_true rfl⟩) 0 rfl rfl rfl hl.1 rfl (Nat.le_of_ble_eq_true rfl) dX6_number_1 ⟨Nat.zero_le _, Nat.zero_le _⟩ (fun H locs hP hD hS => ?_)
  have hP : va_P D vwCl (wM cI β mT mW mH mS mR mL mC mZ mA mB KK KN KS KC AN JK JN JS JL MY KP FI TX) H := hP
  have hD : va_D A (wM cI β mT mW mH mS mR mL mC mZ mA mB KK KN KS KC AN JK JN JS JL MY KP FI TX) := hD
  refine lv_if_ne (tgt := 17) hx hb dX6_number_4 (by decide) (fun c2 => ?_) (fun c2 => ?_)
  · have hf := it_t c2 hf
    refine lv_aload_n hx hb dX6_number_17 rfl (lv_at hl 0 rfl) ?_
    obtain ⟨q3, hq3, hf⟩ := bnd hf
    refine kI_callV (As := []) (rest := []) S hP hD hS (c_X6_look l D cI β mT mW mH mS mR mL mC mZ mA mB KK KN KS KC AN JK JN JS JL MY KP FI TX q3 hq3) (cwV 0 hts gX6_number_X6_look rfl rfl rfl (by decide +kernel) ⟨Nat.le_of_ble_eq_true rfl, Nat.le_of_ble_eq_true rfl⟩) 0 rfl rfl rfl hl.1 rfl (Nat.le_of_ble_eq_true rfl) dX6_number_18 ⟨Nat.zero_le _, Nat.zero_le _⟩ (fun H locs hP hD hS => ?_)
    have hP : va_P D vwCl (wM cI β mT mW mH mS mR mL mC mZ mA mB KK KN KS KC AN JK JN JS JL MY KP FI TX) H := hP
    have hD : va_D A (wM cI β mT mW mH mS mR mL mC mZ mA mB KK KN KS KC AN JK JN JS JL MY KP FI TX) := hD
    refine lv_bipush (v := (48 : Int32)) hx hb dX6_number_21 (by decide) ?_
    refine lv_isub hx hb dX6_number_23 ?_
    refine lv_istore_n (lv' := [(1, .int (q3 - (48 : Int32))), (0, .ref (β 0))]) hx hb dX6_number_24 rfl hl (by decide) rfl (fun ls hl => ?_)
    refine lv_aload_n hx hb dX6_number_25 rfl (lv_at hl 1 rfl) ?_
    refine lv_dup hx hb dX6_number_26 rfl ?_
    refine va_get (D := D) (ci := 7) (v := .int mA) (C := RX6) (T := TX6) (N := 23) hx hb hts hiX6 hown hK hP 0 rfl rfl 21 (by decide) fl172 (fun _ h9 => h9) rfl dX6_number_27 ?_
    refine lv_iconst (v := (1 : Int32)) hx hb dX6_number_30 (by decide) ?_
    refine lv_iadd hx hb dX6_number_31 ?_
    refine va_put (D := D) (ci := 7) (v := .int (mA + (1 : Int32))) (ty := .int) (C := RX6) (T := TX6) (N := 23) hx hb hts hiX6 tyX6 tyX6_ok nmX6 hown hK hP hD hS 0 rfl rfl 21 (by decide) fl172 (fun _ h9 => h9) rfl (by decide +kernel) rfl rfl (Nat.le_of_ble_eq_true rfl) dX6_number_32 (fun H locs hP hD hS => ?_)
    have hP : va_P D vwCl (wM cI β mT mW mH mS mR mL mC mZ (mA + (1 : Int32)) mB KK KN KS KC AN JK JN JS JL MY KP FI TX) H := hP
    have hD : va_D A (wM cI β mT mW mH mS mR mL mC mZ (mA + (1 : Int32)) mB KK KN KS KC AN JK JN JS JL MY KP FI TX) := hD
    refine lv_iload_n hx hb dX6_number_35 rfl (lv_at hl 0 rfl) ?_
    refine lv_if_le (tgt := 69) hx hb dX6_number_36 (by decide) (fun c4 => ?_) (fun c4 => ?_)
    · have hf := it_t c4 hf
      refine lv_iload_n hx hb dX6_number_69 rfl (lv_at hl 0 rfl) ?_
      have e9 := Option.some.inj hf
      subst e9
      exact kI_ret S rfl hP hD hS dX6_number_70
    · have hf := it_f c4 hf
      refine lv_aload_n hx hb dX6_number_39 rfl (lv_at hl 1 rfl) ?_
      obtain ⟨q5, hq5, hf⟩ := bnd hf
      refine kI_callV (As := []) (rest := []) S hP hD hS (c_X6_isDigit l D cI β mT mW mH mS mR mL mC mZ (mA + (1 : Int32)) mB KK KN KS KC AN JK JN JS JL MY KP FI TX q5 hq5) (cwV 0 hts gX6_number_X6_isDigit rfl rfl rfl (by decide +kernel) ⟨Nat.le_of_ble_eq_true rfl, Nat.le_of_ble_eq_true rfl⟩) 0 rfl rfl rfl hl.1 rfl (Nat.le_of_ble_eq_true rfl) dX6_number_40 ⟨Nat.zero_le _, Nat.zero_le _⟩ (fun H locs hP hD hS => ?_)
      have hP : va_P D vwCl (wM cI β mT mW mH mS mR mL mC mZ (mA + (1 : Int32)) mB KK KN KS KC AN JK JN JS JL MY KP FI TX) H := hP
      have hD : va_D A (wM cI β mT mW mH mS mR mL mC mZ (mA + (1 : Int32)) mB KK KN KS KC AN JK JN JS JL MY KP FI TX) := hD
      refine lv_if_eq (tgt := 69) hx hb dX6_number_43 (by decide) (fun c6 => ?_) (fun c6 => ?_)
      · have hf := it_t c6 hf
        refine lv_iload_n hx hb dX6_number_69 rfl (lv_at hl 0 rfl) ?_
        have e9 := Option.some.inj hf
        subst e9
        exact kI_ret S rfl hP hD hS dX6_number_70
      · have hf := it_f c6 hf
        refine lv_bipush (v := (10 : Int32)) hx hb dX6_number_46 (by decide) ?_
        refine lv_iload_n hx hb dX6_number_48 rfl (lv_at hl 0 rfl) ?_
        refine lv_imul hx hb dX6_number_49 ?_
        refine lv_aload_n hx hb dX6_number_50 rfl (lv_at hl 1 rfl) ?_
        obtain ⟨q7, hq7, hf⟩ := bnd hf
        refine kI_callV (As := []) (rest := [.int (((10 : Int32) * (q3 - (48 : Int32))))]) S hP hD hS (c_X6_look l D cI β mT mW mH mS mR mL mC mZ (mA + (1 : Int32)) mB KK KN KS KC AN JK JN JS JL MY KP FI TX q7 hq7) (cwV 0 hts gX6_number_X6_look rfl rfl rfl (by decide +kernel) ⟨Nat.le_of_ble_eq_true rfl, Nat.le_of_ble_eq_true rfl⟩) 0 rfl rfl rfl hl.1 rfl (Nat.le_of_ble_eq_true rfl) dX6_number_51 ⟨Nat.zero_le _, Nat.zero_le _⟩ (fun H locs hP hD hS => ?_)
        have hP : va_P D vwCl (wM cI β mT mW mH mS mR mL mC mZ (mA + (1 : Int32)) mB KK KN KS KC AN JK JN JS JL MY KP FI TX) H := hP
        have hD : va_D A (wM cI β mT mW mH mS mR mL mC mZ (mA + (1 : Int32)) mB KK KN KS KC AN JK JN JS JL MY KP FI TX) := hD
        refine lv_iadd hx hb dX6_number_54 ?_
        refine lv_bipush (v := (48 : Int32)) hx hb dX6_number_55 (by decide) ?_
        refine lv_isub hx hb dX6_number_57 ?_
        refine lv_istore_n (lv' := [(1, .int (((((((10 : Int32) * (q3 - (48 : Int32)))) + q7)) - (48 : Int32)))), (0, .ref (β 0))]) hx hb dX6_number_58 rfl hl (by decide) rfl (fun ls hl => ?_)
        refine lv_aload_n hx hb dX6_number_59 rfl (lv_at hl 1 rfl) ?_
        refine lv_dup hx hb dX6_number_60 rfl ?_
        refine va_get (D := D) (ci := 7) (v := .int (mA + (1 : Int32))) (C := RX6) (T := TX6) (N := 23) hx hb hts hiX6 hown hK hP 0 rfl rfl 21 (by decide) fl172 (fun _ h9 => h9) rfl dX6_number_61 ?_
        refine lv_iconst (v := (1 : Int32)) hx hb dX6_number_64 (by decide) ?_
        refine lv_iadd hx hb dX6_number_65 ?_
        refine va_put (D := D) (ci := 7) (v := .int (((mA + (1 : Int32)) + (1 : Int32)))) (ty := .int) (C := RX6) (T := TX6) (N := 23) hx hb hts hiX6 tyX6 tyX6_ok nmX6 hown hK hP hD hS 0 rfl rfl 21 (by decide) fl172 (fun _ h9 => h9) rfl (by decide +kernel) rfl rfl (Nat.le_of_ble_eq_true rfl) dX6_number_66 (fun H locs hP hD hS => ?_)
        have hP : va_P D vwCl (wM cI β mT mW mH mS mR mL mC mZ (((mA + (1 : Int32)) + (1 : Int32))) mB KK KN KS KC AN JK JN JS JL MY KP FI TX) H := hP
        have hD : va_D A (wM cI β mT mW mH mS mR mL mC mZ (((mA + (1 : Int32)) + (1 : Int32))) mB KK KN KS KC AN JK JN JS JL MY KP FI TX) := hD
        refine lv_iload_n hx hb dX6_number_69 rfl (lv_at hl 0 rfl) ?_
        have e9 := Option.some.inj hf
        subst e9
        exact kI_ret S rfl hP hD hS dX6_number_70
  · have hf := it_f (fun h9 => h9 c2) hf
    refine lv_aload_n hx hb dX6_number_7 rfl (lv_at hl 0 rfl) ?_
    refine lv_aload_n hx hb dX6_number_8 rfl (lv_at hl 0 rfl) ?_
    refine va_get (D := D) (ci := 7) (v := .int mA) (C := RX6) (T := TX6) (N := 23) hx hb hts hiX6 hown hK hP 0 rfl rfl 21 (by decide) fl172 (fun _ h9 => h9) rfl dX6_number_9 ?_
    obtain ⟨q8, hq8, hf⟩ := bnd hf
    refine kV_callV (As := [.int mA]) (rest := []) S hP hD hS (c_X6_wrong l D cI β mT mW mH mS mR mL mC mZ mA mB KK KN KS KC AN JK JN JS JL MY KP FI TX mA q8 hq8) (cwV 1 hts gX6_number_X6_wrong rfl rfl rfl (by decide +kernel) ⟨Nat.le_of_ble_eq_true rfl, Nat.le_of_ble_eq_true rfl⟩) 0 rfl rfl rfl hl.1 rfl (Nat.le_of_ble_eq_true rfl) dX6_number_12 ⟨Nat.zero_le _, Nat.zero_le _⟩ (fun H locs hP hD hS => ?_)
    have hP : va_P D vwCl (wM cI β mT mW mH mS mR mL mC mZ mA q8 KK KN KS KC AN JK JN JS JL MY KP FI TX) H := hP
    have hD : va_D A (wM cI β mT mW mH mS mR mL mC mZ mA q8 KK KN KS KC AN JK JN JS JL MY KP FI TX) := hD
    refine lv_iconst (v := (0 : Int32)) hx hb dX6_number_15 (by decide) ?_
    have e9 := Option.some.inj hf
    subst e9
    exact kI_ret S rfl hP hD hS dX6_number_16
abbrev rm_X6_expect : Room := { frames := 1, cells := 0, slots := 0, locals := 21 }
set_option maxHeartbeats 4000000 in
set_option maxRecDepth 100000 in
theorem c_X6_expect (l : Launch) (D : va_G) (cI : ClassId) (β : Nat → Nat) (mT mW mH mS mR mL mC mZ mA mB : Int32) (KK KN KS KC AN JK JN JS JL MY KP FI TX : Nat → Int32) (x1 : Int32) (res : Int32 × Int32) (hf : f_X6_expect mZ TX mA mB x1 = some res) : kV l yX6_expect wsX6_expect rm_X6_expect D cI [.ref (β 0), .int x1] (wM cI β mT mW mH mS mR mL mC mZ mA mB KK KN KS KC AN JK JN JS JL MY KP FI TX) (wM cI β mT mW mH mS mR mL mC mZ res.1 res.2 KK KN KS KC AN JK JN JS JL MY KP FI TX) := by
  unfold f_X6_expect at hf
  refine kV_of (cc := cX6_expect) (maxL := 2) (ret := none) (by decide +kernel) rfl (Nat.le_of_ble_eq_true rfl) ?_
  intro p e s m args below meth c A ls S hP hD hS hl
  have S : kC p s m args meth c cX6_expect 2 wsX6_expect RX6 none D cI A := S
  have hx := S.1.1
  have hb := S.1.2.1
  have hml := S.1.2.2.1
  have hown : s.vm.findClass RX6 = some m.cls := S.1.2.2.2.1
  have hts := S.1.2.2.2.2
  have hK := S.2.2.2.1
  have hnk := S.2.2.2.2.1.2
  have hiX6 : ∀ w ∈ u_ws RX6 TX6 23, w ∈ wsX6_expect := by decide +kernel
  have fl172 := hts (.fieldLink RX6 172 "ProofCheckerModel" "at" "I") (by decide +kernel)
  have fl178 := hts (.fieldLink RX6 178 "ProofCheckerModel" "bad" "I") (by decide +kernel)
  have hl : lv_has ls 2 [(0, .ref (β 0)), (1, .int x1)] := hl
  have w24 : ∀ (mA : Int32) (mB : Int32) (H : Heap) (locs : List Loc) (ls : Array Slot), f_X6_expect_J24 mZ TX mA mB = some res → va_P D vwCl (wM cI β mT mW mH mS mR mL mC mZ mA mB KK KN KS KC AN JK JN JS JL MY KP FI TX) H → va_D A (wM cI β mT mW mH mS mR mL mC mZ mA mB KK KN KS KC AN JK JN JS JL MY KP FI TX) → va_S A s.heap H locs → lv_has ls 2 [(0, .ref (β 0))] → W p l e rm_X6_expect s m args below meth c H locs 0 0 (MQ below (kQv D A (wM cI β mT mW mH mS mR mL mC mZ res.1 res.2 KK KN KS KC AN JK JN JS JL MY KP FI TX)) args s 0 0 A) (F0 m 24 ls []) := by
    intro mA mB H locs ls hf hP hD hS hl
    unfold f_X6_expect_J24 at hf
    refine lv_aload_n hx hb dX6_expect_24 rfl (lv_at hl 0 rfl) ?_
    refine lv_dup hx hb dX6_expect_25 rfl ?_
    refine va_get (D := D) (ci := 7) (v := .int mA) (C := RX6) (T := TX6) (N := 23) hx hb hts hiX6 hown hK hP 0 rfl rfl 21 (by decide) fl172 (fun _ h9 => h9) rfl dX6_expect_26 ?_
    refine lv_iconst (v := (1 : Int32)) hx hb dX6_expect_29 (by decide) ?_
    refine lv_iadd hx hb dX6_expect_30 ?_
    refine va_put (D := D) (ci := 7) (v := .int (mA + (1 : Int32))) (ty := .int) (C := RX6) (T := TX6) (N := 23) hx hb hts hiX6 tyX6 tyX6_ok nmX6 hown hK hP hD hS 0 rfl rfl 21 (by decide) fl172 (fun _ h9 => h9) rfl (by decide +kernel) rfl rfl (Nat.le_of_ble_eq_true rfl) dX6_expect_31 (fun H locs hP hD hS => ?_)
    have hP : va_P D vwCl (wM cI β mT mW mH mS mR mL mC mZ (mA + (1 : Int32)) mB KK KN KS KC AN JK JN JS JL MY KP FI TX) H := hP
    have hD : va_D A (wM cI β mT mW mH mS mR mL mC mZ (mA + (1 : Int32)) mB KK KN KS KC AN JK JN JS JL MY KP FI TX) := hD
    have e9 := Option.some.inj hf
    subst e9
    exact kV_ret S hP hD hS dX6_expect_34
  suffices hgo : ∀ (H : Heap) (locs : List Loc), va_P D vwCl (wM cI β mT mW mH mS mR mL mC mZ mA mB KK KN KS KC AN JK JN JS JL MY KP FI TX) H → va_D A (wM cI β mT mW mH mS mR mL mC mZ mA mB KK KN KS KC AN JK JN JS JL MY KP FI TX) → va_S A s.heap H locs → W p l e rm_X6_expect s m args below meth c H locs 0 0 (MQ below (kQv D A (wM cI β mT mW mH mS mR mL mC mZ res.1 res.2 KK KN KS KC AN JK JN JS JL MY KP FI TX)) args s 0 0 A) (F0 m 0 ls []) from hgo _ _ hP hD hS
  clear hP hD hS
  intro H locs hP hD hS
  refine lv_aload_n hx hb dX6_expect_0 rfl (lv_at hl 0 rfl) ?_
  refine va_get (D := D) (ci := 7) (v := .int mB) (C := RX6) (T := TX6) (N := 23) hx hb hts hiX6 hown hK hP 0 rfl rfl 22 (by decide) fl178 (fun _ h9 => h9) rfl dX6_expect_1 ?_
  refine lv_if_lt (tgt := 8) hx hb dX6_expect_4 (by decide) (fun c1 => ?_) (fun c1 => ?_)
  · have hf := it_t c1 hf
    refine lv_aload_n hx hb dX6_expect_8 rfl (lv_at hl 0 rfl) ?_
    obtain ⟨q2, hq2, hf⟩ := bnd hf
    refine kI_callV (As := []) (rest := []) S hP hD hS (c_X6_look l D cI β mT mW mH mS mR mL mC mZ mA mB KK KN KS KC AN JK JN JS JL MY KP FI TX q2 hq2) (cwV 0 hts gX6_expect_X6_look rfl rfl rfl (by decide +kernel) ⟨Nat.le_of_ble_eq_true rfl, Nat.le_of_ble_eq_true rfl⟩) 0 rfl rfl rfl hl.1 rfl (Nat.le_of_ble_eq_true rfl) dX6_expect_9 ⟨Nat.zero_le _, Nat.zero_le _⟩ (fun H locs hP hD hS => ?_)
    have hP : va_P D vwCl (wM cI β mT mW mH mS mR mL mC mZ mA mB KK KN KS KC AN JK JN JS JL MY KP FI TX) H := hP
    have hD : va_D A (wM cI β mT mW mH mS mR mL mC mZ mA mB KK KN KS KC AN JK JN JS JL MY KP FI TX) := hD
    refine lv_iload_n hx hb dX6_expect_12 rfl (lv_at hl 1 rfl) ?_
    refine lv_icmp_eq (tgt := 24) hx hb dX6_expect_13 (by decide) (fun c3 => ?_) (fun c3 => ?_)
    · have hf := it_t c3 hf
      exact w24 _ _ H locs ls hf hP hD hS (lv_sub hl [0] rfl)
    · have hf := it_f c3 hf
      refine lv_aload_n hx hb dX6_expect_16 rfl (lv_at hl 0 rfl) ?_
      refine lv_aload_n hx hb dX6_expect_17 rfl (lv_at hl 0 rfl) ?_
      refine va_get (D := D) (ci := 7) (v := .int mA) (C := RX6) (T := TX6) (N := 23) hx hb hts hiX6 hown hK hP 0 rfl rfl 21 (by decide) fl172 (fun _ h9 => h9) rfl dX6_expect_18 ?_
      obtain ⟨q4, hq4, hf⟩ := bnd hf
      refine kV_callV (As := [.int mA]) (rest := []) S hP hD hS (c_X6_wrong l D cI β mT mW mH mS mR mL mC mZ mA mB KK KN KS KC AN JK JN JS JL MY KP FI TX mA q4 hq4) (cwV 1 hts gX6_expect_X6_wrong rfl rfl rfl (by decide +kernel) ⟨Nat.le_of_ble_eq_true rfl, Nat.le_of_ble_eq_true rfl⟩) 0 rfl rfl rfl hl.1 rfl (Nat.le_of_ble_eq_true rfl) dX6_expect_21 ⟨Nat.zero_le _, Nat.zero_le _⟩ (fun H locs hP hD hS => ?_)
      have hP : va_P D vwCl (wM cI β mT mW mH mS mR mL mC mZ mA q4 KK KN KS KC AN JK JN JS JL MY KP FI TX) H := hP
      have hD : va_D A (wM cI β mT mW mH mS mR mL mC mZ mA q4 KK KN KS KC AN JK JN JS JL MY KP FI TX) := hD
      exact w24 _ _ H locs ls hf hP hD hS (lv_sub hl [0] rfl)
  · have hf := it_f c1 hf
    have e9 := Option.some.inj hf
    subst e9
    exact kV_ret S hP hD hS dX6_expect_7
abbrev rm_X6_readLiteral : Room := { frames := 3, cells := 0, slots := 0, locals := 61 }
set_option maxHeartbeats 4000000 in
set_option maxRecDepth 100000 in
theorem c_X6_readLiteral (l : Launch) (D : va_G) (cI : ClassId) (β : Nat → Nat) (mT mW mH mS mR mL mC mZ mA mB : Int32) (KK KN KS KC AN JK JN JS JL MY KP FI TX : Nat → Int32) (F : Nat) (x1 : Int32) (res : Int32 × Int32 × (Nat → Int32) × (Nat → Int32)) (hf : f_X6_readLiteral mW mH mS mZ TX F mA mB JS JL x1 = some res) : kV l yX6_readLiteral wsX6_readLiteral rm_X6_readLiteral D cI [.ref (β 0), .int x1] (wM cI β mT mW mH mS mR mL mC mZ mA mB KK KN KS KC AN JK JN JS JL MY KP FI TX) (wM cI β mT mW mH mS mR mL mC mZ res.1 res.2.1 KK KN KS KC AN JK JN res.2.2.1 res.2.2.2 MY KP FI TX) := by
  unfold f_X6_readLiteral at hf
  refine kV_of (cc := cX6_readLiteral) (maxL := 5) (ret := none) (by decide +kernel) rfl (Nat.le_of_ble_eq_true rfl) ?_
  intro p e s m args below meth c A ls S hP hD hS hl
  have S : kC p s m args meth c cX6_readLiteral 5 wsX6_readLiteral RX6 none D cI A := S
  have hx := S.1.1
  have hb := S.1.2.1
  have hml := S.1.2.2.1
  have hown : s.vm.findClass RX6 = some m.cls := S.1.2.2.2.1
  have hts := S.1.2.2.2.2
  have hK := S.2.2.2.1
  have hnk := S.2.2.2.2.1.2
  have hiX6 : ∀ w ∈ u_ws RX6 TX6 23, w ∈ wsX6_readLiteral := by decide +kernel
  have fl31 := hts (.fieldLink RX6 31 "ProofCheckerModel" "lineSize" "[I") (by decide +kernel)
  have fl172 := hts (.fieldLink RX6 172 "ProofCheckerModel" "at" "I") (by decide +kernel)
  have fl178 := hts (.fieldLink RX6 178 "ProofCheckerModel" "bad" "I") (by decide +kernel)
  have hl : lv_has ls 5 [(0, .ref (β 0)), (1, .int x1)] := hl
  have w182 : ∀ (x1 : Int32) (x2 : Int32) (x3 : Int32) (x4 : Int32) (mA : Int32) (mB : Int32) (JS : Nat → Int32) (JL : Nat → Int32) (H : Heap) (locs : List Loc) (ls : Array Slot), f_X6_readLiteral_J182 mW mH mS mZ TX F x1 x2 x3 x4 mA mB JS JL = some res → va_P D vwCl (wM cI β mT mW mH mS mR mL mC mZ mA mB KK KN KS KC AN JK JN JS JL MY KP FI TX) H → va_D A (wM cI β mT mW mH mS mR mL mC mZ mA mB KK KN KS KC AN JK JN JS JL MY KP FI TX) → va_S A s.heap H locs → lv_has ls 5 [(0, .ref (β 0)), (1, .int x1), (2, .int x2), (3, .int x3), (4, .int x4)] → W p l e rm_X6_readLiteral s m args below meth c H locs 0 0 (MQ below (kQv D A (wM cI β mT mW mH mS mR mL mC mZ res.1 res.2.1 KK KN KS KC AN JK JN res.2.2.1 res.2.2.2 MY KP FI TX)) args s 0 0 A) (F0 m 182 ls []) := by
    intro x1 x2 x3 x4 mA mB JS JL H locs ls hf hP hD hS hl
    unfold f_X6_readLiteral_J182 at hf
    refine lv_aload_n hx hb dX6_readLiteral_182 rfl (lv_at hl 0 rfl) ?_
    refine va_get (D := D) (ci := 7) (v := .int mB) (C := RX6) (T := TX6) (N := 23) hx hb hts hiX6 hown hK hP 0 rfl rfl 22 (by decide) fl178 (fun _ h9 => h9) rfl dX6_readLiteral_183 ?_
    refine lv_if_ge (tgt := 202) hx hb dX6_readLiteral_186 (by decide) (fun c25 => ?_) (fun c25 => ?_)
    · have hf := it_t c25 hf
      have e9 := Option.some.inj hf
      subst e9
      exact kV_ret S hP hD hS dX6_readLiteral_202
    · have hf := it_f c25 hf
      refine lv_aload_n hx hb dX6_readLiteral_189 rfl (lv_at hl 0 rfl) ?_
      refine lv_iload_n hx hb dX6_readLiteral_190 rfl (lv_at hl 1 rfl) ?_
      refine lv_aload_n hx hb dX6_readLiteral_191 rfl (lv_at hl 0 rfl) ?_
      refine lv_iload_n hx hb dX6_readLiteral_192 rfl (lv_at hl 3 rfl) ?_
      refine lv_iload hx hb dX6_readLiteral_193 (lv_at hl 4 rfl) ?_
      refine lv_iload_n hx hb dX6_readLiteral_195 rfl (lv_at hl 2 rfl) ?_
      obtain ⟨q26, hq26, hf⟩ := bnd hf
      refine kI_callV (As := [.int x3, .int x4, .int x2]) (rest := [.int x1, .ref (β 0)]) S hP hD hS (c_X6_literalOf l D cI β mT mW mH mS mR mL mC mZ mA mB KK KN KS KC AN JK JN JS JL MY KP FI TX x3 x4 x2 q26 hq26) (cwV 3 hts gX6_readLiteral_X6_literalOf rfl rfl rfl (by decide +kernel) ⟨Nat.le_of_ble_eq_true rfl, Nat.le_of_ble_eq_true rfl⟩) 0 rfl rfl rfl hl.1 rfl (Nat.le_of_ble_eq_true rfl) dX6_readLiteral_196 ⟨Nat.zero_le _, Nat.zero_le _⟩ (fun H locs hP hD hS => ?_)
      have hP : va_P D vwCl (wM cI β mT mW mH mS mR mL mC mZ mA mB KK KN KS KC AN JK JN JS JL MY KP FI TX) H := hP
      have hD : va_D A (wM cI β mT mW mH mS mR mL mC mZ mA mB KK KN KS KC AN JK JN JS JL MY KP FI TX) := hD
      obtain ⟨q27, hq27, hf⟩ := bnd hf
      refine kV_callV (As := [.int x1, .int q26]) (rest := []) S hP hD hS (c_X6_add l D cI β mT mW mH mS mR mL mC mZ mA mB KK KN KS KC AN JK JN JS JL MY KP FI TX x1 q26 q27 hq27) (cwV 2 hts gX6_readLiteral_X6_add rfl rfl rfl (by decide +kernel) ⟨Nat.le_of_ble_eq_true rfl, Nat.le_of_ble_eq_true rfl⟩) 0 rfl rfl rfl hl.1 rfl (Nat.le_of_ble_eq_true rfl) dX6_readLiteral_199 ⟨Nat.zero_le _, Nat.zero_le _⟩ (fun H locs hP hD hS => ?_)
      have hP : va_P D vwCl (wM cI β mT mW mH mS mR mL mC mZ mA mB KK KN KS KC AN JK JN q27.1 q27.2 MY KP FI TX) H := hP
      have hD : va_D A (wM cI β mT mW mH mS mR mL mC mZ mA mB KK KN KS KC AN JK JN q27.1 q27.2 MY KP FI TX) := hD
      have e9 := Option.some.inj hf
      subst e9
      exact kV_ret S hP hD hS dX6_readLiteral_202
  have w172 : ∀ (x1 : Int32) (x2 : Int32) (x3 : Int32) (x4 : Int32) (mA : Int32) (mB : Int32) (JS : Nat → Int32) (JL : Nat → Int32) (H : Heap) (locs : List Loc) (ls : Array Slot), f_X6_readLiteral_J172 mW mH mS mZ TX F x1 x2 x3 x4 mA mB JS JL = some res → va_P D vwCl (wM cI β mT mW mH mS mR mL mC mZ mA mB KK KN KS KC AN JK JN JS JL MY KP FI TX) H → va_D A (wM cI β mT mW mH mS mR mL mC mZ mA mB KK KN KS KC AN JK JN JS JL MY KP FI TX) → va_S A s.heap H locs → lv_has ls 5 [(0, .ref (β 0)), (1, .int x1), (2, .int x2), (3, .int x3), (4, .int x4)] → W p l e rm_X6_readLiteral s m args below meth c H locs 0 0 (MQ below (kQv D A (wM cI β mT mW mH mS mR mL mC mZ res.1 res.2.1 KK KN KS KC AN JK JN res.2.2.1 res.2.2.2 MY KP FI TX)) args s 0 0 A) (F0 m 172 ls []) := by
    intro x1 x2 x3 x4 mA mB JS JL H locs ls hf hP hD hS hl
    unfold f_X6_readLiteral_J172 at hf
    refine lv_aload_n hx hb dX6_readLiteral_172 rfl (lv_at hl 0 rfl) ?_
    refine lv_aload_n hx hb dX6_readLiteral_173 rfl (lv_at hl 0 rfl) ?_
    refine va_get (D := D) (ci := 7) (v := .int mA) (C := RX6) (T := TX6) (N := 23) hx hb hts hiX6 hown hK hP 0 rfl rfl 21 (by decide) fl172 (fun _ h9 => h9) rfl dX6_readLiteral_174 ?_
    refine lv_iconst (v := (1 : Int32)) hx hb dX6_readLiteral_177 (by decide) ?_
    refine lv_isub hx hb dX6_readLiteral_178 ?_
    obtain ⟨q28, hq28, hf⟩ := bnd hf
    refine kV_callV (As := [.int (mA - (1 : Int32))]) (rest := []) S hP hD hS (c_X6_wrong l D cI β mT mW mH mS mR mL mC mZ mA mB KK KN KS KC AN JK JN JS JL MY KP FI TX (mA - (1 : Int32)) q28 hq28) (cwV 1 hts gX6_readLiteral_X6_wrong rfl rfl rfl (by decide +kernel) ⟨Nat.le_of_ble_eq_true rfl, Nat.le_of_ble_eq_true rfl⟩) 0 rfl rfl rfl hl.1 rfl (Nat.le_of_ble_eq_true rfl) dX6_readLiteral_179 ⟨Nat.zero_le _, Nat.zero_le _⟩ (fun H locs hP hD hS => ?_)
    have hP : va_P D vwCl (wM cI β mT mW mH mS mR mL mC mZ mA q28 KK KN KS KC AN JK JN JS JL MY KP FI TX) H := hP
    have hD : va_D A (wM cI β mT mW mH mS mR mL mC mZ mA q28 KK KN KS KC AN JK JN JS JL MY KP FI TX) := hD
    exact w182 _ _ _ _ _ _ _ _ H locs ls hf hP hD hS (lv_sub hl [0, 1, 2, 3, 4] rfl)
  have w138 : ∀ (t0 : Int32) (x1 : Int32) (x2 : Int32) (x3 : Int32) (mA : Int32) (mB : Int32) (JS : Nat → Int32) (JL : Nat → Int32) (H : Heap) (locs : List Loc) (ls : Array Slot), f_X6_readLiteral_J138 mW mH mS mZ TX F t0 x1 x2 x3 mA mB JS JL = some res → va_P D vwCl (wM cI β mT mW mH mS mR mL mC mZ mA mB KK KN KS KC AN JK JN JS JL MY KP FI TX) H → va_D A (wM cI β mT mW mH mS mR mL mC mZ mA mB KK KN KS KC AN JK JN JS JL MY KP FI TX) → va_S A s.heap H locs → lv_has ls 5 [(0, .ref (β 0)), (1, .int x1), (2, .int x2), (3, .int x3)] → W p l e rm_X6_readLiteral s m args below meth c H locs 0 0 (MQ below (kQv D A (wM cI β mT mW mH mS mR mL mC mZ res.1 res.2.1 KK KN KS KC AN JK JN res.2.2.1 res.2.2.2 MY KP FI TX)) args s 0 0 A) (F0 m 138 ls [.int t0]) := by
    intro t0 x1 x2 x3 mA mB JS JL H locs ls hf hP hD hS hl
    unfold f_X6_readLiteral_J138 at hf
    refine lv_istore (lv' := [(4, .int t0), (0, .ref (β 0)), (1, .int x1), (2, .int x2), (3, .int x3)]) hx hb dX6_readLiteral_138 hl (by decide) rfl (fun ls hl => ?_)
    refine lv_aload_n hx hb dX6_readLiteral_140 rfl (lv_at hl 1 rfl) ?_
    refine va_get (D := D) (ci := 7) (v := .int mB) (C := RX6) (T := TX6) (N := 23) hx hb hts hiX6 hown hK hP 0 rfl rfl 22 (by decide) fl178 (fun _ h9 => h9) rfl dX6_readLiteral_141 ?_
    refine lv_if_ge (tgt := 182) hx hb dX6_readLiteral_144 (by decide) (fun c19 => ?_) (fun c19 => ?_)
    · have hf := it_t c19 hf
      exact w182 _ _ _ _ _ _ _ _ H locs ls hf hP hD hS (lv_sub hl [1, 2, 3, 4, 0] rfl)
    · have hf := it_f c19 hf
      refine lv_aload_n hx hb dX6_readLiteral_147 rfl (lv_at hl 1 rfl) ?_
      refine lv_iload hx hb dX6_readLiteral_148 (lv_at hl 0 rfl) ?_
      obtain ⟨q20, hq20, hf⟩ := bnd hf
      refine kI_callV (As := [.int t0]) (rest := []) S hP hD hS (c_X6_isSymbol l D cI β mT mW mH mS mR mL mC mZ mA mB KK KN KS KC AN JK JN JS JL MY KP FI TX t0 q20 hq20) (cwV 1 hts gX6_readLiteral_X6_isSymbol rfl rfl rfl (by decide +kernel) ⟨Nat.le_of_ble_eq_true rfl, Nat.le_of_ble_eq_true rfl⟩) 0 rfl rfl rfl hl.1 rfl (Nat.le_of_ble_eq_true rfl) dX6_readLiteral_150 ⟨Nat.zero_le _, Nat.zero_le _⟩ (fun H locs hP hD hS => ?_)
      have hP : va_P D vwCl (wM cI β mT mW mH mS mR mL mC mZ mA mB KK KN KS KC AN JK JN JS JL MY KP FI TX) H := hP
      have hD : va_D A (wM cI β mT mW mH mS mR mL mC mZ mA mB KK KN KS KC AN JK JN JS JL MY KP FI TX) := hD
      refine lv_if_eq (tgt := 172) hx hb dX6_readLiteral_153 (by decide) (fun c21 => ?_) (fun c21 => ?_)
      · have hf := it_t c21 hf
        exact w172 _ _ _ _ _ _ _ _ H locs ls hf hP hD hS (lv_sub hl [1, 2, 3, 4, 0] rfl)
      · have hf := it_f c21 hf
        refine lv_aload_n hx hb dX6_readLiteral_156 rfl (lv_at hl 1 rfl) ?_
        refine lv_iload_n hx hb dX6_readLiteral_157 rfl (lv_at hl 2 rfl) ?_
        refine lv_aload_n hx hb dX6_readLiteral_158 rfl (lv_at hl 1 rfl) ?_
        refine lv_iload_n hx hb dX6_readLiteral_159 rfl (lv_at hl 4 rfl) ?_
        refine lv_iload hx hb dX6_readLiteral_160 (lv_at hl 0 rfl) ?_
        refine lv_iload_n hx hb dX6_readLiteral_162 rfl (lv_at hl 3 rfl) ?_
        obtain ⟨q22, hq22, hf⟩ := bnd hf
        refine kI_callV (As := [.int x3, .int t0, .int x2]) (rest := [.int x1, .ref (β 0)]) S hP hD hS (c_X6_literalOf l D cI β mT mW mH mS mR mL mC mZ mA mB KK KN KS KC AN JK JN JS JL MY KP FI TX x3 t0 x2 q22 hq22) (cwV 3 hts gX6_readLiteral_X6_literalOf rfl rfl rfl (by decide +kernel) ⟨Nat.le_of_ble_eq_true rfl, Nat.le_of_ble_eq_true rfl⟩) 0 rfl rfl rfl hl.1 rfl (Nat.le_of_ble_eq_true rfl) dX6_readLiteral_163 ⟨Nat.zero_le _, Nat.zero_le _⟩ (fun H locs hP hD hS => ?_)
        have hP : va_P D vwCl (wM cI β mT mW mH mS mR mL mC mZ mA mB KK KN KS KC AN JK JN JS JL MY KP FI TX) H := hP
        have hD : va_D A (wM cI β mT mW mH mS mR mL mC mZ mA mB KK KN KS KC AN JK JN JS JL MY KP FI TX) := hD
        obtain ⟨q23, hq23, hf⟩ := bnd hf
        refine kI_callV (As := [.int x1, .int q22]) (rest := []) S hP hD hS (c_X6_has l D cI β mT mW mH mS mR mL mC mZ mA mB KK KN KS KC AN JK JN JS JL MY KP FI TX F x1 q22 q23 hq23) (cwV 2 hts gX6_readLiteral_X6_has rfl rfl rfl (by decide +kernel) ⟨Nat.le_of_ble_eq_true rfl, Nat.le_of_ble_eq_true rfl⟩) 0 rfl rfl rfl hl.1 rfl (Nat.le_of_ble_eq_true rfl) dX6_readLiteral_166 ⟨Nat.zero_le _, Nat.zero_le _⟩ (fun H locs hP hD hS => ?_)
        have hP : va_P D vwCl (wM cI β mT mW mH mS mR mL mC mZ mA mB KK KN KS KC AN JK JN JS JL MY KP FI TX) H := hP
        have hD : va_D A (wM cI β mT mW mH mS mR mL mC mZ mA mB KK KN KS KC AN JK JN JS JL MY KP FI TX) := hD
        refine lv_if_eq (tgt := 182) hx hb dX6_readLiteral_169 (by decide) (fun c24 => ?_) (fun c24 => ?_)
        · have hf := it_t c24 hf
          exact w182 _ _ _ _ _ _ _ _ H locs ls hf hP hD hS (lv_sub hl [1, 2, 3, 4, 0] rfl)
        · have hf := it_f c24 hf
          exact w172 _ _ _ _ _ _ _ _ H locs ls hf hP hD hS (lv_sub hl [1, 2, 3, 4, 0] rfl)
  have w117 : ∀ (x1 : Int32) (x2 : Int32) (x3 : Int32) (mA : Int32) (mB : Int32) (JS : Nat → Int32) (JL : Nat → Int32) (H : Heap) (locs : List Loc) (ls : Array Slot), f_X6_readLiteral_J117 mW mH mS mZ TX F x1 x2 x3 mA mB JS JL = some res → va_P D vwCl (wM cI β mT mW mH mS mR mL mC mZ mA mB KK KN KS KC AN JK JN JS JL MY KP FI TX) H → va_D A (wM cI β mT mW mH mS mR mL mC mZ mA mB KK KN KS KC AN JK JN JS JL MY KP FI TX) → va_S A s.heap H locs → lv_has ls 5 [(0, .ref (β 0)), (1, .int x1), (2, .int x2), (3, .int x3)] → W p l e rm_X6_readLiteral s m args below meth c H locs 0 0 (MQ below (kQv D A (wM cI β mT mW mH mS mR mL mC mZ res.1 res.2.1 KK KN KS KC AN JK JN res.2.2.1 res.2.2.2 MY KP FI TX)) args s 0 0 A) (F0 m 117 ls []) := by
    intro x1 x2 x3 mA mB JS JL H locs ls hf hP hD hS hl
    unfold f_X6_readLiteral_J117 at hf
    refine lv_aload_n hx hb dX6_readLiteral_117 rfl (lv_at hl 0 rfl) ?_
    refine lv_bipush (v := (46 : Int32)) hx hb dX6_readLiteral_118 (by decide) ?_
    obtain ⟨q16, hq16, hf⟩ := bnd hf
    refine kV_callV (As := [.int (46 : Int32)]) (rest := []) S hP hD hS (c_X6_expect l D cI β mT mW mH mS mR mL mC mZ mA mB KK KN KS KC AN JK JN JS JL MY KP FI TX (46 : Int32) q16 hq16) (cwV 1 hts gX6_readLiteral_X6_expect rfl rfl rfl (by decide +kernel) ⟨Nat.le_of_ble_eq_true rfl, Nat.le_of_ble_eq_true rfl⟩) 0 rfl rfl rfl hl.1 rfl (Nat.le_of_ble_eq_true rfl) dX6_readLiteral_120 ⟨Nat.zero_le _, Nat.zero_le _⟩ (fun H locs hP hD hS => ?_)
    have hP : va_P D vwCl (wM cI β mT mW mH mS mR mL mC mZ q16.1 q16.2 KK KN KS KC AN JK JN JS JL MY KP FI TX) H := hP
    have hD : va_D A (wM cI β mT mW mH mS mR mL mC mZ q16.1 q16.2 KK KN KS KC AN JK JN JS JL MY KP FI TX) := hD
    refine lv_aload_n hx hb dX6_readLiteral_123 rfl (lv_at hl 0 rfl) ?_
    refine va_get (D := D) (ci := 7) (v := .int q16.2) (C := RX6) (T := TX6) (N := 23) hx hb hts hiX6 hown hK hP 0 rfl rfl 22 (by decide) fl178 (fun _ h9 => h9) rfl dX6_readLiteral_124 ?_
    refine lv_if_ge (tgt := 137) hx hb dX6_readLiteral_127 (by decide) (fun c17 => ?_) (fun c17 => ?_)
    · have hf := it_t c17 hf
      refine lv_iconst (v := (0 : Int32)) hx hb dX6_readLiteral_137 (by decide) ?_
      exact w138 _ _ _ _ _ _ _ _ H locs ls hf hP hD hS (lv_sub hl [0, 1, 2, 3] rfl)
    · have hf := it_f c17 hf
      refine lv_aload_n hx hb dX6_readLiteral_130 rfl (lv_at hl 0 rfl) ?_
      obtain ⟨q18, hq18, hf⟩ := bnd hf
      refine kI_callV (As := []) (rest := []) S hP hD hS (c_X6_number l D cI β mT mW mH mS mR mL mC mZ q16.1 q16.2 KK KN KS KC AN JK JN JS JL MY KP FI TX q18 hq18) (cwV 0 hts gX6_readLiteral_X6_number rfl rfl rfl (by decide +kernel) ⟨Nat.le_of_ble_eq_true rfl, Nat.le_of_ble_eq_true rfl⟩) 0 rfl rfl rfl hl.1 rfl (Nat.le_of_ble_eq_true rfl) dX6_readLiteral_131 ⟨Nat.zero_le _, Nat.zero_le _⟩ (fun H locs hP hD hS => ?_)
      have hP : va_P D vwCl (wM cI β mT mW mH mS mR mL mC mZ q18.2.1 q18.2.2 KK KN KS KC AN JK JN JS JL MY KP FI TX) H := hP
      have hD : va_D A (wM cI β mT mW mH mS mR mL mC mZ q18.2.1 q18.2.2 KK KN KS KC AN JK JN JS JL MY KP FI TX) := hD
      refine lv_goto (tgt := 138) hx hb dX6_readLiteral_134 (by decide) ?_
      exact w138 _ _ _ _ _ _ _ _ H locs ls hf hP hD hS (lv_sub hl [0, 1, 2, 3] rfl)
  have w91 : ∀ (t0 : Int32) (x1 : Int32) (x2 : Int32) (mA : Int32) (mB : Int32) (JS : Nat → Int32) (JL : Nat → Int32) (H : Heap) (locs : List Loc) (ls : Array Slot), f_X6_readLiteral_J91 mW mH mS mZ TX F t0 x1 x2 mA mB JS JL = some res → va_P D vwCl (wM cI β mT mW mH mS mR mL mC mZ mA mB KK KN KS KC AN JK JN JS JL MY KP FI TX) H → va_D A (wM cI β mT mW mH mS mR mL mC mZ mA mB KK KN KS KC AN JK JN JS JL MY KP FI TX) → va_S A s.heap H locs → lv_has ls 5 [(0, .ref (β 0)), (1, .int x1), (2, .int x2)] → W p l e rm_X6_readLiteral s m args below meth c H locs 0 0 (MQ below (kQv D A (wM cI β mT mW mH mS mR mL mC mZ res.1 res.2.1 KK KN KS KC AN JK JN res.2.2.1 res.2.2.2 MY KP FI TX)) args s 0 0 A) (F0 m 91 ls [.int t0]) := by
    intro t0 x1 x2 mA mB JS JL H locs ls hf hP hD hS hl
    unfold f_X6_readLiteral_J91 at hf
    refine lv_istore_n (lv' := [(3, .int t0), (0, .ref (β 0)), (1, .int x1), (2, .int x2)]) hx hb dX6_readLiteral_91 rfl hl (by decide) rfl (fun ls hl => ?_)
    refine lv_aload_n hx hb dX6_readLiteral_92 rfl (lv_at hl 1 rfl) ?_
    refine va_get (D := D) (ci := 7) (v := .int mB) (C := RX6) (T := TX6) (N := 23) hx hb hts hiX6 hown hK hP 0 rfl rfl 22 (by decide) fl178 (fun _ h9 => h9) rfl dX6_readLiteral_93 ?_
    refine lv_if_ge (tgt := 117) hx hb dX6_readLiteral_96 (by decide) (fun c12 => ?_) (fun c12 => ?_)
    · have hf := it_t c12 hf
      exact w117 _ _ _ _ _ _ _ H locs ls hf hP hD hS (lv_sub hl [1, 2, 3, 0] rfl)
    · have hf := it_f c12 hf
      refine lv_aload_n hx hb dX6_readLiteral_99 rfl (lv_at hl 1 rfl) ?_
      refine lv_iload_n hx hb dX6_readLiteral_100 rfl (lv_at hl 0 rfl) ?_
      obtain ⟨q13, hq13, hf⟩ := bnd hf
      refine kI_callV (As := [.int t0]) (rest := []) S hP hD hS (c_X6_isCell l D cI β mT mW mH mS mR mL mC mZ mA mB KK KN KS KC AN JK JN JS JL MY KP FI TX t0 q13 hq13) (cwV 1 hts gX6_readLiteral_X6_isCell rfl rfl rfl (by decide +kernel) ⟨Nat.le_of_ble_eq_true rfl, Nat.le_of_ble_eq_true rfl⟩) 0 rfl rfl rfl hl.1 rfl (Nat.le_of_ble_eq_true rfl) dX6_readLiteral_101 ⟨Nat.zero_le _, Nat.zero_le _⟩ (fun H locs hP hD hS => ?_)
      have hP : va_P D vwCl (wM cI β mT mW mH mS mR mL mC mZ mA mB KK KN KS KC AN JK JN JS JL MY KP FI TX) H := hP
      have hD : va_D A (wM cI β mT mW mH mS mR mL mC mZ mA mB KK KN KS KC AN JK JN JS JL MY KP FI TX) := hD
      refine lv_if_ne (tgt := 117) hx hb dX6_readLiteral_104 (by decide) (fun c14 => ?_) (fun c14 => ?_)
      · have hf := it_t c14 hf
        exact w117 _ _ _ _ _ _ _ H locs ls hf hP hD hS (lv_sub hl [1, 2, 3, 0] rfl)
      · have hf := it_f (fun h9 => h9 c14) hf
        refine lv_aload_n hx hb dX6_readLiteral_107 rfl (lv_at hl 1 rfl) ?_
        refine lv_aload_n hx hb dX6_readLiteral_108 rfl (lv_at hl 1 rfl) ?_
        refine va_get (D := D) (ci := 7) (v := .int mA) (C := RX6) (T := TX6) (N := 23) hx hb hts hiX6 hown hK hP 0 rfl rfl 21 (by decide) fl172 (fun _ h9 => h9) rfl dX6_readLiteral_109 ?_
        refine lv_iconst (v := (1 : Int32)) hx hb dX6_readLiteral_112 (by decide) ?_
        refine lv_isub hx hb dX6_readLiteral_113 ?_
        obtain ⟨q15, hq15, hf⟩ := bnd hf
        refine kV_callV (As := [.int (mA - (1 : Int32))]) (rest := []) S hP hD hS (c_X6_wrong l D cI β mT mW mH mS mR mL mC mZ mA mB KK KN KS KC AN JK JN JS JL MY KP FI TX (mA - (1 : Int32)) q15 hq15) (cwV 1 hts gX6_readLiteral_X6_wrong rfl rfl rfl (by decide +kernel) ⟨Nat.le_of_ble_eq_true rfl, Nat.le_of_ble_eq_true rfl⟩) 0 rfl rfl rfl hl.1 rfl (Nat.le_of_ble_eq_true rfl) dX6_readLiteral_114 ⟨Nat.zero_le _, Nat.zero_le _⟩ (fun H locs hP hD hS => ?_)
        have hP : va_P D vwCl (wM cI β mT mW mH mS mR mL mC mZ mA q15 KK KN KS KC AN JK JN JS JL MY KP FI TX) H := hP
        have hD : va_D A (wM cI β mT mW mH mS mR mL mC mZ mA q15 KK KN KS KC AN JK JN JS JL MY KP FI TX) := hD
        exact w117 _ _ _ _ _ _ _ H locs ls hf hP hD hS (lv_sub hl [1, 2, 3, 0] rfl)
  have w66 : ∀ (x1 : Int32) (x2 : Int32) (mA : Int32) (mB : Int32) (JS : Nat → Int32) (JL : Nat → Int32) (H : Heap) (locs : List Loc) (ls : Array Slot), f_X6_readLiteral_J66 mW mH mS mZ TX F x1 x2 mA mB JS JL = some res → va_P D vwCl (wM cI β mT mW mH mS mR mL mC mZ mA mB KK KN KS KC AN JK JN JS JL MY KP FI TX) H → va_D A (wM cI β mT mW mH mS mR mL mC mZ mA mB KK KN KS KC AN JK JN JS JL MY KP FI TX) → va_S A s.heap H locs → lv_has ls 5 [(0, .ref (β 0)), (1, .int x1), (2, .int x2)] → W p l e rm_X6_readLiteral s m args below meth c H locs 0 0 (MQ below (kQv D A (wM cI β mT mW mH mS mR mL mC mZ res.1 res.2.1 KK KN KS KC AN JK JN res.2.2.1 res.2.2.2 MY KP FI TX)) args s 0 0 A) (F0 m 66 ls []) := by
    intro x1 x2 mA mB JS JL H locs ls hf hP hD hS hl
    unfold f_X6_readLiteral_J66 at hf
    refine lv_aload_n hx hb dX6_readLiteral_66 rfl (lv_at hl 0 rfl) ?_
    refine lv_dup hx hb dX6_readLiteral_67 rfl ?_
    refine va_get (D := D) (ci := 7) (v := .int mA) (C := RX6) (T := TX6) (N := 23) hx hb hts hiX6 hown hK hP 0 rfl rfl 21 (by decide) fl172 (fun _ h9 => h9) rfl dX6_readLiteral_68 ?_
    refine lv_iconst (v := (1 : Int32)) hx hb dX6_readLiteral_71 (by decide) ?_
    refine lv_iadd hx hb dX6_readLiteral_72 ?_
    refine va_put (D := D) (ci := 7) (v := .int (mA + (1 : Int32))) (ty := .int) (C := RX6) (T := TX6) (N := 23) hx hb hts hiX6 tyX6 tyX6_ok nmX6 hown hK hP hD hS 0 rfl rfl 21 (by decide) fl172 (fun _ h9 => h9) rfl (by decide +kernel) rfl rfl (Nat.le_of_ble_eq_true rfl) dX6_readLiteral_73 (fun H locs hP hD hS => ?_)
    have hP : va_P D vwCl (wM cI β mT mW mH mS mR mL mC mZ (mA + (1 : Int32)) mB KK KN KS KC AN JK JN JS JL MY KP FI TX) H := hP
    have hD : va_D A (wM cI β mT mW mH mS mR mL mC mZ (mA + (1 : Int32)) mB KK KN KS KC AN JK JN JS JL MY KP FI TX) := hD
    refine lv_aload_n hx hb dX6_readLiteral_76 rfl (lv_at hl 0 rfl) ?_
    refine va_get (D := D) (ci := 7) (v := .int mB) (C := RX6) (T := TX6) (N := 23) hx hb hts hiX6 hown hK hP 0 rfl rfl 22 (by decide) fl178 (fun _ h9 => h9) rfl dX6_readLiteral_77 ?_
    refine lv_if_ge (tgt := 90) hx hb dX6_readLiteral_80 (by decide) (fun c10 => ?_) (fun c10 => ?_)
    · have hf := it_t c10 hf
      refine lv_iconst (v := (0 : Int32)) hx hb dX6_readLiteral_90 (by decide) ?_
      exact w91 _ _ _ _ _ _ _ H locs ls hf hP hD hS (lv_sub hl [0, 1, 2] rfl)
    · have hf := it_f c10 hf
      refine lv_aload_n hx hb dX6_readLiteral_83 rfl (lv_at hl 0 rfl) ?_
      obtain ⟨q11, hq11, hf⟩ := bnd hf
      refine kI_callV (As := []) (rest := []) S hP hD hS (c_X6_number l D cI β mT mW mH mS mR mL mC mZ (mA + (1 : Int32)) mB KK KN KS KC AN JK JN JS JL MY KP FI TX q11 hq11) (cwV 0 hts gX6_readLiteral_X6_number rfl rfl rfl (by decide +kernel) ⟨Nat.le_of_ble_eq_true rfl, Nat.le_of_ble_eq_true rfl⟩) 0 rfl rfl rfl hl.1 rfl (Nat.le_of_ble_eq_true rfl) dX6_readLiteral_84 ⟨Nat.zero_le _, Nat.zero_le _⟩ (fun H locs hP hD hS => ?_)
      have hP : va_P D vwCl (wM cI β mT mW mH mS mR mL mC mZ q11.2.1 q11.2.2 KK KN KS KC AN JK JN JS JL MY KP FI TX) H := hP
      have hD : va_D A (wM cI β mT mW mH mS mR mL mC mZ q11.2.1 q11.2.2 KK KN KS KC AN JK JN JS JL MY KP FI TX) := hD
      refine lv_goto (tgt := 91) hx hb dX6_readLiteral_87 (by decide) ?_
      exact w91 _ _ _ _ _ _ _ H locs ls hf hP hD hS (lv_sub hl [0, 1, 2] rfl)
  have w44 : ∀ (t0 : Int32) (x1 : Int32) (mA : Int32) (mB : Int32) (JS : Nat → Int32) (JL : Nat → Int32) (H : Heap) (locs : List Loc) (ls : Array Slot), f_X6_readLiteral_J44 mW mH mS mZ TX F t0 x1 mA mB JS JL = some res → va_P D vwCl (wM cI β mT mW mH mS mR mL mC mZ mA mB KK KN KS KC AN JK JN JS JL MY KP FI TX) H → va_D A (wM cI β mT mW mH mS mR mL mC mZ mA mB KK KN KS KC AN JK JN JS JL MY KP FI TX) → va_S A s.heap H locs → lv_has ls 5 [(0, .ref (β 0)), (1, .int x1)] → W p l e rm_X6_readLiteral s m args below meth c H locs 0 0 (MQ below (kQv D A (wM cI β mT mW mH mS mR mL mC mZ res.1 res.2.1 KK KN KS KC AN JK JN res.2.2.1 res.2.2.2 MY KP FI TX)) args s 0 0 A) (F0 m 44 ls [.int t0]) := by
    intro t0 x1 mA mB JS JL H locs ls hf hP hD hS hl
    unfold f_X6_readLiteral_J44 at hf
    refine lv_istore_n (lv' := [(2, .int t0), (0, .ref (β 0)), (1, .int x1)]) hx hb dX6_readLiteral_44 rfl hl (by decide) rfl (fun ls hl => ?_)
    refine lv_iload_n hx hb dX6_readLiteral_45 rfl (lv_at hl 0 rfl) ?_
    refine lv_if_ne (tgt := 66) hx hb dX6_readLiteral_46 (by decide) (fun c6 => ?_) (fun c6 => ?_)
    · have hf := it_t c6 hf
      exact w66 _ _ _ _ _ _ H locs ls hf hP hD hS (lv_sub hl [1, 2, 0] rfl)
    · have hf := it_f (fun h9 => h9 c6) hf
      refine lv_aload_n hx hb dX6_readLiteral_49 rfl (lv_at hl 1 rfl) ?_
      obtain ⟨q7, hq7, hf⟩ := bnd hf
      refine kI_callV (As := []) (rest := []) S hP hD hS (c_X6_look l D cI β mT mW mH mS mR mL mC mZ mA mB KK KN KS KC AN JK JN JS JL MY KP FI TX q7 hq7) (cwV 0 hts gX6_readLiteral_X6_look rfl rfl rfl (by decide +kernel) ⟨Nat.le_of_ble_eq_true rfl, Nat.le_of_ble_eq_true rfl⟩) 0 rfl rfl rfl hl.1 rfl (Nat.le_of_ble_eq_true rfl) dX6_readLiteral_50 ⟨Nat.zero_le _, Nat.zero_le _⟩ (fun H locs hP hD hS => ?_)
      have hP : va_P D vwCl (wM cI β mT mW mH mS mR mL mC mZ mA mB KK KN KS KC AN JK JN JS JL MY KP FI TX) H := hP
      have hD : va_D A (wM cI β mT mW mH mS mR mL mC mZ mA mB KK KN KS KC AN JK JN JS JL MY KP FI TX) := hD
      refine lv_bipush (v := (45 : Int32)) hx hb dX6_readLiteral_53 (by decide) ?_
      refine lv_icmp_eq (tgt := 66) hx hb dX6_readLiteral_55 (by decide) (fun c8 => ?_) (fun c8 => ?_)
      · have hf := it_t c8 hf
        exact w66 _ _ _ _ _ _ H locs ls hf hP hD hS (lv_sub hl [1, 2, 0] rfl)
      · have hf := it_f c8 hf
        refine lv_aload_n hx hb dX6_readLiteral_58 rfl (lv_at hl 1 rfl) ?_
        refine lv_aload_n hx hb dX6_readLiteral_59 rfl (lv_at hl 1 rfl) ?_
        refine va_get (D := D) (ci := 7) (v := .int mA) (C := RX6) (T := TX6) (N := 23) hx hb hts hiX6 hown hK hP 0 rfl rfl 21 (by decide) fl172 (fun _ h9 => h9) rfl dX6_readLiteral_60 ?_
        obtain ⟨q9, hq9, hf⟩ := bnd hf
        refine kV_callV (As := [.int mA]) (rest := []) S hP hD hS (c_X6_wrong l D cI β mT mW mH mS mR mL mC mZ mA mB KK KN KS KC AN JK JN JS JL MY KP FI TX mA q9 hq9) (cwV 1 hts gX6_readLiteral_X6_wrong rfl rfl rfl (by decide +kernel) ⟨Nat.le_of_ble_eq_true rfl, Nat.le_of_ble_eq_true rfl⟩) 0 rfl rfl rfl hl.1 rfl (Nat.le_of_ble_eq_true rfl) dX6_readLiteral_63 ⟨Nat.zero_le _, Nat.zero_le _⟩ (fun H locs hP hD hS => ?_)
        have hP : va_P D vwCl (wM cI β mT mW mH mS mR mL mC mZ mA q9 KK KN KS KC AN JK JN JS JL MY KP FI TX) H := hP
        have hD : va_D A (wM cI β mT mW mH mS mR mL mC mZ mA q9 KK KN KS KC AN JK JN JS JL MY KP FI TX) := hD
        exact w66 _ _ _ _ _ _ H locs ls hf hP hD hS (lv_sub hl [1, 2, 0] rfl)
  suffices hgo : ∀ (H : Heap) (locs : List Loc), va_P D vwCl (wM cI β mT mW mH mS mR mL mC mZ mA mB KK KN KS KC AN JK JN JS JL MY KP FI TX) H → va_D A (wM cI β mT mW mH mS mR mL mC mZ mA mB KK KN KS KC AN JK JN JS JL MY KP FI TX) → va_S A s.heap H locs → W p l e rm_X6_readLiteral s m args below meth c H locs 0 0 (MQ below (kQv D A (wM cI β mT mW mH mS mR mL mC mZ res.1 res.2.1 KK KN KS KC AN JK JN res.2.2.1 res.2.2.2 MY KP FI TX)) args s 0 0 A) (F0 m 0 ls []) from hgo _ _ hP hD hS
  clear hP hD hS
  intro H locs hP hD hS
  refine lv_aload_n hx hb dX6_readLiteral_0 rfl (lv_at hl 0 rfl) ?_
  refine va_get (D := D) (ci := 7) (v := .ref (β 8)) (C := RX6) (T := TX6) (N := 23) hx hb hts hiX6 hown hK hP 0 rfl rfl 13 (by decide) fl31 (fun _ h9 => h9) rfl dX6_readLiteral_1 ?_
  refine lv_iload_n hx hb dX6_readLiteral_4 rfl (lv_at hl 1 rfl) ?_
  obtain ⟨g1, hf⟩ := gin_some hf
  refine va_iald hx hb hK hP 8 0 rfl rfl g1 dX6_readLiteral_5 ?_
  refine lv_bipush (v := (16 : Int32)) hx hb dX6_readLiteral_6 (by decide) ?_
  refine lv_icmp_ne (tgt := 20) hx hb dX6_readLiteral_8 (by decide) (fun c2 => ?_) (fun c2 => ?_)
  · have hf := it_t c2 hf
    refine lv_aload_n hx hb dX6_readLiteral_20 rfl (lv_at hl 0 rfl) ?_
    refine lv_dup hx hb dX6_readLiteral_21 rfl ?_
    refine va_get (D := D) (ci := 7) (v := .int mA) (C := RX6) (T := TX6) (N := 23) hx hb hts hiX6 hown hK hP 0 rfl rfl 21 (by decide) fl172 (fun _ h9 => h9) rfl dX6_readLiteral_22 ?_
    refine lv_iconst (v := (1 : Int32)) hx hb dX6_readLiteral_25 (by decide) ?_
    refine lv_iadd hx hb dX6_readLiteral_26 ?_
    refine va_put (D := D) (ci := 7) (v := .int (mA + (1 : Int32))) (ty := .int) (C := RX6) (T := TX6) (N := 23) hx hb hts hiX6 tyX6 tyX6_ok nmX6 hown hK hP hD hS 0 rfl rfl 21 (by decide) fl172 (fun _ h9 => h9) rfl (by decide +kernel) rfl rfl (Nat.le_of_ble_eq_true rfl) dX6_readLiteral_27 (fun H locs hP hD hS => ?_)
    have hP : va_P D vwCl (wM cI β mT mW mH mS mR mL mC mZ (mA + (1 : Int32)) mB KK KN KS KC AN JK JN JS JL MY KP FI TX) H := hP
    have hD : va_D A (wM cI β mT mW mH mS mR mL mC mZ (mA + (1 : Int32)) mB KK KN KS KC AN JK JN JS JL MY KP FI TX) := hD
    refine lv_aload_n hx hb dX6_readLiteral_30 rfl (lv_at hl 0 rfl) ?_
    obtain ⟨q3, hq3, hf⟩ := bnd hf
    refine kI_callV (As := []) (rest := []) S hP hD hS (c_X6_look l D cI β mT mW mH mS mR mL mC mZ (mA + (1 : Int32)) mB KK KN KS KC AN JK JN JS JL MY KP FI TX q3 hq3) (cwV 0 hts gX6_readLiteral_X6_look rfl rfl rfl (by decide +kernel) ⟨Nat.le_of_ble_eq_true rfl, Nat.le_of_ble_eq_true rfl⟩) 0 rfl rfl rfl hl.1 rfl (Nat.le_of_ble_eq_true rfl) dX6_readLiteral_31 ⟨Nat.zero_le _, Nat.zero_le _⟩ (fun H locs hP hD hS => ?_)
    have hP : va_P D vwCl (wM cI β mT mW mH mS mR mL mC mZ (mA + (1 : Int32)) mB KK KN KS KC AN JK JN JS JL MY KP FI TX) H := hP
    have hD : va_D A (wM cI β mT mW mH mS mR mL mC mZ (mA + (1 : Int32)) mB KK KN KS KC AN JK JN JS JL MY KP FI TX) := hD
    refine lv_bipush (v := (43 : Int32)) hx hb dX6_readLiteral_34 (by decide) ?_
    refine lv_icmp_ne (tgt := 43) hx hb dX6_readLiteral_36 (by decide) (fun c4 => ?_) (fun c4 => ?_)
    · have hf := it_t c4 hf
      refine lv_iconst (v := (0 : Int32)) hx hb dX6_readLiteral_43 (by decide) ?_
      exact w44 _ _ _ _ _ _ H locs ls hf hP hD hS (lv_sub hl [0, 1] rfl)
    · have hf := it_f (fun h9 => h9 c4) hf
      refine lv_iconst (v := (1 : Int32)) hx hb dX6_readLiteral_39 (by decide) ?_
      refine lv_goto (tgt := 44) hx hb dX6_readLiteral_40 (by decide) ?_
      exact w44 _ _ _ _ _ _ H locs ls hf hP hD hS (lv_sub hl [0, 1] rfl)
  · have hf := it_f (fun h9 => h9 c2) hf
    refine lv_aload_n hx hb dX6_readLiteral_11 rfl (lv_at hl 0 rfl) ?_
    refine lv_aload_n hx hb dX6_readLiteral_12 rfl (lv_at hl 0 rfl) ?_
    refine va_get (D := D) (ci := 7) (v := .int mA) (C := RX6) (T := TX6) (N := 23) hx hb hts hiX6 hown hK hP 0 rfl rfl 21 (by decide) fl172 (fun _ h9 => h9) rfl dX6_readLiteral_13 ?_
    obtain ⟨q5, hq5, hf⟩ := bnd hf
    refine kV_callV (As := [.int mA]) (rest := []) S hP hD hS (c_X6_wrong l D cI β mT mW mH mS mR mL mC mZ mA mB KK KN KS KC AN JK JN JS JL MY KP FI TX mA q5 hq5) (cwV 1 hts gX6_readLiteral_X6_wrong rfl rfl rfl (by decide +kernel) ⟨Nat.le_of_ble_eq_true rfl, Nat.le_of_ble_eq_true rfl⟩) 0 rfl rfl rfl hl.1 rfl (Nat.le_of_ble_eq_true rfl) dX6_readLiteral_16 ⟨Nat.zero_le _, Nat.zero_le _⟩ (fun H locs hP hD hS => ?_)
    have hP : va_P D vwCl (wM cI β mT mW mH mS mR mL mC mZ mA q5 KK KN KS KC AN JK JN JS JL MY KP FI TX) H := hP
    have hD : va_D A (wM cI β mT mW mH mS mR mL mC mZ mA q5 KK KN KS KC AN JK JN JS JL MY KP FI TX) := hD
    have e9 := Option.some.inj hf
    subst e9
    exact kV_ret S hP hD hS dX6_readLiteral_19
abbrev rm_X6_readLine : Room := { frames := 4, cells := 0, slots := 0, locals := 85 }
set_option maxHeartbeats 4000000 in
set_option maxRecDepth 100000 in
theorem c_X6_readLine (l : Launch) (D : va_G) (cI : ClassId) (β : Nat → Nat) (mT mW mH mS mR mL mC mZ mA mB : Int32) (KK KN KS KC AN JK JN JS JL MY KP FI TX : Nat → Int32) (F : Nat) (x1 : Int32) (x2 : Int32) (res : Int32 × Int32 × (Nat → Int32) × (Nat → Int32) × (Nat → Int32) × (Nat → Int32)) (hf : f_X6_readLine mW mH mS mZ TX F mA mB JK JN JS JL x1 x2 = some res) : kV l yX6_readLine wsX6_readLine rm_X6_readLine D cI [.ref (β 0), .int x1, .int x2] (wM cI β mT mW mH mS mR mL mC mZ mA mB KK KN KS KC AN JK JN JS JL MY KP FI TX) (wM cI β mT mW mH mS mR mL mC mZ res.1 res.2.1 KK KN KS KC AN res.2.2.1 res.2.2.2.1 res.2.2.2.2.1 res.2.2.2.2.2 MY KP FI TX) := by
  unfold f_X6_readLine at hf
  refine kV_of (cc := cX6_readLine) (maxL := 5) (ret := none) (by decide +kernel) rfl (Nat.le_of_ble_eq_true rfl) ?_
  intro p e s m args below meth c A ls S hP hD hS hl
  have S : kC p s m args meth c cX6_readLine 5 wsX6_readLine RX6 none D cI A := S
  have hx := S.1.1
  have hb := S.1.2.1
  have hml := S.1.2.2.1
  have hown : s.vm.findClass RX6 = some m.cls := S.1.2.2.2.1
  have hts := S.1.2.2.2.2
  have hK := S.2.2.2.1
  have hnk := S.2.2.2.2.1.2
  have hiX6 : ∀ w ∈ u_ws RX6 TX6 23, w ∈ wsX6_readLine := by decide +kernel
  have fl172 := hts (.fieldLink RX6 172 "ProofCheckerModel" "at" "I") (by decide +kernel)
  have fl178 := hts (.fieldLink RX6 178 "ProofCheckerModel" "bad" "I") (by decide +kernel)
  have hl : lv_has ls 5 [(0, .ref (β 0)), (1, .int x1), (2, .int x2)] := hl
  have w118 : ∀ (x2 : Int32) (mA : Int32) (mB : Int32) (JK : Nat → Int32) (JN : Nat → Int32) (JS : Nat → Int32) (JL : Nat → Int32) (H : Heap) (locs : List Loc) (ls : Array Slot), f_X6_readLine_J118 mW mH mS mZ TX F x2 mA mB JK JN JS JL = some res → va_P D vwCl (wM cI β mT mW mH mS mR mL mC mZ mA mB KK KN KS KC AN JK JN JS JL MY KP FI TX) H → va_D A (wM cI β mT mW mH mS mR mL mC mZ mA mB KK KN KS KC AN JK JN JS JL MY KP FI TX) → va_S A s.heap H locs → lv_has ls 5 [(0, .ref (β 0)), (2, .int x2)] → W p l e rm_X6_readLine s m args below meth c H locs 0 0 (MQ below (kQv D A (wM cI β mT mW mH mS mR mL mC mZ res.1 res.2.1 KK KN KS KC AN res.2.2.1 res.2.2.2.1 res.2.2.2.2.1 res.2.2.2.2.2 MY KP FI TX)) args s 0 0 A) (F0 m 118 ls []) := by
    intro x2 mA mB JK JN JS JL H locs ls hf hP hD hS hl
    unfold f_X6_readLine_J118 at hf
    refine lv_aload_n hx hb dX6_readLine_118 rfl (lv_at hl 0 rfl) ?_
    refine va_get (D := D) (ci := 7) (v := .int mB) (C := RX6) (T := TX6) (N := 23) hx hb hts hiX6 hown hK hP 0 rfl rfl 22 (by decide) fl178 (fun _ h9 => h9) rfl dX6_readLine_119 ?_
    refine lv_if_ge (tgt := 148) hx hb dX6_readLine_122 (by decide) (fun c16 => ?_) (fun c16 => ?_)
    · have hf := it_t c16 hf
      refine lv_aload_n hx hb dX6_readLine_148 rfl (lv_at hl 0 rfl) ?_
      refine lv_bipush (v := (59 : Int32)) hx hb dX6_readLine_149 (by decide) ?_
      obtain ⟨q17, hq17, hf⟩ := bnd hf
      refine kV_callV (As := [.int (59 : Int32)]) (rest := []) S hP hD hS (c_X6_expect l D cI β mT mW mH mS mR mL mC mZ mA mB KK KN KS KC AN JK JN JS JL MY KP FI TX (59 : Int32) q17 hq17) (cwV 1 hts gX6_readLine_X6_expect rfl rfl rfl (by decide +kernel) ⟨Nat.le_of_ble_eq_true rfl, Nat.le_of_ble_eq_true rfl⟩) 0 rfl rfl rfl hl.1 rfl (Nat.le_of_ble_eq_true rfl) dX6_readLine_151 ⟨Nat.zero_le _, Nat.zero_le _⟩ (fun H locs hP hD hS => ?_)
      have hP : va_P D vwCl (wM cI β mT mW mH mS mR mL mC mZ q17.1 q17.2 KK KN KS KC AN JK JN JS JL MY KP FI TX) H := hP
      have hD : va_D A (wM cI β mT mW mH mS mR mL mC mZ q17.1 q17.2 KK KN KS KC AN JK JN JS JL MY KP FI TX) := hD
      have e9 := Option.some.inj hf
      subst e9
      exact kV_ret S hP hD hS dX6_readLine_154
    · have hf := it_f c16 hf
      refine lv_aload_n hx hb dX6_readLine_125 rfl (lv_at hl 0 rfl) ?_
      obtain ⟨q18, hq18, hf⟩ := bnd hf
      refine kI_callV (As := []) (rest := []) S hP hD hS (c_X6_look l D cI β mT mW mH mS mR mL mC mZ mA mB KK KN KS KC AN JK JN JS JL MY KP FI TX q18 hq18) (cwV 0 hts gX6_readLine_X6_look rfl rfl rfl (by decide +kernel) ⟨Nat.le_of_ble_eq_true rfl, Nat.le_of_ble_eq_true rfl⟩) 0 rfl rfl rfl hl.1 rfl (Nat.le_of_ble_eq_true rfl) dX6_readLine_126 ⟨Nat.zero_le _, Nat.zero_le _⟩ (fun H locs hP hD hS => ?_)
      have hP : va_P D vwCl (wM cI β mT mW mH mS mR mL mC mZ mA mB KK KN KS KC AN JK JN JS JL MY KP FI TX) H := hP
      have hD : va_D A (wM cI β mT mW mH mS mR mL mC mZ mA mB KK KN KS KC AN JK JN JS JL MY KP FI TX) := hD
      refine lv_bipush (v := (59 : Int32)) hx hb dX6_readLine_129 (by decide) ?_
      refine lv_icmp_ne (tgt := 148) hx hb dX6_readLine_131 (by decide) (fun c19 => ?_) (fun c19 => ?_)
      · have hf := it_t c19 hf
        refine lv_aload_n hx hb dX6_readLine_148 rfl (lv_at hl 0 rfl) ?_
        refine lv_bipush (v := (59 : Int32)) hx hb dX6_readLine_149 (by decide) ?_
        obtain ⟨q20, hq20, hf⟩ := bnd hf
        refine kV_callV (As := [.int (59 : Int32)]) (rest := []) S hP hD hS (c_X6_expect l D cI β mT mW mH mS mR mL mC mZ mA mB KK KN KS KC AN JK JN JS JL MY KP FI TX (59 : Int32) q20 hq20) (cwV 1 hts gX6_readLine_X6_expect rfl rfl rfl (by decide +kernel) ⟨Nat.le_of_ble_eq_true rfl, Nat.le_of_ble_eq_true rfl⟩) 0 rfl rfl rfl hl.1 rfl (Nat.le_of_ble_eq_true rfl) dX6_readLine_151 ⟨Nat.zero_le _, Nat.zero_le _⟩ (fun H locs hP hD hS => ?_)
        have hP : va_P D vwCl (wM cI β mT mW mH mS mR mL mC mZ q20.1 q20.2 KK KN KS KC AN JK JN JS JL MY KP FI TX) H := hP
        have hD : va_D A (wM cI β mT mW mH mS mR mL mC mZ q20.1 q20.2 KK KN KS KC AN JK JN JS JL MY KP FI TX) := hD
        have e9 := Option.some.inj hf
        subst e9
        exact kV_ret S hP hD hS dX6_readLine_154
      · have hf := it_f (fun h9 => h9 c19) hf
        refine lv_iload_n hx hb dX6_readLine_134 rfl (lv_at hl 1 rfl) ?_
        refine lv_bipush (v := (60 : Int32)) hx hb dX6_readLine_135 (by decide) ?_
        refine lv_icmp_ne (tgt := 148) hx hb dX6_readLine_137 (by decide) (fun c21 => ?_) (fun c21 => ?_)
        · have hf := it_t c21 hf
          refine lv_aload_n hx hb dX6_readLine_148 rfl (lv_at hl 0 rfl) ?_
          refine lv_bipush (v := (59 : Int32)) hx hb dX6_readLine_149 (by decide) ?_
          obtain ⟨q22, hq22, hf⟩ := bnd hf
          refine kV_callV (As := [.int (59 : Int32)]) (rest := []) S hP hD hS (c_X6_expect l D cI β mT mW mH mS mR mL mC mZ mA mB KK KN KS KC AN JK JN JS JL MY KP FI TX (59 : Int32) q22 hq22) (cwV 1 hts gX6_readLine_X6_expect rfl rfl rfl (by decide +kernel) ⟨Nat.le_of_ble_eq_true rfl, Nat.le_of_ble_eq_true rfl⟩) 0 rfl rfl rfl hl.1 rfl (Nat.le_of_ble_eq_true rfl) dX6_readLine_151 ⟨Nat.zero_le _, Nat.zero_le _⟩ (fun H locs hP hD hS => ?_)
          have hP : va_P D vwCl (wM cI β mT mW mH mS mR mL mC mZ q22.1 q22.2 KK KN KS KC AN JK JN JS JL MY KP FI TX) H := hP
          have hD : va_D A (wM cI β mT mW mH mS mR mL mC mZ q22.1 q22.2 KK KN KS KC AN JK JN JS JL MY KP FI TX) := hD
          have e9 := Option.some.inj hf
          subst e9
          exact kV_ret S hP hD hS dX6_readLine_154
        · have hf := it_f (fun h9 => h9 c21) hf
          refine lv_aload_n hx hb dX6_readLine_140 rfl (lv_at hl 0 rfl) ?_
          refine lv_aload_n hx hb dX6_readLine_141 rfl (lv_at hl 0 rfl) ?_
          refine va_get (D := D) (ci := 7) (v := .int mA) (C := RX6) (T := TX6) (N := 23) hx hb hts hiX6 hown hK hP 0 rfl rfl 21 (by decide) fl172 (fun _ h9 => h9) rfl dX6_readLine_142 ?_
          obtain ⟨q23, hq23, hf⟩ := bnd hf
          refine kV_callV (As := [.int mA]) (rest := []) S hP hD hS (c_X6_wrong l D cI β mT mW mH mS mR mL mC mZ mA mB KK KN KS KC AN JK JN JS JL MY KP FI TX mA q23 hq23) (cwV 1 hts gX6_readLine_X6_wrong rfl rfl rfl (by decide +kernel) ⟨Nat.le_of_ble_eq_true rfl, Nat.le_of_ble_eq_true rfl⟩) 0 rfl rfl rfl hl.1 rfl (Nat.le_of_ble_eq_true rfl) dX6_readLine_145 ⟨Nat.zero_le _, Nat.zero_le _⟩ (fun H locs hP hD hS => ?_)
          have hP : va_P D vwCl (wM cI β mT mW mH mS mR mL mC mZ mA q23 KK KN KS KC AN JK JN JS JL MY KP FI TX) H := hP
          have hD : va_D A (wM cI β mT mW mH mS mR mL mC mZ mA q23 KK KN KS KC AN JK JN JS JL MY KP FI TX) := hD
          refine lv_aload_n hx hb dX6_readLine_148 rfl (lv_at hl 0 rfl) ?_
          refine lv_bipush (v := (59 : Int32)) hx hb dX6_readLine_149 (by decide) ?_
          obtain ⟨q24, hq24, hf⟩ := bnd hf
          refine kV_callV (As := [.int (59 : Int32)]) (rest := []) S hP hD hS (c_X6_expect l D cI β mT mW mH mS mR mL mC mZ mA q23 KK KN KS KC AN JK JN JS JL MY KP FI TX (59 : Int32) q24 hq24) (cwV 1 hts gX6_readLine_X6_expect rfl rfl rfl (by decide +kernel) ⟨Nat.le_of_ble_eq_true rfl, Nat.le_of_ble_eq_true rfl⟩) 0 rfl rfl rfl hl.1 rfl (Nat.le_of_ble_eq_true rfl) dX6_readLine_151 ⟨Nat.zero_le _, Nat.zero_le _⟩ (fun H locs hP hD hS => ?_)
          have hP : va_P D vwCl (wM cI β mT mW mH mS mR mL mC mZ q24.1 q24.2 KK KN KS KC AN JK JN JS JL MY KP FI TX) H := hP
          have hD : va_D A (wM cI β mT mW mH mS mR mL mC mZ q24.1 q24.2 KK KN KS KC AN JK JN JS JL MY KP FI TX) := hD
          have e9 := Option.some.inj hf
          subst e9
          exact kV_ret S hP hD hS dX6_readLine_154
  have w94 : ∀ (n : Nat), ∀ (x1 : Int32) (x2 : Int32) (mA : Int32) (mB : Int32) (JK : Nat → Int32) (JN : Nat → Int32) (JS : Nat → Int32) (JL : Nat → Int32) (H : Heap) (locs : List Loc) (ls : Array Slot), f_X6_readLine_L94 mW mH mS mZ TX F n x1 x2 mA mB JK JN JS JL = some res → va_P D vwCl (wM cI β mT mW mH mS mR mL mC mZ mA mB KK KN KS KC AN JK JN JS JL MY KP FI TX) H → va_D A (wM cI β mT mW mH mS mR mL mC mZ mA mB KK KN KS KC AN JK JN JS JL MY KP FI TX) → va_S A s.heap H locs → lv_has ls 5 [(0, .ref (β 0)), (1, .int x1), (2, .int x2)] → W p l e rm_X6_readLine s m args below meth c H locs 0 0 (MQ below (kQv D A (wM cI β mT mW mH mS mR mL mC mZ res.1 res.2.1 KK KN KS KC AN res.2.2.1 res.2.2.2.1 res.2.2.2.2.1 res.2.2.2.2.2 MY KP FI TX)) args s 0 0 A) (F0 m 94 ls []) := by
    intro n
    induction n with
    | zero => intro x1 x2 mA mB JK JN JS JL H locs ls hf; cases hf
    | succ n ih =>
      intro x1 x2 mA mB JK JN JS JL H locs ls hf hP hD hS hl
      rw [f_X6_readLine_L94.eq_2] at hf
      refine lv_aload_n hx hb dX6_readLine_94 rfl (lv_at hl 0 rfl) ?_
      refine va_get (D := D) (ci := 7) (v := .int mB) (C := RX6) (T := TX6) (N := 23) hx hb hts hiX6 hown hK hP 0 rfl rfl 22 (by decide) fl178 (fun _ h9 => h9) rfl dX6_readLine_95 ?_
      refine lv_if_ge (tgt := 118) hx hb dX6_readLine_98 (by decide) (fun c12 => ?_) (fun c12 => ?_)
      · have hf := it_t c12 hf
        exact w118 _ _ _ _ _ _ _ H locs ls hf hP hD hS (lv_sub hl [0, 2] rfl)
      · have hf := it_f c12 hf
        refine lv_aload_n hx hb dX6_readLine_101 rfl (lv_at hl 0 rfl) ?_
        obtain ⟨q13, hq13, hf⟩ := bnd hf
        refine kI_callV (As := []) (rest := []) S hP hD hS (c_X6_look l D cI β mT mW mH mS mR mL mC mZ mA mB KK KN KS KC AN JK JN JS JL MY KP FI TX q13 hq13) (cwV 0 hts gX6_readLine_X6_look rfl rfl rfl (by decide +kernel) ⟨Nat.le_of_ble_eq_true rfl, Nat.le_of_ble_eq_true rfl⟩) 0 rfl rfl rfl hl.1 rfl (Nat.le_of_ble_eq_true rfl) dX6_readLine_102 ⟨Nat.zero_le _, Nat.zero_le _⟩ (fun H locs hP hD hS => ?_)
        have hP : va_P D vwCl (wM cI β mT mW mH mS mR mL mC mZ mA mB KK KN KS KC AN JK JN JS JL MY KP FI TX) H := hP
        have hD : va_D A (wM cI β mT mW mH mS mR mL mC mZ mA mB KK KN KS KC AN JK JN JS JL MY KP FI TX) := hD
        refine lv_bipush (v := (32 : Int32)) hx hb dX6_readLine_105 (by decide) ?_
        refine lv_icmp_ne (tgt := 118) hx hb dX6_readLine_107 (by decide) (fun c14 => ?_) (fun c14 => ?_)
        · have hf := it_t c14 hf
          exact w118 _ _ _ _ _ _ _ H locs ls hf hP hD hS (lv_sub hl [0, 2] rfl)
        · have hf := it_f (fun h9 => h9 c14) hf
          refine lv_aload_n hx hb dX6_readLine_110 rfl (lv_at hl 0 rfl) ?_
          refine lv_iload_n hx hb dX6_readLine_111 rfl (lv_at hl 1 rfl) ?_
          obtain ⟨q15, hq15, hf⟩ := bnd hf
          refine kV_callV (As := [.int x1]) (rest := []) S hP hD hS (c_X6_readLiteral l D cI β mT mW mH mS mR mL mC mZ mA mB KK KN KS KC AN JK JN JS JL MY KP FI TX F x1 q15 hq15) (cwV 1 hts gX6_readLine_X6_readLiteral rfl rfl rfl (by decide +kernel) ⟨Nat.le_of_ble_eq_true rfl, Nat.le_of_ble_eq_true rfl⟩) 0 rfl rfl rfl hl.1 rfl (Nat.le_of_ble_eq_true rfl) dX6_readLine_112 ⟨Nat.zero_le _, Nat.zero_le _⟩ (fun H locs hP hD hS => ?_)
          have hP : va_P D vwCl (wM cI β mT mW mH mS mR mL mC mZ q15.1 q15.2.1 KK KN KS KC AN JK JN q15.2.2.1 q15.2.2.2 MY KP FI TX) H := hP
          have hD : va_D A (wM cI β mT mW mH mS mR mL mC mZ q15.1 q15.2.1 KK KN KS KC AN JK JN q15.2.2.1 q15.2.2.2 MY KP FI TX) := hD
          refine lv_goto (tgt := 94) hx hb dX6_readLine_115 (by decide) ?_
          exact ih _ _ _ _ _ _ _ _ H locs ls hf hP hD hS (lv_sub hl [0, 1, 2] rfl)
  have w91 : ∀ (t1 : Int32) (t2 : Int32) (t3 : Int32) (x1 : Int32) (x2 : Int32) (mA : Int32) (mB : Int32) (JK : Nat → Int32) (JN : Nat → Int32) (JS : Nat → Int32) (JL : Nat → Int32) (H : Heap) (locs : List Loc) (ls : Array Slot), f_X6_readLine_J91 mW mH mS mZ TX F t1 t2 t3 x1 x2 mA mB JK JN JS JL = some res → va_P D vwCl (wM cI β mT mW mH mS mR mL mC mZ mA mB KK KN KS KC AN JK JN JS JL MY KP FI TX) H → va_D A (wM cI β mT mW mH mS mR mL mC mZ mA mB KK KN KS KC AN JK JN JS JL MY KP FI TX) → va_S A s.heap H locs → lv_has ls 5 [(0, .ref (β 0)), (1, .int x1), (2, .int x2)] → W p l e rm_X6_readLine s m args below meth c H locs 0 0 (MQ below (kQv D A (wM cI β mT mW mH mS mR mL mC mZ res.1 res.2.1 KK KN KS KC AN res.2.2.1 res.2.2.2.1 res.2.2.2.2.1 res.2.2.2.2.2 MY KP FI TX)) args s 0 0 A) (F0 m 91 ls [.int t3, .int t2, .int t1, .ref (β 0)]) := by
    intro t1 t2 t3 x1 x2 mA mB JK JN JS JL H locs ls hf hP hD hS hl
    unfold f_X6_readLine_J91 at hf
    obtain ⟨q11, hq11, hf⟩ := bnd hf
    refine kV_callV (As := [.int t1, .int t2, .int t3]) (rest := []) S hP hD hS (c_X6_begin l D cI β mT mW mH mS mR mL mC mZ mA mB KK KN KS KC AN JK JN JS JL MY KP FI TX t1 t2 t3 q11 hq11) (cwV 3 hts gX6_readLine_X6_begin rfl rfl rfl (by decide +kernel) ⟨Nat.le_of_ble_eq_true rfl, Nat.le_of_ble_eq_true rfl⟩) 0 rfl rfl rfl hl.1 rfl (Nat.le_of_ble_eq_true rfl) dX6_readLine_91 ⟨Nat.zero_le _, Nat.zero_le _⟩ (fun H locs hP hD hS => ?_)
    have hP : va_P D vwCl (wM cI β mT mW mH mS mR mL mC mZ mA mB KK KN KS KC AN q11.1 q11.2.1 q11.2.2 JL MY KP FI TX) H := hP
    have hD : va_D A (wM cI β mT mW mH mS mR mL mC mZ mA mB KK KN KS KC AN q11.1 q11.2.1 q11.2.2 JL MY KP FI TX) := hD
    exact w94 F _ _ _ _ _ _ _ _ H locs ls hf hP hD hS (lv_sub hl [0, 1, 2] rfl)
  have w46 : ∀ (t0 : Int32) (x1 : Int32) (x2 : Int32) (mA : Int32) (mB : Int32) (JK : Nat → Int32) (JN : Nat → Int32) (JS : Nat → Int32) (JL : Nat → Int32) (H : Heap) (locs : List Loc) (ls : Array Slot), f_X6_readLine_J46 mW mH mS mZ TX F t0 x1 x2 mA mB JK JN JS JL = some res → va_P D vwCl (wM cI β mT mW mH mS mR mL mC mZ mA mB KK KN KS KC AN JK JN JS JL MY KP FI TX) H → va_D A (wM cI β mT mW mH mS mR mL mC mZ mA mB KK KN KS KC AN JK JN JS JL MY KP FI TX) → va_S A s.heap H locs → lv_has ls 5 [(0, .ref (β 0)), (1, .int x1), (2, .int x2)] → W p l e rm_X6_readLine s m args below meth c H locs 0 0 (MQ below (kQv D A (wM cI β mT mW mH mS mR mL mC mZ res.1 res.2.1 KK KN KS KC AN res.2.2.1 res.2.2.2.1 res.2.2.2.2.1 res.2.2.2.2.2 MY KP FI TX)) args s 0 0 A) (F0 m 46 ls [.int t0]) := by
    intro t0 x1 x2 mA mB JK JN JS JL H locs ls hf hP hD hS hl
    unfold f_X6_readLine_J46 at hf
    refine lv_istore (lv' := [(4, .int t0), (0, .ref (β 0)), (1, .int x1), (2, .int x2)]) hx hb dX6_readLine_46 hl (by decide) rfl (fun ls hl => ?_)
    refine lv_iload hx hb dX6_readLine_48 (lv_at hl 0 rfl) ?_
    refine lv_if_ge (tgt := 62) hx hb dX6_readLine_50 (by decide) (fun c6 => ?_) (fun c6 => ?_)
    · have hf := it_t c6 hf
      refine lv_aload_n hx hb dX6_readLine_62 rfl (lv_at hl 1 rfl) ?_
      refine lv_dup hx hb dX6_readLine_63 rfl ?_
      refine va_get (D := D) (ci := 7) (v := .int mA) (C := RX6) (T := TX6) (N := 23) hx hb hts hiX6 hown hK hP 0 rfl rfl 21 (by decide) fl172 (fun _ h9 => h9) rfl dX6_readLine_64 ?_
      refine lv_iconst (v := (1 : Int32)) hx hb dX6_readLine_67 (by decide) ?_
      refine lv_iadd hx hb dX6_readLine_68 ?_
      refine va_put (D := D) (ci := 7) (v := .int (mA + (1 : Int32))) (ty := .int) (C := RX6) (T := TX6) (N := 23) hx hb hts hiX6 tyX6 tyX6_ok nmX6 hown hK hP hD hS 0 rfl rfl 21 (by decide) fl172 (fun _ h9 => h9) rfl (by decide +kernel) rfl rfl (Nat.le_of_ble_eq_true rfl) dX6_readLine_69 (fun H locs hP hD hS => ?_)
      have hP : va_P D vwCl (wM cI β mT mW mH mS mR mL mC mZ (mA + (1 : Int32)) mB KK KN KS KC AN JK JN JS JL MY KP FI TX) H := hP
      have hD : va_D A (wM cI β mT mW mH mS mR mL mC mZ (mA + (1 : Int32)) mB KK KN KS KC AN JK JN JS JL MY KP FI TX) := hD
      refine lv_aload_n hx hb dX6_readLine_72 rfl (lv_at hl 1 rfl) ?_
      refine lv_iload_n hx hb dX6_readLine_73 rfl (lv_at hl 2 rfl) ?_
      refine lv_iload hx hb dX6_readLine_74 (lv_at hl 0 rfl) ?_
      refine lv_iload hx hb dX6_readLine_76 (lv_at hl 0 rfl) ?_
      refine lv_iconst (v := (2 : Int32)) hx hb dX6_readLine_78 (by decide) ?_
      obtain ⟨g7, hf⟩ := gnz_some hf
      refine lv_irem hx hb dX6_readLine_79 g7 ?_
      refine lv_if_ne (tgt := 90) hx hb dX6_readLine_80 (by decide) (fun c8 => ?_) (fun c8 => ?_)
      · have hf := it_t c8 hf
        refine lv_iconst (v := (0 : Int32)) hx hb dX6_readLine_90 (by decide) ?_
        exact w91 _ _ _ _ _ _ _ _ _ _ _ H locs ls hf hP hD hS (lv_sub hl [1, 2, 3] rfl)
      · have hf := it_f (fun h9 => h9 c8) hf
        refine lv_aload_n hx hb dX6_readLine_83 rfl (lv_at hl 1 rfl) ?_
        obtain ⟨q9, hq9, hf⟩ := bnd hf
        refine kI_callV (As := []) (rest := [.int t0, .int x1, .ref (β 0)]) S hP hD hS (c_X6_number l D cI β mT mW mH mS mR mL mC mZ (mA + (1 : Int32)) mB KK KN KS KC AN JK JN JS JL MY KP FI TX q9 hq9) (cwV 0 hts gX6_readLine_X6_number rfl rfl rfl (by decide +kernel) ⟨Nat.le_of_ble_eq_true rfl, Nat.le_of_ble_eq_true rfl⟩) 0 rfl rfl rfl hl.1 rfl (Nat.le_of_ble_eq_true rfl) dX6_readLine_84 ⟨Nat.zero_le _, Nat.zero_le _⟩ (fun H locs hP hD hS => ?_)
        have hP : va_P D vwCl (wM cI β mT mW mH mS mR mL mC mZ q9.2.1 q9.2.2 KK KN KS KC AN JK JN JS JL MY KP FI TX) H := hP
        have hD : va_D A (wM cI β mT mW mH mS mR mL mC mZ q9.2.1 q9.2.2 KK KN KS KC AN JK JN JS JL MY KP FI TX) := hD
        refine lv_goto (tgt := 91) hx hb dX6_readLine_87 (by decide) ?_
        exact w91 _ _ _ _ _ _ _ _ _ _ _ H locs ls hf hP hD hS (lv_sub hl [1, 2, 3] rfl)
    · have hf := it_f c6 hf
      refine lv_aload_n hx hb dX6_readLine_53 rfl (lv_at hl 1 rfl) ?_
      refine lv_aload_n hx hb dX6_readLine_54 rfl (lv_at hl 1 rfl) ?_
      refine va_get (D := D) (ci := 7) (v := .int mA) (C := RX6) (T := TX6) (N := 23) hx hb hts hiX6 hown hK hP 0 rfl rfl 21 (by decide) fl172 (fun _ h9 => h9) rfl dX6_readLine_55 ?_
      obtain ⟨q10, hq10, hf⟩ := bnd hf
      refine kV_callV (As := [.int mA]) (rest := []) S hP hD hS (c_X6_wrong l D cI β mT mW mH mS mR mL mC mZ mA mB KK KN KS KC AN JK JN JS JL MY KP FI TX mA q10 hq10) (cwV 1 hts gX6_readLine_X6_wrong rfl rfl rfl (by decide +kernel) ⟨Nat.le_of_ble_eq_true rfl, Nat.le_of_ble_eq_true rfl⟩) 0 rfl rfl rfl hl.1 rfl (Nat.le_of_ble_eq_true rfl) dX6_readLine_58 ⟨Nat.zero_le _, Nat.zero_le _⟩ (fun H locs hP hD hS => ?_)
      have hP : va_P D vwCl (wM cI β mT mW mH mS mR mL mC mZ mA q10 KK KN KS KC AN JK JN JS JL MY KP FI TX) H := hP
      have hD : va_D A (wM cI β mT mW mH mS mR mL mC mZ mA q10 KK KN KS KC AN JK JN JS JL MY KP FI TX) := hD
      have e9 := Option.some.inj hf
      subst e9
      exact kV_ret S hP hD hS dX6_readLine_61
  suffices hgo : ∀ (H : Heap) (locs : List Loc), va_P D vwCl (wM cI β mT mW mH mS mR mL mC mZ mA mB KK KN KS KC AN JK JN JS JL MY KP FI TX) H → va_D A (wM cI β mT mW mH mS mR mL mC mZ mA mB KK KN KS KC AN JK JN JS JL MY KP FI TX) → va_S A s.heap H locs → W p l e rm_X6_readLine s m args below meth c H locs 0 0 (MQ below (kQv D A (wM cI β mT mW mH mS mR mL mC mZ res.1 res.2.1 KK KN KS KC AN res.2.2.1 res.2.2.2.1 res.2.2.2.2.1 res.2.2.2.2.2 MY KP FI TX)) args s 0 0 A) (F0 m 0 ls []) from hgo _ _ hP hD hS
  clear hP hD hS
  intro H locs hP hD hS
  refine lv_aload_n hx hb dX6_readLine_0 rfl (lv_at hl 0 rfl) ?_
  obtain ⟨q1, hq1, hf⟩ := bnd hf
  refine kI_callV (As := []) (rest := []) S hP hD hS (c_X6_look l D cI β mT mW mH mS mR mL mC mZ mA mB KK KN KS KC AN JK JN JS JL MY KP FI TX q1 hq1) (cwV 0 hts gX6_readLine_X6_look rfl rfl rfl (by decide +kernel) ⟨Nat.le_of_ble_eq_true rfl, Nat.le_of_ble_eq_true rfl⟩) 0 rfl rfl rfl hl.1 rfl (Nat.le_of_ble_eq_true rfl) dX6_readLine_1 ⟨Nat.zero_le _, Nat.zero_le _⟩ (fun H locs hP hD hS => ?_)
  have hP : va_P D vwCl (wM cI β mT mW mH mS mR mL mC mZ mA mB KK KN KS KC AN JK JN JS JL MY KP FI TX) H := hP
  have hD : va_D A (wM cI β mT mW mH mS mR mL mC mZ mA mB KK KN KS KC AN JK JN JS JL MY KP FI TX) := hD
  refine lv_istore_n (lv' := [(3, .int q1), (0, .ref (β 0)), (1, .int x1), (2, .int x2)]) hx hb dX6_readLine_4 rfl hl (by decide) rfl (fun ls hl => ?_)
  refine lv_iload_n hx hb dX6_readLine_5 rfl (lv_at hl 0 rfl) ?_
  refine lv_bipush (v := (114 : Int32)) hx hb dX6_readLine_6 (by decide) ?_
  refine lv_icmp_ne (tgt := 15) hx hb dX6_readLine_8 (by decide) (fun c2 => ?_) (fun c2 => ?_)
  · have hf := it_t c2 hf
    refine lv_iload_n hx hb dX6_readLine_15 rfl (lv_at hl 0 rfl) ?_
    refine lv_bipush (v := (117 : Int32)) hx hb dX6_readLine_16 (by decide) ?_
    refine lv_icmp_ne (tgt := 25) hx hb dX6_readLine_18 (by decide) (fun c3 => ?_) (fun c3 => ?_)
    · have hf := it_t c3 hf
      refine lv_iload_n hx hb dX6_readLine_25 rfl (lv_at hl 0 rfl) ?_
      refine lv_bipush (v := (115 : Int32)) hx hb dX6_readLine_26 (by decide) ?_
      refine lv_icmp_ne (tgt := 35) hx hb dX6_readLine_28 (by decide) (fun c4 => ?_) (fun c4 => ?_)
      · have hf := it_t c4 hf
        refine lv_iload_n hx hb dX6_readLine_35 rfl (lv_at hl 0 rfl) ?_
        refine lv_bipush (v := (98 : Int32)) hx hb dX6_readLine_36 (by decide) ?_
        refine lv_icmp_ne (tgt := 45) hx hb dX6_readLine_38 (by decide) (fun c5 => ?_) (fun c5 => ?_)
        · have hf := it_t c5 hf
          refine lv_iconst (v := (-1 : Int32)) hx hb dX6_readLine_45 (by decide) ?_
          exact w46 _ _ _ _ _ _ _ _ _ H locs ls hf hP hD hS (lv_sub hl [1, 2, 3] rfl)
        · have hf := it_f (fun h9 => h9 c5) hf
          refine lv_iconst (v := (3 : Int32)) hx hb dX6_readLine_41 (by decide) ?_
          refine lv_goto (tgt := 46) hx hb dX6_readLine_42 (by decide) ?_
          exact w46 _ _ _ _ _ _ _ _ _ H locs ls hf hP hD hS (lv_sub hl [1, 2, 3] rfl)
      · have hf := it_f (fun h9 => h9 c4) hf
        refine lv_iconst (v := (2 : Int32)) hx hb dX6_readLine_31 (by decide) ?_
        refine lv_goto (tgt := 46) hx hb dX6_readLine_32 (by decide) ?_
        exact w46 _ _ _ _ _ _ _ _ _ H locs ls hf hP hD hS (lv_sub hl [1, 2, 3] rfl)
    · have hf := it_f (fun h9 => h9 c3) hf
      refine lv_iconst (v := (1 : Int32)) hx hb dX6_readLine_21 (by decide) ?_
      refine lv_goto (tgt := 46) hx hb dX6_readLine_22 (by decide) ?_
      exact w46 _ _ _ _ _ _ _ _ _ H locs ls hf hP hD hS (lv_sub hl [1, 2, 3] rfl)
  · have hf := it_f (fun h9 => h9 c2) hf
    refine lv_iconst (v := (0 : Int32)) hx hb dX6_readLine_11 (by decide) ?_
    refine lv_goto (tgt := 46) hx hb dX6_readLine_12 (by decide) ?_
    exact w46 _ _ _ _ _ _ _ _ _ H locs ls hf hP hD hS (lv_sub hl [1, 2, 3] rfl)
abbrev rm_X6_read : Room := { frames := 5, cells := 0, slots := 0, locals := 109 }
set_option maxHeartbeats 4000000 in
set_option maxRecDepth 100000 in
theorem c_X6_read (l : Launch) (D : va_G) (cI : ClassId) (β : Nat → Nat) (mT mW mH mS mR mL mC mZ mA mB : Int32) (KK KN KS KC AN JK JN JS JL MY KP FI TX : Nat → Int32) (F : Nat)  (res : Int32 × Int32 × Int32 × Int32 × Int32 × Int32 × (Nat → Int32) × (Nat → Int32) × (Nat → Int32) × (Nat → Int32)) (hf : f_X6_read mW mH mS TX F mT mL mZ mA mB JK JN JS JL = some res) : kI l yX6_read wsX6_read rm_X6_read D cI [.ref (β 0)] (wM cI β mT mW mH mS mR mL mC mZ mA mB KK KN KS KC AN JK JN JS JL MY KP FI TX) (wM cI β res.2.1 mW mH mS mR res.2.2.1 mC res.2.2.2.1 res.2.2.2.2.1 res.2.2.2.2.2.1 KK KN KS KC AN res.2.2.2.2.2.2.1 res.2.2.2.2.2.2.2.1 res.2.2.2.2.2.2.2.2.1 res.2.2.2.2.2.2.2.2.2 MY KP FI TX) res.1 := by
  unfold f_X6_read at hf
  refine kI_of (cc := cX6_read) (maxL := 4) (ret := (some .int)) (by decide +kernel) rfl (Nat.le_of_ble_eq_true rfl) ?_
  intro p e s m args below meth c A ls S hP hD hS hl
  have S : kC p s m args meth c cX6_read 4 wsX6_read RX6 (some .int) D cI A := S
  have hx := S.1.1
  have hb := S.1.2.1
  have hml := S.1.2.2.1
  have hown : s.vm.findClass RX6 = some m.cls := S.1.2.2.2.1
  have hts := S.1.2.2.2.2
  have hK := S.2.2.2.1
  have hnk := S.2.2.2.2.1.2
  have hiX6 : ∀ w ∈ u_ws RX6 TX6 23, w ∈ wsX6_read := by decide +kernel
  have fl25 := hts (.fieldLink RX6 25 "ProofCheckerModel" "lineKind" "[I") (by decide +kernel)
  have fl28 := hts (.fieldLink RX6 28 "ProofCheckerModel" "lineNumber" "[I") (by decide +kernel)
  have fl31 := hts (.fieldLink RX6 31 "ProofCheckerModel" "lineSize" "[I") (by decide +kernel)
  have fl34 := hts (.fieldLink RX6 34 "ProofCheckerModel" "literal" "[I") (by decide +kernel)
  have fl63 := hts (.fieldLink RX6 63 "ProofCheckerModel" "thrown" "I") (by decide +kernel)
  have fl107 := hts (.fieldLink RX6 107 "ProofCheckerModel" "lines" "I") (by decide +kernel)
  have fl169 := hts (.fieldLink RX6 169 "ProofCheckerModel" "size" "I") (by decide +kernel)
  have fl172 := hts (.fieldLink RX6 172 "ProofCheckerModel" "at" "I") (by decide +kernel)
  have fl178 := hts (.fieldLink RX6 178 "ProofCheckerModel" "bad" "I") (by decide +kernel)
  have hl : lv_has ls 4 [(0, .ref (β 0))] := hl
  have w120 : ∀ (k87 : Int32 → Int32 → Int32 → Int32 → Int32 → Int32 → Int32 → (Nat → Int32) → (Nat → Int32) → (Nat → Int32) → (Nat → Int32) → Option (Int32 × Int32 × Int32 × Int32 × Int32 × Int32 × (Nat → Int32) × (Nat → Int32) × (Nat → Int32) × (Nat → Int32))) (hk87 : ∀ (x1 : Int32) (x2 : Int32) (mT : Int32) (mL : Int32) (mZ : Int32) (mA : Int32) (mB : Int32) (JK : Nat → Int32) (JN : Nat → Int32) (JS : Nat → Int32) (JL : Nat → Int32) (H : Heap) (locs : List Loc) (ls : Array Slot), k87 x1 x2 mT mL mZ mA mB JK JN JS JL = some res → va_P D vwCl (wM cI β mT mW mH mS mR mL mC mZ mA mB KK KN KS KC AN JK JN JS JL MY KP FI TX) H → va_D A (wM cI β mT mW mH mS mR mL mC mZ mA mB KK KN KS KC AN JK JN JS JL MY KP FI TX) → va_S A s.heap H locs → lv_has ls 4 [(0, .ref (β 0)), (1, .int x1), (2, .int x2)] → W p l e rm_X6_read s m args below meth c H locs 0 0 (MQ below (kQi D A (wM cI β res.2.1 mW mH mS mR res.2.2.1 mC res.2.2.2.1 res.2.2.2.2.1 res.2.2.2.2.2.1 KK KN KS KC AN res.2.2.2.2.2.2.1 res.2.2.2.2.2.2.2.1 res.2.2.2.2.2.2.2.2.1 res.2.2.2.2.2.2.2.2.2 MY KP FI TX) res.1) args s 0 0 A) (F0 m 87 ls [])), ∀ (n : Nat), ∀ (x1 : Int32) (x2 : Int32) (x3 : Int32) (mT : Int32) (mL : Int32) (mZ : Int32) (mA : Int32) (mB : Int32) (JK : Nat → Int32) (JN : Nat → Int32) (JS : Nat → Int32) (JL : Nat → Int32) (H : Heap) (locs : List Loc) (ls : Array Slot), f_X6_read_L120 mW mH mS TX k87 F n x1 x2 x3 mT mL mZ mA mB JK JN JS JL = some res → va_P D vwCl (wM cI β mT mW mH mS mR mL mC mZ mA mB KK KN KS KC AN JK JN JS JL MY KP FI TX) H → va_D A (wM cI β mT mW mH mS mR mL mC mZ mA mB KK KN KS KC AN JK JN JS JL MY KP FI TX) → va_S A s.heap H locs → lv_has ls 4 [(0, .ref (β 0)), (1, .int x1), (2, .int x2), (3, .int x3)] → W p l e rm_X6_read s m args below meth c H locs 0 0 (MQ below (kQi D A (wM cI β res.2.1 mW mH mS mR res.2.2.1 mC res.2.2.2.1 res.2.2.2.2.1 res.2.2.2.2.2.1 KK KN KS KC AN res.2.2.2.2.2.2.1 res.2.2.2.2.2.2.2.1 res.2.2.2.2.2.2.2.2.1 res.2.2.2.2.2.2.2.2.2 MY KP FI TX) res.1) args s 0 0 A) (F0 m 120 ls []) := by
    intro k87 hk87 n
    induction n with
    | zero => intro x1 x2 x3 mT mL mZ mA mB JK JN JS JL H locs ls hf; cases hf
    | succ n ih =>
      intro x1 x2 x3 mT mL mZ mA mB JK JN JS JL H locs ls hf hP hD hS hl
      rw [f_X6_read_L120.eq_2] at hf
      refine lv_iload_n hx hb dX6_read_120 rfl (lv_at hl 3 rfl) ?_
      refine lv_aload_n hx hb dX6_read_121 rfl (lv_at hl 0 rfl) ?_
      refine va_get (D := D) (ci := 7) (v := .ref (β 8)) (C := RX6) (T := TX6) (N := 23) hx hb hts hiX6 hown hK hP 0 rfl rfl 13 (by decide) fl31 (fun _ h9 => h9) rfl dX6_read_122 ?_
      refine lv_bipush (v := (60 : Int32)) hx hb dX6_read_125 (by decide) ?_
      refine lv_iload_n hx hb dX6_read_127 rfl (lv_at hl 2 rfl) ?_
      refine lv_iadd hx hb dX6_read_128 ?_
      obtain ⟨g9, hf⟩ := gin_some hf
      refine va_iald hx hb hK hP 8 0 rfl rfl g9 dX6_read_129 ?_
      refine lv_icmp_ge (tgt := 161) hx hb dX6_read_130 (by decide) (fun c10 => ?_) (fun c10 => ?_)
      · have hf := it_t c10 hf
        refine lv_aload_n hx hb dX6_read_161 rfl (lv_at hl 0 rfl) ?_
        refine lv_dup hx hb dX6_read_162 rfl ?_
        refine va_get (D := D) (ci := 7) (v := .int mL) (C := RX6) (T := TX6) (N := 23) hx hb hts hiX6 hown hK hP 0 rfl rfl 10 (by decide) fl107 (fun _ h9 => h9) rfl dX6_read_163 ?_
        refine lv_iconst (v := (1 : Int32)) hx hb dX6_read_166 (by decide) ?_
        refine lv_iadd hx hb dX6_read_167 ?_
        refine va_put (D := D) (ci := 7) (v := .int (mL + (1 : Int32))) (ty := .int) (C := RX6) (T := TX6) (N := 23) hx hb hts hiX6 tyX6 tyX6_ok nmX6 hown hK hP hD hS 0 rfl rfl 10 (by decide) fl107 (fun _ h9 => h9) rfl (by decide +kernel) rfl rfl (Nat.le_of_ble_eq_true rfl) dX6_read_168 (fun H locs hP hD hS => ?_)
        have hP : va_P D vwCl (wM cI β mT mW mH mS mR (mL + (1 : Int32)) mC mZ mA mB KK KN KS KC AN JK JN JS JL MY KP FI TX) H := hP
        have hD : va_D A (wM cI β mT mW mH mS mR (mL + (1 : Int32)) mC mZ mA mB KK KN KS KC AN JK JN JS JL MY KP FI TX) := hD
        refine lv_iinc (v := (x2 + (1 : Int32))) (lv' := [(2, .int (x2 + (1 : Int32))), (0, .ref (β 0)), (1, .int x1), (3, .int x3)]) hx hb dX6_read_171 hl (k := 2) rfl rfl (by decide) rfl (fun ls hl => ?_)
        refine lv_goto (tgt := 87) hx hb dX6_read_174 (by decide) ?_
        exact hk87 _ _ _ _ _ _ _ _ _ _ _ H locs ls hf hP hD hS (lv_sub hl [1, 2, 0] rfl)
      · have hf := it_f c10 hf
        refine lv_aload_n hx hb dX6_read_133 rfl (lv_at hl 0 rfl) ?_
        refine lv_aload_n hx hb dX6_read_134 rfl (lv_at hl 0 rfl) ?_
        refine va_get (D := D) (ci := 7) (v := .int mL) (C := RX6) (T := TX6) (N := 23) hx hb hts hiX6 hown hK hP 0 rfl rfl 10 (by decide) fl107 (fun _ h9 => h9) rfl dX6_read_135 ?_
        refine lv_aload_n hx hb dX6_read_138 rfl (lv_at hl 0 rfl) ?_
        refine va_get (D := D) (ci := 7) (v := .ref (β 9)) (C := RX6) (T := TX6) (N := 23) hx hb hts hiX6 hown hK hP 0 rfl rfl 14 (by decide) fl34 (fun _ h9 => h9) rfl dX6_read_139 ?_
        refine lv_bipush (v := (16 : Int32)) hx hb dX6_read_142 (by decide) ?_
        refine lv_bipush (v := (60 : Int32)) hx hb dX6_read_144 (by decide) ?_
        refine lv_iload_n hx hb dX6_read_146 rfl (lv_at hl 2 rfl) ?_
        refine lv_iadd hx hb dX6_read_147 ?_
        refine lv_imul hx hb dX6_read_148 ?_
        refine lv_iload_n hx hb dX6_read_149 rfl (lv_at hl 3 rfl) ?_
        refine lv_iadd hx hb dX6_read_150 ?_
        obtain ⟨g11, hf⟩ := gin_some hf
        refine va_iald hx hb hK hP 9 0 rfl rfl g11 dX6_read_151 ?_
        obtain ⟨q12, hq12, hf⟩ := bnd hf
        refine kV_callV (As := [.int mL, .int ((JL (((((16 : Int32) * ((60 : Int32) + x2))) + x3)).toNatClampNeg))]) (rest := []) S hP hD hS (c_X6_add l D cI β mT mW mH mS mR mL mC mZ mA mB KK KN KS KC AN JK JN JS JL MY KP FI TX mL ((JL (((((16 : Int32) * ((60 : Int32) + x2))) + x3)).toNatClampNeg)) q12 hq12) (cwV 2 hts gX6_read_X6_add rfl rfl rfl (by decide +kernel) ⟨Nat.le_of_ble_eq_true rfl, Nat.le_of_ble_eq_true rfl⟩) 0 rfl rfl rfl hl.1 rfl (Nat.le_of_ble_eq_true rfl) dX6_read_152 ⟨Nat.zero_le _, Nat.zero_le _⟩ (fun H locs hP hD hS => ?_)
        have hP : va_P D vwCl (wM cI β mT mW mH mS mR mL mC mZ mA mB KK KN KS KC AN JK JN q12.1 q12.2 MY KP FI TX) H := hP
        have hD : va_D A (wM cI β mT mW mH mS mR mL mC mZ mA mB KK KN KS KC AN JK JN q12.1 q12.2 MY KP FI TX) := hD
        refine lv_iinc (v := (x3 + (1 : Int32))) (lv' := [(3, .int (x3 + (1 : Int32))), (0, .ref (β 0)), (1, .int x1), (2, .int x2)]) hx hb dX6_read_155 hl (k := 3) rfl rfl (by decide) rfl (fun ls hl => ?_)
        refine lv_goto (tgt := 120) hx hb dX6_read_158 (by decide) ?_
        exact ih _ _ _ _ _ _ _ _ _ _ _ _ H locs ls hf hP hD hS (lv_sub hl [1, 2, 3, 0] rfl)
  have w87 : ∀ (n : Nat), ∀ (x1 : Int32) (x2 : Int32) (mT : Int32) (mL : Int32) (mZ : Int32) (mA : Int32) (mB : Int32) (JK : Nat → Int32) (JN : Nat → Int32) (JS : Nat → Int32) (JL : Nat → Int32) (H : Heap) (locs : List Loc) (ls : Array Slot), f_X6_read_L87 mW mH mS TX F n x1 x2 mT mL mZ mA mB JK JN JS JL = some res → va_P D vwCl (wM cI β mT mW mH mS mR mL mC mZ mA mB KK KN KS KC AN JK JN JS JL MY KP FI TX) H → va_D A (wM cI β mT mW mH mS mR mL mC mZ mA mB KK KN KS KC AN JK JN JS JL MY KP FI TX) → va_S A s.heap H locs → lv_has ls 4 [(0, .ref (β 0)), (1, .int x1), (2, .int x2)] → W p l e rm_X6_read s m args below meth c H locs 0 0 (MQ below (kQi D A (wM cI β res.2.1 mW mH mS mR res.2.2.1 mC res.2.2.2.1 res.2.2.2.2.1 res.2.2.2.2.2.1 KK KN KS KC AN res.2.2.2.2.2.2.1 res.2.2.2.2.2.2.2.1 res.2.2.2.2.2.2.2.2.1 res.2.2.2.2.2.2.2.2.2 MY KP FI TX) res.1) args s 0 0 A) (F0 m 87 ls []) := by
    intro n
    induction n with
    | zero => intro x1 x2 mT mL mZ mA mB JK JN JS JL H locs ls hf; cases hf
    | succ n ih =>
      intro x1 x2 mT mL mZ mA mB JK JN JS JL H locs ls hf hP hD hS hl
      rw [f_X6_read_L87.eq_2] at hf
      refine lv_iload_n hx hb dX6_read_87 rfl (lv_at hl 2 rfl) ?_
      refine lv_iload_n hx hb dX6_read_88 rfl (lv_at hl 1 rfl) ?_
      refine lv_icmp_ge (tgt := 177) hx hb dX6_read_89 (by decide) (fun c5 => ?_) (fun c5 => ?_)
      · have hf := it_t c5 hf
        refine lv_iload_n hx hb dX6_read_177 rfl (lv_at hl 1 rfl) ?_
        have e9 := Option.some.inj hf
        subst e9
        exact kI_ret S rfl hP hD hS dX6_read_178
      · have hf := it_f c5 hf
        refine lv_aload_n hx hb dX6_read_92 rfl (lv_at hl 0 rfl) ?_
        refine lv_aload_n hx hb dX6_read_93 rfl (lv_at hl 0 rfl) ?_
        refine va_get (D := D) (ci := 7) (v := .int mL) (C := RX6) (T := TX6) (N := 23) hx hb hts hiX6 hown hK hP 0 rfl rfl 10 (by decide) fl107 (fun _ h9 => h9) rfl dX6_read_94 ?_
        refine lv_aload_n hx hb dX6_read_97 rfl (lv_at hl 0 rfl) ?_
        refine va_get (D := D) (ci := 7) (v := .ref (β 6)) (C := RX6) (T := TX6) (N := 23) hx hb hts hiX6 hown hK hP 0 rfl rfl 11 (by decide) fl25 (fun _ h9 => h9) rfl dX6_read_98 ?_
        refine lv_bipush (v := (60 : Int32)) hx hb dX6_read_101 (by decide) ?_
        refine lv_iload_n hx hb dX6_read_103 rfl (lv_at hl 2 rfl) ?_
        refine lv_iadd hx hb dX6_read_104 ?_
        obtain ⟨g6, hf⟩ := gin_some hf
        refine va_iald hx hb hK hP 6 0 rfl rfl g6 dX6_read_105 ?_
        refine lv_aload_n hx hb dX6_read_106 rfl (lv_at hl 0 rfl) ?_
        refine va_get (D := D) (ci := 7) (v := .ref (β 7)) (C := RX6) (T := TX6) (N := 23) hx hb hts hiX6 hown hK hP 0 rfl rfl 12 (by decide) fl28 (fun _ h9 => h9) rfl dX6_read_107 ?_
        refine lv_bipush (v := (60 : Int32)) hx hb dX6_read_110 (by decide) ?_
        refine lv_iload_n hx hb dX6_read_112 rfl (lv_at hl 2 rfl) ?_
        refine lv_iadd hx hb dX6_read_113 ?_
        obtain ⟨g7, hf⟩ := gin_some hf
        refine va_iald hx hb hK hP 7 0 rfl rfl g7 dX6_read_114 ?_
        obtain ⟨q8, hq8, hf⟩ := bnd hf
        refine kV_callV (As := [.int mL, .int ((JK ((60 : Int32) + x2).toNatClampNeg)), .int ((JN ((60 : Int32) + x2).toNatClampNeg))]) (rest := []) S hP hD hS (c_X6_begin l D cI β mT mW mH mS mR mL mC mZ mA mB KK KN KS KC AN JK JN JS JL MY KP FI TX mL ((JK ((60 : Int32) + x2).toNatClampNeg)) ((JN ((60 : Int32) + x2).toNatClampNeg)) q8 hq8) (cwV 3 hts gX6_read_X6_begin rfl rfl rfl (by decide +kernel) ⟨Nat.le_of_ble_eq_true rfl, Nat.le_of_ble_eq_true rfl⟩) 0 rfl rfl rfl hl.1 rfl (Nat.le_of_ble_eq_true rfl) dX6_read_115 ⟨Nat.zero_le _, Nat.zero_le _⟩ (fun H locs hP hD hS => ?_)
        have hP : va_P D vwCl (wM cI β mT mW mH mS mR mL mC mZ mA mB KK KN KS KC AN q8.1 q8.2.1 q8.2.2 JL MY KP FI TX) H := hP
        have hD : va_D A (wM cI β mT mW mH mS mR mL mC mZ mA mB KK KN KS KC AN q8.1 q8.2.1 q8.2.2 JL MY KP FI TX) := hD
        refine lv_iconst (v := (0 : Int32)) hx hb dX6_read_118 (by decide) ?_
        refine lv_istore_n (lv' := [(3, .int (0 : Int32)), (0, .ref (β 0)), (1, .int x1), (2, .int x2)]) hx hb dX6_read_119 rfl hl (by decide) rfl (fun ls hl => ?_)
        exact w120 _ ih F _ _ _ _ _ _ _ _ _ _ _ _ H locs ls hf hP hD hS (lv_sub hl [1, 2, 3, 0] rfl)
  have w66 : ∀ (x1 : Int32) (mT : Int32) (mL : Int32) (mZ : Int32) (mA : Int32) (mB : Int32) (JK : Nat → Int32) (JN : Nat → Int32) (JS : Nat → Int32) (JL : Nat → Int32) (H : Heap) (locs : List Loc) (ls : Array Slot), f_X6_read_J66 mW mH mS TX F x1 mT mL mZ mA mB JK JN JS JL = some res → va_P D vwCl (wM cI β mT mW mH mS mR mL mC mZ mA mB KK KN KS KC AN JK JN JS JL MY KP FI TX) H → va_D A (wM cI β mT mW mH mS mR mL mC mZ mA mB KK KN KS KC AN JK JN JS JL MY KP FI TX) → va_S A s.heap H locs → lv_has ls 4 [(0, .ref (β 0)), (1, .int x1)] → W p l e rm_X6_read s m args below meth c H locs 0 0 (MQ below (kQi D A (wM cI β res.2.1 mW mH mS mR res.2.2.1 mC res.2.2.2.1 res.2.2.2.2.1 res.2.2.2.2.2.1 KK KN KS KC AN res.2.2.2.2.2.2.1 res.2.2.2.2.2.2.2.1 res.2.2.2.2.2.2.2.2.1 res.2.2.2.2.2.2.2.2.2 MY KP FI TX) res.1) args s 0 0 A) (F0 m 66 ls []) := by
    intro x1 mT mL mZ mA mB JK JN JS JL H locs ls hf hP hD hS hl
    unfold f_X6_read_J66 at hf
    refine lv_aload_n hx hb dX6_read_66 rfl (lv_at hl 0 rfl) ?_
    refine lv_iconst (v := (0 : Int32)) hx hb dX6_read_67 (by decide) ?_
    refine va_put (D := D) (ci := 7) (v := .int (0 : Int32)) (ty := .int) (C := RX6) (T := TX6) (N := 23) hx hb hts hiX6 tyX6 tyX6_ok nmX6 hown hK hP hD hS 0 rfl rfl 20 (by decide) fl169 (fun _ h9 => h9) rfl (by decide +kernel) rfl rfl (Nat.le_of_ble_eq_true rfl) dX6_read_68 (fun H locs hP hD hS => ?_)
    have hP : va_P D vwCl (wM cI β mT mW mH mS mR mL mC (0 : Int32) mA mB KK KN KS KC AN JK JN JS JL MY KP FI TX) H := hP
    have hD : va_D A (wM cI β mT mW mH mS mR mL mC (0 : Int32) mA mB KK KN KS KC AN JK JN JS JL MY KP FI TX) := hD
    refine lv_aload_n hx hb dX6_read_71 rfl (lv_at hl 0 rfl) ?_
    refine va_get (D := D) (ci := 7) (v := .int mB) (C := RX6) (T := TX6) (N := 23) hx hb hts hiX6 hown hK hP 0 rfl rfl 22 (by decide) fl178 (fun _ h9 => h9) rfl dX6_read_72 ?_
    refine lv_if_lt (tgt := 85) hx hb dX6_read_75 (by decide) (fun c4 => ?_) (fun c4 => ?_)
    · have hf := it_t c4 hf
      refine lv_iconst (v := (0 : Int32)) hx hb dX6_read_85 (by decide) ?_
      refine lv_istore_n (lv' := [(2, .int (0 : Int32)), (0, .ref (β 0)), (1, .int x1)]) hx hb dX6_read_86 rfl hl (by decide) rfl (fun ls hl => ?_)
      exact w87 F _ _ _ _ _ _ _ _ _ _ _ H locs ls hf hP hD hS (lv_sub hl [1, 2, 0] rfl)
    · have hf := it_f c4 hf
      refine lv_iconst (v := (-1 : Int32)) hx hb dX6_read_78 (by decide) ?_
      refine lv_aload_n hx hb dX6_read_79 rfl (lv_at hl 0 rfl) ?_
      refine va_get (D := D) (ci := 7) (v := .int mB) (C := RX6) (T := TX6) (N := 23) hx hb hts hiX6 hown hK hP 0 rfl rfl 22 (by decide) fl178 (fun _ h9 => h9) rfl dX6_read_80 ?_
      refine lv_isub hx hb dX6_read_83 ?_
      have e9 := Option.some.inj hf
      subst e9
      exact kI_ret S rfl hP hD hS dX6_read_84
  have w50 : ∀ (k17 : Int32 → Int32 → Int32 → Int32 → Int32 → Int32 → (Nat → Int32) → (Nat → Int32) → (Nat → Int32) → (Nat → Int32) → Option (Int32 × Int32 × Int32 × Int32 × Int32 × Int32 × (Nat → Int32) × (Nat → Int32) × (Nat → Int32) × (Nat → Int32))) (hk17 : ∀ (x1 : Int32) (mT : Int32) (mL : Int32) (mZ : Int32) (mA : Int32) (mB : Int32) (JK : Nat → Int32) (JN : Nat → Int32) (JS : Nat → Int32) (JL : Nat → Int32) (H : Heap) (locs : List Loc) (ls : Array Slot), k17 x1 mT mL mZ mA mB JK JN JS JL = some res → va_P D vwCl (wM cI β mT mW mH mS mR mL mC mZ mA mB KK KN KS KC AN JK JN JS JL MY KP FI TX) H → va_D A (wM cI β mT mW mH mS mR mL mC mZ mA mB KK KN KS KC AN JK JN JS JL MY KP FI TX) → va_S A s.heap H locs → lv_has ls 4 [(0, .ref (β 0)), (1, .int x1)] → W p l e rm_X6_read s m args below meth c H locs 0 0 (MQ below (kQi D A (wM cI β res.2.1 mW mH mS mR res.2.2.1 mC res.2.2.2.1 res.2.2.2.2.1 res.2.2.2.2.2.1 KK KN KS KC AN res.2.2.2.2.2.2.1 res.2.2.2.2.2.2.2.1 res.2.2.2.2.2.2.2.2.1 res.2.2.2.2.2.2.2.2.2 MY KP FI TX) res.1) args s 0 0 A) (F0 m 17 ls [])), ∀ (t1 : Int32) (t2 : Int32) (x1 : Int32) (mT : Int32) (mL : Int32) (mZ : Int32) (mA : Int32) (mB : Int32) (JK : Nat → Int32) (JN : Nat → Int32) (JS : Nat → Int32) (JL : Nat → Int32) (H : Heap) (locs : List Loc) (ls : Array Slot), f_X6_read_J50 mW mH mS TX k17 F t1 t2 x1 mT mL mZ mA mB JK JN JS JL = some res → va_P D vwCl (wM cI β mT mW mH mS mR mL mC mZ mA mB KK KN KS KC AN JK JN JS JL MY KP FI TX) H → va_D A (wM cI β mT mW mH mS mR mL mC mZ mA mB KK KN KS KC AN JK JN JS JL MY KP FI TX) → va_S A s.heap H locs → lv_has ls 4 [(0, .ref (β 0)), (1, .int x1)] → W p l e rm_X6_read s m args below meth c H locs 0 0 (MQ below (kQi D A (wM cI β res.2.1 mW mH mS mR res.2.2.1 mC res.2.2.2.1 res.2.2.2.2.1 res.2.2.2.2.2.1 KK KN KS KC AN res.2.2.2.2.2.2.1 res.2.2.2.2.2.2.2.1 res.2.2.2.2.2.2.2.2.1 res.2.2.2.2.2.2.2.2.2 MY KP FI TX) res.1) args s 0 0 A) (F0 m 50 ls [.int t2, .int t1, .ref (β 0)]) := by
    intro k17 hk17 t1 t2 x1 mT mL mZ mA mB JK JN JS JL H locs ls hf hP hD hS hl
    unfold f_X6_read_J50 at hf
    refine lv_iadd hx hb dX6_read_50 ?_
    refine lv_aload_n hx hb dX6_read_51 rfl (lv_at hl 0 rfl) ?_
    refine va_get (D := D) (ci := 7) (v := .int mL) (C := RX6) (T := TX6) (N := 23) hx hb hts hiX6 hown hK hP 0 rfl rfl 10 (by decide) fl107 (fun _ h9 => h9) rfl dX6_read_52 ?_
    refine lv_iload_n hx hb dX6_read_55 rfl (lv_at hl 1 rfl) ?_
    refine lv_iadd hx hb dX6_read_56 ?_
    obtain ⟨q13, hq13, hf⟩ := bnd hf
    refine kV_callV (As := [.int (t1 + t2), .int (mL + x1)]) (rest := []) S hP hD hS (c_X6_readLine l D cI β mT mW mH mS mR mL mC mZ mA mB KK KN KS KC AN JK JN JS JL MY KP FI TX F (t1 + t2) (mL + x1) q13 hq13) (cwV 2 hts gX6_read_X6_readLine rfl rfl rfl (by decide +kernel) ⟨Nat.le_of_ble_eq_true rfl, Nat.le_of_ble_eq_true rfl⟩) 0 rfl rfl rfl hl.1 rfl (Nat.le_of_ble_eq_true rfl) dX6_read_57 ⟨Nat.zero_le _, Nat.zero_le _⟩ (fun H locs hP hD hS => ?_)
    have hP : va_P D vwCl (wM cI β mT mW mH mS mR mL mC mZ q13.1 q13.2.1 KK KN KS KC AN q13.2.2.1 q13.2.2.2.1 q13.2.2.2.2.1 q13.2.2.2.2.2 MY KP FI TX) H := hP
    have hD : va_D A (wM cI β mT mW mH mS mR mL mC mZ q13.1 q13.2.1 KK KN KS KC AN q13.2.2.1 q13.2.2.2.1 q13.2.2.2.2.1 q13.2.2.2.2.2 MY KP FI TX) := hD
    refine lv_iinc (v := (x1 + (1 : Int32))) (lv' := [(1, .int (x1 + (1 : Int32))), (0, .ref (β 0))]) hx hb dX6_read_60 hl (k := 1) rfl rfl (by decide) rfl (fun ls hl => ?_)
    refine lv_goto (tgt := 17) hx hb dX6_read_63 (by decide) ?_
    exact hk17 _ _ _ _ _ _ _ _ _ _ H locs ls hf hP hD hS (lv_sub hl [1, 0] rfl)
  have w17 : ∀ (n : Nat), ∀ (x1 : Int32) (mT : Int32) (mL : Int32) (mZ : Int32) (mA : Int32) (mB : Int32) (JK : Nat → Int32) (JN : Nat → Int32) (JS : Nat → Int32) (JL : Nat → Int32) (H : Heap) (locs : List Loc) (ls : Array Slot), f_X6_read_L17 mW mH mS TX F n x1 mT mL mZ mA mB JK JN JS JL = some res → va_P D vwCl (wM cI β mT mW mH mS mR mL mC mZ mA mB KK KN KS KC AN JK JN JS JL MY KP FI TX) H → va_D A (wM cI β mT mW mH mS mR mL mC mZ mA mB KK KN KS KC AN JK JN JS JL MY KP FI TX) → va_S A s.heap H locs → lv_has ls 4 [(0, .ref (β 0)), (1, .int x1)] → W p l e rm_X6_read s m args below meth c H locs 0 0 (MQ below (kQi D A (wM cI β res.2.1 mW mH mS mR res.2.2.1 mC res.2.2.2.1 res.2.2.2.2.1 res.2.2.2.2.2.1 KK KN KS KC AN res.2.2.2.2.2.2.1 res.2.2.2.2.2.2.2.1 res.2.2.2.2.2.2.2.2.1 res.2.2.2.2.2.2.2.2.2 MY KP FI TX) res.1) args s 0 0 A) (F0 m 17 ls []) := by
    intro n
    induction n with
    | zero => intro x1 mT mL mZ mA mB JK JN JS JL H locs ls hf; cases hf
    | succ n ih =>
      intro x1 mT mL mZ mA mB JK JN JS JL H locs ls hf hP hD hS hl
      rw [f_X6_read_L17.eq_2] at hf
      refine lv_aload_n hx hb dX6_read_17 rfl (lv_at hl 0 rfl) ?_
      refine va_get (D := D) (ci := 7) (v := .int mB) (C := RX6) (T := TX6) (N := 23) hx hb hts hiX6 hown hK hP 0 rfl rfl 22 (by decide) fl178 (fun _ h9 => h9) rfl dX6_read_18 ?_
      refine lv_if_ge (tgt := 66) hx hb dX6_read_21 (by decide) (fun c1 => ?_) (fun c1 => ?_)
      · have hf := it_t c1 hf
        exact w66 _ _ _ _ _ _ _ _ _ _ H locs ls hf hP hD hS (lv_sub hl [0, 1] rfl)
      · have hf := it_f c1 hf
        refine lv_aload_n hx hb dX6_read_24 rfl (lv_at hl 0 rfl) ?_
        refine va_get (D := D) (ci := 7) (v := .int mA) (C := RX6) (T := TX6) (N := 23) hx hb hts hiX6 hown hK hP 0 rfl rfl 21 (by decide) fl172 (fun _ h9 => h9) rfl dX6_read_25 ?_
        refine lv_aload_n hx hb dX6_read_28 rfl (lv_at hl 0 rfl) ?_
        refine va_get (D := D) (ci := 7) (v := .int mZ) (C := RX6) (T := TX6) (N := 23) hx hb hts hiX6 hown hK hP 0 rfl rfl 20 (by decide) fl169 (fun _ h9 => h9) rfl dX6_read_29 ?_
        refine lv_icmp_ge (tgt := 66) hx hb dX6_read_32 (by decide) (fun c2 => ?_) (fun c2 => ?_)
        · have hf := it_t c2 hf
          exact w66 _ _ _ _ _ _ _ _ _ _ H locs ls hf hP hD hS (lv_sub hl [0, 1] rfl)
        · have hf := it_f c2 hf
          refine lv_aload_n hx hb dX6_read_35 rfl (lv_at hl 0 rfl) ?_
          refine lv_bipush (v := (60 : Int32)) hx hb dX6_read_36 (by decide) ?_
          refine lv_iload_n hx hb dX6_read_38 rfl (lv_at hl 1 rfl) ?_
          refine lv_bipush (v := (60 : Int32)) hx hb dX6_read_39 (by decide) ?_
          refine lv_icmp_ge (tgt := 48) hx hb dX6_read_41 (by decide) (fun c3 => ?_) (fun c3 => ?_)
          · have hf := it_t c3 hf
            refine lv_bipush (v := (59 : Int32)) hx hb dX6_read_48 (by decide) ?_
            exact w50 _ ih _ _ _ _ _ _ _ _ _ _ _ _ H locs ls hf hP hD hS (lv_sub hl [0, 1] rfl)
          · have hf := it_f c3 hf
            refine lv_iload_n hx hb dX6_read_44 rfl (lv_at hl 1 rfl) ?_
            refine lv_goto (tgt := 50) hx hb dX6_read_45 (by decide) ?_
            exact w50 _ ih _ _ _ _ _ _ _ _ _ _ _ _ H locs ls hf hP hD hS (lv_sub hl [0, 1] rfl)
  suffices hgo : ∀ (H : Heap) (locs : List Loc), va_P D vwCl (wM cI β mT mW mH mS mR mL mC mZ mA mB KK KN KS KC AN JK JN JS JL MY KP FI TX) H → va_D A (wM cI β mT mW mH mS mR mL mC mZ mA mB KK KN KS KC AN JK JN JS JL MY KP FI TX) → va_S A s.heap H locs → W p l e rm_X6_read s m args below meth c H locs 0 0 (MQ below (kQi D A (wM cI β res.2.1 mW mH mS mR res.2.2.1 mC res.2.2.2.1 res.2.2.2.2.1 res.2.2.2.2.2.1 KK KN KS KC AN res.2.2.2.2.2.2.1 res.2.2.2.2.2.2.2.1 res.2.2.2.2.2.2.2.2.1 res.2.2.2.2.2.2.2.2.2 MY KP FI TX) res.1) args s 0 0 A) (F0 m 0 ls []) from hgo _ _ hP hD hS
  clear hP hD hS
  intro H locs hP hD hS
  refine lv_aload_n hx hb dX6_read_0 rfl (lv_at hl 0 rfl) ?_
  refine lv_iconst (v := (0 : Int32)) hx hb dX6_read_1 (by decide) ?_
  refine va_put (D := D) (ci := 7) (v := .int (0 : Int32)) (ty := .int) (C := RX6) (T := TX6) (N := 23) hx hb hts hiX6 tyX6 tyX6_ok nmX6 hown hK hP hD hS 0 rfl rfl 0 (by decide) fl63 (fun _ h9 => h9) rfl (by decide +kernel) rfl rfl (Nat.le_of_ble_eq_true rfl) dX6_read_2 (fun H locs hP hD hS => ?_)
  have hP : va_P D vwCl (wM cI β (0 : Int32) mW mH mS mR mL mC mZ mA mB KK KN KS KC AN JK JN JS JL MY KP FI TX) H := hP
  have hD : va_D A (wM cI β (0 : Int32) mW mH mS mR mL mC mZ mA mB KK KN KS KC AN JK JN JS JL MY KP FI TX) := hD
  refine lv_aload_n hx hb dX6_read_5 rfl (lv_at hl 0 rfl) ?_
  refine lv_iconst (v := (0 : Int32)) hx hb dX6_read_6 (by decide) ?_
  refine va_put (D := D) (ci := 7) (v := .int (0 : Int32)) (ty := .int) (C := RX6) (T := TX6) (N := 23) hx hb hts hiX6 tyX6 tyX6_ok nmX6 hown hK hP hD hS 0 rfl rfl 21 (by decide) fl172 (fun _ h9 => h9) rfl (by decide +kernel) rfl rfl (Nat.le_of_ble_eq_true rfl) dX6_read_7 (fun H locs hP hD hS => ?_)
  have hP : va_P D vwCl (wM cI β (0 : Int32) mW mH mS mR mL mC mZ (0 : Int32) mB KK KN KS KC AN JK JN JS JL MY KP FI TX) H := hP
  have hD : va_D A (wM cI β (0 : Int32) mW mH mS mR mL mC mZ (0 : Int32) mB KK KN KS KC AN JK JN JS JL MY KP FI TX) := hD
  refine lv_aload_n hx hb dX6_read_10 rfl (lv_at hl 0 rfl) ?_
  refine lv_iconst (v := (-1 : Int32)) hx hb dX6_read_11 (by decide) ?_
  refine va_put (D := D) (ci := 7) (v := .int (-1 : Int32)) (ty := .int) (C := RX6) (T := TX6) (N := 23) hx hb hts hiX6 tyX6 tyX6_ok nmX6 hown hK hP hD hS 0 rfl rfl 22 (by decide) fl178 (fun _ h9 => h9) rfl (by decide +kernel) rfl rfl (Nat.le_of_ble_eq_true rfl) dX6_read_12 (fun H locs hP hD hS => ?_)
  have hP : va_P D vwCl (wM cI β (0 : Int32) mW mH mS mR mL mC mZ (0 : Int32) (-1 : Int32) KK KN KS KC AN JK JN JS JL MY KP FI TX) H := hP
  have hD : va_D A (wM cI β (0 : Int32) mW mH mS mR mL mC mZ (0 : Int32) (-1 : Int32) KK KN KS KC AN JK JN JS JL MY KP FI TX) := hD
  refine lv_iconst (v := (0 : Int32)) hx hb dX6_read_15 (by decide) ?_
  refine lv_istore_n (lv' := [(1, .int (0 : Int32)), (0, .ref (β 0))]) hx hb dX6_read_16 rfl hl (by decide) rfl (fun ls hl => ?_)
  exact w17 F _ _ _ _ _ _ _ _ _ _ H locs ls hf hP hD hS (lv_sub hl [1, 0] rfl)
