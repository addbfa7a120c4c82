abbrev rm_X6_isRight : Room := { frames := 6, cells := 0, slots := 0, locals := 144 }
set_option maxHeartbeats 4000000 in
set_option maxRecDepth 100000 in
theorem c_X6_isRight (l : Launch) (D : va_G) (cI : ClassId) (β : Nat → Nat) (mT mW mH mS mR mL mC mZ mA mB : Int32) (KK KN KS KC AN JK JN JS JL MY KP FI TX : Nat → Int32) (F : Nat) (x1 : Int32) (res : Int32 × Int32 × (Nat → Int32) × (Nat → Int32) × (Nat → Int32)) (hf : f_X6_isRight mW mH mS mR KK KN KS KC AN JK JN JS JL F mC MY KP FI x1 = some res) : kI l yX6_isRight wsX6_isRight rm_X6_isRight D cI [.ref (β 0), .int x1] (wM cI β mT mW mH mS mR mL mC mZ mA mB KK KN KS KC AN JK JN JS JL MY KP FI TX) (wM cI β mT mW mH mS mR mL res.2.1 mZ mA mB KK KN KS KC AN JK JN JS JL res.2.2.1 res.2.2.2.1 res.2.2.2.2 TX) res.1 := by
  unfold f_X6_isRight at hf
  refine kI_of (cc := cX6_isRight) (maxL := 2) (ret := (some .boolean)) (by decide +kernel) rfl (Nat.le_of_ble_eq_true rfl) ?_
  intro p e s m args below meth c A ls S hP hD hS hl
  have S : kC p s m args meth c cX6_isRight 2 wsX6_isRight RX6 (some .boolean) D cI A := S
  have hx := S.1.1
  have hb := S.1.2.1
  have hml := S.1.2.2.1
  have hown : s.vm.findClass RX6 = some m.cls := S.1.2.2.2.1
  have hts := S.1.2.2.2.2
  have hK := S.2.2.2.1
  have hnk := S.2.2.2.2.1.2
  have hiX6 : ∀ w ∈ u_ws RX6 TX6 23, w ∈ wsX6_isRight := by decide +kernel
  have fl25 := hts (.fieldLink RX6 25 "ProofCheckerModel" "lineKind" "[I") (by decide +kernel)
  have fl134 := hts (.fieldLink RX6 134 "ProofCheckerModel" "cannot" "Z") (by decide +kernel)
  have hl : lv_has ls 2 [(0, .ref (β 0)), (1, .int x1)] := hl
  suffices hgo : ∀ (H : Heap) (locs : List Loc), va_P D vwCl (wM cI β mT mW mH mS mR mL mC mZ mA mB KK KN KS KC AN JK JN JS JL MY KP FI TX) H → va_D A (wM cI β mT mW mH mS mR mL mC mZ mA mB KK KN KS KC AN JK JN JS JL MY KP FI TX) → va_S A s.heap H locs → W p l e rm_X6_isRight s m args below meth c H locs 0 0 (MQ below (kQi D A (wM cI β mT mW mH mS mR mL res.2.1 mZ mA mB KK KN KS KC AN JK JN JS JL res.2.2.1 res.2.2.2.1 res.2.2.2.2 TX) res.1) args s 0 0 A) (F0 m 0 ls []) from hgo _ _ hP hD hS
  clear hP hD hS
  intro H locs hP hD hS
  refine lv_aload_n hx hb dX6_isRight_0 rfl (lv_at hl 0 rfl) ?_
  refine va_get (D := D) (ci := 7) (v := .ref (β 6)) (C := RX6) (T := TX6) (N := 23) hx hb hts hiX6 hown hK hP 0 rfl rfl 11 (by decide) fl25 (fun _ h9 => h9) rfl dX6_isRight_1 ?_
  refine lv_iload_n hx hb dX6_isRight_4 rfl (lv_at hl 1 rfl) ?_
  obtain ⟨g1, hf⟩ := gin_some hf
  refine va_iald hx hb hK hP 6 0 rfl rfl g1 dX6_isRight_5 ?_
  by_cases c2 : (JK x1.toNatClampNeg) = (0 : Int32)
  · have hf := it_t c2 hf
    refine sw_in (k := (0 : Int32)) (tgt := 32) hx hb c2 dX6_isRight_6 (by decide) (by decide) rfl (by decide) ?_
    refine lv_aload_n hx hb dX6_isRight_32 rfl (lv_at hl 0 rfl) ?_
    refine lv_iload_n hx hb dX6_isRight_33 rfl (lv_at hl 1 rfl) ?_
    obtain ⟨q3, hq3, hf⟩ := bnd hf
    refine kI_callV (As := [.int x1]) (rest := []) S hP hD hS (c_X6_byRule l D cI β mT mW mH mS mR mL mC mZ mA mB KK KN KS KC AN JK JN JS JL MY KP FI TX F x1 q3 hq3) (cwV 1 hts gX6_isRight_X6_byRule rfl rfl rfl (by decide +kernel) ⟨Nat.le_of_ble_eq_true rfl, Nat.le_of_ble_eq_true rfl⟩) 0 rfl rfl rfl hl.1 rfl (Nat.le_of_ble_eq_true rfl) dX6_isRight_34 ⟨Nat.zero_le _, Nat.zero_le _⟩ (fun H locs hP hD hS => ?_)
    have hP : va_P D vwCl (wM cI β mT mW mH mS mR mL mC mZ mA mB KK KN KS KC AN JK JN JS JL MY KP q3.2 TX) H := hP
    have hD : va_D A (wM cI β mT mW mH mS mR mL mC mZ mA mB KK KN KS KC AN JK JN JS JL MY KP q3.2 TX) := hD
    obtain ⟨g4, hf⟩ := gbl_some hf
    have e9 := Option.some.inj hf
    subst e9
    exact kI_ret S (nar_b g4) hP hD hS dX6_isRight_37
  have hf := it_f c2 hf
  by_cases c5 : (JK x1.toNatClampNeg) = (1 : Int32)
  · have hf := it_t c5 hf
    refine sw_in (k := (1 : Int32)) (tgt := 38) hx hb c5 dX6_isRight_6 (by decide) (by decide) rfl (by decide) ?_
    refine lv_aload_n hx hb dX6_isRight_38 rfl (lv_at hl 0 rfl) ?_
    refine lv_iload_n hx hb dX6_isRight_39 rfl (lv_at hl 1 rfl) ?_
    obtain ⟨q6, hq6, hf⟩ := bnd hf
    refine kV_callV (As := [.int x1]) (rest := []) S hP hD hS (c_X6_turned l D cI β mT mW mH mS mR mL mC mZ mA mB KK KN KS KC AN JK JN JS JL MY KP FI TX F x1 q6 hq6) (cwV 1 hts gX6_isRight_X6_turned rfl rfl rfl (by decide +kernel) ⟨Nat.le_of_ble_eq_true rfl, Nat.le_of_ble_eq_true rfl⟩) 0 rfl rfl rfl hl.1 rfl (Nat.le_of_ble_eq_true rfl) dX6_isRight_40 ⟨Nat.zero_le _, Nat.zero_le _⟩ (fun H locs hP hD hS => ?_)
    have hP : va_P D vwCl (wM cI β mT mW mH mS mR mL q6.1 mZ mA mB KK KN KS KC AN JK JN JS JL q6.2 KP FI TX) H := hP
    have hD : va_D A (wM cI β mT mW mH mS mR mL q6.1 mZ mA mB KK KN KS KC AN JK JN JS JL q6.2 KP FI TX) := hD
    refine lv_aload_n hx hb dX6_isRight_43 rfl (lv_at hl 0 rfl) ?_
    refine va_get (D := D) (ci := 7) (v := .int q6.1) (C := RX6) (T := TX6) (N := 23) hx hb hts hiX6 hown hK hP 0 rfl rfl 17 (by decide) fl134 (fun _ h9 => h9) rfl dX6_isRight_44 ?_
    obtain ⟨g7, hf⟩ := gbl_some hf
    have e9 := Option.some.inj hf
    subst e9
    exact kI_ret S (nar_b g7) hP hD hS dX6_isRight_47
  have hf := it_f c5 hf
  by_cases c8 : (JK x1.toNatClampNeg) = (2 : Int32)
  · have hf := it_t c8 hf
    refine sw_in (k := (2 : Int32)) (tgt := 48) hx hb c8 dX6_isRight_6 (by decide) (by decide) rfl (by decide) ?_
    refine lv_aload_n hx hb dX6_isRight_48 rfl (lv_at hl 0 rfl) ?_
    refine lv_iload_n hx hb dX6_isRight_49 rfl (lv_at hl 1 rfl) ?_
    obtain ⟨q9, hq9, hf⟩ := bnd hf
    refine kI_callV (As := [.int x1]) (rest := []) S hP hD hS (c_X6_bySplit l D cI β mT mW mH mS mR mL mC mZ mA mB KK KN KS KC AN JK JN JS JL MY KP FI TX F x1 q9 hq9) (cwV 1 hts gX6_isRight_X6_bySplit rfl rfl rfl (by decide +kernel) ⟨Nat.le_of_ble_eq_true rfl, Nat.le_of_ble_eq_true rfl⟩) 0 rfl rfl rfl hl.1 rfl (Nat.le_of_ble_eq_true rfl) dX6_isRight_50 ⟨Nat.zero_le _, Nat.zero_le _⟩ (fun H locs hP hD hS => ?_)
    have hP : va_P D vwCl (wM cI β mT mW mH mS mR mL q9.2.1 mZ mA mB KK KN KS KC AN JK JN JS JL q9.2.2.1 q9.2.2.2 FI TX) H := hP
    have hD : va_D A (wM cI β mT mW mH mS mR mL q9.2.1 mZ mA mB KK KN KS KC AN JK JN JS JL q9.2.2.1 q9.2.2.2 FI TX) := hD
    obtain ⟨g10, hf⟩ := gbl_some hf
    have e9 := Option.some.inj hf
    subst e9
    exact kI_ret S (nar_b g10) hP hD hS dX6_isRight_53
  have hf := it_f c8 hf
  refine lv_tableOut (tgt := 54) hx hb dX6_isRight_6 (by have e0 := lv_neT (a := 0) c2 rfl; have e1 := lv_neT (a := 1) c5 rfl; have e2 := lv_neT (a := 2) c8 rfl; omega) (by decide) ?_
  refine lv_aload_n hx hb dX6_isRight_54 rfl (lv_at hl 0 rfl) ?_
  refine lv_iload_n hx hb dX6_isRight_55 rfl (lv_at hl 1 rfl) ?_
  obtain ⟨q11, hq11, hf⟩ := bnd hf
  refine kI_callV (As := [.int x1]) (rest := []) S hP hD hS (c_X6_isBarred l D cI β mT mW mH mS mR mL mC mZ mA mB KK KN KS KC AN JK JN JS JL MY KP FI TX F x1 q11 hq11) (cwV 1 hts gX6_isRight_X6_isBarred rfl rfl rfl (by decide +kernel) ⟨Nat.le_of_ble_eq_true rfl, Nat.le_of_ble_eq_true rfl⟩) 0 rfl rfl rfl hl.1 rfl (Nat.le_of_ble_eq_true rfl) dX6_isRight_56 ⟨Nat.zero_le _, Nat.zero_le _⟩ (fun H locs hP hD hS => ?_)
  have hP : va_P D vwCl (wM cI β mT mW mH mS mR mL mC mZ mA mB KK KN KS KC AN JK JN JS JL MY KP q11.2 TX) H := hP
  have hD : va_D A (wM cI β mT mW mH mS mR mL mC mZ mA mB KK KN KS KC AN JK JN JS JL MY KP q11.2 TX) := hD
  obtain ⟨g12, hf⟩ := gbl_some hf
  have e9 := Option.some.inj hf
  subst e9
  exact kI_ret S (nar_b g12) hP hD hS dX6_isRight_59
abbrev rm_X6_right : Room := { frames := 7, cells := 0, slots := 0, locals := 165 }
set_option maxHeartbeats 4000000 in
set_option maxRecDepth 100000 in
theorem c_X6_right (l : Launch) (D : va_G) (cI : ClassId) (β : Nat → Nat) (mT mW mH mS mR mL mC mZ mA mB : Int32) (KK KN KS KC AN JK JN JS JL MY KP FI TX : Nat → Int32) (F : Nat)  (res : Int32 × Int32 × (Nat → Int32) × (Nat → Int32) × (Nat → Int32)) (hf : f_X6_right mW mH mS mR mL KK KN KS KC AN JK JN JS JL F mC MY KP FI = some res) : kI l yX6_right wsX6_right rm_X6_right D cI [.ref (β 0)] (wM cI β mT mW mH mS mR mL mC mZ mA mB KK KN KS KC AN JK JN JS JL MY KP FI TX) (wM cI β mT mW mH mS mR mL res.2.1 mZ mA mB KK KN KS KC AN JK JN JS JL res.2.2.1 res.2.2.2.1 res.2.2.2.2 TX) res.1 := by
  unfold f_X6_right at hf
  refine kI_of (cc := cX6_right) (maxL := 2) (ret := (some .int)) (by decide +kernel) rfl (Nat.le_of_ble_eq_true rfl) ?_
  intro p e s m args below meth c A ls S hP hD hS hl
  have S : kC p s m args meth c cX6_right 2 wsX6_right RX6 (some .int) D cI A := S
  have hx := S.1.1
  have hb := S.1.2.1
  have hml := S.1.2.2.1
  have hown : s.vm.findClass RX6 = some m.cls := S.1.2.2.2.1
  have hts := S.1.2.2.2.2
  have hK := S.2.2.2.1
  have hnk := S.2.2.2.2.1.2
  have hiX6 : ∀ w ∈ u_ws RX6 TX6 23, w ∈ wsX6_right := by decide +kernel
  have fl107 := hts (.fieldLink RX6 107 "ProofCheckerModel" "lines" "I") (by decide +kernel)
  have hl : lv_has ls 2 [(0, .ref (β 0))] := hl
  have w2 : ∀ (n : Nat), ∀ (x1 : Int32) (mC : Int32) (MY : Nat → Int32) (KP : Nat → Int32) (FI : Nat → Int32) (H : Heap) (locs : List Loc) (ls : Array Slot), f_X6_right_L2 mW mH mS mR mL KK KN KS KC AN JK JN JS JL F n x1 mC MY KP FI = some res → va_P D vwCl (wM cI β mT mW mH mS mR mL mC mZ mA mB KK KN KS KC AN JK JN JS JL MY KP FI TX) H → va_D A (wM cI β mT mW mH mS mR mL mC mZ mA mB KK KN KS KC AN JK JN JS JL MY KP FI TX) → va_S A s.heap H locs → lv_has ls 2 [(0, .ref (β 0)), (1, .int x1)] → W p l e rm_X6_right s m args below meth c H locs 0 0 (MQ below (kQi D A (wM cI β mT mW mH mS mR mL res.2.1 mZ mA mB KK KN KS KC AN JK JN JS JL res.2.2.1 res.2.2.2.1 res.2.2.2.2 TX) res.1) args s 0 0 A) (F0 m 2 ls []) := by
    intro n
    induction n with
    | zero => intro x1 mC MY KP FI H locs ls hf; cases hf
    | succ n ih =>
      intro x1 mC MY KP FI H locs ls hf hP hD hS hl
      rw [f_X6_right_L2.eq_2] at hf
      refine lv_iload_n hx hb dX6_right_2 rfl (lv_at hl 1 rfl) ?_
      refine lv_aload_n hx hb dX6_right_3 rfl (lv_at hl 0 rfl) ?_
      refine va_get (D := D) (ci := 7) (v := .int mL) (C := RX6) (T := TX6) (N := 23) hx hb hts hiX6 hown hK hP 0 rfl rfl 10 (by decide) fl107 (fun _ h9 => h9) rfl dX6_right_4 ?_
      refine lv_icmp_ge (tgt := 24) hx hb dX6_right_7 (by decide) (fun c1 => ?_) (fun c1 => ?_)
      · have hf := it_t c1 hf
        refine lv_iload_n hx hb dX6_right_24 rfl (lv_at hl 1 rfl) ?_
        have e9 := Option.some.inj hf
        subst e9
        exact kI_ret S rfl hP hD hS dX6_right_25
      · have hf := it_f c1 hf
        refine lv_aload_n hx hb dX6_right_10 rfl (lv_at hl 0 rfl) ?_
        refine lv_iload_n hx hb dX6_right_11 rfl (lv_at hl 1 rfl) ?_
        obtain ⟨q2, hq2, hf⟩ := bnd hf
        refine kI_callV (As := [.int x1]) (rest := []) S hP hD hS (c_X6_isRight l D cI β mT mW mH mS mR mL mC mZ mA mB KK KN KS KC AN JK JN JS JL MY KP FI TX F x1 q2 hq2) (cwV 1 hts gX6_right_X6_isRight rfl rfl rfl (by decide +kernel) ⟨Nat.le_of_ble_eq_true rfl, Nat.le_of_ble_eq_true rfl⟩) 0 rfl rfl rfl hl.1 rfl (Nat.le_of_ble_eq_true rfl) dX6_right_12 ⟨Nat.zero_le _, Nat.zero_le _⟩ (fun H locs hP hD hS => ?_)
        have hP : va_P D vwCl (wM cI β mT mW mH mS mR mL q2.2.1 mZ mA mB KK KN KS KC AN JK JN JS JL q2.2.2.1 q2.2.2.2.1 q2.2.2.2.2 TX) H := hP
        have hD : va_D A (wM cI β mT mW mH mS mR mL q2.2.1 mZ mA mB KK KN KS KC AN JK JN JS JL q2.2.2.1 q2.2.2.2.1 q2.2.2.2.2 TX) := hD
        refine lv_if_eq (tgt := 24) hx hb dX6_right_15 (by decide) (fun c3 => ?_) (fun c3 => ?_)
        · have hf := it_t c3 hf
          refine lv_iload_n hx hb dX6_right_24 rfl (lv_at hl 1 rfl) ?_
          have e9 := Option.some.inj hf
          subst e9
          exact kI_ret S rfl hP hD hS dX6_right_25
        · have hf := it_f c3 hf
          refine lv_iinc (v := (x1 + (1 : Int32))) (lv' := [(1, .int (x1 + (1 : Int32))), (0, .ref (β 0))]) hx hb dX6_right_18 hl (k := 1) rfl rfl (by decide) rfl (fun ls hl => ?_)
          refine lv_goto (tgt := 2) hx hb dX6_right_21 (by decide) ?_
          exact ih _ _ _ _ _ H locs ls hf hP hD hS (lv_sub hl [1, 0] rfl)
  suffices hgo : ∀ (H : Heap) (locs : List Loc), va_P D vwCl (wM cI β mT mW mH mS mR mL mC mZ mA mB KK KN KS KC AN JK JN JS JL MY KP FI TX) H → va_D A (wM cI β mT mW mH mS mR mL mC mZ mA mB KK KN KS KC AN JK JN JS JL MY KP FI TX) → va_S A s.heap H locs → W p l e rm_X6_right s m args below meth c H locs 0 0 (MQ below (kQi D A (wM cI β mT mW mH mS mR mL res.2.1 mZ mA mB KK KN KS KC AN JK JN JS JL res.2.2.1 res.2.2.2.1 res.2.2.2.2 TX) res.1) args s 0 0 A) (F0 m 0 ls []) from hgo _ _ hP hD hS
  clear hP hD hS
  intro H locs hP hD hS
  refine lv_iconst (v := (0 : Int32)) hx hb dX6_right_0 (by decide) ?_
  refine lv_istore_n (lv' := [(1, .int (0 : Int32)), (0, .ref (β 0))]) hx hb dX6_right_1 rfl hl (by decide) rfl (fun ls hl => ?_)
  exact w2 F _ _ _ _ _ H locs ls hf hP hD hS (lv_sub hl [1, 0] rfl)
abbrev rm_X6_check : Room := { frames := 8, cells := 0, slots := 0, locals := 186 }
set_option maxHeartbeats 4000000 in
set_option maxRecDepth 100000 in
theorem c_X6_check (l : Launch) (D : va_G) (cI : ClassId) (β : Nat → Nat) (mT mW mH mS mR mL mC mZ mA mB : Int32) (KK KN KS KC AN JK JN JS JL MY KP FI TX : Nat → Int32) (F : Nat)  (res : Int32 × Int32 × Int32 × (Nat → Int32) × (Nat → Int32) × (Nat → Int32)) (hf : f_X6_check mW mH mS mR mL KK KN KS KC AN JK JN JS JL F mT mC MY KP FI = some res) : kI l yX6_check wsX6_check rm_X6_check D cI [.ref (β 0)] (wM cI β mT mW mH mS mR mL mC mZ mA mB KK KN KS KC AN JK JN JS JL MY KP FI TX) (wM cI β res.2.1 mW mH mS mR mL res.2.2.1 mZ mA mB KK KN KS KC AN JK JN JS JL res.2.2.2.1 res.2.2.2.2.1 res.2.2.2.2.2 TX) res.1 := by
  unfold f_X6_check at hf
  refine kI_of (cc := cX6_check) (maxL := 1) (ret := (some .int)) (by decide +kernel) rfl (Nat.le_of_ble_eq_true rfl) ?_
  intro p e s m args below meth c A ls S hP hD hS hl
  have S : kC p s m args meth c cX6_check 1 wsX6_check RX6 (some .int) D cI A := S
  have hx := S.1.1
  have hb := S.1.2.1
  have hml := S.1.2.2.1
  have hown : s.vm.findClass RX6 = some m.cls := S.1.2.2.2.1
  have hts := S.1.2.2.2.2
  have hK := S.2.2.2.1
  have hnk := S.2.2.2.2.1.2
  have hiX6 : ∀ w ∈ u_ws RX6 TX6 23, w ∈ wsX6_check := by decide +kernel
  have fl63 := hts (.fieldLink RX6 63 "ProofCheckerModel" "thrown" "I") (by decide +kernel)
  have hl : lv_has ls 1 [(0, .ref (β 0))] := hl
  suffices hgo : ∀ (H : Heap) (locs : List Loc), va_P D vwCl (wM cI β mT mW mH mS mR mL mC mZ mA mB KK KN KS KC AN JK JN JS JL MY KP FI TX) H → va_D A (wM cI β mT mW mH mS mR mL mC mZ mA mB KK KN KS KC AN JK JN JS JL MY KP FI TX) → va_S A s.heap H locs → W p l e rm_X6_check s m args below meth c H locs 0 0 (MQ below (kQi D A (wM cI β res.2.1 mW mH mS mR mL res.2.2.1 mZ mA mB KK KN KS KC AN JK JN JS JL res.2.2.2.1 res.2.2.2.2.1 res.2.2.2.2.2 TX) res.1) args s 0 0 A) (F0 m 0 ls []) from hgo _ _ hP hD hS
  clear hP hD hS
  intro H locs hP hD hS
  refine lv_aload_n hx hb dX6_check_0 rfl (lv_at hl 0 rfl) ?_
  refine lv_iconst (v := (0 : Int32)) hx hb dX6_check_1 (by decide) ?_
  refine va_put (D := D) (ci := 7) (v := .int (0 : Int32)) (ty := .int) (C := RX6) (T := TX6) (N := 23) hx hb hts hiX6 tyX6 tyX6_ok nmX6 hown hK hP hD hS 0 rfl rfl 0 (by decide) fl63 (fun _ h9 => h9) rfl (by decide +kernel) rfl rfl (Nat.le_of_ble_eq_true rfl) dX6_check_2 (fun H locs hP hD hS => ?_)
  have hP : va_P D vwCl (wM cI β (0 : Int32) mW mH mS mR mL mC mZ mA mB KK KN KS KC AN JK JN JS JL MY KP FI TX) H := hP
  have hD : va_D A (wM cI β (0 : Int32) mW mH mS mR mL mC mZ mA mB KK KN KS KC AN JK JN JS JL MY KP FI TX) := hD
  refine lv_aload_n hx hb dX6_check_5 rfl (lv_at hl 0 rfl) ?_
  obtain ⟨q1, hq1, hf⟩ := bnd hf
  refine kI_callV (As := []) (rest := []) S hP hD hS (c_X6_right l D cI β (0 : Int32) mW mH mS mR mL mC mZ mA mB KK KN KS KC AN JK JN JS JL MY KP FI TX F q1 hq1) (cwV 0 hts gX6_check_X6_right rfl rfl rfl (by decide +kernel) ⟨Nat.le_of_ble_eq_true rfl, Nat.le_of_ble_eq_true rfl⟩) 0 rfl rfl rfl hl.1 rfl (Nat.le_of_ble_eq_true rfl) dX6_check_6 ⟨Nat.zero_le _, Nat.zero_le _⟩ (fun H locs hP hD hS => ?_)
  have hP : va_P D vwCl (wM cI β (0 : Int32) mW mH mS mR mL q1.2.1 mZ mA mB KK KN KS KC AN JK JN JS JL q1.2.2.1 q1.2.2.2.1 q1.2.2.2.2 TX) H := hP
  have hD : va_D A (wM cI β (0 : Int32) mW mH mS mR mL q1.2.1 mZ mA mB KK KN KS KC AN JK JN JS JL q1.2.2.1 q1.2.2.2.1 q1.2.2.2.2 TX) := hD
  have e9 := Option.some.inj hf
  subst e9
  exact kI_ret S rfl hP hD hS dX6_check_9
abbrev rm_X6_proves : Room := { frames := 8, cells := 0, slots := 0, locals := 186 }
set_option maxHeartbeats 4000000 in
set_option maxRecDepth 100000 in
theorem c_X6_proves (l : Launch) (D : va_G) (cI : ClassId) (β : Nat → Nat) (mT mW mH mS mR mL mC mZ mA mB : Int32) (KK KN KS KC AN JK JN JS JL MY KP FI TX : Nat → Int32) (F : Nat)  (res : Int32 × Int32 × Int32 × (Nat → Int32) × (Nat → Int32) × (Nat → Int32)) (hf : f_X6_proves mW mH mS mR mL KK KN KS KC AN JK JN JS JL F mT mC MY KP FI = some res) : kI l yX6_proves wsX6_proves rm_X6_proves D cI [.ref (β 0)] (wM cI β mT mW mH mS mR mL mC mZ mA mB KK KN KS KC AN JK JN JS JL MY KP FI TX) (wM cI β res.2.1 mW mH mS mR mL res.2.2.1 mZ mA mB KK KN KS KC AN JK JN JS JL res.2.2.2.1 res.2.2.2.2.1 res.2.2.2.2.2 TX) res.1 := by
  unfold f_X6_proves at hf
  refine kI_of (cc := cX6_proves) (maxL := 2) (ret := (some .int)) (by decide +kernel) rfl (Nat.le_of_ble_eq_true rfl) ?_
  intro p e s m args below meth c A ls S hP hD hS hl
  have S : kC p s m args meth c cX6_proves 2 wsX6_proves RX6 (some .int) D cI A := S
  have hx := S.1.1
  have hb := S.1.2.1
  have hml := S.1.2.2.1
  have hown : s.vm.findClass RX6 = some m.cls := S.1.2.2.2.1
  have hts := S.1.2.2.2.2
  have hK := S.2.2.2.1
  have hnk := S.2.2.2.2.1.2
  have hiX6 : ∀ w ∈ u_ws RX6 TX6 23, w ∈ wsX6_proves := by decide +kernel
  have fl25 := hts (.fieldLink RX6 25 "ProofCheckerModel" "lineKind" "[I") (by decide +kernel)
  have fl31 := hts (.fieldLink RX6 31 "ProofCheckerModel" "lineSize" "[I") (by decide +kernel)
  have fl63 := hts (.fieldLink RX6 63 "ProofCheckerModel" "thrown" "I") (by decide +kernel)
  have fl107 := hts (.fieldLink RX6 107 "ProofCheckerModel" "lines" "I") (by decide +kernel)
  have hl : lv_has ls 2 [(0, .ref (β 0))] := hl
  have w41 : ∀ (n : Nat), ∀ (x1 : Int32) (mT : Int32) (mC : Int32) (MY : Nat → Int32) (KP : Nat → Int32) (FI : Nat → Int32) (H : Heap) (locs : List Loc) (ls : Array Slot), f_X6_proves_L41 mW mH mS mR mL KK KN KS KC AN JK JN JS JL F n x1 mT mC MY KP FI = some res → va_P D vwCl (wM cI β mT mW mH mS mR mL mC mZ mA mB KK KN KS KC AN JK JN JS JL MY KP FI TX) H → va_D A (wM cI β mT mW mH mS mR mL mC mZ mA mB KK KN KS KC AN JK JN JS JL MY KP FI TX) → va_S A s.heap H locs → lv_has ls 2 [(0, .ref (β 0)), (1, .int x1)] → W p l e rm_X6_proves s m args below meth c H locs 0 0 (MQ below (kQi D A (wM cI β res.2.1 mW mH mS mR mL res.2.2.1 mZ mA mB KK KN KS KC AN JK JN JS JL res.2.2.2.1 res.2.2.2.2.1 res.2.2.2.2.2 TX) res.1) args s 0 0 A) (F0 m 41 ls []) := by
    intro n
    induction n with
    | zero => intro x1 mT mC MY KP FI H locs ls hf; cases hf
    | succ n ih =>
      intro x1 mT mC MY KP FI H locs ls hf hP hD hS hl
      rw [f_X6_proves_L41.eq_2] at hf
      refine lv_iload_n hx hb dX6_proves_41 rfl (lv_at hl 1 rfl) ?_
      refine lv_aload_n hx hb dX6_proves_42 rfl (lv_at hl 0 rfl) ?_
      refine va_get (D := D) (ci := 7) (v := .int mL) (C := RX6) (T := TX6) (N := 23) hx hb hts hiX6 hown hK hP 0 rfl rfl 10 (by decide) fl107 (fun _ h9 => h9) rfl dX6_proves_43 ?_
      refine lv_icmp_ge (tgt := 67) hx hb dX6_proves_46 (by decide) (fun c6 => ?_) (fun c6 => ?_)
      · have hf := it_t c6 hf
        refine lv_iconst (v := (1 : Int32)) hx hb dX6_proves_67 (by decide) ?_
        have e9 := Option.some.inj hf
        subst e9
        exact kI_ret S rfl hP hD hS dX6_proves_68
      · have hf := it_f c6 hf
        refine lv_aload_n hx hb dX6_proves_49 rfl (lv_at hl 0 rfl) ?_
        refine va_get (D := D) (ci := 7) (v := .ref (β 6)) (C := RX6) (T := TX6) (N := 23) hx hb hts hiX6 hown hK hP 0 rfl rfl 11 (by decide) fl25 (fun _ h9 => h9) rfl dX6_proves_50 ?_
        refine lv_iload_n hx hb dX6_proves_53 rfl (lv_at hl 1 rfl) ?_
        obtain ⟨g7, hf⟩ := gin_some hf
        refine va_iald hx hb hK hP 6 0 rfl rfl g7 dX6_proves_54 ?_
        refine lv_iconst (v := (3 : Int32)) hx hb dX6_proves_55 (by decide) ?_
        refine lv_icmp_ne (tgt := 61) hx hb dX6_proves_56 (by decide) (fun c8 => ?_) (fun c8 => ?_)
        · have hf := it_t c8 hf
          refine lv_iinc (v := (x1 + (1 : Int32))) (lv' := [(1, .int (x1 + (1 : Int32))), (0, .ref (β 0))]) hx hb dX6_proves_61 hl (k := 1) rfl rfl (by decide) rfl (fun ls hl => ?_)
          refine lv_goto (tgt := 41) hx hb dX6_proves_64 (by decide) ?_
          exact ih _ _ _ _ _ _ H locs ls hf hP hD hS (lv_sub hl [1, 0] rfl)
        · have hf := it_f (fun h9 => h9 c8) hf
          refine lv_iconst (v := (2 : Int32)) hx hb dX6_proves_59 (by decide) ?_
          have e9 := Option.some.inj hf
          subst e9
          exact kI_ret S rfl hP hD hS dX6_proves_60
  suffices hgo : ∀ (H : Heap) (locs : List Loc), va_P D vwCl (wM cI β mT mW mH mS mR mL mC mZ mA mB KK KN KS KC AN JK JN JS JL MY KP FI TX) H → va_D A (wM cI β mT mW mH mS mR mL mC mZ mA mB KK KN KS KC AN JK JN JS JL MY KP FI TX) → va_S A s.heap H locs → W p l e rm_X6_proves s m args below meth c H locs 0 0 (MQ below (kQi D A (wM cI β res.2.1 mW mH mS mR mL res.2.2.1 mZ mA mB KK KN KS KC AN JK JN JS JL res.2.2.2.1 res.2.2.2.2.1 res.2.2.2.2.2 TX) res.1) args s 0 0 A) (F0 m 0 ls []) from hgo _ _ hP hD hS
  clear hP hD hS
  intro H locs hP hD hS
  refine lv_aload_n hx hb dX6_proves_0 rfl (lv_at hl 0 rfl) ?_
  refine lv_iconst (v := (0 : Int32)) hx hb dX6_proves_1 (by decide) ?_
  refine va_put (D := D) (ci := 7) (v := .int (0 : Int32)) (ty := .int) (C := RX6) (T := TX6) (N := 23) hx hb hts hiX6 tyX6 tyX6_ok nmX6 hown hK hP hD hS 0 rfl rfl 0 (by decide) fl63 (fun _ h9 => h9) rfl (by decide +kernel) rfl rfl (Nat.le_of_ble_eq_true rfl) dX6_proves_2 (fun H locs hP hD hS => ?_)
  have hP : va_P D vwCl (wM cI β (0 : Int32) mW mH mS mR mL mC mZ mA mB KK KN KS KC AN JK JN JS JL MY KP FI TX) H := hP
  have hD : va_D A (wM cI β (0 : Int32) mW mH mS mR mL mC mZ mA mB KK KN KS KC AN JK JN JS JL MY KP FI TX) := hD
  refine lv_aload_n hx hb dX6_proves_5 rfl (lv_at hl 0 rfl) ?_
  refine va_get (D := D) (ci := 7) (v := .int mL) (C := RX6) (T := TX6) (N := 23) hx hb hts hiX6 hown hK hP 0 rfl rfl 10 (by decide) fl107 (fun _ h9 => h9) rfl dX6_proves_6 ?_
  refine lv_if_eq (tgt := 37) hx hb dX6_proves_9 (by decide) (fun c1 => ?_) (fun c1 => ?_)
  · have hf := it_t c1 hf
    refine lv_iconst (v := (0 : Int32)) hx hb dX6_proves_37 (by decide) ?_
    have e9 := Option.some.inj hf
    subst e9
    exact kI_ret S rfl hP hD hS dX6_proves_38
  · have hf := it_f c1 hf
    refine lv_aload_n hx hb dX6_proves_12 rfl (lv_at hl 0 rfl) ?_
    refine va_get (D := D) (ci := 7) (v := .ref (β 8)) (C := RX6) (T := TX6) (N := 23) hx hb hts hiX6 hown hK hP 0 rfl rfl 13 (by decide) fl31 (fun _ h9 => h9) rfl dX6_proves_13 ?_
    refine lv_aload_n hx hb dX6_proves_16 rfl (lv_at hl 0 rfl) ?_
    refine va_get (D := D) (ci := 7) (v := .int mL) (C := RX6) (T := TX6) (N := 23) hx hb hts hiX6 hown hK hP 0 rfl rfl 10 (by decide) fl107 (fun _ h9 => h9) rfl dX6_proves_17 ?_
    refine lv_iconst (v := (1 : Int32)) hx hb dX6_proves_20 (by decide) ?_
    refine lv_isub hx hb dX6_proves_21 ?_
    obtain ⟨g2, hf⟩ := gin_some hf
    refine va_iald hx hb hK hP 8 0 rfl rfl g2 dX6_proves_22 ?_
    refine lv_if_gt (tgt := 37) hx hb dX6_proves_23 (by decide) (fun c3 => ?_) (fun c3 => ?_)
    · have hf := it_t c3 hf
      refine lv_iconst (v := (0 : Int32)) hx hb dX6_proves_37 (by decide) ?_
      have e9 := Option.some.inj hf
      subst e9
      exact kI_ret S rfl hP hD hS dX6_proves_38
    · have hf := it_f c3 hf
      refine lv_aload_n hx hb dX6_proves_26 rfl (lv_at hl 0 rfl) ?_
      obtain ⟨q4, hq4, hf⟩ := bnd hf
      refine kI_callV (As := []) (rest := []) S hP hD hS (c_X6_right l D cI β (0 : Int32) mW mH mS mR mL mC mZ mA mB KK KN KS KC AN JK JN JS JL MY KP FI TX F q4 hq4) (cwV 0 hts gX6_proves_X6_right rfl rfl rfl (by decide +kernel) ⟨Nat.le_of_ble_eq_true rfl, Nat.le_of_ble_eq_true rfl⟩) 0 rfl rfl rfl hl.1 rfl (Nat.le_of_ble_eq_true rfl) dX6_proves_27 ⟨Nat.zero_le _, Nat.zero_le _⟩ (fun H locs hP hD hS => ?_)
      have hP : va_P D vwCl (wM cI β (0 : Int32) mW mH mS mR mL q4.2.1 mZ mA mB KK KN KS KC AN JK JN JS JL q4.2.2.1 q4.2.2.2.1 q4.2.2.2.2 TX) H := hP
      have hD : va_D A (wM cI β (0 : Int32) mW mH mS mR mL q4.2.1 mZ mA mB KK KN KS KC AN JK JN JS JL q4.2.2.1 q4.2.2.2.1 q4.2.2.2.2 TX) := hD
      refine lv_aload_n hx hb dX6_proves_30 rfl (lv_at hl 0 rfl) ?_
      refine va_get (D := D) (ci := 7) (v := .int mL) (C := RX6) (T := TX6) (N := 23) hx hb hts hiX6 hown hK hP 0 rfl rfl 10 (by decide) fl107 (fun _ h9 => h9) rfl dX6_proves_31 ?_
      refine lv_icmp_ge (tgt := 39) hx hb dX6_proves_34 (by decide) (fun c5 => ?_) (fun c5 => ?_)
      · have hf := it_t c5 hf
        refine lv_iconst (v := (0 : Int32)) hx hb dX6_proves_39 (by decide) ?_
        refine lv_istore_n (lv' := [(1, .int (0 : Int32)), (0, .ref (β 0))]) hx hb dX6_proves_40 rfl hl (by decide) rfl (fun ls hl => ?_)
        exact w41 F _ _ _ _ _ _ H locs ls hf hP hD hS (lv_sub hl [1, 0] rfl)
      · have hf := it_f c5 hf
        refine lv_iconst (v := (0 : Int32)) hx hb dX6_proves_37 (by decide) ?_
        have e9 := Option.some.inj hf
        subst e9
        exact kI_ret S rfl hP hD hS dX6_proves_38
abbrev rm_X6_tell : Room := { frames := 1, cells := 0, slots := 0, locals := 22 }
set_option maxHeartbeats 4000000 in
set_option maxRecDepth 100000 in
theorem c_X6_tell (l : Launch) (D : va_G) (cI : ClassId) (β : Nat → Nat) (mT mW mH mS mR mL mC mZ mA mB : Int32) (KK KN KS KC AN JK JN JS JL MY KP FI TX : Nat → Int32) (x1 : Int32) (x2 : Int32) (res : Int32 × Int32) (hf : f_X6_tell mL JK JN JS JL mT x1 x2 = some res) : kI l yX6_tell wsX6_tell rm_X6_tell D cI [.ref (β 0), .int x1, .int x2] (wM cI β mT mW mH mS mR mL mC mZ mA mB KK KN KS KC AN JK JN JS JL MY KP FI TX) (wM cI β res.2 mW mH mS mR mL mC mZ mA mB KK KN KS KC AN JK JN JS JL MY KP FI TX) res.1 := by
  unfold f_X6_tell at hf
  refine kI_of (cc := cX6_tell) (maxL := 3) (ret := (some .int)) (by decide +kernel) rfl (Nat.le_of_ble_eq_true rfl) ?_
  intro p e s m args below meth c A ls S hP hD hS hl
  have S : kC p s m args meth c cX6_tell 3 wsX6_tell RX6 (some .int) D cI A := S
  have hx := S.1.1
  have hb := S.1.2.1
  have hml := S.1.2.2.1
  have hown : s.vm.findClass RX6 = some m.cls := S.1.2.2.2.1
  have hts := S.1.2.2.2.2
  have hK := S.2.2.2.1
  have hnk := S.2.2.2.2.1.2
  have hiX6 : ∀ w ∈ u_ws RX6 TX6 23, w ∈ wsX6_tell := by decide +kernel
  have fl25 := hts (.fieldLink RX6 25 "ProofCheckerModel" "lineKind" "[I") (by decide +kernel)
  have fl28 := hts (.fieldLink RX6 28 "ProofCheckerModel" "lineNumber" "[I") (by decide +kernel)
  have fl31 := hts (.fieldLink RX6 31 "ProofCheckerModel" "lineSize" "[I") (by decide +kernel)
  have fl34 := hts (.fieldLink RX6 34 "ProofCheckerModel" "literal" "[I") (by decide +kernel)
  have fl107 := hts (.fieldLink RX6 107 "ProofCheckerModel" "lines" "I") (by decide +kernel)
  have hl : lv_has ls 3 [(0, .ref (β 0)), (1, .int x1), (2, .int x2)] := hl
  have w19 : ∀ (t1 : Int32) (t2 : Int32) (x1 : Int32) (x2 : Int32) (mT : Int32) (H : Heap) (locs : List Loc) (ls : Array Slot), f_X6_tell_J19 mL JK JN JS JL t1 t2 x1 x2 mT = some res → va_P D vwCl (wM cI β mT mW mH mS mR mL mC mZ mA mB KK KN KS KC AN JK JN JS JL MY KP FI TX) H → va_D A (wM cI β mT mW mH mS mR mL mC mZ mA mB KK KN KS KC AN JK JN JS JL MY KP FI TX) → va_S A s.heap H locs → lv_has ls 3 [(0, .ref (β 0)), (1, .int x1), (2, .int x2)] → W p l e rm_X6_tell s m args below meth c H locs 0 0 (MQ below (kQi D A (wM cI β res.2 mW mH mS mR mL mC mZ mA mB KK KN KS KC AN JK JN JS JL MY KP FI TX) res.1) args s 0 0 A) (F0 m 19 ls [.int t2, .int t1, .ref (β 0)]) := by
    intro t1 t2 x1 x2 mT H locs ls hf hP hD hS hl
    unfold f_X6_tell_J19 at hf
    obtain ⟨q3, hq3, hf⟩ := bnd hf
    refine kI_callV (As := [.int t1, .int t2]) (rest := []) S hP hD hS (c_X6_throwsIf l D cI β mT mW mH mS mR mL mC mZ mA mB KK KN KS KC AN JK JN JS JL MY KP FI TX t1 t2 q3 hq3) (cwV 2 hts gX6_tell_X6_throwsIf rfl rfl rfl (by decide +kernel) ⟨Nat.le_of_ble_eq_true rfl, Nat.le_of_ble_eq_true rfl⟩) 0 rfl rfl rfl hl.1 rfl (Nat.le_of_ble_eq_true rfl) dX6_tell_19 ⟨Nat.zero_le _, Nat.zero_le _⟩ (fun H locs hP hD hS => ?_)
    have hP : va_P D vwCl (wM cI β q3.2 mW mH mS mR mL mC mZ mA mB KK KN KS KC AN JK JN JS JL MY KP FI TX) H := hP
    have hD : va_D A (wM cI β q3.2 mW mH mS mR mL mC mZ mA mB KK KN KS KC AN JK JN JS JL MY KP FI TX) := hD
    refine lv_if_eq (tgt := 27) hx hb dX6_tell_22 (by decide) (fun c4 => ?_) (fun c4 => ?_)
    · have hf := it_t c4 hf
      refine lv_iload_n hx hb dX6_tell_27 rfl (lv_at hl 2 rfl) ?_
      refine lv_iconst (v := (3 : Int32)) hx hb dX6_tell_28 (by decide) ?_
      refine lv_icmp_ge (tgt := 75) hx hb dX6_tell_29 (by decide) (fun c5 => ?_) (fun c5 => ?_)
      · have hf := it_t c5 hf
        refine lv_iload_n hx hb dX6_tell_75 rfl (lv_at hl 2 rfl) ?_
        refine lv_iconst (v := (3 : Int32)) hx hb dX6_tell_76 (by decide) ?_
        refine lv_isub hx hb dX6_tell_77 ?_
        refine lv_aload_n hx hb dX6_tell_78 rfl (lv_at hl 0 rfl) ?_
        refine va_get (D := D) (ci := 7) (v := .ref (β 8)) (C := RX6) (T := TX6) (N := 23) hx hb hts hiX6 hown hK hP 0 rfl rfl 13 (by decide) fl31 (fun _ h9 => h9) rfl dX6_tell_79 ?_
        refine lv_iload_n hx hb dX6_tell_82 rfl (lv_at hl 1 rfl) ?_
        obtain ⟨g6, hf⟩ := gin_some hf
        refine va_iald hx hb hK hP 8 0 rfl rfl g6 dX6_tell_83 ?_
        refine lv_icmp_ge (tgt := 103) hx hb dX6_tell_84 (by decide) (fun c7 => ?_) (fun c7 => ?_)
        · have hf := it_t c7 hf
          refine lv_iconst (v := (-1 : Int32)) hx hb dX6_tell_103 (by decide) ?_
          have e9 := Option.some.inj hf
          subst e9
          exact kI_ret S rfl hP hD hS dX6_tell_104
        · have hf := it_f c7 hf
          refine lv_aload_n hx hb dX6_tell_87 rfl (lv_at hl 0 rfl) ?_
          refine va_get (D := D) (ci := 7) (v := .ref (β 9)) (C := RX6) (T := TX6) (N := 23) hx hb hts hiX6 hown hK hP 0 rfl rfl 14 (by decide) fl34 (fun _ h9 => h9) rfl dX6_tell_88 ?_
          refine lv_bipush (v := (16 : Int32)) hx hb dX6_tell_91 (by decide) ?_
          refine lv_iload_n hx hb dX6_tell_93 rfl (lv_at hl 1 rfl) ?_
          refine lv_imul hx hb dX6_tell_94 ?_
          refine lv_iload_n hx hb dX6_tell_95 rfl (lv_at hl 2 rfl) ?_
          refine lv_iadd hx hb dX6_tell_96 ?_
          refine lv_iconst (v := (3 : Int32)) hx hb dX6_tell_97 (by decide) ?_
          refine lv_isub hx hb dX6_tell_98 ?_
          obtain ⟨g8, hf⟩ := gin_some hf
          refine va_iald hx hb hK hP 9 0 rfl rfl g8 dX6_tell_99 ?_
          refine lv_goto (tgt := 104) hx hb dX6_tell_100 (by decide) ?_
          have e9 := Option.some.inj hf
          subst e9
          exact kI_ret S rfl hP hD hS dX6_tell_104
      · have hf := it_f c5 hf
        refine lv_iload_n hx hb dX6_tell_32 rfl (lv_at hl 2 rfl) ?_
        refine lv_if_ne (tgt := 45) hx hb dX6_tell_33 (by decide) (fun c9 => ?_) (fun c9 => ?_)
        · have hf := it_t c9 hf
          refine lv_iload_n hx hb dX6_tell_45 rfl (lv_at hl 2 rfl) ?_
          refine lv_iconst (v := (1 : Int32)) hx hb dX6_tell_46 (by decide) ?_
          refine lv_icmp_ne (tgt := 59) hx hb dX6_tell_47 (by decide) (fun c10 => ?_) (fun c10 => ?_)
          · have hf := it_t c10 hf
            refine lv_iload_n hx hb dX6_tell_59 rfl (lv_at hl 2 rfl) ?_
            refine lv_iconst (v := (2 : Int32)) hx hb dX6_tell_60 (by decide) ?_
            refine lv_icmp_ne (tgt := 73) hx hb dX6_tell_61 (by decide) (fun c11 => ?_) (fun c11 => ?_)
            · have hf := it_t c11 hf
              refine lv_iconst (v := (-1 : Int32)) hx hb dX6_tell_73 (by decide) ?_
              have e9 := Option.some.inj hf
              subst e9
              exact kI_ret S rfl hP hD hS dX6_tell_74
            · have hf := it_f (fun h9 => h9 c11) hf
              refine lv_aload_n hx hb dX6_tell_64 rfl (lv_at hl 0 rfl) ?_
              refine va_get (D := D) (ci := 7) (v := .ref (β 8)) (C := RX6) (T := TX6) (N := 23) hx hb hts hiX6 hown hK hP 0 rfl rfl 13 (by decide) fl31 (fun _ h9 => h9) rfl dX6_tell_65 ?_
              refine lv_iload_n hx hb dX6_tell_68 rfl (lv_at hl 1 rfl) ?_
              obtain ⟨g12, hf⟩ := gin_some hf
              refine va_iald hx hb hK hP 8 0 rfl rfl g12 dX6_tell_69 ?_
              refine lv_goto (tgt := 74) hx hb dX6_tell_70 (by decide) ?_
              have e9 := Option.some.inj hf
              subst e9
              exact kI_ret S rfl hP hD hS dX6_tell_74
          · have hf := it_f (fun h9 => h9 c10) hf
            refine lv_aload_n hx hb dX6_tell_50 rfl (lv_at hl 0 rfl) ?_
            refine va_get (D := D) (ci := 7) (v := .ref (β 7)) (C := RX6) (T := TX6) (N := 23) hx hb hts hiX6 hown hK hP 0 rfl rfl 12 (by decide) fl28 (fun _ h9 => h9) rfl dX6_tell_51 ?_
            refine lv_iload_n hx hb dX6_tell_54 rfl (lv_at hl 1 rfl) ?_
            obtain ⟨g13, hf⟩ := gin_some hf
            refine va_iald hx hb hK hP 7 0 rfl rfl g13 dX6_tell_55 ?_
            refine lv_goto (tgt := 74) hx hb dX6_tell_56 (by decide) ?_
            have e9 := Option.some.inj hf
            subst e9
            exact kI_ret S rfl hP hD hS dX6_tell_74
        · have hf := it_f (fun h9 => h9 c9) hf
          refine lv_aload_n hx hb dX6_tell_36 rfl (lv_at hl 0 rfl) ?_
          refine va_get (D := D) (ci := 7) (v := .ref (β 6)) (C := RX6) (T := TX6) (N := 23) hx hb hts hiX6 hown hK hP 0 rfl rfl 11 (by decide) fl25 (fun _ h9 => h9) rfl dX6_tell_37 ?_
          refine lv_iload_n hx hb dX6_tell_40 rfl (lv_at hl 1 rfl) ?_
          obtain ⟨g14, hf⟩ := gin_some hf
          refine va_iald hx hb hK hP 6 0 rfl rfl g14 dX6_tell_41 ?_
          refine lv_goto (tgt := 74) hx hb dX6_tell_42 (by decide) ?_
          have e9 := Option.some.inj hf
          subst e9
          exact kI_ret S rfl hP hD hS dX6_tell_74
    · have hf := it_f c4 hf
      refine lv_iconst (v := (0 : Int32)) hx hb dX6_tell_25 (by decide) ?_
      have e9 := Option.some.inj hf
      subst e9
      exact kI_ret S rfl hP hD hS dX6_tell_26
  have w14 : ∀ (t1 : Int32) (x1 : Int32) (x2 : Int32) (mT : Int32) (H : Heap) (locs : List Loc) (ls : Array Slot), f_X6_tell_J14 mL JK JN JS JL t1 x1 x2 mT = some res → va_P D vwCl (wM cI β mT mW mH mS mR mL mC mZ mA mB KK KN KS KC AN JK JN JS JL MY KP FI TX) H → va_D A (wM cI β mT mW mH mS mR mL mC mZ mA mB KK KN KS KC AN JK JN JS JL MY KP FI TX) → va_S A s.heap H locs → lv_has ls 3 [(0, .ref (β 0)), (1, .int x1), (2, .int x2)] → W p l e rm_X6_tell s m args below meth c H locs 0 0 (MQ below (kQi D A (wM cI β res.2 mW mH mS mR mL mC mZ mA mB KK KN KS KC AN JK JN JS JL MY KP FI TX) res.1) args s 0 0 A) (F0 m 14 ls [.int t1, .ref (β 0)]) := by
    intro t1 x1 x2 mT H locs ls hf hP hD hS hl
    unfold f_X6_tell_J14 at hf
    refine lv_iconst (v := (1 : Int32)) hx hb dX6_tell_14 (by decide) ?_
    refine lv_goto (tgt := 19) hx hb dX6_tell_15 (by decide) ?_
    exact w19 _ _ _ _ _ H locs ls hf hP hD hS (lv_sub hl [0, 1, 2] rfl)
  suffices hgo : ∀ (H : Heap) (locs : List Loc), va_P D vwCl (wM cI β mT mW mH mS mR mL mC mZ mA mB KK KN KS KC AN JK JN JS JL MY KP FI TX) H → va_D A (wM cI β mT mW mH mS mR mL mC mZ mA mB KK KN KS KC AN JK JN JS JL MY KP FI TX) → va_S A s.heap H locs → W p l e rm_X6_tell s m args below meth c H locs 0 0 (MQ below (kQi D A (wM cI β res.2 mW mH mS mR mL mC mZ mA mB KK KN KS KC AN JK JN JS JL MY KP FI TX) res.1) args s 0 0 A) (F0 m 0 ls []) from hgo _ _ hP hD hS
  clear hP hD hS
  intro H locs hP hD hS
  refine lv_aload_n hx hb dX6_tell_0 rfl (lv_at hl 0 rfl) ?_
  refine lv_iconst (v := (1 : Int32)) hx hb dX6_tell_1 (by decide) ?_
  refine lv_iload_n hx hb dX6_tell_2 rfl (lv_at hl 1 rfl) ?_
  refine lv_if_lt (tgt := 14) hx hb dX6_tell_3 (by decide) (fun c1 => ?_) (fun c1 => ?_)
  · have hf := it_t c1 hf
    exact w14 _ _ _ _ H locs ls hf hP hD hS (lv_sub hl [0, 1, 2] rfl)
  · have hf := it_f c1 hf
    refine lv_iload_n hx hb dX6_tell_6 rfl (lv_at hl 1 rfl) ?_
    refine lv_aload_n hx hb dX6_tell_7 rfl (lv_at hl 0 rfl) ?_
    refine va_get (D := D) (ci := 7) (v := .int mL) (C := RX6) (T := TX6) (N := 23) hx hb hts hiX6 hown hK hP 0 rfl rfl 10 (by decide) fl107 (fun _ h9 => h9) rfl dX6_tell_8 ?_
    refine lv_icmp_lt (tgt := 18) hx hb dX6_tell_11 (by decide) (fun c2 => ?_) (fun c2 => ?_)
    · have hf := it_t c2 hf
      refine lv_iconst (v := (0 : Int32)) hx hb dX6_tell_18 (by decide) ?_
      exact w19 _ _ _ _ _ H locs ls hf hP hD hS (lv_sub hl [0, 1, 2] rfl)
    · have hf := it_f c2 hf
      exact w14 _ _ _ _ H locs ls hf hP hD hS (lv_sub hl [0, 1, 2] rfl)
abbrev rm_X6_may : Room := { frames := 3, cells := 0, slots := 0, locals := 73 }
set_option maxHeartbeats 4000000 in
set_option maxRecDepth 100000 in
theorem c_X6_may (l : Launch) (D : va_G) (cI : ClassId) (β : Nat → Nat) (mT mW mH mS mR mL mC mZ mA mB : Int32) (KK KN KS KC AN JK JN JS JL MY KP FI TX : Nat → Int32) (F : Nat) (x1 : Int32) (res : Int32 × Int32 × Int32 × (Nat → Int32)) (hf : f_X6_may mW mH mS mL JS JL F mT mC MY x1 = some res) : kI l yX6_may wsX6_may rm_X6_may D cI [.ref (β 0), .int x1] (wM cI β mT mW mH mS mR mL mC mZ mA mB KK KN KS KC AN JK JN JS JL MY KP FI TX) (wM cI β res.2.1 mW mH mS mR mL res.2.2.1 mZ mA mB KK KN KS KC AN JK JN JS JL res.2.2.2 KP FI TX) res.1 := by
  unfold f_X6_may at hf
  refine kI_of (cc := cX6_may) (maxL := 2) (ret := (some .int)) (by decide +kernel) rfl (Nat.le_of_ble_eq_true rfl) ?_
  intro p e s m args below meth c A ls S hP hD hS hl
  have S : kC p s m args meth c cX6_may 2 wsX6_may RX6 (some .int) D cI A := S
  have hx := S.1.1
  have hb := S.1.2.1
  have hml := S.1.2.2.1
  have hown : s.vm.findClass RX6 = some m.cls := S.1.2.2.2.1
  have hts := S.1.2.2.2.2
  have hK := S.2.2.2.1
  have hnk := S.2.2.2.2.1.2
  have hiX6 : ∀ w ∈ u_ws RX6 TX6 23, w ∈ wsX6_may := by decide +kernel
  have fl37 := hts (.fieldLink RX6 37 "ProofCheckerModel" "may" "[I") (by decide +kernel)
  have fl107 := hts (.fieldLink RX6 107 "ProofCheckerModel" "lines" "I") (by decide +kernel)
  have fl134 := hts (.fieldLink RX6 134 "ProofCheckerModel" "cannot" "Z") (by decide +kernel)
  have hl : lv_has ls 2 [(0, .ref (β 0)), (1, .int x1)] := hl
  have w15 : ∀ (t1 : Int32) (t2 : Int32) (x1 : Int32) (mT : Int32) (mC : Int32) (MY : Nat → Int32) (H : Heap) (locs : List Loc) (ls : Array Slot), f_X6_may_J15 mW mH mS mL JS JL F t1 t2 x1 mT mC MY = some res → va_P D vwCl (wM cI β mT mW mH mS mR mL mC mZ mA mB KK KN KS KC AN JK JN JS JL MY KP FI TX) H → va_D A (wM cI β mT mW mH mS mR mL mC mZ mA mB KK KN KS KC AN JK JN JS JL MY KP FI TX) → va_S A s.heap H locs → lv_has ls 2 [(0, .ref (β 0)), (1, .int x1)] → W p l e rm_X6_may s m args below meth c H locs 0 0 (MQ below (kQi D A (wM cI β res.2.1 mW mH mS mR mL res.2.2.1 mZ mA mB KK KN KS KC AN JK JN JS JL res.2.2.2 KP FI TX) res.1) args s 0 0 A) (F0 m 15 ls [.int t2, .int t1, .ref (β 0)]) := by
    intro t1 t2 x1 mT mC MY H locs ls hf hP hD hS hl
    unfold f_X6_may_J15 at hf
    obtain ⟨q3, hq3, hf⟩ := bnd hf
    refine kI_callV (As := [.int t1, .int t2]) (rest := []) S hP hD hS (c_X6_throwsIf l D cI β mT mW mH mS mR mL mC mZ mA mB KK KN KS KC AN JK JN JS JL MY KP FI TX t1 t2 q3 hq3) (cwV 2 hts gX6_may_X6_throwsIf rfl rfl rfl (by decide +kernel) ⟨Nat.le_of_ble_eq_true rfl, Nat.le_of_ble_eq_true rfl⟩) 0 rfl rfl rfl hl.1 rfl (Nat.le_of_ble_eq_true rfl) dX6_may_15 ⟨Nat.zero_le _, Nat.zero_le _⟩ (fun H locs hP hD hS => ?_)
    have hP : va_P D vwCl (wM cI β q3.2 mW mH mS mR mL mC mZ mA mB KK KN KS KC AN JK JN JS JL MY KP FI TX) H := hP
    have hD : va_D A (wM cI β q3.2 mW mH mS mR mL mC mZ mA mB KK KN KS KC AN JK JN JS JL MY KP FI TX) := hD
    refine lv_if_eq (tgt := 23) hx hb dX6_may_18 (by decide) (fun c4 => ?_) (fun c4 => ?_)
    · have hf := it_t c4 hf
      refine lv_aload_n hx hb dX6_may_23 rfl (lv_at hl 0 rfl) ?_
      obtain ⟨q5, hq5, hf⟩ := bnd hf
      refine kV_callV (As := []) (rest := []) S hP hD hS (c_X6_all l D cI β q3.2 mW mH mS mR mL mC mZ mA mB KK KN KS KC AN JK JN JS JL MY KP FI TX F q5 hq5) (cwV 0 hts gX6_may_X6_all rfl rfl rfl (by decide +kernel) ⟨Nat.le_of_ble_eq_true rfl, Nat.le_of_ble_eq_true rfl⟩) 0 rfl rfl rfl hl.1 rfl (Nat.le_of_ble_eq_true rfl) dX6_may_24 ⟨Nat.zero_le _, Nat.zero_le _⟩ (fun H locs hP hD hS => ?_)
      have hP : va_P D vwCl (wM cI β q3.2 mW mH mS mR mL q5.1 mZ mA mB KK KN KS KC AN JK JN JS JL q5.2 KP FI TX) H := hP
      have hD : va_D A (wM cI β q3.2 mW mH mS mR mL q5.1 mZ mA mB KK KN KS KC AN JK JN JS JL q5.2 KP FI TX) := hD
      refine lv_aload_n hx hb dX6_may_27 rfl (lv_at hl 0 rfl) ?_
      refine lv_aload_n hx hb dX6_may_28 rfl (lv_at hl 0 rfl) ?_
      refine va_get (D := D) (ci := 7) (v := .int mL) (C := RX6) (T := TX6) (N := 23) hx hb hts hiX6 hown hK hP 0 rfl rfl 10 (by decide) fl107 (fun _ h9 => h9) rfl dX6_may_29 ?_
      obtain ⟨q6, hq6, hf⟩ := bnd hf
      refine kV_callV (As := [.int mL]) (rest := []) S hP hD hS (c_X6_units l D cI β q3.2 mW mH mS mR mL q5.1 mZ mA mB KK KN KS KC AN JK JN JS JL q5.2 KP FI TX F mL q6 hq6) (cwV 1 hts gX6_may_X6_units rfl rfl rfl (by decide +kernel) ⟨Nat.le_of_ble_eq_true rfl, Nat.le_of_ble_eq_true rfl⟩) 0 rfl rfl rfl hl.1 rfl (Nat.le_of_ble_eq_true rfl) dX6_may_32 ⟨Nat.zero_le _, Nat.zero_le _⟩ (fun H locs hP hD hS => ?_)
      have hP : va_P D vwCl (wM cI β q3.2 mW mH mS mR mL q6.1 mZ mA mB KK KN KS KC AN JK JN JS JL q6.2 KP FI TX) H := hP
      have hD : va_D A (wM cI β q3.2 mW mH mS mR mL q6.1 mZ mA mB KK KN KS KC AN JK JN JS JL q6.2 KP FI TX) := hD
      refine lv_aload_n hx hb dX6_may_35 rfl (lv_at hl 0 rfl) ?_
      refine va_get (D := D) (ci := 7) (v := .int q6.1) (C := RX6) (T := TX6) (N := 23) hx hb hts hiX6 hown hK hP 0 rfl rfl 17 (by decide) fl134 (fun _ h9 => h9) rfl dX6_may_36 ?_
      refine lv_if_eq (tgt := 46) hx hb dX6_may_39 (by decide) (fun c7 => ?_) (fun c7 => ?_)
      · have hf := it_t c7 hf
        refine lv_aload_n hx hb dX6_may_46 rfl (lv_at hl 0 rfl) ?_
        refine va_get (D := D) (ci := 7) (v := .ref (β 10)) (C := RX6) (T := TX6) (N := 23) hx hb hts hiX6 hown hK hP 0 rfl rfl 15 (by decide) fl37 (fun _ h9 => h9) rfl dX6_may_47 ?_
        refine lv_iload_n hx hb dX6_may_50 rfl (lv_at hl 1 rfl) ?_
        obtain ⟨g8, hf⟩ := gin_some hf
        refine va_iald hx hb hK hP 10 0 rfl rfl g8 dX6_may_51 ?_
        have e9 := Option.some.inj hf
        subst e9
        exact kI_ret S rfl hP hD hS dX6_may_52
      · have hf := it_f c7 hf
        refine lv_iconst (v := (0 : Int32)) hx hb dX6_may_42 (by decide) ?_
        refine lv_goto (tgt := 52) hx hb dX6_may_43 (by decide) ?_
        have e9 := Option.some.inj hf
        subst e9
        exact kI_ret S rfl hP hD hS dX6_may_52
    · have hf := it_f c4 hf
      refine lv_iconst (v := (0 : Int32)) hx hb dX6_may_21 (by decide) ?_
      have e9 := Option.some.inj hf
      subst e9
      exact kI_ret S rfl hP hD hS dX6_may_22
  suffices hgo : ∀ (H : Heap) (locs : List Loc), va_P D vwCl (wM cI β mT mW mH mS mR mL mC mZ mA mB KK KN KS KC AN JK JN JS JL MY KP FI TX) H → va_D A (wM cI β mT mW mH mS mR mL mC mZ mA mB KK KN KS KC AN JK JN JS JL MY KP FI TX) → va_S A s.heap H locs → W p l e rm_X6_may s m args below meth c H locs 0 0 (MQ below (kQi D A (wM cI β res.2.1 mW mH mS mR mL res.2.2.1 mZ mA mB KK KN KS KC AN JK JN JS JL res.2.2.2 KP FI TX) res.1) args s 0 0 A) (F0 m 0 ls []) from hgo _ _ hP hD hS
  clear hP hD hS
  intro H locs hP hD hS
  refine lv_aload_n hx hb dX6_may_0 rfl (lv_at hl 0 rfl) ?_
  refine lv_iconst (v := (1 : Int32)) hx hb dX6_may_1 (by decide) ?_
  refine lv_aload_n hx hb dX6_may_2 rfl (lv_at hl 0 rfl) ?_
  refine lv_iload_n hx hb dX6_may_3 rfl (lv_at hl 1 rfl) ?_
  obtain ⟨q1, hq1, hf⟩ := bnd hf
  refine kI_callV (As := [.int x1]) (rest := [.int (1 : Int32), .ref (β 0)]) S hP hD hS (c_X6_isCell l D cI β mT mW mH mS mR mL mC mZ mA mB KK KN KS KC AN JK JN JS JL MY KP FI TX x1 q1 hq1) (cwV 1 hts gX6_may_X6_isCell rfl rfl rfl (by decide +kernel) ⟨Nat.le_of_ble_eq_true rfl, Nat.le_of_ble_eq_true rfl⟩) 0 rfl rfl rfl hl.1 rfl (Nat.le_of_ble_eq_true rfl) dX6_may_4 ⟨Nat.zero_le _, Nat.zero_le _⟩ (fun H locs hP hD hS => ?_)
  have hP : va_P D vwCl (wM cI β mT mW mH mS mR mL mC mZ mA mB KK KN KS KC AN JK JN JS JL MY KP FI TX) H := hP
  have hD : va_D A (wM cI β mT mW mH mS mR mL mC mZ mA mB KK KN KS KC AN JK JN JS JL MY KP FI TX) := hD
  refine lv_if_ne (tgt := 14) hx hb dX6_may_7 (by decide) (fun c2 => ?_) (fun c2 => ?_)
  · have hf := it_t c2 hf
    refine lv_iconst (v := (0 : Int32)) hx hb dX6_may_14 (by decide) ?_
    exact w15 _ _ _ _ _ _ H locs ls hf hP hD hS (lv_sub hl [0, 1] rfl)
  · have hf := it_f (fun h9 => h9 c2) hf
    refine lv_iconst (v := (1 : Int32)) hx hb dX6_may_10 (by decide) ?_
    refine lv_goto (tgt := 15) hx hb dX6_may_11 (by decide) ?_
    exact w15 _ _ _ _ _ _ H locs ls hf hP hD hS (lv_sub hl [0, 1] rfl)
abbrev rm_X6_unit : Room := { frames := 0, cells := 0, slots := 0, locals := 0 }
set_option maxHeartbeats 4000000 in
set_option maxRecDepth 100000 in
theorem c_X6_unit (l : Launch) (D : va_G) (cI : ClassId) (β : Nat → Nat) (mT mW mH mS mR mL mC mZ mA mB : Int32) (KK KN KS KC AN JK JN JS JL MY KP FI TX : Nat → Int32) (x1 : Int32) (res : Int32 × Int32 × Int32 × (Nat → Int32)) (hf : f_X6_unit mT mZ TX x1 = some res) : kI l yX6_unit wsX6_unit rm_X6_unit D cI [.ref (β 0), .int x1] (wM cI β mT mW mH mS mR mL mC mZ mA mB KK KN KS KC AN JK JN JS JL MY KP FI TX) (wM cI β res.2.1 mW mH mS mR mL mC res.2.2.1 mA mB KK KN KS KC AN JK JN JS JL MY KP FI res.2.2.2) res.1 := by
  unfold f_X6_unit at hf
  refine kI_of (cc := cX6_unit) (maxL := 2) (ret := (some .boolean)) (by decide +kernel) rfl (Nat.le_of_ble_eq_true rfl) ?_
  intro p e s m args below meth c A ls S hP hD hS hl
  have S : kC p s m args meth c cX6_unit 2 wsX6_unit RX6 (some .boolean) D cI A := S
  have hx := S.1.1
  have hb := S.1.2.1
  have hml := S.1.2.2.1
  have hown : s.vm.findClass RX6 = some m.cls := S.1.2.2.2.1
  have hts := S.1.2.2.2.2
  have hK := S.2.2.2.1
  have hnk := S.2.2.2.2.1.2
  have hiX6 : ∀ w ∈ u_ws RX6 TX6 23, w ∈ wsX6_unit := by decide +kernel
  have fl46 := hts (.fieldLink RX6 46 "ProofCheckerModel" "text" "[I") (by decide +kernel)
  have fl63 := hts (.fieldLink RX6 63 "ProofCheckerModel" "thrown" "I") (by decide +kernel)
  have fl169 := hts (.fieldLink RX6 169 "ProofCheckerModel" "size" "I") (by decide +kernel)
  have hl : lv_has ls 2 [(0, .ref (β 0)), (1, .int x1)] := hl
  suffices hgo : ∀ (H : Heap) (locs : List Loc), va_P D vwCl (wM cI β mT mW mH mS mR mL mC mZ mA mB KK KN KS KC AN JK JN JS JL MY KP FI TX) H → va_D A (wM cI β mT mW mH mS mR mL mC mZ mA mB KK KN KS KC AN JK JN JS JL MY KP FI TX) → va_S A s.heap H locs → W p l e rm_X6_unit s m args below meth c H locs 0 0 (MQ below (kQi D A (wM cI β res.2.1 mW mH mS mR mL mC res.2.2.1 mA mB KK KN KS KC AN JK JN JS JL MY KP FI res.2.2.2) res.1) args s 0 0 A) (F0 m 0 ls []) from hgo _ _ hP hD hS
  clear hP hD hS
  intro H locs hP hD hS
  refine lv_aload_n hx hb dX6_unit_0 rfl (lv_at hl 0 rfl) ?_
  refine lv_iconst (v := (0 : Int32)) hx hb dX6_unit_1 (by decide) ?_
  refine va_put (D := D) (ci := 7) (v := .int (0 : Int32)) (ty := .int) (C := RX6) (T := TX6) (N := 23) hx hb hts hiX6 tyX6 tyX6_ok nmX6 hown hK hP hD hS 0 rfl rfl 0 (by decide) fl63 (fun _ h9 => h9) rfl (by decide +kernel) rfl rfl (Nat.le_of_ble_eq_true rfl) dX6_unit_2 (fun H locs hP hD hS => ?_)
  have hP : va_P D vwCl (wM cI β (0 : Int32) mW mH mS mR mL mC mZ mA mB KK KN KS KC AN JK JN JS JL MY KP FI TX) H := hP
  have hD : va_D A (wM cI β (0 : Int32) mW mH mS mR mL mC mZ mA mB KK KN KS KC AN JK JN JS JL MY KP FI TX) := hD
  refine lv_iload_n hx hb dX6_unit_5 rfl (lv_at hl 1 rfl) ?_
  refine lv_if_lt (tgt := 26) hx hb dX6_unit_6 (by decide) (fun c1 => ?_) (fun c1 => ?_)
  · have hf := it_t c1 hf
    refine lv_iconst (v := (0 : Int32)) hx hb dX6_unit_26 (by decide) ?_
    have e9 := Option.some.inj hf
    subst e9
    exact kI_ret S narrow_b0 hP hD hS dX6_unit_27
  · have hf := it_f c1 hf
    refine lv_iload_n hx hb dX6_unit_9 rfl (lv_at hl 1 rfl) ?_
    refine lv_sipush (v := (255 : Int32)) hx hb dX6_unit_10 (by decide) ?_
    refine lv_icmp_gt (tgt := 26) hx hb dX6_unit_13 (by decide) (fun c2 => ?_) (fun c2 => ?_)
    · have hf := it_t c2 hf
      refine lv_iconst (v := (0 : Int32)) hx hb dX6_unit_26 (by decide) ?_
      have e9 := Option.some.inj hf
      subst e9
      exact kI_ret S narrow_b0 hP hD hS dX6_unit_27
    · have hf := it_f c2 hf
      refine lv_aload_n hx hb dX6_unit_16 rfl (lv_at hl 0 rfl) ?_
      refine va_get (D := D) (ci := 7) (v := .int mZ) (C := RX6) (T := TX6) (N := 23) hx hb hts hiX6 hown hK hP 0 rfl rfl 20 (by decide) fl169 (fun _ h9 => h9) rfl dX6_unit_17 ?_
      refine lv_sipush (v := (300 : Int32)) hx hb dX6_unit_20 (by decide) ?_
      refine lv_icmp_ne (tgt := 28) hx hb dX6_unit_23 (by decide) (fun c3 => ?_) (fun c3 => ?_)
      · have hf := it_t c3 hf
        refine lv_aload_n hx hb dX6_unit_28 rfl (lv_at hl 0 rfl) ?_
        refine va_get (D := D) (ci := 7) (v := .ref (β 13)) (C := RX6) (T := TX6) (N := 23) hx hb hts hiX6 hown hK hP 0 rfl rfl 19 (by decide) fl46 (fun _ h9 => h9) rfl dX6_unit_29 ?_
        refine lv_aload_n hx hb dX6_unit_32 rfl (lv_at hl 0 rfl) ?_
        refine va_get (D := D) (ci := 7) (v := .int mZ) (C := RX6) (T := TX6) (N := 23) hx hb hts hiX6 hown hK hP 0 rfl rfl 20 (by decide) fl169 (fun _ h9 => h9) rfl dX6_unit_33 ?_
        refine lv_iload_n hx hb dX6_unit_36 rfl (lv_at hl 1 rfl) ?_
        obtain ⟨g4, hf⟩ := gin_some hf
        refine va_iast hx hb hK hP hD hS 13 0 rfl rfl g4 dX6_unit_37 (fun H locs hP hD hS => ?_)
        have hP : va_P D vwCl (wM cI β (0 : Int32) mW mH mS mR mL mC mZ mA mB KK KN KS KC AN JK JN JS JL MY KP FI (upd TX mZ.toNatClampNeg x1)) H := hP
        have hD : va_D A (wM cI β (0 : Int32) mW mH mS mR mL mC mZ mA mB KK KN KS KC AN JK JN JS JL MY KP FI (upd TX mZ.toNatClampNeg x1)) := hD
        refine lv_aload_n hx hb dX6_unit_38 rfl (lv_at hl 0 rfl) ?_
        refine lv_dup hx hb dX6_unit_39 rfl ?_
        refine va_get (D := D) (ci := 7) (v := .int mZ) (C := RX6) (T := TX6) (N := 23) hx hb hts hiX6 hown hK hP 0 rfl rfl 20 (by decide) fl169 (fun _ h9 => h9) rfl dX6_unit_40 ?_
        refine lv_iconst (v := (1 : Int32)) hx hb dX6_unit_43 (by decide) ?_
        refine lv_iadd hx hb dX6_unit_44 ?_
        refine va_put (D := D) (ci := 7) (v := .int (mZ + (1 : Int32))) (ty := .int) (C := RX6) (T := TX6) (N := 23) hx hb hts hiX6 tyX6 tyX6_ok nmX6 hown hK hP hD hS 0 rfl rfl 20 (by decide) fl169 (fun _ h9 => h9) rfl (by decide +kernel) rfl rfl (Nat.le_of_ble_eq_true rfl) dX6_unit_45 (fun H locs hP hD hS => ?_)
        have hP : va_P D vwCl (wM cI β (0 : Int32) mW mH mS mR mL mC (mZ + (1 : Int32)) mA mB KK KN KS KC AN JK JN JS JL MY KP FI (upd TX mZ.toNatClampNeg x1)) H := hP
        have hD : va_D A (wM cI β (0 : Int32) mW mH mS mR mL mC (mZ + (1 : Int32)) mA mB KK KN KS KC AN JK JN JS JL MY KP FI (upd TX mZ.toNatClampNeg x1)) := hD
        refine lv_iconst (v := (1 : Int32)) hx hb dX6_unit_48 (by decide) ?_
        have e9 := Option.some.inj hf
        subst e9
        exact kI_ret S narrow_b1 hP hD hS dX6_unit_49
      · have hf := it_f (fun h9 => h9 c3) hf
        refine lv_iconst (v := (0 : Int32)) hx hb dX6_unit_26 (by decide) ?_
        have e9 := Option.some.inj hf
        subst e9
        exact kI_ret S narrow_b0 hP hD hS dX6_unit_27
abbrev rm_X6_look : Room := { frames := 0, cells := 0, slots := 0, locals := 0 }
set_option maxHeartbeats 4000000 in
set_option maxRecDepth 100000 in
theorem c_X6_look (l : Launch) (D : va_G) (cI : ClassId) (β : Nat → Nat) (mT mW mH mS mR mL mC mZ mA mB : Int32) (KK KN KS KC AN JK JN JS JL MY KP FI TX : Nat → Int32)  (res : Int32) (hf : f_X6_look mZ mA TX = some res) : kI l yX6_look wsX6_look rm_X6_look D cI [.ref (β 0)] (wM cI β mT mW mH mS mR mL mC mZ mA mB KK KN KS KC AN JK JN JS JL MY KP FI TX) (wM cI β mT mW mH mS mR mL mC mZ mA mB KK KN KS KC AN JK JN JS JL MY KP FI TX) res := by
  unfold f_X6_look at hf
  refine kI_of (cc := cX6_look) (maxL := 1) (ret := (some .int)) (by decide +kernel) rfl (Nat.le_of_ble_eq_true rfl) ?_
  intro p e s m args below meth c A ls S hP hD hS hl
  have S : kC p s m args meth c cX6_look 1 wsX6_look RX6 (some .int) D cI A := S
  have hx := S.1.1
  have hb := S.1.2.1
  have hml := S.1.2.2.1
  have hown : s.vm.findClass RX6 = some m.cls := S.1.2.2.2.1
  have hts := S.1.2.2.2.2
  have hK := S.2.2.2.1
  have hnk := S.2.2.2.2.1.2
  have hiX6 : ∀ w ∈ u_ws RX6 TX6 23, w ∈ wsX6_look := by decide +kernel
  have fl46 := hts (.fieldLink RX6 46 "ProofCheckerModel" "text" "[I") (by decide +kernel)
  have fl169 := hts (.fieldLink RX6 169 "ProofCheckerModel" "size" "I") (by decide +kernel)
  have fl172 := hts (.fieldLink RX6 172 "ProofCheckerModel" "at" "I") (by decide +kernel)
  have hl : lv_has ls 1 [(0, .ref (β 0))] := hl
  suffices hgo : ∀ (H : Heap) (locs : List Loc), va_P D vwCl (wM cI β mT mW mH mS mR mL mC mZ mA mB KK KN KS KC AN JK JN JS JL MY KP FI TX) H → va_D A (wM cI β mT mW mH mS mR mL mC mZ mA mB KK KN KS KC AN JK JN JS JL MY KP FI TX) → va_S A s.heap H locs → W p l e rm_X6_look s m args below meth c H locs 0 0 (MQ below (kQi D A (wM cI β mT mW mH mS mR mL mC mZ mA mB KK KN KS KC AN JK JN JS JL MY KP FI TX) res) args s 0 0 A) (F0 m 0 ls []) from hgo _ _ hP hD hS
  clear hP hD hS
  intro H locs hP hD hS
  refine lv_aload_n hx hb dX6_look_0 rfl (lv_at hl 0 rfl) ?_
  refine va_get (D := D) (ci := 7) (v := .int mA) (C := RX6) (T := TX6) (N := 23) hx hb hts hiX6 hown hK hP 0 rfl rfl 21 (by decide) fl172 (fun _ h9 => h9) rfl dX6_look_1 ?_
  refine lv_aload_n hx hb dX6_look_4 rfl (lv_at hl 0 rfl) ?_
  refine va_get (D := D) (ci := 7) (v := .int mZ) (C := RX6) (T := TX6) (N := 23) hx hb hts hiX6 hown hK hP 0 rfl rfl 20 (by decide) fl169 (fun _ h9 => h9) rfl dX6_look_5 ?_
  refine lv_icmp_ge (tgt := 23) hx hb dX6_look_8 (by decide) (fun c1 => ?_) (fun c1 => ?_)
  · have hf := it_t c1 hf
    refine lv_iconst (v := (-1 : Int32)) hx hb dX6_look_23 (by decide) ?_
    have e9 := Option.some.inj hf
    subst e9
    exact kI_ret S rfl hP hD hS dX6_look_24
  · have hf := it_f c1 hf
    refine lv_aload_n hx hb dX6_look_11 rfl (lv_at hl 0 rfl) ?_
    refine va_get (D := D) (ci := 7) (v := .ref (β 13)) (C := RX6) (T := TX6) (N := 23) hx hb hts hiX6 hown hK hP 0 rfl rfl 19 (by decide) fl46 (fun _ h9 => h9) rfl dX6_look_12 ?_
    refine lv_aload_n hx hb dX6_look_15 rfl (lv_at hl 0 rfl) ?_
    refine va_get (D := D) (ci := 7) (v := .int mA) (C := RX6) (T := TX6) (N := 23) hx hb hts hiX6 hown hK hP 0 rfl rfl 21 (by decide) fl172 (fun _ h9 => h9) rfl dX6_look_16 ?_
    obtain ⟨g2, hf⟩ := gin_some hf
    refine va_iald hx hb hK hP 13 0 rfl rfl g2 dX6_look_19 ?_
    refine lv_goto (tgt := 24) hx hb dX6_look_20 (by decide) ?_
    have e9 := Option.some.inj hf
    subst e9
    exact kI_ret S rfl hP hD hS dX6_look_24
abbrev rm_X6_isDigit : Room := { frames := 1, cells := 0, slots := 0, locals := 20 }
set_option maxHeartbeats 4000000 in
set_option maxRecDepth 100000 in
theorem c_X6_isDigit (l : Launch) (D : va_G) (cI : ClassId) (β : Nat → Nat) (mT mW mH mS mR mL mC mZ mA mB : Int32) (KK KN KS KC AN JK JN JS JL MY KP FI TX : Nat → Int32)  (res : Int32) (hf : f_X6_isDigit mZ mA TX = some res) : kI l yX6_isDigit wsX6_isDigit rm_X6_isDigit D cI [.ref (β 0)] (wM cI β mT mW mH mS mR mL mC mZ mA mB KK KN KS KC AN JK JN JS JL MY KP FI TX) (wM cI β mT mW mH mS mR mL mC mZ mA mB KK KN KS KC AN JK JN JS JL MY KP FI TX) res := by
  unfold f_X6_isDigit at hf
  refine kI_of (cc := cX6_isDigit) (maxL := 1) (ret := (some .boolean)) (by decide +kernel) rfl (Nat.le_of_ble_eq_true rfl) ?_
  intro p e s m args below meth c A ls S hP hD hS hl
  have S : kC p s m args meth c cX6_isDigit 1 wsX6_isDigit RX6 (some .boolean) D cI A := S
  have hx := S.1.1
  have hb := S.1.2.1
  have hml := S.1.2.2.1
  have hown : s.vm.findClass RX6 = some m.cls := S.1.2.2.2.1
  have hts := S.1.2.2.2.2
  have hK := S.2.2.2.1
  have hnk := S.2.2.2.2.1.2
  have hl : lv_has ls 1 [(0, .ref (β 0))] := hl
  suffices hgo : ∀ (H : Heap) (locs : List Loc), va_P D vwCl (wM cI β mT mW mH mS mR mL mC mZ mA mB KK KN KS KC AN JK JN JS JL MY KP FI TX) H → va_D A (wM cI β mT mW mH mS mR mL mC mZ mA mB KK KN KS KC AN JK JN JS JL MY KP FI TX) → va_S A s.heap H locs → W p l e rm_X6_isDigit s m args below meth c H locs 0 0 (MQ below (kQi D A (wM cI β mT mW mH mS mR mL mC mZ mA mB KK KN KS KC AN JK JN JS JL MY KP FI TX) res) args s 0 0 A) (F0 m 0 ls []) from hgo _ _ hP hD hS
  clear hP hD hS
  intro H locs hP hD hS
  refine lv_aload_n hx hb dX6_isDigit_0 rfl (lv_at hl 0 rfl) ?_
  obtain ⟨q1, hq1, hf⟩ := bnd hf
  refine kI_callV (As := []) (rest := []) S hP hD hS (c_X6_look l D cI β mT mW mH mS mR mL mC mZ mA mB KK KN KS KC AN JK JN JS JL MY KP FI TX q1 hq1) (cwV 0 hts gX6_isDigit_X6_look rfl rfl rfl (by decide +kernel) ⟨Nat.le_of_ble_eq_true rfl, Nat.le_of_ble_eq_true rfl⟩) 0 rfl rfl rfl hl.1 rfl (Nat.le_of_ble_eq_true rfl) dX6_isDigit_1 ⟨Nat.zero_le _, Nat.zero_le _⟩ (fun H locs hP hD hS => ?_)
  have hP : va_P D vwCl (wM cI β mT mW mH mS mR mL mC mZ mA mB KK KN KS KC AN JK JN JS JL MY KP FI TX) H := hP
  have hD : va_D A (wM cI β mT mW mH mS mR mL mC mZ mA mB KK KN KS KC AN JK JN JS JL MY KP FI TX) := hD
  refine lv_bipush (v := (48 : Int32)) hx hb dX6_isDigit_4 (by decide) ?_
  refine lv_icmp_lt (tgt := 22) hx hb dX6_isDigit_6 (by decide) (fun c2 => ?_) (fun c2 => ?_)
  · have hf := it_t c2 hf
    refine lv_iconst (v := (0 : Int32)) hx hb dX6_isDigit_22 (by decide) ?_
    have e9 := Option.some.inj hf
    subst e9
    exact kI_ret S narrow_b0 hP hD hS dX6_isDigit_23
  · have hf := it_f c2 hf
    refine lv_aload_n hx hb dX6_isDigit_9 rfl (lv_at hl 0 rfl) ?_
    obtain ⟨q3, hq3, hf⟩ := bnd hf
    refine kI_callV (As := []) (rest := []) S hP hD hS (c_X6_look l D cI β mT mW mH mS mR mL mC mZ mA mB KK KN KS KC AN JK JN JS JL MY KP FI TX q3 hq3) (cwV 0 hts gX6_isDigit_X6_look rfl rfl rfl (by decide +kernel) ⟨Nat.le_of_ble_eq_true rfl, Nat.le_of_ble_eq_true rfl⟩) 0 rfl rfl rfl hl.1 rfl (Nat.le_of_ble_eq_true rfl) dX6_isDigit_10 ⟨Nat.zero_le _, Nat.zero_le _⟩ (fun H locs hP hD hS => ?_)
    have hP : va_P D vwCl (wM cI β mT mW mH mS mR mL mC mZ mA mB KK KN KS KC AN JK JN JS JL MY KP FI TX) H := hP
    have hD : va_D A (wM cI β mT mW mH mS mR mL mC mZ mA mB KK KN KS KC AN JK JN JS JL MY KP FI TX) := hD
    refine lv_bipush (v := (57 : Int32)) hx hb dX6_isDigit_13 (by decide) ?_
    refine lv_icmp_gt (tgt := 22) hx hb dX6_isDigit_15 (by decide) (fun c4 => ?_) (fun c4 => ?_)
    · have hf := it_t c4 hf
      refine lv_iconst (v := (0 : Int32)) hx hb dX6_isDigit_22 (by decide) ?_
      have e9 := Option.some.inj hf
      subst e9
      exact kI_ret S narrow_b0 hP hD hS dX6_isDigit_23
    · have hf := it_f c4 hf
      refine lv_iconst (v := (1 : Int32)) hx hb dX6_isDigit_18 (by decide) ?_
      refine lv_goto (tgt := 23) hx hb dX6_isDigit_19 (by decide) ?_
      have e9 := Option.some.inj hf
      subst e9
      exact kI_ret S narrow_b1 hP hD hS dX6_isDigit_23
