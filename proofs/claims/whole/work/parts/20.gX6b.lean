abbrev rm_X6_into : Room := { frames := 2, cells := 0, slots := 0, locals := 45 }
set_option maxHeartbeats 4000000 in
set_option maxRecDepth 100000 in
theorem c_X6_into (l : Launch) (D : va_G) (cI : ClassId) (β : Nat → Nat) (mT mW mH mS mR mL mC mZ mA mB : Int32) (KK KN KS KC AN JK JN JS JL MY KP FI TX : Nat → Int32) (F : Nat) (x1 : Int32) (x2 : Int32) (res : Int32 × Int32 × (Nat → Int32) × (Nat → Int32)) (hf : f_X6_into mW mH mR F mT KS KC x1 x2 = some res) : kI l yX6_into wsX6_into rm_X6_into D cI [.ref (β 0), .int x1, .int x2] (wM cI β mT mW mH mS mR mL mC mZ mA mB KK KN KS KC AN JK JN JS JL MY KP FI TX) (wM cI β res.2.1 mW mH mS mR mL mC mZ mA mB KK KN res.2.2.1 res.2.2.2 AN JK JN JS JL MY KP FI TX) res.1 := by
  unfold f_X6_into at hf
  refine kI_of (cc := cX6_into) (maxL := 3) (ret := (some .boolean)) (by decide +kernel) rfl (Nat.le_of_ble_eq_true rfl) ?_
  intro p e s m args below meth c A ls S hP hD hS hl
  have S : kC p s m args meth c cX6_into 3 wsX6_into RX6 (some .boolean) D cI A := S
  have hx := S.1.1
  have hb := S.1.2.1
  have hml := S.1.2.2.1
  have hown : s.vm.findClass RX6 = some m.cls := S.1.2.2.2.1
  have hts := S.1.2.2.2.2
  have hK := S.2.2.2.1
  have hnk := S.2.2.2.2.1.2
  have hiX6 : ∀ w ∈ u_ws RX6 TX6 23, w ∈ wsX6_into := by decide +kernel
  have fl16 := hts (.fieldLink RX6 16 "ProofCheckerModel" "ruleSize" "[I") (by decide +kernel)
  have fl19 := hts (.fieldLink RX6 19 "ProofCheckerModel" "ruleCell" "[I") (by decide +kernel)
  have fl70 := hts (.fieldLink RX6 70 "ProofCheckerModel" "rules" "I") (by decide +kernel)
  have hl : lv_has ls 3 [(0, .ref (β 0)), (1, .int x1), (2, .int x2)] := hl
  have w27 : ∀ (t1 : Int32) (t2 : Int32) (x1 : Int32) (x2 : Int32) (mT : Int32) (KS : Nat → Int32) (KC : Nat → Int32) (H : Heap) (locs : List Loc) (ls : Array Slot), f_X6_into_J27 mW mH mR F t1 t2 x1 x2 mT KS KC = some res → va_P D vwCl (wM cI β mT mW mH mS mR mL mC mZ mA mB KK KN KS KC AN JK JN JS JL MY KP FI TX) H → va_D A (wM cI β mT mW mH mS mR mL mC mZ mA mB KK KN KS KC AN JK JN JS JL MY KP FI TX) → va_S A s.heap H locs → lv_has ls 3 [(0, .ref (β 0)), (1, .int x1), (2, .int x2)] → W p l e rm_X6_into s m args below meth c H locs 0 0 (MQ below (kQi D A (wM cI β res.2.1 mW mH mS mR mL mC mZ mA mB KK KN res.2.2.1 res.2.2.2 AN JK JN JS JL MY KP FI TX) res.1) args s 0 0 A) (F0 m 27 ls [.int t2, .int t1, .ref (β 0)]) := by
    intro t1 t2 x1 x2 mT KS KC H locs ls hf hP hD hS hl
    unfold f_X6_into_J27 at hf
    obtain ⟨q5, hq5, hf⟩ := bnd hf
    refine kI_callV (As := [.int t1, .int t2]) (rest := []) S hP hD hS (c_X6_throwsIf l D cI β mT mW mH mS mR mL mC mZ mA mB KK KN KS KC AN JK JN JS JL MY KP FI TX t1 t2 q5 hq5) (cwV 2 hts gX6_into_X6_throwsIf rfl rfl rfl (by decide +kernel) ⟨Nat.le_of_ble_eq_true rfl, Nat.le_of_ble_eq_true rfl⟩) 0 rfl rfl rfl hl.1 rfl (Nat.le_of_ble_eq_true rfl) dX6_into_27 ⟨Nat.zero_le _, Nat.zero_le _⟩ (fun H locs hP hD hS => ?_)
    have hP : va_P D vwCl (wM cI β q5.2 mW mH mS mR mL mC mZ mA mB KK KN KS KC AN JK JN JS JL MY KP FI TX) H := hP
    have hD : va_D A (wM cI β q5.2 mW mH mS mR mL mC mZ mA mB KK KN KS KC AN JK JN JS JL MY KP FI TX) := hD
    refine lv_if_ne (tgt := 53) hx hb dX6_into_30 (by decide) (fun c6 => ?_) (fun c6 => ?_)
    · have hf := it_t c6 hf
      refine lv_iconst (v := (0 : Int32)) hx hb dX6_into_53 (by decide) ?_
      have e9 := Option.some.inj hf
      subst e9
      exact kI_ret S narrow_b0 hP hD hS dX6_into_54
    · have hf := it_f (fun h9 => h9 c6) hf
      refine lv_aload_n hx hb dX6_into_33 rfl (lv_at hl 0 rfl) ?_
      refine lv_iload_n hx hb dX6_into_34 rfl (lv_at hl 1 rfl) ?_
      refine lv_iload_n hx hb dX6_into_35 rfl (lv_at hl 2 rfl) ?_
      obtain ⟨q7, hq7, hf⟩ := bnd hf
      refine kI_callV (As := [.int x1, .int x2]) (rest := []) S hP hD hS (c_X6_seat l D cI β q5.2 mW mH mS mR mL mC mZ mA mB KK KN KS KC AN JK JN JS JL MY KP FI TX F x1 x2 q7 hq7) (cwV 2 hts gX6_into_X6_seat rfl rfl rfl (by decide +kernel) ⟨Nat.le_of_ble_eq_true rfl, Nat.le_of_ble_eq_true rfl⟩) 0 rfl rfl rfl hl.1 rfl (Nat.le_of_ble_eq_true rfl) dX6_into_36 ⟨Nat.zero_le _, Nat.zero_le _⟩ (fun H locs hP hD hS => ?_)
      have hP : va_P D vwCl (wM cI β q5.2 mW mH mS mR mL mC mZ mA mB KK KN KS KC AN JK JN JS JL MY KP FI TX) H := hP
      have hD : va_D A (wM cI β q5.2 mW mH mS mR mL mC mZ mA mB KK KN KS KC AN JK JN JS JL MY KP FI TX) := hD
      refine lv_if_ge (tgt := 53) hx hb dX6_into_39 (by decide) (fun c8 => ?_) (fun c8 => ?_)
      · have hf := it_t c8 hf
        refine lv_iconst (v := (0 : Int32)) hx hb dX6_into_53 (by decide) ?_
        have e9 := Option.some.inj hf
        subst e9
        exact kI_ret S narrow_b0 hP hD hS dX6_into_54
      · have hf := it_f c8 hf
        refine lv_aload_n hx hb dX6_into_42 rfl (lv_at hl 0 rfl) ?_
        refine va_get (D := D) (ci := 7) (v := .ref (β 3)) (C := RX6) (T := TX6) (N := 23) hx hb hts hiX6 hown hK hP 0 rfl rfl 7 (by decide) fl16 (fun _ h9 => h9) rfl dX6_into_43 ?_
        refine lv_iload_n hx hb dX6_into_46 rfl (lv_at hl 1 rfl) ?_
        obtain ⟨g9, hf⟩ := gin_some hf
        refine va_iald hx hb hK hP 3 0 rfl rfl g9 dX6_into_47 ?_
        refine lv_bipush (v := (9 : Int32)) hx hb dX6_into_48 (by decide) ?_
        refine lv_icmp_ne (tgt := 55) hx hb dX6_into_50 (by decide) (fun c10 => ?_) (fun c10 => ?_)
        · have hf := it_t c10 hf
          refine lv_aload_n hx hb dX6_into_55 rfl (lv_at hl 0 rfl) ?_
          refine va_get (D := D) (ci := 7) (v := .ref (β 4)) (C := RX6) (T := TX6) (N := 23) hx hb hts hiX6 hown hK hP 0 rfl rfl 8 (by decide) fl19 (fun _ h9 => h9) rfl dX6_into_56 ?_
          refine lv_bipush (v := (9 : Int32)) hx hb dX6_into_59 (by decide) ?_
          refine lv_iload_n hx hb dX6_into_61 rfl (lv_at hl 1 rfl) ?_
          refine lv_imul hx hb dX6_into_62 ?_
          refine lv_aload_n hx hb dX6_into_63 rfl (lv_at hl 0 rfl) ?_
          refine va_get (D := D) (ci := 7) (v := .ref (β 3)) (C := RX6) (T := TX6) (N := 23) hx hb hts hiX6 hown hK hP 0 rfl rfl 7 (by decide) fl16 (fun _ h9 => h9) rfl dX6_into_64 ?_
          refine lv_iload_n hx hb dX6_into_67 rfl (lv_at hl 1 rfl) ?_
          obtain ⟨g11, hf⟩ := gin_some hf
          refine va_iald hx hb hK hP 3 0 rfl rfl g11 dX6_into_68 ?_
          refine lv_iadd hx hb dX6_into_69 ?_
          refine lv_iload_n hx hb dX6_into_70 rfl (lv_at hl 2 rfl) ?_
          obtain ⟨g12, hf⟩ := gin_some hf
          refine va_iast hx hb hK hP hD hS 4 0 rfl rfl g12 dX6_into_71 (fun H locs hP hD hS => ?_)
          have hP : va_P D vwCl (wM cI β q5.2 mW mH mS mR mL mC mZ mA mB KK KN KS ((upd KC ((((9 : Int32) * x1) + (KS x1.toNatClampNeg))).toNatClampNeg x2)) AN JK JN JS JL MY KP FI TX) H := hP
          have hD : va_D A (wM cI β q5.2 mW mH mS mR mL mC mZ mA mB KK KN KS ((upd KC ((((9 : Int32) * x1) + (KS x1.toNatClampNeg))).toNatClampNeg x2)) AN JK JN JS JL MY KP FI TX) := hD
          refine lv_aload_n hx hb dX6_into_72 rfl (lv_at hl 0 rfl) ?_
          refine va_get (D := D) (ci := 7) (v := .ref (β 3)) (C := RX6) (T := TX6) (N := 23) hx hb hts hiX6 hown hK hP 0 rfl rfl 7 (by decide) fl16 (fun _ h9 => h9) rfl dX6_into_73 ?_
          refine lv_iload_n hx hb dX6_into_76 rfl (lv_at hl 1 rfl) ?_
          refine lv_dup2_11 hx hb dX6_into_77 rfl rfl ?_
          obtain ⟨g13, hf⟩ := gin_some hf
          refine va_iald hx hb hK hP 3 0 rfl rfl g13 dX6_into_78 ?_
          refine lv_iconst (v := (1 : Int32)) hx hb dX6_into_79 (by decide) ?_
          refine lv_iadd hx hb dX6_into_80 ?_
          obtain ⟨g14, hf⟩ := gin_some hf
          refine va_iast hx hb hK hP hD hS 3 0 rfl rfl g14 dX6_into_81 (fun H locs hP hD hS => ?_)
          have hP : va_P D vwCl (wM cI β q5.2 mW mH mS mR mL mC mZ mA mB KK KN ((upd KS x1.toNatClampNeg ((KS x1.toNatClampNeg) + (1 : Int32)))) ((upd KC ((((9 : Int32) * x1) + (KS x1.toNatClampNeg))).toNatClampNeg x2)) AN JK JN JS JL MY KP FI TX) H := hP
          have hD : va_D A (wM cI β q5.2 mW mH mS mR mL mC mZ mA mB KK KN ((upd KS x1.toNatClampNeg ((KS x1.toNatClampNeg) + (1 : Int32)))) ((upd KC ((((9 : Int32) * x1) + (KS x1.toNatClampNeg))).toNatClampNeg x2)) AN JK JN JS JL MY KP FI TX) := hD
          refine lv_iconst (v := (1 : Int32)) hx hb dX6_into_82 (by decide) ?_
          have e9 := Option.some.inj hf
          subst e9
          exact kI_ret S narrow_b1 hP hD hS dX6_into_83
        · have hf := it_f (fun h9 => h9 c10) hf
          refine lv_iconst (v := (0 : Int32)) hx hb dX6_into_53 (by decide) ?_
          have e9 := Option.some.inj hf
          subst e9
          exact kI_ret S narrow_b0 hP hD hS dX6_into_54
  have w22 : ∀ (t1 : Int32) (x1 : Int32) (x2 : Int32) (mT : Int32) (KS : Nat → Int32) (KC : Nat → Int32) (H : Heap) (locs : List Loc) (ls : Array Slot), f_X6_into_J22 mW mH mR F t1 x1 x2 mT KS KC = some res → va_P D vwCl (wM cI β mT mW mH mS mR mL mC mZ mA mB KK KN KS KC AN JK JN JS JL MY KP FI TX) H → va_D A (wM cI β mT mW mH mS mR mL mC mZ mA mB KK KN KS KC AN JK JN JS JL MY KP FI TX) → va_S A s.heap H locs → lv_has ls 3 [(0, .ref (β 0)), (1, .int x1), (2, .int x2)] → W p l e rm_X6_into s m args below meth c H locs 0 0 (MQ below (kQi D A (wM cI β res.2.1 mW mH mS mR mL mC mZ mA mB KK KN res.2.2.1 res.2.2.2 AN JK JN JS JL MY KP FI TX) res.1) args s 0 0 A) (F0 m 22 ls [.int t1, .ref (β 0)]) := by
    intro t1 x1 x2 mT KS KC H locs ls hf hP hD hS hl
    unfold f_X6_into_J22 at hf
    refine lv_iconst (v := (1 : Int32)) hx hb dX6_into_22 (by decide) ?_
    refine lv_goto (tgt := 27) hx hb dX6_into_23 (by decide) ?_
    exact w27 _ _ _ _ _ _ _ H locs ls hf hP hD hS (lv_sub hl [0, 1, 2] rfl)
  suffices hgo : ∀ (H : Heap) (locs : List Loc), va_P D vwCl (wM cI β mT mW mH mS mR mL mC mZ mA mB KK KN KS KC AN JK JN JS JL MY KP FI TX) H → va_D A (wM cI β mT mW mH mS mR mL mC mZ mA mB KK KN KS KC AN JK JN JS JL MY KP FI TX) → va_S A s.heap H locs → W p l e rm_X6_into s m args below meth c H locs 0 0 (MQ below (kQi D A (wM cI β res.2.1 mW mH mS mR mL mC mZ mA mB KK KN res.2.2.1 res.2.2.2 AN JK JN JS JL MY KP FI TX) res.1) args s 0 0 A) (F0 m 0 ls []) from hgo _ _ hP hD hS
  clear hP hD hS
  intro H locs hP hD hS
  refine lv_aload_n hx hb dX6_into_0 rfl (lv_at hl 0 rfl) ?_
  refine lv_iconst (v := (1 : Int32)) hx hb dX6_into_1 (by decide) ?_
  refine lv_iload_n hx hb dX6_into_2 rfl (lv_at hl 1 rfl) ?_
  refine lv_if_lt (tgt := 22) hx hb dX6_into_3 (by decide) (fun c1 => ?_) (fun c1 => ?_)
  · have hf := it_t c1 hf
    exact w22 _ _ _ _ _ _ H locs ls hf hP hD hS (lv_sub hl [0, 1, 2] rfl)
  · have hf := it_f c1 hf
    refine lv_iload_n hx hb dX6_into_6 rfl (lv_at hl 1 rfl) ?_
    refine lv_aload_n hx hb dX6_into_7 rfl (lv_at hl 0 rfl) ?_
    refine va_get (D := D) (ci := 7) (v := .int mR) (C := RX6) (T := TX6) (N := 23) hx hb hts hiX6 hown hK hP 0 rfl rfl 4 (by decide) fl70 (fun _ h9 => h9) rfl dX6_into_8 ?_
    refine lv_icmp_ge (tgt := 22) hx hb dX6_into_11 (by decide) (fun c2 => ?_) (fun c2 => ?_)
    · have hf := it_t c2 hf
      exact w22 _ _ _ _ _ _ H locs ls hf hP hD hS (lv_sub hl [0, 1, 2] rfl)
    · have hf := it_f c2 hf
      refine lv_aload_n hx hb dX6_into_14 rfl (lv_at hl 0 rfl) ?_
      refine lv_iload_n hx hb dX6_into_15 rfl (lv_at hl 2 rfl) ?_
      obtain ⟨q3, hq3, hf⟩ := bnd hf
      refine kI_callV (As := [.int x2]) (rest := [.int (1 : Int32), .ref (β 0)]) S hP hD hS (c_X6_isCell l D cI β mT mW mH mS mR mL mC mZ mA mB KK KN KS KC AN JK JN JS JL MY KP FI TX x2 q3 hq3) (cwV 1 hts gX6_into_X6_isCell rfl rfl rfl (by decide +kernel) ⟨Nat.le_of_ble_eq_true rfl, Nat.le_of_ble_eq_true rfl⟩) 0 rfl rfl rfl hl.1 rfl (Nat.le_of_ble_eq_true rfl) dX6_into_16 ⟨Nat.zero_le _, Nat.zero_le _⟩ (fun H locs hP hD hS => ?_)
      have hP : va_P D vwCl (wM cI β mT mW mH mS mR mL mC mZ mA mB KK KN KS KC AN JK JN JS JL MY KP FI TX) H := hP
      have hD : va_D A (wM cI β mT mW mH mS mR mL mC mZ mA mB KK KN KS KC AN JK JN JS JL MY KP FI TX) := hD
      refine lv_if_ne (tgt := 26) hx hb dX6_into_19 (by decide) (fun c4 => ?_) (fun c4 => ?_)
      · have hf := it_t c4 hf
        refine lv_iconst (v := (0 : Int32)) hx hb dX6_into_26 (by decide) ?_
        exact w27 _ _ _ _ _ _ _ H locs ls hf hP hD hS (lv_sub hl [0, 1, 2] rfl)
      · have hf := it_f (fun h9 => h9 c4) hf
        exact w22 _ _ _ _ _ _ H locs ls hf hP hD hS (lv_sub hl [0, 1, 2] rfl)
abbrev rm_X6_answer : Room := { frames := 2, cells := 0, slots := 0, locals := 41 }
set_option maxHeartbeats 4000000 in
set_option maxRecDepth 100000 in
theorem c_X6_answer (l : Launch) (D : va_G) (cI : ClassId) (β : Nat → Nat) (mT mW mH mS mR mL mC mZ mA mB : Int32) (KK KN KS KC AN JK JN JS JL MY KP FI TX : Nat → Int32) (x1 : Int32) (x2 : Int32) (res : Int32 × Int32 × (Nat → Int32)) (hf : f_X6_answer mW mH mS mT AN x1 x2 = some res) : kI l yX6_answer wsX6_answer rm_X6_answer D cI [.ref (β 0), .int x1, .int x2] (wM cI β mT mW mH mS mR mL mC mZ mA mB KK KN KS KC AN JK JN JS JL MY KP FI TX) (wM cI β res.2.1 mW mH mS mR mL mC mZ mA mB KK KN KS KC res.2.2 JK JN JS JL MY KP FI TX) res.1 := by
  unfold f_X6_answer at hf
  refine kI_of (cc := cX6_answer) (maxL := 3) (ret := (some .boolean)) (by decide +kernel) rfl (Nat.le_of_ble_eq_true rfl) ?_
  intro p e s m args below meth c A ls S hP hD hS hl
  have S : kC p s m args meth c cX6_answer 3 wsX6_answer RX6 (some .boolean) D cI A := S
  have hx := S.1.1
  have hb := S.1.2.1
  have hml := S.1.2.2.1
  have hown : s.vm.findClass RX6 = some m.cls := S.1.2.2.2.1
  have hts := S.1.2.2.2.2
  have hK := S.2.2.2.1
  have hnk := S.2.2.2.2.1.2
  have hiX6 : ∀ w ∈ u_ws RX6 TX6 23, w ∈ wsX6_answer := by decide +kernel
  have fl22 := hts (.fieldLink RX6 22 "ProofCheckerModel" "answer" "[I") (by decide +kernel)
  have hl : lv_has ls 3 [(0, .ref (β 0)), (1, .int x1), (2, .int x2)] := hl
  have w41 : ∀ (t1 : Int32) (t2 : Int32) (x1 : Int32) (x2 : Int32) (mT : Int32) (AN : Nat → Int32) (H : Heap) (locs : List Loc) (ls : Array Slot), f_X6_answer_J41 mW mH mS t1 t2 x1 x2 mT AN = some res → va_P D vwCl (wM cI β mT mW mH mS mR mL mC mZ mA mB KK KN KS KC AN JK JN JS JL MY KP FI TX) H → va_D A (wM cI β mT mW mH mS mR mL mC mZ mA mB KK KN KS KC AN JK JN JS JL MY KP FI TX) → va_S A s.heap H locs → lv_has ls 3 [(0, .ref (β 0)), (1, .int x1), (2, .int x2)] → W p l e rm_X6_answer s m args below meth c H locs 0 0 (MQ below (kQi D A (wM cI β res.2.1 mW mH mS mR mL mC mZ mA mB KK KN KS KC res.2.2 JK JN JS JL MY KP FI TX) res.1) args s 0 0 A) (F0 m 41 ls [.int t2, .int t1, .ref (β 0)]) := by
    intro t1 t2 x1 x2 mT AN H locs ls hf hP hD hS hl
    unfold f_X6_answer_J41 at hf
    obtain ⟨q8, hq8, hf⟩ := bnd hf
    refine kI_callV (As := [.int t1, .int t2]) (rest := []) S hP hD hS (c_X6_throwsIf l D cI β mT mW mH mS mR mL mC mZ mA mB KK KN KS KC AN JK JN JS JL MY KP FI TX t1 t2 q8 hq8) (cwV 2 hts gX6_answer_X6_throwsIf rfl rfl rfl (by decide +kernel) ⟨Nat.le_of_ble_eq_true rfl, Nat.le_of_ble_eq_true rfl⟩) 0 rfl rfl rfl hl.1 rfl (Nat.le_of_ble_eq_true rfl) dX6_answer_41 ⟨Nat.zero_le _, Nat.zero_le _⟩ (fun H locs hP hD hS => ?_)
    have hP : va_P D vwCl (wM cI β q8.2 mW mH mS mR mL mC mZ mA mB KK KN KS KC AN JK JN JS JL MY KP FI TX) H := hP
    have hD : va_D A (wM cI β q8.2 mW mH mS mR mL mC mZ mA mB KK KN KS KC AN JK JN JS JL MY KP FI TX) := hD
    refine lv_if_ne (tgt := 57) hx hb dX6_answer_44 (by decide) (fun c9 => ?_) (fun c9 => ?_)
    · have hf := it_t c9 hf
      refine lv_iconst (v := (0 : Int32)) hx hb dX6_answer_57 (by decide) ?_
      have e9 := Option.some.inj hf
      subst e9
      exact kI_ret S narrow_b0 hP hD hS dX6_answer_58
    · have hf := it_f (fun h9 => h9 c9) hf
      refine lv_aload_n hx hb dX6_answer_47 rfl (lv_at hl 0 rfl) ?_
      refine va_get (D := D) (ci := 7) (v := .ref (β 5)) (C := RX6) (T := TX6) (N := 23) hx hb hts hiX6 hown hK hP 0 rfl rfl 9 (by decide) fl22 (fun _ h9 => h9) rfl dX6_answer_48 ?_
      refine lv_iload_n hx hb dX6_answer_51 rfl (lv_at hl 1 rfl) ?_
      obtain ⟨g10, hf⟩ := gin_some hf
      refine va_iald hx hb hK hP 5 0 rfl rfl g10 dX6_answer_52 ?_
      refine lv_iload_n hx hb dX6_answer_53 rfl (lv_at hl 2 rfl) ?_
      refine lv_icmp_ne (tgt := 59) hx hb dX6_answer_54 (by decide) (fun c11 => ?_) (fun c11 => ?_)
      · have hf := it_t c11 hf
        refine lv_aload_n hx hb dX6_answer_59 rfl (lv_at hl 0 rfl) ?_
        refine va_get (D := D) (ci := 7) (v := .ref (β 5)) (C := RX6) (T := TX6) (N := 23) hx hb hts hiX6 hown hK hP 0 rfl rfl 9 (by decide) fl22 (fun _ h9 => h9) rfl dX6_answer_60 ?_
        refine lv_iload_n hx hb dX6_answer_63 rfl (lv_at hl 1 rfl) ?_
        refine lv_iload_n hx hb dX6_answer_64 rfl (lv_at hl 2 rfl) ?_
        obtain ⟨g12, hf⟩ := gin_some hf
        refine va_iast hx hb hK hP hD hS 5 0 rfl rfl g12 dX6_answer_65 (fun H locs hP hD hS => ?_)
        have hP : va_P D vwCl (wM cI β q8.2 mW mH mS mR mL mC mZ mA mB KK KN KS KC (upd AN x1.toNatClampNeg x2) JK JN JS JL MY KP FI TX) H := hP
        have hD : va_D A (wM cI β q8.2 mW mH mS mR mL mC mZ mA mB KK KN KS KC (upd AN x1.toNatClampNeg x2) JK JN JS JL MY KP FI TX) := hD
        refine lv_iconst (v := (1 : Int32)) hx hb dX6_answer_66 (by decide) ?_
        have e9 := Option.some.inj hf
        subst e9
        exact kI_ret S narrow_b1 hP hD hS dX6_answer_67
      · have hf := it_f (fun h9 => h9 c11) hf
        refine lv_iconst (v := (0 : Int32)) hx hb dX6_answer_57 (by decide) ?_
        have e9 := Option.some.inj hf
        subst e9
        exact kI_ret S narrow_b0 hP hD hS dX6_answer_58
  have w40 : ∀ (t1 : Int32) (x1 : Int32) (x2 : Int32) (mT : Int32) (AN : Nat → Int32) (H : Heap) (locs : List Loc) (ls : Array Slot), f_X6_answer_J40 mW mH mS t1 x1 x2 mT AN = some res → va_P D vwCl (wM cI β mT mW mH mS mR mL mC mZ mA mB KK KN KS KC AN JK JN JS JL MY KP FI TX) H → va_D A (wM cI β mT mW mH mS mR mL mC mZ mA mB KK KN KS KC AN JK JN JS JL MY KP FI TX) → va_S A s.heap H locs → lv_has ls 3 [(0, .ref (β 0)), (1, .int x1), (2, .int x2)] → W p l e rm_X6_answer s m args below meth c H locs 0 0 (MQ below (kQi D A (wM cI β res.2.1 mW mH mS mR mL mC mZ mA mB KK KN KS KC res.2.2 JK JN JS JL MY KP FI TX) res.1) args s 0 0 A) (F0 m 40 ls [.int t1, .ref (β 0)]) := by
    intro t1 x1 x2 mT AN H locs ls hf hP hD hS hl
    unfold f_X6_answer_J40 at hf
    refine lv_iconst (v := (0 : Int32)) hx hb dX6_answer_40 (by decide) ?_
    exact w41 _ _ _ _ _ _ H locs ls hf hP hD hS (lv_sub hl [0, 1, 2] rfl)
  have w15 : ∀ (t1 : Int32) (t2 : Int32) (x1 : Int32) (x2 : Int32) (mT : Int32) (AN : Nat → Int32) (H : Heap) (locs : List Loc) (ls : Array Slot), f_X6_answer_J15 mW mH mS t1 t2 x1 x2 mT AN = some res → va_P D vwCl (wM cI β mT mW mH mS mR mL mC mZ mA mB KK KN KS KC AN JK JN JS JL MY KP FI TX) H → va_D A (wM cI β mT mW mH mS mR mL mC mZ mA mB KK KN KS KC AN JK JN JS JL MY KP FI TX) → va_S A s.heap H locs → lv_has ls 3 [(0, .ref (β 0)), (1, .int x1), (2, .int x2)] → W p l e rm_X6_answer s m args below meth c H locs 0 0 (MQ below (kQi D A (wM cI β res.2.1 mW mH mS mR mL mC mZ mA mB KK KN KS KC res.2.2 JK JN JS JL MY KP FI TX) res.1) args s 0 0 A) (F0 m 15 ls [.int t2, .int t1, .ref (β 0)]) := by
    intro t1 t2 x1 x2 mT AN H locs ls hf hP hD hS hl
    unfold f_X6_answer_J15 at hf
    obtain ⟨q3, hq3, hf⟩ := bnd hf
    refine kI_callV (As := [.int t1, .int t2]) (rest := []) S hP hD hS (c_X6_throwsIf l D cI β mT mW mH mS mR mL mC mZ mA mB KK KN KS KC AN JK JN JS JL MY KP FI TX t1 t2 q3 hq3) (cwV 2 hts gX6_answer_X6_throwsIf rfl rfl rfl (by decide +kernel) ⟨Nat.le_of_ble_eq_true rfl, Nat.le_of_ble_eq_true rfl⟩) 0 rfl rfl rfl hl.1 rfl (Nat.le_of_ble_eq_true rfl) dX6_answer_15 ⟨Nat.zero_le _, Nat.zero_le _⟩ (fun H locs hP hD hS => ?_)
    have hP : va_P D vwCl (wM cI β q3.2 mW mH mS mR mL mC mZ mA mB KK KN KS KC AN JK JN JS JL MY KP FI TX) H := hP
    have hD : va_D A (wM cI β q3.2 mW mH mS mR mL mC mZ mA mB KK KN KS KC AN JK JN JS JL MY KP FI TX) := hD
    refine lv_if_ne (tgt := 57) hx hb dX6_answer_18 (by decide) (fun c4 => ?_) (fun c4 => ?_)
    · have hf := it_t c4 hf
      refine lv_iconst (v := (0 : Int32)) hx hb dX6_answer_57 (by decide) ?_
      have e9 := Option.some.inj hf
      subst e9
      exact kI_ret S narrow_b0 hP hD hS dX6_answer_58
    · have hf := it_f (fun h9 => h9 c4) hf
      refine lv_aload_n hx hb dX6_answer_21 rfl (lv_at hl 0 rfl) ?_
      refine lv_iconst (v := (2 : Int32)) hx hb dX6_answer_22 (by decide) ?_
      refine lv_iload_n hx hb dX6_answer_23 rfl (lv_at hl 2 rfl) ?_
      refine lv_iconst (v := (-1 : Int32)) hx hb dX6_answer_24 (by decide) ?_
      refine lv_icmp_eq (tgt := 40) hx hb dX6_answer_25 (by decide) (fun c5 => ?_) (fun c5 => ?_)
      · have hf := it_t c5 hf
        exact w40 _ _ _ _ _ H locs ls hf hP hD hS (lv_sub hl [0, 1, 2] rfl)
      · have hf := it_f c5 hf
        refine lv_aload_n hx hb dX6_answer_28 rfl (lv_at hl 0 rfl) ?_
        refine lv_iload_n hx hb dX6_answer_29 rfl (lv_at hl 2 rfl) ?_
        obtain ⟨q6, hq6, hf⟩ := bnd hf
        refine kI_callV (As := [.int x2]) (rest := [.int (2 : Int32), .ref (β 0)]) S hP hD hS (c_X6_isSymbol l D cI β q3.2 mW mH mS mR mL mC mZ mA mB KK KN KS KC AN JK JN JS JL MY KP FI TX x2 q6 hq6) (cwV 1 hts gX6_answer_X6_isSymbol rfl rfl rfl (by decide +kernel) ⟨Nat.le_of_ble_eq_true rfl, Nat.le_of_ble_eq_true rfl⟩) 0 rfl rfl rfl hl.1 rfl (Nat.le_of_ble_eq_true rfl) dX6_answer_30 ⟨Nat.zero_le _, Nat.zero_le _⟩ (fun H locs hP hD hS => ?_)
        have hP : va_P D vwCl (wM cI β q3.2 mW mH mS mR mL mC mZ mA mB KK KN KS KC AN JK JN JS JL MY KP FI TX) H := hP
        have hD : va_D A (wM cI β q3.2 mW mH mS mR mL mC mZ mA mB KK KN KS KC AN JK JN JS JL MY KP FI TX) := hD
        refine lv_if_ne (tgt := 40) hx hb dX6_answer_33 (by decide) (fun c7 => ?_) (fun c7 => ?_)
        · have hf := it_t c7 hf
          exact w40 _ _ _ _ _ H locs ls hf hP hD hS (lv_sub hl [0, 1, 2] rfl)
        · have hf := it_f (fun h9 => h9 c7) hf
          refine lv_iconst (v := (1 : Int32)) hx hb dX6_answer_36 (by decide) ?_
          refine lv_goto (tgt := 41) hx hb dX6_answer_37 (by decide) ?_
          exact w41 _ _ _ _ _ _ H locs ls hf hP hD hS (lv_sub hl [0, 1, 2] rfl)
  suffices hgo : ∀ (H : Heap) (locs : List Loc), va_P D vwCl (wM cI β mT mW mH mS mR mL mC mZ mA mB KK KN KS KC AN JK JN JS JL MY KP FI TX) H → va_D A (wM cI β mT mW mH mS mR mL mC mZ mA mB KK KN KS KC AN JK JN JS JL MY KP FI TX) → va_S A s.heap H locs → W p l e rm_X6_answer s m args below meth c H locs 0 0 (MQ below (kQi D A (wM cI β res.2.1 mW mH mS mR mL mC mZ mA mB KK KN KS KC res.2.2 JK JN JS JL MY KP FI TX) res.1) args s 0 0 A) (F0 m 0 ls []) from hgo _ _ hP hD hS
  clear hP hD hS
  intro H locs hP hD hS
  refine lv_aload_n hx hb dX6_answer_0 rfl (lv_at hl 0 rfl) ?_
  refine lv_iconst (v := (1 : Int32)) hx hb dX6_answer_1 (by decide) ?_
  refine lv_aload_n hx hb dX6_answer_2 rfl (lv_at hl 0 rfl) ?_
  refine lv_iload_n hx hb dX6_answer_3 rfl (lv_at hl 1 rfl) ?_
  obtain ⟨q1, hq1, hf⟩ := bnd hf
  refine kI_callV (As := [.int x1]) (rest := [.int (1 : Int32), .ref (β 0)]) S hP hD hS (c_X6_isCell l D cI β mT mW mH mS mR mL mC mZ mA mB KK KN KS KC AN JK JN JS JL MY KP FI TX x1 q1 hq1) (cwV 1 hts gX6_answer_X6_isCell rfl rfl rfl (by decide +kernel) ⟨Nat.le_of_ble_eq_true rfl, Nat.le_of_ble_eq_true rfl⟩) 0 rfl rfl rfl hl.1 rfl (Nat.le_of_ble_eq_true rfl) dX6_answer_4 ⟨Nat.zero_le _, Nat.zero_le _⟩ (fun H locs hP hD hS => ?_)
  have hP : va_P D vwCl (wM cI β mT mW mH mS mR mL mC mZ mA mB KK KN KS KC AN JK JN JS JL MY KP FI TX) H := hP
  have hD : va_D A (wM cI β mT mW mH mS mR mL mC mZ mA mB KK KN KS KC AN JK JN JS JL MY KP FI TX) := hD
  refine lv_if_ne (tgt := 14) hx hb dX6_answer_7 (by decide) (fun c2 => ?_) (fun c2 => ?_)
  · have hf := it_t c2 hf
    refine lv_iconst (v := (0 : Int32)) hx hb dX6_answer_14 (by decide) ?_
    exact w15 _ _ _ _ _ _ H locs ls hf hP hD hS (lv_sub hl [0, 1, 2] rfl)
  · have hf := it_f (fun h9 => h9 c2) hf
    refine lv_iconst (v := (1 : Int32)) hx hb dX6_answer_10 (by decide) ?_
    refine lv_goto (tgt := 15) hx hb dX6_answer_11 (by decide) ?_
    exact w15 _ _ _ _ _ _ H locs ls hf hP hD hS (lv_sub hl [0, 1, 2] rfl)
abbrev rm_X6_isNext : Room := { frames := 0, cells := 0, slots := 0, locals := 0 }
set_option maxHeartbeats 4000000 in
set_option maxRecDepth 100000 in
theorem c_X6_isNext (l : Launch) (D : va_G) (cI : ClassId) (β : Nat → Nat) (mT mW mH mS mR mL mC mZ mA mB : Int32) (KK KN KS KC AN JK JN JS JL MY KP FI TX : Nat → Int32) (x1 : Int32) (x2 : Int32) (res : Int32) (hf : f_X6_isNext mW x1 x2 = some res) : kI l yX6_isNext wsX6_isNext rm_X6_isNext D cI [.ref (β 0), .int x1, .int x2] (wM cI β mT mW mH mS mR mL mC mZ mA mB KK KN KS KC AN JK JN JS JL MY KP FI TX) (wM cI β mT mW mH mS mR mL mC mZ mA mB KK KN KS KC AN JK JN JS JL MY KP FI TX) res := by
  unfold f_X6_isNext at hf
  refine kI_of (cc := cX6_isNext) (maxL := 5) (ret := (some .boolean)) (by decide +kernel) rfl (Nat.le_of_ble_eq_true rfl) ?_
  intro p e s m args below meth c A ls S hP hD hS hl
  have S : kC p s m args meth c cX6_isNext 5 wsX6_isNext RX6 (some .boolean) D cI A := S
  have hx := S.1.1
  have hb := S.1.2.1
  have hml := S.1.2.2.1
  have hown : s.vm.findClass RX6 = some m.cls := S.1.2.2.2.1
  have hts := S.1.2.2.2.2
  have hK := S.2.2.2.1
  have hnk := S.2.2.2.2.1.2
  have hiX6 : ∀ w ∈ u_ws RX6 TX6 23, w ∈ wsX6_isNext := by decide +kernel
  have fl53 := hts (.fieldLink RX6 53 "ProofCheckerModel" "width" "I") (by decide +kernel)
  have hl : lv_has ls 5 [(0, .ref (β 0)), (1, .int x1), (2, .int x2)] := hl
  suffices hgo : ∀ (H : Heap) (locs : List Loc), va_P D vwCl (wM cI β mT mW mH mS mR mL mC mZ mA mB KK KN KS KC AN JK JN JS JL MY KP FI TX) H → va_D A (wM cI β mT mW mH mS mR mL mC mZ mA mB KK KN KS KC AN JK JN JS JL MY KP FI TX) → va_S A s.heap H locs → W p l e rm_X6_isNext s m args below meth c H locs 0 0 (MQ below (kQi D A (wM cI β mT mW mH mS mR mL mC mZ mA mB KK KN KS KC AN JK JN JS JL MY KP FI TX) res) args s 0 0 A) (F0 m 0 ls []) from hgo _ _ hP hD hS
  clear hP hD hS
  intro H locs hP hD hS
  refine lv_iload_n hx hb dX6_isNext_0 rfl (lv_at hl 1 rfl) ?_
  refine lv_aload_n hx hb dX6_isNext_1 rfl (lv_at hl 0 rfl) ?_
  refine va_get (D := D) (ci := 7) (v := .int mW) (C := RX6) (T := TX6) (N := 23) hx hb hts hiX6 hown hK hP 0 rfl rfl 1 (by decide) fl53 (fun _ h9 => h9) rfl dX6_isNext_2 ?_
  obtain ⟨g1, hf⟩ := gnz_some hf
  refine lv_irem hx hb dX6_isNext_5 g1 ?_
  refine lv_iload_n hx hb dX6_isNext_6 rfl (lv_at hl 2 rfl) ?_
  refine lv_aload_n hx hb dX6_isNext_7 rfl (lv_at hl 0 rfl) ?_
  refine va_get (D := D) (ci := 7) (v := .int mW) (C := RX6) (T := TX6) (N := 23) hx hb hts hiX6 hown hK hP 0 rfl rfl 1 (by decide) fl53 (fun _ h9 => h9) rfl dX6_isNext_8 ?_
  obtain ⟨g2, hf⟩ := gnz_some hf
  refine lv_irem hx hb dX6_isNext_11 g2 ?_
  refine lv_isub hx hb dX6_isNext_12 ?_
  refine lv_istore_n (lv' := [(3, .int ((x1 - x1 / mW * mW) - (x2 - x2 / mW * mW))), (0, .ref (β 0)), (1, .int x1), (2, .int x2)]) hx hb dX6_isNext_13 rfl hl (by decide) rfl (fun ls hl => ?_)
  refine lv_iload_n hx hb dX6_isNext_14 rfl (lv_at hl 2 rfl) ?_
  refine lv_aload_n hx hb dX6_isNext_15 rfl (lv_at hl 1 rfl) ?_
  refine va_get (D := D) (ci := 7) (v := .int mW) (C := RX6) (T := TX6) (N := 23) hx hb hts hiX6 hown hK hP 0 rfl rfl 1 (by decide) fl53 (fun _ h9 => h9) rfl dX6_isNext_16 ?_
  obtain ⟨g3, hf⟩ := gnz_some hf
  refine lv_idiv hx hb dX6_isNext_19 g3 ?_
  refine lv_iload_n hx hb dX6_isNext_20 rfl (lv_at hl 3 rfl) ?_
  refine lv_aload_n hx hb dX6_isNext_21 rfl (lv_at hl 1 rfl) ?_
  refine va_get (D := D) (ci := 7) (v := .int mW) (C := RX6) (T := TX6) (N := 23) hx hb hts hiX6 hown hK hP 0 rfl rfl 1 (by decide) fl53 (fun _ h9 => h9) rfl dX6_isNext_22 ?_
  obtain ⟨g4, hf⟩ := gnz_some hf
  refine lv_idiv hx hb dX6_isNext_25 g4 ?_
  refine lv_isub hx hb dX6_isNext_26 ?_
  refine lv_istore (lv' := [(4, .int ((x1 / mW) - (x2 / mW))), (3, .int ((x1 - x1 / mW * mW) - (x2 - x2 / mW * mW))), (0, .ref (β 0)), (1, .int x1), (2, .int x2)]) hx hb dX6_isNext_27 hl (by decide) rfl (fun ls hl => ?_)
  refine lv_iload_n hx hb dX6_isNext_29 rfl (lv_at hl 1 rfl) ?_
  refine lv_iload_n hx hb dX6_isNext_30 rfl (lv_at hl 1 rfl) ?_
  refine lv_imul hx hb dX6_isNext_31 ?_
  refine lv_iload hx hb dX6_isNext_32 (lv_at hl 0 rfl) ?_
  refine lv_iload hx hb dX6_isNext_34 (lv_at hl 0 rfl) ?_
  refine lv_imul hx hb dX6_isNext_36 ?_
  refine lv_iadd hx hb dX6_isNext_37 ?_
  refine lv_iconst (v := (1 : Int32)) hx hb dX6_isNext_38 (by decide) ?_
  refine lv_icmp_ne (tgt := 46) hx hb dX6_isNext_39 (by decide) (fun c5 => ?_) (fun c5 => ?_)
  · have hf := it_t c5 hf
    refine lv_iconst (v := (0 : Int32)) hx hb dX6_isNext_46 (by decide) ?_
    have e9 := Option.some.inj hf
    subst e9
    exact kI_ret S narrow_b0 hP hD hS dX6_isNext_47
  · have hf := it_f (fun h9 => h9 c5) hf
    refine lv_iconst (v := (1 : Int32)) hx hb dX6_isNext_42 (by decide) ?_
    refine lv_goto (tgt := 47) hx hb dX6_isNext_43 (by decide) ?_
    have e9 := Option.some.inj hf
    subst e9
    exact kI_ret S narrow_b1 hP hD hS dX6_isNext_47
abbrev rm_X6_hangs : Room := { frames := 1, cells := 0, slots := 0, locals := 24 }
set_option maxHeartbeats 4000000 in
set_option maxRecDepth 100000 in
theorem c_X6_hangs (l : Launch) (D : va_G) (cI : ClassId) (β : Nat → Nat) (mT mW mH mS mR mL mC mZ mA mB : Int32) (KK KN KS KC AN JK JN JS JL MY KP FI TX : Nat → Int32) (F : Nat) (x1 : Int32) (res : Int32) (hf : f_X6_hangs mW KS KC FI F x1 = some res) : kI l yX6_hangs wsX6_hangs rm_X6_hangs D cI [.ref (β 0), .int x1] (wM cI β mT mW mH mS mR mL mC mZ mA mB KK KN KS KC AN JK JN JS JL MY KP FI TX) (wM cI β mT mW mH mS mR mL mC mZ mA mB KK KN KS KC AN JK JN JS JL MY KP FI TX) res := by
  unfold f_X6_hangs at hf
  refine kI_of (cc := cX6_hangs) (maxL := 8) (ret := (some .boolean)) (by decide +kernel) rfl (Nat.le_of_ble_eq_true rfl) ?_
  intro p e s m args below meth c A ls S hP hD hS hl
  have S : kC p s m args meth c cX6_hangs 8 wsX6_hangs RX6 (some .boolean) D cI A := S
  have hx := S.1.1
  have hb := S.1.2.1
  have hml := S.1.2.2.1
  have hown : s.vm.findClass RX6 = some m.cls := S.1.2.2.2.1
  have hts := S.1.2.2.2.2
  have hK := S.2.2.2.1
  have hnk := S.2.2.2.2.1.2
  have hiX6 : ∀ w ∈ u_ws RX6 TX6 23, w ∈ wsX6_hangs := by decide +kernel
  have fl16 := hts (.fieldLink RX6 16 "ProofCheckerModel" "ruleSize" "[I") (by decide +kernel)
  have fl43 := hts (.fieldLink RX6 43 "ProofCheckerModel" "fill" "[I") (by decide +kernel)
  have hl : lv_has ls 8 [(0, .ref (β 0)), (1, .int x1)] := hl
  have w132 : ∀ (k59 : Int32 → Int32 → Int32 → Int32 → Int32 → Option (Int32)) (hk59 : ∀ (x1 : Int32) (x2 : Int32) (x3 : Int32) (x4 : Int32) (x5 : Int32) (H : Heap) (locs : List Loc) (ls : Array Slot), k59 x1 x2 x3 x4 x5 = some res → va_P D vwCl (wM cI β mT mW mH mS mR mL mC mZ mA mB KK KN KS KC AN JK JN JS JL MY KP FI TX) H → va_D A (wM cI β mT mW mH mS mR mL mC mZ mA mB KK KN KS KC AN JK JN JS JL MY KP FI TX) → va_S A s.heap H locs → lv_has ls 8 [(0, .ref (β 0)), (1, .int x1), (2, .int x2), (3, .int x3), (4, .int x4), (5, .int x5)] → W p l e rm_X6_hangs s m args below meth c H locs 0 0 (MQ below (kQi D A (wM cI β mT mW mH mS mR mL mC mZ mA mB KK KN KS KC AN JK JN JS JL MY KP FI TX) res) args s 0 0 A) (F0 m 59 ls [])), ∀ (k68 : Int32 → Int32 → Int32 → Int32 → Int32 → Int32 → Option (Int32)) (hk68 : ∀ (x1 : Int32) (x2 : Int32) (x3 : Int32) (x4 : Int32) (x5 : Int32) (x6 : Int32) (H : Heap) (locs : List Loc) (ls : Array Slot), k68 x1 x2 x3 x4 x5 x6 = some res → va_P D vwCl (wM cI β mT mW mH mS mR mL mC mZ mA mB KK KN KS KC AN JK JN JS JL MY KP FI TX) H → va_D A (wM cI β mT mW mH mS mR mL mC mZ mA mB KK KN KS KC AN JK JN JS JL MY KP FI TX) → va_S A s.heap H locs → lv_has ls 8 [(0, .ref (β 0)), (1, .int x1), (2, .int x2), (3, .int x3), (4, .int x4), (5, .int x5), (6, .int x6)] → W p l e rm_X6_hangs s m args below meth c H locs 0 0 (MQ below (kQi D A (wM cI β mT mW mH mS mR mL mC mZ mA mB KK KN KS KC AN JK JN JS JL MY KP FI TX) res) args s 0 0 A) (F0 m 68 ls [])), ∀ (k77 : Int32 → Int32 → Int32 → Int32 → Int32 → Int32 → Int32 → Option (Int32)) (hk77 : ∀ (x1 : Int32) (x2 : Int32) (x3 : Int32) (x4 : Int32) (x5 : Int32) (x6 : Int32) (x7 : Int32) (H : Heap) (locs : List Loc) (ls : Array Slot), k77 x1 x2 x3 x4 x5 x6 x7 = some res → va_P D vwCl (wM cI β mT mW mH mS mR mL mC mZ mA mB KK KN KS KC AN JK JN JS JL MY KP FI TX) H → va_D A (wM cI β mT mW mH mS mR mL mC mZ mA mB KK KN KS KC AN JK JN JS JL MY KP FI TX) → va_S A s.heap H locs → lv_has ls 8 [(0, .ref (β 0)), (1, .int x1), (2, .int x2), (3, .int x3), (4, .int x4), (5, .int x5), (6, .int x6), (7, .int x7)] → W p l e rm_X6_hangs s m args below meth c H locs 0 0 (MQ below (kQi D A (wM cI β mT mW mH mS mR mL mC mZ mA mB KK KN KS KC AN JK JN JS JL MY KP FI TX) res) args s 0 0 A) (F0 m 77 ls [])), ∀ (x1 : Int32) (x2 : Int32) (x3 : Int32) (x4 : Int32) (x5 : Int32) (x6 : Int32) (x7 : Int32) (H : Heap) (locs : List Loc) (ls : Array Slot), f_X6_hangs_J132 mW KS KC FI k59 k68 k77 F x1 x2 x3 x4 x5 x6 x7 = some res → va_P D vwCl (wM cI β mT mW mH mS mR mL mC mZ mA mB KK KN KS KC AN JK JN JS JL MY KP FI TX) H → va_D A (wM cI β mT mW mH mS mR mL mC mZ mA mB KK KN KS KC AN JK JN JS JL MY KP FI TX) → va_S A s.heap H locs → lv_has ls 8 [(0, .ref (β 0)), (1, .int x1), (2, .int x2), (3, .int x3), (4, .int x4), (5, .int x5), (6, .int x6), (7, .int x7)] → W p l e rm_X6_hangs s m args below meth c H locs 0 0 (MQ below (kQi D A (wM cI β mT mW mH mS mR mL mC mZ mA mB KK KN KS KC AN JK JN JS JL MY KP FI TX) res) args s 0 0 A) (F0 m 132 ls []) := by
    intro k59 hk59 k68 hk68 k77 hk77 x1 x2 x3 x4 x5 x6 x7 H locs ls hf hP hD hS hl
    unfold f_X6_hangs_J132 at hf
    refine lv_iinc (v := (x7 + (1 : Int32))) (lv' := [(7, .int (x7 + (1 : Int32))), (0, .ref (β 0)), (1, .int x1), (2, .int x2), (3, .int x3), (4, .int x4), (5, .int x5), (6, .int x6)]) hx hb dX6_hangs_132 hl (k := 7) rfl rfl (by decide) rfl (fun ls hl => ?_)
    refine lv_goto (tgt := 77) hx hb dX6_hangs_135 (by decide) ?_
    exact hk77 _ _ _ _ _ _ _ H locs ls hf hP hD hS (lv_sub hl [1, 2, 3, 4, 5, 6, 7, 0] rfl)
  have w77 : ∀ (k59 : Int32 → Int32 → Int32 → Int32 → Int32 → Option (Int32)) (hk59 : ∀ (x1 : Int32) (x2 : Int32) (x3 : Int32) (x4 : Int32) (x5 : Int32) (H : Heap) (locs : List Loc) (ls : Array Slot), k59 x1 x2 x3 x4 x5 = some res → va_P D vwCl (wM cI β mT mW mH mS mR mL mC mZ mA mB KK KN KS KC AN JK JN JS JL MY KP FI TX) H → va_D A (wM cI β mT mW mH mS mR mL mC mZ mA mB KK KN KS KC AN JK JN JS JL MY KP FI TX) → va_S A s.heap H locs → lv_has ls 8 [(0, .ref (β 0)), (1, .int x1), (2, .int x2), (3, .int x3), (4, .int x4), (5, .int x5)] → W p l e rm_X6_hangs s m args below meth c H locs 0 0 (MQ below (kQi D A (wM cI β mT mW mH mS mR mL mC mZ mA mB KK KN KS KC AN JK JN JS JL MY KP FI TX) res) args s 0 0 A) (F0 m 59 ls [])), ∀ (k68 : Int32 → Int32 → Int32 → Int32 → Int32 → Int32 → Option (Int32)) (hk68 : ∀ (x1 : Int32) (x2 : Int32) (x3 : Int32) (x4 : Int32) (x5 : Int32) (x6 : Int32) (H : Heap) (locs : List Loc) (ls : Array Slot), k68 x1 x2 x3 x4 x5 x6 = some res → va_P D vwCl (wM cI β mT mW mH mS mR mL mC mZ mA mB KK KN KS KC AN JK JN JS JL MY KP FI TX) H → va_D A (wM cI β mT mW mH mS mR mL mC mZ mA mB KK KN KS KC AN JK JN JS JL MY KP FI TX) → va_S A s.heap H locs → lv_has ls 8 [(0, .ref (β 0)), (1, .int x1), (2, .int x2), (3, .int x3), (4, .int x4), (5, .int x5), (6, .int x6)] → W p l e rm_X6_hangs s m args below meth c H locs 0 0 (MQ below (kQi D A (wM cI β mT mW mH mS mR mL mC mZ mA mB KK KN KS KC AN JK JN JS JL MY KP FI TX) res) args s 0 0 A) (F0 m 68 ls [])), ∀ (n : Nat), ∀ (x1 : Int32) (x2 : Int32) (x3 : Int32) (x4 : Int32) (x5 : Int32) (x6 : Int32) (x7 : Int32) (H : Heap) (locs : List Loc) (ls : Array Slot), f_X6_hangs_L77 mW KS KC FI k59 k68 F n x1 x2 x3 x4 x5 x6 x7 = some res → va_P D vwCl (wM cI β mT mW mH mS mR mL mC mZ mA mB KK KN KS KC AN JK JN JS JL MY KP FI TX) H → va_D A (wM cI β mT mW mH mS mR mL mC mZ mA mB KK KN KS KC AN JK JN JS JL MY KP FI TX) → va_S A s.heap H locs → lv_has ls 8 [(0, .ref (β 0)), (1, .int x1), (2, .int x2), (3, .int x3), (4, .int x4), (5, .int x5), (6, .int x6), (7, .int x7)] → W p l e rm_X6_hangs s m args below meth c H locs 0 0 (MQ below (kQi D A (wM cI β mT mW mH mS mR mL mC mZ mA mB KK KN KS KC AN JK JN JS JL MY KP FI TX) res) args s 0 0 A) (F0 m 77 ls []) := by
    intro k59 hk59 k68 hk68 n
    induction n with
    | zero => intro x1 x2 x3 x4 x5 x6 x7 H locs ls hf; cases hf
    | succ n ih =>
      intro x1 x2 x3 x4 x5 x6 x7 H locs ls hf hP hD hS hl
      rw [f_X6_hangs_L77.eq_2] at hf
      refine lv_iload hx hb dX6_hangs_77 (lv_at hl 7 rfl) ?_
      refine lv_iload_n hx hb dX6_hangs_79 rfl (lv_at hl 2 rfl) ?_
      refine lv_icmp_ge (tgt := 138) hx hb dX6_hangs_80 (by decide) (fun c8 => ?_) (fun c8 => ?_)
      · have hf := it_t c8 hf
        refine lv_iinc (v := (x6 + (1 : Int32))) (lv' := [(6, .int (x6 + (1 : Int32))), (0, .ref (β 0)), (1, .int x1), (2, .int x2), (3, .int x3), (4, .int x4), (5, .int x5), (7, .int x7)]) hx hb dX6_hangs_138 hl (k := 6) rfl rfl (by decide) rfl (fun ls hl => ?_)
        refine lv_goto (tgt := 68) hx hb dX6_hangs_141 (by decide) ?_
        exact hk68 _ _ _ _ _ _ H locs ls hf hP hD hS (lv_sub hl [1, 2, 3, 4, 5, 6, 0] rfl)
      · have hf := it_f c8 hf
        refine lv_iload_n hx hb dX6_hangs_83 rfl (lv_at hl 3 rfl) ?_
        refine lv_iload hx hb dX6_hangs_84 (lv_at hl 6 rfl) ?_
        refine lv_ishr hx hb dX6_hangs_86 ?_
        refine lv_iconst (v := (1 : Int32)) hx hb dX6_hangs_87 (by decide) ?_
        refine lv_iand hx hb dX6_hangs_88 ?_
        refine lv_iconst (v := (1 : Int32)) hx hb dX6_hangs_89 (by decide) ?_
        refine lv_icmp_ne (tgt := 132) hx hb dX6_hangs_90 (by decide) (fun c9 => ?_) (fun c9 => ?_)
        · have hf := it_t c9 hf
          exact w132 k59 hk59 k68 hk68 _ ih _ _ _ _ _ _ _ H locs ls hf hP hD hS (lv_sub hl [0, 1, 2, 3, 4, 5, 6, 7] rfl)
        · have hf := it_f (fun h9 => h9 c9) hf
          refine lv_iload hx hb dX6_hangs_93 (lv_at hl 4 rfl) ?_
          refine lv_iload hx hb dX6_hangs_95 (lv_at hl 7 rfl) ?_
          refine lv_ishr hx hb dX6_hangs_97 ?_
          refine lv_iconst (v := (1 : Int32)) hx hb dX6_hangs_98 (by decide) ?_
          refine lv_iand hx hb dX6_hangs_99 ?_
          refine lv_iconst (v := (1 : Int32)) hx hb dX6_hangs_100 (by decide) ?_
          refine lv_icmp_ne (tgt := 132) hx hb dX6_hangs_101 (by decide) (fun c10 => ?_) (fun c10 => ?_)
          · have hf := it_t c10 hf
            exact w132 k59 hk59 k68 hk68 _ ih _ _ _ _ _ _ _ H locs ls hf hP hD hS (lv_sub hl [0, 1, 2, 3, 4, 5, 6, 7] rfl)
          · have hf := it_f (fun h9 => h9 c10) hf
            refine lv_aload_n hx hb dX6_hangs_104 rfl (lv_at hl 0 rfl) ?_
            refine lv_aload_n hx hb dX6_hangs_105 rfl (lv_at hl 0 rfl) ?_
            refine lv_iload_n hx hb dX6_hangs_106 rfl (lv_at hl 1 rfl) ?_
            refine lv_iload hx hb dX6_hangs_107 (lv_at hl 6 rfl) ?_
            obtain ⟨q11, hq11, hf⟩ := bnd hf
            refine kI_callV (As := [.int x1, .int x6]) (rest := [.ref (β 0)]) S hP hD hS (c_X6_member l D cI β mT mW mH mS mR mL mC mZ mA mB KK KN KS KC AN JK JN JS JL MY KP FI TX x1 x6 q11 hq11) (cwV 2 hts gX6_hangs_X6_member rfl rfl rfl (by decide +kernel) ⟨Nat.le_of_ble_eq_true rfl, Nat.le_of_ble_eq_true rfl⟩) 0 rfl rfl rfl hl.1 rfl (Nat.le_of_ble_eq_true rfl) dX6_hangs_109 ⟨Nat.zero_le _, Nat.zero_le _⟩ (fun H locs hP hD hS => ?_)
            have hP : va_P D vwCl (wM cI β mT mW mH mS mR mL mC mZ mA mB KK KN KS KC AN JK JN JS JL MY KP FI TX) H := hP
            have hD : va_D A (wM cI β mT mW mH mS mR mL mC mZ mA mB KK KN KS KC AN JK JN JS JL MY KP FI TX) := hD
            refine lv_aload_n hx hb dX6_hangs_112 rfl (lv_at hl 0 rfl) ?_
            refine lv_iload_n hx hb dX6_hangs_113 rfl (lv_at hl 1 rfl) ?_
            refine lv_iload hx hb dX6_hangs_114 (lv_at hl 7 rfl) ?_
            obtain ⟨q12, hq12, hf⟩ := bnd hf
            refine kI_callV (As := [.int x1, .int x7]) (rest := [.int q11, .ref (β 0)]) S hP hD hS (c_X6_member l D cI β mT mW mH mS mR mL mC mZ mA mB KK KN KS KC AN JK JN JS JL MY KP FI TX x1 x7 q12 hq12) (cwV 2 hts gX6_hangs_X6_member rfl rfl rfl (by decide +kernel) ⟨Nat.le_of_ble_eq_true rfl, Nat.le_of_ble_eq_true rfl⟩) 0 rfl rfl rfl hl.1 rfl (Nat.le_of_ble_eq_true rfl) dX6_hangs_116 ⟨Nat.zero_le _, Nat.zero_le _⟩ (fun H locs hP hD hS => ?_)
            have hP : va_P D vwCl (wM cI β mT mW mH mS mR mL mC mZ mA mB KK KN KS KC AN JK JN JS JL MY KP FI TX) H := hP
            have hD : va_D A (wM cI β mT mW mH mS mR mL mC mZ mA mB KK KN KS KC AN JK JN JS JL MY KP FI TX) := hD
            obtain ⟨q13, hq13, hf⟩ := bnd hf
            refine kI_callV (As := [.int q11, .int q12]) (rest := []) S hP hD hS (c_X6_isNext l D cI β mT mW mH mS mR mL mC mZ mA mB KK KN KS KC AN JK JN JS JL MY KP FI TX q11 q12 q13 hq13) (cwV 2 hts gX6_hangs_X6_isNext rfl rfl rfl (by decide +kernel) ⟨Nat.le_of_ble_eq_true rfl, Nat.le_of_ble_eq_true rfl⟩) 0 rfl rfl rfl hl.1 rfl (Nat.le_of_ble_eq_true rfl) dX6_hangs_119 ⟨Nat.zero_le _, Nat.zero_le _⟩ (fun H locs hP hD hS => ?_)
            have hP : va_P D vwCl (wM cI β mT mW mH mS mR mL mC mZ mA mB KK KN KS KC AN JK JN JS JL MY KP FI TX) H := hP
            have hD : va_D A (wM cI β mT mW mH mS mR mL mC mZ mA mB KK KN KS KC AN JK JN JS JL MY KP FI TX) := hD
            refine lv_if_eq (tgt := 132) hx hb dX6_hangs_122 (by decide) (fun c14 => ?_) (fun c14 => ?_)
            · have hf := it_t c14 hf
              exact w132 k59 hk59 k68 hk68 _ ih _ _ _ _ _ _ _ H locs ls hf hP hD hS (lv_sub hl [0, 1, 2, 3, 4, 5, 6, 7] rfl)
            · have hf := it_f c14 hf
              refine lv_iload_n hx hb dX6_hangs_125 rfl (lv_at hl 3 rfl) ?_
              refine lv_iconst (v := (1 : Int32)) hx hb dX6_hangs_126 (by decide) ?_
              refine lv_iload hx hb dX6_hangs_127 (lv_at hl 7 rfl) ?_
              refine lv_ishl hx hb dX6_hangs_129 ?_
              refine lv_ior hx hb dX6_hangs_130 ?_
              refine lv_istore_n (lv' := [(3, .int ((x3 ||| ((1 : Int32) <<< (x7 &&& 31))))), (0, .ref (β 0)), (1, .int x1), (2, .int x2), (4, .int x4), (5, .int x5), (6, .int x6), (7, .int x7)]) hx hb dX6_hangs_131 rfl hl (by decide) rfl (fun ls hl => ?_)
              exact w132 k59 hk59 k68 hk68 _ ih _ _ _ _ _ _ _ H locs ls hf hP hD hS (lv_sub hl [1, 2, 3, 0, 4, 5, 6, 7] rfl)
  have w68 : ∀ (k59 : Int32 → Int32 → Int32 → Int32 → Int32 → Option (Int32)) (hk59 : ∀ (x1 : Int32) (x2 : Int32) (x3 : Int32) (x4 : Int32) (x5 : Int32) (H : Heap) (locs : List Loc) (ls : Array Slot), k59 x1 x2 x3 x4 x5 = some res → va_P D vwCl (wM cI β mT mW mH mS mR mL mC mZ mA mB KK KN KS KC AN JK JN JS JL MY KP FI TX) H → va_D A (wM cI β mT mW mH mS mR mL mC mZ mA mB KK KN KS KC AN JK JN JS JL MY KP FI TX) → va_S A s.heap H locs → lv_has ls 8 [(0, .ref (β 0)), (1, .int x1), (2, .int x2), (3, .int x3), (4, .int x4), (5, .int x5)] → W p l e rm_X6_hangs s m args below meth c H locs 0 0 (MQ below (kQi D A (wM cI β mT mW mH mS mR mL mC mZ mA mB KK KN KS KC AN JK JN JS JL MY KP FI TX) res) args s 0 0 A) (F0 m 59 ls [])), ∀ (n : Nat), ∀ (x1 : Int32) (x2 : Int32) (x3 : Int32) (x4 : Int32) (x5 : Int32) (x6 : Int32) (H : Heap) (locs : List Loc) (ls : Array Slot), f_X6_hangs_L68 mW KS KC FI k59 F n x1 x2 x3 x4 x5 x6 = some res → va_P D vwCl (wM cI β mT mW mH mS mR mL mC mZ mA mB KK KN KS KC AN JK JN JS JL MY KP FI TX) H → va_D A (wM cI β mT mW mH mS mR mL mC mZ mA mB KK KN KS KC AN JK JN JS JL MY KP FI TX) → va_S A s.heap H locs → lv_has ls 8 [(0, .ref (β 0)), (1, .int x1), (2, .int x2), (3, .int x3), (4, .int x4), (5, .int x5), (6, .int x6)] → W p l e rm_X6_hangs s m args below meth c H locs 0 0 (MQ below (kQi D A (wM cI β mT mW mH mS mR mL mC mZ mA mB KK KN KS KC AN JK JN JS JL MY KP FI TX) res) args s 0 0 A) (F0 m 68 ls []) := by
    intro k59 hk59 n
    induction n with
    | zero => intro x1 x2 x3 x4 x5 x6 H locs ls hf; cases hf
    | succ n ih =>
      intro x1 x2 x3 x4 x5 x6 H locs ls hf hP hD hS hl
      rw [f_X6_hangs_L68.eq_2] at hf
      refine lv_iload hx hb dX6_hangs_68 (lv_at hl 6 rfl) ?_
      refine lv_iload_n hx hb dX6_hangs_70 rfl (lv_at hl 2 rfl) ?_
      refine lv_icmp_ge (tgt := 144) hx hb dX6_hangs_71 (by decide) (fun c7 => ?_) (fun c7 => ?_)
      · have hf := it_t c7 hf
        refine lv_iinc (v := (x5 + (1 : Int32))) (lv' := [(5, .int (x5 + (1 : Int32))), (0, .ref (β 0)), (1, .int x1), (2, .int x2), (3, .int x3), (4, .int x4), (6, .int x6)]) hx hb dX6_hangs_144 hl (k := 5) rfl rfl (by decide) rfl (fun ls hl => ?_)
        refine lv_goto (tgt := 59) hx hb dX6_hangs_147 (by decide) ?_
        exact hk59 _ _ _ _ _ H locs ls hf hP hD hS (lv_sub hl [1, 2, 3, 4, 5, 0] rfl)
      · have hf := it_f c7 hf
        refine lv_iconst (v := (0 : Int32)) hx hb dX6_hangs_74 (by decide) ?_
        refine lv_istore (lv' := [(7, .int (0 : Int32)), (0, .ref (β 0)), (1, .int x1), (2, .int x2), (3, .int x3), (4, .int x4), (5, .int x5), (6, .int x6)]) hx hb dX6_hangs_75 hl (by decide) rfl (fun ls hl => ?_)
        exact w77 k59 hk59 _ ih F _ _ _ _ _ _ _ H locs ls hf hP hD hS (lv_sub hl [1, 2, 3, 4, 5, 6, 7, 0] rfl)
  have w59 : ∀ (n : Nat), ∀ (x1 : Int32) (x2 : Int32) (x3 : Int32) (x4 : Int32) (x5 : Int32) (H : Heap) (locs : List Loc) (ls : Array Slot), f_X6_hangs_L59 mW KS KC FI F n x1 x2 x3 x4 x5 = some res → va_P D vwCl (wM cI β mT mW mH mS mR mL mC mZ mA mB KK KN KS KC AN JK JN JS JL MY KP FI TX) H → va_D A (wM cI β mT mW mH mS mR mL mC mZ mA mB KK KN KS KC AN JK JN JS JL MY KP FI TX) → va_S A s.heap H locs → lv_has ls 8 [(0, .ref (β 0)), (1, .int x1), (2, .int x2), (3, .int x3), (4, .int x4), (5, .int x5)] → W p l e rm_X6_hangs s m args below meth c H locs 0 0 (MQ below (kQi D A (wM cI β mT mW mH mS mR mL mC mZ mA mB KK KN KS KC AN JK JN JS JL MY KP FI TX) res) args s 0 0 A) (F0 m 59 ls []) := by
    intro n
    induction n with
    | zero => intro x1 x2 x3 x4 x5 H locs ls hf; cases hf
    | succ n ih =>
      intro x1 x2 x3 x4 x5 H locs ls hf hP hD hS hl
      rw [f_X6_hangs_L59.eq_2] at hf
      refine lv_iload hx hb dX6_hangs_59 (lv_at hl 5 rfl) ?_
      refine lv_iload_n hx hb dX6_hangs_61 rfl (lv_at hl 2 rfl) ?_
      refine lv_icmp_ge (tgt := 150) hx hb dX6_hangs_62 (by decide) (fun c5 => ?_) (fun c5 => ?_)
      · have hf := it_t c5 hf
        refine lv_iload_n hx hb dX6_hangs_150 rfl (lv_at hl 3 rfl) ?_
        refine lv_iload hx hb dX6_hangs_151 (lv_at hl 4 rfl) ?_
        refine lv_icmp_ne (tgt := 160) hx hb dX6_hangs_153 (by decide) (fun c6 => ?_) (fun c6 => ?_)
        · have hf := it_t c6 hf
          refine lv_iconst (v := (0 : Int32)) hx hb dX6_hangs_160 (by decide) ?_
          have e9 := Option.some.inj hf
          subst e9
          exact kI_ret S narrow_b0 hP hD hS dX6_hangs_161
        · have hf := it_f (fun h9 => h9 c6) hf
          refine lv_iconst (v := (1 : Int32)) hx hb dX6_hangs_156 (by decide) ?_
          refine lv_goto (tgt := 161) hx hb dX6_hangs_157 (by decide) ?_
          have e9 := Option.some.inj hf
          subst e9
          exact kI_ret S narrow_b1 hP hD hS dX6_hangs_161
      · have hf := it_f c5 hf
        refine lv_iconst (v := (0 : Int32)) hx hb dX6_hangs_65 (by decide) ?_
        refine lv_istore (lv' := [(6, .int (0 : Int32)), (0, .ref (β 0)), (1, .int x1), (2, .int x2), (3, .int x3), (4, .int x4), (5, .int x5)]) hx hb dX6_hangs_66 hl (by decide) rfl (fun ls hl => ?_)
        exact w68 _ ih F _ _ _ _ _ _ H locs ls hf hP hD hS (lv_sub hl [1, 2, 3, 4, 5, 6, 0] rfl)
  have w50 : ∀ (k17 : Int32 → Int32 → Int32 → Int32 → Int32 → Option (Int32)) (hk17 : ∀ (x1 : Int32) (x2 : Int32) (x3 : Int32) (x4 : Int32) (x5 : Int32) (H : Heap) (locs : List Loc) (ls : Array Slot), k17 x1 x2 x3 x4 x5 = some res → va_P D vwCl (wM cI β mT mW mH mS mR mL mC mZ mA mB KK KN KS KC AN JK JN JS JL MY KP FI TX) H → va_D A (wM cI β mT mW mH mS mR mL mC mZ mA mB KK KN KS KC AN JK JN JS JL MY KP FI TX) → va_S A s.heap H locs → lv_has ls 8 [(0, .ref (β 0)), (1, .int x1), (2, .int x2), (3, .int x3), (4, .int x4), (5, .int x5)] → W p l e rm_X6_hangs s m args below meth c H locs 0 0 (MQ below (kQi D A (wM cI β mT mW mH mS mR mL mC mZ mA mB KK KN KS KC AN JK JN JS JL MY KP FI TX) res) args s 0 0 A) (F0 m 17 ls [])), ∀ (x1 : Int32) (x2 : Int32) (x3 : Int32) (x4 : Int32) (x5 : Int32) (H : Heap) (locs : List Loc) (ls : Array Slot), f_X6_hangs_J50 mW KS KC FI k17 F x1 x2 x3 x4 x5 = some res → va_P D vwCl (wM cI β mT mW mH mS mR mL mC mZ mA mB KK KN KS KC AN JK JN JS JL MY KP FI TX) H → va_D A (wM cI β mT mW mH mS mR mL mC mZ mA mB KK KN KS KC AN JK JN JS JL MY KP FI TX) → va_S A s.heap H locs → lv_has ls 8 [(0, .ref (β 0)), (1, .int x1), (2, .int x2), (3, .int x3), (4, .int x4), (5, .int x5)] → W p l e rm_X6_hangs s m args below meth c H locs 0 0 (MQ below (kQi D A (wM cI β mT mW mH mS mR mL mC mZ mA mB KK KN KS KC AN JK JN JS JL MY KP FI TX) res) args s 0 0 A) (F0 m 50 ls []) := by
    intro k17 hk17 x1 x2 x3 x4 x5 H locs ls hf hP hD hS hl
    unfold f_X6_hangs_J50 at hf
    refine lv_iinc (v := (x5 + (-1 : Int32))) (lv' := [(5, .int (x5 + (-1 : Int32))), (0, .ref (β 0)), (1, .int x1), (2, .int x2), (3, .int x3), (4, .int x4)]) hx hb dX6_hangs_50 hl (k := 5) rfl rfl (by decide) rfl (fun ls hl => ?_)
    refine lv_goto (tgt := 17) hx hb dX6_hangs_53 (by decide) ?_
    exact hk17 _ _ _ _ _ H locs ls hf hP hD hS (lv_sub hl [1, 2, 3, 4, 5, 0] rfl)
  have w17 : ∀ (n : Nat), ∀ (x1 : Int32) (x2 : Int32) (x3 : Int32) (x4 : Int32) (x5 : Int32) (H : Heap) (locs : List Loc) (ls : Array Slot), f_X6_hangs_L17 mW KS KC FI F n x1 x2 x3 x4 x5 = some res → va_P D vwCl (wM cI β mT mW mH mS mR mL mC mZ mA mB KK KN KS KC AN JK JN JS JL MY KP FI TX) H → va_D A (wM cI β mT mW mH mS mR mL mC mZ mA mB KK KN KS KC AN JK JN JS JL MY KP FI TX) → va_S A s.heap H locs → lv_has ls 8 [(0, .ref (β 0)), (1, .int x1), (2, .int x2), (3, .int x3), (4, .int x4), (5, .int x5)] → W p l e rm_X6_hangs s m args below meth c H locs 0 0 (MQ below (kQi D A (wM cI β mT mW mH mS mR mL mC mZ mA mB KK KN KS KC AN JK JN JS JL MY KP FI TX) res) args s 0 0 A) (F0 m 17 ls []) := by
    intro n
    induction n with
    | zero => intro x1 x2 x3 x4 x5 H locs ls hf; cases hf
    | succ n ih =>
      intro x1 x2 x3 x4 x5 H locs ls hf hP hD hS hl
      rw [f_X6_hangs_L17.eq_2] at hf
      refine lv_iload hx hb dX6_hangs_17 (lv_at hl 5 rfl) ?_
      refine lv_if_lt (tgt := 56) hx hb dX6_hangs_19 (by decide) (fun c2 => ?_) (fun c2 => ?_)
      · have hf := it_t c2 hf
        refine lv_iconst (v := (0 : Int32)) hx hb dX6_hangs_56 (by decide) ?_
        refine lv_istore (lv' := [(5, .int (0 : Int32)), (0, .ref (β 0)), (1, .int x1), (2, .int x2), (3, .int x3), (4, .int x4)]) hx hb dX6_hangs_57 hl (by decide) rfl (fun ls hl => ?_)
        exact w59 F _ _ _ _ _ H locs ls hf hP hD hS (lv_sub hl [1, 2, 3, 4, 5, 0] rfl)
      · have hf := it_f c2 hf
        refine lv_aload_n hx hb dX6_hangs_22 rfl (lv_at hl 0 rfl) ?_
        refine va_get (D := D) (ci := 7) (v := .ref (β 12)) (C := RX6) (T := TX6) (N := 23) hx hb hts hiX6 hown hK hP 0 rfl rfl 18 (by decide) fl43 (fun _ h9 => h9) rfl dX6_hangs_23 ?_
        refine lv_iload hx hb dX6_hangs_26 (lv_at hl 5 rfl) ?_
        obtain ⟨g3, hf⟩ := gin_some hf
        refine va_iald hx hb hK hP 12 0 rfl rfl g3 dX6_hangs_28 ?_
        refine lv_iconst (v := (1 : Int32)) hx hb dX6_hangs_29 (by decide) ?_
        refine lv_icmp_eq (tgt := 36) hx hb dX6_hangs_30 (by decide) (fun c4 => ?_) (fun c4 => ?_)
        · have hf := it_t c4 hf
          refine lv_iload hx hb dX6_hangs_36 (lv_at hl 4 rfl) ?_
          refine lv_iconst (v := (1 : Int32)) hx hb dX6_hangs_38 (by decide) ?_
          refine lv_iload hx hb dX6_hangs_39 (lv_at hl 5 rfl) ?_
          refine lv_ishl hx hb dX6_hangs_41 ?_
          refine lv_ior hx hb dX6_hangs_42 ?_
          refine lv_istore (lv' := [(4, .int ((x4 ||| ((1 : Int32) <<< (x5 &&& 31))))), (0, .ref (β 0)), (1, .int x1), (2, .int x2), (3, .int x3), (5, .int x5)]) hx hb dX6_hangs_43 hl (by decide) rfl (fun ls hl => ?_)
          refine lv_iconst (v := (1 : Int32)) hx hb dX6_hangs_45 (by decide) ?_
          refine lv_iload hx hb dX6_hangs_46 (lv_at hl 5 rfl) ?_
          refine lv_ishl hx hb dX6_hangs_48 ?_
          refine lv_istore_n (lv' := [(3, .int ((1 : Int32) <<< (x5 &&& 31))), (4, .int ((x4 ||| ((1 : Int32) <<< (x5 &&& 31))))), (0, .ref (β 0)), (1, .int x1), (2, .int x2), (5, .int x5)]) hx hb dX6_hangs_49 rfl hl (by decide) rfl (fun ls hl => ?_)
          exact w50 _ ih _ _ _ _ _ H locs ls hf hP hD hS (lv_sub hl [2, 3, 4, 0, 1, 5] rfl)
        · have hf := it_f c4 hf
          refine lv_goto (tgt := 50) hx hb dX6_hangs_33 (by decide) ?_
          exact w50 _ ih _ _ _ _ _ H locs ls hf hP hD hS (lv_sub hl [0, 1, 2, 3, 4, 5] rfl)
  suffices hgo : ∀ (H : Heap) (locs : List Loc), va_P D vwCl (wM cI β mT mW mH mS mR mL mC mZ mA mB KK KN KS KC AN JK JN JS JL MY KP FI TX) H → va_D A (wM cI β mT mW mH mS mR mL mC mZ mA mB KK KN KS KC AN JK JN JS JL MY KP FI TX) → va_S A s.heap H locs → W p l e rm_X6_hangs s m args below meth c H locs 0 0 (MQ below (kQi D A (wM cI β mT mW mH mS mR mL mC mZ mA mB KK KN KS KC AN JK JN JS JL MY KP FI TX) res) args s 0 0 A) (F0 m 0 ls []) from hgo _ _ hP hD hS
  clear hP hD hS
  intro H locs hP hD hS
  refine lv_aload_n hx hb dX6_hangs_0 rfl (lv_at hl 0 rfl) ?_
  refine va_get (D := D) (ci := 7) (v := .ref (β 3)) (C := RX6) (T := TX6) (N := 23) hx hb hts hiX6 hown hK hP 0 rfl rfl 7 (by decide) fl16 (fun _ h9 => h9) rfl dX6_hangs_1 ?_
  refine lv_iload_n hx hb dX6_hangs_4 rfl (lv_at hl 1 rfl) ?_
  obtain ⟨g1, hf⟩ := gin_some hf
  refine va_iald hx hb hK hP 3 0 rfl rfl g1 dX6_hangs_5 ?_
  refine lv_istore_n (lv' := [(2, .int (KS x1.toNatClampNeg)), (0, .ref (β 0)), (1, .int x1)]) hx hb dX6_hangs_6 rfl hl (by decide) rfl (fun ls hl => ?_)
  refine lv_iconst (v := (0 : Int32)) hx hb dX6_hangs_7 (by decide) ?_
  refine lv_istore_n (lv' := [(3, .int (0 : Int32)), (2, .int (KS x1.toNatClampNeg)), (0, .ref (β 0)), (1, .int x1)]) hx hb dX6_hangs_8 rfl hl (by decide) rfl (fun ls hl => ?_)
  refine lv_iconst (v := (0 : Int32)) hx hb dX6_hangs_9 (by decide) ?_
  refine lv_istore (lv' := [(4, .int (0 : Int32)), (3, .int (0 : Int32)), (2, .int (KS x1.toNatClampNeg)), (0, .ref (β 0)), (1, .int x1)]) hx hb dX6_hangs_10 hl (by decide) rfl (fun ls hl => ?_)
  refine lv_iload_n hx hb dX6_hangs_12 rfl (lv_at hl 2 rfl) ?_
  refine lv_iconst (v := (1 : Int32)) hx hb dX6_hangs_13 (by decide) ?_
  refine lv_isub hx hb dX6_hangs_14 ?_
  refine lv_istore (lv' := [(5, .int ((KS x1.toNatClampNeg) - (1 : Int32))), (4, .int (0 : Int32)), (3, .int (0 : Int32)), (2, .int (KS x1.toNatClampNeg)), (0, .ref (β 0)), (1, .int x1)]) hx hb dX6_hangs_15 hl (by decide) rfl (fun ls hl => ?_)
  exact w17 F _ _ _ _ _ H locs ls hf hP hD hS (lv_sub hl [4, 5, 3, 2, 1, 0] rfl)
abbrev rm_X6_meets : Room := { frames := 2, cells := 0, slots := 0, locals := 51 }
set_option maxHeartbeats 4000000 in
set_option maxRecDepth 100000 in
theorem c_X6_meets (l : Launch) (D : va_G) (cI : ClassId) (β : Nat → Nat) (mT mW mH mS mR mL mC mZ mA mB : Int32) (KK KN KS KC AN JK JN JS JL MY KP FI TX : Nat → Int32) (F : Nat) (x1 : Int32) (res : Int32) (hf : f_X6_meets mW KK KN KS KC FI F x1 = some res) : kI l yX6_meets wsX6_meets rm_X6_meets D cI [.ref (β 0), .int x1] (wM cI β mT mW mH mS mR mL mC mZ mA mB KK KN KS KC AN JK JN JS JL MY KP FI TX) (wM cI β mT mW mH mS mR mL mC mZ mA mB KK KN KS KC AN JK JN JS JL MY KP FI TX) res := by
  unfold f_X6_meets at hf
  refine kI_of (cc := cX6_meets) (maxL := 9) (ret := (some .boolean)) (by decide +kernel) rfl (Nat.le_of_ble_eq_true rfl) ?_
  intro p e s m args below meth c A ls S hP hD hS hl
  have S : kC p s m args meth c cX6_meets 9 wsX6_meets RX6 (some .boolean) D cI A := S
  have hx := S.1.1
  have hb := S.1.2.1
  have hml := S.1.2.2.1
  have hown : s.vm.findClass RX6 = some m.cls := S.1.2.2.2.1
  have hts := S.1.2.2.2.2
  have hK := S.2.2.2.1
  have hnk := S.2.2.2.2.1.2
  have hiX6 : ∀ w ∈ u_ws RX6 TX6 23, w ∈ wsX6_meets := by decide +kernel
  have fl7 := hts (.fieldLink RX6 7 "ProofCheckerModel" "ruleKind" "[I") (by decide +kernel)
  have fl13 := hts (.fieldLink RX6 13 "ProofCheckerModel" "ruleNumber" "[I") (by decide +kernel)
  have fl16 := hts (.fieldLink RX6 16 "ProofCheckerModel" "ruleSize" "[I") (by decide +kernel)
  have fl43 := hts (.fieldLink RX6 43 "ProofCheckerModel" "fill" "[I") (by decide +kernel)
  have hl : lv_has ls 9 [(0, .ref (β 0)), (1, .int x1)] := hl
  have w136 : ∀ (k21 : Int32 → Int32 → Int32 → Int32 → Int32 → Int32 → Int32 → Option (Int32)) (hk21 : ∀ (x1 : Int32) (x2 : Int32) (x3 : Int32) (x4 : Int32) (x5 : Int32) (x6 : Int32) (x7 : Int32) (H : Heap) (locs : List Loc) (ls : Array Slot), k21 x1 x2 x3 x4 x5 x6 x7 = some res → va_P D vwCl (wM cI β mT mW mH mS mR mL mC mZ mA mB KK KN KS KC AN JK JN JS JL MY KP FI TX) H → va_D A (wM cI β mT mW mH mS mR mL mC mZ mA mB KK KN KS KC AN JK JN JS JL MY KP FI TX) → va_S A s.heap H locs → lv_has ls 9 [(0, .ref (β 0)), (1, .int x1), (2, .int x2), (3, .int x3), (4, .int x4), (5, .int x5), (6, .int x6), (7, .int x7)] → W p l e rm_X6_meets s m args below meth c H locs 0 0 (MQ below (kQi D A (wM cI β mT mW mH mS mR mL mC mZ mA mB KK KN KS KC AN JK JN JS JL MY KP FI TX) res) args s 0 0 A) (F0 m 21 ls [])), ∀ (k102 : Int32 → Int32 → Int32 → Int32 → Int32 → Int32 → Int32 → Int32 → Option (Int32)) (hk102 : ∀ (x1 : Int32) (x2 : Int32) (x3 : Int32) (x4 : Int32) (x5 : Int32) (x6 : Int32) (x7 : Int32) (x8 : Int32) (H : Heap) (locs : List Loc) (ls : Array Slot), k102 x1 x2 x3 x4 x5 x6 x7 x8 = some res → va_P D vwCl (wM cI β mT mW mH mS mR mL mC mZ mA mB KK KN KS KC AN JK JN JS JL MY KP FI TX) H → va_D A (wM cI β mT mW mH mS mR mL mC mZ mA mB KK KN KS KC AN JK JN JS JL MY KP FI TX) → va_S A s.heap H locs → lv_has ls 9 [(0, .ref (β 0)), (1, .int x1), (2, .int x2), (3, .int x3), (4, .int x4), (5, .int x5), (6, .int x6), (7, .int x7), (8, .int x8)] → W p l e rm_X6_meets s m args below meth c H locs 0 0 (MQ below (kQi D A (wM cI β mT mW mH mS mR mL mC mZ mA mB KK KN KS KC AN JK JN JS JL MY KP FI TX) res) args s 0 0 A) (F0 m 102 ls [])), ∀ (t0 : Int32) (x1 : Int32) (x2 : Int32) (x3 : Int32) (x4 : Int32) (x6 : Int32) (x7 : Int32) (x8 : Int32) (H : Heap) (locs : List Loc) (ls : Array Slot), f_X6_meets_J136 mW KK KN KS KC FI k21 k102 F t0 x1 x2 x3 x4 x6 x7 x8 = some res → va_P D vwCl (wM cI β mT mW mH mS mR mL mC mZ mA mB KK KN KS KC AN JK JN JS JL MY KP FI TX) H → va_D A (wM cI β mT mW mH mS mR mL mC mZ mA mB KK KN KS KC AN JK JN JS JL MY KP FI TX) → va_S A s.heap H locs → lv_has ls 9 [(0, .ref (β 0)), (1, .int x1), (2, .int x2), (3, .int x3), (4, .int x4), (6, .int x6), (7, .int x7), (8, .int x8)] → W p l e rm_X6_meets s m args below meth c H locs 0 0 (MQ below (kQi D A (wM cI β mT mW mH mS mR mL mC mZ mA mB KK KN KS KC AN JK JN JS JL MY KP FI TX) res) args s 0 0 A) (F0 m 136 ls [.int t0]) := by
    intro k21 hk21 k102 hk102 t0 x1 x2 x3 x4 x6 x7 x8 H locs ls hf hP hD hS hl
    unfold f_X6_meets_J136 at hf
    refine lv_istore (lv' := [(5, .int t0), (0, .ref (β 0)), (1, .int x1), (2, .int x2), (3, .int x3), (4, .int x4), (6, .int x6), (7, .int x7), (8, .int x8)]) hx hb dX6_meets_136 hl (by decide) rfl (fun ls hl => ?_)
    refine lv_iinc (v := (x8 + (1 : Int32))) (lv' := [(8, .int (x8 + (1 : Int32))), (5, .int t0), (0, .ref (β 0)), (1, .int x1), (2, .int x2), (3, .int x3), (4, .int x4), (6, .int x6), (7, .int x7)]) hx hb dX6_meets_138 hl (k := 8) rfl rfl (by decide) rfl (fun ls hl => ?_)
    refine lv_goto (tgt := 102) hx hb dX6_meets_141 (by decide) ?_
    exact hk102 _ _ _ _ _ _ _ _ H locs ls hf hP hD hS (lv_sub hl [2, 3, 4, 5, 6, 1, 7, 8, 0] rfl)
  have w135 : ∀ (k21 : Int32 → Int32 → Int32 → Int32 → Int32 → Int32 → Int32 → Option (Int32)) (hk21 : ∀ (x1 : Int32) (x2 : Int32) (x3 : Int32) (x4 : Int32) (x5 : Int32) (x6 : Int32) (x7 : Int32) (H : Heap) (locs : List Loc) (ls : Array Slot), k21 x1 x2 x3 x4 x5 x6 x7 = some res → va_P D vwCl (wM cI β mT mW mH mS mR mL mC mZ mA mB KK KN KS KC AN JK JN JS JL MY KP FI TX) H → va_D A (wM cI β mT mW mH mS mR mL mC mZ mA mB KK KN KS KC AN JK JN JS JL MY KP FI TX) → va_S A s.heap H locs → lv_has ls 9 [(0, .ref (β 0)), (1, .int x1), (2, .int x2), (3, .int x3), (4, .int x4), (5, .int x5), (6, .int x6), (7, .int x7)] → W p l e rm_X6_meets s m args below meth c H locs 0 0 (MQ below (kQi D A (wM cI β mT mW mH mS mR mL mC mZ mA mB KK KN KS KC AN JK JN JS JL MY KP FI TX) res) args s 0 0 A) (F0 m 21 ls [])), ∀ (k102 : Int32 → Int32 → Int32 → Int32 → Int32 → Int32 → Int32 → Int32 → Option (Int32)) (hk102 : ∀ (x1 : Int32) (x2 : Int32) (x3 : Int32) (x4 : Int32) (x5 : Int32) (x6 : Int32) (x7 : Int32) (x8 : Int32) (H : Heap) (locs : List Loc) (ls : Array Slot), k102 x1 x2 x3 x4 x5 x6 x7 x8 = some res → va_P D vwCl (wM cI β mT mW mH mS mR mL mC mZ mA mB KK KN KS KC AN JK JN JS JL MY KP FI TX) H → va_D A (wM cI β mT mW mH mS mR mL mC mZ mA mB KK KN KS KC AN JK JN JS JL MY KP FI TX) → va_S A s.heap H locs → lv_has ls 9 [(0, .ref (β 0)), (1, .int x1), (2, .int x2), (3, .int x3), (4, .int x4), (5, .int x5), (6, .int x6), (7, .int x7), (8, .int x8)] → W p l e rm_X6_meets s m args below meth c H locs 0 0 (MQ below (kQi D A (wM cI β mT mW mH mS mR mL mC mZ mA mB KK KN KS KC AN JK JN JS JL MY KP FI TX) res) args s 0 0 A) (F0 m 102 ls [])), ∀ (x1 : Int32) (x2 : Int32) (x3 : Int32) (x4 : Int32) (x6 : Int32) (x7 : Int32) (x8 : Int32) (H : Heap) (locs : List Loc) (ls : Array Slot), f_X6_meets_J135 mW KK KN KS KC FI k21 k102 F x1 x2 x3 x4 x6 x7 x8 = some res → va_P D vwCl (wM cI β mT mW mH mS mR mL mC mZ mA mB KK KN KS KC AN JK JN JS JL MY KP FI TX) H → va_D A (wM cI β mT mW mH mS mR mL mC mZ mA mB KK KN KS KC AN JK JN JS JL MY KP FI TX) → va_S A s.heap H locs → lv_has ls 9 [(0, .ref (β 0)), (1, .int x1), (2, .int x2), (3, .int x3), (4, .int x4), (6, .int x6), (7, .int x7), (8, .int x8)] → W p l e rm_X6_meets s m args below meth c H locs 0 0 (MQ below (kQi D A (wM cI β mT mW mH mS mR mL mC mZ mA mB KK KN KS KC AN JK JN JS JL MY KP FI TX) res) args s 0 0 A) (F0 m 135 ls []) := by
    intro k21 hk21 k102 hk102 x1 x2 x3 x4 x6 x7 x8 H locs ls hf hP hD hS hl
    unfold f_X6_meets_J135 at hf
    refine lv_iconst (v := (0 : Int32)) hx hb dX6_meets_135 (by decide) ?_
    exact w136 k21 hk21 k102 hk102 _ _ _ _ _ _ _ _ H locs ls hf hP hD hS (lv_sub hl [0, 1, 2, 3, 4, 5, 6, 7] rfl)
  have w102 : ∀ (k21 : Int32 → Int32 → Int32 → Int32 → Int32 → Int32 → Int32 → Option (Int32)) (hk21 : ∀ (x1 : Int32) (x2 : Int32) (x3 : Int32) (x4 : Int32) (x5 : Int32) (x6 : Int32) (x7 : Int32) (H : Heap) (locs : List Loc) (ls : Array Slot), k21 x1 x2 x3 x4 x5 x6 x7 = some res → va_P D vwCl (wM cI β mT mW mH mS mR mL mC mZ mA mB KK KN KS KC AN JK JN JS JL MY KP FI TX) H → va_D A (wM cI β mT mW mH mS mR mL mC mZ mA mB KK KN KS KC AN JK JN JS JL MY KP FI TX) → va_S A s.heap H locs → lv_has ls 9 [(0, .ref (β 0)), (1, .int x1), (2, .int x2), (3, .int x3), (4, .int x4), (5, .int x5), (6, .int x6), (7, .int x7)] → W p l e rm_X6_meets s m args below meth c H locs 0 0 (MQ below (kQi D A (wM cI β mT mW mH mS mR mL mC mZ mA mB KK KN KS KC AN JK JN JS JL MY KP FI TX) res) args s 0 0 A) (F0 m 21 ls [])), ∀ (n : Nat), ∀ (x1 : Int32) (x2 : Int32) (x3 : Int32) (x4 : Int32) (x5 : Int32) (x6 : Int32) (x7 : Int32) (x8 : Int32) (H : Heap) (locs : List Loc) (ls : Array Slot), f_X6_meets_L102 mW KK KN KS KC FI k21 F n x1 x2 x3 x4 x5 x6 x7 x8 = some res → va_P D vwCl (wM cI β mT mW mH mS mR mL mC mZ mA mB KK KN KS KC AN JK JN JS JL MY KP FI TX) H → va_D A (wM cI β mT mW mH mS mR mL mC mZ mA mB KK KN KS KC AN JK JN JS JL MY KP FI TX) → va_S A s.heap H locs → lv_has ls 9 [(0, .ref (β 0)), (1, .int x1), (2, .int x2), (3, .int x3), (4, .int x4), (5, .int x5), (6, .int x6), (7, .int x7), (8, .int x8)] → W p l e rm_X6_meets s m args below meth c H locs 0 0 (MQ below (kQi D A (wM cI β mT mW mH mS mR mL mC mZ mA mB KK KN KS KC AN JK JN JS JL MY KP FI TX) res) args s 0 0 A) (F0 m 102 ls []) := by
    intro k21 hk21 n
    induction n with
    | zero => intro x1 x2 x3 x4 x5 x6 x7 x8 H locs ls hf; cases hf
    | succ n ih =>
      intro x1 x2 x3 x4 x5 x6 x7 x8 H locs ls hf hP hD hS hl
      rw [f_X6_meets_L102.eq_2] at hf
      refine lv_iload hx hb dX6_meets_102 (lv_at hl 8 rfl) ?_
      refine lv_iload hx hb dX6_meets_104 (lv_at hl 7 rfl) ?_
      refine lv_icmp_ge (tgt := 144) hx hb dX6_meets_106 (by decide) (fun c26 => ?_) (fun c26 => ?_)
      · have hf := it_t c26 hf
        refine lv_iinc (v := (x7 + (1 : Int32))) (lv' := [(7, .int (x7 + (1 : Int32))), (0, .ref (β 0)), (1, .int x1), (2, .int x2), (3, .int x3), (4, .int x4), (5, .int x5), (6, .int x6), (8, .int x8)]) hx hb dX6_meets_144 hl (k := 7) rfl rfl (by decide) rfl (fun ls hl => ?_)
        refine lv_goto (tgt := 21) hx hb dX6_meets_147 (by decide) ?_
        exact hk21 _ _ _ _ _ _ _ H locs ls hf hP hD hS (lv_sub hl [1, 2, 3, 4, 5, 6, 7, 0] rfl)
      · have hf := it_f c26 hf
        refine lv_iload hx hb dX6_meets_109 (lv_at hl 5 rfl) ?_
        refine lv_if_eq (tgt := 135) hx hb dX6_meets_111 (by decide) (fun c27 => ?_) (fun c27 => ?_)
        · have hf := it_t c27 hf
          exact w135 k21 hk21 _ ih _ _ _ _ _ _ _ H locs ls hf hP hD hS (lv_sub hl [0, 1, 2, 3, 4, 6, 7, 8] rfl)
        · have hf := it_f c27 hf
          refine lv_aload_n hx hb dX6_meets_114 rfl (lv_at hl 0 rfl) ?_
          refine va_get (D := D) (ci := 7) (v := .ref (β 12)) (C := RX6) (T := TX6) (N := 23) hx hb hts hiX6 hown hK hP 0 rfl rfl 18 (by decide) fl43 (fun _ h9 => h9) rfl dX6_meets_115 ?_
          refine lv_iload hx hb dX6_meets_118 (lv_at hl 8 rfl) ?_
          obtain ⟨g28, hf⟩ := gin_some hf
          refine va_iald hx hb hK hP 12 0 rfl rfl g28 dX6_meets_120 ?_
          refine lv_aload_n hx hb dX6_meets_121 rfl (lv_at hl 0 rfl) ?_
          refine va_get (D := D) (ci := 7) (v := .ref (β 12)) (C := RX6) (T := TX6) (N := 23) hx hb hts hiX6 hown hK hP 0 rfl rfl 18 (by decide) fl43 (fun _ h9 => h9) rfl dX6_meets_122 ?_
          refine lv_iload hx hb dX6_meets_125 (lv_at hl 7 rfl) ?_
          obtain ⟨g29, hf⟩ := gin_some hf
          refine va_iald hx hb hK hP 12 0 rfl rfl g29 dX6_meets_127 ?_
          refine lv_icmp_eq (tgt := 135) hx hb dX6_meets_128 (by decide) (fun c30 => ?_) (fun c30 => ?_)
          · have hf := it_t c30 hf
            exact w135 k21 hk21 _ ih _ _ _ _ _ _ _ H locs ls hf hP hD hS (lv_sub hl [0, 1, 2, 3, 4, 6, 7, 8] rfl)
          · have hf := it_f c30 hf
            refine lv_iconst (v := (1 : Int32)) hx hb dX6_meets_131 (by decide) ?_
            refine lv_goto (tgt := 136) hx hb dX6_meets_132 (by decide) ?_
            exact w136 k21 hk21 _ ih _ _ _ _ _ _ _ _ H locs ls hf hP hD hS (lv_sub hl [0, 1, 2, 3, 4, 6, 7, 8] rfl)
  have w97 : ∀ (k21 : Int32 → Int32 → Int32 → Int32 → Int32 → Int32 → Int32 → Option (Int32)) (hk21 : ∀ (x1 : Int32) (x2 : Int32) (x3 : Int32) (x4 : Int32) (x5 : Int32) (x6 : Int32) (x7 : Int32) (H : Heap) (locs : List Loc) (ls : Array Slot), k21 x1 x2 x3 x4 x5 x6 x7 = some res → va_P D vwCl (wM cI β mT mW mH mS mR mL mC mZ mA mB KK KN KS KC AN JK JN JS JL MY KP FI TX) H → va_D A (wM cI β mT mW mH mS mR mL mC mZ mA mB KK KN KS KC AN JK JN JS JL MY KP FI TX) → va_S A s.heap H locs → lv_has ls 9 [(0, .ref (β 0)), (1, .int x1), (2, .int x2), (3, .int x3), (4, .int x4), (5, .int x5), (6, .int x6), (7, .int x7)] → W p l e rm_X6_meets s m args below meth c H locs 0 0 (MQ below (kQi D A (wM cI β mT mW mH mS mR mL mC mZ mA mB KK KN KS KC AN JK JN JS JL MY KP FI TX) res) args s 0 0 A) (F0 m 21 ls [])), ∀ (t0 : Int32) (x1 : Int32) (x2 : Int32) (x3 : Int32) (x4 : Int32) (x5 : Int32) (x7 : Int32) (H : Heap) (locs : List Loc) (ls : Array Slot), f_X6_meets_J97 mW KK KN KS KC FI k21 F t0 x1 x2 x3 x4 x5 x7 = some res → va_P D vwCl (wM cI β mT mW mH mS mR mL mC mZ mA mB KK KN KS KC AN JK JN JS JL MY KP FI TX) H → va_D A (wM cI β mT mW mH mS mR mL mC mZ mA mB KK KN KS KC AN JK JN JS JL MY KP FI TX) → va_S A s.heap H locs → lv_has ls 9 [(0, .ref (β 0)), (1, .int x1), (2, .int x2), (3, .int x3), (4, .int x4), (5, .int x5), (7, .int x7)] → W p l e rm_X6_meets s m args below meth c H locs 0 0 (MQ below (kQi D A (wM cI β mT mW mH mS mR mL mC mZ mA mB KK KN KS KC AN JK JN JS JL MY KP FI TX) res) args s 0 0 A) (F0 m 97 ls [.int t0]) := by
    intro k21 hk21 t0 x1 x2 x3 x4 x5 x7 H locs ls hf hP hD hS hl
    unfold f_X6_meets_J97 at hf
    refine lv_istore (lv' := [(6, .int t0), (0, .ref (β 0)), (1, .int x1), (2, .int x2), (3, .int x3), (4, .int x4), (5, .int x5), (7, .int x7)]) hx hb dX6_meets_97 hl (by decide) rfl (fun ls hl => ?_)
    refine lv_iconst (v := (0 : Int32)) hx hb dX6_meets_99 (by decide) ?_
    refine lv_istore (lv' := [(8, .int (0 : Int32)), (6, .int t0), (0, .ref (β 0)), (1, .int x1), (2, .int x2), (3, .int x3), (4, .int x4), (5, .int x5), (7, .int x7)]) hx hb dX6_meets_100 hl (by decide) rfl (fun ls hl => ?_)
    exact w102 k21 hk21 F _ _ _ _ _ _ _ _ H locs ls hf hP hD hS (lv_sub hl [2, 3, 4, 5, 6, 7, 1, 8, 0] rfl)
  have w96 : ∀ (k21 : Int32 → Int32 → Int32 → Int32 → Int32 → Int32 → Int32 → Option (Int32)) (hk21 : ∀ (x1 : Int32) (x2 : Int32) (x3 : Int32) (x4 : Int32) (x5 : Int32) (x6 : Int32) (x7 : Int32) (H : Heap) (locs : List Loc) (ls : Array Slot), k21 x1 x2 x3 x4 x5 x6 x7 = some res → va_P D vwCl (wM cI β mT mW mH mS mR mL mC mZ mA mB KK KN KS KC AN JK JN JS JL MY KP FI TX) H → va_D A (wM cI β mT mW mH mS mR mL mC mZ mA mB KK KN KS KC AN JK JN JS JL MY KP FI TX) → va_S A s.heap H locs → lv_has ls 9 [(0, .ref (β 0)), (1, .int x1), (2, .int x2), (3, .int x3), (4, .int x4), (5, .int x5), (6, .int x6), (7, .int x7)] → W p l e rm_X6_meets s m args below meth c H locs 0 0 (MQ below (kQi D A (wM cI β mT mW mH mS mR mL mC mZ mA mB KK KN KS KC AN JK JN JS JL MY KP FI TX) res) args s 0 0 A) (F0 m 21 ls [])), ∀ (x1 : Int32) (x2 : Int32) (x3 : Int32) (x4 : Int32) (x5 : Int32) (x7 : Int32) (H : Heap) (locs : List Loc) (ls : Array Slot), f_X6_meets_J96 mW KK KN KS KC FI k21 F x1 x2 x3 x4 x5 x7 = some res → va_P D vwCl (wM cI β mT mW mH mS mR mL mC mZ mA mB KK KN KS KC AN JK JN JS JL MY KP FI TX) H → va_D A (wM cI β mT mW mH mS mR mL mC mZ mA mB KK KN KS KC AN JK JN JS JL MY KP FI TX) → va_S A s.heap H locs → lv_has ls 9 [(0, .ref (β 0)), (1, .int x1), (2, .int x2), (3, .int x3), (4, .int x4), (5, .int x5), (7, .int x7)] → W p l e rm_X6_meets s m args below meth c H locs 0 0 (MQ below (kQi D A (wM cI β mT mW mH mS mR mL mC mZ mA mB KK KN KS KC AN JK JN JS JL MY KP FI TX) res) args s 0 0 A) (F0 m 96 ls []) := by
    intro k21 hk21 x1 x2 x3 x4 x5 x7 H locs ls hf hP hD hS hl
    unfold f_X6_meets_J96 at hf
    refine lv_iconst (v := (0 : Int32)) hx hb dX6_meets_96 (by decide) ?_
    exact w97 k21 hk21 _ _ _ _ _ _ _ H locs ls hf hP hD hS (lv_sub hl [0, 1, 2, 3, 4, 5, 6] rfl)
  have w92 : ∀ (k21 : Int32 → Int32 → Int32 → Int32 → Int32 → Int32 → Int32 → Option (Int32)) (hk21 : ∀ (x1 : Int32) (x2 : Int32) (x3 : Int32) (x4 : Int32) (x5 : Int32) (x6 : Int32) (x7 : Int32) (H : Heap) (locs : List Loc) (ls : Array Slot), k21 x1 x2 x3 x4 x5 x6 x7 = some res → va_P D vwCl (wM cI β mT mW mH mS mR mL mC mZ mA mB KK KN KS KC AN JK JN JS JL MY KP FI TX) H → va_D A (wM cI β mT mW mH mS mR mL mC mZ mA mB KK KN KS KC AN JK JN JS JL MY KP FI TX) → va_S A s.heap H locs → lv_has ls 9 [(0, .ref (β 0)), (1, .int x1), (2, .int x2), (3, .int x3), (4, .int x4), (5, .int x5), (6, .int x6), (7, .int x7)] → W p l e rm_X6_meets s m args below meth c H locs 0 0 (MQ below (kQi D A (wM cI β mT mW mH mS mR mL mC mZ mA mB KK KN KS KC AN JK JN JS JL MY KP FI TX) res) args s 0 0 A) (F0 m 21 ls [])), ∀ (x1 : Int32) (x2 : Int32) (x3 : Int32) (x4 : Int32) (x5 : Int32) (x7 : Int32) (H : Heap) (locs : List Loc) (ls : Array Slot), f_X6_meets_J92 mW KK KN KS KC FI k21 F x1 x2 x3 x4 x5 x7 = some res → va_P D vwCl (wM cI β mT mW mH mS mR mL mC mZ mA mB KK KN KS KC AN JK JN JS JL MY KP FI TX) H → va_D A (wM cI β mT mW mH mS mR mL mC mZ mA mB KK KN KS KC AN JK JN JS JL MY KP FI TX) → va_S A s.heap H locs → lv_has ls 9 [(0, .ref (β 0)), (1, .int x1), (2, .int x2), (3, .int x3), (4, .int x4), (5, .int x5), (7, .int x7)] → W p l e rm_X6_meets s m args below meth c H locs 0 0 (MQ below (kQi D A (wM cI β mT mW mH mS mR mL mC mZ mA mB KK KN KS KC AN JK JN JS JL MY KP FI TX) res) args s 0 0 A) (F0 m 92 ls []) := by
    intro k21 hk21 x1 x2 x3 x4 x5 x7 H locs ls hf hP hD hS hl
    unfold f_X6_meets_J92 at hf
    refine lv_iconst (v := (1 : Int32)) hx hb dX6_meets_92 (by decide) ?_
    refine lv_goto (tgt := 97) hx hb dX6_meets_93 (by decide) ?_
    exact w97 k21 hk21 _ _ _ _ _ _ _ H locs ls hf hP hD hS (lv_sub hl [0, 1, 2, 3, 4, 5, 6] rfl)
  have w60 : ∀ (k21 : Int32 → Int32 → Int32 → Int32 → Int32 → Int32 → Int32 → Option (Int32)) (hk21 : ∀ (x1 : Int32) (x2 : Int32) (x3 : Int32) (x4 : Int32) (x5 : Int32) (x6 : Int32) (x7 : Int32) (H : Heap) (locs : List Loc) (ls : Array Slot), k21 x1 x2 x3 x4 x5 x6 x7 = some res → va_P D vwCl (wM cI β mT mW mH mS mR mL mC mZ mA mB KK KN KS KC AN JK JN JS JL MY KP FI TX) H → va_D A (wM cI β mT mW mH mS mR mL mC mZ mA mB KK KN KS KC AN JK JN JS JL MY KP FI TX) → va_S A s.heap H locs → lv_has ls 9 [(0, .ref (β 0)), (1, .int x1), (2, .int x2), (3, .int x3), (4, .int x4), (5, .int x5), (6, .int x6), (7, .int x7)] → W p l e rm_X6_meets s m args below meth c H locs 0 0 (MQ below (kQi D A (wM cI β mT mW mH mS mR mL mC mZ mA mB KK KN KS KC AN JK JN JS JL MY KP FI TX) res) args s 0 0 A) (F0 m 21 ls [])), ∀ (t0 : Int32) (t1 : Int32) (x1 : Int32) (x2 : Int32) (x3 : Int32) (x5 : Int32) (x6 : Int32) (x7 : Int32) (H : Heap) (locs : List Loc) (ls : Array Slot), f_X6_meets_J60 mW KK KN KS KC FI k21 F t0 t1 x1 x2 x3 x5 x6 x7 = some res → va_P D vwCl (wM cI β mT mW mH mS mR mL mC mZ mA mB KK KN KS KC AN JK JN JS JL MY KP FI TX) H → va_D A (wM cI β mT mW mH mS mR mL mC mZ mA mB KK KN KS KC AN JK JN JS JL MY KP FI TX) → va_S A s.heap H locs → lv_has ls 9 [(0, .ref (β 0)), (1, .int x1), (2, .int x2), (3, .int x3), (5, .int x5), (6, .int x6), (7, .int x7)] → W p l e rm_X6_meets s m args below meth c H locs 0 0 (MQ below (kQi D A (wM cI β mT mW mH mS mR mL mC mZ mA mB KK KN KS KC AN JK JN JS JL MY KP FI TX) res) args s 0 0 A) (F0 m 60 ls [.int t1, .int t0]) := by
    intro k21 hk21 t0 t1 x1 x2 x3 x5 x6 x7 H locs ls hf hP hD hS hl
    unfold f_X6_meets_J60 at hf
    refine lv_iadd hx hb dX6_meets_60 ?_
    refine lv_istore (lv' := [(4, .int (t0 + t1)), (0, .ref (β 0)), (1, .int x1), (2, .int x2), (3, .int x3), (5, .int x5), (6, .int x6), (7, .int x7)]) hx hb dX6_meets_61 hl (by decide) rfl (fun ls hl => ?_)
    refine lv_iload hx hb dX6_meets_63 (lv_at hl 6 rfl) ?_
    refine lv_if_eq (tgt := 96) hx hb dX6_meets_65 (by decide) (fun c21 => ?_) (fun c21 => ?_)
    · have hf := it_t c21 hf
      exact w96 k21 hk21 _ _ _ _ _ _ H locs ls hf hP hD hS (lv_sub hl [1, 2, 3, 4, 0, 5, 7] rfl)
    · have hf := it_f c21 hf
      refine lv_iload hx hb dX6_meets_68 (lv_at hl 7 rfl) ?_
      refine lv_if_eq (tgt := 92) hx hb dX6_meets_70 (by decide) (fun c22 => ?_) (fun c22 => ?_)
      · have hf := it_t c22 hf
        exact w92 k21 hk21 _ _ _ _ _ _ H locs ls hf hP hD hS (lv_sub hl [1, 2, 3, 4, 0, 5, 7] rfl)
      · have hf := it_f c22 hf
        refine lv_aload_n hx hb dX6_meets_73 rfl (lv_at hl 1 rfl) ?_
        refine va_get (D := D) (ci := 7) (v := .ref (β 12)) (C := RX6) (T := TX6) (N := 23) hx hb hts hiX6 hown hK hP 0 rfl rfl 18 (by decide) fl43 (fun _ h9 => h9) rfl dX6_meets_74 ?_
        refine lv_iload hx hb dX6_meets_77 (lv_at hl 7 rfl) ?_
        obtain ⟨g23, hf⟩ := gin_some hf
        refine va_iald hx hb hK hP 12 0 rfl rfl g23 dX6_meets_79 ?_
        refine lv_aload_n hx hb dX6_meets_80 rfl (lv_at hl 1 rfl) ?_
        refine va_get (D := D) (ci := 7) (v := .ref (β 12)) (C := RX6) (T := TX6) (N := 23) hx hb hts hiX6 hown hK hP 0 rfl rfl 18 (by decide) fl43 (fun _ h9 => h9) rfl dX6_meets_81 ?_
        refine lv_iload hx hb dX6_meets_84 (lv_at hl 7 rfl) ?_
        refine lv_iconst (v := (1 : Int32)) hx hb dX6_meets_86 (by decide) ?_
        refine lv_isub hx hb dX6_meets_87 ?_
        obtain ⟨g24, hf⟩ := gin_some hf
        refine va_iald hx hb hK hP 12 0 rfl rfl g24 dX6_meets_88 ?_
        refine lv_icmp_le (tgt := 96) hx hb dX6_meets_89 (by decide) (fun c25 => ?_) (fun c25 => ?_)
        · have hf := it_t c25 hf
          exact w96 k21 hk21 _ _ _ _ _ _ H locs ls hf hP hD hS (lv_sub hl [1, 2, 3, 4, 0, 5, 7] rfl)
        · have hf := it_f c25 hf
          exact w92 k21 hk21 _ _ _ _ _ _ H locs ls hf hP hD hS (lv_sub hl [1, 2, 3, 4, 0, 5, 7] rfl)
  have w21 : ∀ (n : Nat), ∀ (x1 : Int32) (x2 : Int32) (x3 : Int32) (x4 : Int32) (x5 : Int32) (x6 : Int32) (x7 : Int32) (H : Heap) (locs : List Loc) (ls : Array Slot), f_X6_meets_L21 mW KK KN KS KC FI F n x1 x2 x3 x4 x5 x6 x7 = some res → va_P D vwCl (wM cI β mT mW mH mS mR mL mC mZ mA mB KK KN KS KC AN JK JN JS JL MY KP FI TX) H → va_D A (wM cI β mT mW mH mS mR mL mC mZ mA mB KK KN KS KC AN JK JN JS JL MY KP FI TX) → va_S A s.heap H locs → lv_has ls 9 [(0, .ref (β 0)), (1, .int x1), (2, .int x2), (3, .int x3), (4, .int x4), (5, .int x5), (6, .int x6), (7, .int x7)] → W p l e rm_X6_meets s m args below meth c H locs 0 0 (MQ below (kQi D A (wM cI β mT mW mH mS mR mL mC mZ mA mB KK KN KS KC AN JK JN JS JL MY KP FI TX) res) args s 0 0 A) (F0 m 21 ls []) := by
    intro n
    induction n with
    | zero => intro x1 x2 x3 x4 x5 x6 x7 H locs ls hf; cases hf
    | succ n ih =>
      intro x1 x2 x3 x4 x5 x6 x7 H locs ls hf hP hD hS hl
      rw [f_X6_meets_L21.eq_2] at hf
      refine lv_iload hx hb dX6_meets_21 (lv_at hl 7 rfl) ?_
      refine lv_iload_n hx hb dX6_meets_23 rfl (lv_at hl 2 rfl) ?_
      refine lv_icmp_ge (tgt := 150) hx hb dX6_meets_24 (by decide) (fun c2 => ?_) (fun c2 => ?_)
      · have hf := it_t c2 hf
        refine lv_aload_n hx hb dX6_meets_150 rfl (lv_at hl 0 rfl) ?_
        refine va_get (D := D) (ci := 7) (v := .ref (β 1)) (C := RX6) (T := TX6) (N := 23) hx hb hts hiX6 hown hK hP 0 rfl rfl 5 (by decide) fl7 (fun _ h9 => h9) rfl dX6_meets_151 ?_
        refine lv_iload_n hx hb dX6_meets_154 rfl (lv_at hl 1 rfl) ?_
        obtain ⟨g3, hf⟩ := gin_some hf
        refine va_iald hx hb hK hP 1 0 rfl rfl g3 dX6_meets_155 ?_
        by_cases c4 : (KK x1.toNatClampNeg) = (0 : Int32)
        · have hf := it_t c4 hf
          refine sw_in (k := (0 : Int32)) (tgt := 188) hx hb c4 dX6_meets_156 (by decide) (by decide) rfl (by decide) ?_
          refine lv_iload hx hb dX6_meets_188 (lv_at hl 5 rfl) ?_
          obtain ⟨g5, hf⟩ := gbl_some hf
          have e9 := Option.some.inj hf
          subst e9
          exact kI_ret S (nar_b g5) hP hD hS dX6_meets_190
        have hf := it_f c4 hf
        by_cases c6 : (KK x1.toNatClampNeg) = (1 : Int32)
        · have hf := it_t c6 hf
          refine sw_in (k := (1 : Int32)) (tgt := 191) hx hb c6 dX6_meets_156 (by decide) (by decide) rfl (by decide) ?_
          refine lv_iload_n hx hb dX6_meets_191 rfl (lv_at hl 3 rfl) ?_
          refine lv_aload_n hx hb dX6_meets_192 rfl (lv_at hl 0 rfl) ?_
          refine va_get (D := D) (ci := 7) (v := .ref (β 2)) (C := RX6) (T := TX6) (N := 23) hx hb hts hiX6 hown hK hP 0 rfl rfl 6 (by decide) fl13 (fun _ h9 => h9) rfl dX6_meets_193 ?_
          refine lv_iload_n hx hb dX6_meets_196 rfl (lv_at hl 1 rfl) ?_
          obtain ⟨g7, hf⟩ := gin_some hf
          refine va_iald hx hb hK hP 2 0 rfl rfl g7 dX6_meets_197 ?_
          refine lv_icmp_ne (tgt := 205) hx hb dX6_meets_198 (by decide) (fun c8 => ?_) (fun c8 => ?_)
          · have hf := it_t c8 hf
            refine lv_iconst (v := (0 : Int32)) hx hb dX6_meets_205 (by decide) ?_
            have e9 := Option.some.inj hf
            subst e9
            exact kI_ret S narrow_b0 hP hD hS dX6_meets_206
          · have hf := it_f (fun h9 => h9 c8) hf
            refine lv_iconst (v := (1 : Int32)) hx hb dX6_meets_201 (by decide) ?_
            refine lv_goto (tgt := 206) hx hb dX6_meets_202 (by decide) ?_
            have e9 := Option.some.inj hf
            subst e9
            exact kI_ret S narrow_b1 hP hD hS dX6_meets_206
        have hf := it_f c6 hf
        by_cases c9 : (KK x1.toNatClampNeg) = (2 : Int32)
        · have hf := it_t c9 hf
          refine sw_in (k := (2 : Int32)) (tgt := 207) hx hb c9 dX6_meets_156 (by decide) (by decide) rfl (by decide) ?_
          refine lv_iload hx hb dX6_meets_207 (lv_at hl 6 rfl) ?_
          obtain ⟨g10, hf⟩ := gbl_some hf
          have e9 := Option.some.inj hf
          subst e9
          exact kI_ret S (nar_b g10) hP hD hS dX6_meets_209
        have hf := it_f c9 hf
        by_cases c11 : (KK x1.toNatClampNeg) = (3 : Int32)
        · have hf := it_t c11 hf
          refine sw_in (k := (3 : Int32)) (tgt := 210) hx hb c11 dX6_meets_156 (by decide) (by decide) rfl (by decide) ?_
          refine lv_iload_n hx hb dX6_meets_210 rfl (lv_at hl 2 rfl) ?_
          refine lv_if_eq (tgt := 225) hx hb dX6_meets_211 (by decide) (fun c12 => ?_) (fun c12 => ?_)
          · have hf := it_t c12 hf
            refine lv_iconst (v := (1 : Int32)) hx hb dX6_meets_225 (by decide) ?_
            refine lv_goto (tgt := 230) hx hb dX6_meets_226 (by decide) ?_
            have e9 := Option.some.inj hf
            subst e9
            exact kI_ret S narrow_b1 hP hD hS dX6_meets_230
          · have hf := it_f c12 hf
            refine lv_iload hx hb dX6_meets_214 (lv_at hl 4 rfl) ?_
            refine lv_aload_n hx hb dX6_meets_216 rfl (lv_at hl 0 rfl) ?_
            refine va_get (D := D) (ci := 7) (v := .ref (β 2)) (C := RX6) (T := TX6) (N := 23) hx hb hts hiX6 hown hK hP 0 rfl rfl 6 (by decide) fl13 (fun _ h9 => h9) rfl dX6_meets_217 ?_
            refine lv_iload_n hx hb dX6_meets_220 rfl (lv_at hl 1 rfl) ?_
            obtain ⟨g13, hf⟩ := gin_some hf
            refine va_iald hx hb hK hP 2 0 rfl rfl g13 dX6_meets_221 ?_
            refine lv_icmp_ne (tgt := 229) hx hb dX6_meets_222 (by decide) (fun c14 => ?_) (fun c14 => ?_)
            · have hf := it_t c14 hf
              refine lv_iconst (v := (0 : Int32)) hx hb dX6_meets_229 (by decide) ?_
              have e9 := Option.some.inj hf
              subst e9
              exact kI_ret S narrow_b0 hP hD hS dX6_meets_230
            · have hf := it_f (fun h9 => h9 c14) hf
              refine lv_iconst (v := (1 : Int32)) hx hb dX6_meets_225 (by decide) ?_
              refine lv_goto (tgt := 230) hx hb dX6_meets_226 (by decide) ?_
              have e9 := Option.some.inj hf
              subst e9
              exact kI_ret S narrow_b1 hP hD hS dX6_meets_230
        have hf := it_f c11 hf
        refine lv_tableOut (tgt := 231) hx hb dX6_meets_156 (by have e0 := lv_neT (a := 0) c4 rfl; have e1 := lv_neT (a := 1) c6 rfl; have e2 := lv_neT (a := 2) c9 rfl; have e3 := lv_neT (a := 3) c11 rfl; omega) (by decide) ?_
        refine lv_aload_n hx hb dX6_meets_231 rfl (lv_at hl 0 rfl) ?_
        refine lv_iload_n hx hb dX6_meets_232 rfl (lv_at hl 1 rfl) ?_
        obtain ⟨q15, hq15, hf⟩ := bnd hf
        refine kI_callV (As := [.int x1]) (rest := []) S hP hD hS (c_X6_hangs l D cI β mT mW mH mS mR mL mC mZ mA mB KK KN KS KC AN JK JN JS JL MY KP FI TX F x1 q15 hq15) (cwV 1 hts gX6_meets_X6_hangs rfl rfl rfl (by decide +kernel) ⟨Nat.le_of_ble_eq_true rfl, Nat.le_of_ble_eq_true rfl⟩) 0 rfl rfl rfl hl.1 rfl (Nat.le_of_ble_eq_true rfl) dX6_meets_233 ⟨Nat.zero_le _, Nat.zero_le _⟩ (fun H locs hP hD hS => ?_)
        have hP : va_P D vwCl (wM cI β mT mW mH mS mR mL mC mZ mA mB KK KN KS KC AN JK JN JS JL MY KP FI TX) H := hP
        have hD : va_D A (wM cI β mT mW mH mS mR mL mC mZ mA mB KK KN KS KC AN JK JN JS JL MY KP FI TX) := hD
        obtain ⟨g16, hf⟩ := gbl_some hf
        have e9 := Option.some.inj hf
        subst e9
        exact kI_ret S (nar_b g16) hP hD hS dX6_meets_236
      · have hf := it_f c2 hf
        refine lv_iload_n hx hb dX6_meets_27 rfl (lv_at hl 3 rfl) ?_
        refine lv_aload_n hx hb dX6_meets_28 rfl (lv_at hl 0 rfl) ?_
        refine va_get (D := D) (ci := 7) (v := .ref (β 12)) (C := RX6) (T := TX6) (N := 23) hx hb hts hiX6 hown hK hP 0 rfl rfl 18 (by decide) fl43 (fun _ h9 => h9) rfl dX6_meets_29 ?_
        refine lv_iload hx hb dX6_meets_32 (lv_at hl 7 rfl) ?_
        obtain ⟨g17, hf⟩ := gin_some hf
        refine va_iald hx hb hK hP 12 0 rfl rfl g17 dX6_meets_34 ?_
        refine lv_iadd hx hb dX6_meets_35 ?_
        refine lv_istore_n (lv' := [(3, .int (x3 + (FI x7.toNatClampNeg))), (0, .ref (β 0)), (1, .int x1), (2, .int x2), (4, .int x4), (5, .int x5), (6, .int x6), (7, .int x7)]) hx hb dX6_meets_36 rfl hl (by decide) rfl (fun ls hl => ?_)
        refine lv_iload hx hb dX6_meets_37 (lv_at hl 4 rfl) ?_
        refine lv_aload_n hx hb dX6_meets_39 rfl (lv_at hl 1 rfl) ?_
        refine va_get (D := D) (ci := 7) (v := .ref (β 12)) (C := RX6) (T := TX6) (N := 23) hx hb hts hiX6 hown hK hP 0 rfl rfl 18 (by decide) fl43 (fun _ h9 => h9) rfl dX6_meets_40 ?_
        refine lv_iload hx hb dX6_meets_43 (lv_at hl 7 rfl) ?_
        obtain ⟨g18, hf⟩ := gin_some hf
        refine va_iald hx hb hK hP 12 0 rfl rfl g18 dX6_meets_45 ?_
        refine lv_aload_n hx hb dX6_meets_46 rfl (lv_at hl 1 rfl) ?_
        refine va_get (D := D) (ci := 7) (v := .ref (β 12)) (C := RX6) (T := TX6) (N := 23) hx hb hts hiX6 hown hK hP 0 rfl rfl 18 (by decide) fl43 (fun _ h9 => h9) rfl dX6_meets_47 ?_
        refine lv_iconst (v := (0 : Int32)) hx hb dX6_meets_50 (by decide) ?_
        obtain ⟨g19, hf⟩ := gin_some hf
        refine va_iald hx hb hK hP 12 0 rfl rfl g19 dX6_meets_51 ?_
        refine lv_icmp_ne (tgt := 59) hx hb dX6_meets_52 (by decide) (fun c20 => ?_) (fun c20 => ?_)
        · have hf := it_t c20 hf
          refine lv_iconst (v := (0 : Int32)) hx hb dX6_meets_59 (by decide) ?_
          exact w60 _ ih _ _ _ _ _ _ _ _ H locs ls hf hP hD hS (lv_sub hl [1, 2, 3, 0, 5, 6, 7] rfl)
        · have hf := it_f (fun h9 => h9 c20) hf
          refine lv_iconst (v := (1 : Int32)) hx hb dX6_meets_55 (by decide) ?_
          refine lv_goto (tgt := 60) hx hb dX6_meets_56 (by decide) ?_
          exact w60 _ ih _ _ _ _ _ _ _ _ H locs ls hf hP hD hS (lv_sub hl [1, 2, 3, 0, 5, 6, 7] rfl)
  suffices hgo : ∀ (H : Heap) (locs : List Loc), va_P D vwCl (wM cI β mT mW mH mS mR mL mC mZ mA mB KK KN KS KC AN JK JN JS JL MY KP FI TX) H → va_D A (wM cI β mT mW mH mS mR mL mC mZ mA mB KK KN KS KC AN JK JN JS JL MY KP FI TX) → va_S A s.heap H locs → W p l e rm_X6_meets s m args below meth c H locs 0 0 (MQ below (kQi D A (wM cI β mT mW mH mS mR mL mC mZ mA mB KK KN KS KC AN JK JN JS JL MY KP FI TX) res) args s 0 0 A) (F0 m 0 ls []) from hgo _ _ hP hD hS
  clear hP hD hS
  intro H locs hP hD hS
  refine lv_aload_n hx hb dX6_meets_0 rfl (lv_at hl 0 rfl) ?_
  refine va_get (D := D) (ci := 7) (v := .ref (β 3)) (C := RX6) (T := TX6) (N := 23) hx hb hts hiX6 hown hK hP 0 rfl rfl 7 (by decide) fl16 (fun _ h9 => h9) rfl dX6_meets_1 ?_
  refine lv_iload_n hx hb dX6_meets_4 rfl (lv_at hl 1 rfl) ?_
  obtain ⟨g1, hf⟩ := gin_some hf
  refine va_iald hx hb hK hP 3 0 rfl rfl g1 dX6_meets_5 ?_
  refine lv_istore_n (lv' := [(2, .int (KS x1.toNatClampNeg)), (0, .ref (β 0)), (1, .int x1)]) hx hb dX6_meets_6 rfl hl (by decide) rfl (fun ls hl => ?_)
  refine lv_iconst (v := (0 : Int32)) hx hb dX6_meets_7 (by decide) ?_
  refine lv_istore_n (lv' := [(3, .int (0 : Int32)), (2, .int (KS x1.toNatClampNeg)), (0, .ref (β 0)), (1, .int x1)]) hx hb dX6_meets_8 rfl hl (by decide) rfl (fun ls hl => ?_)
  refine lv_iconst (v := (0 : Int32)) hx hb dX6_meets_9 (by decide) ?_
  refine lv_istore (lv' := [(4, .int (0 : Int32)), (3, .int (0 : Int32)), (2, .int (KS x1.toNatClampNeg)), (0, .ref (β 0)), (1, .int x1)]) hx hb dX6_meets_10 hl (by decide) rfl (fun ls hl => ?_)
  refine lv_iconst (v := (1 : Int32)) hx hb dX6_meets_12 (by decide) ?_
  refine lv_istore (lv' := [(5, .int (1 : Int32)), (4, .int (0 : Int32)), (3, .int (0 : Int32)), (2, .int (KS x1.toNatClampNeg)), (0, .ref (β 0)), (1, .int x1)]) hx hb dX6_meets_13 hl (by decide) rfl (fun ls hl => ?_)
  refine lv_iconst (v := (1 : Int32)) hx hb dX6_meets_15 (by decide) ?_
  refine lv_istore (lv' := [(6, .int (1 : Int32)), (5, .int (1 : Int32)), (4, .int (0 : Int32)), (3, .int (0 : Int32)), (2, .int (KS x1.toNatClampNeg)), (0, .ref (β 0)), (1, .int x1)]) hx hb dX6_meets_16 hl (by decide) rfl (fun ls hl => ?_)
  refine lv_iconst (v := (0 : Int32)) hx hb dX6_meets_18 (by decide) ?_
  refine lv_istore (lv' := [(7, .int (0 : Int32)), (6, .int (1 : Int32)), (5, .int (1 : Int32)), (4, .int (0 : Int32)), (3, .int (0 : Int32)), (2, .int (KS x1.toNatClampNeg)), (0, .ref (β 0)), (1, .int x1)]) hx hb dX6_meets_19 hl (by decide) rfl (fun ls hl => ?_)
  exact w21 F _ _ _ _ _ _ _ H locs ls hf hP hD hS (lv_sub hl [6, 7, 5, 4, 3, 2, 1, 0] rfl)
abbrev rm_X6_testRule : Room := { frames := 3, cells := 0, slots := 0, locals := 79 }
set_option maxHeartbeats 4000000 in
set_option maxRecDepth 100000 in
theorem c_X6_testRule (l : Launch) (D : va_G) (cI : ClassId) (β : Nat → Nat) (mT mW mH mS mR mL mC mZ mA mB : Int32) (KK KN KS KC AN JK JN JS JL MY KP FI TX : Nat → Int32) (F : Nat) (x1 : Int32) (res : Int32 × (Nat → Int32)) (hf : f_X6_testRule mW KK KN KS KC AN F FI x1 = some res) : kI l yX6_testRule wsX6_testRule rm_X6_testRule D cI [.ref (β 0), .int x1] (wM cI β mT mW mH mS mR mL mC mZ mA mB KK KN KS KC AN JK JN JS JL MY KP FI TX) (wM cI β mT mW mH mS mR mL mC mZ mA mB KK KN KS KC AN JK JN JS JL MY KP res.2 TX) res.1 := by
  unfold f_X6_testRule at hf
  refine kI_of (cc := cX6_testRule) (maxL := 3) (ret := (some .int)) (by decide +kernel) rfl (Nat.le_of_ble_eq_true rfl) ?_
  intro p e s m args below meth c A ls S hP hD hS hl
  have S : kC p s m args meth c cX6_testRule 3 wsX6_testRule RX6 (some .int) D cI A := S
  have hx := S.1.1
  have hb := S.1.2.1
  have hml := S.1.2.2.1
  have hown : s.vm.findClass RX6 = some m.cls := S.1.2.2.2.1
  have hts := S.1.2.2.2.2
  have hK := S.2.2.2.1
  have hnk := S.2.2.2.2.1.2
  have hiX6 : ∀ w ∈ u_ws RX6 TX6 23, w ∈ wsX6_testRule := by decide +kernel
  have fl16 := hts (.fieldLink RX6 16 "ProofCheckerModel" "ruleSize" "[I") (by decide +kernel)
  have fl22 := hts (.fieldLink RX6 22 "ProofCheckerModel" "answer" "[I") (by decide +kernel)
  have fl43 := hts (.fieldLink RX6 43 "ProofCheckerModel" "fill" "[I") (by decide +kernel)
  have hl : lv_has ls 3 [(0, .ref (β 0)), (1, .int x1)] := hl
  have w2 : ∀ (n : Nat), ∀ (x1 : Int32) (x2 : Int32) (FI : Nat → Int32) (H : Heap) (locs : List Loc) (ls : Array Slot), f_X6_testRule_L2 mW KK KN KS KC AN F n x1 x2 FI = some res → va_P D vwCl (wM cI β mT mW mH mS mR mL mC mZ mA mB KK KN KS KC AN JK JN JS JL MY KP FI TX) H → va_D A (wM cI β mT mW mH mS mR mL mC mZ mA mB KK KN KS KC AN JK JN JS JL MY KP FI TX) → va_S A s.heap H locs → lv_has ls 3 [(0, .ref (β 0)), (1, .int x1), (2, .int x2)] → W p l e rm_X6_testRule s m args below meth c H locs 0 0 (MQ below (kQi D A (wM cI β mT mW mH mS mR mL mC mZ mA mB KK KN KS KC AN JK JN JS JL MY KP res.2 TX) res.1) args s 0 0 A) (F0 m 2 ls []) := by
    intro n
    induction n with
    | zero => intro x1 x2 FI H locs ls hf; cases hf
    | succ n ih =>
      intro x1 x2 FI H locs ls hf hP hD hS hl
      rw [f_X6_testRule_L2.eq_2] at hf
      refine lv_iload_n hx hb dX6_testRule_2 rfl (lv_at hl 2 rfl) ?_
      refine lv_aload_n hx hb dX6_testRule_3 rfl (lv_at hl 0 rfl) ?_
      refine va_get (D := D) (ci := 7) (v := .ref (β 3)) (C := RX6) (T := TX6) (N := 23) hx hb hts hiX6 hown hK hP 0 rfl rfl 7 (by decide) fl16 (fun _ h9 => h9) rfl dX6_testRule_4 ?_
      refine lv_iload_n hx hb dX6_testRule_7 rfl (lv_at hl 1 rfl) ?_
      obtain ⟨g1, hf⟩ := gin_some hf
      refine va_iald hx hb hK hP 3 0 rfl rfl g1 dX6_testRule_8 ?_
      refine lv_icmp_ge (tgt := 46) hx hb dX6_testRule_9 (by decide) (fun c2 => ?_) (fun c2 => ?_)
      · have hf := it_t c2 hf
        refine lv_aload_n hx hb dX6_testRule_46 rfl (lv_at hl 0 rfl) ?_
        refine lv_iload_n hx hb dX6_testRule_47 rfl (lv_at hl 1 rfl) ?_
        obtain ⟨q3, hq3, hf⟩ := bnd hf
        refine kI_callV (As := [.int x1]) (rest := []) S hP hD hS (c_X6_meets l D cI β mT mW mH mS mR mL mC mZ mA mB KK KN KS KC AN JK JN JS JL MY KP FI TX F x1 q3 hq3) (cwV 1 hts gX6_testRule_X6_meets rfl rfl rfl (by decide +kernel) ⟨Nat.le_of_ble_eq_true rfl, Nat.le_of_ble_eq_true rfl⟩) 0 rfl rfl rfl hl.1 rfl (Nat.le_of_ble_eq_true rfl) dX6_testRule_48 ⟨Nat.zero_le _, Nat.zero_le _⟩ (fun H locs hP hD hS => ?_)
        have hP : va_P D vwCl (wM cI β mT mW mH mS mR mL mC mZ mA mB KK KN KS KC AN JK JN JS JL MY KP FI TX) H := hP
        have hD : va_D A (wM cI β mT mW mH mS mR mL mC mZ mA mB KK KN KS KC AN JK JN JS JL MY KP FI TX) := hD
        refine lv_if_eq (tgt := 58) hx hb dX6_testRule_51 (by decide) (fun c4 => ?_) (fun c4 => ?_)
        · have hf := it_t c4 hf
          refine lv_iconst (v := (0 : Int32)) hx hb dX6_testRule_58 (by decide) ?_
          have e9 := Option.some.inj hf
          subst e9
          exact kI_ret S rfl hP hD hS dX6_testRule_59
        · have hf := it_f c4 hf
          refine lv_iconst (v := (1 : Int32)) hx hb dX6_testRule_54 (by decide) ?_
          refine lv_goto (tgt := 59) hx hb dX6_testRule_55 (by decide) ?_
          have e9 := Option.some.inj hf
          subst e9
          exact kI_ret S rfl hP hD hS dX6_testRule_59
      · have hf := it_f c2 hf
        refine lv_aload_n hx hb dX6_testRule_12 rfl (lv_at hl 0 rfl) ?_
        refine va_get (D := D) (ci := 7) (v := .ref (β 12)) (C := RX6) (T := TX6) (N := 23) hx hb hts hiX6 hown hK hP 0 rfl rfl 18 (by decide) fl43 (fun _ h9 => h9) rfl dX6_testRule_13 ?_
        refine lv_iload_n hx hb dX6_testRule_16 rfl (lv_at hl 2 rfl) ?_
        refine lv_aload_n hx hb dX6_testRule_17 rfl (lv_at hl 0 rfl) ?_
        refine va_get (D := D) (ci := 7) (v := .ref (β 5)) (C := RX6) (T := TX6) (N := 23) hx hb hts hiX6 hown hK hP 0 rfl rfl 9 (by decide) fl22 (fun _ h9 => h9) rfl dX6_testRule_18 ?_
        refine lv_aload_n hx hb dX6_testRule_21 rfl (lv_at hl 0 rfl) ?_
        refine lv_iload_n hx hb dX6_testRule_22 rfl (lv_at hl 1 rfl) ?_
        refine lv_iload_n hx hb dX6_testRule_23 rfl (lv_at hl 2 rfl) ?_
        obtain ⟨q5, hq5, hf⟩ := bnd hf
        refine kI_callV (As := [.int x1, .int x2]) (rest := [.ref (β 5), .int x2, .ref (β 12)]) S hP hD hS (c_X6_member l D cI β mT mW mH mS mR mL mC mZ mA mB KK KN KS KC AN JK JN JS JL MY KP FI TX x1 x2 q5 hq5) (cwV 2 hts gX6_testRule_X6_member rfl rfl rfl (by decide +kernel) ⟨Nat.le_of_ble_eq_true rfl, Nat.le_of_ble_eq_true rfl⟩) 0 rfl rfl rfl hl.1 rfl (Nat.le_of_ble_eq_true rfl) dX6_testRule_24 ⟨Nat.zero_le _, Nat.zero_le _⟩ (fun H locs hP hD hS => ?_)
        have hP : va_P D vwCl (wM cI β mT mW mH mS mR mL mC mZ mA mB KK KN KS KC AN JK JN JS JL MY KP FI TX) H := hP
        have hD : va_D A (wM cI β mT mW mH mS mR mL mC mZ mA mB KK KN KS KC AN JK JN JS JL MY KP FI TX) := hD
        obtain ⟨g6, hf⟩ := gin_some hf
        refine va_iald hx hb hK hP 5 0 rfl rfl g6 dX6_testRule_27 ?_
        obtain ⟨g7, hf⟩ := gin_some hf
        refine va_iast hx hb hK hP hD hS 12 0 rfl rfl g7 dX6_testRule_28 (fun H locs hP hD hS => ?_)
        have hP : va_P D vwCl (wM cI β mT mW mH mS mR mL mC mZ mA mB KK KN KS KC AN JK JN JS JL MY KP (upd FI x2.toNatClampNeg (AN q5.toNatClampNeg)) TX) H := hP
        have hD : va_D A (wM cI β mT mW mH mS mR mL mC mZ mA mB KK KN KS KC AN JK JN JS JL MY KP (upd FI x2.toNatClampNeg (AN q5.toNatClampNeg)) TX) := hD
        refine lv_aload_n hx hb dX6_testRule_29 rfl (lv_at hl 0 rfl) ?_
        refine va_get (D := D) (ci := 7) (v := .ref (β 12)) (C := RX6) (T := TX6) (N := 23) hx hb hts hiX6 hown hK hP 0 rfl rfl 18 (by decide) fl43 (fun _ h9 => h9) rfl dX6_testRule_30 ?_
        refine lv_iload_n hx hb dX6_testRule_33 rfl (lv_at hl 2 rfl) ?_
        obtain ⟨g8, hf⟩ := gin_some hf
        refine va_iald hx hb hK hP 12 0 rfl rfl g8 dX6_testRule_34 ?_
        refine lv_if_ge (tgt := 40) hx hb dX6_testRule_35 (by decide) (fun c9 => ?_) (fun c9 => ?_)
        · have hf := it_t c9 hf
          refine lv_iinc (v := (x2 + (1 : Int32))) (lv' := [(2, .int (x2 + (1 : Int32))), (0, .ref (β 0)), (1, .int x1)]) hx hb dX6_testRule_40 hl (k := 2) rfl rfl (by decide) rfl (fun ls hl => ?_)
          refine lv_goto (tgt := 2) hx hb dX6_testRule_43 (by decide) ?_
          exact ih _ _ _ H locs ls hf hP hD hS (lv_sub hl [1, 2, 0] rfl)
        · have hf := it_f c9 hf
          refine lv_iconst (v := (-1 : Int32)) hx hb dX6_testRule_38 (by decide) ?_
          have e9 := Option.some.inj hf
          subst e9
          exact kI_ret S rfl hP hD hS dX6_testRule_39
  suffices hgo : ∀ (H : Heap) (locs : List Loc), va_P D vwCl (wM cI β mT mW mH mS mR mL mC mZ mA mB KK KN KS KC AN JK JN JS JL MY KP FI TX) H → va_D A (wM cI β mT mW mH mS mR mL mC mZ mA mB KK KN KS KC AN JK JN JS JL MY KP FI TX) → va_S A s.heap H locs → W p l e rm_X6_testRule s m args below meth c H locs 0 0 (MQ below (kQi D A (wM cI β mT mW mH mS mR mL mC mZ mA mB KK KN KS KC AN JK JN JS JL MY KP res.2 TX) res.1) args s 0 0 A) (F0 m 0 ls []) from hgo _ _ hP hD hS
  clear hP hD hS
  intro H locs hP hD hS
  refine lv_iconst (v := (0 : Int32)) hx hb dX6_testRule_0 (by decide) ?_
  refine lv_istore_n (lv' := [(2, .int (0 : Int32)), (0, .ref (β 0)), (1, .int x1)]) hx hb dX6_testRule_1 rfl hl (by decide) rfl (fun ls hl => ?_)
  exact w2 F _ _ _ H locs ls hf hP hD hS (lv_sub hl [1, 2, 0] rfl)
abbrev rm_X6_test : Room := { frames := 4, cells := 0, slots := 0, locals := 101 }
set_option maxHeartbeats 4000000 in
set_option maxRecDepth 100000 in
theorem c_X6_test (l : Launch) (D : va_G) (cI : ClassId) (β : Nat → Nat) (mT mW mH mS mR mL mC mZ mA mB : Int32) (KK KN KS KC AN JK JN JS JL MY KP FI TX : Nat → Int32) (F : Nat) (x1 : Int32) (res : Int32 × Int32 × (Nat → Int32)) (hf : f_X6_test mW mR KK KN KS KC AN F mT FI x1 = some res) : kI l yX6_test wsX6_test rm_X6_test D cI [.ref (β 0), .int x1] (wM cI β mT mW mH mS mR mL mC mZ mA mB KK KN KS KC AN JK JN JS JL MY KP FI TX) (wM cI β res.2.1 mW mH mS mR mL mC mZ mA mB KK KN KS KC AN JK JN JS JL MY KP res.2.2 TX) res.1 := by
  unfold f_X6_test at hf
  refine kI_of (cc := cX6_test) (maxL := 2) (ret := (some .int)) (by decide +kernel) rfl (Nat.le_of_ble_eq_true rfl) ?_
  intro p e s m args below meth c A ls S hP hD hS hl
  have S : kC p s m args meth c cX6_test 2 wsX6_test RX6 (some .int) D cI A := S
  have hx := S.1.1
  have hb := S.1.2.1
  have hml := S.1.2.2.1
  have hown : s.vm.findClass RX6 = some m.cls := S.1.2.2.2.1
  have hts := S.1.2.2.2.2
  have hK := S.2.2.2.1
  have hnk := S.2.2.2.2.1.2
  have hiX6 : ∀ w ∈ u_ws RX6 TX6 23, w ∈ wsX6_test := by decide +kernel
  have fl70 := hts (.fieldLink RX6 70 "ProofCheckerModel" "rules" "I") (by decide +kernel)
  have hl : lv_has ls 2 [(0, .ref (β 0)), (1, .int x1)] := hl
  have w19 : ∀ (t1 : Int32) (t2 : Int32) (x1 : Int32) (mT : Int32) (FI : Nat → Int32) (H : Heap) (locs : List Loc) (ls : Array Slot), f_X6_test_J19 mW mR KK KN KS KC AN F t1 t2 x1 mT FI = some res → va_P D vwCl (wM cI β mT mW mH mS mR mL mC mZ mA mB KK KN KS KC AN JK JN JS JL MY KP FI TX) H → va_D A (wM cI β mT mW mH mS mR mL mC mZ mA mB KK KN KS KC AN JK JN JS JL MY KP FI TX) → va_S A s.heap H locs → lv_has ls 2 [(0, .ref (β 0)), (1, .int x1)] → W p l e rm_X6_test s m args below meth c H locs 0 0 (MQ below (kQi D A (wM cI β res.2.1 mW mH mS mR mL mC mZ mA mB KK KN KS KC AN JK JN JS JL MY KP res.2.2 TX) res.1) args s 0 0 A) (F0 m 19 ls [.int t2, .int t1, .ref (β 0)]) := by
    intro t1 t2 x1 mT FI H locs ls hf hP hD hS hl
    unfold f_X6_test_J19 at hf
    obtain ⟨q3, hq3, hf⟩ := bnd hf
    refine kI_callV (As := [.int t1, .int t2]) (rest := []) S hP hD hS (c_X6_throwsIf l D cI β mT mW mH mS mR mL mC mZ mA mB KK KN KS KC AN JK JN JS JL MY KP FI TX t1 t2 q3 hq3) (cwV 2 hts gX6_test_X6_throwsIf rfl rfl rfl (by decide +kernel) ⟨Nat.le_of_ble_eq_true rfl, Nat.le_of_ble_eq_true rfl⟩) 0 rfl rfl rfl hl.1 rfl (Nat.le_of_ble_eq_true rfl) dX6_test_19 ⟨Nat.zero_le _, Nat.zero_le _⟩ (fun H locs hP hD hS => ?_)
    have hP : va_P D vwCl (wM cI β q3.2 mW mH mS mR mL mC mZ mA mB KK KN KS KC AN JK JN JS JL MY KP FI TX) H := hP
    have hD : va_D A (wM cI β q3.2 mW mH mS mR mL mC mZ mA mB KK KN KS KC AN JK JN JS JL MY KP FI TX) := hD
    refine lv_if_eq (tgt := 29) hx hb dX6_test_22 (by decide) (fun c4 => ?_) (fun c4 => ?_)
    · have hf := it_t c4 hf
      refine lv_aload_n hx hb dX6_test_29 rfl (lv_at hl 0 rfl) ?_
      refine lv_iload_n hx hb dX6_test_30 rfl (lv_at hl 1 rfl) ?_
      obtain ⟨q5, hq5, hf⟩ := bnd hf
      refine kI_callV (As := [.int x1]) (rest := []) S hP hD hS (c_X6_testRule l D cI β q3.2 mW mH mS mR mL mC mZ mA mB KK KN KS KC AN JK JN JS JL MY KP FI TX F x1 q5 hq5) (cwV 1 hts gX6_test_X6_testRule rfl rfl rfl (by decide +kernel) ⟨Nat.le_of_ble_eq_true rfl, Nat.le_of_ble_eq_true rfl⟩) 0 rfl rfl rfl hl.1 rfl (Nat.le_of_ble_eq_true rfl) dX6_test_31 ⟨Nat.zero_le _, Nat.zero_le _⟩ (fun H locs hP hD hS => ?_)
      have hP : va_P D vwCl (wM cI β q3.2 mW mH mS mR mL mC mZ mA mB KK KN KS KC AN JK JN JS JL MY KP q5.2 TX) H := hP
      have hD : va_D A (wM cI β q3.2 mW mH mS mR mL mC mZ mA mB KK KN KS KC AN JK JN JS JL MY KP q5.2 TX) := hD
      have e9 := Option.some.inj hf
      subst e9
      exact kI_ret S rfl hP hD hS dX6_test_34
    · have hf := it_f c4 hf
      refine lv_iconst (v := (0 : Int32)) hx hb dX6_test_25 (by decide) ?_
      refine lv_goto (tgt := 34) hx hb dX6_test_26 (by decide) ?_
      have e9 := Option.some.inj hf
      subst e9
      exact kI_ret S rfl hP hD hS dX6_test_34
  have w14 : ∀ (t1 : Int32) (x1 : Int32) (mT : Int32) (FI : Nat → Int32) (H : Heap) (locs : List Loc) (ls : Array Slot), f_X6_test_J14 mW mR KK KN KS KC AN F t1 x1 mT FI = some res → va_P D vwCl (wM cI β mT mW mH mS mR mL mC mZ mA mB KK KN KS KC AN JK JN JS JL MY KP FI TX) H → va_D A (wM cI β mT mW mH mS mR mL mC mZ mA mB KK KN KS KC AN JK JN JS JL MY KP FI TX) → va_S A s.heap H locs → lv_has ls 2 [(0, .ref (β 0)), (1, .int x1)] → W p l e rm_X6_test s m args below meth c H locs 0 0 (MQ below (kQi D A (wM cI β res.2.1 mW mH mS mR mL mC mZ mA mB KK KN KS KC AN JK JN JS JL MY KP res.2.2 TX) res.1) args s 0 0 A) (F0 m 14 ls [.int t1, .ref (β 0)]) := by
    intro t1 x1 mT FI H locs ls hf hP hD hS hl
    unfold f_X6_test_J14 at hf
    refine lv_iconst (v := (1 : Int32)) hx hb dX6_test_14 (by decide) ?_
    refine lv_goto (tgt := 19) hx hb dX6_test_15 (by decide) ?_
    exact w19 _ _ _ _ _ H locs ls hf hP hD hS (lv_sub hl [0, 1] rfl)
  suffices hgo : ∀ (H : Heap) (locs : List Loc), va_P D vwCl (wM cI β mT mW mH mS mR mL mC mZ mA mB KK KN KS KC AN JK JN JS JL MY KP FI TX) H → va_D A (wM cI β mT mW mH mS mR mL mC mZ mA mB KK KN KS KC AN JK JN JS JL MY KP FI TX) → va_S A s.heap H locs → W p l e rm_X6_test s m args below meth c H locs 0 0 (MQ below (kQi D A (wM cI β res.2.1 mW mH mS mR mL mC mZ mA mB KK KN KS KC AN JK JN JS JL MY KP res.2.2 TX) res.1) args s 0 0 A) (F0 m 0 ls []) from hgo _ _ hP hD hS
  clear hP hD hS
  intro H locs hP hD hS
  refine lv_aload_n hx hb dX6_test_0 rfl (lv_at hl 0 rfl) ?_
  refine lv_iconst (v := (1 : Int32)) hx hb dX6_test_1 (by decide) ?_
  refine lv_iload_n hx hb dX6_test_2 rfl (lv_at hl 1 rfl) ?_
  refine lv_if_lt (tgt := 14) hx hb dX6_test_3 (by decide) (fun c1 => ?_) (fun c1 => ?_)
  · have hf := it_t c1 hf
    exact w14 _ _ _ _ H locs ls hf hP hD hS (lv_sub hl [0, 1] rfl)
  · have hf := it_f c1 hf
    refine lv_iload_n hx hb dX6_test_6 rfl (lv_at hl 1 rfl) ?_
    refine lv_aload_n hx hb dX6_test_7 rfl (lv_at hl 0 rfl) ?_
    refine va_get (D := D) (ci := 7) (v := .int mR) (C := RX6) (T := TX6) (N := 23) hx hb hts hiX6 hown hK hP 0 rfl rfl 4 (by decide) fl70 (fun _ h9 => h9) rfl dX6_test_8 ?_
    refine lv_icmp_lt (tgt := 18) hx hb dX6_test_11 (by decide) (fun c2 => ?_) (fun c2 => ?_)
    · have hf := it_t c2 hf
      refine lv_iconst (v := (0 : Int32)) hx hb dX6_test_18 (by decide) ?_
      exact w19 _ _ _ _ _ H locs ls hf hP hD hS (lv_sub hl [0, 1] rfl)
    · have hf := it_f c2 hf
      exact w14 _ _ _ _ H locs ls hf hP hD hS (lv_sub hl [0, 1] rfl)
abbrev rm_X6_firstFailing : Room := { frames := 4, cells := 0, slots := 0, locals := 101 }
set_option maxHeartbeats 4000000 in
set_option maxRecDepth 100000 in
theorem c_X6_firstFailing (l : Launch) (D : va_G) (cI : ClassId) (β : Nat → Nat) (mT mW mH mS mR mL mC mZ mA mB : Int32) (KK KN KS KC AN JK JN JS JL MY KP FI TX : Nat → Int32) (F : Nat)  (res : Int32 × (Nat → Int32)) (hf : f_X6_firstFailing mW mR KK KN KS KC AN F FI = some res) : kI l yX6_firstFailing wsX6_firstFailing rm_X6_firstFailing D cI [.ref (β 0)] (wM cI β mT mW mH mS mR mL mC mZ mA mB KK KN KS KC AN JK JN JS JL MY KP FI TX) (wM cI β mT mW mH mS mR mL mC mZ mA mB KK KN KS KC AN JK JN JS JL MY KP res.2 TX) res.1 := by
  unfold f_X6_firstFailing at hf
  refine kI_of (cc := cX6_firstFailing) (maxL := 2) (ret := (some .int)) (by decide +kernel) rfl (Nat.le_of_ble_eq_true rfl) ?_
  intro p e s m args below meth c A ls S hP hD hS hl
  have S : kC p s m args meth c cX6_firstFailing 2 wsX6_firstFailing RX6 (some .int) D cI A := S
  have hx := S.1.1
  have hb := S.1.2.1
  have hml := S.1.2.2.1
  have hown : s.vm.findClass RX6 = some m.cls := S.1.2.2.2.1
  have hts := S.1.2.2.2.2
  have hK := S.2.2.2.1
  have hnk := S.2.2.2.2.1.2
  have hiX6 : ∀ w ∈ u_ws RX6 TX6 23, w ∈ wsX6_firstFailing := by decide +kernel
  have fl70 := hts (.fieldLink RX6 70 "ProofCheckerModel" "rules" "I") (by decide +kernel)
  have hl : lv_has ls 2 [(0, .ref (β 0))] := hl
  have w2 : ∀ (n : Nat), ∀ (x1 : Int32) (FI : Nat → Int32) (H : Heap) (locs : List Loc) (ls : Array Slot), f_X6_firstFailing_L2 mW mR KK KN KS KC AN F n x1 FI = some res → va_P D vwCl (wM cI β mT mW mH mS mR mL mC mZ mA mB KK KN KS KC AN JK JN JS JL MY KP FI TX) H → va_D A (wM cI β mT mW mH mS mR mL mC mZ mA mB KK KN KS KC AN JK JN JS JL MY KP FI TX) → va_S A s.heap H locs → lv_has ls 2 [(0, .ref (β 0)), (1, .int x1)] → W p l e rm_X6_firstFailing s m args below meth c H locs 0 0 (MQ below (kQi D A (wM cI β mT mW mH mS mR mL mC mZ mA mB KK KN KS KC AN JK JN JS JL MY KP res.2 TX) res.1) args s 0 0 A) (F0 m 2 ls []) := by
    intro n
    induction n with
    | zero => intro x1 FI H locs ls hf; cases hf
    | succ n ih =>
      intro x1 FI H locs ls hf hP hD hS hl
      rw [f_X6_firstFailing_L2.eq_2] at hf
      refine lv_iload_n hx hb dX6_firstFailing_2 rfl (lv_at hl 1 rfl) ?_
      refine lv_aload_n hx hb dX6_firstFailing_3 rfl (lv_at hl 0 rfl) ?_
      refine va_get (D := D) (ci := 7) (v := .int mR) (C := RX6) (T := TX6) (N := 23) hx hb hts hiX6 hown hK hP 0 rfl rfl 4 (by decide) fl70 (fun _ h9 => h9) rfl dX6_firstFailing_4 ?_
      refine lv_icmp_ge (tgt := 27) hx hb dX6_firstFailing_7 (by decide) (fun c1 => ?_) (fun c1 => ?_)
      · have hf := it_t c1 hf
        refine lv_iconst (v := (-1 : Int32)) hx hb dX6_firstFailing_27 (by decide) ?_
        have e9 := Option.some.inj hf
        subst e9
        exact kI_ret S rfl hP hD hS dX6_firstFailing_28
      · have hf := it_f c1 hf
        refine lv_aload_n hx hb dX6_firstFailing_10 rfl (lv_at hl 0 rfl) ?_
        refine lv_iload_n hx hb dX6_firstFailing_11 rfl (lv_at hl 1 rfl) ?_
        obtain ⟨q2, hq2, hf⟩ := bnd hf
        refine kI_callV (As := [.int x1]) (rest := []) S hP hD hS (c_X6_testRule l D cI β mT mW mH mS mR mL mC mZ mA mB KK KN KS KC AN JK JN JS JL MY KP FI TX F x1 q2 hq2) (cwV 1 hts gX6_firstFailing_X6_testRule rfl rfl rfl (by decide +kernel) ⟨Nat.le_of_ble_eq_true rfl, Nat.le_of_ble_eq_true rfl⟩) 0 rfl rfl rfl hl.1 rfl (Nat.le_of_ble_eq_true rfl) dX6_firstFailing_12 ⟨Nat.zero_le _, Nat.zero_le _⟩ (fun H locs hP hD hS => ?_)
        have hP : va_P D vwCl (wM cI β mT mW mH mS mR mL mC mZ mA mB KK KN KS KC AN JK JN JS JL MY KP q2.2 TX) H := hP
        have hD : va_D A (wM cI β mT mW mH mS mR mL mC mZ mA mB KK KN KS KC AN JK JN JS JL MY KP q2.2 TX) := hD
        refine lv_iconst (v := (1 : Int32)) hx hb dX6_firstFailing_15 (by decide) ?_
        refine lv_icmp_eq (tgt := 21) hx hb dX6_firstFailing_16 (by decide) (fun c3 => ?_) (fun c3 => ?_)
        · have hf := it_t c3 hf
          refine lv_iinc (v := (x1 + (1 : Int32))) (lv' := [(1, .int (x1 + (1 : Int32))), (0, .ref (β 0))]) hx hb dX6_firstFailing_21 hl (k := 1) rfl rfl (by decide) rfl (fun ls hl => ?_)
          refine lv_goto (tgt := 2) hx hb dX6_firstFailing_24 (by decide) ?_
          exact ih _ _ H locs ls hf hP hD hS (lv_sub hl [1, 0] rfl)
        · have hf := it_f c3 hf
          refine lv_iload_n hx hb dX6_firstFailing_19 rfl (lv_at hl 1 rfl) ?_
          have e9 := Option.some.inj hf
          subst e9
          exact kI_ret S rfl hP hD hS dX6_firstFailing_20
  suffices hgo : ∀ (H : Heap) (locs : List Loc), va_P D vwCl (wM cI β mT mW mH mS mR mL mC mZ mA mB KK KN KS KC AN JK JN JS JL MY KP FI TX) H → va_D A (wM cI β mT mW mH mS mR mL mC mZ mA mB KK KN KS KC AN JK JN JS JL MY KP FI TX) → va_S A s.heap H locs → W p l e rm_X6_firstFailing s m args below meth c H locs 0 0 (MQ below (kQi D A (wM cI β mT mW mH mS mR mL mC mZ mA mB KK KN KS KC AN JK JN JS JL MY KP res.2 TX) res.1) args s 0 0 A) (F0 m 0 ls []) from hgo _ _ hP hD hS
  clear hP hD hS
  intro H locs hP hD hS
  refine lv_iconst (v := (0 : Int32)) hx hb dX6_firstFailing_0 (by decide) ?_
  refine lv_istore_n (lv' := [(1, .int (0 : Int32)), (0, .ref (β 0))]) hx hb dX6_firstFailing_1 rfl hl (by decide) rfl (fun ls hl => ?_)
  exact w2 F _ _ H locs ls hf hP hD hS (lv_sub hl [1, 0] rfl)
abbrev rm_X6_fails : Room := { frames := 5, cells := 0, slots := 0, locals := 122 }
set_option maxHeartbeats 4000000 in
set_option maxRecDepth 100000 in
theorem c_X6_fails (l : Launch) (D : va_G) (cI : ClassId) (β : Nat → Nat) (mT mW mH mS mR mL mC mZ mA mB : Int32) (KK KN KS KC AN JK JN JS JL MY KP FI TX : Nat → Int32) (F : Nat)  (res : Int32 × Int32 × (Nat → Int32)) (hf : f_X6_fails mW mR KK KN KS KC AN F mT FI = some res) : kI l yX6_fails wsX6_fails rm_X6_fails D cI [.ref (β 0)] (wM cI β mT mW mH mS mR mL mC mZ mA mB KK KN KS KC AN JK JN JS JL MY KP FI TX) (wM cI β res.2.1 mW mH mS mR mL mC mZ mA mB KK KN KS KC AN JK JN JS JL MY KP res.2.2 TX) res.1 := by
  unfold f_X6_fails at hf
  refine kI_of (cc := cX6_fails) (maxL := 1) (ret := (some .int)) (by decide +kernel) rfl (Nat.le_of_ble_eq_true rfl) ?_
  intro p e s m args below meth c A ls S hP hD hS hl
  have S : kC p s m args meth c cX6_fails 1 wsX6_fails RX6 (some .int) D cI A := S
  have hx := S.1.1
  have hb := S.1.2.1
  have hml := S.1.2.2.1
  have hown : s.vm.findClass RX6 = some m.cls := S.1.2.2.2.1
  have hts := S.1.2.2.2.2
  have hK := S.2.2.2.1
  have hnk := S.2.2.2.2.1.2
  have hiX6 : ∀ w ∈ u_ws RX6 TX6 23, w ∈ wsX6_fails := by decide +kernel
  have fl63 := hts (.fieldLink RX6 63 "ProofCheckerModel" "thrown" "I") (by decide +kernel)
  have hl : lv_has ls 1 [(0, .ref (β 0))] := hl
  suffices hgo : ∀ (H : Heap) (locs : List Loc), va_P D vwCl (wM cI β mT mW mH mS mR mL mC mZ mA mB KK KN KS KC AN JK JN JS JL MY KP FI TX) H → va_D A (wM cI β mT mW mH mS mR mL mC mZ mA mB KK KN KS KC AN JK JN JS JL MY KP FI TX) → va_S A s.heap H locs → W p l e rm_X6_fails s m args below meth c H locs 0 0 (MQ below (kQi D A (wM cI β res.2.1 mW mH mS mR mL mC mZ mA mB KK KN KS KC AN JK JN JS JL MY KP res.2.2 TX) res.1) args s 0 0 A) (F0 m 0 ls []) from hgo _ _ hP hD hS
  clear hP hD hS
  intro H locs hP hD hS
  refine lv_aload_n hx hb dX6_fails_0 rfl (lv_at hl 0 rfl) ?_
  refine lv_iconst (v := (0 : Int32)) hx hb dX6_fails_1 (by decide) ?_
  refine va_put (D := D) (ci := 7) (v := .int (0 : Int32)) (ty := .int) (C := RX6) (T := TX6) (N := 23) hx hb hts hiX6 tyX6 tyX6_ok nmX6 hown hK hP hD hS 0 rfl rfl 0 (by decide) fl63 (fun _ h9 => h9) rfl (by decide +kernel) rfl rfl (Nat.le_of_ble_eq_true rfl) dX6_fails_2 (fun H locs hP hD hS => ?_)
  have hP : va_P D vwCl (wM cI β (0 : Int32) mW mH mS mR mL mC mZ mA mB KK KN KS KC AN JK JN JS JL MY KP FI TX) H := hP
  have hD : va_D A (wM cI β (0 : Int32) mW mH mS mR mL mC mZ mA mB KK KN KS KC AN JK JN JS JL MY KP FI TX) := hD
  refine lv_aload_n hx hb dX6_fails_5 rfl (lv_at hl 0 rfl) ?_
  obtain ⟨q1, hq1, hf⟩ := bnd hf
  refine kI_callV (As := []) (rest := []) S hP hD hS (c_X6_firstFailing l D cI β (0 : Int32) mW mH mS mR mL mC mZ mA mB KK KN KS KC AN JK JN JS JL MY KP FI TX F q1 hq1) (cwV 0 hts gX6_fails_X6_firstFailing rfl rfl rfl (by decide +kernel) ⟨Nat.le_of_ble_eq_true rfl, Nat.le_of_ble_eq_true rfl⟩) 0 rfl rfl rfl hl.1 rfl (Nat.le_of_ble_eq_true rfl) dX6_fails_6 ⟨Nat.zero_le _, Nat.zero_le _⟩ (fun H locs hP hD hS => ?_)
  have hP : va_P D vwCl (wM cI β (0 : Int32) mW mH mS mR mL mC mZ mA mB KK KN KS KC AN JK JN JS JL MY KP q1.2 TX) H := hP
  have hD : va_D A (wM cI β (0 : Int32) mW mH mS mR mL mC mZ mA mB KK KN KS KC AN JK JN JS JL MY KP q1.2 TX) := hD
  have e9 := Option.some.inj hf
  subst e9
  exact kI_ret S rfl hP hD hS dX6_fails_9
