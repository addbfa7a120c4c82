abbrev rm_X6_thrown : Room := { frames := 0, cells := 0, slots := 0, locals := 0 }
set_option maxHeartbeats 4000000 in
set_option maxRecDepth 100000 in
theorem c_X6_thrown (l : Launch) (D : va_G) (cI : ClassId) (β : Nat → Nat) (mT mW mH mS mR mL mC mZ mA mB : Int32) (KK KN KS KC AN JK JN JS JL MY KP FI TX : Nat → Int32)  (res : Int32) (hf : f_X6_thrown mT = some res) : kI l yX6_thrown wsX6_thrown rm_X6_thrown D cI [.ref (β 0)] (wM cI β mT mW mH mS mR mL mC mZ mA mB KK KN KS KC AN JK JN JS JL MY KP FI TX) (wM cI β mT mW mH mS mR mL mC mZ mA mB KK KN KS KC AN JK JN JS JL MY KP FI TX) res := by
  unfold f_X6_thrown at hf
  refine kI_of (cc := cX6_thrown) (maxL := 1) (ret := (some .int)) (by decide +kernel) rfl (Nat.le_of_ble_eq_true rfl) ?_
  intro p e s m args below meth c A ls S hP hD hS hl
  have S : kC p s m args meth c cX6_thrown 1 wsX6_thrown RX6 (some .int) D cI A := S
  have hx := S.1.1
  have hb := S.1.2.1
  have hml := S.1.2.2.1
  have hown : s.vm.findClass RX6 = some m.cls := S.1.2.2.2.1
  have hts := S.1.2.2.2.2
  have hK := S.2.2.2.1
  have hnk := S.2.2.2.2.1.2
  have hiX6 : ∀ w ∈ u_ws RX6 TX6 23, w ∈ wsX6_thrown := by decide +kernel
  have fl63 := hts (.fieldLink RX6 63 "ProofCheckerModel" "thrown" "I") (by decide +kernel)
  have hl : lv_has ls 1 [(0, .ref (β 0))] := hl
  suffices hgo : ∀ (H : Heap) (locs : List Loc), va_P D vwCl (wM cI β mT mW mH mS mR mL mC mZ mA mB KK KN KS KC AN JK JN JS JL MY KP FI TX) H → va_D A (wM cI β mT mW mH mS mR mL mC mZ mA mB KK KN KS KC AN JK JN JS JL MY KP FI TX) → va_S A s.heap H locs → W p l e rm_X6_thrown s m args below meth c H locs 0 0 (MQ below (kQi D A (wM cI β mT mW mH mS mR mL mC mZ mA mB KK KN KS KC AN JK JN JS JL MY KP FI TX) res) args s 0 0 A) (F0 m 0 ls []) from hgo _ _ hP hD hS
  clear hP hD hS
  intro H locs hP hD hS
  refine lv_aload_n hx hb dX6_thrown_0 rfl (lv_at hl 0 rfl) ?_
  refine va_get (D := D) (ci := 7) (v := .int mT) (C := RX6) (T := TX6) (N := 23) hx hb hts hiX6 hown hK hP 0 rfl rfl 0 (by decide) fl63 (fun _ h9 => h9) rfl dX6_thrown_1 ?_
  have e9 := Option.some.inj hf
  subst e9
  exact kI_ret S rfl hP hD hS dX6_thrown_4
abbrev rm_X6_throwsIf : Room := { frames := 0, cells := 0, slots := 0, locals := 0 }
set_option maxHeartbeats 4000000 in
set_option maxRecDepth 100000 in
theorem c_X6_throwsIf (l : Launch) (D : va_G) (cI : ClassId) (β : Nat → Nat) (mT mW mH mS mR mL mC mZ mA mB : Int32) (KK KN KS KC AN JK JN JS JL MY KP FI TX : Nat → Int32) (x1 : Int32) (x2 : Int32) (res : Int32 × Int32) (hf : f_X6_throwsIf mT x1 x2 = some res) : kI l yX6_throwsIf wsX6_throwsIf rm_X6_throwsIf D cI [.ref (β 0), .int x1, .int x2] (wM cI β mT mW mH mS mR mL mC mZ mA mB KK KN KS KC AN JK JN JS JL MY KP FI TX) (wM cI β res.2 mW mH mS mR mL mC mZ mA mB KK KN KS KC AN JK JN JS JL MY KP FI TX) res.1 := by
  unfold f_X6_throwsIf at hf
  refine kI_of (cc := cX6_throwsIf) (maxL := 3) (ret := (some .boolean)) (by decide +kernel) rfl (Nat.le_of_ble_eq_true rfl) ?_
  intro p e s m args below meth c A ls S hP hD hS hl
  have S : kC p s m args meth c cX6_throwsIf 3 wsX6_throwsIf RX6 (some .boolean) D cI A := S
  have hx := S.1.1
  have hb := S.1.2.1
  have hml := S.1.2.2.1
  have hown : s.vm.findClass RX6 = some m.cls := S.1.2.2.2.1
  have hts := S.1.2.2.2.2
  have hK := S.2.2.2.1
  have hnk := S.2.2.2.2.1.2
  have hiX6 : ∀ w ∈ u_ws RX6 TX6 23, w ∈ wsX6_throwsIf := by decide +kernel
  have fl63 := hts (.fieldLink RX6 63 "ProofCheckerModel" "thrown" "I") (by decide +kernel)
  have hl : lv_has ls 3 [(0, .ref (β 0)), (1, .int x1), (2, .int x2)] := hl
  suffices hgo : ∀ (H : Heap) (locs : List Loc), va_P D vwCl (wM cI β mT mW mH mS mR mL mC mZ mA mB KK KN KS KC AN JK JN JS JL MY KP FI TX) H → va_D A (wM cI β mT mW mH mS mR mL mC mZ mA mB KK KN KS KC AN JK JN JS JL MY KP FI TX) → va_S A s.heap H locs → W p l e rm_X6_throwsIf s m args below meth c H locs 0 0 (MQ below (kQi D A (wM cI β res.2 mW mH mS mR mL mC mZ mA mB KK KN KS KC AN JK JN JS JL MY KP FI TX) res.1) args s 0 0 A) (F0 m 0 ls []) from hgo _ _ hP hD hS
  clear hP hD hS
  intro H locs hP hD hS
  refine lv_aload_n hx hb dX6_throwsIf_0 rfl (lv_at hl 0 rfl) ?_
  refine lv_iload_n hx hb dX6_throwsIf_1 rfl (lv_at hl 2 rfl) ?_
  refine lv_if_eq (tgt := 9) hx hb dX6_throwsIf_2 (by decide) (fun c1 => ?_) (fun c1 => ?_)
  · have hf := it_t c1 hf
    refine lv_iconst (v := (0 : Int32)) hx hb dX6_throwsIf_9 (by decide) ?_
    refine va_put (D := D) (ci := 7) (v := .int (0 : Int32)) (ty := .int) (C := RX6) (T := TX6) (N := 23) hx hb hts hiX6 tyX6 tyX6_ok nmX6 hown hK hP hD hS 0 rfl rfl 0 (by decide) fl63 (fun _ h9 => h9) rfl (by decide +kernel) rfl rfl (Nat.le_of_ble_eq_true rfl) dX6_throwsIf_10 (fun H locs hP hD hS => ?_)
    have hP : va_P D vwCl (wM cI β (0 : Int32) mW mH mS mR mL mC mZ mA mB KK KN KS KC AN JK JN JS JL MY KP FI TX) H := hP
    have hD : va_D A (wM cI β (0 : Int32) mW mH mS mR mL mC mZ mA mB KK KN KS KC AN JK JN JS JL MY KP FI TX) := hD
    refine lv_iload_n hx hb dX6_throwsIf_13 rfl (lv_at hl 2 rfl) ?_
    obtain ⟨g2, hf⟩ := gbl_some hf
    have e9 := Option.some.inj hf
    subst e9
    exact kI_ret S (nar_b g2) hP hD hS dX6_throwsIf_14
  · have hf := it_f c1 hf
    refine lv_iload_n hx hb dX6_throwsIf_5 rfl (lv_at hl 1 rfl) ?_
    refine lv_goto (tgt := 10) hx hb dX6_throwsIf_6 (by decide) ?_
    refine va_put (D := D) (ci := 7) (v := .int x1) (ty := .int) (C := RX6) (T := TX6) (N := 23) hx hb hts hiX6 tyX6 tyX6_ok nmX6 hown hK hP hD hS 0 rfl rfl 0 (by decide) fl63 (fun _ h9 => h9) rfl (by decide +kernel) rfl rfl (Nat.le_of_ble_eq_true rfl) dX6_throwsIf_10 (fun H locs hP hD hS => ?_)
    have hP : va_P D vwCl (wM cI β x1 mW mH mS mR mL mC mZ mA mB KK KN KS KC AN JK JN JS JL MY KP FI TX) H := hP
    have hD : va_D A (wM cI β x1 mW mH mS mR mL mC mZ mA mB KK KN KS KC AN JK JN JS JL MY KP FI TX) := hD
    refine lv_iload_n hx hb dX6_throwsIf_13 rfl (lv_at hl 2 rfl) ?_
    obtain ⟨g3, hf⟩ := gbl_some hf
    have e9 := Option.some.inj hf
    subst e9
    exact kI_ret S (nar_b g3) hP hD hS dX6_throwsIf_14
abbrev rm_X6_held : Room := { frames := 0, cells := 0, slots := 0, locals := 0 }
set_option maxHeartbeats 4000000 in
set_option maxRecDepth 100000 in
theorem c_X6_held (l : Launch) (D : va_G) (cI : ClassId) (x0 : Int32) (x1 : Int32) (res : Int32) (hf : f_X6_held x0 x1 = some res) : kI l yX6_held wsX6_held rm_X6_held D cI [.int x0, .int x1] ([]) ([]) res := by
  unfold f_X6_held at hf
  refine kI_of (cc := cX6_held) (maxL := 2) (ret := (some .int)) (by decide +kernel) rfl (Nat.le_of_ble_eq_true rfl) ?_
  intro p e s m args below meth c A ls S hP hD hS hl
  have S : kC p s m args meth c cX6_held 2 wsX6_held RX6 (some .int) D cI A := S
  have hx := S.1.1
  have hb := S.1.2.1
  have hml := S.1.2.2.1
  have hown : s.vm.findClass RX6 = some m.cls := S.1.2.2.2.1
  have hts := S.1.2.2.2.2
  have hK := S.2.2.2.1
  have hnk := S.2.2.2.2.1.2
  have hl : lv_has ls 2 [(0, .int x0), (1, .int x1)] := hl
  suffices hgo : ∀ (H : Heap) (locs : List Loc), va_P D vwCl ([]) H → va_D A ([]) → va_S A s.heap H locs → W p l e rm_X6_held s m args below meth c H locs 0 0 (MQ below (kQi D A ([]) res) args s 0 0 A) (F0 m 0 ls []) from hgo _ _ hP hD hS
  clear hP hD hS
  intro H locs hP hD hS
  refine lv_iload_n hx hb dX6_held_0 rfl (lv_at hl 0 rfl) ?_
  refine lv_iconst (v := (1 : Int32)) hx hb dX6_held_1 (by decide) ?_
  refine lv_icmp_ge (tgt := 9) hx hb dX6_held_2 (by decide) (fun c1 => ?_) (fun c1 => ?_)
  · have hf := it_t c1 hf
    refine lv_iload_n hx hb dX6_held_9 rfl (lv_at hl 0 rfl) ?_
    refine lv_iload_n hx hb dX6_held_10 rfl (lv_at hl 1 rfl) ?_
    refine lv_icmp_le (tgt := 18) hx hb dX6_held_11 (by decide) (fun c2 => ?_) (fun c2 => ?_)
    · have hf := it_t c2 hf
      refine lv_iload_n hx hb dX6_held_18 rfl (lv_at hl 0 rfl) ?_
      have e9 := Option.some.inj hf
      subst e9
      exact kI_ret S rfl hP hD hS dX6_held_19
    · have hf := it_f c2 hf
      refine lv_iload_n hx hb dX6_held_14 rfl (lv_at hl 1 rfl) ?_
      refine lv_goto (tgt := 19) hx hb dX6_held_15 (by decide) ?_
      have e9 := Option.some.inj hf
      subst e9
      exact kI_ret S rfl hP hD hS dX6_held_19
  · have hf := it_f c1 hf
    refine lv_iconst (v := (1 : Int32)) hx hb dX6_held_5 (by decide) ?_
    refine lv_goto (tgt := 19) hx hb dX6_held_6 (by decide) ?_
    have e9 := Option.some.inj hf
    subst e9
    exact kI_ret S rfl hP hD hS dX6_held_19
abbrev rm_X6_cells : Room := { frames := 0, cells := 0, slots := 0, locals := 0 }
set_option maxHeartbeats 4000000 in
set_option maxRecDepth 100000 in
theorem c_X6_cells (l : Launch) (D : va_G) (cI : ClassId) (β : Nat → Nat) (mT mW mH mS mR mL mC mZ mA mB : Int32) (KK KN KS KC AN JK JN JS JL MY KP FI TX : Nat → Int32)  (res : Int32) (hf : f_X6_cells mW mH = some res) : kI l yX6_cells wsX6_cells rm_X6_cells D cI [.ref (β 0)] (wM cI β mT mW mH mS mR mL mC mZ mA mB KK KN KS KC AN JK JN JS JL MY KP FI TX) (wM cI β mT mW mH mS mR mL mC mZ mA mB KK KN KS KC AN JK JN JS JL MY KP FI TX) res := by
  unfold f_X6_cells at hf
  refine kI_of (cc := cX6_cells) (maxL := 1) (ret := (some .int)) (by decide +kernel) rfl (Nat.le_of_ble_eq_true rfl) ?_
  intro p e s m args below meth c A ls S hP hD hS hl
  have S : kC p s m args meth c cX6_cells 1 wsX6_cells RX6 (some .int) D cI A := S
  have hx := S.1.1
  have hb := S.1.2.1
  have hml := S.1.2.2.1
  have hown : s.vm.findClass RX6 = some m.cls := S.1.2.2.2.1
  have hts := S.1.2.2.2.2
  have hK := S.2.2.2.1
  have hnk := S.2.2.2.2.1.2
  have hiX6 : ∀ w ∈ u_ws RX6 TX6 23, w ∈ wsX6_cells := by decide +kernel
  have fl53 := hts (.fieldLink RX6 53 "ProofCheckerModel" "width" "I") (by decide +kernel)
  have fl57 := hts (.fieldLink RX6 57 "ProofCheckerModel" "height" "I") (by decide +kernel)
  have hl : lv_has ls 1 [(0, .ref (β 0))] := hl
  suffices hgo : ∀ (H : Heap) (locs : List Loc), va_P D vwCl (wM cI β mT mW mH mS mR mL mC mZ mA mB KK KN KS KC AN JK JN JS JL MY KP FI TX) H → va_D A (wM cI β mT mW mH mS mR mL mC mZ mA mB KK KN KS KC AN JK JN JS JL MY KP FI TX) → va_S A s.heap H locs → W p l e rm_X6_cells s m args below meth c H locs 0 0 (MQ below (kQi D A (wM cI β mT mW mH mS mR mL mC mZ mA mB KK KN KS KC AN JK JN JS JL MY KP FI TX) res) args s 0 0 A) (F0 m 0 ls []) from hgo _ _ hP hD hS
  clear hP hD hS
  intro H locs hP hD hS
  refine lv_aload_n hx hb dX6_cells_0 rfl (lv_at hl 0 rfl) ?_
  refine va_get (D := D) (ci := 7) (v := .int mW) (C := RX6) (T := TX6) (N := 23) hx hb hts hiX6 hown hK hP 0 rfl rfl 1 (by decide) fl53 (fun _ h9 => h9) rfl dX6_cells_1 ?_
  refine lv_aload_n hx hb dX6_cells_4 rfl (lv_at hl 0 rfl) ?_
  refine va_get (D := D) (ci := 7) (v := .int mH) (C := RX6) (T := TX6) (N := 23) hx hb hts hiX6 hown hK hP 0 rfl rfl 2 (by decide) fl57 (fun _ h9 => h9) rfl dX6_cells_5 ?_
  refine lv_imul hx hb dX6_cells_8 ?_
  have e9 := Option.some.inj hf
  subst e9
  exact kI_ret S rfl hP hD hS dX6_cells_9
abbrev rm_X6_isCell : Room := { frames := 1, cells := 0, slots := 0, locals := 20 }
set_option maxHeartbeats 4000000 in
set_option maxRecDepth 100000 in
theorem c_X6_isCell (l : Launch) (D : va_G) (cI : ClassId) (β : Nat → Nat) (mT mW mH mS mR mL mC mZ mA mB : Int32) (KK KN KS KC AN JK JN JS JL MY KP FI TX : Nat → Int32) (x1 : Int32) (res : Int32) (hf : f_X6_isCell mW mH x1 = some res) : kI l yX6_isCell wsX6_isCell rm_X6_isCell D cI [.ref (β 0), .int x1] (wM cI β mT mW mH mS mR mL mC mZ mA mB KK KN KS KC AN JK JN JS JL MY KP FI TX) (wM cI β mT mW mH mS mR mL mC mZ mA mB KK KN KS KC AN JK JN JS JL MY KP FI TX) res := by
  unfold f_X6_isCell at hf
  refine kI_of (cc := cX6_isCell) (maxL := 2) (ret := (some .boolean)) (by decide +kernel) rfl (Nat.le_of_ble_eq_true rfl) ?_
  intro p e s m args below meth c A ls S hP hD hS hl
  have S : kC p s m args meth c cX6_isCell 2 wsX6_isCell RX6 (some .boolean) D cI A := S
  have hx := S.1.1
  have hb := S.1.2.1
  have hml := S.1.2.2.1
  have hown : s.vm.findClass RX6 = some m.cls := S.1.2.2.2.1
  have hts := S.1.2.2.2.2
  have hK := S.2.2.2.1
  have hnk := S.2.2.2.2.1.2
  have hl : lv_has ls 2 [(0, .ref (β 0)), (1, .int x1)] := hl
  suffices hgo : ∀ (H : Heap) (locs : List Loc), va_P D vwCl (wM cI β mT mW mH mS mR mL mC mZ mA mB KK KN KS KC AN JK JN JS JL MY KP FI TX) H → va_D A (wM cI β mT mW mH mS mR mL mC mZ mA mB KK KN KS KC AN JK JN JS JL MY KP FI TX) → va_S A s.heap H locs → W p l e rm_X6_isCell s m args below meth c H locs 0 0 (MQ below (kQi D A (wM cI β mT mW mH mS mR mL mC mZ mA mB KK KN KS KC AN JK JN JS JL MY KP FI TX) res) args s 0 0 A) (F0 m 0 ls []) from hgo _ _ hP hD hS
  clear hP hD hS
  intro H locs hP hD hS
  refine lv_iload_n hx hb dX6_isCell_0 rfl (lv_at hl 1 rfl) ?_
  refine lv_if_lt (tgt := 16) hx hb dX6_isCell_1 (by decide) (fun c1 => ?_) (fun c1 => ?_)
  · have hf := it_t c1 hf
    refine lv_iconst (v := (0 : Int32)) hx hb dX6_isCell_16 (by decide) ?_
    have e9 := Option.some.inj hf
    subst e9
    exact kI_ret S narrow_b0 hP hD hS dX6_isCell_17
  · have hf := it_f c1 hf
    refine lv_iload_n hx hb dX6_isCell_4 rfl (lv_at hl 1 rfl) ?_
    refine lv_aload_n hx hb dX6_isCell_5 rfl (lv_at hl 0 rfl) ?_
    obtain ⟨q2, hq2, hf⟩ := bnd hf
    refine kI_callV (As := []) (rest := [.int x1]) S hP hD hS (c_X6_cells l D cI β mT mW mH mS mR mL mC mZ mA mB KK KN KS KC AN JK JN JS JL MY KP FI TX q2 hq2) (cwV 0 hts gX6_isCell_X6_cells rfl rfl rfl (by decide +kernel) ⟨Nat.le_of_ble_eq_true rfl, Nat.le_of_ble_eq_true rfl⟩) 0 rfl rfl rfl hl.1 rfl (Nat.le_of_ble_eq_true rfl) dX6_isCell_6 ⟨Nat.zero_le _, Nat.zero_le _⟩ (fun H locs hP hD hS => ?_)
    have hP : va_P D vwCl (wM cI β mT mW mH mS mR mL mC mZ mA mB KK KN KS KC AN JK JN JS JL MY KP FI TX) H := hP
    have hD : va_D A (wM cI β mT mW mH mS mR mL mC mZ mA mB KK KN KS KC AN JK JN JS JL MY KP FI TX) := hD
    refine lv_icmp_ge (tgt := 16) hx hb dX6_isCell_9 (by decide) (fun c3 => ?_) (fun c3 => ?_)
    · have hf := it_t c3 hf
      refine lv_iconst (v := (0 : Int32)) hx hb dX6_isCell_16 (by decide) ?_
      have e9 := Option.some.inj hf
      subst e9
      exact kI_ret S narrow_b0 hP hD hS dX6_isCell_17
    · have hf := it_f c3 hf
      refine lv_iconst (v := (1 : Int32)) hx hb dX6_isCell_12 (by decide) ?_
      refine lv_goto (tgt := 17) hx hb dX6_isCell_13 (by decide) ?_
      have e9 := Option.some.inj hf
      subst e9
      exact kI_ret S narrow_b1 hP hD hS dX6_isCell_17
abbrev rm_X6_isSymbol : Room := { frames := 0, cells := 0, slots := 0, locals := 0 }
set_option maxHeartbeats 4000000 in
set_option maxRecDepth 100000 in
theorem c_X6_isSymbol (l : Launch) (D : va_G) (cI : ClassId) (β : Nat → Nat) (mT mW mH mS mR mL mC mZ mA mB : Int32) (KK KN KS KC AN JK JN JS JL MY KP FI TX : Nat → Int32) (x1 : Int32) (res : Int32) (hf : f_X6_isSymbol mS x1 = some res) : kI l yX6_isSymbol wsX6_isSymbol rm_X6_isSymbol D cI [.ref (β 0), .int x1] (wM cI β mT mW mH mS mR mL mC mZ mA mB KK KN KS KC AN JK JN JS JL MY KP FI TX) (wM cI β mT mW mH mS mR mL mC mZ mA mB KK KN KS KC AN JK JN JS JL MY KP FI TX) res := by
  unfold f_X6_isSymbol at hf
  refine kI_of (cc := cX6_isSymbol) (maxL := 2) (ret := (some .boolean)) (by decide +kernel) rfl (Nat.le_of_ble_eq_true rfl) ?_
  intro p e s m args below meth c A ls S hP hD hS hl
  have S : kC p s m args meth c cX6_isSymbol 2 wsX6_isSymbol RX6 (some .boolean) D cI A := S
  have hx := S.1.1
  have hb := S.1.2.1
  have hml := S.1.2.2.1
  have hown : s.vm.findClass RX6 = some m.cls := S.1.2.2.2.1
  have hts := S.1.2.2.2.2
  have hK := S.2.2.2.1
  have hnk := S.2.2.2.2.1.2
  have hiX6 : ∀ w ∈ u_ws RX6 TX6 23, w ∈ wsX6_isSymbol := by decide +kernel
  have fl60 := hts (.fieldLink RX6 60 "ProofCheckerModel" "symbols" "I") (by decide +kernel)
  have hl : lv_has ls 2 [(0, .ref (β 0)), (1, .int x1)] := hl
  suffices hgo : ∀ (H : Heap) (locs : List Loc), va_P D vwCl (wM cI β mT mW mH mS mR mL mC mZ mA mB KK KN KS KC AN JK JN JS JL MY KP FI TX) H → va_D A (wM cI β mT mW mH mS mR mL mC mZ mA mB KK KN KS KC AN JK JN JS JL MY KP FI TX) → va_S A s.heap H locs → W p l e rm_X6_isSymbol s m args below meth c H locs 0 0 (MQ below (kQi D A (wM cI β mT mW mH mS mR mL mC mZ mA mB KK KN KS KC AN JK JN JS JL MY KP FI TX) res) args s 0 0 A) (F0 m 0 ls []) from hgo _ _ hP hD hS
  clear hP hD hS
  intro H locs hP hD hS
  refine lv_iload_n hx hb dX6_isSymbol_0 rfl (lv_at hl 1 rfl) ?_
  refine lv_if_lt (tgt := 16) hx hb dX6_isSymbol_1 (by decide) (fun c1 => ?_) (fun c1 => ?_)
  · have hf := it_t c1 hf
    refine lv_iconst (v := (0 : Int32)) hx hb dX6_isSymbol_16 (by decide) ?_
    have e9 := Option.some.inj hf
    subst e9
    exact kI_ret S narrow_b0 hP hD hS dX6_isSymbol_17
  · have hf := it_f c1 hf
    refine lv_iload_n hx hb dX6_isSymbol_4 rfl (lv_at hl 1 rfl) ?_
    refine lv_aload_n hx hb dX6_isSymbol_5 rfl (lv_at hl 0 rfl) ?_
    refine va_get (D := D) (ci := 7) (v := .int mS) (C := RX6) (T := TX6) (N := 23) hx hb hts hiX6 hown hK hP 0 rfl rfl 3 (by decide) fl60 (fun _ h9 => h9) rfl dX6_isSymbol_6 ?_
    refine lv_icmp_ge (tgt := 16) hx hb dX6_isSymbol_9 (by decide) (fun c2 => ?_) (fun c2 => ?_)
    · have hf := it_t c2 hf
      refine lv_iconst (v := (0 : Int32)) hx hb dX6_isSymbol_16 (by decide) ?_
      have e9 := Option.some.inj hf
      subst e9
      exact kI_ret S narrow_b0 hP hD hS dX6_isSymbol_17
    · have hf := it_f c2 hf
      refine lv_iconst (v := (1 : Int32)) hx hb dX6_isSymbol_12 (by decide) ?_
      refine lv_goto (tgt := 17) hx hb dX6_isSymbol_13 (by decide) ?_
      have e9 := Option.some.inj hf
      subst e9
      exact kI_ret S narrow_b1 hP hD hS dX6_isSymbol_17
abbrev rm_X6_rule : Room := { frames := 0, cells := 0, slots := 0, locals := 0 }
set_option maxHeartbeats 4000000 in
set_option maxRecDepth 100000 in
theorem c_X6_rule (l : Launch) (D : va_G) (cI : ClassId) (β : Nat → Nat) (mT mW mH mS mR mL mC mZ mA mB : Int32) (KK KN KS KC AN JK JN JS JL MY KP FI TX : Nat → Int32) (x1 : Int32) (x2 : Int32) (res : Int32 × Int32 × Int32 × (Nat → Int32) × (Nat → Int32) × (Nat → Int32)) (hf : f_X6_rule mT mR KK KN KS x1 x2 = some res) : kI l yX6_rule wsX6_rule rm_X6_rule D cI [.ref (β 0), .int x1, .int x2] (wM cI β mT mW mH mS mR mL mC mZ mA mB KK KN KS KC AN JK JN JS JL MY KP FI TX) (wM cI β res.2.1 mW mH mS res.2.2.1 mL mC mZ mA mB res.2.2.2.1 res.2.2.2.2.1 res.2.2.2.2.2 KC AN JK JN JS JL MY KP FI TX) res.1 := by
  unfold f_X6_rule at hf
  refine kI_of (cc := cX6_rule) (maxL := 3) (ret := (some .int)) (by decide +kernel) rfl (Nat.le_of_ble_eq_true rfl) ?_
  intro p e s m args below meth c A ls S hP hD hS hl
  have S : kC p s m args meth c cX6_rule 3 wsX6_rule RX6 (some .int) D cI A := S
  have hx := S.1.1
  have hb := S.1.2.1
  have hml := S.1.2.2.1
  have hown : s.vm.findClass RX6 = some m.cls := S.1.2.2.2.1
  have hts := S.1.2.2.2.2
  have hK := S.2.2.2.1
  have hnk := S.2.2.2.2.1.2
  have hiX6 : ∀ w ∈ u_ws RX6 TX6 23, w ∈ wsX6_rule := by decide +kernel
  have fl7 := hts (.fieldLink RX6 7 "ProofCheckerModel" "ruleKind" "[I") (by decide +kernel)
  have fl13 := hts (.fieldLink RX6 13 "ProofCheckerModel" "ruleNumber" "[I") (by decide +kernel)
  have fl16 := hts (.fieldLink RX6 16 "ProofCheckerModel" "ruleSize" "[I") (by decide +kernel)
  have fl63 := hts (.fieldLink RX6 63 "ProofCheckerModel" "thrown" "I") (by decide +kernel)
  have fl70 := hts (.fieldLink RX6 70 "ProofCheckerModel" "rules" "I") (by decide +kernel)
  have hl : lv_has ls 3 [(0, .ref (β 0)), (1, .int x1), (2, .int x2)] := hl
  suffices hgo : ∀ (H : Heap) (locs : List Loc), va_P D vwCl (wM cI β mT mW mH mS mR mL mC mZ mA mB KK KN KS KC AN JK JN JS JL MY KP FI TX) H → va_D A (wM cI β mT mW mH mS mR mL mC mZ mA mB KK KN KS KC AN JK JN JS JL MY KP FI TX) → va_S A s.heap H locs → W p l e rm_X6_rule s m args below meth c H locs 0 0 (MQ below (kQi D A (wM cI β res.2.1 mW mH mS res.2.2.1 mL mC mZ mA mB res.2.2.2.1 res.2.2.2.2.1 res.2.2.2.2.2 KC AN JK JN JS JL MY KP FI TX) res.1) args s 0 0 A) (F0 m 0 ls []) from hgo _ _ hP hD hS
  clear hP hD hS
  intro H locs hP hD hS
  refine lv_aload_n hx hb dX6_rule_0 rfl (lv_at hl 0 rfl) ?_
  refine lv_iconst (v := (0 : Int32)) hx hb dX6_rule_1 (by decide) ?_
  refine va_put (D := D) (ci := 7) (v := .int (0 : Int32)) (ty := .int) (C := RX6) (T := TX6) (N := 23) hx hb hts hiX6 tyX6 tyX6_ok nmX6 hown hK hP hD hS 0 rfl rfl 0 (by decide) fl63 (fun _ h9 => h9) rfl (by decide +kernel) rfl rfl (Nat.le_of_ble_eq_true rfl) dX6_rule_2 (fun H locs hP hD hS => ?_)
  have hP : va_P D vwCl (wM cI β (0 : Int32) mW mH mS mR mL mC mZ mA mB KK KN KS KC AN JK JN JS JL MY KP FI TX) H := hP
  have hD : va_D A (wM cI β (0 : Int32) mW mH mS mR mL mC mZ mA mB KK KN KS KC AN JK JN JS JL MY KP FI TX) := hD
  refine lv_iload_n hx hb dX6_rule_5 rfl (lv_at hl 1 rfl) ?_
  refine lv_if_lt (tgt := 33) hx hb dX6_rule_6 (by decide) (fun c1 => ?_) (fun c1 => ?_)
  · have hf := it_t c1 hf
    refine lv_iconst (v := (-1 : Int32)) hx hb dX6_rule_33 (by decide) ?_
    have e9 := Option.some.inj hf
    subst e9
    exact kI_ret S rfl hP hD hS dX6_rule_34
  · have hf := it_f c1 hf
    refine lv_iload_n hx hb dX6_rule_9 rfl (lv_at hl 1 rfl) ?_
    refine lv_iconst (v := (4 : Int32)) hx hb dX6_rule_10 (by decide) ?_
    refine lv_icmp_gt (tgt := 33) hx hb dX6_rule_11 (by decide) (fun c2 => ?_) (fun c2 => ?_)
    · have hf := it_t c2 hf
      refine lv_iconst (v := (-1 : Int32)) hx hb dX6_rule_33 (by decide) ?_
      have e9 := Option.some.inj hf
      subst e9
      exact kI_ret S rfl hP hD hS dX6_rule_34
    · have hf := it_f c2 hf
      refine lv_iload_n hx hb dX6_rule_14 rfl (lv_at hl 2 rfl) ?_
      refine lv_if_lt (tgt := 33) hx hb dX6_rule_15 (by decide) (fun c3 => ?_) (fun c3 => ?_)
      · have hf := it_t c3 hf
        refine lv_iconst (v := (-1 : Int32)) hx hb dX6_rule_33 (by decide) ?_
        have e9 := Option.some.inj hf
        subst e9
        exact kI_ret S rfl hP hD hS dX6_rule_34
      · have hf := it_f c3 hf
        refine lv_iload_n hx hb dX6_rule_18 rfl (lv_at hl 2 rfl) ?_
        refine lv_bipush (v := (99 : Int32)) hx hb dX6_rule_19 (by decide) ?_
        refine lv_icmp_gt (tgt := 33) hx hb dX6_rule_21 (by decide) (fun c4 => ?_) (fun c4 => ?_)
        · have hf := it_t c4 hf
          refine lv_iconst (v := (-1 : Int32)) hx hb dX6_rule_33 (by decide) ?_
          have e9 := Option.some.inj hf
          subst e9
          exact kI_ret S rfl hP hD hS dX6_rule_34
        · have hf := it_f c4 hf
          refine lv_aload_n hx hb dX6_rule_24 rfl (lv_at hl 0 rfl) ?_
          refine va_get (D := D) (ci := 7) (v := .int mR) (C := RX6) (T := TX6) (N := 23) hx hb hts hiX6 hown hK hP 0 rfl rfl 4 (by decide) fl70 (fun _ h9 => h9) rfl dX6_rule_25 ?_
          refine lv_bipush (v := (30 : Int32)) hx hb dX6_rule_28 (by decide) ?_
          refine lv_icmp_ne (tgt := 35) hx hb dX6_rule_30 (by decide) (fun c5 => ?_) (fun c5 => ?_)
          · have hf := it_t c5 hf
            refine lv_aload_n hx hb dX6_rule_35 rfl (lv_at hl 0 rfl) ?_
            refine va_get (D := D) (ci := 7) (v := .ref (β 1)) (C := RX6) (T := TX6) (N := 23) hx hb hts hiX6 hown hK hP 0 rfl rfl 5 (by decide) fl7 (fun _ h9 => h9) rfl dX6_rule_36 ?_
            refine lv_aload_n hx hb dX6_rule_39 rfl (lv_at hl 0 rfl) ?_
            refine va_get (D := D) (ci := 7) (v := .int mR) (C := RX6) (T := TX6) (N := 23) hx hb hts hiX6 hown hK hP 0 rfl rfl 4 (by decide) fl70 (fun _ h9 => h9) rfl dX6_rule_40 ?_
            refine lv_iload_n hx hb dX6_rule_43 rfl (lv_at hl 1 rfl) ?_
            obtain ⟨g6, hf⟩ := gin_some hf
            refine va_iast hx hb hK hP hD hS 1 0 rfl rfl g6 dX6_rule_44 (fun H locs hP hD hS => ?_)
            have hP : va_P D vwCl (wM cI β (0 : Int32) mW mH mS mR mL mC mZ mA mB (upd KK mR.toNatClampNeg x1) KN KS KC AN JK JN JS JL MY KP FI TX) H := hP
            have hD : va_D A (wM cI β (0 : Int32) mW mH mS mR mL mC mZ mA mB (upd KK mR.toNatClampNeg x1) KN KS KC AN JK JN JS JL MY KP FI TX) := hD
            refine lv_aload_n hx hb dX6_rule_45 rfl (lv_at hl 0 rfl) ?_
            refine va_get (D := D) (ci := 7) (v := .ref (β 2)) (C := RX6) (T := TX6) (N := 23) hx hb hts hiX6 hown hK hP 0 rfl rfl 6 (by decide) fl13 (fun _ h9 => h9) rfl dX6_rule_46 ?_
            refine lv_aload_n hx hb dX6_rule_49 rfl (lv_at hl 0 rfl) ?_
            refine va_get (D := D) (ci := 7) (v := .int mR) (C := RX6) (T := TX6) (N := 23) hx hb hts hiX6 hown hK hP 0 rfl rfl 4 (by decide) fl70 (fun _ h9 => h9) rfl dX6_rule_50 ?_
            refine lv_iload_n hx hb dX6_rule_53 rfl (lv_at hl 2 rfl) ?_
            obtain ⟨g7, hf⟩ := gin_some hf
            refine va_iast hx hb hK hP hD hS 2 0 rfl rfl g7 dX6_rule_54 (fun H locs hP hD hS => ?_)
            have hP : va_P D vwCl (wM cI β (0 : Int32) mW mH mS mR mL mC mZ mA mB (upd KK mR.toNatClampNeg x1) (upd KN mR.toNatClampNeg x2) KS KC AN JK JN JS JL MY KP FI TX) H := hP
            have hD : va_D A (wM cI β (0 : Int32) mW mH mS mR mL mC mZ mA mB (upd KK mR.toNatClampNeg x1) (upd KN mR.toNatClampNeg x2) KS KC AN JK JN JS JL MY KP FI TX) := hD
            refine lv_aload_n hx hb dX6_rule_55 rfl (lv_at hl 0 rfl) ?_
            refine va_get (D := D) (ci := 7) (v := .ref (β 3)) (C := RX6) (T := TX6) (N := 23) hx hb hts hiX6 hown hK hP 0 rfl rfl 7 (by decide) fl16 (fun _ h9 => h9) rfl dX6_rule_56 ?_
            refine lv_aload_n hx hb dX6_rule_59 rfl (lv_at hl 0 rfl) ?_
            refine va_get (D := D) (ci := 7) (v := .int mR) (C := RX6) (T := TX6) (N := 23) hx hb hts hiX6 hown hK hP 0 rfl rfl 4 (by decide) fl70 (fun _ h9 => h9) rfl dX6_rule_60 ?_
            refine lv_iconst (v := (0 : Int32)) hx hb dX6_rule_63 (by decide) ?_
            obtain ⟨g8, hf⟩ := gin_some hf
            refine va_iast hx hb hK hP hD hS 3 0 rfl rfl g8 dX6_rule_64 (fun H locs hP hD hS => ?_)
            have hP : va_P D vwCl (wM cI β (0 : Int32) mW mH mS mR mL mC mZ mA mB (upd KK mR.toNatClampNeg x1) (upd KN mR.toNatClampNeg x2) (upd KS mR.toNatClampNeg (0 : Int32)) KC AN JK JN JS JL MY KP FI TX) H := hP
            have hD : va_D A (wM cI β (0 : Int32) mW mH mS mR mL mC mZ mA mB (upd KK mR.toNatClampNeg x1) (upd KN mR.toNatClampNeg x2) (upd KS mR.toNatClampNeg (0 : Int32)) KC AN JK JN JS JL MY KP FI TX) := hD
            refine lv_aload_n hx hb dX6_rule_65 rfl (lv_at hl 0 rfl) ?_
            refine lv_dup hx hb dX6_rule_66 rfl ?_
            refine va_get (D := D) (ci := 7) (v := .int mR) (C := RX6) (T := TX6) (N := 23) hx hb hts hiX6 hown hK hP 0 rfl rfl 4 (by decide) fl70 (fun _ h9 => h9) rfl dX6_rule_67 ?_
            refine lv_iconst (v := (1 : Int32)) hx hb dX6_rule_70 (by decide) ?_
            refine lv_iadd hx hb dX6_rule_71 ?_
            refine va_put (D := D) (ci := 7) (v := .int (mR + (1 : Int32))) (ty := .int) (C := RX6) (T := TX6) (N := 23) hx hb hts hiX6 tyX6 tyX6_ok nmX6 hown hK hP hD hS 0 rfl rfl 4 (by decide) fl70 (fun _ h9 => h9) rfl (by decide +kernel) rfl rfl (Nat.le_of_ble_eq_true rfl) dX6_rule_72 (fun H locs hP hD hS => ?_)
            have hP : va_P D vwCl (wM cI β (0 : Int32) mW mH mS (mR + (1 : Int32)) mL mC mZ mA mB (upd KK mR.toNatClampNeg x1) (upd KN mR.toNatClampNeg x2) (upd KS mR.toNatClampNeg (0 : Int32)) KC AN JK JN JS JL MY KP FI TX) H := hP
            have hD : va_D A (wM cI β (0 : Int32) mW mH mS (mR + (1 : Int32)) mL mC mZ mA mB (upd KK mR.toNatClampNeg x1) (upd KN mR.toNatClampNeg x2) (upd KS mR.toNatClampNeg (0 : Int32)) KC AN JK JN JS JL MY KP FI TX) := hD
            refine lv_aload_n hx hb dX6_rule_75 rfl (lv_at hl 0 rfl) ?_
            refine va_get (D := D) (ci := 7) (v := .int (mR + (1 : Int32))) (C := RX6) (T := TX6) (N := 23) hx hb hts hiX6 hown hK hP 0 rfl rfl 4 (by decide) fl70 (fun _ h9 => h9) rfl dX6_rule_76 ?_
            refine lv_iconst (v := (1 : Int32)) hx hb dX6_rule_79 (by decide) ?_
            refine lv_isub hx hb dX6_rule_80 ?_
            have e9 := Option.some.inj hf
            subst e9
            exact kI_ret S rfl hP hD hS dX6_rule_81
          · have hf := it_f (fun h9 => h9 c5) hf
            refine lv_iconst (v := (-1 : Int32)) hx hb dX6_rule_33 (by decide) ?_
            have e9 := Option.some.inj hf
            subst e9
            exact kI_ret S rfl hP hD hS dX6_rule_34
abbrev rm_X6_member : Room := { frames := 0, cells := 0, slots := 0, locals := 0 }
set_option maxHeartbeats 4000000 in
set_option maxRecDepth 100000 in
theorem c_X6_member (l : Launch) (D : va_G) (cI : ClassId) (β : Nat → Nat) (mT mW mH mS mR mL mC mZ mA mB : Int32) (KK KN KS KC AN JK JN JS JL MY KP FI TX : Nat → Int32) (x1 : Int32) (x2 : Int32) (res : Int32) (hf : f_X6_member KC x1 x2 = some res) : kI l yX6_member wsX6_member rm_X6_member D cI [.ref (β 0), .int x1, .int x2] (wM cI β mT mW mH mS mR mL mC mZ mA mB KK KN KS KC AN JK JN JS JL MY KP FI TX) (wM cI β mT mW mH mS mR mL mC mZ mA mB KK KN KS KC AN JK JN JS JL MY KP FI TX) res := by
  unfold f_X6_member at hf
  refine kI_of (cc := cX6_member) (maxL := 3) (ret := (some .int)) (by decide +kernel) rfl (Nat.le_of_ble_eq_true rfl) ?_
  intro p e s m args below meth c A ls S hP hD hS hl
  have S : kC p s m args meth c cX6_member 3 wsX6_member RX6 (some .int) D cI A := S
  have hx := S.1.1
  have hb := S.1.2.1
  have hml := S.1.2.2.1
  have hown : s.vm.findClass RX6 = some m.cls := S.1.2.2.2.1
  have hts := S.1.2.2.2.2
  have hK := S.2.2.2.1
  have hnk := S.2.2.2.2.1.2
  have hiX6 : ∀ w ∈ u_ws RX6 TX6 23, w ∈ wsX6_member := by decide +kernel
  have fl19 := hts (.fieldLink RX6 19 "ProofCheckerModel" "ruleCell" "[I") (by decide +kernel)
  have hl : lv_has ls 3 [(0, .ref (β 0)), (1, .int x1), (2, .int x2)] := hl
  suffices hgo : ∀ (H : Heap) (locs : List Loc), va_P D vwCl (wM cI β mT mW mH mS mR mL mC mZ mA mB KK KN KS KC AN JK JN JS JL MY KP FI TX) H → va_D A (wM cI β mT mW mH mS mR mL mC mZ mA mB KK KN KS KC AN JK JN JS JL MY KP FI TX) → va_S A s.heap H locs → W p l e rm_X6_member s m args below meth c H locs 0 0 (MQ below (kQi D A (wM cI β mT mW mH mS mR mL mC mZ mA mB KK KN KS KC AN JK JN JS JL MY KP FI TX) res) args s 0 0 A) (F0 m 0 ls []) from hgo _ _ hP hD hS
  clear hP hD hS
  intro H locs hP hD hS
  refine lv_aload_n hx hb dX6_member_0 rfl (lv_at hl 0 rfl) ?_
  refine va_get (D := D) (ci := 7) (v := .ref (β 4)) (C := RX6) (T := TX6) (N := 23) hx hb hts hiX6 hown hK hP 0 rfl rfl 8 (by decide) fl19 (fun _ h9 => h9) rfl dX6_member_1 ?_
  refine lv_bipush (v := (9 : Int32)) hx hb dX6_member_4 (by decide) ?_
  refine lv_iload_n hx hb dX6_member_6 rfl (lv_at hl 1 rfl) ?_
  refine lv_imul hx hb dX6_member_7 ?_
  refine lv_iload_n hx hb dX6_member_8 rfl (lv_at hl 2 rfl) ?_
  refine lv_iadd hx hb dX6_member_9 ?_
  obtain ⟨g1, hf⟩ := gin_some hf
  refine va_iald hx hb hK hP 4 0 rfl rfl g1 dX6_member_10 ?_
  have e9 := Option.some.inj hf
  subst e9
  exact kI_ret S rfl hP hD hS dX6_member_11
abbrev rm_X6_seat : Room := { frames := 1, cells := 0, slots := 0, locals := 22 }
set_option maxHeartbeats 4000000 in
set_option maxRecDepth 100000 in
theorem c_X6_seat (l : Launch) (D : va_G) (cI : ClassId) (β : Nat → Nat) (mT mW mH mS mR mL mC mZ mA mB : Int32) (KK KN KS KC AN JK JN JS JL MY KP FI TX : Nat → Int32) (F : Nat) (x1 : Int32) (x2 : Int32) (res : Int32) (hf : f_X6_seat KS KC F x1 x2 = some res) : kI l yX6_seat wsX6_seat rm_X6_seat D cI [.ref (β 0), .int x1, .int x2] (wM cI β mT mW mH mS mR mL mC mZ mA mB KK KN KS KC AN JK JN JS JL MY KP FI TX) (wM cI β mT mW mH mS mR mL mC mZ mA mB KK KN KS KC AN JK JN JS JL MY KP FI TX) res := by
  unfold f_X6_seat at hf
  refine kI_of (cc := cX6_seat) (maxL := 4) (ret := (some .int)) (by decide +kernel) rfl (Nat.le_of_ble_eq_true rfl) ?_
  intro p e s m args below meth c A ls S hP hD hS hl
  have S : kC p s m args meth c cX6_seat 4 wsX6_seat RX6 (some .int) D cI A := S
  have hx := S.1.1
  have hb := S.1.2.1
  have hml := S.1.2.2.1
  have hown : s.vm.findClass RX6 = some m.cls := S.1.2.2.2.1
  have hts := S.1.2.2.2.2
  have hK := S.2.2.2.1
  have hnk := S.2.2.2.2.1.2
  have hiX6 : ∀ w ∈ u_ws RX6 TX6 23, w ∈ wsX6_seat := by decide +kernel
  have fl16 := hts (.fieldLink RX6 16 "ProofCheckerModel" "ruleSize" "[I") (by decide +kernel)
  have hl : lv_has ls 4 [(0, .ref (β 0)), (1, .int x1), (2, .int x2)] := hl
  have w2 : ∀ (n : Nat), ∀ (x1 : Int32) (x2 : Int32) (x3 : Int32) (H : Heap) (locs : List Loc) (ls : Array Slot), f_X6_seat_L2 KS KC F n x1 x2 x3 = some res → va_P D vwCl (wM cI β mT mW mH mS mR mL mC mZ mA mB KK KN KS KC AN JK JN JS JL MY KP FI TX) H → va_D A (wM cI β mT mW mH mS mR mL mC mZ mA mB KK KN KS KC AN JK JN JS JL MY KP FI TX) → va_S A s.heap H locs → lv_has ls 4 [(0, .ref (β 0)), (1, .int x1), (2, .int x2), (3, .int x3)] → W p l e rm_X6_seat s m args below meth c H locs 0 0 (MQ below (kQi D A (wM cI β mT mW mH mS mR mL mC mZ mA mB KK KN KS KC AN JK JN JS JL MY KP FI TX) res) args s 0 0 A) (F0 m 2 ls []) := by
    intro n
    induction n with
    | zero => intro x1 x2 x3 H locs ls hf; cases hf
    | succ n ih =>
      intro x1 x2 x3 H locs ls hf hP hD hS hl
      rw [f_X6_seat_L2.eq_2] at hf
      refine lv_iload_n hx hb dX6_seat_2 rfl (lv_at hl 3 rfl) ?_
      refine lv_aload_n hx hb dX6_seat_3 rfl (lv_at hl 0 rfl) ?_
      refine va_get (D := D) (ci := 7) (v := .ref (β 3)) (C := RX6) (T := TX6) (N := 23) hx hb hts hiX6 hown hK hP 0 rfl rfl 7 (by decide) fl16 (fun _ h9 => h9) rfl dX6_seat_4 ?_
      refine lv_iload_n hx hb dX6_seat_7 rfl (lv_at hl 1 rfl) ?_
      obtain ⟨g1, hf⟩ := gin_some hf
      refine va_iald hx hb hK hP 3 0 rfl rfl g1 dX6_seat_8 ?_
      refine lv_icmp_ge (tgt := 30) hx hb dX6_seat_9 (by decide) (fun c2 => ?_) (fun c2 => ?_)
      · have hf := it_t c2 hf
        refine lv_iconst (v := (-1 : Int32)) hx hb dX6_seat_30 (by decide) ?_
        have e9 := Option.some.inj hf
        subst e9
        exact kI_ret S rfl hP hD hS dX6_seat_31
      · have hf := it_f c2 hf
        refine lv_aload_n hx hb dX6_seat_12 rfl (lv_at hl 0 rfl) ?_
        refine lv_iload_n hx hb dX6_seat_13 rfl (lv_at hl 1 rfl) ?_
        refine lv_iload_n hx hb dX6_seat_14 rfl (lv_at hl 3 rfl) ?_
        obtain ⟨q3, hq3, hf⟩ := bnd hf
        refine kI_callV (As := [.int x1, .int x3]) (rest := []) S hP hD hS (c_X6_member l D cI β mT mW mH mS mR mL mC mZ mA mB KK KN KS KC AN JK JN JS JL MY KP FI TX x1 x3 q3 hq3) (cwV 2 hts gX6_seat_X6_member rfl rfl rfl (by decide +kernel) ⟨Nat.le_of_ble_eq_true rfl, Nat.le_of_ble_eq_true rfl⟩) 0 rfl rfl rfl hl.1 rfl (Nat.le_of_ble_eq_true rfl) dX6_seat_15 ⟨Nat.zero_le _, Nat.zero_le _⟩ (fun H locs hP hD hS => ?_)
        have hP : va_P D vwCl (wM cI β mT mW mH mS mR mL mC mZ mA mB KK KN KS KC AN JK JN JS JL MY KP FI TX) H := hP
        have hD : va_D A (wM cI β mT mW mH mS mR mL mC mZ mA mB KK KN KS KC AN JK JN JS JL MY KP FI TX) := hD
        refine lv_iload_n hx hb dX6_seat_18 rfl (lv_at hl 2 rfl) ?_
        refine lv_icmp_ne (tgt := 24) hx hb dX6_seat_19 (by decide) (fun c4 => ?_) (fun c4 => ?_)
        · have hf := it_t c4 hf
          refine lv_iinc (v := (x3 + (1 : Int32))) (lv' := [(3, .int (x3 + (1 : Int32))), (0, .ref (β 0)), (1, .int x1), (2, .int x2)]) hx hb dX6_seat_24 hl (k := 3) rfl rfl (by decide) rfl (fun ls hl => ?_)
          refine lv_goto (tgt := 2) hx hb dX6_seat_27 (by decide) ?_
          exact ih _ _ _ H locs ls hf hP hD hS (lv_sub hl [1, 2, 3, 0] rfl)
        · have hf := it_f (fun h9 => h9 c4) hf
          refine lv_iload_n hx hb dX6_seat_22 rfl (lv_at hl 3 rfl) ?_
          have e9 := Option.some.inj hf
          subst e9
          exact kI_ret S rfl hP hD hS dX6_seat_23
  suffices hgo : ∀ (H : Heap) (locs : List Loc), va_P D vwCl (wM cI β mT mW mH mS mR mL mC mZ mA mB KK KN KS KC AN JK JN JS JL MY KP FI TX) H → va_D A (wM cI β mT mW mH mS mR mL mC mZ mA mB KK KN KS KC AN JK JN JS JL MY KP FI TX) → va_S A s.heap H locs → W p l e rm_X6_seat s m args below meth c H locs 0 0 (MQ below (kQi D A (wM cI β mT mW mH mS mR mL mC mZ mA mB KK KN KS KC AN JK JN JS JL MY KP FI TX) res) args s 0 0 A) (F0 m 0 ls []) from hgo _ _ hP hD hS
  clear hP hD hS
  intro H locs hP hD hS
  refine lv_iconst (v := (0 : Int32)) hx hb dX6_seat_0 (by decide) ?_
  refine lv_istore_n (lv' := [(3, .int (0 : Int32)), (0, .ref (β 0)), (1, .int x1), (2, .int x2)]) hx hb dX6_seat_1 rfl hl (by decide) rfl (fun ls hl => ?_)
  exact w2 F _ _ _ H locs ls hf hP hD hS (lv_sub hl [1, 2, 3, 0] rfl)
