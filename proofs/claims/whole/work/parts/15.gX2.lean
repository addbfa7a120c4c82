abbrev rm_X2_append : Room := { frames := 0, cells := 0, slots := 0, locals := 0 }
set_option maxHeartbeats 4000000 in
set_option maxRecDepth 100000 in
theorem c_X2_append (l : Launch) (D : va_G) (cI : ClassId) (α : Nat → Nat) (gw gc gs ge gf cR cL cB pB : Int32) (SD RK RN RS RC RT LK LN LS LL US UB BB : Nat → Int32) (x1 : Int32) (res : Int32 × Int32 × (Nat → Int32)) (hf : f_X2_append cB BB x1 = some res) : kI l yX2_append wsX2_append rm_X2_append D cI [.ref (α 5), .int x1] (wC cI α gw gc gs ge gf cR cL cB pB SD RK RN RS RC RT LK LN LS LL US UB BB) (wC cI α gw gc gs ge gf cR cL res.2.1 pB SD RK RN RS RC RT LK LN LS LL US UB res.2.2) res.1 := by
  unfold f_X2_append at hf
  refine kI_of (cc := cX2_append) (maxL := 2) (ret := (some .boolean)) (by decide +kernel) rfl (Nat.le_of_ble_eq_true rfl) ?_
  intro p e s m args below meth c A ls S hP hD hS hl
  have S : kC p s m args meth c cX2_append 2 wsX2_append RX2 (some .boolean) D cI A := S
  have hx := S.1.1
  have hb := S.1.2.1
  have hml := S.1.2.2.1
  have hown : s.vm.findClass RX2 = some m.cls := S.1.2.2.2.1
  have hts := S.1.2.2.2.2
  have hK := S.2.2.2.1
  have hnk := S.2.2.2.2.1.2
  have hiX2 : ∀ w ∈ u_ws RX2 TX2 5, w ∈ wsX2_append := by decide +kernel
  have fl11 := hts (.fieldLink RX2 11 "ProofChecker$Reader" "bytes" "[I") (by decide +kernel)
  have fl15 := hts (.fieldLink RX2 15 "ProofChecker$Reader" "count" "I") (by decide +kernel)
  have hl : lv_has ls 2 [(0, .ref (α 5)), (1, .int x1)] := hl
  suffices hgo : ∀ (H : Heap) (locs : List Loc), va_P D vwCl (wC cI α gw gc gs ge gf cR cL cB pB SD RK RN RS RC RT LK LN LS LL US UB BB) H → va_D A (wC cI α gw gc gs ge gf cR cL cB pB SD RK RN RS RC RT LK LN LS LL US UB BB) → va_S A s.heap H locs → W p l e rm_X2_append s m args below meth c H locs 0 0 (MQ below (kQi D A (wC cI α gw gc gs ge gf cR cL res.2.1 pB SD RK RN RS RC RT LK LN LS LL US UB res.2.2) res.1) args s 0 0 A) (F0 m 0 ls []) from hgo _ _ hP hD hS
  clear hP hD hS
  intro H locs hP hD hS
  refine lv_iload_n hx hb dX2_append_0 rfl (lv_at hl 1 rfl) ?_
  refine lv_if_lt (tgt := 21) hx hb dX2_append_1 (by decide) (fun c1 => ?_) (fun c1 => ?_)
  · have hf := it_t c1 hf
    refine lv_iconst (v := (0 : Int32)) hx hb dX2_append_21 (by decide) ?_
    have e9 := Option.some.inj hf
    subst e9
    exact kI_ret S narrow_b0 hP hD hS dX2_append_22
  · have hf := it_f c1 hf
    refine lv_iload_n hx hb dX2_append_4 rfl (lv_at hl 1 rfl) ?_
    refine lv_sipush (v := (255 : Int32)) hx hb dX2_append_5 (by decide) ?_
    refine lv_icmp_gt (tgt := 21) hx hb dX2_append_8 (by decide) (fun c2 => ?_) (fun c2 => ?_)
    · have hf := it_t c2 hf
      refine lv_iconst (v := (0 : Int32)) hx hb dX2_append_21 (by decide) ?_
      have e9 := Option.some.inj hf
      subst e9
      exact kI_ret S narrow_b0 hP hD hS dX2_append_22
    · have hf := it_f c2 hf
      refine lv_aload_n hx hb dX2_append_11 rfl (lv_at hl 0 rfl) ?_
      refine va_get (D := D) (ci := 3) (v := .int cB) (C := RX2) (T := TX2) (N := 5) hx hb hts hiX2 hown hK hP 5 rfl rfl 3 (by decide) fl15 (fun _ h9 => h9) rfl dX2_append_12 ?_
      refine lv_sipush (v := (300 : Int32)) hx hb dX2_append_15 (by decide) ?_
      refine lv_icmp_lt (tgt := 23) hx hb dX2_append_18 (by decide) (fun c3 => ?_) (fun c3 => ?_)
      · have hf := it_t c3 hf
        refine lv_aload_n hx hb dX2_append_23 rfl (lv_at hl 0 rfl) ?_
        refine va_get (D := D) (ci := 3) (v := .ref (α 18)) (C := RX2) (T := TX2) (N := 5) hx hb hts hiX2 hown hK hP 5 rfl rfl 2 (by decide) fl11 (fun _ h9 => h9) rfl dX2_append_24 ?_
        refine lv_aload_n hx hb dX2_append_27 rfl (lv_at hl 0 rfl) ?_
        refine va_get (D := D) (ci := 3) (v := .int cB) (C := RX2) (T := TX2) (N := 5) hx hb hts hiX2 hown hK hP 5 rfl rfl 3 (by decide) fl15 (fun _ h9 => h9) rfl dX2_append_28 ?_
        refine lv_iload_n hx hb dX2_append_31 rfl (lv_at hl 1 rfl) ?_
        obtain ⟨g4, hf⟩ := gin_some hf
        refine va_iast hx hb hK hP hD hS 18 0 rfl rfl g4 dX2_append_32 (fun H locs hP hD hS => ?_)
        have hP : va_P D vwCl (wC cI α gw gc gs ge gf cR cL cB pB SD RK RN RS RC RT LK LN LS LL US UB (upd BB cB.toNatClampNeg x1)) H := hP
        have hD : va_D A (wC cI α gw gc gs ge gf cR cL cB pB SD RK RN RS RC RT LK LN LS LL US UB (upd BB cB.toNatClampNeg x1)) := hD
        refine lv_aload_n hx hb dX2_append_33 rfl (lv_at hl 0 rfl) ?_
        refine lv_dup hx hb dX2_append_34 rfl ?_
        refine va_get (D := D) (ci := 3) (v := .int cB) (C := RX2) (T := TX2) (N := 5) hx hb hts hiX2 hown hK hP 5 rfl rfl 3 (by decide) fl15 (fun _ h9 => h9) rfl dX2_append_35 ?_
        refine lv_iconst (v := (1 : Int32)) hx hb dX2_append_38 (by decide) ?_
        refine lv_iadd hx hb dX2_append_39 ?_
        refine va_put (D := D) (ci := 3) (v := .int (cB + (1 : Int32))) (ty := .int) (C := RX2) (T := TX2) (N := 5) hx hb hts hiX2 tyX2 tyX2_ok nmX2 hown hK hP hD hS 5 rfl rfl 3 (by decide) fl15 (fun _ h9 => h9) rfl (by decide +kernel) rfl rfl (Nat.le_of_ble_eq_true rfl) dX2_append_40 (fun H locs hP hD hS => ?_)
        have hP : va_P D vwCl (wC cI α gw gc gs ge gf cR cL (cB + (1 : Int32)) pB SD RK RN RS RC RT LK LN LS LL US UB (upd BB cB.toNatClampNeg x1)) H := hP
        have hD : va_D A (wC cI α gw gc gs ge gf cR cL (cB + (1 : Int32)) pB SD RK RN RS RC RT LK LN LS LL US UB (upd BB cB.toNatClampNeg x1)) := hD
        refine lv_iconst (v := (1 : Int32)) hx hb dX2_append_43 (by decide) ?_
        have e9 := Option.some.inj hf
        subst e9
        exact kI_ret S narrow_b1 hP hD hS dX2_append_44
      · have hf := it_f c3 hf
        refine lv_iconst (v := (0 : Int32)) hx hb dX2_append_21 (by decide) ?_
        have e9 := Option.some.inj hf
        subst e9
        exact kI_ret S narrow_b0 hP hD hS dX2_append_22
abbrev rm_X2_isHere : Room := { frames := 0, cells := 0, slots := 0, locals := 0 }
set_option maxHeartbeats 4000000 in
set_option maxRecDepth 100000 in
theorem c_X2_isHere (l : Launch) (D : va_G) (cI : ClassId) (α : Nat → Nat) (gw gc gs ge gf cR cL cB pB : Int32) (SD RK RN RS RC RT LK LN LS LL US UB BB : Nat → Int32) (x1 : Int32) (res : Int32) (hf : f_X2_isHere cB pB BB x1 = some res) : kI l yX2_isHere wsX2_isHere rm_X2_isHere D cI [.ref (α 5), .int x1] (wC cI α gw gc gs ge gf cR cL cB pB SD RK RN RS RC RT LK LN LS LL US UB BB) (wC cI α gw gc gs ge gf cR cL cB pB SD RK RN RS RC RT LK LN LS LL US UB BB) res := by
  unfold f_X2_isHere at hf
  refine kI_of (cc := cX2_isHere) (maxL := 2) (ret := (some .boolean)) (by decide +kernel) rfl (Nat.le_of_ble_eq_true rfl) ?_
  intro p e s m args below meth c A ls S hP hD hS hl
  have S : kC p s m args meth c cX2_isHere 2 wsX2_isHere RX2 (some .boolean) D cI A := S
  have hx := S.1.1
  have hb := S.1.2.1
  have hml := S.1.2.2.1
  have hown : s.vm.findClass RX2 = some m.cls := S.1.2.2.2.1
  have hts := S.1.2.2.2.2
  have hK := S.2.2.2.1
  have hnk := S.2.2.2.2.1.2
  have hiX2 : ∀ w ∈ u_ws RX2 TX2 5, w ∈ wsX2_isHere := by decide +kernel
  have fl11 := hts (.fieldLink RX2 11 "ProofChecker$Reader" "bytes" "[I") (by decide +kernel)
  have fl15 := hts (.fieldLink RX2 15 "ProofChecker$Reader" "count" "I") (by decide +kernel)
  have fl19 := hts (.fieldLink RX2 19 "ProofChecker$Reader" "place" "I") (by decide +kernel)
  have hl : lv_has ls 2 [(0, .ref (α 5)), (1, .int x1)] := hl
  suffices hgo : ∀ (H : Heap) (locs : List Loc), va_P D vwCl (wC cI α gw gc gs ge gf cR cL cB pB SD RK RN RS RC RT LK LN LS LL US UB BB) H → va_D A (wC cI α gw gc gs ge gf cR cL cB pB SD RK RN RS RC RT LK LN LS LL US UB BB) → va_S A s.heap H locs → W p l e rm_X2_isHere s m args below meth c H locs 0 0 (MQ below (kQi D A (wC cI α gw gc gs ge gf cR cL cB pB SD RK RN RS RC RT LK LN LS LL US UB BB) res) args s 0 0 A) (F0 m 0 ls []) from hgo _ _ hP hD hS
  clear hP hD hS
  intro H locs hP hD hS
  refine lv_aload_n hx hb dX2_isHere_0 rfl (lv_at hl 0 rfl) ?_
  refine va_get (D := D) (ci := 3) (v := .int pB) (C := RX2) (T := TX2) (N := 5) hx hb hts hiX2 hown hK hP 5 rfl rfl 4 (by decide) fl19 (fun _ h9 => h9) rfl dX2_isHere_1 ?_
  refine lv_aload_n hx hb dX2_isHere_4 rfl (lv_at hl 0 rfl) ?_
  refine va_get (D := D) (ci := 3) (v := .int cB) (C := RX2) (T := TX2) (N := 5) hx hb hts hiX2 hown hK hP 5 rfl rfl 3 (by decide) fl15 (fun _ h9 => h9) rfl dX2_isHere_5 ?_
  refine lv_icmp_ge (tgt := 28) hx hb dX2_isHere_8 (by decide) (fun c1 => ?_) (fun c1 => ?_)
  · have hf := it_t c1 hf
    refine lv_iconst (v := (0 : Int32)) hx hb dX2_isHere_28 (by decide) ?_
    have e9 := Option.some.inj hf
    subst e9
    exact kI_ret S narrow_b0 hP hD hS dX2_isHere_29
  · have hf := it_f c1 hf
    refine lv_aload_n hx hb dX2_isHere_11 rfl (lv_at hl 0 rfl) ?_
    refine va_get (D := D) (ci := 3) (v := .ref (α 18)) (C := RX2) (T := TX2) (N := 5) hx hb hts hiX2 hown hK hP 5 rfl rfl 2 (by decide) fl11 (fun _ h9 => h9) rfl dX2_isHere_12 ?_
    refine lv_aload_n hx hb dX2_isHere_15 rfl (lv_at hl 0 rfl) ?_
    refine va_get (D := D) (ci := 3) (v := .int pB) (C := RX2) (T := TX2) (N := 5) hx hb hts hiX2 hown hK hP 5 rfl rfl 4 (by decide) fl19 (fun _ h9 => h9) rfl dX2_isHere_16 ?_
    obtain ⟨g2, hf⟩ := gin_some hf
    refine va_iald hx hb hK hP 18 0 rfl rfl g2 dX2_isHere_19 ?_
    refine lv_iload_n hx hb dX2_isHere_20 rfl (lv_at hl 1 rfl) ?_
    refine lv_icmp_ne (tgt := 28) hx hb dX2_isHere_21 (by decide) (fun c3 => ?_) (fun c3 => ?_)
    · have hf := it_t c3 hf
      refine lv_iconst (v := (0 : Int32)) hx hb dX2_isHere_28 (by decide) ?_
      have e9 := Option.some.inj hf
      subst e9
      exact kI_ret S narrow_b0 hP hD hS dX2_isHere_29
    · have hf := it_f (fun h9 => h9 c3) hf
      refine lv_iconst (v := (1 : Int32)) hx hb dX2_isHere_24 (by decide) ?_
      refine lv_goto (tgt := 29) hx hb dX2_isHere_25 (by decide) ?_
      have e9 := Option.some.inj hf
      subst e9
      exact kI_ret S narrow_b1 hP hD hS dX2_isHere_29
abbrev rm_X2_digitHere : Room := { frames := 0, cells := 0, slots := 0, locals := 0 }
set_option maxHeartbeats 4000000 in
set_option maxRecDepth 100000 in
theorem c_X2_digitHere (l : Launch) (D : va_G) (cI : ClassId) (α : Nat → Nat) (gw gc gs ge gf cR cL cB pB : Int32) (SD RK RN RS RC RT LK LN LS LL US UB BB : Nat → Int32)  (res : Int32) (hf : f_X2_digitHere cB pB BB = some res) : kI l yX2_digitHere wsX2_digitHere rm_X2_digitHere D cI [.ref (α 5)] (wC cI α gw gc gs ge gf cR cL cB pB SD RK RN RS RC RT LK LN LS LL US UB BB) (wC cI α gw gc gs ge gf cR cL cB pB SD RK RN RS RC RT LK LN LS LL US UB BB) res := by
  unfold f_X2_digitHere at hf
  refine kI_of (cc := cX2_digitHere) (maxL := 1) (ret := (some .int)) (by decide +kernel) rfl (Nat.le_of_ble_eq_true rfl) ?_
  intro p e s m args below meth c A ls S hP hD hS hl
  have S : kC p s m args meth c cX2_digitHere 1 wsX2_digitHere RX2 (some .int) D cI A := S
  have hx := S.1.1
  have hb := S.1.2.1
  have hml := S.1.2.2.1
  have hown : s.vm.findClass RX2 = some m.cls := S.1.2.2.2.1
  have hts := S.1.2.2.2.2
  have hK := S.2.2.2.1
  have hnk := S.2.2.2.2.1.2
  have hiX2 : ∀ w ∈ u_ws RX2 TX2 5, w ∈ wsX2_digitHere := by decide +kernel
  have fl11 := hts (.fieldLink RX2 11 "ProofChecker$Reader" "bytes" "[I") (by decide +kernel)
  have fl15 := hts (.fieldLink RX2 15 "ProofChecker$Reader" "count" "I") (by decide +kernel)
  have fl19 := hts (.fieldLink RX2 19 "ProofChecker$Reader" "place" "I") (by decide +kernel)
  have hl : lv_has ls 1 [(0, .ref (α 5))] := hl
  suffices hgo : ∀ (H : Heap) (locs : List Loc), va_P D vwCl (wC cI α gw gc gs ge gf cR cL cB pB SD RK RN RS RC RT LK LN LS LL US UB BB) H → va_D A (wC cI α gw gc gs ge gf cR cL cB pB SD RK RN RS RC RT LK LN LS LL US UB BB) → va_S A s.heap H locs → W p l e rm_X2_digitHere s m args below meth c H locs 0 0 (MQ below (kQi D A (wC cI α gw gc gs ge gf cR cL cB pB SD RK RN RS RC RT LK LN LS LL US UB BB) res) args s 0 0 A) (F0 m 0 ls []) from hgo _ _ hP hD hS
  clear hP hD hS
  intro H locs hP hD hS
  refine lv_aload_n hx hb dX2_digitHere_0 rfl (lv_at hl 0 rfl) ?_
  refine va_get (D := D) (ci := 3) (v := .int pB) (C := RX2) (T := TX2) (N := 5) hx hb hts hiX2 hown hK hP 5 rfl rfl 4 (by decide) fl19 (fun _ h9 => h9) rfl dX2_digitHere_1 ?_
  refine lv_aload_n hx hb dX2_digitHere_4 rfl (lv_at hl 0 rfl) ?_
  refine va_get (D := D) (ci := 3) (v := .int cB) (C := RX2) (T := TX2) (N := 5) hx hb hts hiX2 hown hK hP 5 rfl rfl 3 (by decide) fl15 (fun _ h9 => h9) rfl dX2_digitHere_5 ?_
  refine lv_icmp_ge (tgt := 39) hx hb dX2_digitHere_8 (by decide) (fun c1 => ?_) (fun c1 => ?_)
  · have hf := it_t c1 hf
    refine lv_iconst (v := (-1 : Int32)) hx hb dX2_digitHere_39 (by decide) ?_
    have e9 := Option.some.inj hf
    subst e9
    exact kI_ret S rfl hP hD hS dX2_digitHere_40
  · have hf := it_f c1 hf
    refine lv_aload_n hx hb dX2_digitHere_11 rfl (lv_at hl 0 rfl) ?_
    refine va_get (D := D) (ci := 3) (v := .ref (α 18)) (C := RX2) (T := TX2) (N := 5) hx hb hts hiX2 hown hK hP 5 rfl rfl 2 (by decide) fl11 (fun _ h9 => h9) rfl dX2_digitHere_12 ?_
    refine lv_aload_n hx hb dX2_digitHere_15 rfl (lv_at hl 0 rfl) ?_
    refine va_get (D := D) (ci := 3) (v := .int pB) (C := RX2) (T := TX2) (N := 5) hx hb hts hiX2 hown hK hP 5 rfl rfl 4 (by decide) fl19 (fun _ h9 => h9) rfl dX2_digitHere_16 ?_
    obtain ⟨g2, hf⟩ := gin_some hf
    refine va_iald hx hb hK hP 18 0 rfl rfl g2 dX2_digitHere_19 ?_
    refine lv_bipush (v := (48 : Int32)) hx hb dX2_digitHere_20 (by decide) ?_
    refine lv_icmp_lt (tgt := 39) hx hb dX2_digitHere_22 (by decide) (fun c3 => ?_) (fun c3 => ?_)
    · have hf := it_t c3 hf
      refine lv_iconst (v := (-1 : Int32)) hx hb dX2_digitHere_39 (by decide) ?_
      have e9 := Option.some.inj hf
      subst e9
      exact kI_ret S rfl hP hD hS dX2_digitHere_40
    · have hf := it_f c3 hf
      refine lv_aload_n hx hb dX2_digitHere_25 rfl (lv_at hl 0 rfl) ?_
      refine va_get (D := D) (ci := 3) (v := .ref (α 18)) (C := RX2) (T := TX2) (N := 5) hx hb hts hiX2 hown hK hP 5 rfl rfl 2 (by decide) fl11 (fun _ h9 => h9) rfl dX2_digitHere_26 ?_
      refine lv_aload_n hx hb dX2_digitHere_29 rfl (lv_at hl 0 rfl) ?_
      refine va_get (D := D) (ci := 3) (v := .int pB) (C := RX2) (T := TX2) (N := 5) hx hb hts hiX2 hown hK hP 5 rfl rfl 4 (by decide) fl19 (fun _ h9 => h9) rfl dX2_digitHere_30 ?_
      obtain ⟨g4, hf⟩ := gin_some hf
      refine va_iald hx hb hK hP 18 0 rfl rfl g4 dX2_digitHere_33 ?_
      refine lv_bipush (v := (57 : Int32)) hx hb dX2_digitHere_34 (by decide) ?_
      refine lv_icmp_le (tgt := 41) hx hb dX2_digitHere_36 (by decide) (fun c5 => ?_) (fun c5 => ?_)
      · have hf := it_t c5 hf
        refine lv_aload_n hx hb dX2_digitHere_41 rfl (lv_at hl 0 rfl) ?_
        refine va_get (D := D) (ci := 3) (v := .ref (α 18)) (C := RX2) (T := TX2) (N := 5) hx hb hts hiX2 hown hK hP 5 rfl rfl 2 (by decide) fl11 (fun _ h9 => h9) rfl dX2_digitHere_42 ?_
        refine lv_aload_n hx hb dX2_digitHere_45 rfl (lv_at hl 0 rfl) ?_
        refine va_get (D := D) (ci := 3) (v := .int pB) (C := RX2) (T := TX2) (N := 5) hx hb hts hiX2 hown hK hP 5 rfl rfl 4 (by decide) fl19 (fun _ h9 => h9) rfl dX2_digitHere_46 ?_
        obtain ⟨g6, hf⟩ := gin_some hf
        refine va_iald hx hb hK hP 18 0 rfl rfl g6 dX2_digitHere_49 ?_
        refine lv_bipush (v := (48 : Int32)) hx hb dX2_digitHere_50 (by decide) ?_
        refine lv_isub hx hb dX2_digitHere_52 ?_
        have e9 := Option.some.inj hf
        subst e9
        exact kI_ret S rfl hP hD hS dX2_digitHere_53
      · have hf := it_f c5 hf
        refine lv_iconst (v := (-1 : Int32)) hx hb dX2_digitHere_39 (by decide) ?_
        have e9 := Option.some.inj hf
        subst e9
        exact kI_ret S rfl hP hD hS dX2_digitHere_40
abbrev rm_X2_readNumber : Room := { frames := 1, cells := 0, slots := 0, locals := 20 }
set_option maxHeartbeats 4000000 in
set_option maxRecDepth 100000 in
theorem c_X2_readNumber (l : Launch) (D : va_G) (cI : ClassId) (α : Nat → Nat) (gw gc gs ge gf cR cL cB pB : Int32) (SD RK RN RS RC RT LK LN LS LL US UB BB : Nat → Int32)  (res : Int32 × Int32) (hf : f_X2_readNumber cB BB pB = some res) : kI l yX2_readNumber wsX2_readNumber rm_X2_readNumber D cI [.ref (α 5)] (wC cI α gw gc gs ge gf cR cL cB pB SD RK RN RS RC RT LK LN LS LL US UB BB) (wC cI α gw gc gs ge gf cR cL cB res.2 SD RK RN RS RC RT LK LN LS LL US UB BB) res.1 := by
  unfold f_X2_readNumber at hf
  refine kI_of (cc := cX2_readNumber) (maxL := 3) (ret := (some .int)) (by decide +kernel) rfl (Nat.le_of_ble_eq_true rfl) ?_
  intro p e s m args below meth c A ls S hP hD hS hl
  have S : kC p s m args meth c cX2_readNumber 3 wsX2_readNumber RX2 (some .int) D cI A := S
  have hx := S.1.1
  have hb := S.1.2.1
  have hml := S.1.2.2.1
  have hown : s.vm.findClass RX2 = some m.cls := S.1.2.2.2.1
  have hts := S.1.2.2.2.2
  have hK := S.2.2.2.1
  have hnk := S.2.2.2.2.1.2
  have hiX2 : ∀ w ∈ u_ws RX2 TX2 5, w ∈ wsX2_readNumber := by decide +kernel
  have fl19 := hts (.fieldLink RX2 19 "ProofChecker$Reader" "place" "I") (by decide +kernel)
  have hl : lv_has ls 3 [(0, .ref (α 5))] := hl
  have w34 : ∀ (t0 : Int32) (x1 : Int32) (pB : Int32) (H : Heap) (locs : List Loc) (ls : Array Slot), f_X2_readNumber_J34 cB BB t0 x1 pB = some res → va_P D vwCl (wC cI α gw gc gs ge gf cR cL cB pB SD RK RN RS RC RT LK LN LS LL US UB BB) H → va_D A (wC cI α gw gc gs ge gf cR cL cB pB SD RK RN RS RC RT LK LN LS LL US UB BB) → va_S A s.heap H locs → lv_has ls 3 [(0, .ref (α 5)), (1, .int x1)] → W p l e rm_X2_readNumber s m args below meth c H locs 0 0 (MQ below (kQi D A (wC cI α gw gc gs ge gf cR cL cB res.2 SD RK RN RS RC RT LK LN LS LL US UB BB) res.1) args s 0 0 A) (F0 m 34 ls [.int t0]) := by
    intro t0 x1 pB H locs ls hf hP hD hS hl
    unfold f_X2_readNumber_J34 at hf
    refine lv_istore_n (lv' := [(2, .int t0), (0, .ref (α 5)), (1, .int x1)]) hx hb dX2_readNumber_34 rfl hl (by decide) rfl (fun ls hl => ?_)
    refine lv_iload_n hx hb dX2_readNumber_35 rfl (lv_at hl 0 rfl) ?_
    refine lv_iconst (v := (-1 : Int32)) hx hb dX2_readNumber_36 (by decide) ?_
    refine lv_icmp_ne (tgt := 42) hx hb dX2_readNumber_37 (by decide) (fun c5 => ?_) (fun c5 => ?_)
    · have hf := it_t c5 hf
      refine lv_aload_n hx hb dX2_readNumber_42 rfl (lv_at hl 1 rfl) ?_
      refine lv_dup hx hb dX2_readNumber_43 rfl ?_
      refine va_get (D := D) (ci := 3) (v := .int pB) (C := RX2) (T := TX2) (N := 5) hx hb hts hiX2 hown hK hP 5 rfl rfl 4 (by decide) fl19 (fun _ h9 => h9) rfl dX2_readNumber_44 ?_
      refine lv_iconst (v := (1 : Int32)) hx hb dX2_readNumber_47 (by decide) ?_
      refine lv_iadd hx hb dX2_readNumber_48 ?_
      refine va_put (D := D) (ci := 3) (v := .int (pB + (1 : Int32))) (ty := .int) (C := RX2) (T := TX2) (N := 5) hx hb hts hiX2 tyX2 tyX2_ok nmX2 hown hK hP hD hS 5 rfl rfl 4 (by decide) fl19 (fun _ h9 => h9) rfl (by decide +kernel) rfl rfl (Nat.le_of_ble_eq_true rfl) dX2_readNumber_49 (fun H locs hP hD hS => ?_)
      have hP : va_P D vwCl (wC cI α gw gc gs ge gf cR cL cB (pB + (1 : Int32)) SD RK RN RS RC RT LK LN LS LL US UB BB) H := hP
      have hD : va_D A (wC cI α gw gc gs ge gf cR cL cB (pB + (1 : Int32)) SD RK RN RS RC RT LK LN LS LL US UB BB) := hD
      refine lv_bipush (v := (10 : Int32)) hx hb dX2_readNumber_52 (by decide) ?_
      refine lv_iload_n hx hb dX2_readNumber_54 rfl (lv_at hl 2 rfl) ?_
      refine lv_imul hx hb dX2_readNumber_55 ?_
      refine lv_iload_n hx hb dX2_readNumber_56 rfl (lv_at hl 0 rfl) ?_
      refine lv_iadd hx hb dX2_readNumber_57 ?_
      have e9 := Option.some.inj hf
      subst e9
      exact kI_ret S rfl hP hD hS dX2_readNumber_58
    · have hf := it_f (fun h9 => h9 c5) hf
      refine lv_iload_n hx hb dX2_readNumber_40 rfl (lv_at hl 2 rfl) ?_
      have e9 := Option.some.inj hf
      subst e9
      exact kI_ret S rfl hP hD hS dX2_readNumber_41
  suffices hgo : ∀ (H : Heap) (locs : List Loc), va_P D vwCl (wC cI α gw gc gs ge gf cR cL cB pB SD RK RN RS RC RT LK LN LS LL US UB BB) H → va_D A (wC cI α gw gc gs ge gf cR cL cB pB SD RK RN RS RC RT LK LN LS LL US UB BB) → va_S A s.heap H locs → W p l e rm_X2_readNumber s m args below meth c H locs 0 0 (MQ below (kQi D A (wC cI α gw gc gs ge gf cR cL cB res.2 SD RK RN RS RC RT LK LN LS LL US UB BB) res.1) args s 0 0 A) (F0 m 0 ls []) from hgo _ _ hP hD hS
  clear hP hD hS
  intro H locs hP hD hS
  refine lv_aload_n hx hb dX2_readNumber_0 rfl (lv_at hl 0 rfl) ?_
  obtain ⟨q1, hq1, hf⟩ := bnd hf
  refine kI_callV (As := []) (rest := []) S hP hD hS (c_X2_digitHere l D cI α gw gc gs ge gf cR cL cB pB SD RK RN RS RC RT LK LN LS LL US UB BB q1 hq1) (cwV 0 hts gX2_readNumber_X2_digitHere rfl rfl rfl (by decide +kernel) ⟨Nat.le_of_ble_eq_true rfl, Nat.le_of_ble_eq_true rfl⟩) 5 rfl rfl rfl hl.1 rfl (Nat.le_of_ble_eq_true rfl) dX2_readNumber_1 ⟨Nat.zero_le _, Nat.zero_le _⟩ (fun H locs hP hD hS => ?_)
  have hP : va_P D vwCl (wC cI α gw gc gs ge gf cR cL cB pB SD RK RN RS RC RT LK LN LS LL US UB BB) H := hP
  have hD : va_D A (wC cI α gw gc gs ge gf cR cL cB pB SD RK RN RS RC RT LK LN LS LL US UB BB) := hD
  refine lv_istore_n (lv' := [(1, .int q1), (0, .ref (α 5))]) hx hb dX2_readNumber_4 rfl hl (by decide) rfl (fun ls hl => ?_)
  refine lv_iload_n hx hb dX2_readNumber_5 rfl (lv_at hl 0 rfl) ?_
  refine lv_iconst (v := (-1 : Int32)) hx hb dX2_readNumber_6 (by decide) ?_
  refine lv_icmp_ne (tgt := 12) hx hb dX2_readNumber_7 (by decide) (fun c2 => ?_) (fun c2 => ?_)
  · have hf := it_t c2 hf
    refine lv_aload_n hx hb dX2_readNumber_12 rfl (lv_at hl 1 rfl) ?_
    refine lv_dup hx hb dX2_readNumber_13 rfl ?_
    refine va_get (D := D) (ci := 3) (v := .int pB) (C := RX2) (T := TX2) (N := 5) hx hb hts hiX2 hown hK hP 5 rfl rfl 4 (by decide) fl19 (fun _ h9 => h9) rfl dX2_readNumber_14 ?_
    refine lv_iconst (v := (1 : Int32)) hx hb dX2_readNumber_17 (by decide) ?_
    refine lv_iadd hx hb dX2_readNumber_18 ?_
    refine va_put (D := D) (ci := 3) (v := .int (pB + (1 : Int32))) (ty := .int) (C := RX2) (T := TX2) (N := 5) hx hb hts hiX2 tyX2 tyX2_ok nmX2 hown hK hP hD hS 5 rfl rfl 4 (by decide) fl19 (fun _ h9 => h9) rfl (by decide +kernel) rfl rfl (Nat.le_of_ble_eq_true rfl) dX2_readNumber_19 (fun H locs hP hD hS => ?_)
    have hP : va_P D vwCl (wC cI α gw gc gs ge gf cR cL cB (pB + (1 : Int32)) SD RK RN RS RC RT LK LN LS LL US UB BB) H := hP
    have hD : va_D A (wC cI α gw gc gs ge gf cR cL cB (pB + (1 : Int32)) SD RK RN RS RC RT LK LN LS LL US UB BB) := hD
    refine lv_iload_n hx hb dX2_readNumber_22 rfl (lv_at hl 0 rfl) ?_
    refine lv_if_ne (tgt := 30) hx hb dX2_readNumber_23 (by decide) (fun c3 => ?_) (fun c3 => ?_)
    · have hf := it_t c3 hf
      refine lv_aload_n hx hb dX2_readNumber_30 rfl (lv_at hl 1 rfl) ?_
      obtain ⟨q4, hq4, hf⟩ := bnd hf
      refine kI_callV (As := []) (rest := []) S hP hD hS (c_X2_digitHere l D cI α gw gc gs ge gf cR cL cB (pB + (1 : Int32)) SD RK RN RS RC RT LK LN LS LL US UB BB q4 hq4) (cwV 0 hts gX2_readNumber_X2_digitHere rfl rfl rfl (by decide +kernel) ⟨Nat.le_of_ble_eq_true rfl, Nat.le_of_ble_eq_true rfl⟩) 5 rfl rfl rfl hl.1 rfl (Nat.le_of_ble_eq_true rfl) dX2_readNumber_31 ⟨Nat.zero_le _, Nat.zero_le _⟩ (fun H locs hP hD hS => ?_)
      have hP : va_P D vwCl (wC cI α gw gc gs ge gf cR cL cB (pB + (1 : Int32)) SD RK RN RS RC RT LK LN LS LL US UB BB) H := hP
      have hD : va_D A (wC cI α gw gc gs ge gf cR cL cB (pB + (1 : Int32)) SD RK RN RS RC RT LK LN LS LL US UB BB) := hD
      exact w34 _ _ _ H locs ls hf hP hD hS (lv_sub hl [1, 0] rfl)
    · have hf := it_f (fun h9 => h9 c3) hf
      refine lv_iconst (v := (-1 : Int32)) hx hb dX2_readNumber_26 (by decide) ?_
      refine lv_goto (tgt := 34) hx hb dX2_readNumber_27 (by decide) ?_
      exact w34 _ _ _ H locs ls hf hP hD hS (lv_sub hl [1, 0] rfl)
  · have hf := it_f (fun h9 => h9 c2) hf
    refine lv_iconst (v := (-1 : Int32)) hx hb dX2_readNumber_10 (by decide) ?_
    have e9 := Option.some.inj hf
    subst e9
    exact kI_ret S rfl hP hD hS dX2_readNumber_11
abbrev rm_X2_readHead : Room := { frames := 2, cells := 0, slots := 0, locals := 42 }
set_option maxHeartbeats 4000000 in
set_option maxRecDepth 100000 in
theorem c_X2_readHead (l : Launch) (D : va_G) (cI : ClassId) (α : Nat → Nat) (gw gc gs ge gf cR cL cB pB : Int32) (SD RK RN RS RC RT LK LN LS LL US UB BB : Nat → Int32)  (res : Int32 × Int32 × (Nat → Int32) × (Nat → Int32) × (Nat → Int32)) (hf : f_X2_readHead cL cB BB pB LK LN LS = some res) : kI l yX2_readHead wsX2_readHead rm_X2_readHead D cI [.ref (α 5)] (wC cI α gw gc gs ge gf cR cL cB pB SD RK RN RS RC RT LK LN LS LL US UB BB) (wC cI α gw gc gs ge gf cR cL cB res.2.1 SD RK RN RS RC RT res.2.2.1 res.2.2.2.1 res.2.2.2.2 LL US UB BB) res.1 := by
  unfold f_X2_readHead at hf
  refine kI_of (cc := cX2_readHead) (maxL := 3) (ret := (some .boolean)) (by decide +kernel) rfl (Nat.le_of_ble_eq_true rfl) ?_
  intro p e s m args below meth c A ls S hP hD hS hl
  have S : kC p s m args meth c cX2_readHead 3 wsX2_readHead RX2 (some .boolean) D cI A := S
  have hx := S.1.1
  have hb := S.1.2.1
  have hml := S.1.2.2.1
  have hown : s.vm.findClass RX2 = some m.cls := S.1.2.2.2.1
  have hts := S.1.2.2.2.2
  have hK := S.2.2.2.1
  have hnk := S.2.2.2.2.1.2
  have hiX2 : ∀ w ∈ u_ws RX2 TX2 5, w ∈ wsX2_readHead := by decide +kernel
  have fl19 := hts (.fieldLink RX2 19 "ProofChecker$Reader" "place" "I") (by decide +kernel)
  have fl26 := hts (.fieldLink RX2 26 "ProofChecker$Reader" "lines" "LProofChecker$Lines;") (by decide +kernel)
  have hl : lv_has ls 3 [(0, .ref (α 5))] := hl
  have w36 : ∀ (t1 : Int32) (pB : Int32) (LK : Nat → Int32) (LN : Nat → Int32) (LS : Nat → Int32) (H : Heap) (locs : List Loc) (ls : Array Slot), f_X2_readHead_J36 cL cB BB t1 pB LK LN LS = some res → va_P D vwCl (wC cI α gw gc gs ge gf cR cL cB pB SD RK RN RS RC RT LK LN LS LL US UB BB) H → va_D A (wC cI α gw gc gs ge gf cR cL cB pB SD RK RN RS RC RT LK LN LS LL US UB BB) → va_S A s.heap H locs → lv_has ls 3 [(0, .ref (α 5))] → W p l e rm_X2_readHead s m args below meth c H locs 0 0 (MQ below (kQi D A (wC cI α gw gc gs ge gf cR cL cB res.2.1 SD RK RN RS RC RT res.2.2.1 res.2.2.2.1 res.2.2.2.2 LL US UB BB) res.1) args s 0 0 A) (F0 m 36 ls [.int t1, .ref (α 3)]) := by
    intro t1 pB LK LN LS H locs ls hf hP hD hS hl
    unfold f_X2_readHead_J36 at hf
    refine lv_iconst (v := (0 : Int32)) hx hb dX2_readHead_36 (by decide) ?_
    obtain ⟨q11, hq11, hf⟩ := bnd hf
    refine kV_callV (As := [.int t1, .int (0 : Int32)]) (rest := []) S hP hD hS (c_X1_startDraft l D cI α gw gc gs ge gf cR cL cB pB SD RK RN RS RC RT LK LN LS LL US UB BB t1 (0 : Int32) q11 hq11) (cwV 2 hts gX2_readHead_X1_startDraft rfl rfl rfl (by decide +kernel) ⟨Nat.le_of_ble_eq_true rfl, Nat.le_of_ble_eq_true rfl⟩) 3 rfl rfl rfl hl.1 rfl (Nat.le_of_ble_eq_true rfl) dX2_readHead_37 ⟨Nat.zero_le _, Nat.zero_le _⟩ (fun H locs hP hD hS => ?_)
    have hP : va_P D vwCl (wC cI α gw gc gs ge gf cR cL cB pB SD RK RN RS RC RT q11.1 q11.2.1 q11.2.2 LL US UB BB) H := hP
    have hD : va_D A (wC cI α gw gc gs ge gf cR cL cB pB SD RK RN RS RC RT q11.1 q11.2.1 q11.2.2 LL US UB BB) := hD
    refine lv_aload_n hx hb dX2_readHead_40 rfl (lv_at hl 0 rfl) ?_
    refine lv_dup hx hb dX2_readHead_41 rfl ?_
    refine va_get (D := D) (ci := 3) (v := .int pB) (C := RX2) (T := TX2) (N := 5) hx hb hts hiX2 hown hK hP 5 rfl rfl 4 (by decide) fl19 (fun _ h9 => h9) rfl dX2_readHead_42 ?_
    refine lv_iconst (v := (1 : Int32)) hx hb dX2_readHead_45 (by decide) ?_
    refine lv_iadd hx hb dX2_readHead_46 ?_
    refine va_put (D := D) (ci := 3) (v := .int (pB + (1 : Int32))) (ty := .int) (C := RX2) (T := TX2) (N := 5) hx hb hts hiX2 tyX2 tyX2_ok nmX2 hown hK hP hD hS 5 rfl rfl 4 (by decide) fl19 (fun _ h9 => h9) rfl (by decide +kernel) rfl rfl (Nat.le_of_ble_eq_true rfl) dX2_readHead_47 (fun H locs hP hD hS => ?_)
    have hP : va_P D vwCl (wC cI α gw gc gs ge gf cR cL cB (pB + (1 : Int32)) SD RK RN RS RC RT q11.1 q11.2.1 q11.2.2 LL US UB BB) H := hP
    have hD : va_D A (wC cI α gw gc gs ge gf cR cL cB (pB + (1 : Int32)) SD RK RN RS RC RT q11.1 q11.2.1 q11.2.2 LL US UB BB) := hD
    refine lv_iconst (v := (1 : Int32)) hx hb dX2_readHead_50 (by decide) ?_
    have e9 := Option.some.inj hf
    subst e9
    exact kI_ret S narrow_b1 hP hD hS dX2_readHead_51
  have w18 : ∀ (pB : Int32) (LK : Nat → Int32) (LN : Nat → Int32) (LS : Nat → Int32) (H : Heap) (locs : List Loc) (ls : Array Slot), f_X2_readHead_J18 cL cB BB pB LK LN LS = some res → va_P D vwCl (wC cI α gw gc gs ge gf cR cL cB pB SD RK RN RS RC RT LK LN LS LL US UB BB) H → va_D A (wC cI α gw gc gs ge gf cR cL cB pB SD RK RN RS RC RT LK LN LS LL US UB BB) → va_S A s.heap H locs → lv_has ls 3 [(0, .ref (α 5))] → W p l e rm_X2_readHead s m args below meth c H locs 0 0 (MQ below (kQi D A (wC cI α gw gc gs ge gf cR cL cB res.2.1 SD RK RN RS RC RT res.2.2.1 res.2.2.2.1 res.2.2.2.2 LL US UB BB) res.1) args s 0 0 A) (F0 m 18 ls []) := by
    intro pB LK LN LS H locs ls hf hP hD hS hl
    unfold f_X2_readHead_J18 at hf
    refine lv_aload_n hx hb dX2_readHead_18 rfl (lv_at hl 0 rfl) ?_
    refine va_get (D := D) (ci := 3) (v := .ref (α 3)) (C := RX2) (T := TX2) (N := 5) hx hb hts hiX2 hown hK hP 5 rfl rfl 1 (by decide) fl26 (fun _ h9 => h9) rfl dX2_readHead_19 ?_
    refine lv_aload_n hx hb dX2_readHead_22 rfl (lv_at hl 0 rfl) ?_
    refine lv_bipush (v := (117 : Int32)) hx hb dX2_readHead_23 (by decide) ?_
    obtain ⟨q9, hq9, hf⟩ := bnd hf
    refine kI_callV (As := [.int (117 : Int32)]) (rest := [.ref (α 3)]) S hP hD hS (c_X2_isHere l D cI α gw gc gs ge gf cR cL cB pB SD RK RN RS RC RT LK LN LS LL US UB BB (117 : Int32) q9 hq9) (cwV 1 hts gX2_readHead_X2_isHere rfl rfl rfl (by decide +kernel) ⟨Nat.le_of_ble_eq_true rfl, Nat.le_of_ble_eq_true rfl⟩) 5 rfl rfl rfl hl.1 rfl (Nat.le_of_ble_eq_true rfl) dX2_readHead_25 ⟨Nat.zero_le _, Nat.zero_le _⟩ (fun H locs hP hD hS => ?_)
    have hP : va_P D vwCl (wC cI α gw gc gs ge gf cR cL cB pB SD RK RN RS RC RT LK LN LS LL US UB BB) H := hP
    have hD : va_D A (wC cI α gw gc gs ge gf cR cL cB pB SD RK RN RS RC RT LK LN LS LL US UB BB) := hD
    refine lv_if_eq (tgt := 35) hx hb dX2_readHead_28 (by decide) (fun c10 => ?_) (fun c10 => ?_)
    · have hf := it_t c10 hf
      refine lv_iconst (v := (3 : Int32)) hx hb dX2_readHead_35 (by decide) ?_
      exact w36 _ _ _ _ _ H locs ls hf hP hD hS (lv_sub hl [0] rfl)
    · have hf := it_f c10 hf
      refine lv_iconst (v := (1 : Int32)) hx hb dX2_readHead_31 (by decide) ?_
      refine lv_goto (tgt := 36) hx hb dX2_readHead_32 (by decide) ?_
      exact w36 _ _ _ _ _ H locs ls hf hP hD hS (lv_sub hl [0] rfl)
  have w86 : ∀ (t0 : Int32) (pB : Int32) (LK : Nat → Int32) (LN : Nat → Int32) (LS : Nat → Int32) (H : Heap) (locs : List Loc) (ls : Array Slot), f_X2_readHead_J86 cL cB BB t0 pB LK LN LS = some res → va_P D vwCl (wC cI α gw gc gs ge gf cR cL cB pB SD RK RN RS RC RT LK LN LS LL US UB BB) H → va_D A (wC cI α gw gc gs ge gf cR cL cB pB SD RK RN RS RC RT LK LN LS LL US UB BB) → va_S A s.heap H locs → lv_has ls 3 [(0, .ref (α 5))] → W p l e rm_X2_readHead s m args below meth c H locs 0 0 (MQ below (kQi D A (wC cI α gw gc gs ge gf cR cL cB res.2.1 SD RK RN RS RC RT res.2.2.1 res.2.2.2.1 res.2.2.2.2 LL US UB BB) res.1) args s 0 0 A) (F0 m 86 ls [.int t0]) := by
    intro t0 pB LK LN LS H locs ls hf hP hD hS hl
    unfold f_X2_readHead_J86 at hf
    refine lv_istore_n (lv' := [(1, .int t0), (0, .ref (α 5))]) hx hb dX2_readHead_86 rfl hl (by decide) rfl (fun ls hl => ?_)
    refine lv_aload_n hx hb dX2_readHead_87 rfl (lv_at hl 1 rfl) ?_
    refine lv_dup hx hb dX2_readHead_88 rfl ?_
    refine va_get (D := D) (ci := 3) (v := .int pB) (C := RX2) (T := TX2) (N := 5) hx hb hts hiX2 hown hK hP 5 rfl rfl 4 (by decide) fl19 (fun _ h9 => h9) rfl dX2_readHead_89 ?_
    refine lv_iconst (v := (1 : Int32)) hx hb dX2_readHead_92 (by decide) ?_
    refine lv_iadd hx hb dX2_readHead_93 ?_
    refine va_put (D := D) (ci := 3) (v := .int (pB + (1 : Int32))) (ty := .int) (C := RX2) (T := TX2) (N := 5) hx hb hts hiX2 tyX2 tyX2_ok nmX2 hown hK hP hD hS 5 rfl rfl 4 (by decide) fl19 (fun _ h9 => h9) rfl (by decide +kernel) rfl rfl (Nat.le_of_ble_eq_true rfl) dX2_readHead_94 (fun H locs hP hD hS => ?_)
    have hP : va_P D vwCl (wC cI α gw gc gs ge gf cR cL cB (pB + (1 : Int32)) SD RK RN RS RC RT LK LN LS LL US UB BB) H := hP
    have hD : va_D A (wC cI α gw gc gs ge gf cR cL cB (pB + (1 : Int32)) SD RK RN RS RC RT LK LN LS LL US UB BB) := hD
    refine lv_aload_n hx hb dX2_readHead_97 rfl (lv_at hl 1 rfl) ?_
    obtain ⟨q14, hq14, hf⟩ := bnd hf
    refine kI_callV (As := []) (rest := []) S hP hD hS (c_X2_readNumber l D cI α gw gc gs ge gf cR cL cB (pB + (1 : Int32)) SD RK RN RS RC RT LK LN LS LL US UB BB q14 hq14) (cwV 0 hts gX2_readHead_X2_readNumber rfl rfl rfl (by decide +kernel) ⟨Nat.le_of_ble_eq_true rfl, Nat.le_of_ble_eq_true rfl⟩) 5 rfl rfl rfl hl.1 rfl (Nat.le_of_ble_eq_true rfl) dX2_readHead_98 ⟨Nat.zero_le _, Nat.zero_le _⟩ (fun H locs hP hD hS => ?_)
    have hP : va_P D vwCl (wC cI α gw gc gs ge gf cR cL cB q14.2 SD RK RN RS RC RT LK LN LS LL US UB BB) H := hP
    have hD : va_D A (wC cI α gw gc gs ge gf cR cL cB q14.2 SD RK RN RS RC RT LK LN LS LL US UB BB) := hD
    refine lv_istore_n (lv' := [(2, .int q14.1), (1, .int t0), (0, .ref (α 5))]) hx hb dX2_readHead_101 rfl hl (by decide) rfl (fun ls hl => ?_)
    refine lv_aload_n hx hb dX2_readHead_102 rfl (lv_at hl 2 rfl) ?_
    refine va_get (D := D) (ci := 3) (v := .ref (α 3)) (C := RX2) (T := TX2) (N := 5) hx hb hts hiX2 hown hK hP 5 rfl rfl 1 (by decide) fl26 (fun _ h9 => h9) rfl dX2_readHead_103 ?_
    refine lv_iload_n hx hb dX2_readHead_106 rfl (lv_at hl 1 rfl) ?_
    refine lv_iload_n hx hb dX2_readHead_107 rfl (lv_at hl 0 rfl) ?_
    obtain ⟨q15, hq15, hf⟩ := bnd hf
    refine kV_callV (As := [.int t0, .int q14.1]) (rest := []) S hP hD hS (c_X1_startDraft l D cI α gw gc gs ge gf cR cL cB q14.2 SD RK RN RS RC RT LK LN LS LL US UB BB t0 q14.1 q15 hq15) (cwV 2 hts gX2_readHead_X1_startDraft rfl rfl rfl (by decide +kernel) ⟨Nat.le_of_ble_eq_true rfl, Nat.le_of_ble_eq_true rfl⟩) 3 rfl rfl rfl hl.1 rfl (Nat.le_of_ble_eq_true rfl) dX2_readHead_108 ⟨Nat.zero_le _, Nat.zero_le _⟩ (fun H locs hP hD hS => ?_)
    have hP : va_P D vwCl (wC cI α gw gc gs ge gf cR cL cB q14.2 SD RK RN RS RC RT q15.1 q15.2.1 q15.2.2 LL US UB BB) H := hP
    have hD : va_D A (wC cI α gw gc gs ge gf cR cL cB q14.2 SD RK RN RS RC RT q15.1 q15.2.1 q15.2.2 LL US UB BB) := hD
    refine lv_iload_n hx hb dX2_readHead_111 rfl (lv_at hl 0 rfl) ?_
    refine lv_iconst (v := (-1 : Int32)) hx hb dX2_readHead_112 (by decide) ?_
    refine lv_icmp_eq (tgt := 120) hx hb dX2_readHead_113 (by decide) (fun c16 => ?_) (fun c16 => ?_)
    · have hf := it_t c16 hf
      refine lv_iconst (v := (0 : Int32)) hx hb dX2_readHead_120 (by decide) ?_
      have e9 := Option.some.inj hf
      subst e9
      exact kI_ret S narrow_b0 hP hD hS dX2_readHead_121
    · have hf := it_f c16 hf
      refine lv_iconst (v := (1 : Int32)) hx hb dX2_readHead_116 (by decide) ?_
      refine lv_goto (tgt := 121) hx hb dX2_readHead_117 (by decide) ?_
      have e9 := Option.some.inj hf
      subst e9
      exact kI_ret S narrow_b1 hP hD hS dX2_readHead_121
  have w72 : ∀ (pB : Int32) (LK : Nat → Int32) (LN : Nat → Int32) (LS : Nat → Int32) (H : Heap) (locs : List Loc) (ls : Array Slot), f_X2_readHead_J72 cL cB BB pB LK LN LS = some res → va_P D vwCl (wC cI α gw gc gs ge gf cR cL cB pB SD RK RN RS RC RT LK LN LS LL US UB BB) H → va_D A (wC cI α gw gc gs ge gf cR cL cB pB SD RK RN RS RC RT LK LN LS LL US UB BB) → va_S A s.heap H locs → lv_has ls 3 [(0, .ref (α 5))] → W p l e rm_X2_readHead s m args below meth c H locs 0 0 (MQ below (kQi D A (wC cI α gw gc gs ge gf cR cL cB res.2.1 SD RK RN RS RC RT res.2.2.1 res.2.2.2.1 res.2.2.2.2 LL US UB BB) res.1) args s 0 0 A) (F0 m 72 ls []) := by
    intro pB LK LN LS H locs ls hf hP hD hS hl
    unfold f_X2_readHead_J72 at hf
    refine lv_aload_n hx hb dX2_readHead_72 rfl (lv_at hl 0 rfl) ?_
    refine lv_bipush (v := (114 : Int32)) hx hb dX2_readHead_73 (by decide) ?_
    obtain ⟨q12, hq12, hf⟩ := bnd hf
    refine kI_callV (As := [.int (114 : Int32)]) (rest := []) S hP hD hS (c_X2_isHere l D cI α gw gc gs ge gf cR cL cB pB SD RK RN RS RC RT LK LN LS LL US UB BB (114 : Int32) q12 hq12) (cwV 1 hts gX2_readHead_X2_isHere rfl rfl rfl (by decide +kernel) ⟨Nat.le_of_ble_eq_true rfl, Nat.le_of_ble_eq_true rfl⟩) 5 rfl rfl rfl hl.1 rfl (Nat.le_of_ble_eq_true rfl) dX2_readHead_75 ⟨Nat.zero_le _, Nat.zero_le _⟩ (fun H locs hP hD hS => ?_)
    have hP : va_P D vwCl (wC cI α gw gc gs ge gf cR cL cB pB SD RK RN RS RC RT LK LN LS LL US UB BB) H := hP
    have hD : va_D A (wC cI α gw gc gs ge gf cR cL cB pB SD RK RN RS RC RT LK LN LS LL US UB BB) := hD
    refine lv_if_eq (tgt := 85) hx hb dX2_readHead_78 (by decide) (fun c13 => ?_) (fun c13 => ?_)
    · have hf := it_t c13 hf
      refine lv_iconst (v := (2 : Int32)) hx hb dX2_readHead_85 (by decide) ?_
      exact w86 _ _ _ _ _ H locs ls hf hP hD hS (lv_sub hl [0] rfl)
    · have hf := it_f c13 hf
      refine lv_iconst (v := (0 : Int32)) hx hb dX2_readHead_81 (by decide) ?_
      refine lv_goto (tgt := 86) hx hb dX2_readHead_82 (by decide) ?_
      exact w86 _ _ _ _ _ H locs ls hf hP hD hS (lv_sub hl [0] rfl)
  suffices hgo : ∀ (H : Heap) (locs : List Loc), va_P D vwCl (wC cI α gw gc gs ge gf cR cL cB pB SD RK RN RS RC RT LK LN LS LL US UB BB) H → va_D A (wC cI α gw gc gs ge gf cR cL cB pB SD RK RN RS RC RT LK LN LS LL US UB BB) → va_S A s.heap H locs → W p l e rm_X2_readHead s m args below meth c H locs 0 0 (MQ below (kQi D A (wC cI α gw gc gs ge gf cR cL cB res.2.1 SD RK RN RS RC RT res.2.2.1 res.2.2.2.1 res.2.2.2.2 LL US UB BB) res.1) args s 0 0 A) (F0 m 0 ls []) from hgo _ _ hP hD hS
  clear hP hD hS
  intro H locs hP hD hS
  refine lv_aload_n hx hb dX2_readHead_0 rfl (lv_at hl 0 rfl) ?_
  refine lv_bipush (v := (117 : Int32)) hx hb dX2_readHead_1 (by decide) ?_
  obtain ⟨q1, hq1, hf⟩ := bnd hf
  refine kI_callV (As := [.int (117 : Int32)]) (rest := []) S hP hD hS (c_X2_isHere l D cI α gw gc gs ge gf cR cL cB pB SD RK RN RS RC RT LK LN LS LL US UB BB (117 : Int32) q1 hq1) (cwV 1 hts gX2_readHead_X2_isHere rfl rfl rfl (by decide +kernel) ⟨Nat.le_of_ble_eq_true rfl, Nat.le_of_ble_eq_true rfl⟩) 5 rfl rfl rfl hl.1 rfl (Nat.le_of_ble_eq_true rfl) dX2_readHead_3 ⟨Nat.zero_le _, Nat.zero_le _⟩ (fun H locs hP hD hS => ?_)
  have hP : va_P D vwCl (wC cI α gw gc gs ge gf cR cL cB pB SD RK RN RS RC RT LK LN LS LL US UB BB) H := hP
  have hD : va_D A (wC cI α gw gc gs ge gf cR cL cB pB SD RK RN RS RC RT LK LN LS LL US UB BB) := hD
  refine lv_if_ne (tgt := 18) hx hb dX2_readHead_6 (by decide) (fun c2 => ?_) (fun c2 => ?_)
  · have hf := it_t c2 hf
    exact w18 _ _ _ _ H locs ls hf hP hD hS (lv_sub hl [0] rfl)
  · have hf := it_f (fun h9 => h9 c2) hf
    refine lv_aload_n hx hb dX2_readHead_9 rfl (lv_at hl 0 rfl) ?_
    refine lv_bipush (v := (98 : Int32)) hx hb dX2_readHead_10 (by decide) ?_
    obtain ⟨q3, hq3, hf⟩ := bnd hf
    refine kI_callV (As := [.int (98 : Int32)]) (rest := []) S hP hD hS (c_X2_isHere l D cI α gw gc gs ge gf cR cL cB pB SD RK RN RS RC RT LK LN LS LL US UB BB (98 : Int32) q3 hq3) (cwV 1 hts gX2_readHead_X2_isHere rfl rfl rfl (by decide +kernel) ⟨Nat.le_of_ble_eq_true rfl, Nat.le_of_ble_eq_true rfl⟩) 5 rfl rfl rfl hl.1 rfl (Nat.le_of_ble_eq_true rfl) dX2_readHead_12 ⟨Nat.zero_le _, Nat.zero_le _⟩ (fun H locs hP hD hS => ?_)
    have hP : va_P D vwCl (wC cI α gw gc gs ge gf cR cL cB pB SD RK RN RS RC RT LK LN LS LL US UB BB) H := hP
    have hD : va_D A (wC cI α gw gc gs ge gf cR cL cB pB SD RK RN RS RC RT LK LN LS LL US UB BB) := hD
    refine lv_if_eq (tgt := 52) hx hb dX2_readHead_15 (by decide) (fun c4 => ?_) (fun c4 => ?_)
    · have hf := it_t c4 hf
      refine lv_aload_n hx hb dX2_readHead_52 rfl (lv_at hl 0 rfl) ?_
      refine lv_bipush (v := (114 : Int32)) hx hb dX2_readHead_53 (by decide) ?_
      obtain ⟨q5, hq5, hf⟩ := bnd hf
      refine kI_callV (As := [.int (114 : Int32)]) (rest := []) S hP hD hS (c_X2_isHere l D cI α gw gc gs ge gf cR cL cB pB SD RK RN RS RC RT LK LN LS LL US UB BB (114 : Int32) q5 hq5) (cwV 1 hts gX2_readHead_X2_isHere rfl rfl rfl (by decide +kernel) ⟨Nat.le_of_ble_eq_true rfl, Nat.le_of_ble_eq_true rfl⟩) 5 rfl rfl rfl hl.1 rfl (Nat.le_of_ble_eq_true rfl) dX2_readHead_55 ⟨Nat.zero_le _, Nat.zero_le _⟩ (fun H locs hP hD hS => ?_)
      have hP : va_P D vwCl (wC cI α gw gc gs ge gf cR cL cB pB SD RK RN RS RC RT LK LN LS LL US UB BB) H := hP
      have hD : va_D A (wC cI α gw gc gs ge gf cR cL cB pB SD RK RN RS RC RT LK LN LS LL US UB BB) := hD
      refine lv_if_ne (tgt := 72) hx hb dX2_readHead_58 (by decide) (fun c6 => ?_) (fun c6 => ?_)
      · have hf := it_t c6 hf
        exact w72 _ _ _ _ H locs ls hf hP hD hS (lv_sub hl [0] rfl)
      · have hf := it_f (fun h9 => h9 c6) hf
        refine lv_aload_n hx hb dX2_readHead_61 rfl (lv_at hl 0 rfl) ?_
        refine lv_bipush (v := (115 : Int32)) hx hb dX2_readHead_62 (by decide) ?_
        obtain ⟨q7, hq7, hf⟩ := bnd hf
        refine kI_callV (As := [.int (115 : Int32)]) (rest := []) S hP hD hS (c_X2_isHere l D cI α gw gc gs ge gf cR cL cB pB SD RK RN RS RC RT LK LN LS LL US UB BB (115 : Int32) q7 hq7) (cwV 1 hts gX2_readHead_X2_isHere rfl rfl rfl (by decide +kernel) ⟨Nat.le_of_ble_eq_true rfl, Nat.le_of_ble_eq_true rfl⟩) 5 rfl rfl rfl hl.1 rfl (Nat.le_of_ble_eq_true rfl) dX2_readHead_64 ⟨Nat.zero_le _, Nat.zero_le _⟩ (fun H locs hP hD hS => ?_)
        have hP : va_P D vwCl (wC cI α gw gc gs ge gf cR cL cB pB SD RK RN RS RC RT LK LN LS LL US UB BB) H := hP
        have hD : va_D A (wC cI α gw gc gs ge gf cR cL cB pB SD RK RN RS RC RT LK LN LS LL US UB BB) := hD
        refine lv_if_ne (tgt := 72) hx hb dX2_readHead_67 (by decide) (fun c8 => ?_) (fun c8 => ?_)
        · have hf := it_t c8 hf
          exact w72 _ _ _ _ H locs ls hf hP hD hS (lv_sub hl [0] rfl)
        · have hf := it_f (fun h9 => h9 c8) hf
          refine lv_iconst (v := (0 : Int32)) hx hb dX2_readHead_70 (by decide) ?_
          have e9 := Option.some.inj hf
          subst e9
          exact kI_ret S narrow_b0 hP hD hS dX2_readHead_71
    · have hf := it_f c4 hf
      exact w18 _ _ _ _ H locs ls hf hP hD hS (lv_sub hl [0] rfl)
abbrev rm_X2_readNumberBelow : Room := { frames := 2, cells := 0, slots := 0, locals := 42 }
set_option maxHeartbeats 4000000 in
set_option maxRecDepth 100000 in
theorem c_X2_readNumberBelow (l : Launch) (D : va_G) (cI : ClassId) (α : Nat → Nat) (gw gc gs ge gf cR cL cB pB : Int32) (SD RK RN RS RC RT LK LN LS LL US UB BB : Nat → Int32) (x1 : Int32) (res : Int32 × Int32) (hf : f_X2_readNumberBelow cB BB pB x1 = some res) : kI l yX2_readNumberBelow wsX2_readNumberBelow rm_X2_readNumberBelow D cI [.ref (α 5), .int x1] (wC cI α gw gc gs ge gf cR cL cB pB SD RK RN RS RC RT LK LN LS LL US UB BB) (wC cI α gw gc gs ge gf cR cL cB res.2 SD RK RN RS RC RT LK LN LS LL US UB BB) res.1 := by
  unfold f_X2_readNumberBelow at hf
  refine kI_of (cc := cX2_readNumberBelow) (maxL := 3) (ret := (some .int)) (by decide +kernel) rfl (Nat.le_of_ble_eq_true rfl) ?_
  intro p e s m args below meth c A ls S hP hD hS hl
  have S : kC p s m args meth c cX2_readNumberBelow 3 wsX2_readNumberBelow RX2 (some .int) D cI A := S
  have hx := S.1.1
  have hb := S.1.2.1
  have hml := S.1.2.2.1
  have hown : s.vm.findClass RX2 = some m.cls := S.1.2.2.2.1
  have hts := S.1.2.2.2.2
  have hK := S.2.2.2.1
  have hnk := S.2.2.2.2.1.2
  have hiX2 : ∀ w ∈ u_ws RX2 TX2 5, w ∈ wsX2_readNumberBelow := by decide +kernel
  have fl19 := hts (.fieldLink RX2 19 "ProofChecker$Reader" "place" "I") (by decide +kernel)
  have hl : lv_has ls 3 [(0, .ref (α 5)), (1, .int x1)] := hl
  suffices hgo : ∀ (H : Heap) (locs : List Loc), va_P D vwCl (wC cI α gw gc gs ge gf cR cL cB pB SD RK RN RS RC RT LK LN LS LL US UB BB) H → va_D A (wC cI α gw gc gs ge gf cR cL cB pB SD RK RN RS RC RT LK LN LS LL US UB BB) → va_S A s.heap H locs → W p l e rm_X2_readNumberBelow s m args below meth c H locs 0 0 (MQ below (kQi D A (wC cI α gw gc gs ge gf cR cL cB res.2 SD RK RN RS RC RT LK LN LS LL US UB BB) res.1) args s 0 0 A) (F0 m 0 ls []) from hgo _ _ hP hD hS
  clear hP hD hS
  intro H locs hP hD hS
  refine lv_aload_n hx hb dX2_readNumberBelow_0 rfl (lv_at hl 0 rfl) ?_
  obtain ⟨q1, hq1, hf⟩ := bnd hf
  refine kI_callV (As := []) (rest := []) S hP hD hS (c_X2_readNumber l D cI α gw gc gs ge gf cR cL cB pB SD RK RN RS RC RT LK LN LS LL US UB BB q1 hq1) (cwV 0 hts gX2_readNumberBelow_X2_readNumber rfl rfl rfl (by decide +kernel) ⟨Nat.le_of_ble_eq_true rfl, Nat.le_of_ble_eq_true rfl⟩) 5 rfl rfl rfl hl.1 rfl (Nat.le_of_ble_eq_true rfl) dX2_readNumberBelow_1 ⟨Nat.zero_le _, Nat.zero_le _⟩ (fun H locs hP hD hS => ?_)
  have hP : va_P D vwCl (wC cI α gw gc gs ge gf cR cL cB q1.2 SD RK RN RS RC RT LK LN LS LL US UB BB) H := hP
  have hD : va_D A (wC cI α gw gc gs ge gf cR cL cB q1.2 SD RK RN RS RC RT LK LN LS LL US UB BB) := hD
  refine lv_istore_n (lv' := [(2, .int q1.1), (0, .ref (α 5)), (1, .int x1)]) hx hb dX2_readNumberBelow_4 rfl hl (by decide) rfl (fun ls hl => ?_)
  refine lv_iload_n hx hb dX2_readNumberBelow_5 rfl (lv_at hl 0 rfl) ?_
  refine lv_iload_n hx hb dX2_readNumberBelow_6 rfl (lv_at hl 2 rfl) ?_
  refine lv_icmp_lt (tgt := 22) hx hb dX2_readNumberBelow_7 (by decide) (fun c2 => ?_) (fun c2 => ?_)
  · have hf := it_t c2 hf
    refine lv_iload_n hx hb dX2_readNumberBelow_22 rfl (lv_at hl 0 rfl) ?_
    have e9 := Option.some.inj hf
    subst e9
    exact kI_ret S rfl hP hD hS dX2_readNumberBelow_23
  · have hf := it_f c2 hf
    refine lv_aload_n hx hb dX2_readNumberBelow_10 rfl (lv_at hl 1 rfl) ?_
    refine lv_dup hx hb dX2_readNumberBelow_11 rfl ?_
    refine va_get (D := D) (ci := 3) (v := .int q1.2) (C := RX2) (T := TX2) (N := 5) hx hb hts hiX2 hown hK hP 5 rfl rfl 4 (by decide) fl19 (fun _ h9 => h9) rfl dX2_readNumberBelow_12 ?_
    refine lv_iconst (v := (1 : Int32)) hx hb dX2_readNumberBelow_15 (by decide) ?_
    refine lv_isub hx hb dX2_readNumberBelow_16 ?_
    refine va_put (D := D) (ci := 3) (v := .int (q1.2 - (1 : Int32))) (ty := .int) (C := RX2) (T := TX2) (N := 5) hx hb hts hiX2 tyX2 tyX2_ok nmX2 hown hK hP hD hS 5 rfl rfl 4 (by decide) fl19 (fun _ h9 => h9) rfl (by decide +kernel) rfl rfl (Nat.le_of_ble_eq_true rfl) dX2_readNumberBelow_17 (fun H locs hP hD hS => ?_)
    have hP : va_P D vwCl (wC cI α gw gc gs ge gf cR cL cB (q1.2 - (1 : Int32)) SD RK RN RS RC RT LK LN LS LL US UB BB) H := hP
    have hD : va_D A (wC cI α gw gc gs ge gf cR cL cB (q1.2 - (1 : Int32)) SD RK RN RS RC RT LK LN LS LL US UB BB) := hD
    refine lv_iconst (v := (-1 : Int32)) hx hb dX2_readNumberBelow_20 (by decide) ?_
    have e9 := Option.some.inj hf
    subst e9
    exact kI_ret S rfl hP hD hS dX2_readNumberBelow_21
abbrev rm_X2_readLiteral : Room := { frames := 3, cells := 0, slots := 0, locals := 64 }
set_option maxHeartbeats 4000000 in
set_option maxRecDepth 100000 in
theorem c_X2_readLiteral (l : Launch) (D : va_G) (cI : ClassId) (α : Nat → Nat) (gw gc gs ge gf cR cL cB pB : Int32) (SD RK RN RS RC RT LK LN LS LL US UB BB : Nat → Int32) (F : Nat) (x1 : Int32) (res : Int32 × Int32 × (Nat → Int32) × (Nat → Int32)) (hf : f_X2_readLiteral gc gs cB BB F pB LS LL x1 = some res) : kI l yX2_readLiteral wsX2_readLiteral rm_X2_readLiteral D cI [.ref (α 5), .int x1] (wC cI α gw gc gs ge gf cR cL cB pB SD RK RN RS RC RT LK LN LS LL US UB BB) (wC cI α gw gc gs ge gf cR cL cB res.2.1 SD RK RN RS RC RT LK LN res.2.2.1 res.2.2.2 US UB BB) res.1 := by
  unfold f_X2_readLiteral at hf
  refine kI_of (cc := cX2_readLiteral) (maxL := 5) (ret := (some .boolean)) (by decide +kernel) rfl (Nat.le_of_ble_eq_true rfl) ?_
  intro p e s m args below meth c A ls S hP hD hS hl
  have S : kC p s m args meth c cX2_readLiteral 5 wsX2_readLiteral RX2 (some .boolean) D cI A := S
  have hx := S.1.1
  have hb := S.1.2.1
  have hml := S.1.2.2.1
  have hown : s.vm.findClass RX2 = some m.cls := S.1.2.2.2.1
  have hts := S.1.2.2.2.2
  have hK := S.2.2.2.1
  have hnk := S.2.2.2.2.1.2
  have hiX2 : ∀ w ∈ u_ws RX2 TX2 5, w ∈ wsX2_readLiteral := by decide +kernel
  have fl19 := hts (.fieldLink RX2 19 "ProofChecker$Reader" "place" "I") (by decide +kernel)
  have fl22 := hts (.fieldLink RX2 22 "ProofChecker$Reader" "grid" "LProofChecker$Grid;") (by decide +kernel)
  have fl26 := hts (.fieldLink RX2 26 "ProofChecker$Reader" "lines" "LProofChecker$Lines;") (by decide +kernel)
  have hl : lv_has ls 5 [(0, .ref (α 5)), (1, .int x1)] := hl
  have w32 : ∀ (x1 : Int32) (x2 : Int32) (pB : Int32) (LS : Nat → Int32) (LL : Nat → Int32) (H : Heap) (locs : List Loc) (ls : Array Slot), f_X2_readLiteral_J32 gc gs cB BB F x1 x2 pB LS LL = some res → va_P D vwCl (wC cI α gw gc gs ge gf cR cL cB pB SD RK RN RS RC RT LK LN LS LL US UB BB) H → va_D A (wC cI α gw gc gs ge gf cR cL cB pB SD RK RN RS RC RT LK LN LS LL US UB BB) → va_S A s.heap H locs → lv_has ls 5 [(0, .ref (α 5)), (1, .int x1), (2, .int x2)] → W p l e rm_X2_readLiteral s m args below meth c H locs 0 0 (MQ below (kQi D A (wC cI α gw gc gs ge gf cR cL cB res.2.1 SD RK RN RS RC RT LK LN res.2.2.1 res.2.2.2 US UB BB) res.1) args s 0 0 A) (F0 m 32 ls []) := by
    intro x1 x2 pB LS LL H locs ls hf hP hD hS hl
    unfold f_X2_readLiteral_J32 at hf
    refine lv_aload_n hx hb dX2_readLiteral_32 rfl (lv_at hl 0 rfl) ?_
    refine lv_dup hx hb dX2_readLiteral_33 rfl ?_
    refine va_get (D := D) (ci := 3) (v := .int pB) (C := RX2) (T := TX2) (N := 5) hx hb hts hiX2 hown hK hP 5 rfl rfl 4 (by decide) fl19 (fun _ h9 => h9) rfl dX2_readLiteral_34 ?_
    refine lv_iconst (v := (1 : Int32)) hx hb dX2_readLiteral_37 (by decide) ?_
    refine lv_iadd hx hb dX2_readLiteral_38 ?_
    refine va_put (D := D) (ci := 3) (v := .int (pB + (1 : Int32))) (ty := .int) (C := RX2) (T := TX2) (N := 5) hx hb hts hiX2 tyX2 tyX2_ok nmX2 hown hK hP hD hS 5 rfl rfl 4 (by decide) fl19 (fun _ h9 => h9) rfl (by decide +kernel) rfl rfl (Nat.le_of_ble_eq_true rfl) dX2_readLiteral_39 (fun H locs hP hD hS => ?_)
    have hP : va_P D vwCl (wC cI α gw gc gs ge gf cR cL cB (pB + (1 : Int32)) SD RK RN RS RC RT LK LN LS LL US UB BB) H := hP
    have hD : va_D A (wC cI α gw gc gs ge gf cR cL cB (pB + (1 : Int32)) SD RK RN RS RC RT LK LN LS LL US UB BB) := hD
    refine lv_aload_n hx hb dX2_readLiteral_42 rfl (lv_at hl 0 rfl) ?_
    refine lv_aload_n hx hb dX2_readLiteral_43 rfl (lv_at hl 0 rfl) ?_
    refine va_get (D := D) (ci := 3) (v := .ref (α 1)) (C := RX2) (T := TX2) (N := 5) hx hb hts hiX2 hown hK hP 5 rfl rfl 0 (by decide) fl22 (fun _ h9 => h9) rfl dX2_readLiteral_44 ?_
    obtain ⟨q5, hq5, hf⟩ := bnd hf
    refine kI_callV (As := []) (rest := [.ref (α 5)]) S hP hD hS (c_X0_cells l D cI α gw gc gs ge gf cR cL cB (pB + (1 : Int32)) SD RK RN RS RC RT LK LN LS LL US UB BB q5 hq5) (cwV 0 hts gX2_readLiteral_X0_cells rfl rfl rfl (by decide +kernel) ⟨Nat.le_of_ble_eq_true rfl, Nat.le_of_ble_eq_true rfl⟩) 1 rfl rfl rfl hl.1 rfl (Nat.le_of_ble_eq_true rfl) dX2_readLiteral_47 ⟨Nat.zero_le _, Nat.zero_le _⟩ (fun H locs hP hD hS => ?_)
    have hP : va_P D vwCl (wC cI α gw gc gs ge gf cR cL cB (pB + (1 : Int32)) SD RK RN RS RC RT LK LN LS LL US UB BB) H := hP
    have hD : va_D A (wC cI α gw gc gs ge gf cR cL cB (pB + (1 : Int32)) SD RK RN RS RC RT LK LN LS LL US UB BB) := hD
    obtain ⟨q6, hq6, hf⟩ := bnd hf
    refine kI_callV (As := [.int q5]) (rest := []) S hP hD hS (c_X2_readNumberBelow l D cI α gw gc gs ge gf cR cL cB (pB + (1 : Int32)) SD RK RN RS RC RT LK LN LS LL US UB BB q5 q6 hq6) (cwV 1 hts gX2_readLiteral_X2_readNumberBelow rfl rfl rfl (by decide +kernel) ⟨Nat.le_of_ble_eq_true rfl, Nat.le_of_ble_eq_true rfl⟩) 5 rfl rfl rfl hl.1 rfl (Nat.le_of_ble_eq_true rfl) dX2_readLiteral_50 ⟨Nat.zero_le _, Nat.zero_le _⟩ (fun H locs hP hD hS => ?_)
    have hP : va_P D vwCl (wC cI α gw gc gs ge gf cR cL cB q6.2 SD RK RN RS RC RT LK LN LS LL US UB BB) H := hP
    have hD : va_D A (wC cI α gw gc gs ge gf cR cL cB q6.2 SD RK RN RS RC RT LK LN LS LL US UB BB) := hD
    refine lv_istore_n (lv' := [(3, .int q6.1), (0, .ref (α 5)), (1, .int x1), (2, .int x2)]) hx hb dX2_readLiteral_53 rfl hl (by decide) rfl (fun ls hl => ?_)
    refine lv_iload_n hx hb dX2_readLiteral_54 rfl (lv_at hl 0 rfl) ?_
    refine lv_iconst (v := (-1 : Int32)) hx hb dX2_readLiteral_55 (by decide) ?_
    refine lv_icmp_eq (tgt := 68) hx hb dX2_readLiteral_56 (by decide) (fun c7 => ?_) (fun c7 => ?_)
    · have hf := it_t c7 hf
      refine lv_iconst (v := (0 : Int32)) hx hb dX2_readLiteral_68 (by decide) ?_
      have e9 := Option.some.inj hf
      subst e9
      exact kI_ret S narrow_b0 hP hD hS dX2_readLiteral_69
    · have hf := it_f c7 hf
      refine lv_aload_n hx hb dX2_readLiteral_59 rfl (lv_at hl 1 rfl) ?_
      refine lv_bipush (v := (46 : Int32)) hx hb dX2_readLiteral_60 (by decide) ?_
      obtain ⟨q8, hq8, hf⟩ := bnd hf
      refine kI_callV (As := [.int (46 : Int32)]) (rest := []) S hP hD hS (c_X2_isHere l D cI α gw gc gs ge gf cR cL cB q6.2 SD RK RN RS RC RT LK LN LS LL US UB BB (46 : Int32) q8 hq8) (cwV 1 hts gX2_readLiteral_X2_isHere rfl rfl rfl (by decide +kernel) ⟨Nat.le_of_ble_eq_true rfl, Nat.le_of_ble_eq_true rfl⟩) 5 rfl rfl rfl hl.1 rfl (Nat.le_of_ble_eq_true rfl) dX2_readLiteral_62 ⟨Nat.zero_le _, Nat.zero_le _⟩ (fun H locs hP hD hS => ?_)
      have hP : va_P D vwCl (wC cI α gw gc gs ge gf cR cL cB q6.2 SD RK RN RS RC RT LK LN LS LL US UB BB) H := hP
      have hD : va_D A (wC cI α gw gc gs ge gf cR cL cB q6.2 SD RK RN RS RC RT LK LN LS LL US UB BB) := hD
      refine lv_if_ne (tgt := 70) hx hb dX2_readLiteral_65 (by decide) (fun c9 => ?_) (fun c9 => ?_)
      · have hf := it_t c9 hf
        refine lv_aload_n hx hb dX2_readLiteral_70 rfl (lv_at hl 1 rfl) ?_
        refine lv_dup hx hb dX2_readLiteral_71 rfl ?_
        refine va_get (D := D) (ci := 3) (v := .int q6.2) (C := RX2) (T := TX2) (N := 5) hx hb hts hiX2 hown hK hP 5 rfl rfl 4 (by decide) fl19 (fun _ h9 => h9) rfl dX2_readLiteral_72 ?_
        refine lv_iconst (v := (1 : Int32)) hx hb dX2_readLiteral_75 (by decide) ?_
        refine lv_iadd hx hb dX2_readLiteral_76 ?_
        refine va_put (D := D) (ci := 3) (v := .int (q6.2 + (1 : Int32))) (ty := .int) (C := RX2) (T := TX2) (N := 5) hx hb hts hiX2 tyX2 tyX2_ok nmX2 hown hK hP hD hS 5 rfl rfl 4 (by decide) fl19 (fun _ h9 => h9) rfl (by decide +kernel) rfl rfl (Nat.le_of_ble_eq_true rfl) dX2_readLiteral_77 (fun H locs hP hD hS => ?_)
        have hP : va_P D vwCl (wC cI α gw gc gs ge gf cR cL cB (q6.2 + (1 : Int32)) SD RK RN RS RC RT LK LN LS LL US UB BB) H := hP
        have hD : va_D A (wC cI α gw gc gs ge gf cR cL cB (q6.2 + (1 : Int32)) SD RK RN RS RC RT LK LN LS LL US UB BB) := hD
        refine lv_aload_n hx hb dX2_readLiteral_80 rfl (lv_at hl 1 rfl) ?_
        refine lv_aload_n hx hb dX2_readLiteral_81 rfl (lv_at hl 1 rfl) ?_
        refine va_get (D := D) (ci := 3) (v := .ref (α 1)) (C := RX2) (T := TX2) (N := 5) hx hb hts hiX2 hown hK hP 5 rfl rfl 0 (by decide) fl22 (fun _ h9 => h9) rfl dX2_readLiteral_82 ?_
        obtain ⟨q10, hq10, hf⟩ := bnd hf
        refine kI_callV (As := []) (rest := [.ref (α 5)]) S hP hD hS (c_X0_symbols l D cI α gw gc gs ge gf cR cL cB (q6.2 + (1 : Int32)) SD RK RN RS RC RT LK LN LS LL US UB BB q10 hq10) (cwV 0 hts gX2_readLiteral_X0_symbols rfl rfl rfl (by decide +kernel) ⟨Nat.le_of_ble_eq_true rfl, Nat.le_of_ble_eq_true rfl⟩) 1 rfl rfl rfl hl.1 rfl (Nat.le_of_ble_eq_true rfl) dX2_readLiteral_85 ⟨Nat.zero_le _, Nat.zero_le _⟩ (fun H locs hP hD hS => ?_)
        have hP : va_P D vwCl (wC cI α gw gc gs ge gf cR cL cB (q6.2 + (1 : Int32)) SD RK RN RS RC RT LK LN LS LL US UB BB) H := hP
        have hD : va_D A (wC cI α gw gc gs ge gf cR cL cB (q6.2 + (1 : Int32)) SD RK RN RS RC RT LK LN LS LL US UB BB) := hD
        obtain ⟨q11, hq11, hf⟩ := bnd hf
        refine kI_callV (As := [.int q10]) (rest := []) S hP hD hS (c_X2_readNumberBelow l D cI α gw gc gs ge gf cR cL cB (q6.2 + (1 : Int32)) SD RK RN RS RC RT LK LN LS LL US UB BB q10 q11 hq11) (cwV 1 hts gX2_readLiteral_X2_readNumberBelow rfl rfl rfl (by decide +kernel) ⟨Nat.le_of_ble_eq_true rfl, Nat.le_of_ble_eq_true rfl⟩) 5 rfl rfl rfl hl.1 rfl (Nat.le_of_ble_eq_true rfl) dX2_readLiteral_88 ⟨Nat.zero_le _, Nat.zero_le _⟩ (fun H locs hP hD hS => ?_)
        have hP : va_P D vwCl (wC cI α gw gc gs ge gf cR cL cB q11.2 SD RK RN RS RC RT LK LN LS LL US UB BB) H := hP
        have hD : va_D A (wC cI α gw gc gs ge gf cR cL cB q11.2 SD RK RN RS RC RT LK LN LS LL US UB BB) := hD
        refine lv_istore (lv' := [(4, .int q11.1), (3, .int q6.1), (0, .ref (α 5)), (1, .int x1), (2, .int x2)]) hx hb dX2_readLiteral_91 hl (by decide) rfl (fun ls hl => ?_)
        refine lv_iload hx hb dX2_readLiteral_93 (lv_at hl 0 rfl) ?_
        refine lv_iconst (v := (-1 : Int32)) hx hb dX2_readLiteral_95 (by decide) ?_
        refine lv_icmp_ne (tgt := 101) hx hb dX2_readLiteral_96 (by decide) (fun c12 => ?_) (fun c12 => ?_)
        · have hf := it_t c12 hf
          refine lv_aload_n hx hb dX2_readLiteral_101 rfl (lv_at hl 2 rfl) ?_
          refine va_get (D := D) (ci := 3) (v := .ref (α 3)) (C := RX2) (T := TX2) (N := 5) hx hb hts hiX2 hown hK hP 5 rfl rfl 1 (by decide) fl26 (fun _ h9 => h9) rfl dX2_readLiteral_102 ?_
          refine lv_iload_n hx hb dX2_readLiteral_105 rfl (lv_at hl 3 rfl) ?_
          refine lv_iload_n hx hb dX2_readLiteral_106 rfl (lv_at hl 1 rfl) ?_
          refine lv_iload hx hb dX2_readLiteral_107 (lv_at hl 0 rfl) ?_
          refine lv_iload_n hx hb dX2_readLiteral_109 rfl (lv_at hl 4 rfl) ?_
          obtain ⟨q13, hq13, hf⟩ := bnd hf
          refine kI_callS (As := [.int q6.1, .int q11.1, .int x2]) (rest := [.int x1, .ref (α 3)]) S hP hD hS (c_X1_literalOf l D cI q6.1 q11.1 x2 q13 hq13) (va_cwS 3 hts gX2_readLiteral_X1_literalOf rfl rfl rfl (by decide +kernel) ⟨Nat.le_of_ble_eq_true rfl, Nat.le_of_ble_eq_true rfl⟩) rfl hl.1 rfl (Nat.le_of_ble_eq_true rfl) dX2_readLiteral_110 ⟨Nat.zero_le _, Nat.zero_le _⟩ (fun H locs hP hD hS => ?_)
          obtain ⟨q14, hq14, hf⟩ := bnd hf
          refine kI_callV (As := [.int x1, .int q13]) (rest := []) S hP hD hS (c_X1_addLiteral l D cI α gw gc gs ge gf cR cL cB q11.2 SD RK RN RS RC RT LK LN LS LL US UB BB F x1 q13 q14 hq14) (cwV 2 hts gX2_readLiteral_X1_addLiteral rfl rfl rfl (by decide +kernel) ⟨Nat.le_of_ble_eq_true rfl, Nat.le_of_ble_eq_true rfl⟩) 3 rfl rfl rfl hl.1 rfl (Nat.le_of_ble_eq_true rfl) dX2_readLiteral_113 ⟨Nat.zero_le _, Nat.zero_le _⟩ (fun H locs hP hD hS => ?_)
          have hP : va_P D vwCl (wC cI α gw gc gs ge gf cR cL cB q11.2 SD RK RN RS RC RT LK LN q14.2.1 q14.2.2 US UB BB) H := hP
          have hD : va_D A (wC cI α gw gc gs ge gf cR cL cB q11.2 SD RK RN RS RC RT LK LN q14.2.1 q14.2.2 US UB BB) := hD
          refine lv_if_ne (tgt := 131) hx hb dX2_readLiteral_116 (by decide) (fun c15 => ?_) (fun c15 => ?_)
          · have hf := it_t c15 hf
            refine lv_iconst (v := (1 : Int32)) hx hb dX2_readLiteral_131 (by decide) ?_
            have e9 := Option.some.inj hf
            subst e9
            exact kI_ret S narrow_b1 hP hD hS dX2_readLiteral_132
          · have hf := it_f (fun h9 => h9 c15) hf
            refine lv_aload_n hx hb dX2_readLiteral_119 rfl (lv_at hl 2 rfl) ?_
            refine lv_dup hx hb dX2_readLiteral_120 rfl ?_
            refine va_get (D := D) (ci := 3) (v := .int q11.2) (C := RX2) (T := TX2) (N := 5) hx hb hts hiX2 hown hK hP 5 rfl rfl 4 (by decide) fl19 (fun _ h9 => h9) rfl dX2_readLiteral_121 ?_
            refine lv_iconst (v := (1 : Int32)) hx hb dX2_readLiteral_124 (by decide) ?_
            refine lv_isub hx hb dX2_readLiteral_125 ?_
            refine va_put (D := D) (ci := 3) (v := .int (q11.2 - (1 : Int32))) (ty := .int) (C := RX2) (T := TX2) (N := 5) hx hb hts hiX2 tyX2 tyX2_ok nmX2 hown hK hP hD hS 5 rfl rfl 4 (by decide) fl19 (fun _ h9 => h9) rfl (by decide +kernel) rfl rfl (Nat.le_of_ble_eq_true rfl) dX2_readLiteral_126 (fun H locs hP hD hS => ?_)
            have hP : va_P D vwCl (wC cI α gw gc gs ge gf cR cL cB (q11.2 - (1 : Int32)) SD RK RN RS RC RT LK LN q14.2.1 q14.2.2 US UB BB) H := hP
            have hD : va_D A (wC cI α gw gc gs ge gf cR cL cB (q11.2 - (1 : Int32)) SD RK RN RS RC RT LK LN q14.2.1 q14.2.2 US UB BB) := hD
            refine lv_iconst (v := (0 : Int32)) hx hb dX2_readLiteral_129 (by decide) ?_
            have e9 := Option.some.inj hf
            subst e9
            exact kI_ret S narrow_b0 hP hD hS dX2_readLiteral_130
        · have hf := it_f (fun h9 => h9 c12) hf
          refine lv_iconst (v := (0 : Int32)) hx hb dX2_readLiteral_99 (by decide) ?_
          have e9 := Option.some.inj hf
          subst e9
          exact kI_ret S narrow_b0 hP hD hS dX2_readLiteral_100
      · have hf := it_f (fun h9 => h9 c9) hf
        refine lv_iconst (v := (0 : Int32)) hx hb dX2_readLiteral_68 (by decide) ?_
        have e9 := Option.some.inj hf
        subst e9
        exact kI_ret S narrow_b0 hP hD hS dX2_readLiteral_69
  suffices hgo : ∀ (H : Heap) (locs : List Loc), va_P D vwCl (wC cI α gw gc gs ge gf cR cL cB pB SD RK RN RS RC RT LK LN LS LL US UB BB) H → va_D A (wC cI α gw gc gs ge gf cR cL cB pB SD RK RN RS RC RT LK LN LS LL US UB BB) → va_S A s.heap H locs → W p l e rm_X2_readLiteral s m args below meth c H locs 0 0 (MQ below (kQi D A (wC cI α gw gc gs ge gf cR cL cB res.2.1 SD RK RN RS RC RT LK LN res.2.2.1 res.2.2.2 US UB BB) res.1) args s 0 0 A) (F0 m 0 ls []) from hgo _ _ hP hD hS
  clear hP hD hS
  intro H locs hP hD hS
  refine lv_aload_n hx hb dX2_readLiteral_0 rfl (lv_at hl 0 rfl) ?_
  refine lv_dup hx hb dX2_readLiteral_1 rfl ?_
  refine va_get (D := D) (ci := 3) (v := .int pB) (C := RX2) (T := TX2) (N := 5) hx hb hts hiX2 hown hK hP 5 rfl rfl 4 (by decide) fl19 (fun _ h9 => h9) rfl dX2_readLiteral_2 ?_
  refine lv_iconst (v := (1 : Int32)) hx hb dX2_readLiteral_5 (by decide) ?_
  refine lv_iadd hx hb dX2_readLiteral_6 ?_
  refine va_put (D := D) (ci := 3) (v := .int (pB + (1 : Int32))) (ty := .int) (C := RX2) (T := TX2) (N := 5) hx hb hts hiX2 tyX2 tyX2_ok nmX2 hown hK hP hD hS 5 rfl rfl 4 (by decide) fl19 (fun _ h9 => h9) rfl (by decide +kernel) rfl rfl (Nat.le_of_ble_eq_true rfl) dX2_readLiteral_7 (fun H locs hP hD hS => ?_)
  have hP : va_P D vwCl (wC cI α gw gc gs ge gf cR cL cB (pB + (1 : Int32)) SD RK RN RS RC RT LK LN LS LL US UB BB) H := hP
  have hD : va_D A (wC cI α gw gc gs ge gf cR cL cB (pB + (1 : Int32)) SD RK RN RS RC RT LK LN LS LL US UB BB) := hD
  refine lv_aload_n hx hb dX2_readLiteral_10 rfl (lv_at hl 0 rfl) ?_
  refine lv_bipush (v := (43 : Int32)) hx hb dX2_readLiteral_11 (by decide) ?_
  obtain ⟨q1, hq1, hf⟩ := bnd hf
  refine kI_callV (As := [.int (43 : Int32)]) (rest := []) S hP hD hS (c_X2_isHere l D cI α gw gc gs ge gf cR cL cB (pB + (1 : Int32)) SD RK RN RS RC RT LK LN LS LL US UB BB (43 : Int32) q1 hq1) (cwV 1 hts gX2_readLiteral_X2_isHere rfl rfl rfl (by decide +kernel) ⟨Nat.le_of_ble_eq_true rfl, Nat.le_of_ble_eq_true rfl⟩) 5 rfl rfl rfl hl.1 rfl (Nat.le_of_ble_eq_true rfl) dX2_readLiteral_13 ⟨Nat.zero_le _, Nat.zero_le _⟩ (fun H locs hP hD hS => ?_)
  have hP : va_P D vwCl (wC cI α gw gc gs ge gf cR cL cB (pB + (1 : Int32)) SD RK RN RS RC RT LK LN LS LL US UB BB) H := hP
  have hD : va_D A (wC cI α gw gc gs ge gf cR cL cB (pB + (1 : Int32)) SD RK RN RS RC RT LK LN LS LL US UB BB) := hD
  refine lv_istore_n (lv' := [(2, .int q1), (0, .ref (α 5)), (1, .int x1)]) hx hb dX2_readLiteral_16 rfl hl (by decide) rfl (fun ls hl => ?_)
  refine lv_iload_n hx hb dX2_readLiteral_17 rfl (lv_at hl 0 rfl) ?_
  refine lv_if_ne (tgt := 32) hx hb dX2_readLiteral_18 (by decide) (fun c2 => ?_) (fun c2 => ?_)
  · have hf := it_t c2 hf
    exact w32 _ _ _ _ _ H locs ls hf hP hD hS (lv_sub hl [1, 2, 0] rfl)
  · have hf := it_f (fun h9 => h9 c2) hf
    refine lv_aload_n hx hb dX2_readLiteral_21 rfl (lv_at hl 1 rfl) ?_
    refine lv_bipush (v := (45 : Int32)) hx hb dX2_readLiteral_22 (by decide) ?_
    obtain ⟨q3, hq3, hf⟩ := bnd hf
    refine kI_callV (As := [.int (45 : Int32)]) (rest := []) S hP hD hS (c_X2_isHere l D cI α gw gc gs ge gf cR cL cB (pB + (1 : Int32)) SD RK RN RS RC RT LK LN LS LL US UB BB (45 : Int32) q3 hq3) (cwV 1 hts gX2_readLiteral_X2_isHere rfl rfl rfl (by decide +kernel) ⟨Nat.le_of_ble_eq_true rfl, Nat.le_of_ble_eq_true rfl⟩) 5 rfl rfl rfl hl.1 rfl (Nat.le_of_ble_eq_true rfl) dX2_readLiteral_24 ⟨Nat.zero_le _, Nat.zero_le _⟩ (fun H locs hP hD hS => ?_)
    have hP : va_P D vwCl (wC cI α gw gc gs ge gf cR cL cB (pB + (1 : Int32)) SD RK RN RS RC RT LK LN LS LL US UB BB) H := hP
    have hD : va_D A (wC cI α gw gc gs ge gf cR cL cB (pB + (1 : Int32)) SD RK RN RS RC RT LK LN LS LL US UB BB) := hD
    refine lv_if_ne (tgt := 32) hx hb dX2_readLiteral_27 (by decide) (fun c4 => ?_) (fun c4 => ?_)
    · have hf := it_t c4 hf
      exact w32 _ _ _ _ _ H locs ls hf hP hD hS (lv_sub hl [1, 2, 0] rfl)
    · have hf := it_f (fun h9 => h9 c4) hf
      refine lv_iconst (v := (0 : Int32)) hx hb dX2_readLiteral_30 (by decide) ?_
      have e9 := Option.some.inj hf
      subst e9
      exact kI_ret S narrow_b0 hP hD hS dX2_readLiteral_31
abbrev rm_X2_readLine : Room := { frames := 4, cells := 0, slots := 0, locals := 88 }
set_option maxHeartbeats 4000000 in
set_option maxRecDepth 100000 in
theorem c_X2_readLine (l : Launch) (D : va_G) (cI : ClassId) (α : Nat → Nat) (gw gc gs ge gf cR cL cB pB : Int32) (SD RK RN RS RC RT LK LN LS LL US UB BB : Nat → Int32) (F : Nat)  (res : Int32 × Int32 × Int32 × (Nat → Int32) × (Nat → Int32) × (Nat → Int32) × (Nat → Int32)) (hf : f_X2_readLine gc gs cB BB F cL pB LK LN LS LL = some res) : kI l yX2_readLine wsX2_readLine rm_X2_readLine D cI [.ref (α 5)] (wC cI α gw gc gs ge gf cR cL cB pB SD RK RN RS RC RT LK LN LS LL US UB BB) (wC cI α gw gc gs ge gf cR res.2.1 cB res.2.2.1 SD RK RN RS RC RT res.2.2.2.1 res.2.2.2.2.1 res.2.2.2.2.2.1 res.2.2.2.2.2.2 US UB BB) res.1 := by
  unfold f_X2_readLine at hf
  refine kI_of (cc := cX2_readLine) (maxL := 3) (ret := (some .boolean)) (by decide +kernel) rfl (Nat.le_of_ble_eq_true rfl) ?_
  intro p e s m args below meth c A ls S hP hD hS hl
  have S : kC p s m args meth c cX2_readLine 3 wsX2_readLine RX2 (some .boolean) D cI A := S
  have hx := S.1.1
  have hb := S.1.2.1
  have hml := S.1.2.2.1
  have hown : s.vm.findClass RX2 = some m.cls := S.1.2.2.2.1
  have hts := S.1.2.2.2.2
  have hK := S.2.2.2.1
  have hnk := S.2.2.2.2.1.2
  have hiX2 : ∀ w ∈ u_ws RX2 TX2 5, w ∈ wsX2_readLine := by decide +kernel
  have fl19 := hts (.fieldLink RX2 19 "ProofChecker$Reader" "place" "I") (by decide +kernel)
  have fl26 := hts (.fieldLink RX2 26 "ProofChecker$Reader" "lines" "LProofChecker$Lines;") (by decide +kernel)
  have hl : lv_has ls 3 [(0, .ref (α 5))] := hl
  have w62 : ∀ (cL : Int32) (pB : Int32) (LK : Nat → Int32) (LN : Nat → Int32) (LS : Nat → Int32) (LL : Nat → Int32) (H : Heap) (locs : List Loc) (ls : Array Slot), f_X2_readLine_J62 gc gs cB BB F cL pB LK LN LS LL = some res → va_P D vwCl (wC cI α gw gc gs ge gf cR cL cB pB SD RK RN RS RC RT LK LN LS LL US UB BB) H → va_D A (wC cI α gw gc gs ge gf cR cL cB pB SD RK RN RS RC RT LK LN LS LL US UB BB) → va_S A s.heap H locs → lv_has ls 3 [(0, .ref (α 5))] → W p l e rm_X2_readLine s m args below meth c H locs 0 0 (MQ below (kQi D A (wC cI α gw gc gs ge gf cR res.2.1 cB res.2.2.1 SD RK RN RS RC RT res.2.2.2.1 res.2.2.2.2.1 res.2.2.2.2.2.1 res.2.2.2.2.2.2 US UB BB) res.1) args s 0 0 A) (F0 m 62 ls []) := by
    intro cL pB LK LN LS LL H locs ls hf hP hD hS hl
    unfold f_X2_readLine_J62 at hf
    refine lv_aload_n hx hb dX2_readLine_62 rfl (lv_at hl 0 rfl) ?_
    refine lv_bipush (v := (59 : Int32)) hx hb dX2_readLine_63 (by decide) ?_
    obtain ⟨q11, hq11, hf⟩ := bnd hf
    refine kI_callV (As := [.int (59 : Int32)]) (rest := []) S hP hD hS (c_X2_isHere l D cI α gw gc gs ge gf cR cL cB pB SD RK RN RS RC RT LK LN LS LL US UB BB (59 : Int32) q11 hq11) (cwV 1 hts gX2_readLine_X2_isHere rfl rfl rfl (by decide +kernel) ⟨Nat.le_of_ble_eq_true rfl, Nat.le_of_ble_eq_true rfl⟩) 5 rfl rfl rfl hl.1 rfl (Nat.le_of_ble_eq_true rfl) dX2_readLine_65 ⟨Nat.zero_le _, Nat.zero_le _⟩ (fun H locs hP hD hS => ?_)
    have hP : va_P D vwCl (wC cI α gw gc gs ge gf cR cL cB pB SD RK RN RS RC RT LK LN LS LL US UB BB) H := hP
    have hD : va_D A (wC cI α gw gc gs ge gf cR cL cB pB SD RK RN RS RC RT LK LN LS LL US UB BB) := hD
    refine lv_if_eq (tgt := 81) hx hb dX2_readLine_68 (by decide) (fun c12 => ?_) (fun c12 => ?_)
    · have hf := it_t c12 hf
      refine lv_iconst (v := (0 : Int32)) hx hb dX2_readLine_81 (by decide) ?_
      have e9 := Option.some.inj hf
      subst e9
      exact kI_ret S narrow_b0 hP hD hS dX2_readLine_82
    · have hf := it_f c12 hf
      refine lv_aload_n hx hb dX2_readLine_71 rfl (lv_at hl 0 rfl) ?_
      refine va_get (D := D) (ci := 3) (v := .ref (α 3)) (C := RX2) (T := TX2) (N := 5) hx hb hts hiX2 hown hK hP 5 rfl rfl 1 (by decide) fl26 (fun _ h9 => h9) rfl dX2_readLine_72 ?_
      obtain ⟨q13, hq13, hf⟩ := bnd hf
      refine kI_callV (As := []) (rest := []) S hP hD hS (c_X1_keepDraft l D cI α gw gc gs ge gf cR cL cB pB SD RK RN RS RC RT LK LN LS LL US UB BB q13 hq13) (cwV 0 hts gX2_readLine_X1_keepDraft rfl rfl rfl (by decide +kernel) ⟨Nat.le_of_ble_eq_true rfl, Nat.le_of_ble_eq_true rfl⟩) 3 rfl rfl rfl hl.1 rfl (Nat.le_of_ble_eq_true rfl) dX2_readLine_75 ⟨Nat.zero_le _, Nat.zero_le _⟩ (fun H locs hP hD hS => ?_)
      have hP : va_P D vwCl (wC cI α gw gc gs ge gf cR q13.2 cB pB SD RK RN RS RC RT LK LN LS LL US UB BB) H := hP
      have hD : va_D A (wC cI α gw gc gs ge gf cR q13.2 cB pB SD RK RN RS RC RT LK LN LS LL US UB BB) := hD
      refine lv_if_ne (tgt := 83) hx hb dX2_readLine_78 (by decide) (fun c14 => ?_) (fun c14 => ?_)
      · have hf := it_t c14 hf
        refine lv_aload_n hx hb dX2_readLine_83 rfl (lv_at hl 0 rfl) ?_
        refine lv_dup hx hb dX2_readLine_84 rfl ?_
        refine va_get (D := D) (ci := 3) (v := .int pB) (C := RX2) (T := TX2) (N := 5) hx hb hts hiX2 hown hK hP 5 rfl rfl 4 (by decide) fl19 (fun _ h9 => h9) rfl dX2_readLine_85 ?_
        refine lv_iconst (v := (1 : Int32)) hx hb dX2_readLine_88 (by decide) ?_
        refine lv_iadd hx hb dX2_readLine_89 ?_
        refine va_put (D := D) (ci := 3) (v := .int (pB + (1 : Int32))) (ty := .int) (C := RX2) (T := TX2) (N := 5) hx hb hts hiX2 tyX2 tyX2_ok nmX2 hown hK hP hD hS 5 rfl rfl 4 (by decide) fl19 (fun _ h9 => h9) rfl (by decide +kernel) rfl rfl (Nat.le_of_ble_eq_true rfl) dX2_readLine_90 (fun H locs hP hD hS => ?_)
        have hP : va_P D vwCl (wC cI α gw gc gs ge gf cR q13.2 cB (pB + (1 : Int32)) SD RK RN RS RC RT LK LN LS LL US UB BB) H := hP
        have hD : va_D A (wC cI α gw gc gs ge gf cR q13.2 cB (pB + (1 : Int32)) SD RK RN RS RC RT LK LN LS LL US UB BB) := hD
        refine lv_iconst (v := (1 : Int32)) hx hb dX2_readLine_93 (by decide) ?_
        have e9 := Option.some.inj hf
        subst e9
        exact kI_ret S narrow_b1 hP hD hS dX2_readLine_94
      · have hf := it_f (fun h9 => h9 c14) hf
        refine lv_iconst (v := (0 : Int32)) hx hb dX2_readLine_81 (by decide) ?_
        have e9 := Option.some.inj hf
        subst e9
        exact kI_ret S narrow_b0 hP hD hS dX2_readLine_82
  have w19 : ∀ (n : Nat), ∀ (x1 : Int32) (x2 : Int32) (cL : Int32) (pB : Int32) (LK : Nat → Int32) (LN : Nat → Int32) (LS : Nat → Int32) (LL : Nat → Int32) (H : Heap) (locs : List Loc) (ls : Array Slot), f_X2_readLine_L19 gc gs cB BB F n x1 x2 cL pB LK LN LS LL = some res → va_P D vwCl (wC cI α gw gc gs ge gf cR cL cB pB SD RK RN RS RC RT LK LN LS LL US UB BB) H → va_D A (wC cI α gw gc gs ge gf cR cL cB pB SD RK RN RS RC RT LK LN LS LL US UB BB) → va_S A s.heap H locs → lv_has ls 3 [(0, .ref (α 5)), (1, .int x1), (2, .int x2)] → W p l e rm_X2_readLine s m args below meth c H locs 0 0 (MQ below (kQi D A (wC cI α gw gc gs ge gf cR res.2.1 cB res.2.2.1 SD RK RN RS RC RT res.2.2.2.1 res.2.2.2.2.1 res.2.2.2.2.2.1 res.2.2.2.2.2.2 US UB BB) res.1) args s 0 0 A) (F0 m 19 ls []) := by
    intro n
    induction n with
    | zero => intro x1 x2 cL pB LK LN LS LL H locs ls hf; cases hf
    | succ n ih =>
      intro x1 x2 cL pB LK LN LS LL H locs ls hf hP hD hS hl
      rw [f_X2_readLine_L19.eq_2] at hf
      refine lv_iload_n hx hb dX2_readLine_19 rfl (lv_at hl 2 rfl) ?_
      refine lv_sipush (v := (300 : Int32)) hx hb dX2_readLine_20 (by decide) ?_
      refine lv_icmp_ge (tgt := 62) hx hb dX2_readLine_23 (by decide) (fun c4 => ?_) (fun c4 => ?_)
      · have hf := it_t c4 hf
        exact w62 _ _ _ _ _ _ H locs ls hf hP hD hS (lv_sub hl [0] rfl)
      · have hf := it_f c4 hf
        refine lv_aload_n hx hb dX2_readLine_26 rfl (lv_at hl 0 rfl) ?_
        refine lv_bipush (v := (32 : Int32)) hx hb dX2_readLine_27 (by decide) ?_
        obtain ⟨q5, hq5, hf⟩ := bnd hf
        refine kI_callV (As := [.int (32 : Int32)]) (rest := []) S hP hD hS (c_X2_isHere l D cI α gw gc gs ge gf cR cL cB pB SD RK RN RS RC RT LK LN LS LL US UB BB (32 : Int32) q5 hq5) (cwV 1 hts gX2_readLine_X2_isHere rfl rfl rfl (by decide +kernel) ⟨Nat.le_of_ble_eq_true rfl, Nat.le_of_ble_eq_true rfl⟩) 5 rfl rfl rfl hl.1 rfl (Nat.le_of_ble_eq_true rfl) dX2_readLine_29 ⟨Nat.zero_le _, Nat.zero_le _⟩ (fun H locs hP hD hS => ?_)
        have hP : va_P D vwCl (wC cI α gw gc gs ge gf cR cL cB pB SD RK RN RS RC RT LK LN LS LL US UB BB) H := hP
        have hD : va_D A (wC cI α gw gc gs ge gf cR cL cB pB SD RK RN RS RC RT LK LN LS LL US UB BB) := hD
        refine lv_if_eq (tgt := 62) hx hb dX2_readLine_32 (by decide) (fun c6 => ?_) (fun c6 => ?_)
        · have hf := it_t c6 hf
          exact w62 _ _ _ _ _ _ H locs ls hf hP hD hS (lv_sub hl [0] rfl)
        · have hf := it_f c6 hf
          refine lv_aload_n hx hb dX2_readLine_35 rfl (lv_at hl 0 rfl) ?_
          refine va_get (D := D) (ci := 3) (v := .ref (α 3)) (C := RX2) (T := TX2) (N := 5) hx hb hts hiX2 hown hK hP 5 rfl rfl 1 (by decide) fl26 (fun _ h9 => h9) rfl dX2_readLine_36 ?_
          refine lv_iload_n hx hb dX2_readLine_39 rfl (lv_at hl 1 rfl) ?_
          obtain ⟨q7, hq7, hf⟩ := bnd hf
          refine kI_callV (As := [.int x1]) (rest := []) S hP hD hS (c_X1_isFullOfLiterals l D cI α gw gc gs ge gf cR cL cB pB SD RK RN RS RC RT LK LN LS LL US UB BB x1 q7 hq7) (cwV 1 hts gX2_readLine_X1_isFullOfLiterals rfl rfl rfl (by decide +kernel) ⟨Nat.le_of_ble_eq_true rfl, Nat.le_of_ble_eq_true rfl⟩) 3 rfl rfl rfl hl.1 rfl (Nat.le_of_ble_eq_true rfl) dX2_readLine_40 ⟨Nat.zero_le _, Nat.zero_le _⟩ (fun H locs hP hD hS => ?_)
          have hP : va_P D vwCl (wC cI α gw gc gs ge gf cR cL cB pB SD RK RN RS RC RT LK LN LS LL US UB BB) H := hP
          have hD : va_D A (wC cI α gw gc gs ge gf cR cL cB pB SD RK RN RS RC RT LK LN LS LL US UB BB) := hD
          refine lv_if_ne (tgt := 54) hx hb dX2_readLine_43 (by decide) (fun c8 => ?_) (fun c8 => ?_)
          · have hf := it_t c8 hf
            refine lv_iconst (v := (0 : Int32)) hx hb dX2_readLine_54 (by decide) ?_
            have e9 := Option.some.inj hf
            subst e9
            exact kI_ret S narrow_b0 hP hD hS dX2_readLine_55
          · have hf := it_f (fun h9 => h9 c8) hf
            refine lv_aload_n hx hb dX2_readLine_46 rfl (lv_at hl 0 rfl) ?_
            refine lv_iload_n hx hb dX2_readLine_47 rfl (lv_at hl 1 rfl) ?_
            obtain ⟨q9, hq9, hf⟩ := bnd hf
            refine kI_callV (As := [.int x1]) (rest := []) S hP hD hS (c_X2_readLiteral l D cI α gw gc gs ge gf cR cL cB pB SD RK RN RS RC RT LK LN LS LL US UB BB F x1 q9 hq9) (cwV 1 hts gX2_readLine_X2_readLiteral rfl rfl rfl (by decide +kernel) ⟨Nat.le_of_ble_eq_true rfl, Nat.le_of_ble_eq_true rfl⟩) 5 rfl rfl rfl hl.1 rfl (Nat.le_of_ble_eq_true rfl) dX2_readLine_48 ⟨Nat.zero_le _, Nat.zero_le _⟩ (fun H locs hP hD hS => ?_)
            have hP : va_P D vwCl (wC cI α gw gc gs ge gf cR cL cB q9.2.1 SD RK RN RS RC RT LK LN q9.2.2.1 q9.2.2.2 US UB BB) H := hP
            have hD : va_D A (wC cI α gw gc gs ge gf cR cL cB q9.2.1 SD RK RN RS RC RT LK LN q9.2.2.1 q9.2.2.2 US UB BB) := hD
            refine lv_if_ne (tgt := 56) hx hb dX2_readLine_51 (by decide) (fun c10 => ?_) (fun c10 => ?_)
            · have hf := it_t c10 hf
              refine lv_iinc (v := (x2 + (1 : Int32))) (lv' := [(2, .int (x2 + (1 : Int32))), (0, .ref (α 5)), (1, .int x1)]) hx hb dX2_readLine_56 hl (k := 2) rfl rfl (by decide) rfl (fun ls hl => ?_)
              refine lv_goto (tgt := 19) hx hb dX2_readLine_59 (by decide) ?_
              exact ih _ _ _ _ _ _ _ _ H locs ls hf hP hD hS (lv_sub hl [1, 2, 0] rfl)
            · have hf := it_f (fun h9 => h9 c10) hf
              refine lv_iconst (v := (0 : Int32)) hx hb dX2_readLine_54 (by decide) ?_
              have e9 := Option.some.inj hf
              subst e9
              exact kI_ret S narrow_b0 hP hD hS dX2_readLine_55
  suffices hgo : ∀ (H : Heap) (locs : List Loc), va_P D vwCl (wC cI α gw gc gs ge gf cR cL cB pB SD RK RN RS RC RT LK LN LS LL US UB BB) H → va_D A (wC cI α gw gc gs ge gf cR cL cB pB SD RK RN RS RC RT LK LN LS LL US UB BB) → va_S A s.heap H locs → W p l e rm_X2_readLine s m args below meth c H locs 0 0 (MQ below (kQi D A (wC cI α gw gc gs ge gf cR res.2.1 cB res.2.2.1 SD RK RN RS RC RT res.2.2.2.1 res.2.2.2.2.1 res.2.2.2.2.2.1 res.2.2.2.2.2.2 US UB BB) res.1) args s 0 0 A) (F0 m 0 ls []) from hgo _ _ hP hD hS
  clear hP hD hS
  intro H locs hP hD hS
  refine lv_aload_n hx hb dX2_readLine_0 rfl (lv_at hl 0 rfl) ?_
  obtain ⟨q1, hq1, hf⟩ := bnd hf
  refine kI_callV (As := []) (rest := []) S hP hD hS (c_X2_readHead l D cI α gw gc gs ge gf cR cL cB pB SD RK RN RS RC RT LK LN LS LL US UB BB q1 hq1) (cwV 0 hts gX2_readLine_X2_readHead rfl rfl rfl (by decide +kernel) ⟨Nat.le_of_ble_eq_true rfl, Nat.le_of_ble_eq_true rfl⟩) 5 rfl rfl rfl hl.1 rfl (Nat.le_of_ble_eq_true rfl) dX2_readLine_1 ⟨Nat.zero_le _, Nat.zero_le _⟩ (fun H locs hP hD hS => ?_)
  have hP : va_P D vwCl (wC cI α gw gc gs ge gf cR cL cB q1.2.1 SD RK RN RS RC RT q1.2.2.1 q1.2.2.2.1 q1.2.2.2.2 LL US UB BB) H := hP
  have hD : va_D A (wC cI α gw gc gs ge gf cR cL cB q1.2.1 SD RK RN RS RC RT q1.2.2.1 q1.2.2.2.1 q1.2.2.2.2 LL US UB BB) := hD
  refine lv_if_ne (tgt := 9) hx hb dX2_readLine_4 (by decide) (fun c2 => ?_) (fun c2 => ?_)
  · have hf := it_t c2 hf
    refine lv_aload_n hx hb dX2_readLine_9 rfl (lv_at hl 0 rfl) ?_
    refine va_get (D := D) (ci := 3) (v := .ref (α 3)) (C := RX2) (T := TX2) (N := 5) hx hb hts hiX2 hown hK hP 5 rfl rfl 1 (by decide) fl26 (fun _ h9 => h9) rfl dX2_readLine_10 ?_
    obtain ⟨q3, hq3, hf⟩ := bnd hf
    refine kI_callV (As := []) (rest := []) S hP hD hS (c_X1_count l D cI α gw gc gs ge gf cR cL cB q1.2.1 SD RK RN RS RC RT q1.2.2.1 q1.2.2.2.1 q1.2.2.2.2 LL US UB BB q3 hq3) (cwV 0 hts gX2_readLine_X1_count rfl rfl rfl (by decide +kernel) ⟨Nat.le_of_ble_eq_true rfl, Nat.le_of_ble_eq_true rfl⟩) 3 rfl rfl rfl hl.1 rfl (Nat.le_of_ble_eq_true rfl) dX2_readLine_13 ⟨Nat.zero_le _, Nat.zero_le _⟩ (fun H locs hP hD hS => ?_)
    have hP : va_P D vwCl (wC cI α gw gc gs ge gf cR cL cB q1.2.1 SD RK RN RS RC RT q1.2.2.1 q1.2.2.2.1 q1.2.2.2.2 LL US UB BB) H := hP
    have hD : va_D A (wC cI α gw gc gs ge gf cR cL cB q1.2.1 SD RK RN RS RC RT q1.2.2.1 q1.2.2.2.1 q1.2.2.2.2 LL US UB BB) := hD
    refine lv_istore_n (lv' := [(1, .int q3), (0, .ref (α 5))]) hx hb dX2_readLine_16 rfl hl (by decide) rfl (fun ls hl => ?_)
    refine lv_iconst (v := (0 : Int32)) hx hb dX2_readLine_17 (by decide) ?_
    refine lv_istore_n (lv' := [(2, .int (0 : Int32)), (1, .int q3), (0, .ref (α 5))]) hx hb dX2_readLine_18 rfl hl (by decide) rfl (fun ls hl => ?_)
    exact w19 F _ _ _ _ _ _ _ _ H locs ls hf hP hD hS (lv_sub hl [2, 1, 0] rfl)
  · have hf := it_f (fun h9 => h9 c2) hf
    refine lv_iconst (v := (0 : Int32)) hx hb dX2_readLine_7 (by decide) ?_
    have e9 := Option.some.inj hf
    subst e9
    exact kI_ret S narrow_b0 hP hD hS dX2_readLine_8
abbrev rm_X2_readAll : Room := { frames := 5, cells := 0, slots := 0, locals := 110 }
set_option maxHeartbeats 4000000 in
set_option maxRecDepth 100000 in
theorem c_X2_readAll (l : Launch) (D : va_G) (cI : ClassId) (α : Nat → Nat) (gw gc gs ge gf cR cL cB pB : Int32) (SD RK RN RS RC RT LK LN LS LL US UB BB : Nat → Int32) (F : Nat)  (res : Int32 × Int32 × Int32 × Int32 × (Nat → Int32) × (Nat → Int32) × (Nat → Int32) × (Nat → Int32)) (hf : f_X2_readAll gc gs BB F cL cB pB LK LN LS LL = some res) : kI l yX2_readAll wsX2_readAll rm_X2_readAll D cI [.ref (α 5)] (wC cI α gw gc gs ge gf cR cL cB pB SD RK RN RS RC RT LK LN LS LL US UB BB) (wC cI α gw gc gs ge gf cR res.2.1 res.2.2.1 res.2.2.2.1 SD RK RN RS RC RT res.2.2.2.2.1 res.2.2.2.2.2.1 res.2.2.2.2.2.2.1 res.2.2.2.2.2.2.2 US UB BB) res.1 := by
  unfold f_X2_readAll at hf
  refine kI_of (cc := cX2_readAll) (maxL := 4) (ret := (some .int)) (by decide +kernel) rfl (Nat.le_of_ble_eq_true rfl) ?_
  intro p e s m args below meth c A ls S hP hD hS hl
  have S : kC p s m args meth c cX2_readAll 4 wsX2_readAll RX2 (some .int) D cI A := S
  have hx := S.1.1
  have hb := S.1.2.1
  have hml := S.1.2.2.1
  have hown : s.vm.findClass RX2 = some m.cls := S.1.2.2.2.1
  have hts := S.1.2.2.2.2
  have hK := S.2.2.2.1
  have hnk := S.2.2.2.2.1.2
  have hiX2 : ∀ w ∈ u_ws RX2 TX2 5, w ∈ wsX2_readAll := by decide +kernel
  have fl15 := hts (.fieldLink RX2 15 "ProofChecker$Reader" "count" "I") (by decide +kernel)
  have fl19 := hts (.fieldLink RX2 19 "ProofChecker$Reader" "place" "I") (by decide +kernel)
  have fl26 := hts (.fieldLink RX2 26 "ProofChecker$Reader" "lines" "LProofChecker$Lines;") (by decide +kernel)
  have hl : lv_has ls 4 [(0, .ref (α 5))] := hl
  have w50 : ∀ (x1 : Int32) (x2 : Int32) (cL : Int32) (cB : Int32) (pB : Int32) (LK : Nat → Int32) (LN : Nat → Int32) (LS : Nat → Int32) (LL : Nat → Int32) (H : Heap) (locs : List Loc) (ls : Array Slot), f_X2_readAll_J50 gc gs BB F x1 x2 cL cB pB LK LN LS LL = some res → va_P D vwCl (wC cI α gw gc gs ge gf cR cL cB pB SD RK RN RS RC RT LK LN LS LL US UB BB) H → va_D A (wC cI α gw gc gs ge gf cR cL cB pB SD RK RN RS RC RT LK LN LS LL US UB BB) → va_S A s.heap H locs → lv_has ls 4 [(0, .ref (α 5)), (1, .int x1), (2, .int x2)] → W p l e rm_X2_readAll s m args below meth c H locs 0 0 (MQ below (kQi D A (wC cI α gw gc gs ge gf cR res.2.1 res.2.2.1 res.2.2.2.1 SD RK RN RS RC RT res.2.2.2.2.1 res.2.2.2.2.2.1 res.2.2.2.2.2.2.1 res.2.2.2.2.2.2.2 US UB BB) res.1) args s 0 0 A) (F0 m 50 ls []) := by
    intro x1 x2 cL cB pB LK LN LS LL H locs ls hf hP hD hS hl
    unfold f_X2_readAll_J50 at hf
    refine lv_aload_n hx hb dX2_readAll_50 rfl (lv_at hl 0 rfl) ?_
    refine lv_iconst (v := (0 : Int32)) hx hb dX2_readAll_51 (by decide) ?_
    refine va_put (D := D) (ci := 3) (v := .int (0 : Int32)) (ty := .int) (C := RX2) (T := TX2) (N := 5) hx hb hts hiX2 tyX2 tyX2_ok nmX2 hown hK hP hD hS 5 rfl rfl 3 (by decide) fl15 (fun _ h9 => h9) rfl (by decide +kernel) rfl rfl (Nat.le_of_ble_eq_true rfl) dX2_readAll_52 (fun H locs hP hD hS => ?_)
    have hP : va_P D vwCl (wC cI α gw gc gs ge gf cR cL (0 : Int32) pB SD RK RN RS RC RT LK LN LS LL US UB BB) H := hP
    have hD : va_D A (wC cI α gw gc gs ge gf cR cL (0 : Int32) pB SD RK RN RS RC RT LK LN LS LL US UB BB) := hD
    refine lv_iload_n hx hb dX2_readAll_55 rfl (lv_at hl 2 rfl) ?_
    refine lv_if_ne (tgt := 74) hx hb dX2_readAll_56 (by decide) (fun c6 => ?_) (fun c6 => ?_)
    · have hf := it_t c6 hf
      refine lv_aload_n hx hb dX2_readAll_74 rfl (lv_at hl 0 rfl) ?_
      refine va_get (D := D) (ci := 3) (v := .ref (α 3)) (C := RX2) (T := TX2) (N := 5) hx hb hts hiX2 hown hK hP 5 rfl rfl 1 (by decide) fl26 (fun _ h9 => h9) rfl dX2_readAll_75 ?_
      obtain ⟨q7, hq7, hf⟩ := bnd hf
      refine kI_callV (As := []) (rest := []) S hP hD hS (c_X1_count l D cI α gw gc gs ge gf cR cL (0 : Int32) pB SD RK RN RS RC RT LK LN LS LL US UB BB q7 hq7) (cwV 0 hts gX2_readAll_X1_count rfl rfl rfl (by decide +kernel) ⟨Nat.le_of_ble_eq_true rfl, Nat.le_of_ble_eq_true rfl⟩) 3 rfl rfl rfl hl.1 rfl (Nat.le_of_ble_eq_true rfl) dX2_readAll_78 ⟨Nat.zero_le _, Nat.zero_le _⟩ (fun H locs hP hD hS => ?_)
      have hP : va_P D vwCl (wC cI α gw gc gs ge gf cR cL (0 : Int32) pB SD RK RN RS RC RT LK LN LS LL US UB BB) H := hP
      have hD : va_D A (wC cI α gw gc gs ge gf cR cL (0 : Int32) pB SD RK RN RS RC RT LK LN LS LL US UB BB) := hD
      refine lv_iload_n hx hb dX2_readAll_81 rfl (lv_at hl 1 rfl) ?_
      refine lv_isub hx hb dX2_readAll_82 ?_
      have e9 := Option.some.inj hf
      subst e9
      exact kI_ret S rfl hP hD hS dX2_readAll_83
    · have hf := it_f (fun h9 => h9 c6) hf
      refine lv_aload_n hx hb dX2_readAll_59 rfl (lv_at hl 0 rfl) ?_
      refine va_get (D := D) (ci := 3) (v := .ref (α 3)) (C := RX2) (T := TX2) (N := 5) hx hb hts hiX2 hown hK hP 5 rfl rfl 1 (by decide) fl26 (fun _ h9 => h9) rfl dX2_readAll_60 ?_
      refine lv_iload_n hx hb dX2_readAll_63 rfl (lv_at hl 1 rfl) ?_
      obtain ⟨q8, hq8, hf⟩ := bnd hf
      refine kV_callV (As := [.int x1]) (rest := []) S hP hD hS (c_X1_cutTo l D cI α gw gc gs ge gf cR cL (0 : Int32) pB SD RK RN RS RC RT LK LN LS LL US UB BB x1 q8 hq8) (cwV 1 hts gX2_readAll_X1_cutTo rfl rfl rfl (by decide +kernel) ⟨Nat.le_of_ble_eq_true rfl, Nat.le_of_ble_eq_true rfl⟩) 3 rfl rfl rfl hl.1 rfl (Nat.le_of_ble_eq_true rfl) dX2_readAll_64 ⟨Nat.zero_le _, Nat.zero_le _⟩ (fun H locs hP hD hS => ?_)
      have hP : va_P D vwCl (wC cI α gw gc gs ge gf cR q8 (0 : Int32) pB SD RK RN RS RC RT LK LN LS LL US UB BB) H := hP
      have hD : va_D A (wC cI α gw gc gs ge gf cR q8 (0 : Int32) pB SD RK RN RS RC RT LK LN LS LL US UB BB) := hD
      refine lv_iconst (v := (-1 : Int32)) hx hb dX2_readAll_67 (by decide) ?_
      refine lv_aload_n hx hb dX2_readAll_68 rfl (lv_at hl 0 rfl) ?_
      refine va_get (D := D) (ci := 3) (v := .int pB) (C := RX2) (T := TX2) (N := 5) hx hb hts hiX2 hown hK hP 5 rfl rfl 4 (by decide) fl19 (fun _ h9 => h9) rfl dX2_readAll_69 ?_
      refine lv_isub hx hb dX2_readAll_72 ?_
      have e9 := Option.some.inj hf
      subst e9
      exact kI_ret S rfl hP hD hS dX2_readAll_73
  have w17 : ∀ (n : Nat), ∀ (x1 : Int32) (x2 : Int32) (x3 : Int32) (cL : Int32) (cB : Int32) (pB : Int32) (LK : Nat → Int32) (LN : Nat → Int32) (LS : Nat → Int32) (LL : Nat → Int32) (H : Heap) (locs : List Loc) (ls : Array Slot), f_X2_readAll_L17 gc gs BB F n x1 x2 x3 cL cB pB LK LN LS LL = some res → va_P D vwCl (wC cI α gw gc gs ge gf cR cL cB pB SD RK RN RS RC RT LK LN LS LL US UB BB) H → va_D A (wC cI α gw gc gs ge gf cR cL cB pB SD RK RN RS RC RT LK LN LS LL US UB BB) → va_S A s.heap H locs → lv_has ls 4 [(0, .ref (α 5)), (1, .int x1), (2, .int x2), (3, .int x3)] → W p l e rm_X2_readAll s m args below meth c H locs 0 0 (MQ below (kQi D A (wC cI α gw gc gs ge gf cR res.2.1 res.2.2.1 res.2.2.2.1 SD RK RN RS RC RT res.2.2.2.2.1 res.2.2.2.2.2.1 res.2.2.2.2.2.2.1 res.2.2.2.2.2.2.2 US UB BB) res.1) args s 0 0 A) (F0 m 17 ls []) := by
    intro n
    induction n with
    | zero => intro x1 x2 x3 cL cB pB LK LN LS LL H locs ls hf; cases hf
    | succ n ih =>
      intro x1 x2 x3 cL cB pB LK LN LS LL H locs ls hf hP hD hS hl
      rw [f_X2_readAll_L17.eq_2] at hf
      refine lv_iload_n hx hb dX2_readAll_17 rfl (lv_at hl 3 rfl) ?_
      refine lv_sipush (v := (300 : Int32)) hx hb dX2_readAll_18 (by decide) ?_
      refine lv_icmp_ge (tgt := 50) hx hb dX2_readAll_21 (by decide) (fun c2 => ?_) (fun c2 => ?_)
      · have hf := it_t c2 hf
        exact w50 _ _ _ _ _ _ _ _ _ H locs ls hf hP hD hS (lv_sub hl [0, 1, 2] rfl)
      · have hf := it_f c2 hf
        refine lv_iload_n hx hb dX2_readAll_24 rfl (lv_at hl 2 rfl) ?_
        refine lv_if_eq (tgt := 50) hx hb dX2_readAll_25 (by decide) (fun c3 => ?_) (fun c3 => ?_)
        · have hf := it_t c3 hf
          exact w50 _ _ _ _ _ _ _ _ _ H locs ls hf hP hD hS (lv_sub hl [0, 1, 2] rfl)
        · have hf := it_f c3 hf
          refine lv_aload_n hx hb dX2_readAll_28 rfl (lv_at hl 0 rfl) ?_
          refine va_get (D := D) (ci := 3) (v := .int pB) (C := RX2) (T := TX2) (N := 5) hx hb hts hiX2 hown hK hP 5 rfl rfl 4 (by decide) fl19 (fun _ h9 => h9) rfl dX2_readAll_29 ?_
          refine lv_aload_n hx hb dX2_readAll_32 rfl (lv_at hl 0 rfl) ?_
          refine va_get (D := D) (ci := 3) (v := .int cB) (C := RX2) (T := TX2) (N := 5) hx hb hts hiX2 hown hK hP 5 rfl rfl 3 (by decide) fl15 (fun _ h9 => h9) rfl dX2_readAll_33 ?_
          refine lv_icmp_ge (tgt := 50) hx hb dX2_readAll_36 (by decide) (fun c4 => ?_) (fun c4 => ?_)
          · have hf := it_t c4 hf
            exact w50 _ _ _ _ _ _ _ _ _ H locs ls hf hP hD hS (lv_sub hl [0, 1, 2] rfl)
          · have hf := it_f c4 hf
            refine lv_aload_n hx hb dX2_readAll_39 rfl (lv_at hl 0 rfl) ?_
            obtain ⟨q5, hq5, hf⟩ := bnd hf
            refine kI_callV (As := []) (rest := []) S hP hD hS (c_X2_readLine l D cI α gw gc gs ge gf cR cL cB pB SD RK RN RS RC RT LK LN LS LL US UB BB F q5 hq5) (cwV 0 hts gX2_readAll_X2_readLine rfl rfl rfl (by decide +kernel) ⟨Nat.le_of_ble_eq_true rfl, Nat.le_of_ble_eq_true rfl⟩) 5 rfl rfl rfl hl.1 rfl (Nat.le_of_ble_eq_true rfl) dX2_readAll_40 ⟨Nat.zero_le _, Nat.zero_le _⟩ (fun H locs hP hD hS => ?_)
            have hP : va_P D vwCl (wC cI α gw gc gs ge gf cR q5.2.1 cB q5.2.2.1 SD RK RN RS RC RT q5.2.2.2.1 q5.2.2.2.2.1 q5.2.2.2.2.2.1 q5.2.2.2.2.2.2 US UB BB) H := hP
            have hD : va_D A (wC cI α gw gc gs ge gf cR q5.2.1 cB q5.2.2.1 SD RK RN RS RC RT q5.2.2.2.1 q5.2.2.2.2.1 q5.2.2.2.2.2.1 q5.2.2.2.2.2.2 US UB BB) := hD
            refine lv_istore_n (lv' := [(2, .int q5.1), (0, .ref (α 5)), (1, .int x1), (3, .int x3)]) hx hb dX2_readAll_43 rfl hl (by decide) rfl (fun ls hl => ?_)
            refine lv_iinc (v := (x3 + (1 : Int32))) (lv' := [(3, .int (x3 + (1 : Int32))), (2, .int q5.1), (0, .ref (α 5)), (1, .int x1)]) hx hb dX2_readAll_44 hl (k := 3) rfl rfl (by decide) rfl (fun ls hl => ?_)
            refine lv_goto (tgt := 17) hx hb dX2_readAll_47 (by decide) ?_
            exact ih _ _ _ _ _ _ _ _ _ _ H locs ls hf hP hD hS (lv_sub hl [2, 3, 1, 0] rfl)
  suffices hgo : ∀ (H : Heap) (locs : List Loc), va_P D vwCl (wC cI α gw gc gs ge gf cR cL cB pB SD RK RN RS RC RT LK LN LS LL US UB BB) H → va_D A (wC cI α gw gc gs ge gf cR cL cB pB SD RK RN RS RC RT LK LN LS LL US UB BB) → va_S A s.heap H locs → W p l e rm_X2_readAll s m args below meth c H locs 0 0 (MQ below (kQi D A (wC cI α gw gc gs ge gf cR res.2.1 res.2.2.1 res.2.2.2.1 SD RK RN RS RC RT res.2.2.2.2.1 res.2.2.2.2.2.1 res.2.2.2.2.2.2.1 res.2.2.2.2.2.2.2 US UB BB) res.1) args s 0 0 A) (F0 m 0 ls []) from hgo _ _ hP hD hS
  clear hP hD hS
  intro H locs hP hD hS
  refine lv_aload_n hx hb dX2_readAll_0 rfl (lv_at hl 0 rfl) ?_
  refine va_get (D := D) (ci := 3) (v := .ref (α 3)) (C := RX2) (T := TX2) (N := 5) hx hb hts hiX2 hown hK hP 5 rfl rfl 1 (by decide) fl26 (fun _ h9 => h9) rfl dX2_readAll_1 ?_
  obtain ⟨q1, hq1, hf⟩ := bnd hf
  refine kI_callV (As := []) (rest := []) S hP hD hS (c_X1_count l D cI α gw gc gs ge gf cR cL cB pB SD RK RN RS RC RT LK LN LS LL US UB BB q1 hq1) (cwV 0 hts gX2_readAll_X1_count rfl rfl rfl (by decide +kernel) ⟨Nat.le_of_ble_eq_true rfl, Nat.le_of_ble_eq_true rfl⟩) 3 rfl rfl rfl hl.1 rfl (Nat.le_of_ble_eq_true rfl) dX2_readAll_4 ⟨Nat.zero_le _, Nat.zero_le _⟩ (fun H locs hP hD hS => ?_)
  have hP : va_P D vwCl (wC cI α gw gc gs ge gf cR cL cB pB SD RK RN RS RC RT LK LN LS LL US UB BB) H := hP
  have hD : va_D A (wC cI α gw gc gs ge gf cR cL cB pB SD RK RN RS RC RT LK LN LS LL US UB BB) := hD
  refine lv_istore_n (lv' := [(1, .int q1), (0, .ref (α 5))]) hx hb dX2_readAll_7 rfl hl (by decide) rfl (fun ls hl => ?_)
  refine lv_iconst (v := (1 : Int32)) hx hb dX2_readAll_8 (by decide) ?_
  refine lv_istore_n (lv' := [(2, .int (1 : Int32)), (1, .int q1), (0, .ref (α 5))]) hx hb dX2_readAll_9 rfl hl (by decide) rfl (fun ls hl => ?_)
  refine lv_aload_n hx hb dX2_readAll_10 rfl (lv_at hl 2 rfl) ?_
  refine lv_iconst (v := (0 : Int32)) hx hb dX2_readAll_11 (by decide) ?_
  refine va_put (D := D) (ci := 3) (v := .int (0 : Int32)) (ty := .int) (C := RX2) (T := TX2) (N := 5) hx hb hts hiX2 tyX2 tyX2_ok nmX2 hown hK hP hD hS 5 rfl rfl 4 (by decide) fl19 (fun _ h9 => h9) rfl (by decide +kernel) rfl rfl (Nat.le_of_ble_eq_true rfl) dX2_readAll_12 (fun H locs hP hD hS => ?_)
  have hP : va_P D vwCl (wC cI α gw gc gs ge gf cR cL cB (0 : Int32) SD RK RN RS RC RT LK LN LS LL US UB BB) H := hP
  have hD : va_D A (wC cI α gw gc gs ge gf cR cL cB (0 : Int32) SD RK RN RS RC RT LK LN LS LL US UB BB) := hD
  refine lv_iconst (v := (0 : Int32)) hx hb dX2_readAll_15 (by decide) ?_
  refine lv_istore_n (lv' := [(3, .int (0 : Int32)), (2, .int (1 : Int32)), (1, .int q1), (0, .ref (α 5))]) hx hb dX2_readAll_16 rfl hl (by decide) rfl (fun ls hl => ?_)
  exact w17 F _ _ _ _ _ _ _ _ _ _ H locs ls hf hP hD hS (lv_sub hl [3, 2, 1, 0] rfl)
