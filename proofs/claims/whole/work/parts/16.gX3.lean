abbrev rm_X3_count : Room := { frames := 0, cells := 0, slots := 0, locals := 0 }
set_option maxHeartbeats 4000000 in
set_option maxRecDepth 100000 in
theorem c_X3_count (l : Launch) (D : va_G) (cI : ClassId) (α : Nat → Nat) (gw gc gs ge gf cR cL cB pB : Int32) (SD RK RN RS RC RT LK LN LS LL US UB BB : Nat → Int32)  (res : Int32) (hf : f_X3_count cR = some res) : kI l yX3_count wsX3_count rm_X3_count D cI [.ref (α 2)] (wC cI α gw gc gs ge gf cR cL cB pB SD RK RN RS RC RT LK LN LS LL US UB BB) (wC cI α gw gc gs ge gf cR cL cB pB SD RK RN RS RC RT LK LN LS LL US UB BB) res := by
  unfold f_X3_count at hf
  refine kI_of (cc := cX3_count) (maxL := 1) (ret := (some .int)) (by decide +kernel) rfl (Nat.le_of_ble_eq_true rfl) ?_
  intro p e s m args below meth c A ls S hP hD hS hl
  have S : kC p s m args meth c cX3_count 1 wsX3_count RX3 (some .int) D cI A := S
  have hx := S.1.1
  have hb := S.1.2.1
  have hml := S.1.2.2.1
  have hown : s.vm.findClass RX3 = some m.cls := S.1.2.2.2.1
  have hts := S.1.2.2.2.2
  have hK := S.2.2.2.1
  have hnk := S.2.2.2.2.1.2
  have hiX3 : ∀ w ∈ u_ws RX3 TX3 7, w ∈ wsX3_count := by decide +kernel
  have fl29 := hts (.fieldLink RX3 29 "ProofChecker$Rules" "count" "I") (by decide +kernel)
  have hl : lv_has ls 1 [(0, .ref (α 2))] := hl
  suffices hgo : ∀ (H : Heap) (locs : List Loc), va_P D vwCl (wC cI α gw gc gs ge gf cR cL cB pB SD RK RN RS RC RT LK LN LS LL US UB BB) H → va_D A (wC cI α gw gc gs ge gf cR cL cB pB SD RK RN RS RC RT LK LN LS LL US UB BB) → va_S A s.heap H locs → W p l e rm_X3_count s m args below meth c H locs 0 0 (MQ below (kQi D A (wC cI α gw gc gs ge gf cR cL cB pB SD RK RN RS RC RT LK LN LS LL US UB BB) res) args s 0 0 A) (F0 m 0 ls []) from hgo _ _ hP hD hS
  clear hP hD hS
  intro H locs hP hD hS
  refine lv_aload_n hx hb dX3_count_0 rfl (lv_at hl 0 rfl) ?_
  refine va_get (D := D) (ci := 4) (v := .int cR) (C := RX3) (T := TX3) (N := 7) hx hb hts hiX3 hown hK hP 2 rfl rfl 6 (by decide) fl29 (fun _ h9 => h9) rfl dX3_count_1 ?_
  have e9 := Option.some.inj hf
  subst e9
  exact kI_ret S rfl hP hD hS dX3_count_4
abbrev rm_X3_has : Room := { frames := 0, cells := 0, slots := 0, locals := 0 }
set_option maxHeartbeats 4000000 in
set_option maxRecDepth 100000 in
theorem c_X3_has (l : Launch) (D : va_G) (cI : ClassId) (α : Nat → Nat) (gw gc gs ge gf cR cL cB pB : Int32) (SD RK RN RS RC RT LK LN LS LL US UB BB : Nat → Int32) (x1 : Int32) (res : Int32) (hf : f_X3_has cR x1 = some res) : kI l yX3_has wsX3_has rm_X3_has D cI [.ref (α 2), .int x1] (wC cI α gw gc gs ge gf cR cL cB pB SD RK RN RS RC RT LK LN LS LL US UB BB) (wC cI α gw gc gs ge gf cR cL cB pB SD RK RN RS RC RT LK LN LS LL US UB BB) res := by
  unfold f_X3_has at hf
  refine kI_of (cc := cX3_has) (maxL := 2) (ret := (some .boolean)) (by decide +kernel) rfl (Nat.le_of_ble_eq_true rfl) ?_
  intro p e s m args below meth c A ls S hP hD hS hl
  have S : kC p s m args meth c cX3_has 2 wsX3_has RX3 (some .boolean) D cI A := S
  have hx := S.1.1
  have hb := S.1.2.1
  have hml := S.1.2.2.1
  have hown : s.vm.findClass RX3 = some m.cls := S.1.2.2.2.1
  have hts := S.1.2.2.2.2
  have hK := S.2.2.2.1
  have hnk := S.2.2.2.2.1.2
  have hiX3 : ∀ w ∈ u_ws RX3 TX3 7, w ∈ wsX3_has := by decide +kernel
  have fl29 := hts (.fieldLink RX3 29 "ProofChecker$Rules" "count" "I") (by decide +kernel)
  have hl : lv_has ls 2 [(0, .ref (α 2)), (1, .int x1)] := hl
  suffices hgo : ∀ (H : Heap) (locs : List Loc), va_P D vwCl (wC cI α gw gc gs ge gf cR cL cB pB SD RK RN RS RC RT LK LN LS LL US UB BB) H → va_D A (wC cI α gw gc gs ge gf cR cL cB pB SD RK RN RS RC RT LK LN LS LL US UB BB) → va_S A s.heap H locs → W p l e rm_X3_has s m args below meth c H locs 0 0 (MQ below (kQi D A (wC cI α gw gc gs ge gf cR cL cB pB SD RK RN RS RC RT LK LN LS LL US UB BB) res) args s 0 0 A) (F0 m 0 ls []) from hgo _ _ hP hD hS
  clear hP hD hS
  intro H locs hP hD hS
  refine lv_iload_n hx hb dX3_has_0 rfl (lv_at hl 1 rfl) ?_
  refine lv_if_lt (tgt := 16) hx hb dX3_has_1 (by decide) (fun c1 => ?_) (fun c1 => ?_)
  · have hf := it_t c1 hf
    refine lv_iconst (v := (0 : Int32)) hx hb dX3_has_16 (by decide) ?_
    have e9 := Option.some.inj hf
    subst e9
    exact kI_ret S narrow_b0 hP hD hS dX3_has_17
  · have hf := it_f c1 hf
    refine lv_iload_n hx hb dX3_has_4 rfl (lv_at hl 1 rfl) ?_
    refine lv_aload_n hx hb dX3_has_5 rfl (lv_at hl 0 rfl) ?_
    refine va_get (D := D) (ci := 4) (v := .int cR) (C := RX3) (T := TX3) (N := 7) hx hb hts hiX3 hown hK hP 2 rfl rfl 6 (by decide) fl29 (fun _ h9 => h9) rfl dX3_has_6 ?_
    refine lv_icmp_ge (tgt := 16) hx hb dX3_has_9 (by decide) (fun c2 => ?_) (fun c2 => ?_)
    · have hf := it_t c2 hf
      refine lv_iconst (v := (0 : Int32)) hx hb dX3_has_16 (by decide) ?_
      have e9 := Option.some.inj hf
      subst e9
      exact kI_ret S narrow_b0 hP hD hS dX3_has_17
    · have hf := it_f c2 hf
      refine lv_iconst (v := (1 : Int32)) hx hb dX3_has_12 (by decide) ?_
      refine lv_goto (tgt := 17) hx hb dX3_has_13 (by decide) ?_
      have e9 := Option.some.inj hf
      subst e9
      exact kI_ret S narrow_b1 hP hD hS dX3_has_17
abbrev rm_X3_append : Room := { frames := 0, cells := 0, slots := 0, locals := 0 }
set_option maxHeartbeats 4000000 in
set_option maxRecDepth 100000 in
theorem c_X3_append (l : Launch) (D : va_G) (cI : ClassId) (α : Nat → Nat) (gw gc gs ge gf cR cL cB pB : Int32) (SD RK RN RS RC RT LK LN LS LL US UB BB : Nat → Int32) (x1 : Int32) (x2 : Int32) (res : Int32 × Int32 × (Nat → Int32) × (Nat → Int32)) (hf : f_X3_append cR RK RN x1 x2 = some res) : kI l yX3_append wsX3_append rm_X3_append D cI [.ref (α 2), .int x1, .int x2] (wC cI α gw gc gs ge gf cR cL cB pB SD RK RN RS RC RT LK LN LS LL US UB BB) (wC cI α gw gc gs ge gf res.2.1 cL cB pB SD res.2.2.1 res.2.2.2 RS RC RT LK LN LS LL US UB BB) res.1 := by
  unfold f_X3_append at hf
  refine kI_of (cc := cX3_append) (maxL := 3) (ret := (some .int)) (by decide +kernel) rfl (Nat.le_of_ble_eq_true rfl) ?_
  intro p e s m args below meth c A ls S hP hD hS hl
  have S : kC p s m args meth c cX3_append 3 wsX3_append RX3 (some .int) D cI A := S
  have hx := S.1.1
  have hb := S.1.2.1
  have hml := S.1.2.2.1
  have hown : s.vm.findClass RX3 = some m.cls := S.1.2.2.2.1
  have hts := S.1.2.2.2.2
  have hK := S.2.2.2.1
  have hnk := S.2.2.2.2.1.2
  have hiX3 : ∀ w ∈ u_ws RX3 TX3 7, w ∈ wsX3_append := by decide +kernel
  have fl11 := hts (.fieldLink RX3 11 "ProofChecker$Rules" "kinds" "[I") (by decide +kernel)
  have fl15 := hts (.fieldLink RX3 15 "ProofChecker$Rules" "numbers" "[I") (by decide +kernel)
  have fl29 := hts (.fieldLink RX3 29 "ProofChecker$Rules" "count" "I") (by decide +kernel)
  have hl : lv_has ls 3 [(0, .ref (α 2)), (1, .int x1), (2, .int x2)] := hl
  suffices hgo : ∀ (H : Heap) (locs : List Loc), va_P D vwCl (wC cI α gw gc gs ge gf cR cL cB pB SD RK RN RS RC RT LK LN LS LL US UB BB) H → va_D A (wC cI α gw gc gs ge gf cR cL cB pB SD RK RN RS RC RT LK LN LS LL US UB BB) → va_S A s.heap H locs → W p l e rm_X3_append s m args below meth c H locs 0 0 (MQ below (kQi D A (wC cI α gw gc gs ge gf res.2.1 cL cB pB SD res.2.2.1 res.2.2.2 RS RC RT LK LN LS LL US UB BB) res.1) args s 0 0 A) (F0 m 0 ls []) from hgo _ _ hP hD hS
  clear hP hD hS
  intro H locs hP hD hS
  refine lv_aload_n hx hb dX3_append_0 rfl (lv_at hl 0 rfl) ?_
  refine va_get (D := D) (ci := 4) (v := .int cR) (C := RX3) (T := TX3) (N := 7) hx hb hts hiX3 hown hK hP 2 rfl rfl 6 (by decide) fl29 (fun _ h9 => h9) rfl dX3_append_1 ?_
  refine lv_bipush (v := (30 : Int32)) hx hb dX3_append_4 (by decide) ?_
  refine lv_icmp_lt (tgt := 11) hx hb dX3_append_6 (by decide) (fun c1 => ?_) (fun c1 => ?_)
  · have hf := it_t c1 hf
    refine lv_aload_n hx hb dX3_append_11 rfl (lv_at hl 0 rfl) ?_
    refine va_get (D := D) (ci := 4) (v := .ref (α 7)) (C := RX3) (T := TX3) (N := 7) hx hb hts hiX3 hown hK hP 2 rfl rfl 1 (by decide) fl11 (fun _ h9 => h9) rfl dX3_append_12 ?_
    refine lv_aload_n hx hb dX3_append_15 rfl (lv_at hl 0 rfl) ?_
    refine va_get (D := D) (ci := 4) (v := .int cR) (C := RX3) (T := TX3) (N := 7) hx hb hts hiX3 hown hK hP 2 rfl rfl 6 (by decide) fl29 (fun _ h9 => h9) rfl dX3_append_16 ?_
    refine lv_iload_n hx hb dX3_append_19 rfl (lv_at hl 1 rfl) ?_
    obtain ⟨g2, hf⟩ := gin_some hf
    refine va_iast hx hb hK hP hD hS 7 0 rfl rfl g2 dX3_append_20 (fun H locs hP hD hS => ?_)
    have hP : va_P D vwCl (wC cI α gw gc gs ge gf cR cL cB pB SD (upd RK cR.toNatClampNeg x1) RN RS RC RT LK LN LS LL US UB BB) H := hP
    have hD : va_D A (wC cI α gw gc gs ge gf cR cL cB pB SD (upd RK cR.toNatClampNeg x1) RN RS RC RT LK LN LS LL US UB BB) := hD
    refine lv_aload_n hx hb dX3_append_21 rfl (lv_at hl 0 rfl) ?_
    refine va_get (D := D) (ci := 4) (v := .ref (α 8)) (C := RX3) (T := TX3) (N := 7) hx hb hts hiX3 hown hK hP 2 rfl rfl 2 (by decide) fl15 (fun _ h9 => h9) rfl dX3_append_22 ?_
    refine lv_aload_n hx hb dX3_append_25 rfl (lv_at hl 0 rfl) ?_
    refine va_get (D := D) (ci := 4) (v := .int cR) (C := RX3) (T := TX3) (N := 7) hx hb hts hiX3 hown hK hP 2 rfl rfl 6 (by decide) fl29 (fun _ h9 => h9) rfl dX3_append_26 ?_
    refine lv_iload_n hx hb dX3_append_29 rfl (lv_at hl 2 rfl) ?_
    obtain ⟨g3, hf⟩ := gin_some hf
    refine va_iast hx hb hK hP hD hS 8 0 rfl rfl g3 dX3_append_30 (fun H locs hP hD hS => ?_)
    have hP : va_P D vwCl (wC cI α gw gc gs ge gf cR cL cB pB SD (upd RK cR.toNatClampNeg x1) (upd RN cR.toNatClampNeg x2) RS RC RT LK LN LS LL US UB BB) H := hP
    have hD : va_D A (wC cI α gw gc gs ge gf cR cL cB pB SD (upd RK cR.toNatClampNeg x1) (upd RN cR.toNatClampNeg x2) RS RC RT LK LN LS LL US UB BB) := hD
    refine lv_aload_n hx hb dX3_append_31 rfl (lv_at hl 0 rfl) ?_
    refine lv_dup hx hb dX3_append_32 rfl ?_
    refine va_get (D := D) (ci := 4) (v := .int cR) (C := RX3) (T := TX3) (N := 7) hx hb hts hiX3 hown hK hP 2 rfl rfl 6 (by decide) fl29 (fun _ h9 => h9) rfl dX3_append_33 ?_
    refine lv_iconst (v := (1 : Int32)) hx hb dX3_append_36 (by decide) ?_
    refine lv_iadd hx hb dX3_append_37 ?_
    refine va_put (D := D) (ci := 4) (v := .int (cR + (1 : Int32))) (ty := .int) (C := RX3) (T := TX3) (N := 7) hx hb hts hiX3 tyX3 tyX3_ok nmX3 hown hK hP hD hS 2 rfl rfl 6 (by decide) fl29 (fun _ h9 => h9) rfl (by decide +kernel) rfl rfl (Nat.le_of_ble_eq_true rfl) dX3_append_38 (fun H locs hP hD hS => ?_)
    have hP : va_P D vwCl (wC cI α gw gc gs ge gf (cR + (1 : Int32)) cL cB pB SD (upd RK cR.toNatClampNeg x1) (upd RN cR.toNatClampNeg x2) RS RC RT LK LN LS LL US UB BB) H := hP
    have hD : va_D A (wC cI α gw gc gs ge gf (cR + (1 : Int32)) cL cB pB SD (upd RK cR.toNatClampNeg x1) (upd RN cR.toNatClampNeg x2) RS RC RT LK LN LS LL US UB BB) := hD
    refine lv_aload_n hx hb dX3_append_41 rfl (lv_at hl 0 rfl) ?_
    refine va_get (D := D) (ci := 4) (v := .int (cR + (1 : Int32))) (C := RX3) (T := TX3) (N := 7) hx hb hts hiX3 hown hK hP 2 rfl rfl 6 (by decide) fl29 (fun _ h9 => h9) rfl dX3_append_42 ?_
    refine lv_iconst (v := (1 : Int32)) hx hb dX3_append_45 (by decide) ?_
    refine lv_isub hx hb dX3_append_46 ?_
    have e9 := Option.some.inj hf
    subst e9
    exact kI_ret S rfl hP hD hS dX3_append_47
  · have hf := it_f c1 hf
    refine lv_iconst (v := (-1 : Int32)) hx hb dX3_append_9 (by decide) ?_
    have e9 := Option.some.inj hf
    subst e9
    exact kI_ret S rfl hP hD hS dX3_append_10
abbrev rm_X3_cellAt : Room := { frames := 0, cells := 0, slots := 0, locals := 0 }
set_option maxHeartbeats 4000000 in
set_option maxRecDepth 100000 in
theorem c_X3_cellAt (l : Launch) (D : va_G) (cI : ClassId) (α : Nat → Nat) (gw gc gs ge gf cR cL cB pB : Int32) (SD RK RN RS RC RT LK LN LS LL US UB BB : Nat → Int32) (x1 : Int32) (x2 : Int32) (res : Int32) (hf : f_X3_cellAt RC x1 x2 = some res) : kI l yX3_cellAt wsX3_cellAt rm_X3_cellAt D cI [.ref (α 2), .int x1, .int x2] (wC cI α gw gc gs ge gf cR cL cB pB SD RK RN RS RC RT LK LN LS LL US UB BB) (wC cI α gw gc gs ge gf cR cL cB pB SD RK RN RS RC RT LK LN LS LL US UB BB) res := by
  unfold f_X3_cellAt at hf
  refine kI_of (cc := cX3_cellAt) (maxL := 3) (ret := (some .int)) (by decide +kernel) rfl (Nat.le_of_ble_eq_true rfl) ?_
  intro p e s m args below meth c A ls S hP hD hS hl
  have S : kC p s m args meth c cX3_cellAt 3 wsX3_cellAt RX3 (some .int) D cI A := S
  have hx := S.1.1
  have hb := S.1.2.1
  have hml := S.1.2.2.1
  have hown : s.vm.findClass RX3 = some m.cls := S.1.2.2.2.1
  have hts := S.1.2.2.2.2
  have hK := S.2.2.2.1
  have hnk := S.2.2.2.2.1.2
  have hiX3 : ∀ w ∈ u_ws RX3 TX3 7, w ∈ wsX3_cellAt := by decide +kernel
  have fl21 := hts (.fieldLink RX3 21 "ProofChecker$Rules" "cells" "[I") (by decide +kernel)
  have hl : lv_has ls 3 [(0, .ref (α 2)), (1, .int x1), (2, .int x2)] := hl
  suffices hgo : ∀ (H : Heap) (locs : List Loc), va_P D vwCl (wC cI α gw gc gs ge gf cR cL cB pB SD RK RN RS RC RT LK LN LS LL US UB BB) H → va_D A (wC cI α gw gc gs ge gf cR cL cB pB SD RK RN RS RC RT LK LN LS LL US UB BB) → va_S A s.heap H locs → W p l e rm_X3_cellAt s m args below meth c H locs 0 0 (MQ below (kQi D A (wC cI α gw gc gs ge gf cR cL cB pB SD RK RN RS RC RT LK LN LS LL US UB BB) res) args s 0 0 A) (F0 m 0 ls []) from hgo _ _ hP hD hS
  clear hP hD hS
  intro H locs hP hD hS
  refine lv_aload_n hx hb dX3_cellAt_0 rfl (lv_at hl 0 rfl) ?_
  refine va_get (D := D) (ci := 4) (v := .ref (α 10)) (C := RX3) (T := TX3) (N := 7) hx hb hts hiX3 hown hK hP 2 rfl rfl 4 (by decide) fl21 (fun _ h9 => h9) rfl dX3_cellAt_1 ?_
  refine lv_bipush (v := (9 : Int32)) hx hb dX3_cellAt_4 (by decide) ?_
  refine lv_iload_n hx hb dX3_cellAt_6 rfl (lv_at hl 1 rfl) ?_
  refine lv_imul hx hb dX3_cellAt_7 ?_
  refine lv_iload_n hx hb dX3_cellAt_8 rfl (lv_at hl 2 rfl) ?_
  refine lv_iadd hx hb dX3_cellAt_9 ?_
  obtain ⟨g1, hf⟩ := gin_some hf
  refine va_iald hx hb hK hP 10 0 rfl rfl g1 dX3_cellAt_10 ?_
  have e9 := Option.some.inj hf
  subst e9
  exact kI_ret S rfl hP hD hS dX3_cellAt_11
abbrev rm_X3_addCell : Room := { frames := 1, cells := 0, slots := 0, locals := 22 }
set_option maxHeartbeats 4000000 in
set_option maxRecDepth 100000 in
theorem c_X3_addCell (l : Launch) (D : va_G) (cI : ClassId) (α : Nat → Nat) (gw gc gs ge gf cR cL cB pB : Int32) (SD RK RN RS RC RT LK LN LS LL US UB BB : Nat → Int32) (F : Nat) (x1 : Int32) (x2 : Int32) (res : Int32 × (Nat → Int32) × (Nat → Int32)) (hf : f_X3_addCell F RS RC x1 x2 = some res) : kI l yX3_addCell wsX3_addCell rm_X3_addCell D cI [.ref (α 2), .int x1, .int x2] (wC cI α gw gc gs ge gf cR cL cB pB SD RK RN RS RC RT LK LN LS LL US UB BB) (wC cI α gw gc gs ge gf cR cL cB pB SD RK RN res.2.1 res.2.2 RT LK LN LS LL US UB BB) res.1 := by
  unfold f_X3_addCell at hf
  refine kI_of (cc := cX3_addCell) (maxL := 5) (ret := (some .boolean)) (by decide +kernel) rfl (Nat.le_of_ble_eq_true rfl) ?_
  intro p e s m args below meth c A ls S hP hD hS hl
  have S : kC p s m args meth c cX3_addCell 5 wsX3_addCell RX3 (some .boolean) D cI A := S
  have hx := S.1.1
  have hb := S.1.2.1
  have hml := S.1.2.2.1
  have hown : s.vm.findClass RX3 = some m.cls := S.1.2.2.2.1
  have hts := S.1.2.2.2.2
  have hK := S.2.2.2.1
  have hnk := S.2.2.2.2.1.2
  have hiX3 : ∀ w ∈ u_ws RX3 TX3 7, w ∈ wsX3_addCell := by decide +kernel
  have fl18 := hts (.fieldLink RX3 18 "ProofChecker$Rules" "sizes" "[I") (by decide +kernel)
  have fl21 := hts (.fieldLink RX3 21 "ProofChecker$Rules" "cells" "[I") (by decide +kernel)
  have hl : lv_has ls 5 [(0, .ref (α 2)), (1, .int x1), (2, .int x2)] := hl
  have w18 : ∀ (n : Nat), ∀ (x1 : Int32) (x2 : Int32) (x3 : Int32) (x4 : Int32) (RS : Nat → Int32) (RC : Nat → Int32) (H : Heap) (locs : List Loc) (ls : Array Slot), f_X3_addCell_L18 F n x1 x2 x3 x4 RS RC = some res → va_P D vwCl (wC cI α gw gc gs ge gf cR cL cB pB SD RK RN RS RC RT LK LN LS LL US UB BB) H → va_D A (wC cI α gw gc gs ge gf cR cL cB pB SD RK RN RS RC RT LK LN LS LL US UB BB) → va_S A s.heap H locs → lv_has ls 5 [(0, .ref (α 2)), (1, .int x1), (2, .int x2), (3, .int x3), (4, .int x4)] → W p l e rm_X3_addCell s m args below meth c H locs 0 0 (MQ below (kQi D A (wC cI α gw gc gs ge gf cR cL cB pB SD RK RN res.2.1 res.2.2 RT LK LN LS LL US UB BB) res.1) args s 0 0 A) (F0 m 18 ls []) := by
    intro n
    induction n with
    | zero => intro x1 x2 x3 x4 RS RC H locs ls hf; cases hf
    | succ n ih =>
      intro x1 x2 x3 x4 RS RC H locs ls hf hP hD hS hl
      rw [f_X3_addCell_L18.eq_2] at hf
      refine lv_iload hx hb dX3_addCell_18 (lv_at hl 4 rfl) ?_
      refine lv_iload_n hx hb dX3_addCell_20 rfl (lv_at hl 3 rfl) ?_
      refine lv_icmp_ge (tgt := 43) hx hb dX3_addCell_21 (by decide) (fun c3 => ?_) (fun c3 => ?_)
      · have hf := it_t c3 hf
        refine lv_aload_n hx hb dX3_addCell_43 rfl (lv_at hl 0 rfl) ?_
        refine va_get (D := D) (ci := 4) (v := .ref (α 10)) (C := RX3) (T := TX3) (N := 7) hx hb hts hiX3 hown hK hP 2 rfl rfl 4 (by decide) fl21 (fun _ h9 => h9) rfl dX3_addCell_44 ?_
        refine lv_bipush (v := (9 : Int32)) hx hb dX3_addCell_47 (by decide) ?_
        refine lv_iload_n hx hb dX3_addCell_49 rfl (lv_at hl 1 rfl) ?_
        refine lv_imul hx hb dX3_addCell_50 ?_
        refine lv_iload_n hx hb dX3_addCell_51 rfl (lv_at hl 3 rfl) ?_
        refine lv_iadd hx hb dX3_addCell_52 ?_
        refine lv_iload_n hx hb dX3_addCell_53 rfl (lv_at hl 2 rfl) ?_
        obtain ⟨g4, hf⟩ := gin_some hf
        refine va_iast hx hb hK hP hD hS 10 0 rfl rfl g4 dX3_addCell_54 (fun H locs hP hD hS => ?_)
        have hP : va_P D vwCl (wC cI α gw gc gs ge gf cR cL cB pB SD RK RN RS ((upd RC ((((9 : Int32) * x1) + x3)).toNatClampNeg x2)) RT LK LN LS LL US UB BB) H := hP
        have hD : va_D A (wC cI α gw gc gs ge gf cR cL cB pB SD RK RN RS ((upd RC ((((9 : Int32) * x1) + x3)).toNatClampNeg x2)) RT LK LN LS LL US UB BB) := hD
        refine lv_aload_n hx hb dX3_addCell_55 rfl (lv_at hl 0 rfl) ?_
        refine va_get (D := D) (ci := 4) (v := .ref (α 9)) (C := RX3) (T := TX3) (N := 7) hx hb hts hiX3 hown hK hP 2 rfl rfl 3 (by decide) fl18 (fun _ h9 => h9) rfl dX3_addCell_56 ?_
        refine lv_iload_n hx hb dX3_addCell_59 rfl (lv_at hl 1 rfl) ?_
        refine lv_iload_n hx hb dX3_addCell_60 rfl (lv_at hl 3 rfl) ?_
        refine lv_iconst (v := (1 : Int32)) hx hb dX3_addCell_61 (by decide) ?_
        refine lv_iadd hx hb dX3_addCell_62 ?_
        obtain ⟨g5, hf⟩ := gin_some hf
        refine va_iast hx hb hK hP hD hS 9 0 rfl rfl g5 dX3_addCell_63 (fun H locs hP hD hS => ?_)
        have hP : va_P D vwCl (wC cI α gw gc gs ge gf cR cL cB pB SD RK RN ((upd RS x1.toNatClampNeg (x3 + (1 : Int32)))) ((upd RC ((((9 : Int32) * x1) + x3)).toNatClampNeg x2)) RT LK LN LS LL US UB BB) H := hP
        have hD : va_D A (wC cI α gw gc gs ge gf cR cL cB pB SD RK RN ((upd RS x1.toNatClampNeg (x3 + (1 : Int32)))) ((upd RC ((((9 : Int32) * x1) + x3)).toNatClampNeg x2)) RT LK LN LS LL US UB BB) := hD
        refine lv_iconst (v := (1 : Int32)) hx hb dX3_addCell_64 (by decide) ?_
        have e9 := Option.some.inj hf
        subst e9
        exact kI_ret S narrow_b1 hP hD hS dX3_addCell_65
      · have hf := it_f c3 hf
        refine lv_aload_n hx hb dX3_addCell_24 rfl (lv_at hl 0 rfl) ?_
        refine lv_iload_n hx hb dX3_addCell_25 rfl (lv_at hl 1 rfl) ?_
        refine lv_iload hx hb dX3_addCell_26 (lv_at hl 4 rfl) ?_
        obtain ⟨q6, hq6, hf⟩ := bnd hf
        refine kI_callV (As := [.int x1, .int x4]) (rest := []) S hP hD hS (c_X3_cellAt l D cI α gw gc gs ge gf cR cL cB pB SD RK RN RS RC RT LK LN LS LL US UB BB x1 x4 q6 hq6) (cwV 2 hts gX3_addCell_X3_cellAt rfl rfl rfl (by decide +kernel) ⟨Nat.le_of_ble_eq_true rfl, Nat.le_of_ble_eq_true rfl⟩) 2 rfl rfl rfl hl.1 rfl (Nat.le_of_ble_eq_true rfl) dX3_addCell_28 ⟨Nat.zero_le _, Nat.zero_le _⟩ (fun H locs hP hD hS => ?_)
        have hP : va_P D vwCl (wC cI α gw gc gs ge gf cR cL cB pB SD RK RN RS RC RT LK LN LS LL US UB BB) H := hP
        have hD : va_D A (wC cI α gw gc gs ge gf cR cL cB pB SD RK RN RS RC RT LK LN LS LL US UB BB) := hD
        refine lv_iload_n hx hb dX3_addCell_31 rfl (lv_at hl 2 rfl) ?_
        refine lv_icmp_ne (tgt := 37) hx hb dX3_addCell_32 (by decide) (fun c7 => ?_) (fun c7 => ?_)
        · have hf := it_t c7 hf
          refine lv_iinc (v := (x4 + (1 : Int32))) (lv' := [(4, .int (x4 + (1 : Int32))), (0, .ref (α 2)), (1, .int x1), (2, .int x2), (3, .int x3)]) hx hb dX3_addCell_37 hl (k := 4) rfl rfl (by decide) rfl (fun ls hl => ?_)
          refine lv_goto (tgt := 18) hx hb dX3_addCell_40 (by decide) ?_
          exact ih _ _ _ _ _ _ H locs ls hf hP hD hS (lv_sub hl [1, 2, 3, 4, 0] rfl)
        · have hf := it_f (fun h9 => h9 c7) hf
          refine lv_iconst (v := (0 : Int32)) hx hb dX3_addCell_35 (by decide) ?_
          have e9 := Option.some.inj hf
          subst e9
          exact kI_ret S narrow_b0 hP hD hS dX3_addCell_36
  suffices hgo : ∀ (H : Heap) (locs : List Loc), va_P D vwCl (wC cI α gw gc gs ge gf cR cL cB pB SD RK RN RS RC RT LK LN LS LL US UB BB) H → va_D A (wC cI α gw gc gs ge gf cR cL cB pB SD RK RN RS RC RT LK LN LS LL US UB BB) → va_S A s.heap H locs → W p l e rm_X3_addCell s m args below meth c H locs 0 0 (MQ below (kQi D A (wC cI α gw gc gs ge gf cR cL cB pB SD RK RN res.2.1 res.2.2 RT LK LN LS LL US UB BB) res.1) args s 0 0 A) (F0 m 0 ls []) from hgo _ _ hP hD hS
  clear hP hD hS
  intro H locs hP hD hS
  refine lv_aload_n hx hb dX3_addCell_0 rfl (lv_at hl 0 rfl) ?_
  refine va_get (D := D) (ci := 4) (v := .ref (α 9)) (C := RX3) (T := TX3) (N := 7) hx hb hts hiX3 hown hK hP 2 rfl rfl 3 (by decide) fl18 (fun _ h9 => h9) rfl dX3_addCell_1 ?_
  refine lv_iload_n hx hb dX3_addCell_4 rfl (lv_at hl 1 rfl) ?_
  obtain ⟨g1, hf⟩ := gin_some hf
  refine va_iald hx hb hK hP 9 0 rfl rfl g1 dX3_addCell_5 ?_
  refine lv_istore_n (lv' := [(3, .int (RS x1.toNatClampNeg)), (0, .ref (α 2)), (1, .int x1), (2, .int x2)]) hx hb dX3_addCell_6 rfl hl (by decide) rfl (fun ls hl => ?_)
  refine lv_iload_n hx hb dX3_addCell_7 rfl (lv_at hl 0 rfl) ?_
  refine lv_bipush (v := (9 : Int32)) hx hb dX3_addCell_8 (by decide) ?_
  refine lv_icmp_lt (tgt := 15) hx hb dX3_addCell_10 (by decide) (fun c2 => ?_) (fun c2 => ?_)
  · have hf := it_t c2 hf
    refine lv_iconst (v := (0 : Int32)) hx hb dX3_addCell_15 (by decide) ?_
    refine lv_istore (lv' := [(4, .int (0 : Int32)), (3, .int (RS x1.toNatClampNeg)), (0, .ref (α 2)), (1, .int x1), (2, .int x2)]) hx hb dX3_addCell_16 hl (by decide) rfl (fun ls hl => ?_)
    exact w18 F _ _ _ _ _ _ H locs ls hf hP hD hS (lv_sub hl [2, 3, 4, 1, 0] rfl)
  · have hf := it_f c2 hf
    refine lv_iconst (v := (0 : Int32)) hx hb dX3_addCell_13 (by decide) ?_
    have e9 := Option.some.inj hf
    subst e9
    exact kI_ret S narrow_b0 hP hD hS dX3_addCell_14
abbrev rm_X3_allSaid : Room := { frames := 1, cells := 0, slots := 0, locals := 22 }
set_option maxHeartbeats 4000000 in
set_option maxRecDepth 100000 in
theorem c_X3_allSaid (l : Launch) (D : va_G) (cI : ClassId) (α : Nat → Nat) (gw gc gs ge gf cR cL cB pB : Int32) (SD RK RN RS RC RT LK LN LS LL US UB BB : Nat → Int32) (ya yq : Nat) (SY : Nat → Int32) (hy : (wC cI α gw gc gs ge gf cR cL cB pB SD RK RN RS RC RT LK LN LS LL US UB BB)[yq]? = some (ya, .inl (cI, 16, .inl SY))) (F : Nat) (x1 : Int32) (res : Int32) (hf : f_X3_allSaid RS RC SY F x1 = some res) : kI l yX3_allSaid wsX3_allSaid rm_X3_allSaid D cI [.ref (α 2), .int x1, .ref ya] (wC cI α gw gc gs ge gf cR cL cB pB SD RK RN RS RC RT LK LN LS LL US UB BB) (wC cI α gw gc gs ge gf cR cL cB pB SD RK RN RS RC RT LK LN LS LL US UB BB) res := by
  unfold f_X3_allSaid at hf
  refine kI_of (cc := cX3_allSaid) (maxL := 4) (ret := (some .boolean)) (by decide +kernel) rfl (Nat.le_of_ble_eq_true rfl) ?_
  intro p e s m args below meth c A ls S hP hD hS hl
  have S : kC p s m args meth c cX3_allSaid 4 wsX3_allSaid RX3 (some .boolean) D cI A := S
  have hx := S.1.1
  have hb := S.1.2.1
  have hml := S.1.2.2.1
  have hown : s.vm.findClass RX3 = some m.cls := S.1.2.2.2.1
  have hts := S.1.2.2.2.2
  have hK := S.2.2.2.1
  have hnk := S.2.2.2.2.1.2
  have hiX3 : ∀ w ∈ u_ws RX3 TX3 7, w ∈ wsX3_allSaid := by decide +kernel
  have fl18 := hts (.fieldLink RX3 18 "ProofChecker$Rules" "sizes" "[I") (by decide +kernel)
  have hl : lv_has ls 4 [(0, .ref (α 2)), (1, .int x1), (2, .ref ya)] := hl
  have w2 : ∀ (n : Nat), ∀ (x1 : Int32) (x3 : Int32) (H : Heap) (locs : List Loc) (ls : Array Slot), f_X3_allSaid_L2 RS RC SY F n x1 x3 = some res → va_P D vwCl (wC cI α gw gc gs ge gf cR cL cB pB SD RK RN RS RC RT LK LN LS LL US UB BB) H → va_D A (wC cI α gw gc gs ge gf cR cL cB pB SD RK RN RS RC RT LK LN LS LL US UB BB) → va_S A s.heap H locs → lv_has ls 4 [(0, .ref (α 2)), (1, .int x1), (2, .ref ya), (3, .int x3)] → W p l e rm_X3_allSaid s m args below meth c H locs 0 0 (MQ below (kQi D A (wC cI α gw gc gs ge gf cR cL cB pB SD RK RN RS RC RT LK LN LS LL US UB BB) res) args s 0 0 A) (F0 m 2 ls []) := by
    intro n
    induction n with
    | zero => intro x1 x3 H locs ls hf; cases hf
    | succ n ih =>
      intro x1 x3 H locs ls hf hP hD hS hl
      rw [f_X3_allSaid_L2.eq_2] at hf
      refine lv_iload_n hx hb dX3_allSaid_2 rfl (lv_at hl 3 rfl) ?_
      refine lv_aload_n hx hb dX3_allSaid_3 rfl (lv_at hl 0 rfl) ?_
      refine va_get (D := D) (ci := 4) (v := .ref (α 9)) (C := RX3) (T := TX3) (N := 7) hx hb hts hiX3 hown hK hP 2 rfl rfl 3 (by decide) fl18 (fun _ h9 => h9) rfl dX3_allSaid_4 ?_
      refine lv_iload_n hx hb dX3_allSaid_7 rfl (lv_at hl 1 rfl) ?_
      obtain ⟨g1, hf⟩ := gin_some hf
      refine va_iald hx hb hK hP 9 0 rfl rfl g1 dX3_allSaid_8 ?_
      refine lv_icmp_ge (tgt := 32) hx hb dX3_allSaid_9 (by decide) (fun c2 => ?_) (fun c2 => ?_)
      · have hf := it_t c2 hf
        refine lv_iconst (v := (1 : Int32)) hx hb dX3_allSaid_32 (by decide) ?_
        have e9 := Option.some.inj hf
        subst e9
        exact kI_ret S narrow_b1 hP hD hS dX3_allSaid_33
      · have hf := it_f c2 hf
        refine lv_aload_n hx hb dX3_allSaid_12 rfl (lv_at hl 2 rfl) ?_
        refine lv_aload_n hx hb dX3_allSaid_13 rfl (lv_at hl 0 rfl) ?_
        refine lv_iload_n hx hb dX3_allSaid_14 rfl (lv_at hl 1 rfl) ?_
        refine lv_iload_n hx hb dX3_allSaid_15 rfl (lv_at hl 3 rfl) ?_
        obtain ⟨q3, hq3, hf⟩ := bnd hf
        refine kI_callV (As := [.int x1, .int x3]) (rest := [.ref ya]) S hP hD hS (c_X3_cellAt l D cI α gw gc gs ge gf cR cL cB pB SD RK RN RS RC RT LK LN LS LL US UB BB x1 x3 q3 hq3) (cwV 2 hts gX3_allSaid_X3_cellAt rfl rfl rfl (by decide +kernel) ⟨Nat.le_of_ble_eq_true rfl, Nat.le_of_ble_eq_true rfl⟩) 2 rfl rfl rfl hl.1 rfl (Nat.le_of_ble_eq_true rfl) dX3_allSaid_16 ⟨Nat.zero_le _, Nat.zero_le _⟩ (fun H locs hP hD hS => ?_)
        have hP : va_P D vwCl (wC cI α gw gc gs ge gf cR cL cB pB SD RK RN RS RC RT LK LN LS LL US UB BB) H := hP
        have hD : va_D A (wC cI α gw gc gs ge gf cR cL cB pB SD RK RN RS RC RT LK LN LS LL US UB BB) := hD
        obtain ⟨g4, hf⟩ := gin_some hf
        refine va_iald hx hb hK hP yq 0 hy rfl g4 dX3_allSaid_19 ?_
        refine lv_iconst (v := (-1 : Int32)) hx hb dX3_allSaid_20 (by decide) ?_
        refine lv_icmp_ne (tgt := 26) hx hb dX3_allSaid_21 (by decide) (fun c5 => ?_) (fun c5 => ?_)
        · have hf := it_t c5 hf
          refine lv_iinc (v := (x3 + (1 : Int32))) (lv' := [(3, .int (x3 + (1 : Int32))), (0, .ref (α 2)), (1, .int x1), (2, .ref ya)]) hx hb dX3_allSaid_26 hl (k := 3) rfl rfl (by decide) rfl (fun ls hl => ?_)
          refine lv_goto (tgt := 2) hx hb dX3_allSaid_29 (by decide) ?_
          exact ih _ _ H locs ls hf hP hD hS (lv_sub hl [1, 2, 3, 0] rfl)
        · have hf := it_f (fun h9 => h9 c5) hf
          refine lv_iconst (v := (0 : Int32)) hx hb dX3_allSaid_24 (by decide) ?_
          have e9 := Option.some.inj hf
          subst e9
          exact kI_ret S narrow_b0 hP hD hS dX3_allSaid_25
  suffices hgo : ∀ (H : Heap) (locs : List Loc), va_P D vwCl (wC cI α gw gc gs ge gf cR cL cB pB SD RK RN RS RC RT LK LN LS LL US UB BB) H → va_D A (wC cI α gw gc gs ge gf cR cL cB pB SD RK RN RS RC RT LK LN LS LL US UB BB) → va_S A s.heap H locs → W p l e rm_X3_allSaid s m args below meth c H locs 0 0 (MQ below (kQi D A (wC cI α gw gc gs ge gf cR cL cB pB SD RK RN RS RC RT LK LN LS LL US UB BB) res) args s 0 0 A) (F0 m 0 ls []) from hgo _ _ hP hD hS
  clear hP hD hS
  intro H locs hP hD hS
  refine lv_iconst (v := (0 : Int32)) hx hb dX3_allSaid_0 (by decide) ?_
  refine lv_istore_n (lv' := [(3, .int (0 : Int32)), (0, .ref (α 2)), (1, .int x1), (2, .ref ya)]) hx hb dX3_allSaid_1 rfl hl (by decide) rfl (fun ls hl => ?_)
  exact w2 F _ _ H locs ls hf hP hD hS (lv_sub hl [1, 2, 3, 0] rfl)
abbrev rm_X3_likeTheFirst : Room := { frames := 1, cells := 0, slots := 0, locals := 22 }
set_option maxHeartbeats 4000000 in
set_option maxRecDepth 100000 in
theorem c_X3_likeTheFirst (l : Launch) (D : va_G) (cI : ClassId) (α : Nat → Nat) (gw gc gs ge gf cR cL cB pB : Int32) (SD RK RN RS RC RT LK LN LS LL US UB BB : Nat → Int32) (ya yq : Nat) (SY : Nat → Int32) (hy : (wC cI α gw gc gs ge gf cR cL cB pB SD RK RN RS RC RT LK LN LS LL US UB BB)[yq]? = some (ya, .inl (cI, 16, .inl SY))) (F : Nat) (x1 : Int32) (res : Int32) (hf : f_X3_likeTheFirst RS RC SY F x1 = some res) : kI l yX3_likeTheFirst wsX3_likeTheFirst rm_X3_likeTheFirst D cI [.ref (α 2), .int x1, .ref ya] (wC cI α gw gc gs ge gf cR cL cB pB SD RK RN RS RC RT LK LN LS LL US UB BB) (wC cI α gw gc gs ge gf cR cL cB pB SD RK RN RS RC RT LK LN LS LL US UB BB) res := by
  unfold f_X3_likeTheFirst at hf
  refine kI_of (cc := cX3_likeTheFirst) (maxL := 6) (ret := (some .int)) (by decide +kernel) rfl (Nat.le_of_ble_eq_true rfl) ?_
  intro p e s m args below meth c A ls S hP hD hS hl
  have S : kC p s m args meth c cX3_likeTheFirst 6 wsX3_likeTheFirst RX3 (some .int) D cI A := S
  have hx := S.1.1
  have hb := S.1.2.1
  have hml := S.1.2.2.1
  have hown : s.vm.findClass RX3 = some m.cls := S.1.2.2.2.1
  have hts := S.1.2.2.2.2
  have hK := S.2.2.2.1
  have hnk := S.2.2.2.2.1.2
  have hiX3 : ∀ w ∈ u_ws RX3 TX3 7, w ∈ wsX3_likeTheFirst := by decide +kernel
  have fl18 := hts (.fieldLink RX3 18 "ProofChecker$Rules" "sizes" "[I") (by decide +kernel)
  have hl : lv_has ls 6 [(0, .ref (α 2)), (1, .int x1), (2, .ref ya)] := hl
  have w42 : ∀ (k15 : Int32 → Int32 → Int32 → Int32 → Option (Int32)) (hk15 : ∀ (x1 : Int32) (x3 : Int32) (x4 : Int32) (x5 : Int32) (H : Heap) (locs : List Loc) (ls : Array Slot), k15 x1 x3 x4 x5 = some res → va_P D vwCl (wC cI α gw gc gs ge gf cR cL cB pB SD RK RN RS RC RT LK LN LS LL US UB BB) H → va_D A (wC cI α gw gc gs ge gf cR cL cB pB SD RK RN RS RC RT LK LN LS LL US UB BB) → va_S A s.heap H locs → lv_has ls 6 [(0, .ref (α 2)), (1, .int x1), (2, .ref ya), (3, .int x3), (4, .int x4), (5, .int x5)] → W p l e rm_X3_likeTheFirst s m args below meth c H locs 0 0 (MQ below (kQi D A (wC cI α gw gc gs ge gf cR cL cB pB SD RK RN RS RC RT LK LN LS LL US UB BB) res) args s 0 0 A) (F0 m 15 ls [])), ∀ (x1 : Int32) (x3 : Int32) (x4 : Int32) (x5 : Int32) (H : Heap) (locs : List Loc) (ls : Array Slot), f_X3_likeTheFirst_J42 RS RC SY k15 F x1 x3 x4 x5 = some res → va_P D vwCl (wC cI α gw gc gs ge gf cR cL cB pB SD RK RN RS RC RT LK LN LS LL US UB BB) H → va_D A (wC cI α gw gc gs ge gf cR cL cB pB SD RK RN RS RC RT LK LN LS LL US UB BB) → va_S A s.heap H locs → lv_has ls 6 [(0, .ref (α 2)), (1, .int x1), (2, .ref ya), (3, .int x3), (4, .int x4), (5, .int x5)] → W p l e rm_X3_likeTheFirst s m args below meth c H locs 0 0 (MQ below (kQi D A (wC cI α gw gc gs ge gf cR cL cB pB SD RK RN RS RC RT LK LN LS LL US UB BB) res) args s 0 0 A) (F0 m 42 ls []) := by
    intro k15 hk15 x1 x3 x4 x5 H locs ls hf hP hD hS hl
    unfold f_X3_likeTheFirst_J42 at hf
    refine lv_iinc (v := (x5 + (1 : Int32))) (lv' := [(5, .int (x5 + (1 : Int32))), (0, .ref (α 2)), (1, .int x1), (2, .ref ya), (3, .int x3), (4, .int x4)]) hx hb dX3_likeTheFirst_42 hl (k := 5) rfl rfl (by decide) rfl (fun ls hl => ?_)
    refine lv_goto (tgt := 15) hx hb dX3_likeTheFirst_45 (by decide) ?_
    exact hk15 _ _ _ _ H locs ls hf hP hD hS (lv_sub hl [1, 2, 3, 4, 5, 0] rfl)
  have w15 : ∀ (n : Nat), ∀ (x1 : Int32) (x3 : Int32) (x4 : Int32) (x5 : Int32) (H : Heap) (locs : List Loc) (ls : Array Slot), f_X3_likeTheFirst_L15 RS RC SY F n x1 x3 x4 x5 = some res → va_P D vwCl (wC cI α gw gc gs ge gf cR cL cB pB SD RK RN RS RC RT LK LN LS LL US UB BB) H → va_D A (wC cI α gw gc gs ge gf cR cL cB pB SD RK RN RS RC RT LK LN LS LL US UB BB) → va_S A s.heap H locs → lv_has ls 6 [(0, .ref (α 2)), (1, .int x1), (2, .ref ya), (3, .int x3), (4, .int x4), (5, .int x5)] → W p l e rm_X3_likeTheFirst s m args below meth c H locs 0 0 (MQ below (kQi D A (wC cI α gw gc gs ge gf cR cL cB pB SD RK RN RS RC RT LK LN LS LL US UB BB) res) args s 0 0 A) (F0 m 15 ls []) := by
    intro n
    induction n with
    | zero => intro x1 x3 x4 x5 H locs ls hf; cases hf
    | succ n ih =>
      intro x1 x3 x4 x5 H locs ls hf hP hD hS hl
      rw [f_X3_likeTheFirst_L15.eq_2] at hf
      refine lv_iload hx hb dX3_likeTheFirst_15 (lv_at hl 5 rfl) ?_
      refine lv_aload_n hx hb dX3_likeTheFirst_17 rfl (lv_at hl 0 rfl) ?_
      refine va_get (D := D) (ci := 4) (v := .ref (α 9)) (C := RX3) (T := TX3) (N := 7) hx hb hts hiX3 hown hK hP 2 rfl rfl 3 (by decide) fl18 (fun _ h9 => h9) rfl dX3_likeTheFirst_18 ?_
      refine lv_iload_n hx hb dX3_likeTheFirst_21 rfl (lv_at hl 1 rfl) ?_
      obtain ⟨g3, hf⟩ := gin_some hf
      refine va_iald hx hb hK hP 9 0 rfl rfl g3 dX3_likeTheFirst_22 ?_
      refine lv_icmp_ge (tgt := 48) hx hb dX3_likeTheFirst_23 (by decide) (fun c4 => ?_) (fun c4 => ?_)
      · have hf := it_t c4 hf
        refine lv_iload hx hb dX3_likeTheFirst_48 (lv_at hl 4 rfl) ?_
        have e9 := Option.some.inj hf
        subst e9
        exact kI_ret S rfl hP hD hS dX3_likeTheFirst_50
      · have hf := it_f c4 hf
        refine lv_aload_n hx hb dX3_likeTheFirst_26 rfl (lv_at hl 2 rfl) ?_
        refine lv_aload_n hx hb dX3_likeTheFirst_27 rfl (lv_at hl 0 rfl) ?_
        refine lv_iload_n hx hb dX3_likeTheFirst_28 rfl (lv_at hl 1 rfl) ?_
        refine lv_iload hx hb dX3_likeTheFirst_29 (lv_at hl 5 rfl) ?_
        obtain ⟨q5, hq5, hf⟩ := bnd hf
        refine kI_callV (As := [.int x1, .int x5]) (rest := [.ref ya]) S hP hD hS (c_X3_cellAt l D cI α gw gc gs ge gf cR cL cB pB SD RK RN RS RC RT LK LN LS LL US UB BB x1 x5 q5 hq5) (cwV 2 hts gX3_likeTheFirst_X3_cellAt rfl rfl rfl (by decide +kernel) ⟨Nat.le_of_ble_eq_true rfl, Nat.le_of_ble_eq_true rfl⟩) 2 rfl rfl rfl hl.1 rfl (Nat.le_of_ble_eq_true rfl) dX3_likeTheFirst_31 ⟨Nat.zero_le _, Nat.zero_le _⟩ (fun H locs hP hD hS => ?_)
        have hP : va_P D vwCl (wC cI α gw gc gs ge gf cR cL cB pB SD RK RN RS RC RT LK LN LS LL US UB BB) H := hP
        have hD : va_D A (wC cI α gw gc gs ge gf cR cL cB pB SD RK RN RS RC RT LK LN LS LL US UB BB) := hD
        obtain ⟨g6, hf⟩ := gin_some hf
        refine va_iald hx hb hK hP yq 0 hy rfl g6 dX3_likeTheFirst_34 ?_
        refine lv_iload_n hx hb dX3_likeTheFirst_35 rfl (lv_at hl 3 rfl) ?_
        refine lv_icmp_ne (tgt := 42) hx hb dX3_likeTheFirst_36 (by decide) (fun c7 => ?_) (fun c7 => ?_)
        · have hf := it_t c7 hf
          exact w42 _ ih _ _ _ _ H locs ls hf hP hD hS (lv_sub hl [0, 1, 2, 3, 4, 5] rfl)
        · have hf := it_f (fun h9 => h9 c7) hf
          refine lv_iinc (v := (x4 + (1 : Int32))) (lv' := [(4, .int (x4 + (1 : Int32))), (0, .ref (α 2)), (1, .int x1), (2, .ref ya), (3, .int x3), (5, .int x5)]) hx hb dX3_likeTheFirst_39 hl (k := 4) rfl rfl (by decide) rfl (fun ls hl => ?_)
          exact w42 _ ih _ _ _ _ H locs ls hf hP hD hS (lv_sub hl [1, 2, 3, 4, 0, 5] rfl)
  suffices hgo : ∀ (H : Heap) (locs : List Loc), va_P D vwCl (wC cI α gw gc gs ge gf cR cL cB pB SD RK RN RS RC RT LK LN LS LL US UB BB) H → va_D A (wC cI α gw gc gs ge gf cR cL cB pB SD RK RN RS RC RT LK LN LS LL US UB BB) → va_S A s.heap H locs → W p l e rm_X3_likeTheFirst s m args below meth c H locs 0 0 (MQ below (kQi D A (wC cI α gw gc gs ge gf cR cL cB pB SD RK RN RS RC RT LK LN LS LL US UB BB) res) args s 0 0 A) (F0 m 0 ls []) from hgo _ _ hP hD hS
  clear hP hD hS
  intro H locs hP hD hS
  refine lv_aload_n hx hb dX3_likeTheFirst_0 rfl (lv_at hl 2 rfl) ?_
  refine lv_aload_n hx hb dX3_likeTheFirst_1 rfl (lv_at hl 0 rfl) ?_
  refine lv_iload_n hx hb dX3_likeTheFirst_2 rfl (lv_at hl 1 rfl) ?_
  refine lv_iconst (v := (0 : Int32)) hx hb dX3_likeTheFirst_3 (by decide) ?_
  obtain ⟨q1, hq1, hf⟩ := bnd hf
  refine kI_callV (As := [.int x1, .int (0 : Int32)]) (rest := [.ref ya]) S hP hD hS (c_X3_cellAt l D cI α gw gc gs ge gf cR cL cB pB SD RK RN RS RC RT LK LN LS LL US UB BB x1 (0 : Int32) q1 hq1) (cwV 2 hts gX3_likeTheFirst_X3_cellAt rfl rfl rfl (by decide +kernel) ⟨Nat.le_of_ble_eq_true rfl, Nat.le_of_ble_eq_true rfl⟩) 2 rfl rfl rfl hl.1 rfl (Nat.le_of_ble_eq_true rfl) dX3_likeTheFirst_4 ⟨Nat.zero_le _, Nat.zero_le _⟩ (fun H locs hP hD hS => ?_)
  have hP : va_P D vwCl (wC cI α gw gc gs ge gf cR cL cB pB SD RK RN RS RC RT LK LN LS LL US UB BB) H := hP
  have hD : va_D A (wC cI α gw gc gs ge gf cR cL cB pB SD RK RN RS RC RT LK LN LS LL US UB BB) := hD
  obtain ⟨g2, hf⟩ := gin_some hf
  refine va_iald hx hb hK hP yq 0 hy rfl g2 dX3_likeTheFirst_7 ?_
  refine lv_istore_n (lv' := [(3, .int (SY q1.toNatClampNeg)), (0, .ref (α 2)), (1, .int x1), (2, .ref ya)]) hx hb dX3_likeTheFirst_8 rfl hl (by decide) rfl (fun ls hl => ?_)
  refine lv_iconst (v := (0 : Int32)) hx hb dX3_likeTheFirst_9 (by decide) ?_
  refine lv_istore (lv' := [(4, .int (0 : Int32)), (3, .int (SY q1.toNatClampNeg)), (0, .ref (α 2)), (1, .int x1), (2, .ref ya)]) hx hb dX3_likeTheFirst_10 hl (by decide) rfl (fun ls hl => ?_)
  refine lv_iconst (v := (0 : Int32)) hx hb dX3_likeTheFirst_12 (by decide) ?_
  refine lv_istore (lv' := [(5, .int (0 : Int32)), (4, .int (0 : Int32)), (3, .int (SY q1.toNatClampNeg)), (0, .ref (α 2)), (1, .int x1), (2, .ref ya)]) hx hb dX3_likeTheFirst_13 hl (by decide) rfl (fun ls hl => ?_)
  exact w15 F _ _ _ _ H locs ls hf hP hD hS (lv_sub hl [3, 4, 5, 2, 1, 0] rfl)
abbrev rm_X3_rise : Room := { frames := 1, cells := 0, slots := 0, locals := 22 }
set_option maxHeartbeats 4000000 in
set_option maxRecDepth 100000 in
theorem c_X3_rise (l : Launch) (D : va_G) (cI : ClassId) (α : Nat → Nat) (gw gc gs ge gf cR cL cB pB : Int32) (SD RK RN RS RC RT LK LN LS LL US UB BB : Nat → Int32) (ya yq : Nat) (SY : Nat → Int32) (hy : (wC cI α gw gc gs ge gf cR cL cB pB SD RK RN RS RC RT LK LN LS LL US UB BB)[yq]? = some (ya, .inl (cI, 16, .inl SY))) (F : Nat) (x1 : Int32) (res : Int32) (hf : f_X3_rise RS RC SY F x1 = some res) : kI l yX3_rise wsX3_rise rm_X3_rise D cI [.ref (α 2), .int x1, .ref ya] (wC cI α gw gc gs ge gf cR cL cB pB SD RK RN RS RC RT LK LN LS LL US UB BB) (wC cI α gw gc gs ge gf cR cL cB pB SD RK RN RS RC RT LK LN LS LL US UB BB) res := by
  unfold f_X3_rise at hf
  refine kI_of (cc := cX3_rise) (maxL := 4) (ret := (some .boolean)) (by decide +kernel) rfl (Nat.le_of_ble_eq_true rfl) ?_
  intro p e s m args below meth c A ls S hP hD hS hl
  have S : kC p s m args meth c cX3_rise 4 wsX3_rise RX3 (some .boolean) D cI A := S
  have hx := S.1.1
  have hb := S.1.2.1
  have hml := S.1.2.2.1
  have hown : s.vm.findClass RX3 = some m.cls := S.1.2.2.2.1
  have hts := S.1.2.2.2.2
  have hK := S.2.2.2.1
  have hnk := S.2.2.2.2.1.2
  have hiX3 : ∀ w ∈ u_ws RX3 TX3 7, w ∈ wsX3_rise := by decide +kernel
  have fl18 := hts (.fieldLink RX3 18 "ProofChecker$Rules" "sizes" "[I") (by decide +kernel)
  have hl : lv_has ls 4 [(0, .ref (α 2)), (1, .int x1), (2, .ref ya)] := hl
  have w2 : ∀ (n : Nat), ∀ (x1 : Int32) (x3 : Int32) (H : Heap) (locs : List Loc) (ls : Array Slot), f_X3_rise_L2 RS RC SY F n x1 x3 = some res → va_P D vwCl (wC cI α gw gc gs ge gf cR cL cB pB SD RK RN RS RC RT LK LN LS LL US UB BB) H → va_D A (wC cI α gw gc gs ge gf cR cL cB pB SD RK RN RS RC RT LK LN LS LL US UB BB) → va_S A s.heap H locs → lv_has ls 4 [(0, .ref (α 2)), (1, .int x1), (2, .ref ya), (3, .int x3)] → W p l e rm_X3_rise s m args below meth c H locs 0 0 (MQ below (kQi D A (wC cI α gw gc gs ge gf cR cL cB pB SD RK RN RS RC RT LK LN LS LL US UB BB) res) args s 0 0 A) (F0 m 2 ls []) := by
    intro n
    induction n with
    | zero => intro x1 x3 H locs ls hf; cases hf
    | succ n ih =>
      intro x1 x3 H locs ls hf hP hD hS hl
      rw [f_X3_rise_L2.eq_2] at hf
      refine lv_iload_n hx hb dX3_rise_2 rfl (lv_at hl 3 rfl) ?_
      refine lv_aload_n hx hb dX3_rise_3 rfl (lv_at hl 0 rfl) ?_
      refine va_get (D := D) (ci := 4) (v := .ref (α 9)) (C := RX3) (T := TX3) (N := 7) hx hb hts hiX3 hown hK hP 2 rfl rfl 3 (by decide) fl18 (fun _ h9 => h9) rfl dX3_rise_4 ?_
      refine lv_iload_n hx hb dX3_rise_7 rfl (lv_at hl 1 rfl) ?_
      obtain ⟨g1, hf⟩ := gin_some hf
      refine va_iald hx hb hK hP 9 0 rfl rfl g1 dX3_rise_8 ?_
      refine lv_icmp_ge (tgt := 41) hx hb dX3_rise_9 (by decide) (fun c2 => ?_) (fun c2 => ?_)
      · have hf := it_t c2 hf
        refine lv_iconst (v := (1 : Int32)) hx hb dX3_rise_41 (by decide) ?_
        have e9 := Option.some.inj hf
        subst e9
        exact kI_ret S narrow_b1 hP hD hS dX3_rise_42
      · have hf := it_f c2 hf
        refine lv_aload_n hx hb dX3_rise_12 rfl (lv_at hl 2 rfl) ?_
        refine lv_aload_n hx hb dX3_rise_13 rfl (lv_at hl 0 rfl) ?_
        refine lv_iload_n hx hb dX3_rise_14 rfl (lv_at hl 1 rfl) ?_
        refine lv_iload_n hx hb dX3_rise_15 rfl (lv_at hl 3 rfl) ?_
        obtain ⟨q3, hq3, hf⟩ := bnd hf
        refine kI_callV (As := [.int x1, .int x3]) (rest := [.ref ya]) S hP hD hS (c_X3_cellAt l D cI α gw gc gs ge gf cR cL cB pB SD RK RN RS RC RT LK LN LS LL US UB BB x1 x3 q3 hq3) (cwV 2 hts gX3_rise_X3_cellAt rfl rfl rfl (by decide +kernel) ⟨Nat.le_of_ble_eq_true rfl, Nat.le_of_ble_eq_true rfl⟩) 2 rfl rfl rfl hl.1 rfl (Nat.le_of_ble_eq_true rfl) dX3_rise_16 ⟨Nat.zero_le _, Nat.zero_le _⟩ (fun H locs hP hD hS => ?_)
        have hP : va_P D vwCl (wC cI α gw gc gs ge gf cR cL cB pB SD RK RN RS RC RT LK LN LS LL US UB BB) H := hP
        have hD : va_D A (wC cI α gw gc gs ge gf cR cL cB pB SD RK RN RS RC RT LK LN LS LL US UB BB) := hD
        obtain ⟨g4, hf⟩ := gin_some hf
        refine va_iald hx hb hK hP yq 0 hy rfl g4 dX3_rise_19 ?_
        refine lv_aload_n hx hb dX3_rise_20 rfl (lv_at hl 2 rfl) ?_
        refine lv_aload_n hx hb dX3_rise_21 rfl (lv_at hl 0 rfl) ?_
        refine lv_iload_n hx hb dX3_rise_22 rfl (lv_at hl 1 rfl) ?_
        refine lv_iload_n hx hb dX3_rise_23 rfl (lv_at hl 3 rfl) ?_
        refine lv_iconst (v := (1 : Int32)) hx hb dX3_rise_24 (by decide) ?_
        refine lv_isub hx hb dX3_rise_25 ?_
        obtain ⟨q5, hq5, hf⟩ := bnd hf
        refine kI_callV (As := [.int x1, .int (x3 - (1 : Int32))]) (rest := [.ref ya, .int (SY q3.toNatClampNeg)]) S hP hD hS (c_X3_cellAt l D cI α gw gc gs ge gf cR cL cB pB SD RK RN RS RC RT LK LN LS LL US UB BB x1 (x3 - (1 : Int32)) q5 hq5) (cwV 2 hts gX3_rise_X3_cellAt rfl rfl rfl (by decide +kernel) ⟨Nat.le_of_ble_eq_true rfl, Nat.le_of_ble_eq_true rfl⟩) 2 rfl rfl rfl hl.1 rfl (Nat.le_of_ble_eq_true rfl) dX3_rise_26 ⟨Nat.zero_le _, Nat.zero_le _⟩ (fun H locs hP hD hS => ?_)
        have hP : va_P D vwCl (wC cI α gw gc gs ge gf cR cL cB pB SD RK RN RS RC RT LK LN LS LL US UB BB) H := hP
        have hD : va_D A (wC cI α gw gc gs ge gf cR cL cB pB SD RK RN RS RC RT LK LN LS LL US UB BB) := hD
        obtain ⟨g6, hf⟩ := gin_some hf
        refine va_iald hx hb hK hP yq 0 hy rfl g6 dX3_rise_29 ?_
        refine lv_icmp_gt (tgt := 35) hx hb dX3_rise_30 (by decide) (fun c7 => ?_) (fun c7 => ?_)
        · have hf := it_t c7 hf
          refine lv_iinc (v := (x3 + (1 : Int32))) (lv' := [(3, .int (x3 + (1 : Int32))), (0, .ref (α 2)), (1, .int x1), (2, .ref ya)]) hx hb dX3_rise_35 hl (k := 3) rfl rfl (by decide) rfl (fun ls hl => ?_)
          refine lv_goto (tgt := 2) hx hb dX3_rise_38 (by decide) ?_
          exact ih _ _ H locs ls hf hP hD hS (lv_sub hl [1, 2, 3, 0] rfl)
        · have hf := it_f c7 hf
          refine lv_iconst (v := (0 : Int32)) hx hb dX3_rise_33 (by decide) ?_
          have e9 := Option.some.inj hf
          subst e9
          exact kI_ret S narrow_b0 hP hD hS dX3_rise_34
  suffices hgo : ∀ (H : Heap) (locs : List Loc), va_P D vwCl (wC cI α gw gc gs ge gf cR cL cB pB SD RK RN RS RC RT LK LN LS LL US UB BB) H → va_D A (wC cI α gw gc gs ge gf cR cL cB pB SD RK RN RS RC RT LK LN LS LL US UB BB) → va_S A s.heap H locs → W p l e rm_X3_rise s m args below meth c H locs 0 0 (MQ below (kQi D A (wC cI α gw gc gs ge gf cR cL cB pB SD RK RN RS RC RT LK LN LS LL US UB BB) res) args s 0 0 A) (F0 m 0 ls []) from hgo _ _ hP hD hS
  clear hP hD hS
  intro H locs hP hD hS
  refine lv_iconst (v := (1 : Int32)) hx hb dX3_rise_0 (by decide) ?_
  refine lv_istore_n (lv' := [(3, .int (1 : Int32)), (0, .ref (α 2)), (1, .int x1), (2, .ref ya)]) hx hb dX3_rise_1 rfl hl (by decide) rfl (fun ls hl => ?_)
  exact w2 F _ _ H locs ls hf hP hD hS (lv_sub hl [1, 2, 3, 0] rfl)
abbrev rm_X3_sum : Room := { frames := 1, cells := 0, slots := 0, locals := 22 }
set_option maxHeartbeats 4000000 in
set_option maxRecDepth 100000 in
theorem c_X3_sum (l : Launch) (D : va_G) (cI : ClassId) (α : Nat → Nat) (gw gc gs ge gf cR cL cB pB : Int32) (SD RK RN RS RC RT LK LN LS LL US UB BB : Nat → Int32) (ya yq : Nat) (SY : Nat → Int32) (hy : (wC cI α gw gc gs ge gf cR cL cB pB SD RK RN RS RC RT LK LN LS LL US UB BB)[yq]? = some (ya, .inl (cI, 16, .inl SY))) (F : Nat) (x1 : Int32) (res : Int32) (hf : f_X3_sum RS RC SY F x1 = some res) : kI l yX3_sum wsX3_sum rm_X3_sum D cI [.ref (α 2), .int x1, .ref ya] (wC cI α gw gc gs ge gf cR cL cB pB SD RK RN RS RC RT LK LN LS LL US UB BB) (wC cI α gw gc gs ge gf cR cL cB pB SD RK RN RS RC RT LK LN LS LL US UB BB) res := by
  unfold f_X3_sum at hf
  refine kI_of (cc := cX3_sum) (maxL := 5) (ret := (some .int)) (by decide +kernel) rfl (Nat.le_of_ble_eq_true rfl) ?_
  intro p e s m args below meth c A ls S hP hD hS hl
  have S : kC p s m args meth c cX3_sum 5 wsX3_sum RX3 (some .int) D cI A := S
  have hx := S.1.1
  have hb := S.1.2.1
  have hml := S.1.2.2.1
  have hown : s.vm.findClass RX3 = some m.cls := S.1.2.2.2.1
  have hts := S.1.2.2.2.2
  have hK := S.2.2.2.1
  have hnk := S.2.2.2.2.1.2
  have hiX3 : ∀ w ∈ u_ws RX3 TX3 7, w ∈ wsX3_sum := by decide +kernel
  have fl18 := hts (.fieldLink RX3 18 "ProofChecker$Rules" "sizes" "[I") (by decide +kernel)
  have hl : lv_has ls 5 [(0, .ref (α 2)), (1, .int x1), (2, .ref ya)] := hl
  have w5 : ∀ (n : Nat), ∀ (x1 : Int32) (x3 : Int32) (x4 : Int32) (H : Heap) (locs : List Loc) (ls : Array Slot), f_X3_sum_L5 RS RC SY F n x1 x3 x4 = some res → va_P D vwCl (wC cI α gw gc gs ge gf cR cL cB pB SD RK RN RS RC RT LK LN LS LL US UB BB) H → va_D A (wC cI α gw gc gs ge gf cR cL cB pB SD RK RN RS RC RT LK LN LS LL US UB BB) → va_S A s.heap H locs → lv_has ls 5 [(0, .ref (α 2)), (1, .int x1), (2, .ref ya), (3, .int x3), (4, .int x4)] → W p l e rm_X3_sum s m args below meth c H locs 0 0 (MQ below (kQi D A (wC cI α gw gc gs ge gf cR cL cB pB SD RK RN RS RC RT LK LN LS LL US UB BB) res) args s 0 0 A) (F0 m 5 ls []) := by
    intro n
    induction n with
    | zero => intro x1 x3 x4 H locs ls hf; cases hf
    | succ n ih =>
      intro x1 x3 x4 H locs ls hf hP hD hS hl
      rw [f_X3_sum_L5.eq_2] at hf
      refine lv_iload hx hb dX3_sum_5 (lv_at hl 4 rfl) ?_
      refine lv_aload_n hx hb dX3_sum_7 rfl (lv_at hl 0 rfl) ?_
      refine va_get (D := D) (ci := 4) (v := .ref (α 9)) (C := RX3) (T := TX3) (N := 7) hx hb hts hiX3 hown hK hP 2 rfl rfl 3 (by decide) fl18 (fun _ h9 => h9) rfl dX3_sum_8 ?_
      refine lv_iload_n hx hb dX3_sum_11 rfl (lv_at hl 1 rfl) ?_
      obtain ⟨g1, hf⟩ := gin_some hf
      refine va_iald hx hb hK hP 9 0 rfl rfl g1 dX3_sum_12 ?_
      refine lv_icmp_ge (tgt := 34) hx hb dX3_sum_13 (by decide) (fun c2 => ?_) (fun c2 => ?_)
      · have hf := it_t c2 hf
        refine lv_iload_n hx hb dX3_sum_34 rfl (lv_at hl 3 rfl) ?_
        have e9 := Option.some.inj hf
        subst e9
        exact kI_ret S rfl hP hD hS dX3_sum_35
      · have hf := it_f c2 hf
        refine lv_iload_n hx hb dX3_sum_16 rfl (lv_at hl 3 rfl) ?_
        refine lv_aload_n hx hb dX3_sum_17 rfl (lv_at hl 2 rfl) ?_
        refine lv_aload_n hx hb dX3_sum_18 rfl (lv_at hl 0 rfl) ?_
        refine lv_iload_n hx hb dX3_sum_19 rfl (lv_at hl 1 rfl) ?_
        refine lv_iload hx hb dX3_sum_20 (lv_at hl 4 rfl) ?_
        obtain ⟨q3, hq3, hf⟩ := bnd hf
        refine kI_callV (As := [.int x1, .int x4]) (rest := [.ref ya, .int x3]) S hP hD hS (c_X3_cellAt l D cI α gw gc gs ge gf cR cL cB pB SD RK RN RS RC RT LK LN LS LL US UB BB x1 x4 q3 hq3) (cwV 2 hts gX3_sum_X3_cellAt rfl rfl rfl (by decide +kernel) ⟨Nat.le_of_ble_eq_true rfl, Nat.le_of_ble_eq_true rfl⟩) 2 rfl rfl rfl hl.1 rfl (Nat.le_of_ble_eq_true rfl) dX3_sum_22 ⟨Nat.zero_le _, Nat.zero_le _⟩ (fun H locs hP hD hS => ?_)
        have hP : va_P D vwCl (wC cI α gw gc gs ge gf cR cL cB pB SD RK RN RS RC RT LK LN LS LL US UB BB) H := hP
        have hD : va_D A (wC cI α gw gc gs ge gf cR cL cB pB SD RK RN RS RC RT LK LN LS LL US UB BB) := hD
        obtain ⟨g4, hf⟩ := gin_some hf
        refine va_iald hx hb hK hP yq 0 hy rfl g4 dX3_sum_25 ?_
        refine lv_iadd hx hb dX3_sum_26 ?_
        refine lv_istore_n (lv' := [(3, .int (x3 + (SY q3.toNatClampNeg))), (0, .ref (α 2)), (1, .int x1), (2, .ref ya), (4, .int x4)]) hx hb dX3_sum_27 rfl hl (by decide) rfl (fun ls hl => ?_)
        refine lv_iinc (v := (x4 + (1 : Int32))) (lv' := [(4, .int (x4 + (1 : Int32))), (3, .int (x3 + (SY q3.toNatClampNeg))), (0, .ref (α 2)), (1, .int x1), (2, .ref ya)]) hx hb dX3_sum_28 hl (k := 4) rfl rfl (by decide) rfl (fun ls hl => ?_)
        refine lv_goto (tgt := 5) hx hb dX3_sum_31 (by decide) ?_
        exact ih _ _ _ H locs ls hf hP hD hS (lv_sub hl [2, 3, 4, 1, 0] rfl)
  suffices hgo : ∀ (H : Heap) (locs : List Loc), va_P D vwCl (wC cI α gw gc gs ge gf cR cL cB pB SD RK RN RS RC RT LK LN LS LL US UB BB) H → va_D A (wC cI α gw gc gs ge gf cR cL cB pB SD RK RN RS RC RT LK LN LS LL US UB BB) → va_S A s.heap H locs → W p l e rm_X3_sum s m args below meth c H locs 0 0 (MQ below (kQi D A (wC cI α gw gc gs ge gf cR cL cB pB SD RK RN RS RC RT LK LN LS LL US UB BB) res) args s 0 0 A) (F0 m 0 ls []) from hgo _ _ hP hD hS
  clear hP hD hS
  intro H locs hP hD hS
  refine lv_iconst (v := (0 : Int32)) hx hb dX3_sum_0 (by decide) ?_
  refine lv_istore_n (lv' := [(3, .int (0 : Int32)), (0, .ref (α 2)), (1, .int x1), (2, .ref ya)]) hx hb dX3_sum_1 rfl hl (by decide) rfl (fun ls hl => ?_)
  refine lv_iconst (v := (0 : Int32)) hx hb dX3_sum_2 (by decide) ?_
  refine lv_istore (lv' := [(4, .int (0 : Int32)), (3, .int (0 : Int32)), (0, .ref (α 2)), (1, .int x1), (2, .ref ya)]) hx hb dX3_sum_3 hl (by decide) rfl (fun ls hl => ?_)
  exact w5 F _ _ _ H locs ls hf hP hD hS (lv_sub hl [2, 3, 4, 1, 0] rfl)
abbrev rm_X3_areUnlike : Room := { frames := 1, cells := 0, slots := 0, locals := 22 }
set_option maxHeartbeats 4000000 in
set_option maxRecDepth 100000 in
theorem c_X3_areUnlike (l : Launch) (D : va_G) (cI : ClassId) (α : Nat → Nat) (gw gc gs ge gf cR cL cB pB : Int32) (SD RK RN RS RC RT LK LN LS LL US UB BB : Nat → Int32) (ya yq : Nat) (SY : Nat → Int32) (hy : (wC cI α gw gc gs ge gf cR cL cB pB SD RK RN RS RC RT LK LN LS LL US UB BB)[yq]? = some (ya, .inl (cI, 16, .inl SY))) (F : Nat) (x1 : Int32) (res : Int32) (hf : f_X3_areUnlike RS RC SY F x1 = some res) : kI l yX3_areUnlike wsX3_areUnlike rm_X3_areUnlike D cI [.ref (α 2), .int x1, .ref ya] (wC cI α gw gc gs ge gf cR cL cB pB SD RK RN RS RC RT LK LN LS LL US UB BB) (wC cI α gw gc gs ge gf cR cL cB pB SD RK RN RS RC RT LK LN LS LL US UB BB) res := by
  unfold f_X3_areUnlike at hf
  refine kI_of (cc := cX3_areUnlike) (maxL := 6) (ret := (some .boolean)) (by decide +kernel) rfl (Nat.le_of_ble_eq_true rfl) ?_
  intro p e s m args below meth c A ls S hP hD hS hl
  have S : kC p s m args meth c cX3_areUnlike 6 wsX3_areUnlike RX3 (some .boolean) D cI A := S
  have hx := S.1.1
  have hb := S.1.2.1
  have hml := S.1.2.2.1
  have hown : s.vm.findClass RX3 = some m.cls := S.1.2.2.2.1
  have hts := S.1.2.2.2.2
  have hK := S.2.2.2.1
  have hnk := S.2.2.2.2.1.2
  have hiX3 : ∀ w ∈ u_ws RX3 TX3 7, w ∈ wsX3_areUnlike := by decide +kernel
  have fl18 := hts (.fieldLink RX3 18 "ProofChecker$Rules" "sizes" "[I") (by decide +kernel)
  have hl : lv_has ls 6 [(0, .ref (α 2)), (1, .int x1), (2, .ref ya)] := hl
  have w5 : ∀ (n : Nat), ∀ (x1 : Int32) (x3 : Int32) (x4 : Int32) (H : Heap) (locs : List Loc) (ls : Array Slot), f_X3_areUnlike_L5 RS RC SY F n x1 x3 x4 = some res → va_P D vwCl (wC cI α gw gc gs ge gf cR cL cB pB SD RK RN RS RC RT LK LN LS LL US UB BB) H → va_D A (wC cI α gw gc gs ge gf cR cL cB pB SD RK RN RS RC RT LK LN LS LL US UB BB) → va_S A s.heap H locs → lv_has ls 6 [(0, .ref (α 2)), (1, .int x1), (2, .ref ya), (3, .int x3), (4, .int x4)] → W p l e rm_X3_areUnlike s m args below meth c H locs 0 0 (MQ below (kQi D A (wC cI α gw gc gs ge gf cR cL cB pB SD RK RN RS RC RT LK LN LS LL US UB BB) res) args s 0 0 A) (F0 m 5 ls []) := by
    intro n
    induction n with
    | zero => intro x1 x3 x4 H locs ls hf; cases hf
    | succ n ih =>
      intro x1 x3 x4 H locs ls hf hP hD hS hl
      rw [f_X3_areUnlike_L5.eq_2] at hf
      refine lv_iload hx hb dX3_areUnlike_5 (lv_at hl 4 rfl) ?_
      refine lv_aload_n hx hb dX3_areUnlike_7 rfl (lv_at hl 0 rfl) ?_
      refine va_get (D := D) (ci := 4) (v := .ref (α 9)) (C := RX3) (T := TX3) (N := 7) hx hb hts hiX3 hown hK hP 2 rfl rfl 3 (by decide) fl18 (fun _ h9 => h9) rfl dX3_areUnlike_8 ?_
      refine lv_iload_n hx hb dX3_areUnlike_11 rfl (lv_at hl 1 rfl) ?_
      obtain ⟨g1, hf⟩ := gin_some hf
      refine va_iald hx hb hK hP 9 0 rfl rfl g1 dX3_areUnlike_12 ?_
      refine lv_icmp_ge (tgt := 49) hx hb dX3_areUnlike_13 (by decide) (fun c2 => ?_) (fun c2 => ?_)
      · have hf := it_t c2 hf
        refine lv_iconst (v := (1 : Int32)) hx hb dX3_areUnlike_49 (by decide) ?_
        have e9 := Option.some.inj hf
        subst e9
        exact kI_ret S narrow_b1 hP hD hS dX3_areUnlike_50
      · have hf := it_f c2 hf
        refine lv_iconst (v := (1 : Int32)) hx hb dX3_areUnlike_16 (by decide) ?_
        refine lv_aload_n hx hb dX3_areUnlike_17 rfl (lv_at hl 2 rfl) ?_
        refine lv_aload_n hx hb dX3_areUnlike_18 rfl (lv_at hl 0 rfl) ?_
        refine lv_iload_n hx hb dX3_areUnlike_19 rfl (lv_at hl 1 rfl) ?_
        refine lv_iload hx hb dX3_areUnlike_20 (lv_at hl 4 rfl) ?_
        obtain ⟨q3, hq3, hf⟩ := bnd hf
        refine kI_callV (As := [.int x1, .int x4]) (rest := [.ref ya, .int (1 : Int32)]) S hP hD hS (c_X3_cellAt l D cI α gw gc gs ge gf cR cL cB pB SD RK RN RS RC RT LK LN LS LL US UB BB x1 x4 q3 hq3) (cwV 2 hts gX3_areUnlike_X3_cellAt rfl rfl rfl (by decide +kernel) ⟨Nat.le_of_ble_eq_true rfl, Nat.le_of_ble_eq_true rfl⟩) 2 rfl rfl rfl hl.1 rfl (Nat.le_of_ble_eq_true rfl) dX3_areUnlike_22 ⟨Nat.zero_le _, Nat.zero_le _⟩ (fun H locs hP hD hS => ?_)
        have hP : va_P D vwCl (wC cI α gw gc gs ge gf cR cL cB pB SD RK RN RS RC RT LK LN LS LL US UB BB) H := hP
        have hD : va_D A (wC cI α gw gc gs ge gf cR cL cB pB SD RK RN RS RC RT LK LN LS LL US UB BB) := hD
        obtain ⟨g4, hf⟩ := gin_some hf
        refine va_iald hx hb hK hP yq 0 hy rfl g4 dX3_areUnlike_25 ?_
        refine lv_ishl hx hb dX3_areUnlike_26 ?_
        refine lv_istore (lv' := [(5, .int (((1 : Int32) <<< ((SY q3.toNatClampNeg) &&& 31)))), (0, .ref (α 2)), (1, .int x1), (2, .ref ya), (3, .int x3), (4, .int x4)]) hx hb dX3_areUnlike_27 hl (by decide) rfl (fun ls hl => ?_)
        refine lv_iload_n hx hb dX3_areUnlike_29 rfl (lv_at hl 4 rfl) ?_
        refine lv_iload hx hb dX3_areUnlike_30 (lv_at hl 0 rfl) ?_
        refine lv_iand hx hb dX3_areUnlike_32 ?_
        refine lv_if_eq (tgt := 38) hx hb dX3_areUnlike_33 (by decide) (fun c5 => ?_) (fun c5 => ?_)
        · have hf := it_t c5 hf
          refine lv_iload_n hx hb dX3_areUnlike_38 rfl (lv_at hl 4 rfl) ?_
          refine lv_iload hx hb dX3_areUnlike_39 (lv_at hl 0 rfl) ?_
          refine lv_ior hx hb dX3_areUnlike_41 ?_
          refine lv_istore_n (lv' := [(3, .int ((x3 ||| (((1 : Int32) <<< ((SY q3.toNatClampNeg) &&& 31)))))), (5, .int (((1 : Int32) <<< ((SY q3.toNatClampNeg) &&& 31)))), (0, .ref (α 2)), (1, .int x1), (2, .ref ya), (4, .int x4)]) hx hb dX3_areUnlike_42 rfl hl (by decide) rfl (fun ls hl => ?_)
          refine lv_iinc (v := (x4 + (1 : Int32))) (lv' := [(4, .int (x4 + (1 : Int32))), (3, .int ((x3 ||| (((1 : Int32) <<< ((SY q3.toNatClampNeg) &&& 31)))))), (5, .int (((1 : Int32) <<< ((SY q3.toNatClampNeg) &&& 31)))), (0, .ref (α 2)), (1, .int x1), (2, .ref ya)]) hx hb dX3_areUnlike_43 hl (k := 5) rfl rfl (by decide) rfl (fun ls hl => ?_)
          refine lv_goto (tgt := 5) hx hb dX3_areUnlike_46 (by decide) ?_
          exact ih _ _ _ H locs ls hf hP hD hS (lv_sub hl [3, 4, 5, 1, 0] rfl)
        · have hf := it_f c5 hf
          refine lv_iconst (v := (0 : Int32)) hx hb dX3_areUnlike_36 (by decide) ?_
          have e9 := Option.some.inj hf
          subst e9
          exact kI_ret S narrow_b0 hP hD hS dX3_areUnlike_37
  suffices hgo : ∀ (H : Heap) (locs : List Loc), va_P D vwCl (wC cI α gw gc gs ge gf cR cL cB pB SD RK RN RS RC RT LK LN LS LL US UB BB) H → va_D A (wC cI α gw gc gs ge gf cR cL cB pB SD RK RN RS RC RT LK LN LS LL US UB BB) → va_S A s.heap H locs → W p l e rm_X3_areUnlike s m args below meth c H locs 0 0 (MQ below (kQi D A (wC cI α gw gc gs ge gf cR cL cB pB SD RK RN RS RC RT LK LN LS LL US UB BB) res) args s 0 0 A) (F0 m 0 ls []) from hgo _ _ hP hD hS
  clear hP hD hS
  intro H locs hP hD hS
  refine lv_iconst (v := (0 : Int32)) hx hb dX3_areUnlike_0 (by decide) ?_
  refine lv_istore_n (lv' := [(3, .int (0 : Int32)), (0, .ref (α 2)), (1, .int x1), (2, .ref ya)]) hx hb dX3_areUnlike_1 rfl hl (by decide) rfl (fun ls hl => ?_)
  refine lv_iconst (v := (0 : Int32)) hx hb dX3_areUnlike_2 (by decide) ?_
  refine lv_istore (lv' := [(4, .int (0 : Int32)), (3, .int (0 : Int32)), (0, .ref (α 2)), (1, .int x1), (2, .ref ya)]) hx hb dX3_areUnlike_3 hl (by decide) rfl (fun ls hl => ?_)
  exact w5 F _ _ _ H locs ls hf hP hD hS (lv_sub hl [2, 3, 4, 1, 0] rfl)
abbrev rm_X3_cellsWithOne : Room := { frames := 1, cells := 0, slots := 0, locals := 22 }
set_option maxHeartbeats 4000000 in
set_option maxRecDepth 100000 in
theorem c_X3_cellsWithOne (l : Launch) (D : va_G) (cI : ClassId) (α : Nat → Nat) (gw gc gs ge gf cR cL cB pB : Int32) (SD RK RN RS RC RT LK LN LS LL US UB BB : Nat → Int32) (ya yq : Nat) (SY : Nat → Int32) (hy : (wC cI α gw gc gs ge gf cR cL cB pB SD RK RN RS RC RT LK LN LS LL US UB BB)[yq]? = some (ya, .inl (cI, 16, .inl SY))) (F : Nat) (x1 : Int32) (res : Int32) (hf : f_X3_cellsWithOne RS RC SY F x1 = some res) : kI l yX3_cellsWithOne wsX3_cellsWithOne rm_X3_cellsWithOne D cI [.ref (α 2), .int x1, .ref ya] (wC cI α gw gc gs ge gf cR cL cB pB SD RK RN RS RC RT LK LN LS LL US UB BB) (wC cI α gw gc gs ge gf cR cL cB pB SD RK RN RS RC RT LK LN LS LL US UB BB) res := by
  unfold f_X3_cellsWithOne at hf
  refine kI_of (cc := cX3_cellsWithOne) (maxL := 6) (ret := (some .int)) (by decide +kernel) rfl (Nat.le_of_ble_eq_true rfl) ?_
  intro p e s m args below meth c A ls S hP hD hS hl
  have S : kC p s m args meth c cX3_cellsWithOne 6 wsX3_cellsWithOne RX3 (some .int) D cI A := S
  have hx := S.1.1
  have hb := S.1.2.1
  have hml := S.1.2.2.1
  have hown : s.vm.findClass RX3 = some m.cls := S.1.2.2.2.1
  have hts := S.1.2.2.2.2
  have hK := S.2.2.2.1
  have hnk := S.2.2.2.2.1.2
  have hiX3 : ∀ w ∈ u_ws RX3 TX3 7, w ∈ wsX3_cellsWithOne := by decide +kernel
  have fl18 := hts (.fieldLink RX3 18 "ProofChecker$Rules" "sizes" "[I") (by decide +kernel)
  have hl : lv_has ls 6 [(0, .ref (α 2)), (1, .int x1), (2, .ref ya)] := hl
  have w40 : ∀ (k5 : Int32 → Int32 → Int32 → Option (Int32)) (hk5 : ∀ (x1 : Int32) (x3 : Int32) (x4 : Int32) (H : Heap) (locs : List Loc) (ls : Array Slot), k5 x1 x3 x4 = some res → va_P D vwCl (wC cI α gw gc gs ge gf cR cL cB pB SD RK RN RS RC RT LK LN LS LL US UB BB) H → va_D A (wC cI α gw gc gs ge gf cR cL cB pB SD RK RN RS RC RT LK LN LS LL US UB BB) → va_S A s.heap H locs → lv_has ls 6 [(0, .ref (α 2)), (1, .int x1), (2, .ref ya), (3, .int x3), (4, .int x4)] → W p l e rm_X3_cellsWithOne s m args below meth c H locs 0 0 (MQ below (kQi D A (wC cI α gw gc gs ge gf cR cL cB pB SD RK RN RS RC RT LK LN LS LL US UB BB) res) args s 0 0 A) (F0 m 5 ls [])), ∀ (x1 : Int32) (x3 : Int32) (x4 : Int32) (H : Heap) (locs : List Loc) (ls : Array Slot), f_X3_cellsWithOne_J40 RS RC SY k5 F x1 x3 x4 = some res → va_P D vwCl (wC cI α gw gc gs ge gf cR cL cB pB SD RK RN RS RC RT LK LN LS LL US UB BB) H → va_D A (wC cI α gw gc gs ge gf cR cL cB pB SD RK RN RS RC RT LK LN LS LL US UB BB) → va_S A s.heap H locs → lv_has ls 6 [(0, .ref (α 2)), (1, .int x1), (2, .ref ya), (3, .int x3), (4, .int x4)] → W p l e rm_X3_cellsWithOne s m args below meth c H locs 0 0 (MQ below (kQi D A (wC cI α gw gc gs ge gf cR cL cB pB SD RK RN RS RC RT LK LN LS LL US UB BB) res) args s 0 0 A) (F0 m 40 ls []) := by
    intro k5 hk5 x1 x3 x4 H locs ls hf hP hD hS hl
    unfold f_X3_cellsWithOne_J40 at hf
    refine lv_iinc (v := (x4 + (1 : Int32))) (lv' := [(4, .int (x4 + (1 : Int32))), (0, .ref (α 2)), (1, .int x1), (2, .ref ya), (3, .int x3)]) hx hb dX3_cellsWithOne_40 hl (k := 4) rfl rfl (by decide) rfl (fun ls hl => ?_)
    refine lv_goto (tgt := 5) hx hb dX3_cellsWithOne_43 (by decide) ?_
    exact hk5 _ _ _ H locs ls hf hP hD hS (lv_sub hl [1, 2, 3, 4, 0] rfl)
  have w5 : ∀ (n : Nat), ∀ (x1 : Int32) (x3 : Int32) (x4 : Int32) (H : Heap) (locs : List Loc) (ls : Array Slot), f_X3_cellsWithOne_L5 RS RC SY F n x1 x3 x4 = some res → va_P D vwCl (wC cI α gw gc gs ge gf cR cL cB pB SD RK RN RS RC RT LK LN LS LL US UB BB) H → va_D A (wC cI α gw gc gs ge gf cR cL cB pB SD RK RN RS RC RT LK LN LS LL US UB BB) → va_S A s.heap H locs → lv_has ls 6 [(0, .ref (α 2)), (1, .int x1), (2, .ref ya), (3, .int x3), (4, .int x4)] → W p l e rm_X3_cellsWithOne s m args below meth c H locs 0 0 (MQ below (kQi D A (wC cI α gw gc gs ge gf cR cL cB pB SD RK RN RS RC RT LK LN LS LL US UB BB) res) args s 0 0 A) (F0 m 5 ls []) := by
    intro n
    induction n with
    | zero => intro x1 x3 x4 H locs ls hf; cases hf
    | succ n ih =>
      intro x1 x3 x4 H locs ls hf hP hD hS hl
      rw [f_X3_cellsWithOne_L5.eq_2] at hf
      refine lv_iload hx hb dX3_cellsWithOne_5 (lv_at hl 4 rfl) ?_
      refine lv_aload_n hx hb dX3_cellsWithOne_7 rfl (lv_at hl 0 rfl) ?_
      refine va_get (D := D) (ci := 4) (v := .ref (α 9)) (C := RX3) (T := TX3) (N := 7) hx hb hts hiX3 hown hK hP 2 rfl rfl 3 (by decide) fl18 (fun _ h9 => h9) rfl dX3_cellsWithOne_8 ?_
      refine lv_iload_n hx hb dX3_cellsWithOne_11 rfl (lv_at hl 1 rfl) ?_
      obtain ⟨g1, hf⟩ := gin_some hf
      refine va_iald hx hb hK hP 9 0 rfl rfl g1 dX3_cellsWithOne_12 ?_
      refine lv_icmp_ge (tgt := 46) hx hb dX3_cellsWithOne_13 (by decide) (fun c2 => ?_) (fun c2 => ?_)
      · have hf := it_t c2 hf
        refine lv_iload_n hx hb dX3_cellsWithOne_46 rfl (lv_at hl 3 rfl) ?_
        have e9 := Option.some.inj hf
        subst e9
        exact kI_ret S rfl hP hD hS dX3_cellsWithOne_47
      · have hf := it_f c2 hf
        refine lv_aload_n hx hb dX3_cellsWithOne_16 rfl (lv_at hl 0 rfl) ?_
        refine lv_iload_n hx hb dX3_cellsWithOne_17 rfl (lv_at hl 1 rfl) ?_
        refine lv_iload hx hb dX3_cellsWithOne_18 (lv_at hl 4 rfl) ?_
        obtain ⟨q3, hq3, hf⟩ := bnd hf
        refine kI_callV (As := [.int x1, .int x4]) (rest := []) S hP hD hS (c_X3_cellAt l D cI α gw gc gs ge gf cR cL cB pB SD RK RN RS RC RT LK LN LS LL US UB BB x1 x4 q3 hq3) (cwV 2 hts gX3_cellsWithOne_X3_cellAt rfl rfl rfl (by decide +kernel) ⟨Nat.le_of_ble_eq_true rfl, Nat.le_of_ble_eq_true rfl⟩) 2 rfl rfl rfl hl.1 rfl (Nat.le_of_ble_eq_true rfl) dX3_cellsWithOne_20 ⟨Nat.zero_le _, Nat.zero_le _⟩ (fun H locs hP hD hS => ?_)
        have hP : va_P D vwCl (wC cI α gw gc gs ge gf cR cL cB pB SD RK RN RS RC RT LK LN LS LL US UB BB) H := hP
        have hD : va_D A (wC cI α gw gc gs ge gf cR cL cB pB SD RK RN RS RC RT LK LN LS LL US UB BB) := hD
        refine lv_istore (lv' := [(5, .int q3), (0, .ref (α 2)), (1, .int x1), (2, .ref ya), (3, .int x3), (4, .int x4)]) hx hb dX3_cellsWithOne_23 hl (by decide) rfl (fun ls hl => ?_)
        refine lv_aload_n hx hb dX3_cellsWithOne_25 rfl (lv_at hl 3 rfl) ?_
        refine lv_iload hx hb dX3_cellsWithOne_26 (lv_at hl 0 rfl) ?_
        obtain ⟨g4, hf⟩ := gin_some hf
        refine va_iald hx hb hK hP yq 0 hy rfl g4 dX3_cellsWithOne_28 ?_
        refine lv_iconst (v := (1 : Int32)) hx hb dX3_cellsWithOne_29 (by decide) ?_
        refine lv_icmp_ne (tgt := 40) hx hb dX3_cellsWithOne_30 (by decide) (fun c5 => ?_) (fun c5 => ?_)
        · have hf := it_t c5 hf
          exact w40 _ ih _ _ _ H locs ls hf hP hD hS (lv_sub hl [1, 2, 3, 4, 5] rfl)
        · have hf := it_f (fun h9 => h9 c5) hf
          refine lv_iload_n hx hb dX3_cellsWithOne_33 rfl (lv_at hl 4 rfl) ?_
          refine lv_iconst (v := (1 : Int32)) hx hb dX3_cellsWithOne_34 (by decide) ?_
          refine lv_iload hx hb dX3_cellsWithOne_35 (lv_at hl 0 rfl) ?_
          refine lv_ishl hx hb dX3_cellsWithOne_37 ?_
          refine lv_ior hx hb dX3_cellsWithOne_38 ?_
          refine lv_istore_n (lv' := [(3, .int ((x3 ||| ((1 : Int32) <<< (q3 &&& 31))))), (5, .int q3), (0, .ref (α 2)), (1, .int x1), (2, .ref ya), (4, .int x4)]) hx hb dX3_cellsWithOne_39 rfl hl (by decide) rfl (fun ls hl => ?_)
          exact w40 _ ih _ _ _ H locs ls hf hP hD hS (lv_sub hl [2, 3, 4, 0, 5] rfl)
  suffices hgo : ∀ (H : Heap) (locs : List Loc), va_P D vwCl (wC cI α gw gc gs ge gf cR cL cB pB SD RK RN RS RC RT LK LN LS LL US UB BB) H → va_D A (wC cI α gw gc gs ge gf cR cL cB pB SD RK RN RS RC RT LK LN LS LL US UB BB) → va_S A s.heap H locs → W p l e rm_X3_cellsWithOne s m args below meth c H locs 0 0 (MQ below (kQi D A (wC cI α gw gc gs ge gf cR cL cB pB SD RK RN RS RC RT LK LN LS LL US UB BB) res) args s 0 0 A) (F0 m 0 ls []) from hgo _ _ hP hD hS
  clear hP hD hS
  intro H locs hP hD hS
  refine lv_iconst (v := (0 : Int32)) hx hb dX3_cellsWithOne_0 (by decide) ?_
  refine lv_istore_n (lv' := [(3, .int (0 : Int32)), (0, .ref (α 2)), (1, .int x1), (2, .ref ya)]) hx hb dX3_cellsWithOne_1 rfl hl (by decide) rfl (fun ls hl => ?_)
  refine lv_iconst (v := (0 : Int32)) hx hb dX3_cellsWithOne_2 (by decide) ?_
  refine lv_istore (lv' := [(4, .int (0 : Int32)), (3, .int (0 : Int32)), (0, .ref (α 2)), (1, .int x1), (2, .ref ya)]) hx hb dX3_cellsWithOne_3 hl (by decide) rfl (fun ls hl => ?_)
  exact w5 F _ _ _ H locs ls hf hP hD hS (lv_sub hl [2, 3, 4, 1, 0] rfl)
abbrev rm_X3_meets : Room := { frames := 2, cells := 0, slots := 0, locals := 47 }
set_option maxHeartbeats 4000000 in
set_option maxRecDepth 100000 in
theorem c_X3_meets (l : Launch) (D : va_G) (cI : ClassId) (α : Nat → Nat) (gw gc gs ge gf cR cL cB pB : Int32) (SD RK RN RS RC RT LK LN LS LL US UB BB : Nat → Int32) (ya yq : Nat) (SY : Nat → Int32) (hy : (wC cI α gw gc gs ge gf cR cL cB pB SD RK RN RS RC RT LK LN LS LL US UB BB)[yq]? = some (ya, .inl (cI, 16, .inl SY))) (F : Nat) (x1 : Int32) (res : Int32) (hf : f_X3_meets gw gc ge gf RK RN RS RC SY F x1 = some res) : kI l yX3_meets wsX3_meets rm_X3_meets D cI [.ref (α 2), .int x1, .ref ya] (wC cI α gw gc gs ge gf cR cL cB pB SD RK RN RS RC RT LK LN LS LL US UB BB) (wC cI α gw gc gs ge gf cR cL cB pB SD RK RN RS RC RT LK LN LS LL US UB BB) res := by
  unfold f_X3_meets at hf
  refine kI_of (cc := cX3_meets) (maxL := 3) (ret := (some .boolean)) (by decide +kernel) rfl (Nat.le_of_ble_eq_true rfl) ?_
  intro p e s m args below meth c A ls S hP hD hS hl
  have S : kC p s m args meth c cX3_meets 3 wsX3_meets RX3 (some .boolean) D cI A := S
  have hx := S.1.1
  have hb := S.1.2.1
  have hml := S.1.2.2.1
  have hown : s.vm.findClass RX3 = some m.cls := S.1.2.2.2.1
  have hts := S.1.2.2.2.2
  have hK := S.2.2.2.1
  have hnk := S.2.2.2.2.1.2
  have hiX3 : ∀ w ∈ u_ws RX3 TX3 7, w ∈ wsX3_meets := by decide +kernel
  have fl11 := hts (.fieldLink RX3 11 "ProofChecker$Rules" "kinds" "[I") (by decide +kernel)
  have fl15 := hts (.fieldLink RX3 15 "ProofChecker$Rules" "numbers" "[I") (by decide +kernel)
  have fl18 := hts (.fieldLink RX3 18 "ProofChecker$Rules" "sizes" "[I") (by decide +kernel)
  have fl33 := hts (.fieldLink RX3 33 "ProofChecker$Rules" "grid" "LProofChecker$Grid;") (by decide +kernel)
  have hl : lv_has ls 3 [(0, .ref (α 2)), (1, .int x1), (2, .ref ya)] := hl
  suffices hgo : ∀ (H : Heap) (locs : List Loc), va_P D vwCl (wC cI α gw gc gs ge gf cR cL cB pB SD RK RN RS RC RT LK LN LS LL US UB BB) H → va_D A (wC cI α gw gc gs ge gf cR cL cB pB SD RK RN RS RC RT LK LN LS LL US UB BB) → va_S A s.heap H locs → W p l e rm_X3_meets s m args below meth c H locs 0 0 (MQ below (kQi D A (wC cI α gw gc gs ge gf cR cL cB pB SD RK RN RS RC RT LK LN LS LL US UB BB) res) args s 0 0 A) (F0 m 0 ls []) from hgo _ _ hP hD hS
  clear hP hD hS
  intro H locs hP hD hS
  refine lv_aload_n hx hb dX3_meets_0 rfl (lv_at hl 0 rfl) ?_
  refine va_get (D := D) (ci := 4) (v := .ref (α 7)) (C := RX3) (T := TX3) (N := 7) hx hb hts hiX3 hown hK hP 2 rfl rfl 1 (by decide) fl11 (fun _ h9 => h9) rfl dX3_meets_1 ?_
  refine lv_iload_n hx hb dX3_meets_4 rfl (lv_at hl 1 rfl) ?_
  obtain ⟨g1, hf⟩ := gin_some hf
  refine va_iald hx hb hK hP 7 0 rfl rfl g1 dX3_meets_5 ?_
  by_cases c2 : (RK x1.toNatClampNeg) = (0 : Int32)
  · have hf := it_t c2 hf
    refine sw_in (k := (0 : Int32)) (tgt := 36) hx hb c2 dX3_meets_6 (by decide) (by decide) rfl (by decide) ?_
    refine lv_aload_n hx hb dX3_meets_36 rfl (lv_at hl 0 rfl) ?_
    refine lv_iload_n hx hb dX3_meets_37 rfl (lv_at hl 1 rfl) ?_
    refine lv_aload_n hx hb dX3_meets_38 rfl (lv_at hl 2 rfl) ?_
    obtain ⟨q3, hq3, hf⟩ := bnd hf
    refine kI_callV (As := [.int x1, .ref ya]) (rest := []) S hP hD hS (c_X3_areUnlike l D cI α gw gc gs ge gf cR cL cB pB SD RK RN RS RC RT LK LN LS LL US UB BB ya yq SY hy F x1 q3 hq3) (cwV 2 hts gX3_meets_X3_areUnlike rfl rfl rfl (by decide +kernel) ⟨Nat.le_of_ble_eq_true rfl, Nat.le_of_ble_eq_true rfl⟩) 2 rfl rfl rfl hl.1 rfl (Nat.le_of_ble_eq_true rfl) dX3_meets_39 ⟨Nat.zero_le _, Nat.zero_le _⟩ (fun H locs hP hD hS => ?_)
    have hP : va_P D vwCl (wC cI α gw gc gs ge gf cR cL cB pB SD RK RN RS RC RT LK LN LS LL US UB BB) H := hP
    have hD : va_D A (wC cI α gw gc gs ge gf cR cL cB pB SD RK RN RS RC RT LK LN LS LL US UB BB) := hD
    obtain ⟨g4, hf⟩ := gbl_some hf
    have e9 := Option.some.inj hf
    subst e9
    exact kI_ret S (nar_b g4) hP hD hS dX3_meets_42
  have hf := it_f c2 hf
  by_cases c5 : (RK x1.toNatClampNeg) = (1 : Int32)
  · have hf := it_t c5 hf
    refine sw_in (k := (1 : Int32)) (tgt := 43) hx hb c5 dX3_meets_6 (by decide) (by decide) rfl (by decide) ?_
    refine lv_aload_n hx hb dX3_meets_43 rfl (lv_at hl 0 rfl) ?_
    refine lv_iload_n hx hb dX3_meets_44 rfl (lv_at hl 1 rfl) ?_
    refine lv_aload_n hx hb dX3_meets_45 rfl (lv_at hl 2 rfl) ?_
    obtain ⟨q6, hq6, hf⟩ := bnd hf
    refine kI_callV (As := [.int x1, .ref ya]) (rest := []) S hP hD hS (c_X3_sum l D cI α gw gc gs ge gf cR cL cB pB SD RK RN RS RC RT LK LN LS LL US UB BB ya yq SY hy F x1 q6 hq6) (cwV 2 hts gX3_meets_X3_sum rfl rfl rfl (by decide +kernel) ⟨Nat.le_of_ble_eq_true rfl, Nat.le_of_ble_eq_true rfl⟩) 2 rfl rfl rfl hl.1 rfl (Nat.le_of_ble_eq_true rfl) dX3_meets_46 ⟨Nat.zero_le _, Nat.zero_le _⟩ (fun H locs hP hD hS => ?_)
    have hP : va_P D vwCl (wC cI α gw gc gs ge gf cR cL cB pB SD RK RN RS RC RT LK LN LS LL US UB BB) H := hP
    have hD : va_D A (wC cI α gw gc gs ge gf cR cL cB pB SD RK RN RS RC RT LK LN LS LL US UB BB) := hD
    refine lv_aload_n hx hb dX3_meets_49 rfl (lv_at hl 0 rfl) ?_
    refine va_get (D := D) (ci := 4) (v := .ref (α 8)) (C := RX3) (T := TX3) (N := 7) hx hb hts hiX3 hown hK hP 2 rfl rfl 2 (by decide) fl15 (fun _ h9 => h9) rfl dX3_meets_50 ?_
    refine lv_iload_n hx hb dX3_meets_53 rfl (lv_at hl 1 rfl) ?_
    obtain ⟨g7, hf⟩ := gin_some hf
    refine va_iald hx hb hK hP 8 0 rfl rfl g7 dX3_meets_54 ?_
    refine lv_icmp_ne (tgt := 62) hx hb dX3_meets_55 (by decide) (fun c8 => ?_) (fun c8 => ?_)
    · have hf := it_t c8 hf
      refine lv_iconst (v := (0 : Int32)) hx hb dX3_meets_62 (by decide) ?_
      have e9 := Option.some.inj hf
      subst e9
      exact kI_ret S narrow_b0 hP hD hS dX3_meets_63
    · have hf := it_f (fun h9 => h9 c8) hf
      refine lv_iconst (v := (1 : Int32)) hx hb dX3_meets_58 (by decide) ?_
      refine lv_goto (tgt := 63) hx hb dX3_meets_59 (by decide) ?_
      have e9 := Option.some.inj hf
      subst e9
      exact kI_ret S narrow_b1 hP hD hS dX3_meets_63
  have hf := it_f c5 hf
  by_cases c9 : (RK x1.toNatClampNeg) = (2 : Int32)
  · have hf := it_t c9 hf
    refine sw_in (k := (2 : Int32)) (tgt := 64) hx hb c9 dX3_meets_6 (by decide) (by decide) rfl (by decide) ?_
    refine lv_aload_n hx hb dX3_meets_64 rfl (lv_at hl 0 rfl) ?_
    refine lv_iload_n hx hb dX3_meets_65 rfl (lv_at hl 1 rfl) ?_
    refine lv_aload_n hx hb dX3_meets_66 rfl (lv_at hl 2 rfl) ?_
    obtain ⟨q10, hq10, hf⟩ := bnd hf
    refine kI_callV (As := [.int x1, .ref ya]) (rest := []) S hP hD hS (c_X3_rise l D cI α gw gc gs ge gf cR cL cB pB SD RK RN RS RC RT LK LN LS LL US UB BB ya yq SY hy F x1 q10 hq10) (cwV 2 hts gX3_meets_X3_rise rfl rfl rfl (by decide +kernel) ⟨Nat.le_of_ble_eq_true rfl, Nat.le_of_ble_eq_true rfl⟩) 2 rfl rfl rfl hl.1 rfl (Nat.le_of_ble_eq_true rfl) dX3_meets_67 ⟨Nat.zero_le _, Nat.zero_le _⟩ (fun H locs hP hD hS => ?_)
    have hP : va_P D vwCl (wC cI α gw gc gs ge gf cR cL cB pB SD RK RN RS RC RT LK LN LS LL US UB BB) H := hP
    have hD : va_D A (wC cI α gw gc gs ge gf cR cL cB pB SD RK RN RS RC RT LK LN LS LL US UB BB) := hD
    obtain ⟨g11, hf⟩ := gbl_some hf
    have e9 := Option.some.inj hf
    subst e9
    exact kI_ret S (nar_b g11) hP hD hS dX3_meets_70
  have hf := it_f c9 hf
  by_cases c12 : (RK x1.toNatClampNeg) = (3 : Int32)
  · have hf := it_t c12 hf
    refine sw_in (k := (3 : Int32)) (tgt := 71) hx hb c12 dX3_meets_6 (by decide) (by decide) rfl (by decide) ?_
    refine lv_aload_n hx hb dX3_meets_71 rfl (lv_at hl 0 rfl) ?_
    refine va_get (D := D) (ci := 4) (v := .ref (α 9)) (C := RX3) (T := TX3) (N := 7) hx hb hts hiX3 hown hK hP 2 rfl rfl 3 (by decide) fl18 (fun _ h9 => h9) rfl dX3_meets_72 ?_
    refine lv_iload_n hx hb dX3_meets_75 rfl (lv_at hl 1 rfl) ?_
    obtain ⟨g13, hf⟩ := gin_some hf
    refine va_iald hx hb hK hP 9 0 rfl rfl g13 dX3_meets_76 ?_
    refine lv_if_eq (tgt := 95) hx hb dX3_meets_77 (by decide) (fun c14 => ?_) (fun c14 => ?_)
    · have hf := it_t c14 hf
      refine lv_iconst (v := (1 : Int32)) hx hb dX3_meets_95 (by decide) ?_
      refine lv_goto (tgt := 100) hx hb dX3_meets_96 (by decide) ?_
      have e9 := Option.some.inj hf
      subst e9
      exact kI_ret S narrow_b1 hP hD hS dX3_meets_100
    · have hf := it_f c14 hf
      refine lv_aload_n hx hb dX3_meets_80 rfl (lv_at hl 0 rfl) ?_
      refine lv_iload_n hx hb dX3_meets_81 rfl (lv_at hl 1 rfl) ?_
      refine lv_aload_n hx hb dX3_meets_82 rfl (lv_at hl 2 rfl) ?_
      obtain ⟨q15, hq15, hf⟩ := bnd hf
      refine kI_callV (As := [.int x1, .ref ya]) (rest := []) S hP hD hS (c_X3_likeTheFirst l D cI α gw gc gs ge gf cR cL cB pB SD RK RN RS RC RT LK LN LS LL US UB BB ya yq SY hy F x1 q15 hq15) (cwV 2 hts gX3_meets_X3_likeTheFirst rfl rfl rfl (by decide +kernel) ⟨Nat.le_of_ble_eq_true rfl, Nat.le_of_ble_eq_true rfl⟩) 2 rfl rfl rfl hl.1 rfl (Nat.le_of_ble_eq_true rfl) dX3_meets_83 ⟨Nat.zero_le _, Nat.zero_le _⟩ (fun H locs hP hD hS => ?_)
      have hP : va_P D vwCl (wC cI α gw gc gs ge gf cR cL cB pB SD RK RN RS RC RT LK LN LS LL US UB BB) H := hP
      have hD : va_D A (wC cI α gw gc gs ge gf cR cL cB pB SD RK RN RS RC RT LK LN LS LL US UB BB) := hD
      refine lv_aload_n hx hb dX3_meets_86 rfl (lv_at hl 0 rfl) ?_
      refine va_get (D := D) (ci := 4) (v := .ref (α 8)) (C := RX3) (T := TX3) (N := 7) hx hb hts hiX3 hown hK hP 2 rfl rfl 2 (by decide) fl15 (fun _ h9 => h9) rfl dX3_meets_87 ?_
      refine lv_iload_n hx hb dX3_meets_90 rfl (lv_at hl 1 rfl) ?_
      obtain ⟨g16, hf⟩ := gin_some hf
      refine va_iald hx hb hK hP 8 0 rfl rfl g16 dX3_meets_91 ?_
      refine lv_icmp_ne (tgt := 99) hx hb dX3_meets_92 (by decide) (fun c17 => ?_) (fun c17 => ?_)
      · have hf := it_t c17 hf
        refine lv_iconst (v := (0 : Int32)) hx hb dX3_meets_99 (by decide) ?_
        have e9 := Option.some.inj hf
        subst e9
        exact kI_ret S narrow_b0 hP hD hS dX3_meets_100
      · have hf := it_f (fun h9 => h9 c17) hf
        refine lv_iconst (v := (1 : Int32)) hx hb dX3_meets_95 (by decide) ?_
        refine lv_goto (tgt := 100) hx hb dX3_meets_96 (by decide) ?_
        have e9 := Option.some.inj hf
        subst e9
        exact kI_ret S narrow_b1 hP hD hS dX3_meets_100
  have hf := it_f c12 hf
  refine lv_tableOut (tgt := 101) hx hb dX3_meets_6 (by have e0 := lv_neT (a := 0) c2 rfl; have e1 := lv_neT (a := 1) c5 rfl; have e2 := lv_neT (a := 2) c9 rfl; have e3 := lv_neT (a := 3) c12 rfl; omega) (by decide) ?_
  refine lv_aload_n hx hb dX3_meets_101 rfl (lv_at hl 0 rfl) ?_
  refine va_get (D := D) (ci := 4) (v := .ref (α 1)) (C := RX3) (T := TX3) (N := 7) hx hb hts hiX3 hown hK hP 2 rfl rfl 0 (by decide) fl33 (fun _ h9 => h9) rfl dX3_meets_102 ?_
  refine lv_aload_n hx hb dX3_meets_105 rfl (lv_at hl 0 rfl) ?_
  refine lv_iload_n hx hb dX3_meets_106 rfl (lv_at hl 1 rfl) ?_
  refine lv_aload_n hx hb dX3_meets_107 rfl (lv_at hl 2 rfl) ?_
  obtain ⟨q18, hq18, hf⟩ := bnd hf
  refine kI_callV (As := [.int x1, .ref ya]) (rest := [.ref (α 1)]) S hP hD hS (c_X3_cellsWithOne l D cI α gw gc gs ge gf cR cL cB pB SD RK RN RS RC RT LK LN LS LL US UB BB ya yq SY hy F x1 q18 hq18) (cwV 2 hts gX3_meets_X3_cellsWithOne rfl rfl rfl (by decide +kernel) ⟨Nat.le_of_ble_eq_true rfl, Nat.le_of_ble_eq_true rfl⟩) 2 rfl rfl rfl hl.1 rfl (Nat.le_of_ble_eq_true rfl) dX3_meets_108 ⟨Nat.zero_le _, Nat.zero_le _⟩ (fun H locs hP hD hS => ?_)
  have hP : va_P D vwCl (wC cI α gw gc gs ge gf cR cL cB pB SD RK RN RS RC RT LK LN LS LL US UB BB) H := hP
  have hD : va_D A (wC cI α gw gc gs ge gf cR cL cB pB SD RK RN RS RC RT LK LN LS LL US UB BB) := hD
  obtain ⟨q19, hq19, hf⟩ := bnd hf
  refine kI_callV (As := [.int q18]) (rest := []) S hP hD hS (c_X0_hangTogether l D cI α gw gc gs ge gf cR cL cB pB SD RK RN RS RC RT LK LN LS LL US UB BB F q18 q19 hq19) (cwV 1 hts gX3_meets_X0_hangTogether rfl rfl rfl (by decide +kernel) ⟨Nat.le_of_ble_eq_true rfl, Nat.le_of_ble_eq_true rfl⟩) 1 rfl rfl rfl hl.1 rfl (Nat.le_of_ble_eq_true rfl) dX3_meets_111 ⟨Nat.zero_le _, Nat.zero_le _⟩ (fun H locs hP hD hS => ?_)
  have hP : va_P D vwCl (wC cI α gw gc gs ge gf cR cL cB pB SD RK RN RS RC RT LK LN LS LL US UB BB) H := hP
  have hD : va_D A (wC cI α gw gc gs ge gf cR cL cB pB SD RK RN RS RC RT LK LN LS LL US UB BB) := hD
  obtain ⟨g20, hf⟩ := gbl_some hf
  have e9 := Option.some.inj hf
  subst e9
  exact kI_ret S (nar_b g20) hP hD hS dX3_meets_114
abbrev rm_X3_canBeTried : Room := { frames := 1, cells := 0, slots := 0, locals := 20 }
set_option maxHeartbeats 4000000 in
set_option maxRecDepth 100000 in
theorem c_X3_canBeTried (l : Launch) (D : va_G) (cI : ClassId) (α : Nat → Nat) (gw gc gs ge gf cR cL cB pB : Int32) (SD RK RN RS RC RT LK LN LS LL US UB BB : Nat → Int32) (F : Nat) (x1 : Int32) (res : Int32) (hf : f_X3_canBeTried gs RS F x1 = some res) : kI l yX3_canBeTried wsX3_canBeTried rm_X3_canBeTried D cI [.ref (α 2), .int x1] (wC cI α gw gc gs ge gf cR cL cB pB SD RK RN RS RC RT LK LN LS LL US UB BB) (wC cI α gw gc gs ge gf cR cL cB pB SD RK RN RS RC RT LK LN LS LL US UB BB) res := by
  unfold f_X3_canBeTried at hf
  refine kI_of (cc := cX3_canBeTried) (maxL := 4) (ret := (some .boolean)) (by decide +kernel) rfl (Nat.le_of_ble_eq_true rfl) ?_
  intro p e s m args below meth c A ls S hP hD hS hl
  have S : kC p s m args meth c cX3_canBeTried 4 wsX3_canBeTried RX3 (some .boolean) D cI A := S
  have hx := S.1.1
  have hb := S.1.2.1
  have hml := S.1.2.2.1
  have hown : s.vm.findClass RX3 = some m.cls := S.1.2.2.2.1
  have hts := S.1.2.2.2.2
  have hK := S.2.2.2.1
  have hnk := S.2.2.2.2.1.2
  have hiX3 : ∀ w ∈ u_ws RX3 TX3 7, w ∈ wsX3_canBeTried := by decide +kernel
  have fl18 := hts (.fieldLink RX3 18 "ProofChecker$Rules" "sizes" "[I") (by decide +kernel)
  have fl33 := hts (.fieldLink RX3 33 "ProofChecker$Rules" "grid" "LProofChecker$Grid;") (by decide +kernel)
  have hl : lv_has ls 4 [(0, .ref (α 2)), (1, .int x1)] := hl
  have w4 : ∀ (n : Nat), ∀ (x1 : Int32) (x2 : Int32) (x3 : Int32) (H : Heap) (locs : List Loc) (ls : Array Slot), f_X3_canBeTried_L4 gs RS F n x1 x2 x3 = some res → va_P D vwCl (wC cI α gw gc gs ge gf cR cL cB pB SD RK RN RS RC RT LK LN LS LL US UB BB) H → va_D A (wC cI α gw gc gs ge gf cR cL cB pB SD RK RN RS RC RT LK LN LS LL US UB BB) → va_S A s.heap H locs → lv_has ls 4 [(0, .ref (α 2)), (1, .int x1), (2, .int x2), (3, .int x3)] → W p l e rm_X3_canBeTried s m args below meth c H locs 0 0 (MQ below (kQi D A (wC cI α gw gc gs ge gf cR cL cB pB SD RK RN RS RC RT LK LN LS LL US UB BB) res) args s 0 0 A) (F0 m 4 ls []) := by
    intro n
    induction n with
    | zero => intro x1 x2 x3 H locs ls hf; cases hf
    | succ n ih =>
      intro x1 x2 x3 H locs ls hf hP hD hS hl
      rw [f_X3_canBeTried_L4.eq_2] at hf
      refine lv_iload_n hx hb dX3_canBeTried_4 rfl (lv_at hl 3 rfl) ?_
      refine lv_aload_n hx hb dX3_canBeTried_5 rfl (lv_at hl 0 rfl) ?_
      refine va_get (D := D) (ci := 4) (v := .ref (α 9)) (C := RX3) (T := TX3) (N := 7) hx hb hts hiX3 hown hK hP 2 rfl rfl 3 (by decide) fl18 (fun _ h9 => h9) rfl dX3_canBeTried_6 ?_
      refine lv_iload_n hx hb dX3_canBeTried_9 rfl (lv_at hl 1 rfl) ?_
      obtain ⟨g1, hf⟩ := gin_some hf
      refine va_iald hx hb hK hP 9 0 rfl rfl g1 dX3_canBeTried_10 ?_
      refine lv_icmp_ge (tgt := 30) hx hb dX3_canBeTried_11 (by decide) (fun c2 => ?_) (fun c2 => ?_)
      · have hf := it_t c2 hf
        refine lv_iload_n hx hb dX3_canBeTried_30 rfl (lv_at hl 2 rfl) ?_
        refine lv_sipush (v := (4096 : Int32)) hx hb dX3_canBeTried_31 (by decide) ?_
        refine lv_icmp_gt (tgt := 41) hx hb dX3_canBeTried_34 (by decide) (fun c3 => ?_) (fun c3 => ?_)
        · have hf := it_t c3 hf
          refine lv_iconst (v := (0 : Int32)) hx hb dX3_canBeTried_41 (by decide) ?_
          have e9 := Option.some.inj hf
          subst e9
          exact kI_ret S narrow_b0 hP hD hS dX3_canBeTried_42
        · have hf := it_f c3 hf
          refine lv_iconst (v := (1 : Int32)) hx hb dX3_canBeTried_37 (by decide) ?_
          refine lv_goto (tgt := 42) hx hb dX3_canBeTried_38 (by decide) ?_
          have e9 := Option.some.inj hf
          subst e9
          exact kI_ret S narrow_b1 hP hD hS dX3_canBeTried_42
      · have hf := it_f c2 hf
        refine lv_iload_n hx hb dX3_canBeTried_14 rfl (lv_at hl 2 rfl) ?_
        refine lv_aload_n hx hb dX3_canBeTried_15 rfl (lv_at hl 0 rfl) ?_
        refine va_get (D := D) (ci := 4) (v := .ref (α 1)) (C := RX3) (T := TX3) (N := 7) hx hb hts hiX3 hown hK hP 2 rfl rfl 0 (by decide) fl33 (fun _ h9 => h9) rfl dX3_canBeTried_16 ?_
        obtain ⟨q4, hq4, hf⟩ := bnd hf
        refine kI_callV (As := []) (rest := [.int x2]) S hP hD hS (c_X0_symbols l D cI α gw gc gs ge gf cR cL cB pB SD RK RN RS RC RT LK LN LS LL US UB BB q4 hq4) (cwV 0 hts gX3_canBeTried_X0_symbols rfl rfl rfl (by decide +kernel) ⟨Nat.le_of_ble_eq_true rfl, Nat.le_of_ble_eq_true rfl⟩) 1 rfl rfl rfl hl.1 rfl (Nat.le_of_ble_eq_true rfl) dX3_canBeTried_19 ⟨Nat.zero_le _, Nat.zero_le _⟩ (fun H locs hP hD hS => ?_)
        have hP : va_P D vwCl (wC cI α gw gc gs ge gf cR cL cB pB SD RK RN RS RC RT LK LN LS LL US UB BB) H := hP
        have hD : va_D A (wC cI α gw gc gs ge gf cR cL cB pB SD RK RN RS RC RT LK LN LS LL US UB BB) := hD
        refine lv_imul hx hb dX3_canBeTried_22 ?_
        refine lv_istore_n (lv' := [(2, .int (x2 * q4)), (0, .ref (α 2)), (1, .int x1), (3, .int x3)]) hx hb dX3_canBeTried_23 rfl hl (by decide) rfl (fun ls hl => ?_)
        refine lv_iinc (v := (x3 + (1 : Int32))) (lv' := [(3, .int (x3 + (1 : Int32))), (2, .int (x2 * q4)), (0, .ref (α 2)), (1, .int x1)]) hx hb dX3_canBeTried_24 hl (k := 3) rfl rfl (by decide) rfl (fun ls hl => ?_)
        refine lv_goto (tgt := 4) hx hb dX3_canBeTried_27 (by decide) ?_
        exact ih _ _ _ H locs ls hf hP hD hS (lv_sub hl [2, 3, 1, 0] rfl)
  suffices hgo : ∀ (H : Heap) (locs : List Loc), va_P D vwCl (wC cI α gw gc gs ge gf cR cL cB pB SD RK RN RS RC RT LK LN LS LL US UB BB) H → va_D A (wC cI α gw gc gs ge gf cR cL cB pB SD RK RN RS RC RT LK LN LS LL US UB BB) → va_S A s.heap H locs → W p l e rm_X3_canBeTried s m args below meth c H locs 0 0 (MQ below (kQi D A (wC cI α gw gc gs ge gf cR cL cB pB SD RK RN RS RC RT LK LN LS LL US UB BB) res) args s 0 0 A) (F0 m 0 ls []) from hgo _ _ hP hD hS
  clear hP hD hS
  intro H locs hP hD hS
  refine lv_iconst (v := (1 : Int32)) hx hb dX3_canBeTried_0 (by decide) ?_
  refine lv_istore_n (lv' := [(2, .int (1 : Int32)), (0, .ref (α 2)), (1, .int x1)]) hx hb dX3_canBeTried_1 rfl hl (by decide) rfl (fun ls hl => ?_)
  refine lv_iconst (v := (0 : Int32)) hx hb dX3_canBeTried_2 (by decide) ?_
  refine lv_istore_n (lv' := [(3, .int (0 : Int32)), (2, .int (1 : Int32)), (0, .ref (α 2)), (1, .int x1)]) hx hb dX3_canBeTried_3 rfl hl (by decide) rfl (fun ls hl => ?_)
  exact w4 F _ _ _ H locs ls hf hP hD hS (lv_sub hl [2, 3, 1, 0] rfl)
