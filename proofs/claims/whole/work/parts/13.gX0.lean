abbrev rm_X0_within : Room := { frames := 1, cells := 0, slots := 0, locals := 30 }
set_option maxHeartbeats 4000000 in
set_option maxRecDepth 100000 in
theorem c_X0_within (l : Launch) (D : va_G) (cI : ClassId) (x0 : Int32) (x1 : Int32) (res : Int32) (hf : f_X0_within x0 x1 = some res) : kI l yX0_within wsX0_within rm_X0_within D cI [.int x0, .int x1] ([]) ([]) res := by
  unfold f_X0_within at hf
  refine kI_of (cc := cX0_within) (maxL := 2) (ret := (some .int)) (by decide +kernel) rfl (Nat.le_of_ble_eq_true rfl) ?_
  intro p e s m args below meth c A ls S hP hD hS hl
  have S : kC p s m args meth c cX0_within 2 wsX0_within RX0 (some .int) D cI A := S
  have hx := S.1.1
  have hb := S.1.2.1
  have hml := S.1.2.2.1
  have hown : s.vm.findClass RX0 = some m.cls := S.1.2.2.2.1
  have hts := S.1.2.2.2.2
  have hK := S.2.2.2.1
  have hnk := S.2.2.2.2.1.2
  have hl : lv_has ls 2 [(0, .int x0), (1, .int x1)] := hl
  suffices hgo : ∀ (H : Heap) (locs : List Loc), va_P D vwCl ([]) H → va_D A ([]) → va_S A s.heap H locs → W p l e rm_X0_within s m args below meth c H locs 0 0 (MQ below (kQi D A ([]) res) args s 0 0 A) (F0 m 0 ls []) from hgo _ _ hP hD hS
  clear hP hD hS
  intro H locs hP hD hS
  refine lv_iconst (v := (1 : Int32)) hx hb dX0_within_0 (by decide) ?_
  refine lv_iload_n hx hb dX0_within_1 rfl (lv_at hl 1 rfl) ?_
  refine lv_iload_n hx hb dX0_within_2 rfl (lv_at hl 0 rfl) ?_
  refine va_mmin hx hb (by rw [hml]; exact hl.1.symm) hown (hts (.methodLink RX0 29 Lib.Math.min.name) (by decide +kernel)) (hts (.static Lib.Math.min.name) (by decide +kernel)) (hts (.initialized "java/lang/Math") (by decide +kernel)) (hts (.code Lib.Math.min.name Lib.Math.min.code 2 (some .int)) (by decide +kernel)) (Nat.le_of_ble_eq_true rfl) (Nat.le_of_ble_eq_true rfl) (Nat.zero_le _) (Nat.zero_le _) dX0_within_3 ?_
  refine va_mmax hx hb (by rw [hml]; exact hl.1.symm) hown (hts (.methodLink RX0 34 Lib.Math.max.name) (by decide +kernel)) (hts (.static Lib.Math.max.name) (by decide +kernel)) (hts (.initialized "java/lang/Math") (by decide +kernel)) (hts (.code Lib.Math.max.name Lib.Math.max.code 2 (some .int)) (by decide +kernel)) (Nat.le_of_ble_eq_true rfl) (Nat.le_of_ble_eq_true rfl) (Nat.zero_le _) (Nat.zero_le _) dX0_within_6 ?_
  have e9 := Option.some.inj hf
  subst e9
  exact kI_ret S rfl hP hD hS dX0_within_9
abbrev rm_X0_cells : Room := { frames := 0, cells := 0, slots := 0, locals := 0 }
set_option maxHeartbeats 4000000 in
set_option maxRecDepth 100000 in
theorem c_X0_cells (l : Launch) (D : va_G) (cI : ClassId) (α : Nat → Nat) (gw gc gs ge gf cR cL cB pB : Int32) (SD RK RN RS RC RT LK LN LS LL US UB BB : Nat → Int32)  (res : Int32) (hf : f_X0_cells gc = some res) : kI l yX0_cells wsX0_cells rm_X0_cells D cI [.ref (α 1)] (wC cI α gw gc gs ge gf cR cL cB pB SD RK RN RS RC RT LK LN LS LL US UB BB) (wC cI α gw gc gs ge gf cR cL cB pB SD RK RN RS RC RT LK LN LS LL US UB BB) res := by
  unfold f_X0_cells at hf
  refine kI_of (cc := cX0_cells) (maxL := 1) (ret := (some .int)) (by decide +kernel) rfl (Nat.le_of_ble_eq_true rfl) ?_
  intro p e s m args below meth c A ls S hP hD hS hl
  have S : kC p s m args meth c cX0_cells 1 wsX0_cells RX0 (some .int) D cI A := S
  have hx := S.1.1
  have hb := S.1.2.1
  have hml := S.1.2.2.1
  have hown : s.vm.findClass RX0 = some m.cls := S.1.2.2.2.1
  have hts := S.1.2.2.2.2
  have hK := S.2.2.2.1
  have hnk := S.2.2.2.2.1.2
  have hiX0 : ∀ w ∈ u_ws RX0 TX0 5, w ∈ wsX0_cells := by decide +kernel
  have fl17 := hts (.fieldLink RX0 17 "ProofChecker$Grid" "cells" "I") (by decide +kernel)
  have hl : lv_has ls 1 [(0, .ref (α 1))] := hl
  suffices hgo : ∀ (H : Heap) (locs : List Loc), va_P D vwCl (wC cI α gw gc gs ge gf cR cL cB pB SD RK RN RS RC RT LK LN LS LL US UB BB) H → va_D A (wC cI α gw gc gs ge gf cR cL cB pB SD RK RN RS RC RT LK LN LS LL US UB BB) → va_S A s.heap H locs → W p l e rm_X0_cells s m args below meth c H locs 0 0 (MQ below (kQi D A (wC cI α gw gc gs ge gf cR cL cB pB SD RK RN RS RC RT LK LN LS LL US UB BB) res) args s 0 0 A) (F0 m 0 ls []) from hgo _ _ hP hD hS
  clear hP hD hS
  intro H locs hP hD hS
  refine lv_aload_n hx hb dX0_cells_0 rfl (lv_at hl 0 rfl) ?_
  refine va_get (D := D) (ci := 1) (v := .int gc) (C := RX0) (T := TX0) (N := 5) hx hb hts hiX0 hown hK hP 1 rfl rfl 1 (by decide) fl17 (fun _ h9 => h9) rfl dX0_cells_1 ?_
  have e9 := Option.some.inj hf
  subst e9
  exact kI_ret S rfl hP hD hS dX0_cells_4
abbrev rm_X0_symbols : Room := { frames := 0, cells := 0, slots := 0, locals := 0 }
set_option maxHeartbeats 4000000 in
set_option maxRecDepth 100000 in
theorem c_X0_symbols (l : Launch) (D : va_G) (cI : ClassId) (α : Nat → Nat) (gw gc gs ge gf cR cL cB pB : Int32) (SD RK RN RS RC RT LK LN LS LL US UB BB : Nat → Int32)  (res : Int32) (hf : f_X0_symbols gs = some res) : kI l yX0_symbols wsX0_symbols rm_X0_symbols D cI [.ref (α 1)] (wC cI α gw gc gs ge gf cR cL cB pB SD RK RN RS RC RT LK LN LS LL US UB BB) (wC cI α gw gc gs ge gf cR cL cB pB SD RK RN RS RC RT LK LN LS LL US UB BB) res := by
  unfold f_X0_symbols at hf
  refine kI_of (cc := cX0_symbols) (maxL := 1) (ret := (some .int)) (by decide +kernel) rfl (Nat.le_of_ble_eq_true rfl) ?_
  intro p e s m args below meth c A ls S hP hD hS hl
  have S : kC p s m args meth c cX0_symbols 1 wsX0_symbols RX0 (some .int) D cI A := S
  have hx := S.1.1
  have hb := S.1.2.1
  have hml := S.1.2.2.1
  have hown : s.vm.findClass RX0 = some m.cls := S.1.2.2.2.1
  have hts := S.1.2.2.2.2
  have hK := S.2.2.2.1
  have hnk := S.2.2.2.2.1.2
  have hiX0 : ∀ w ∈ u_ws RX0 TX0 5, w ∈ wsX0_symbols := by decide +kernel
  have fl20 := hts (.fieldLink RX0 20 "ProofChecker$Grid" "symbols" "I") (by decide +kernel)
  have hl : lv_has ls 1 [(0, .ref (α 1))] := hl
  suffices hgo : ∀ (H : Heap) (locs : List Loc), va_P D vwCl (wC cI α gw gc gs ge gf cR cL cB pB SD RK RN RS RC RT LK LN LS LL US UB BB) H → va_D A (wC cI α gw gc gs ge gf cR cL cB pB SD RK RN RS RC RT LK LN LS LL US UB BB) → va_S A s.heap H locs → W p l e rm_X0_symbols s m args below meth c H locs 0 0 (MQ below (kQi D A (wC cI α gw gc gs ge gf cR cL cB pB SD RK RN RS RC RT LK LN LS LL US UB BB) res) args s 0 0 A) (F0 m 0 ls []) from hgo _ _ hP hD hS
  clear hP hD hS
  intro H locs hP hD hS
  refine lv_aload_n hx hb dX0_symbols_0 rfl (lv_at hl 0 rfl) ?_
  refine va_get (D := D) (ci := 1) (v := .int gs) (C := RX0) (T := TX0) (N := 5) hx hb hts hiX0 hown hK hP 1 rfl rfl 2 (by decide) fl20 (fun _ h9 => h9) rfl dX0_symbols_1 ?_
  have e9 := Option.some.inj hf
  subst e9
  exact kI_ret S rfl hP hD hS dX0_symbols_4
abbrev rm_X0_allSymbols : Room := { frames := 0, cells := 0, slots := 0, locals := 0 }
set_option maxHeartbeats 4000000 in
set_option maxRecDepth 100000 in
theorem c_X0_allSymbols (l : Launch) (D : va_G) (cI : ClassId) (α : Nat → Nat) (gw gc gs ge gf cR cL cB pB : Int32) (SD RK RN RS RC RT LK LN LS LL US UB BB : Nat → Int32)  (res : Int32) (hf : f_X0_allSymbols gs = some res) : kI l yX0_allSymbols wsX0_allSymbols rm_X0_allSymbols D cI [.ref (α 1)] (wC cI α gw gc gs ge gf cR cL cB pB SD RK RN RS RC RT LK LN LS LL US UB BB) (wC cI α gw gc gs ge gf cR cL cB pB SD RK RN RS RC RT LK LN LS LL US UB BB) res := by
  unfold f_X0_allSymbols at hf
  refine kI_of (cc := cX0_allSymbols) (maxL := 1) (ret := (some .int)) (by decide +kernel) rfl (Nat.le_of_ble_eq_true rfl) ?_
  intro p e s m args below meth c A ls S hP hD hS hl
  have S : kC p s m args meth c cX0_allSymbols 1 wsX0_allSymbols RX0 (some .int) D cI A := S
  have hx := S.1.1
  have hb := S.1.2.1
  have hml := S.1.2.2.1
  have hown : s.vm.findClass RX0 = some m.cls := S.1.2.2.2.1
  have hts := S.1.2.2.2.2
  have hK := S.2.2.2.1
  have hnk := S.2.2.2.2.1.2
  have hiX0 : ∀ w ∈ u_ws RX0 TX0 5, w ∈ wsX0_allSymbols := by decide +kernel
  have fl20 := hts (.fieldLink RX0 20 "ProofChecker$Grid" "symbols" "I") (by decide +kernel)
  have hl : lv_has ls 1 [(0, .ref (α 1))] := hl
  suffices hgo : ∀ (H : Heap) (locs : List Loc), va_P D vwCl (wC cI α gw gc gs ge gf cR cL cB pB SD RK RN RS RC RT LK LN LS LL US UB BB) H → va_D A (wC cI α gw gc gs ge gf cR cL cB pB SD RK RN RS RC RT LK LN LS LL US UB BB) → va_S A s.heap H locs → W p l e rm_X0_allSymbols s m args below meth c H locs 0 0 (MQ below (kQi D A (wC cI α gw gc gs ge gf cR cL cB pB SD RK RN RS RC RT LK LN LS LL US UB BB) res) args s 0 0 A) (F0 m 0 ls []) from hgo _ _ hP hD hS
  clear hP hD hS
  intro H locs hP hD hS
  refine lv_iconst (v := (1 : Int32)) hx hb dX0_allSymbols_0 (by decide) ?_
  refine lv_aload_n hx hb dX0_allSymbols_1 rfl (lv_at hl 0 rfl) ?_
  refine va_get (D := D) (ci := 1) (v := .int gs) (C := RX0) (T := TX0) (N := 5) hx hb hts hiX0 hown hK hP 1 rfl rfl 2 (by decide) fl20 (fun _ h9 => h9) rfl dX0_allSymbols_2 ?_
  refine lv_ishl hx hb dX0_allSymbols_5 ?_
  refine lv_iconst (v := (1 : Int32)) hx hb dX0_allSymbols_6 (by decide) ?_
  refine lv_isub hx hb dX0_allSymbols_7 ?_
  have e9 := Option.some.inj hf
  subst e9
  exact kI_ret S rfl hP hD hS dX0_allSymbols_8
abbrev rm_X0_hasCell : Room := { frames := 0, cells := 0, slots := 0, locals := 0 }
set_option maxHeartbeats 4000000 in
set_option maxRecDepth 100000 in
theorem c_X0_hasCell (l : Launch) (D : va_G) (cI : ClassId) (α : Nat → Nat) (gw gc gs ge gf cR cL cB pB : Int32) (SD RK RN RS RC RT LK LN LS LL US UB BB : Nat → Int32) (x1 : Int32) (res : Int32) (hf : f_X0_hasCell gc x1 = some res) : kI l yX0_hasCell wsX0_hasCell rm_X0_hasCell D cI [.ref (α 1), .int x1] (wC cI α gw gc gs ge gf cR cL cB pB SD RK RN RS RC RT LK LN LS LL US UB BB) (wC cI α gw gc gs ge gf cR cL cB pB SD RK RN RS RC RT LK LN LS LL US UB BB) res := by
  unfold f_X0_hasCell at hf
  refine kI_of (cc := cX0_hasCell) (maxL := 2) (ret := (some .boolean)) (by decide +kernel) rfl (Nat.le_of_ble_eq_true rfl) ?_
  intro p e s m args below meth c A ls S hP hD hS hl
  have S : kC p s m args meth c cX0_hasCell 2 wsX0_hasCell RX0 (some .boolean) D cI A := S
  have hx := S.1.1
  have hb := S.1.2.1
  have hml := S.1.2.2.1
  have hown : s.vm.findClass RX0 = some m.cls := S.1.2.2.2.1
  have hts := S.1.2.2.2.2
  have hK := S.2.2.2.1
  have hnk := S.2.2.2.2.1.2
  have hiX0 : ∀ w ∈ u_ws RX0 TX0 5, w ∈ wsX0_hasCell := by decide +kernel
  have fl17 := hts (.fieldLink RX0 17 "ProofChecker$Grid" "cells" "I") (by decide +kernel)
  have hl : lv_has ls 2 [(0, .ref (α 1)), (1, .int x1)] := hl
  suffices hgo : ∀ (H : Heap) (locs : List Loc), va_P D vwCl (wC cI α gw gc gs ge gf cR cL cB pB SD RK RN RS RC RT LK LN LS LL US UB BB) H → va_D A (wC cI α gw gc gs ge gf cR cL cB pB SD RK RN RS RC RT LK LN LS LL US UB BB) → va_S A s.heap H locs → W p l e rm_X0_hasCell s m args below meth c H locs 0 0 (MQ below (kQi D A (wC cI α gw gc gs ge gf cR cL cB pB SD RK RN RS RC RT LK LN LS LL US UB BB) res) args s 0 0 A) (F0 m 0 ls []) from hgo _ _ hP hD hS
  clear hP hD hS
  intro H locs hP hD hS
  refine lv_iload_n hx hb dX0_hasCell_0 rfl (lv_at hl 1 rfl) ?_
  refine lv_if_lt (tgt := 16) hx hb dX0_hasCell_1 (by decide) (fun c1 => ?_) (fun c1 => ?_)
  · have hf := it_t c1 hf
    refine lv_iconst (v := (0 : Int32)) hx hb dX0_hasCell_16 (by decide) ?_
    have e9 := Option.some.inj hf
    subst e9
    exact kI_ret S narrow_b0 hP hD hS dX0_hasCell_17
  · have hf := it_f c1 hf
    refine lv_iload_n hx hb dX0_hasCell_4 rfl (lv_at hl 1 rfl) ?_
    refine lv_aload_n hx hb dX0_hasCell_5 rfl (lv_at hl 0 rfl) ?_
    refine va_get (D := D) (ci := 1) (v := .int gc) (C := RX0) (T := TX0) (N := 5) hx hb hts hiX0 hown hK hP 1 rfl rfl 1 (by decide) fl17 (fun _ h9 => h9) rfl dX0_hasCell_6 ?_
    refine lv_icmp_ge (tgt := 16) hx hb dX0_hasCell_9 (by decide) (fun c2 => ?_) (fun c2 => ?_)
    · have hf := it_t c2 hf
      refine lv_iconst (v := (0 : Int32)) hx hb dX0_hasCell_16 (by decide) ?_
      have e9 := Option.some.inj hf
      subst e9
      exact kI_ret S narrow_b0 hP hD hS dX0_hasCell_17
    · have hf := it_f c2 hf
      refine lv_iconst (v := (1 : Int32)) hx hb dX0_hasCell_12 (by decide) ?_
      refine lv_goto (tgt := 17) hx hb dX0_hasCell_13 (by decide) ?_
      have e9 := Option.some.inj hf
      subst e9
      exact kI_ret S narrow_b1 hP hD hS dX0_hasCell_17
abbrev rm_X0_hasSymbol : Room := { frames := 0, cells := 0, slots := 0, locals := 0 }
set_option maxHeartbeats 4000000 in
set_option maxRecDepth 100000 in
theorem c_X0_hasSymbol (l : Launch) (D : va_G) (cI : ClassId) (α : Nat → Nat) (gw gc gs ge gf cR cL cB pB : Int32) (SD RK RN RS RC RT LK LN LS LL US UB BB : Nat → Int32) (x1 : Int32) (res : Int32) (hf : f_X0_hasSymbol gs x1 = some res) : kI l yX0_hasSymbol wsX0_hasSymbol rm_X0_hasSymbol D cI [.ref (α 1), .int x1] (wC cI α gw gc gs ge gf cR cL cB pB SD RK RN RS RC RT LK LN LS LL US UB BB) (wC cI α gw gc gs ge gf cR cL cB pB SD RK RN RS RC RT LK LN LS LL US UB BB) res := by
  unfold f_X0_hasSymbol at hf
  refine kI_of (cc := cX0_hasSymbol) (maxL := 2) (ret := (some .boolean)) (by decide +kernel) rfl (Nat.le_of_ble_eq_true rfl) ?_
  intro p e s m args below meth c A ls S hP hD hS hl
  have S : kC p s m args meth c cX0_hasSymbol 2 wsX0_hasSymbol RX0 (some .boolean) D cI A := S
  have hx := S.1.1
  have hb := S.1.2.1
  have hml := S.1.2.2.1
  have hown : s.vm.findClass RX0 = some m.cls := S.1.2.2.2.1
  have hts := S.1.2.2.2.2
  have hK := S.2.2.2.1
  have hnk := S.2.2.2.2.1.2
  have hiX0 : ∀ w ∈ u_ws RX0 TX0 5, w ∈ wsX0_hasSymbol := by decide +kernel
  have fl20 := hts (.fieldLink RX0 20 "ProofChecker$Grid" "symbols" "I") (by decide +kernel)
  have hl : lv_has ls 2 [(0, .ref (α 1)), (1, .int x1)] := hl
  suffices hgo : ∀ (H : Heap) (locs : List Loc), va_P D vwCl (wC cI α gw gc gs ge gf cR cL cB pB SD RK RN RS RC RT LK LN LS LL US UB BB) H → va_D A (wC cI α gw gc gs ge gf cR cL cB pB SD RK RN RS RC RT LK LN LS LL US UB BB) → va_S A s.heap H locs → W p l e rm_X0_hasSymbol s m args below meth c H locs 0 0 (MQ below (kQi D A (wC cI α gw gc gs ge gf cR cL cB pB SD RK RN RS RC RT LK LN LS LL US UB BB) res) args s 0 0 A) (F0 m 0 ls []) from hgo _ _ hP hD hS
  clear hP hD hS
  intro H locs hP hD hS
  refine lv_iload_n hx hb dX0_hasSymbol_0 rfl (lv_at hl 1 rfl) ?_
  refine lv_if_lt (tgt := 16) hx hb dX0_hasSymbol_1 (by decide) (fun c1 => ?_) (fun c1 => ?_)
  · have hf := it_t c1 hf
    refine lv_iconst (v := (0 : Int32)) hx hb dX0_hasSymbol_16 (by decide) ?_
    have e9 := Option.some.inj hf
    subst e9
    exact kI_ret S narrow_b0 hP hD hS dX0_hasSymbol_17
  · have hf := it_f c1 hf
    refine lv_iload_n hx hb dX0_hasSymbol_4 rfl (lv_at hl 1 rfl) ?_
    refine lv_aload_n hx hb dX0_hasSymbol_5 rfl (lv_at hl 0 rfl) ?_
    refine va_get (D := D) (ci := 1) (v := .int gs) (C := RX0) (T := TX0) (N := 5) hx hb hts hiX0 hown hK hP 1 rfl rfl 2 (by decide) fl20 (fun _ h9 => h9) rfl dX0_hasSymbol_6 ?_
    refine lv_icmp_ge (tgt := 16) hx hb dX0_hasSymbol_9 (by decide) (fun c2 => ?_) (fun c2 => ?_)
    · have hf := it_t c2 hf
      refine lv_iconst (v := (0 : Int32)) hx hb dX0_hasSymbol_16 (by decide) ?_
      have e9 := Option.some.inj hf
      subst e9
      exact kI_ret S narrow_b0 hP hD hS dX0_hasSymbol_17
    · have hf := it_f c2 hf
      refine lv_iconst (v := (1 : Int32)) hx hb dX0_hasSymbol_12 (by decide) ?_
      refine lv_goto (tgt := 17) hx hb dX0_hasSymbol_13 (by decide) ?_
      have e9 := Option.some.inj hf
      subst e9
      exact kI_ret S narrow_b1 hP hD hS dX0_hasSymbol_17
abbrev rm_X0_nextTo : Room := { frames := 0, cells := 0, slots := 0, locals := 0 }
set_option maxHeartbeats 4000000 in
set_option maxRecDepth 100000 in
theorem c_X0_nextTo (l : Launch) (D : va_G) (cI : ClassId) (α : Nat → Nat) (gw gc gs ge gf cR cL cB pB : Int32) (SD RK RN RS RC RT LK LN LS LL US UB BB : Nat → Int32) (x1 : Int32) (res : Int32) (hf : f_X0_nextTo gw ge gf x1 = some res) : kI l yX0_nextTo wsX0_nextTo rm_X0_nextTo D cI [.ref (α 1), .int x1] (wC cI α gw gc gs ge gf cR cL cB pB SD RK RN RS RC RT LK LN LS LL US UB BB) (wC cI α gw gc gs ge gf cR cL cB pB SD RK RN RS RC RT LK LN LS LL US UB BB) res := by
  unfold f_X0_nextTo at hf
  refine kI_of (cc := cX0_nextTo) (maxL := 5) (ret := (some .int)) (by decide +kernel) rfl (Nat.le_of_ble_eq_true rfl) ?_
  intro p e s m args below meth c A ls S hP hD hS hl
  have S : kC p s m args meth c cX0_nextTo 5 wsX0_nextTo RX0 (some .int) D cI A := S
  have hx := S.1.1
  have hb := S.1.2.1
  have hml := S.1.2.2.1
  have hown : s.vm.findClass RX0 = some m.cls := S.1.2.2.2.1
  have hts := S.1.2.2.2.2
  have hK := S.2.2.2.1
  have hnk := S.2.2.2.2.1.2
  have hiX0 : ∀ w ∈ u_ws RX0 TX0 5, w ∈ wsX0_nextTo := by decide +kernel
  have fl13 := hts (.fieldLink RX0 13 "ProofChecker$Grid" "width" "I") (by decide +kernel)
  have fl23 := hts (.fieldLink RX0 23 "ProofChecker$Grid" "leftEdge" "I") (by decide +kernel)
  have fl26 := hts (.fieldLink RX0 26 "ProofChecker$Grid" "rightEdge" "I") (by decide +kernel)
  have hl : lv_has ls 5 [(0, .ref (α 1)), (1, .int x1)] := hl
  suffices hgo : ∀ (H : Heap) (locs : List Loc), va_P D vwCl (wC cI α gw gc gs ge gf cR cL cB pB SD RK RN RS RC RT LK LN LS LL US UB BB) H → va_D A (wC cI α gw gc gs ge gf cR cL cB pB SD RK RN RS RC RT LK LN LS LL US UB BB) → va_S A s.heap H locs → W p l e rm_X0_nextTo s m args below meth c H locs 0 0 (MQ below (kQi D A (wC cI α gw gc gs ge gf cR cL cB pB SD RK RN RS RC RT LK LN LS LL US UB BB) res) args s 0 0 A) (F0 m 0 ls []) from hgo _ _ hP hD hS
  clear hP hD hS
  intro H locs hP hD hS
  refine lv_iload_n hx hb dX0_nextTo_0 rfl (lv_at hl 1 rfl) ?_
  refine lv_aload_n hx hb dX0_nextTo_1 rfl (lv_at hl 0 rfl) ?_
  refine va_get (D := D) (ci := 1) (v := .int gw) (C := RX0) (T := TX0) (N := 5) hx hb hts hiX0 hown hK hP 1 rfl rfl 0 (by decide) fl13 (fun _ h9 => h9) rfl dX0_nextTo_2 ?_
  refine lv_ishr hx hb dX0_nextTo_5 ?_
  refine lv_iload_n hx hb dX0_nextTo_6 rfl (lv_at hl 1 rfl) ?_
  refine lv_aload_n hx hb dX0_nextTo_7 rfl (lv_at hl 0 rfl) ?_
  refine va_get (D := D) (ci := 1) (v := .int gw) (C := RX0) (T := TX0) (N := 5) hx hb hts hiX0 hown hK hP 1 rfl rfl 0 (by decide) fl13 (fun _ h9 => h9) rfl dX0_nextTo_8 ?_
  refine lv_ishl hx hb dX0_nextTo_11 ?_
  refine lv_ior hx hb dX0_nextTo_12 ?_
  refine lv_istore_n (lv' := [(2, .int (((x1 >>> (gw &&& 31)) ||| (x1 <<< (gw &&& 31))))), (0, .ref (α 1)), (1, .int x1)]) hx hb dX0_nextTo_13 rfl hl (by decide) rfl (fun ls hl => ?_)
  refine lv_iload_n hx hb dX0_nextTo_14 rfl (lv_at hl 2 rfl) ?_
  refine lv_aload_n hx hb dX0_nextTo_15 rfl (lv_at hl 1 rfl) ?_
  refine va_get (D := D) (ci := 1) (v := .int ge) (C := RX0) (T := TX0) (N := 5) hx hb hts hiX0 hown hK hP 1 rfl rfl 3 (by decide) fl23 (fun _ h9 => h9) rfl dX0_nextTo_16 ?_
  refine lv_iconst (v := (-1 : Int32)) hx hb dX0_nextTo_19 (by decide) ?_
  refine lv_ixor hx hb dX0_nextTo_20 ?_
  refine lv_iand hx hb dX0_nextTo_21 ?_
  refine lv_iconst (v := (1 : Int32)) hx hb dX0_nextTo_22 (by decide) ?_
  refine lv_ishr hx hb dX0_nextTo_23 ?_
  refine lv_istore_n (lv' := [(3, .int ((((x1 &&& (ge ^^^ (-1 : Int32)))) >>> ((1 : Int32) &&& 31)))), (2, .int (((x1 >>> (gw &&& 31)) ||| (x1 <<< (gw &&& 31))))), (0, .ref (α 1)), (1, .int x1)]) hx hb dX0_nextTo_24 rfl hl (by decide) rfl (fun ls hl => ?_)
  refine lv_iload_n hx hb dX0_nextTo_25 rfl (lv_at hl 3 rfl) ?_
  refine lv_aload_n hx hb dX0_nextTo_26 rfl (lv_at hl 2 rfl) ?_
  refine va_get (D := D) (ci := 1) (v := .int gf) (C := RX0) (T := TX0) (N := 5) hx hb hts hiX0 hown hK hP 1 rfl rfl 4 (by decide) fl26 (fun _ h9 => h9) rfl dX0_nextTo_27 ?_
  refine lv_iconst (v := (-1 : Int32)) hx hb dX0_nextTo_30 (by decide) ?_
  refine lv_ixor hx hb dX0_nextTo_31 ?_
  refine lv_iand hx hb dX0_nextTo_32 ?_
  refine lv_iconst (v := (1 : Int32)) hx hb dX0_nextTo_33 (by decide) ?_
  refine lv_ishl hx hb dX0_nextTo_34 ?_
  refine lv_istore (lv' := [(4, .int ((((x1 &&& (gf ^^^ (-1 : Int32)))) <<< ((1 : Int32) &&& 31)))), (3, .int ((((x1 &&& (ge ^^^ (-1 : Int32)))) >>> ((1 : Int32) &&& 31)))), (2, .int (((x1 >>> (gw &&& 31)) ||| (x1 <<< (gw &&& 31))))), (0, .ref (α 1)), (1, .int x1)]) hx hb dX0_nextTo_35 hl (by decide) rfl (fun ls hl => ?_)
  refine lv_iload_n hx hb dX0_nextTo_37 rfl (lv_at hl 2 rfl) ?_
  refine lv_iload_n hx hb dX0_nextTo_38 rfl (lv_at hl 1 rfl) ?_
  refine lv_ior hx hb dX0_nextTo_39 ?_
  refine lv_iload hx hb dX0_nextTo_40 (lv_at hl 0 rfl) ?_
  refine lv_ior hx hb dX0_nextTo_42 ?_
  have e9 := Option.some.inj hf
  subst e9
  exact kI_ret S rfl hP hD hS dX0_nextTo_43
abbrev rm_X0_hangTogether : Room := { frames := 1, cells := 0, slots := 0, locals := 24 }
set_option maxHeartbeats 4000000 in
set_option maxRecDepth 100000 in
theorem c_X0_hangTogether (l : Launch) (D : va_G) (cI : ClassId) (α : Nat → Nat) (gw gc gs ge gf cR cL cB pB : Int32) (SD RK RN RS RC RT LK LN LS LL US UB BB : Nat → Int32) (F : Nat) (x1 : Int32) (res : Int32) (hf : f_X0_hangTogether gw gc ge gf F x1 = some res) : kI l yX0_hangTogether wsX0_hangTogether rm_X0_hangTogether D cI [.ref (α 1), .int x1] (wC cI α gw gc gs ge gf cR cL cB pB SD RK RN RS RC RT LK LN LS LL US UB BB) (wC cI α gw gc gs ge gf cR cL cB pB SD RK RN RS RC RT LK LN LS LL US UB BB) res := by
  unfold f_X0_hangTogether at hf
  refine kI_of (cc := cX0_hangTogether) (maxL := 4) (ret := (some .boolean)) (by decide +kernel) rfl (Nat.le_of_ble_eq_true rfl) ?_
  intro p e s m args below meth c A ls S hP hD hS hl
  have S : kC p s m args meth c cX0_hangTogether 4 wsX0_hangTogether RX0 (some .boolean) D cI A := S
  have hx := S.1.1
  have hb := S.1.2.1
  have hml := S.1.2.2.1
  have hown : s.vm.findClass RX0 = some m.cls := S.1.2.2.2.1
  have hts := S.1.2.2.2.2
  have hK := S.2.2.2.1
  have hnk := S.2.2.2.2.1.2
  have hiX0 : ∀ w ∈ u_ws RX0 TX0 5, w ∈ wsX0_hangTogether := by decide +kernel
  have fl17 := hts (.fieldLink RX0 17 "ProofChecker$Grid" "cells" "I") (by decide +kernel)
  have hl : lv_has ls 4 [(0, .ref (α 1)), (1, .int x1)] := hl
  have w36 : ∀ (x1 : Int32) (x2 : Int32) (H : Heap) (locs : List Loc) (ls : Array Slot), f_X0_hangTogether_J36 gw gc ge gf F x1 x2 = some res → va_P D vwCl (wC cI α gw gc gs ge gf cR cL cB pB SD RK RN RS RC RT LK LN LS LL US UB BB) H → va_D A (wC cI α gw gc gs ge gf cR cL cB pB SD RK RN RS RC RT LK LN LS LL US UB BB) → va_S A s.heap H locs → lv_has ls 4 [(1, .int x1), (2, .int x2)] → W p l e rm_X0_hangTogether s m args below meth c H locs 0 0 (MQ below (kQi D A (wC cI α gw gc gs ge gf cR cL cB pB SD RK RN RS RC RT LK LN LS LL US UB BB) res) args s 0 0 A) (F0 m 36 ls []) := by
    intro x1 x2 H locs ls hf hP hD hS hl
    unfold f_X0_hangTogether_J36 at hf
    refine lv_iload_n hx hb dX0_hangTogether_36 rfl (lv_at hl 1 rfl) ?_
    refine lv_iload_n hx hb dX0_hangTogether_37 rfl (lv_at hl 0 rfl) ?_
    refine lv_icmp_ne (tgt := 45) hx hb dX0_hangTogether_38 (by decide) (fun c4 => ?_) (fun c4 => ?_)
    · have hf := it_t c4 hf
      refine lv_iconst (v := (0 : Int32)) hx hb dX0_hangTogether_45 (by decide) ?_
      have e9 := Option.some.inj hf
      subst e9
      exact kI_ret S narrow_b0 hP hD hS dX0_hangTogether_46
    · have hf := it_f (fun h9 => h9 c4) hf
      refine lv_iconst (v := (1 : Int32)) hx hb dX0_hangTogether_41 (by decide) ?_
      refine lv_goto (tgt := 46) hx hb dX0_hangTogether_42 (by decide) ?_
      have e9 := Option.some.inj hf
      subst e9
      exact kI_ret S narrow_b1 hP hD hS dX0_hangTogether_46
  have w7 : ∀ (n : Nat), ∀ (x1 : Int32) (x2 : Int32) (x3 : Int32) (H : Heap) (locs : List Loc) (ls : Array Slot), f_X0_hangTogether_L7 gw gc ge gf F n x1 x2 x3 = some res → va_P D vwCl (wC cI α gw gc gs ge gf cR cL cB pB SD RK RN RS RC RT LK LN LS LL US UB BB) H → va_D A (wC cI α gw gc gs ge gf cR cL cB pB SD RK RN RS RC RT LK LN LS LL US UB BB) → va_S A s.heap H locs → lv_has ls 4 [(0, .ref (α 1)), (1, .int x1), (2, .int x2), (3, .int x3)] → W p l e rm_X0_hangTogether s m args below meth c H locs 0 0 (MQ below (kQi D A (wC cI α gw gc gs ge gf cR cL cB pB SD RK RN RS RC RT LK LN LS LL US UB BB) res) args s 0 0 A) (F0 m 7 ls []) := by
    intro n
    induction n with
    | zero => intro x1 x2 x3 H locs ls hf; cases hf
    | succ n ih =>
      intro x1 x2 x3 H locs ls hf hP hD hS hl
      rw [f_X0_hangTogether_L7.eq_2] at hf
      refine lv_iload_n hx hb dX0_hangTogether_7 rfl (lv_at hl 3 rfl) ?_
      refine lv_aload_n hx hb dX0_hangTogether_8 rfl (lv_at hl 0 rfl) ?_
      refine va_get (D := D) (ci := 1) (v := .int gc) (C := RX0) (T := TX0) (N := 5) hx hb hts hiX0 hown hK hP 1 rfl rfl 1 (by decide) fl17 (fun _ h9 => h9) rfl dX0_hangTogether_9 ?_
      refine lv_icmp_ge (tgt := 36) hx hb dX0_hangTogether_12 (by decide) (fun c1 => ?_) (fun c1 => ?_)
      · have hf := it_t c1 hf
        exact w36 _ _ H locs ls hf hP hD hS (lv_sub hl [1, 2] rfl)
      · have hf := it_f c1 hf
        refine lv_iload_n hx hb dX0_hangTogether_15 rfl (lv_at hl 2 rfl) ?_
        refine lv_iload_n hx hb dX0_hangTogether_16 rfl (lv_at hl 1 rfl) ?_
        refine lv_icmp_eq (tgt := 36) hx hb dX0_hangTogether_17 (by decide) (fun c2 => ?_) (fun c2 => ?_)
        · have hf := it_t c2 hf
          exact w36 _ _ H locs ls hf hP hD hS (lv_sub hl [1, 2] rfl)
        · have hf := it_f c2 hf
          refine lv_iload_n hx hb dX0_hangTogether_20 rfl (lv_at hl 2 rfl) ?_
          refine lv_aload_n hx hb dX0_hangTogether_21 rfl (lv_at hl 0 rfl) ?_
          refine lv_iload_n hx hb dX0_hangTogether_22 rfl (lv_at hl 2 rfl) ?_
          obtain ⟨q3, hq3, hf⟩ := bnd hf
          refine kI_callV (As := [.int x2]) (rest := [.int x2]) S hP hD hS (c_X0_nextTo l D cI α gw gc gs ge gf cR cL cB pB SD RK RN RS RC RT LK LN LS LL US UB BB x2 q3 hq3) (cwV 1 hts gX0_hangTogether_X0_nextTo rfl rfl rfl (by decide +kernel) ⟨Nat.le_of_ble_eq_true rfl, Nat.le_of_ble_eq_true rfl⟩) 1 rfl rfl rfl hl.1 rfl (Nat.le_of_ble_eq_true rfl) dX0_hangTogether_23 ⟨Nat.zero_le _, Nat.zero_le _⟩ (fun H locs hP hD hS => ?_)
          have hP : va_P D vwCl (wC cI α gw gc gs ge gf cR cL cB pB SD RK RN RS RC RT LK LN LS LL US UB BB) H := hP
          have hD : va_D A (wC cI α gw gc gs ge gf cR cL cB pB SD RK RN RS RC RT LK LN LS LL US UB BB) := hD
          refine lv_iload_n hx hb dX0_hangTogether_26 rfl (lv_at hl 1 rfl) ?_
          refine lv_iand hx hb dX0_hangTogether_27 ?_
          refine lv_ior hx hb dX0_hangTogether_28 ?_
          refine lv_istore_n (lv' := [(2, .int (x2 ||| (q3 &&& x1))), (0, .ref (α 1)), (1, .int x1), (3, .int x3)]) hx hb dX0_hangTogether_29 rfl hl (by decide) rfl (fun ls hl => ?_)
          refine lv_iinc (v := (x3 + (1 : Int32))) (lv' := [(3, .int (x3 + (1 : Int32))), (2, .int (x2 ||| (q3 &&& x1))), (0, .ref (α 1)), (1, .int x1)]) hx hb dX0_hangTogether_30 hl (k := 3) rfl rfl (by decide) rfl (fun ls hl => ?_)
          refine lv_goto (tgt := 7) hx hb dX0_hangTogether_33 (by decide) ?_
          exact ih _ _ _ H locs ls hf hP hD hS (lv_sub hl [2, 3, 1, 0] rfl)
  suffices hgo : ∀ (H : Heap) (locs : List Loc), va_P D vwCl (wC cI α gw gc gs ge gf cR cL cB pB SD RK RN RS RC RT LK LN LS LL US UB BB) H → va_D A (wC cI α gw gc gs ge gf cR cL cB pB SD RK RN RS RC RT LK LN LS LL US UB BB) → va_S A s.heap H locs → W p l e rm_X0_hangTogether s m args below meth c H locs 0 0 (MQ below (kQi D A (wC cI α gw gc gs ge gf cR cL cB pB SD RK RN RS RC RT LK LN LS LL US UB BB) res) args s 0 0 A) (F0 m 0 ls []) from hgo _ _ hP hD hS
  clear hP hD hS
  intro H locs hP hD hS
  refine lv_iload_n hx hb dX0_hangTogether_0 rfl (lv_at hl 1 rfl) ?_
  refine lv_iload_n hx hb dX0_hangTogether_1 rfl (lv_at hl 1 rfl) ?_
  refine lv_ineg hx hb dX0_hangTogether_2 ?_
  refine lv_iand hx hb dX0_hangTogether_3 ?_
  refine lv_istore_n (lv' := [(2, .int (x1 &&& (-x1))), (0, .ref (α 1)), (1, .int x1)]) hx hb dX0_hangTogether_4 rfl hl (by decide) rfl (fun ls hl => ?_)
  refine lv_iconst (v := (0 : Int32)) hx hb dX0_hangTogether_5 (by decide) ?_
  refine lv_istore_n (lv' := [(3, .int (0 : Int32)), (2, .int (x1 &&& (-x1))), (0, .ref (α 1)), (1, .int x1)]) hx hb dX0_hangTogether_6 rfl hl (by decide) rfl (fun ls hl => ?_)
  exact w7 F _ _ _ H locs ls hf hP hD hS (lv_sub hl [2, 3, 1, 0] rfl)
