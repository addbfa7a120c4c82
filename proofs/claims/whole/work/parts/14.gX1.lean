abbrev rm_X1_literalOf : Room := { frames := 0, cells := 0, slots := 0, locals := 0 }
set_option maxHeartbeats 4000000 in
set_option maxRecDepth 100000 in
theorem c_X1_literalOf (l : Launch) (D : va_G) (cI : ClassId) (x0 : Int32) (x1 : Int32) (x2 : Int32) (res : Int32) (hf : f_X1_literalOf x0 x1 x2 = some res) : kI l yX1_literalOf wsX1_literalOf rm_X1_literalOf D cI [.int x0, .int x1, .int x2] ([]) ([]) res := by
  unfold f_X1_literalOf at hf
  refine kI_of (cc := cX1_literalOf) (maxL := 3) (ret := (some .int)) (by decide +kernel) rfl (Nat.le_of_ble_eq_true rfl) ?_
  intro p e s m args below meth c A ls S hP hD hS hl
  have S : kC p s m args meth c cX1_literalOf 3 wsX1_literalOf RX1 (some .int) D cI A := S
  have hx := S.1.1
  have hb := S.1.2.1
  have hml := S.1.2.2.1
  have hown : s.vm.findClass RX1 = some m.cls := S.1.2.2.2.1
  have hts := S.1.2.2.2.2
  have hK := S.2.2.2.1
  have hnk := S.2.2.2.2.1.2
  have hl : lv_has ls 3 [(0, .int x0), (1, .int x1), (2, .int x2)] := hl
  suffices hgo : ∀ (H : Heap) (locs : List Loc), va_P D vwCl ([]) H → va_D A ([]) → va_S A s.heap H locs → W p l e rm_X1_literalOf s m args below meth c H locs 0 0 (MQ below (kQi D A ([]) res) args s 0 0 A) (F0 m 0 ls []) from hgo _ _ hP hD hS
  clear hP hD hS
  intro H locs hP hD hS
  refine lv_iload_n hx hb dX1_literalOf_0 rfl (lv_at hl 0 rfl) ?_
  refine lv_iconst (v := (4 : Int32)) hx hb dX1_literalOf_1 (by decide) ?_
  refine lv_ishl hx hb dX1_literalOf_2 ?_
  refine lv_iload_n hx hb dX1_literalOf_3 rfl (lv_at hl 1 rfl) ?_
  refine lv_iconst (v := (1 : Int32)) hx hb dX1_literalOf_4 (by decide) ?_
  refine lv_ishl hx hb dX1_literalOf_5 ?_
  refine lv_ior hx hb dX1_literalOf_6 ?_
  refine lv_iload_n hx hb dX1_literalOf_7 rfl (lv_at hl 2 rfl) ?_
  refine lv_if_eq (tgt := 15) hx hb dX1_literalOf_8 (by decide) (fun c1 => ?_) (fun c1 => ?_)
  · have hf := it_t c1 hf
    refine lv_iconst (v := (0 : Int32)) hx hb dX1_literalOf_15 (by decide) ?_
    refine lv_ior hx hb dX1_literalOf_16 ?_
    have e9 := Option.some.inj hf
    subst e9
    exact kI_ret S rfl hP hD hS dX1_literalOf_17
  · have hf := it_f c1 hf
    refine lv_iconst (v := (1 : Int32)) hx hb dX1_literalOf_11 (by decide) ?_
    refine lv_goto (tgt := 16) hx hb dX1_literalOf_12 (by decide) ?_
    refine lv_ior hx hb dX1_literalOf_16 ?_
    have e9 := Option.some.inj hf
    subst e9
    exact kI_ret S rfl hP hD hS dX1_literalOf_17
abbrev rm_X1_cellOf : Room := { frames := 0, cells := 0, slots := 0, locals := 0 }
set_option maxHeartbeats 4000000 in
set_option maxRecDepth 100000 in
theorem c_X1_cellOf (l : Launch) (D : va_G) (cI : ClassId) (x0 : Int32) (res : Int32) (hf : f_X1_cellOf x0 = some res) : kI l yX1_cellOf wsX1_cellOf rm_X1_cellOf D cI [.int x0] ([]) ([]) res := by
  unfold f_X1_cellOf at hf
  refine kI_of (cc := cX1_cellOf) (maxL := 1) (ret := (some .int)) (by decide +kernel) rfl (Nat.le_of_ble_eq_true rfl) ?_
  intro p e s m args below meth c A ls S hP hD hS hl
  have S : kC p s m args meth c cX1_cellOf 1 wsX1_cellOf RX1 (some .int) D cI A := S
  have hx := S.1.1
  have hb := S.1.2.1
  have hml := S.1.2.2.1
  have hown : s.vm.findClass RX1 = some m.cls := S.1.2.2.2.1
  have hts := S.1.2.2.2.2
  have hK := S.2.2.2.1
  have hnk := S.2.2.2.2.1.2
  have hl : lv_has ls 1 [(0, .int x0)] := hl
  suffices hgo : ∀ (H : Heap) (locs : List Loc), va_P D vwCl ([]) H → va_D A ([]) → va_S A s.heap H locs → W p l e rm_X1_cellOf s m args below meth c H locs 0 0 (MQ below (kQi D A ([]) res) args s 0 0 A) (F0 m 0 ls []) from hgo _ _ hP hD hS
  clear hP hD hS
  intro H locs hP hD hS
  refine lv_iload_n hx hb dX1_cellOf_0 rfl (lv_at hl 0 rfl) ?_
  refine lv_iconst (v := (4 : Int32)) hx hb dX1_cellOf_1 (by decide) ?_
  refine lv_ishr hx hb dX1_cellOf_2 ?_
  have e9 := Option.some.inj hf
  subst e9
  exact kI_ret S rfl hP hD hS dX1_cellOf_3
abbrev rm_X1_symbolOf : Room := { frames := 0, cells := 0, slots := 0, locals := 0 }
set_option maxHeartbeats 4000000 in
set_option maxRecDepth 100000 in
theorem c_X1_symbolOf (l : Launch) (D : va_G) (cI : ClassId) (x0 : Int32) (res : Int32) (hf : f_X1_symbolOf x0 = some res) : kI l yX1_symbolOf wsX1_symbolOf rm_X1_symbolOf D cI [.int x0] ([]) ([]) res := by
  unfold f_X1_symbolOf at hf
  refine kI_of (cc := cX1_symbolOf) (maxL := 1) (ret := (some .int)) (by decide +kernel) rfl (Nat.le_of_ble_eq_true rfl) ?_
  intro p e s m args below meth c A ls S hP hD hS hl
  have S : kC p s m args meth c cX1_symbolOf 1 wsX1_symbolOf RX1 (some .int) D cI A := S
  have hx := S.1.1
  have hb := S.1.2.1
  have hml := S.1.2.2.1
  have hown : s.vm.findClass RX1 = some m.cls := S.1.2.2.2.1
  have hts := S.1.2.2.2.2
  have hK := S.2.2.2.1
  have hnk := S.2.2.2.2.1.2
  have hl : lv_has ls 1 [(0, .int x0)] := hl
  suffices hgo : ∀ (H : Heap) (locs : List Loc), va_P D vwCl ([]) H → va_D A ([]) → va_S A s.heap H locs → W p l e rm_X1_symbolOf s m args below meth c H locs 0 0 (MQ below (kQi D A ([]) res) args s 0 0 A) (F0 m 0 ls []) from hgo _ _ hP hD hS
  clear hP hD hS
  intro H locs hP hD hS
  refine lv_iload_n hx hb dX1_symbolOf_0 rfl (lv_at hl 0 rfl) ?_
  refine lv_iconst (v := (1 : Int32)) hx hb dX1_symbolOf_1 (by decide) ?_
  refine lv_ishr hx hb dX1_symbolOf_2 ?_
  refine lv_bipush (v := (7 : Int32)) hx hb dX1_symbolOf_3 (by decide) ?_
  refine lv_iand hx hb dX1_symbolOf_5 ?_
  have e9 := Option.some.inj hf
  subst e9
  exact kI_ret S rfl hP hD hS dX1_symbolOf_6
abbrev rm_X1_saysIs : Room := { frames := 0, cells := 0, slots := 0, locals := 0 }
set_option maxHeartbeats 4000000 in
set_option maxRecDepth 100000 in
theorem c_X1_saysIs (l : Launch) (D : va_G) (cI : ClassId) (x0 : Int32) (res : Int32) (hf : f_X1_saysIs x0 = some res) : kI l yX1_saysIs wsX1_saysIs rm_X1_saysIs D cI [.int x0] ([]) ([]) res := by
  unfold f_X1_saysIs at hf
  refine kI_of (cc := cX1_saysIs) (maxL := 1) (ret := (some .boolean)) (by decide +kernel) rfl (Nat.le_of_ble_eq_true rfl) ?_
  intro p e s m args below meth c A ls S hP hD hS hl
  have S : kC p s m args meth c cX1_saysIs 1 wsX1_saysIs RX1 (some .boolean) D cI A := S
  have hx := S.1.1
  have hb := S.1.2.1
  have hml := S.1.2.2.1
  have hown : s.vm.findClass RX1 = some m.cls := S.1.2.2.2.1
  have hts := S.1.2.2.2.2
  have hK := S.2.2.2.1
  have hnk := S.2.2.2.2.1.2
  have hl : lv_has ls 1 [(0, .int x0)] := hl
  suffices hgo : ∀ (H : Heap) (locs : List Loc), va_P D vwCl ([]) H → va_D A ([]) → va_S A s.heap H locs → W p l e rm_X1_saysIs s m args below meth c H locs 0 0 (MQ below (kQi D A ([]) res) args s 0 0 A) (F0 m 0 ls []) from hgo _ _ hP hD hS
  clear hP hD hS
  intro H locs hP hD hS
  refine lv_iload_n hx hb dX1_saysIs_0 rfl (lv_at hl 0 rfl) ?_
  refine lv_iconst (v := (1 : Int32)) hx hb dX1_saysIs_1 (by decide) ?_
  refine lv_iand hx hb dX1_saysIs_2 ?_
  refine lv_iconst (v := (1 : Int32)) hx hb dX1_saysIs_3 (by decide) ?_
  refine lv_icmp_ne (tgt := 11) hx hb dX1_saysIs_4 (by decide) (fun c1 => ?_) (fun c1 => ?_)
  · have hf := it_t c1 hf
    refine lv_iconst (v := (0 : Int32)) hx hb dX1_saysIs_11 (by decide) ?_
    have e9 := Option.some.inj hf
    subst e9
    exact kI_ret S narrow_b0 hP hD hS dX1_saysIs_12
  · have hf := it_f (fun h9 => h9 c1) hf
    refine lv_iconst (v := (1 : Int32)) hx hb dX1_saysIs_7 (by decide) ?_
    refine lv_goto (tgt := 12) hx hb dX1_saysIs_8 (by decide) ?_
    have e9 := Option.some.inj hf
    subst e9
    exact kI_ret S narrow_b1 hP hD hS dX1_saysIs_12
abbrev rm_X1_count : Room := { frames := 0, cells := 0, slots := 0, locals := 0 }
set_option maxHeartbeats 4000000 in
set_option maxRecDepth 100000 in
theorem c_X1_count (l : Launch) (D : va_G) (cI : ClassId) (α : Nat → Nat) (gw gc gs ge gf cR cL cB pB : Int32) (SD RK RN RS RC RT LK LN LS LL US UB BB : Nat → Int32)  (res : Int32) (hf : f_X1_count cL = some res) : kI l yX1_count wsX1_count rm_X1_count D cI [.ref (α 3)] (wC cI α gw gc gs ge gf cR cL cB pB SD RK RN RS RC RT LK LN LS LL US UB BB) (wC cI α gw gc gs ge gf cR cL cB pB SD RK RN RS RC RT LK LN LS LL US UB BB) res := by
  unfold f_X1_count at hf
  refine kI_of (cc := cX1_count) (maxL := 1) (ret := (some .int)) (by decide +kernel) rfl (Nat.le_of_ble_eq_true rfl) ?_
  intro p e s m args below meth c A ls S hP hD hS hl
  have S : kC p s m args meth c cX1_count 1 wsX1_count RX1 (some .int) D cI A := S
  have hx := S.1.1
  have hb := S.1.2.1
  have hml := S.1.2.2.1
  have hown : s.vm.findClass RX1 = some m.cls := S.1.2.2.2.1
  have hts := S.1.2.2.2.2
  have hK := S.2.2.2.1
  have hnk := S.2.2.2.2.1.2
  have hiX1 : ∀ w ∈ u_ws RX1 TX1 5, w ∈ wsX1_count := by decide +kernel
  have fl22 := hts (.fieldLink RX1 22 "ProofChecker$Lines" "count" "I") (by decide +kernel)
  have hl : lv_has ls 1 [(0, .ref (α 3))] := hl
  suffices hgo : ∀ (H : Heap) (locs : List Loc), va_P D vwCl (wC cI α gw gc gs ge gf cR cL cB pB SD RK RN RS RC RT LK LN LS LL US UB BB) H → va_D A (wC cI α gw gc gs ge gf cR cL cB pB SD RK RN RS RC RT LK LN LS LL US UB BB) → va_S A s.heap H locs → W p l e rm_X1_count s m args below meth c H locs 0 0 (MQ below (kQi D A (wC cI α gw gc gs ge gf cR cL cB pB SD RK RN RS RC RT LK LN LS LL US UB BB) res) args s 0 0 A) (F0 m 0 ls []) from hgo _ _ hP hD hS
  clear hP hD hS
  intro H locs hP hD hS
  refine lv_aload_n hx hb dX1_count_0 rfl (lv_at hl 0 rfl) ?_
  refine va_get (D := D) (ci := 2) (v := .int cL) (C := RX1) (T := TX1) (N := 5) hx hb hts hiX1 hown hK hP 3 rfl rfl 4 (by decide) fl22 (fun _ h9 => h9) rfl dX1_count_1 ?_
  have e9 := Option.some.inj hf
  subst e9
  exact kI_ret S rfl hP hD hS dX1_count_4
abbrev rm_X1_isFull : Room := { frames := 0, cells := 0, slots := 0, locals := 0 }
set_option maxHeartbeats 4000000 in
set_option maxRecDepth 100000 in
theorem c_X1_isFull (l : Launch) (D : va_G) (cI : ClassId) (α : Nat → Nat) (gw gc gs ge gf cR cL cB pB : Int32) (SD RK RN RS RC RT LK LN LS LL US UB BB : Nat → Int32)  (res : Int32) (hf : f_X1_isFull cL = some res) : kI l yX1_isFull wsX1_isFull rm_X1_isFull D cI [.ref (α 3)] (wC cI α gw gc gs ge gf cR cL cB pB SD RK RN RS RC RT LK LN LS LL US UB BB) (wC cI α gw gc gs ge gf cR cL cB pB SD RK RN RS RC RT LK LN LS LL US UB BB) res := by
  unfold f_X1_isFull at hf
  refine kI_of (cc := cX1_isFull) (maxL := 1) (ret := (some .boolean)) (by decide +kernel) rfl (Nat.le_of_ble_eq_true rfl) ?_
  intro p e s m args below meth c A ls S hP hD hS hl
  have S : kC p s m args meth c cX1_isFull 1 wsX1_isFull RX1 (some .boolean) D cI A := S
  have hx := S.1.1
  have hb := S.1.2.1
  have hml := S.1.2.2.1
  have hown : s.vm.findClass RX1 = some m.cls := S.1.2.2.2.1
  have hts := S.1.2.2.2.2
  have hK := S.2.2.2.1
  have hnk := S.2.2.2.2.1.2
  have hiX1 : ∀ w ∈ u_ws RX1 TX1 5, w ∈ wsX1_isFull := by decide +kernel
  have fl22 := hts (.fieldLink RX1 22 "ProofChecker$Lines" "count" "I") (by decide +kernel)
  have hl : lv_has ls 1 [(0, .ref (α 3))] := hl
  suffices hgo : ∀ (H : Heap) (locs : List Loc), va_P D vwCl (wC cI α gw gc gs ge gf cR cL cB pB SD RK RN RS RC RT LK LN LS LL US UB BB) H → va_D A (wC cI α gw gc gs ge gf cR cL cB pB SD RK RN RS RC RT LK LN LS LL US UB BB) → va_S A s.heap H locs → W p l e rm_X1_isFull s m args below meth c H locs 0 0 (MQ below (kQi D A (wC cI α gw gc gs ge gf cR cL cB pB SD RK RN RS RC RT LK LN LS LL US UB BB) res) args s 0 0 A) (F0 m 0 ls []) from hgo _ _ hP hD hS
  clear hP hD hS
  intro H locs hP hD hS
  refine lv_aload_n hx hb dX1_isFull_0 rfl (lv_at hl 0 rfl) ?_
  refine va_get (D := D) (ci := 2) (v := .int cL) (C := RX1) (T := TX1) (N := 5) hx hb hts hiX1 hown hK hP 3 rfl rfl 4 (by decide) fl22 (fun _ h9 => h9) rfl dX1_isFull_1 ?_
  refine lv_bipush (v := (60 : Int32)) hx hb dX1_isFull_4 (by decide) ?_
  refine lv_icmp_lt (tgt := 13) hx hb dX1_isFull_6 (by decide) (fun c1 => ?_) (fun c1 => ?_)
  · have hf := it_t c1 hf
    refine lv_iconst (v := (0 : Int32)) hx hb dX1_isFull_13 (by decide) ?_
    have e9 := Option.some.inj hf
    subst e9
    exact kI_ret S narrow_b0 hP hD hS dX1_isFull_14
  · have hf := it_f c1 hf
    refine lv_iconst (v := (1 : Int32)) hx hb dX1_isFull_9 (by decide) ?_
    refine lv_goto (tgt := 14) hx hb dX1_isFull_10 (by decide) ?_
    have e9 := Option.some.inj hf
    subst e9
    exact kI_ret S narrow_b1 hP hD hS dX1_isFull_14
abbrev rm_X1_kindOf : Room := { frames := 0, cells := 0, slots := 0, locals := 0 }
set_option maxHeartbeats 4000000 in
set_option maxRecDepth 100000 in
theorem c_X1_kindOf (l : Launch) (D : va_G) (cI : ClassId) (α : Nat → Nat) (gw gc gs ge gf cR cL cB pB : Int32) (SD RK RN RS RC RT LK LN LS LL US UB BB : Nat → Int32) (x1 : Int32) (res : Int32) (hf : f_X1_kindOf LK x1 = some res) : kI l yX1_kindOf wsX1_kindOf rm_X1_kindOf D cI [.ref (α 3), .int x1] (wC cI α gw gc gs ge gf cR cL cB pB SD RK RN RS RC RT LK LN LS LL US UB BB) (wC cI α gw gc gs ge gf cR cL cB pB SD RK RN RS RC RT LK LN LS LL US UB BB) res := by
  unfold f_X1_kindOf at hf
  refine kI_of (cc := cX1_kindOf) (maxL := 2) (ret := (some .int)) (by decide +kernel) rfl (Nat.le_of_ble_eq_true rfl) ?_
  intro p e s m args below meth c A ls S hP hD hS hl
  have S : kC p s m args meth c cX1_kindOf 2 wsX1_kindOf RX1 (some .int) D cI A := S
  have hx := S.1.1
  have hb := S.1.2.1
  have hml := S.1.2.2.1
  have hown : s.vm.findClass RX1 = some m.cls := S.1.2.2.2.1
  have hts := S.1.2.2.2.2
  have hK := S.2.2.2.1
  have hnk := S.2.2.2.2.1.2
  have hiX1 : ∀ w ∈ u_ws RX1 TX1 5, w ∈ wsX1_kindOf := by decide +kernel
  have fl9 := hts (.fieldLink RX1 9 "ProofChecker$Lines" "kinds" "[I") (by decide +kernel)
  have hl : lv_has ls 2 [(0, .ref (α 3)), (1, .int x1)] := hl
  suffices hgo : ∀ (H : Heap) (locs : List Loc), va_P D vwCl (wC cI α gw gc gs ge gf cR cL cB pB SD RK RN RS RC RT LK LN LS LL US UB BB) H → va_D A (wC cI α gw gc gs ge gf cR cL cB pB SD RK RN RS RC RT LK LN LS LL US UB BB) → va_S A s.heap H locs → W p l e rm_X1_kindOf s m args below meth c H locs 0 0 (MQ below (kQi D A (wC cI α gw gc gs ge gf cR cL cB pB SD RK RN RS RC RT LK LN LS LL US UB BB) res) args s 0 0 A) (F0 m 0 ls []) from hgo _ _ hP hD hS
  clear hP hD hS
  intro H locs hP hD hS
  refine lv_aload_n hx hb dX1_kindOf_0 rfl (lv_at hl 0 rfl) ?_
  refine va_get (D := D) (ci := 2) (v := .ref (α 12)) (C := RX1) (T := TX1) (N := 5) hx hb hts hiX1 hown hK hP 3 rfl rfl 0 (by decide) fl9 (fun _ h9 => h9) rfl dX1_kindOf_1 ?_
  refine lv_iload_n hx hb dX1_kindOf_4 rfl (lv_at hl 1 rfl) ?_
  obtain ⟨g1, hf⟩ := gin_some hf
  refine va_iald hx hb hK hP 12 0 rfl rfl g1 dX1_kindOf_5 ?_
  have e9 := Option.some.inj hf
  subst e9
  exact kI_ret S rfl hP hD hS dX1_kindOf_6
abbrev rm_X1_numberOf : Room := { frames := 0, cells := 0, slots := 0, locals := 0 }
set_option maxHeartbeats 4000000 in
set_option maxRecDepth 100000 in
theorem c_X1_numberOf (l : Launch) (D : va_G) (cI : ClassId) (α : Nat → Nat) (gw gc gs ge gf cR cL cB pB : Int32) (SD RK RN RS RC RT LK LN LS LL US UB BB : Nat → Int32) (x1 : Int32) (res : Int32) (hf : f_X1_numberOf LN x1 = some res) : kI l yX1_numberOf wsX1_numberOf rm_X1_numberOf D cI [.ref (α 3), .int x1] (wC cI α gw gc gs ge gf cR cL cB pB SD RK RN RS RC RT LK LN LS LL US UB BB) (wC cI α gw gc gs ge gf cR cL cB pB SD RK RN RS RC RT LK LN LS LL US UB BB) res := by
  unfold f_X1_numberOf at hf
  refine kI_of (cc := cX1_numberOf) (maxL := 2) (ret := (some .int)) (by decide +kernel) rfl (Nat.le_of_ble_eq_true rfl) ?_
  intro p e s m args below meth c A ls S hP hD hS hl
  have S : kC p s m args meth c cX1_numberOf 2 wsX1_numberOf RX1 (some .int) D cI A := S
  have hx := S.1.1
  have hb := S.1.2.1
  have hml := S.1.2.2.1
  have hown : s.vm.findClass RX1 = some m.cls := S.1.2.2.2.1
  have hts := S.1.2.2.2.2
  have hK := S.2.2.2.1
  have hnk := S.2.2.2.2.1.2
  have hiX1 : ∀ w ∈ u_ws RX1 TX1 5, w ∈ wsX1_numberOf := by decide +kernel
  have fl13 := hts (.fieldLink RX1 13 "ProofChecker$Lines" "numbers" "[I") (by decide +kernel)
  have hl : lv_has ls 2 [(0, .ref (α 3)), (1, .int x1)] := hl
  suffices hgo : ∀ (H : Heap) (locs : List Loc), va_P D vwCl (wC cI α gw gc gs ge gf cR cL cB pB SD RK RN RS RC RT LK LN LS LL US UB BB) H → va_D A (wC cI α gw gc gs ge gf cR cL cB pB SD RK RN RS RC RT LK LN LS LL US UB BB) → va_S A s.heap H locs → W p l e rm_X1_numberOf s m args below meth c H locs 0 0 (MQ below (kQi D A (wC cI α gw gc gs ge gf cR cL cB pB SD RK RN RS RC RT LK LN LS LL US UB BB) res) args s 0 0 A) (F0 m 0 ls []) from hgo _ _ hP hD hS
  clear hP hD hS
  intro H locs hP hD hS
  refine lv_aload_n hx hb dX1_numberOf_0 rfl (lv_at hl 0 rfl) ?_
  refine va_get (D := D) (ci := 2) (v := .ref (α 13)) (C := RX1) (T := TX1) (N := 5) hx hb hts hiX1 hown hK hP 3 rfl rfl 1 (by decide) fl13 (fun _ h9 => h9) rfl dX1_numberOf_1 ?_
  refine lv_iload_n hx hb dX1_numberOf_4 rfl (lv_at hl 1 rfl) ?_
  obtain ⟨g1, hf⟩ := gin_some hf
  refine va_iald hx hb hK hP 13 0 rfl rfl g1 dX1_numberOf_5 ?_
  have e9 := Option.some.inj hf
  subst e9
  exact kI_ret S rfl hP hD hS dX1_numberOf_6
abbrev rm_X1_sizeOf : Room := { frames := 0, cells := 0, slots := 0, locals := 0 }
set_option maxHeartbeats 4000000 in
set_option maxRecDepth 100000 in
theorem c_X1_sizeOf (l : Launch) (D : va_G) (cI : ClassId) (α : Nat → Nat) (gw gc gs ge gf cR cL cB pB : Int32) (SD RK RN RS RC RT LK LN LS LL US UB BB : Nat → Int32) (x1 : Int32) (res : Int32) (hf : f_X1_sizeOf LS x1 = some res) : kI l yX1_sizeOf wsX1_sizeOf rm_X1_sizeOf D cI [.ref (α 3), .int x1] (wC cI α gw gc gs ge gf cR cL cB pB SD RK RN RS RC RT LK LN LS LL US UB BB) (wC cI α gw gc gs ge gf cR cL cB pB SD RK RN RS RC RT LK LN LS LL US UB BB) res := by
  unfold f_X1_sizeOf at hf
  refine kI_of (cc := cX1_sizeOf) (maxL := 2) (ret := (some .int)) (by decide +kernel) rfl (Nat.le_of_ble_eq_true rfl) ?_
  intro p e s m args below meth c A ls S hP hD hS hl
  have S : kC p s m args meth c cX1_sizeOf 2 wsX1_sizeOf RX1 (some .int) D cI A := S
  have hx := S.1.1
  have hb := S.1.2.1
  have hml := S.1.2.2.1
  have hown : s.vm.findClass RX1 = some m.cls := S.1.2.2.2.1
  have hts := S.1.2.2.2.2
  have hK := S.2.2.2.1
  have hnk := S.2.2.2.2.1.2
  have hiX1 : ∀ w ∈ u_ws RX1 TX1 5, w ∈ wsX1_sizeOf := by decide +kernel
  have fl16 := hts (.fieldLink RX1 16 "ProofChecker$Lines" "sizes" "[I") (by decide +kernel)
  have hl : lv_has ls 2 [(0, .ref (α 3)), (1, .int x1)] := hl
  suffices hgo : ∀ (H : Heap) (locs : List Loc), va_P D vwCl (wC cI α gw gc gs ge gf cR cL cB pB SD RK RN RS RC RT LK LN LS LL US UB BB) H → va_D A (wC cI α gw gc gs ge gf cR cL cB pB SD RK RN RS RC RT LK LN LS LL US UB BB) → va_S A s.heap H locs → W p l e rm_X1_sizeOf s m args below meth c H locs 0 0 (MQ below (kQi D A (wC cI α gw gc gs ge gf cR cL cB pB SD RK RN RS RC RT LK LN LS LL US UB BB) res) args s 0 0 A) (F0 m 0 ls []) from hgo _ _ hP hD hS
  clear hP hD hS
  intro H locs hP hD hS
  refine lv_aload_n hx hb dX1_sizeOf_0 rfl (lv_at hl 0 rfl) ?_
  refine va_get (D := D) (ci := 2) (v := .ref (α 14)) (C := RX1) (T := TX1) (N := 5) hx hb hts hiX1 hown hK hP 3 rfl rfl 2 (by decide) fl16 (fun _ h9 => h9) rfl dX1_sizeOf_1 ?_
  refine lv_iload_n hx hb dX1_sizeOf_4 rfl (lv_at hl 1 rfl) ?_
  obtain ⟨g1, hf⟩ := gin_some hf
  refine va_iald hx hb hK hP 14 0 rfl rfl g1 dX1_sizeOf_5 ?_
  have e9 := Option.some.inj hf
  subst e9
  exact kI_ret S rfl hP hD hS dX1_sizeOf_6
abbrev rm_X1_literalAt : Room := { frames := 0, cells := 0, slots := 0, locals := 0 }
set_option maxHeartbeats 4000000 in
set_option maxRecDepth 100000 in
theorem c_X1_literalAt (l : Launch) (D : va_G) (cI : ClassId) (α : Nat → Nat) (gw gc gs ge gf cR cL cB pB : Int32) (SD RK RN RS RC RT LK LN LS LL US UB BB : Nat → Int32) (x1 : Int32) (x2 : Int32) (res : Int32) (hf : f_X1_literalAt LL x1 x2 = some res) : kI l yX1_literalAt wsX1_literalAt rm_X1_literalAt D cI [.ref (α 3), .int x1, .int x2] (wC cI α gw gc gs ge gf cR cL cB pB SD RK RN RS RC RT LK LN LS LL US UB BB) (wC cI α gw gc gs ge gf cR cL cB pB SD RK RN RS RC RT LK LN LS LL US UB BB) res := by
  unfold f_X1_literalAt at hf
  refine kI_of (cc := cX1_literalAt) (maxL := 3) (ret := (some .int)) (by decide +kernel) rfl (Nat.le_of_ble_eq_true rfl) ?_
  intro p e s m args below meth c A ls S hP hD hS hl
  have S : kC p s m args meth c cX1_literalAt 3 wsX1_literalAt RX1 (some .int) D cI A := S
  have hx := S.1.1
  have hb := S.1.2.1
  have hml := S.1.2.2.1
  have hown : s.vm.findClass RX1 = some m.cls := S.1.2.2.2.1
  have hts := S.1.2.2.2.2
  have hK := S.2.2.2.1
  have hnk := S.2.2.2.2.1.2
  have hiX1 : ∀ w ∈ u_ws RX1 TX1 5, w ∈ wsX1_literalAt := by decide +kernel
  have fl19 := hts (.fieldLink RX1 19 "ProofChecker$Lines" "literals" "[I") (by decide +kernel)
  have hl : lv_has ls 3 [(0, .ref (α 3)), (1, .int x1), (2, .int x2)] := hl
  suffices hgo : ∀ (H : Heap) (locs : List Loc), va_P D vwCl (wC cI α gw gc gs ge gf cR cL cB pB SD RK RN RS RC RT LK LN LS LL US UB BB) H → va_D A (wC cI α gw gc gs ge gf cR cL cB pB SD RK RN RS RC RT LK LN LS LL US UB BB) → va_S A s.heap H locs → W p l e rm_X1_literalAt s m args below meth c H locs 0 0 (MQ below (kQi D A (wC cI α gw gc gs ge gf cR cL cB pB SD RK RN RS RC RT LK LN LS LL US UB BB) res) args s 0 0 A) (F0 m 0 ls []) from hgo _ _ hP hD hS
  clear hP hD hS
  intro H locs hP hD hS
  refine lv_aload_n hx hb dX1_literalAt_0 rfl (lv_at hl 0 rfl) ?_
  refine va_get (D := D) (ci := 2) (v := .ref (α 15)) (C := RX1) (T := TX1) (N := 5) hx hb hts hiX1 hown hK hP 3 rfl rfl 3 (by decide) fl19 (fun _ h9 => h9) rfl dX1_literalAt_1 ?_
  refine lv_bipush (v := (16 : Int32)) hx hb dX1_literalAt_4 (by decide) ?_
  refine lv_iload_n hx hb dX1_literalAt_6 rfl (lv_at hl 1 rfl) ?_
  refine lv_imul hx hb dX1_literalAt_7 ?_
  refine lv_iload_n hx hb dX1_literalAt_8 rfl (lv_at hl 2 rfl) ?_
  refine lv_iadd hx hb dX1_literalAt_9 ?_
  obtain ⟨g1, hf⟩ := gin_some hf
  refine va_iald hx hb hK hP 15 0 rfl rfl g1 dX1_literalAt_10 ?_
  have e9 := Option.some.inj hf
  subst e9
  exact kI_ret S rfl hP hD hS dX1_literalAt_11
abbrev rm_X1_startDraft : Room := { frames := 0, cells := 0, slots := 0, locals := 0 }
set_option maxHeartbeats 4000000 in
set_option maxRecDepth 100000 in
theorem c_X1_startDraft (l : Launch) (D : va_G) (cI : ClassId) (α : Nat → Nat) (gw gc gs ge gf cR cL cB pB : Int32) (SD RK RN RS RC RT LK LN LS LL US UB BB : Nat → Int32) (x1 : Int32) (x2 : Int32) (res : (Nat → Int32) × (Nat → Int32) × (Nat → Int32)) (hf : f_X1_startDraft cL LK LN LS x1 x2 = some res) : kV l yX1_startDraft wsX1_startDraft rm_X1_startDraft D cI [.ref (α 3), .int x1, .int x2] (wC cI α gw gc gs ge gf cR cL cB pB SD RK RN RS RC RT LK LN LS LL US UB BB) (wC cI α gw gc gs ge gf cR cL cB pB SD RK RN RS RC RT res.1 res.2.1 res.2.2 LL US UB BB) := by
  unfold f_X1_startDraft at hf
  refine kV_of (cc := cX1_startDraft) (maxL := 3) (ret := none) (by decide +kernel) rfl (Nat.le_of_ble_eq_true rfl) ?_
  intro p e s m args below meth c A ls S hP hD hS hl
  have S : kC p s m args meth c cX1_startDraft 3 wsX1_startDraft RX1 none D cI A := S
  have hx := S.1.1
  have hb := S.1.2.1
  have hml := S.1.2.2.1
  have hown : s.vm.findClass RX1 = some m.cls := S.1.2.2.2.1
  have hts := S.1.2.2.2.2
  have hK := S.2.2.2.1
  have hnk := S.2.2.2.2.1.2
  have hiX1 : ∀ w ∈ u_ws RX1 TX1 5, w ∈ wsX1_startDraft := by decide +kernel
  have fl9 := hts (.fieldLink RX1 9 "ProofChecker$Lines" "kinds" "[I") (by decide +kernel)
  have fl13 := hts (.fieldLink RX1 13 "ProofChecker$Lines" "numbers" "[I") (by decide +kernel)
  have fl16 := hts (.fieldLink RX1 16 "ProofChecker$Lines" "sizes" "[I") (by decide +kernel)
  have fl22 := hts (.fieldLink RX1 22 "ProofChecker$Lines" "count" "I") (by decide +kernel)
  have hl : lv_has ls 3 [(0, .ref (α 3)), (1, .int x1), (2, .int x2)] := hl
  suffices hgo : ∀ (H : Heap) (locs : List Loc), va_P D vwCl (wC cI α gw gc gs ge gf cR cL cB pB SD RK RN RS RC RT LK LN LS LL US UB BB) H → va_D A (wC cI α gw gc gs ge gf cR cL cB pB SD RK RN RS RC RT LK LN LS LL US UB BB) → va_S A s.heap H locs → W p l e rm_X1_startDraft s m args below meth c H locs 0 0 (MQ below (kQv D A (wC cI α gw gc gs ge gf cR cL cB pB SD RK RN RS RC RT res.1 res.2.1 res.2.2 LL US UB BB)) args s 0 0 A) (F0 m 0 ls []) from hgo _ _ hP hD hS
  clear hP hD hS
  intro H locs hP hD hS
  refine lv_aload_n hx hb dX1_startDraft_0 rfl (lv_at hl 0 rfl) ?_
  refine va_get (D := D) (ci := 2) (v := .ref (α 12)) (C := RX1) (T := TX1) (N := 5) hx hb hts hiX1 hown hK hP 3 rfl rfl 0 (by decide) fl9 (fun _ h9 => h9) rfl dX1_startDraft_1 ?_
  refine lv_aload_n hx hb dX1_startDraft_4 rfl (lv_at hl 0 rfl) ?_
  refine va_get (D := D) (ci := 2) (v := .int cL) (C := RX1) (T := TX1) (N := 5) hx hb hts hiX1 hown hK hP 3 rfl rfl 4 (by decide) fl22 (fun _ h9 => h9) rfl dX1_startDraft_5 ?_
  refine lv_iload_n hx hb dX1_startDraft_8 rfl (lv_at hl 1 rfl) ?_
  obtain ⟨g1, hf⟩ := gin_some hf
  refine va_iast hx hb hK hP hD hS 12 0 rfl rfl g1 dX1_startDraft_9 (fun H locs hP hD hS => ?_)
  have hP : va_P D vwCl (wC cI α gw gc gs ge gf cR cL cB pB SD RK RN RS RC RT (upd LK cL.toNatClampNeg x1) LN LS LL US UB BB) H := hP
  have hD : va_D A (wC cI α gw gc gs ge gf cR cL cB pB SD RK RN RS RC RT (upd LK cL.toNatClampNeg x1) LN LS LL US UB BB) := hD
  refine lv_aload_n hx hb dX1_startDraft_10 rfl (lv_at hl 0 rfl) ?_
  refine va_get (D := D) (ci := 2) (v := .ref (α 13)) (C := RX1) (T := TX1) (N := 5) hx hb hts hiX1 hown hK hP 3 rfl rfl 1 (by decide) fl13 (fun _ h9 => h9) rfl dX1_startDraft_11 ?_
  refine lv_aload_n hx hb dX1_startDraft_14 rfl (lv_at hl 0 rfl) ?_
  refine va_get (D := D) (ci := 2) (v := .int cL) (C := RX1) (T := TX1) (N := 5) hx hb hts hiX1 hown hK hP 3 rfl rfl 4 (by decide) fl22 (fun _ h9 => h9) rfl dX1_startDraft_15 ?_
  refine lv_iload_n hx hb dX1_startDraft_18 rfl (lv_at hl 2 rfl) ?_
  obtain ⟨g2, hf⟩ := gin_some hf
  refine va_iast hx hb hK hP hD hS 13 0 rfl rfl g2 dX1_startDraft_19 (fun H locs hP hD hS => ?_)
  have hP : va_P D vwCl (wC cI α gw gc gs ge gf cR cL cB pB SD RK RN RS RC RT (upd LK cL.toNatClampNeg x1) (upd LN cL.toNatClampNeg x2) LS LL US UB BB) H := hP
  have hD : va_D A (wC cI α gw gc gs ge gf cR cL cB pB SD RK RN RS RC RT (upd LK cL.toNatClampNeg x1) (upd LN cL.toNatClampNeg x2) LS LL US UB BB) := hD
  refine lv_aload_n hx hb dX1_startDraft_20 rfl (lv_at hl 0 rfl) ?_
  refine va_get (D := D) (ci := 2) (v := .ref (α 14)) (C := RX1) (T := TX1) (N := 5) hx hb hts hiX1 hown hK hP 3 rfl rfl 2 (by decide) fl16 (fun _ h9 => h9) rfl dX1_startDraft_21 ?_
  refine lv_aload_n hx hb dX1_startDraft_24 rfl (lv_at hl 0 rfl) ?_
  refine va_get (D := D) (ci := 2) (v := .int cL) (C := RX1) (T := TX1) (N := 5) hx hb hts hiX1 hown hK hP 3 rfl rfl 4 (by decide) fl22 (fun _ h9 => h9) rfl dX1_startDraft_25 ?_
  refine lv_iconst (v := (0 : Int32)) hx hb dX1_startDraft_28 (by decide) ?_
  obtain ⟨g3, hf⟩ := gin_some hf
  refine va_iast hx hb hK hP hD hS 14 0 rfl rfl g3 dX1_startDraft_29 (fun H locs hP hD hS => ?_)
  have hP : va_P D vwCl (wC cI α gw gc gs ge gf cR cL cB pB SD RK RN RS RC RT (upd LK cL.toNatClampNeg x1) (upd LN cL.toNatClampNeg x2) (upd LS cL.toNatClampNeg (0 : Int32)) LL US UB BB) H := hP
  have hD : va_D A (wC cI α gw gc gs ge gf cR cL cB pB SD RK RN RS RC RT (upd LK cL.toNatClampNeg x1) (upd LN cL.toNatClampNeg x2) (upd LS cL.toNatClampNeg (0 : Int32)) LL US UB BB) := hD
  have e9 := Option.some.inj hf
  subst e9
  exact kV_ret S hP hD hS dX1_startDraft_30
abbrev rm_X1_keepDraft : Room := { frames := 1, cells := 0, slots := 0, locals := 20 }
set_option maxHeartbeats 4000000 in
set_option maxRecDepth 100000 in
theorem c_X1_keepDraft (l : Launch) (D : va_G) (cI : ClassId) (α : Nat → Nat) (gw gc gs ge gf cR cL cB pB : Int32) (SD RK RN RS RC RT LK LN LS LL US UB BB : Nat → Int32)  (res : Int32 × Int32) (hf : f_X1_keepDraft cL = some res) : kI l yX1_keepDraft wsX1_keepDraft rm_X1_keepDraft D cI [.ref (α 3)] (wC cI α gw gc gs ge gf cR cL cB pB SD RK RN RS RC RT LK LN LS LL US UB BB) (wC cI α gw gc gs ge gf cR res.2 cB pB SD RK RN RS RC RT LK LN LS LL US UB BB) res.1 := by
  unfold f_X1_keepDraft at hf
  refine kI_of (cc := cX1_keepDraft) (maxL := 1) (ret := (some .boolean)) (by decide +kernel) rfl (Nat.le_of_ble_eq_true rfl) ?_
  intro p e s m args below meth c A ls S hP hD hS hl
  have S : kC p s m args meth c cX1_keepDraft 1 wsX1_keepDraft RX1 (some .boolean) D cI A := S
  have hx := S.1.1
  have hb := S.1.2.1
  have hml := S.1.2.2.1
  have hown : s.vm.findClass RX1 = some m.cls := S.1.2.2.2.1
  have hts := S.1.2.2.2.2
  have hK := S.2.2.2.1
  have hnk := S.2.2.2.2.1.2
  have hiX1 : ∀ w ∈ u_ws RX1 TX1 5, w ∈ wsX1_keepDraft := by decide +kernel
  have fl22 := hts (.fieldLink RX1 22 "ProofChecker$Lines" "count" "I") (by decide +kernel)
  have hl : lv_has ls 1 [(0, .ref (α 3))] := hl
  suffices hgo : ∀ (H : Heap) (locs : List Loc), va_P D vwCl (wC cI α gw gc gs ge gf cR cL cB pB SD RK RN RS RC RT LK LN LS LL US UB BB) H → va_D A (wC cI α gw gc gs ge gf cR cL cB pB SD RK RN RS RC RT LK LN LS LL US UB BB) → va_S A s.heap H locs → W p l e rm_X1_keepDraft s m args below meth c H locs 0 0 (MQ below (kQi D A (wC cI α gw gc gs ge gf cR res.2 cB pB SD RK RN RS RC RT LK LN LS LL US UB BB) res.1) args s 0 0 A) (F0 m 0 ls []) from hgo _ _ hP hD hS
  clear hP hD hS
  intro H locs hP hD hS
  refine lv_aload_n hx hb dX1_keepDraft_0 rfl (lv_at hl 0 rfl) ?_
  obtain ⟨q1, hq1, hf⟩ := bnd hf
  refine kI_callV (As := []) (rest := []) S hP hD hS (c_X1_isFull l D cI α gw gc gs ge gf cR cL cB pB SD RK RN RS RC RT LK LN LS LL US UB BB q1 hq1) (cwV 0 hts gX1_keepDraft_X1_isFull rfl rfl rfl (by decide +kernel) ⟨Nat.le_of_ble_eq_true rfl, Nat.le_of_ble_eq_true rfl⟩) 3 rfl rfl rfl hl.1 rfl (Nat.le_of_ble_eq_true rfl) dX1_keepDraft_1 ⟨Nat.zero_le _, Nat.zero_le _⟩ (fun H locs hP hD hS => ?_)
  have hP : va_P D vwCl (wC cI α gw gc gs ge gf cR cL cB pB SD RK RN RS RC RT LK LN LS LL US UB BB) H := hP
  have hD : va_D A (wC cI α gw gc gs ge gf cR cL cB pB SD RK RN RS RC RT LK LN LS LL US UB BB) := hD
  refine lv_if_eq (tgt := 9) hx hb dX1_keepDraft_4 (by decide) (fun c2 => ?_) (fun c2 => ?_)
  · have hf := it_t c2 hf
    refine lv_aload_n hx hb dX1_keepDraft_9 rfl (lv_at hl 0 rfl) ?_
    refine lv_dup hx hb dX1_keepDraft_10 rfl ?_
    refine va_get (D := D) (ci := 2) (v := .int cL) (C := RX1) (T := TX1) (N := 5) hx hb hts hiX1 hown hK hP 3 rfl rfl 4 (by decide) fl22 (fun _ h9 => h9) rfl dX1_keepDraft_11 ?_
    refine lv_iconst (v := (1 : Int32)) hx hb dX1_keepDraft_14 (by decide) ?_
    refine lv_iadd hx hb dX1_keepDraft_15 ?_
    refine va_put (D := D) (ci := 2) (v := .int (cL + (1 : Int32))) (ty := .int) (C := RX1) (T := TX1) (N := 5) hx hb hts hiX1 tyX1 tyX1_ok nmX1 hown hK hP hD hS 3 rfl rfl 4 (by decide) fl22 (fun _ h9 => h9) rfl (by decide +kernel) rfl rfl (Nat.le_of_ble_eq_true rfl) dX1_keepDraft_16 (fun H locs hP hD hS => ?_)
    have hP : va_P D vwCl (wC cI α gw gc gs ge gf cR (cL + (1 : Int32)) cB pB SD RK RN RS RC RT LK LN LS LL US UB BB) H := hP
    have hD : va_D A (wC cI α gw gc gs ge gf cR (cL + (1 : Int32)) cB pB SD RK RN RS RC RT LK LN LS LL US UB BB) := hD
    refine lv_iconst (v := (1 : Int32)) hx hb dX1_keepDraft_19 (by decide) ?_
    have e9 := Option.some.inj hf
    subst e9
    exact kI_ret S narrow_b1 hP hD hS dX1_keepDraft_20
  · have hf := it_f c2 hf
    refine lv_iconst (v := (0 : Int32)) hx hb dX1_keepDraft_7 (by decide) ?_
    have e9 := Option.some.inj hf
    subst e9
    exact kI_ret S narrow_b0 hP hD hS dX1_keepDraft_8
abbrev rm_X1_cutTo : Room := { frames := 0, cells := 0, slots := 0, locals := 0 }
set_option maxHeartbeats 4000000 in
set_option maxRecDepth 100000 in
theorem c_X1_cutTo (l : Launch) (D : va_G) (cI : ClassId) (α : Nat → Nat) (gw gc gs ge gf cR cL cB pB : Int32) (SD RK RN RS RC RT LK LN LS LL US UB BB : Nat → Int32) (x1 : Int32) (res : Int32) (hf : f_X1_cutTo cL x1 = some res) : kV l yX1_cutTo wsX1_cutTo rm_X1_cutTo D cI [.ref (α 3), .int x1] (wC cI α gw gc gs ge gf cR cL cB pB SD RK RN RS RC RT LK LN LS LL US UB BB) (wC cI α gw gc gs ge gf cR res cB pB SD RK RN RS RC RT LK LN LS LL US UB BB) := by
  unfold f_X1_cutTo at hf
  refine kV_of (cc := cX1_cutTo) (maxL := 2) (ret := none) (by decide +kernel) rfl (Nat.le_of_ble_eq_true rfl) ?_
  intro p e s m args below meth c A ls S hP hD hS hl
  have S : kC p s m args meth c cX1_cutTo 2 wsX1_cutTo RX1 none D cI A := S
  have hx := S.1.1
  have hb := S.1.2.1
  have hml := S.1.2.2.1
  have hown : s.vm.findClass RX1 = some m.cls := S.1.2.2.2.1
  have hts := S.1.2.2.2.2
  have hK := S.2.2.2.1
  have hnk := S.2.2.2.2.1.2
  have hiX1 : ∀ w ∈ u_ws RX1 TX1 5, w ∈ wsX1_cutTo := by decide +kernel
  have fl22 := hts (.fieldLink RX1 22 "ProofChecker$Lines" "count" "I") (by decide +kernel)
  have hl : lv_has ls 2 [(0, .ref (α 3)), (1, .int x1)] := hl
  suffices hgo : ∀ (H : Heap) (locs : List Loc), va_P D vwCl (wC cI α gw gc gs ge gf cR cL cB pB SD RK RN RS RC RT LK LN LS LL US UB BB) H → va_D A (wC cI α gw gc gs ge gf cR cL cB pB SD RK RN RS RC RT LK LN LS LL US UB BB) → va_S A s.heap H locs → W p l e rm_X1_cutTo s m args below meth c H locs 0 0 (MQ below (kQv D A (wC cI α gw gc gs ge gf cR res cB pB SD RK RN RS RC RT LK LN LS LL US UB BB)) args s 0 0 A) (F0 m 0 ls []) from hgo _ _ hP hD hS
  clear hP hD hS
  intro H locs hP hD hS
  refine lv_aload_n hx hb dX1_cutTo_0 rfl (lv_at hl 0 rfl) ?_
  refine lv_iload_n hx hb dX1_cutTo_1 rfl (lv_at hl 1 rfl) ?_
  refine va_put (D := D) (ci := 2) (v := .int x1) (ty := .int) (C := RX1) (T := TX1) (N := 5) hx hb hts hiX1 tyX1 tyX1_ok nmX1 hown hK hP hD hS 3 rfl rfl 4 (by decide) fl22 (fun _ h9 => h9) rfl (by decide +kernel) rfl rfl (Nat.le_of_ble_eq_true rfl) dX1_cutTo_2 (fun H locs hP hD hS => ?_)
  have hP : va_P D vwCl (wC cI α gw gc gs ge gf cR x1 cB pB SD RK RN RS RC RT LK LN LS LL US UB BB) H := hP
  have hD : va_D A (wC cI α gw gc gs ge gf cR x1 cB pB SD RK RN RS RC RT LK LN LS LL US UB BB) := hD
  have e9 := Option.some.inj hf
  subst e9
  exact kV_ret S hP hD hS dX1_cutTo_5
abbrev rm_X1_isFullOfLiterals : Room := { frames := 0, cells := 0, slots := 0, locals := 0 }
set_option maxHeartbeats 4000000 in
set_option maxRecDepth 100000 in
theorem c_X1_isFullOfLiterals (l : Launch) (D : va_G) (cI : ClassId) (α : Nat → Nat) (gw gc gs ge gf cR cL cB pB : Int32) (SD RK RN RS RC RT LK LN LS LL US UB BB : Nat → Int32) (x1 : Int32) (res : Int32) (hf : f_X1_isFullOfLiterals LS x1 = some res) : kI l yX1_isFullOfLiterals wsX1_isFullOfLiterals rm_X1_isFullOfLiterals D cI [.ref (α 3), .int x1] (wC cI α gw gc gs ge gf cR cL cB pB SD RK RN RS RC RT LK LN LS LL US UB BB) (wC cI α gw gc gs ge gf cR cL cB pB SD RK RN RS RC RT LK LN LS LL US UB BB) res := by
  unfold f_X1_isFullOfLiterals at hf
  refine kI_of (cc := cX1_isFullOfLiterals) (maxL := 2) (ret := (some .boolean)) (by decide +kernel) rfl (Nat.le_of_ble_eq_true rfl) ?_
  intro p e s m args below meth c A ls S hP hD hS hl
  have S : kC p s m args meth c cX1_isFullOfLiterals 2 wsX1_isFullOfLiterals RX1 (some .boolean) D cI A := S
  have hx := S.1.1
  have hb := S.1.2.1
  have hml := S.1.2.2.1
  have hown : s.vm.findClass RX1 = some m.cls := S.1.2.2.2.1
  have hts := S.1.2.2.2.2
  have hK := S.2.2.2.1
  have hnk := S.2.2.2.2.1.2
  have hiX1 : ∀ w ∈ u_ws RX1 TX1 5, w ∈ wsX1_isFullOfLiterals := by decide +kernel
  have fl16 := hts (.fieldLink RX1 16 "ProofChecker$Lines" "sizes" "[I") (by decide +kernel)
  have hl : lv_has ls 2 [(0, .ref (α 3)), (1, .int x1)] := hl
  suffices hgo : ∀ (H : Heap) (locs : List Loc), va_P D vwCl (wC cI α gw gc gs ge gf cR cL cB pB SD RK RN RS RC RT LK LN LS LL US UB BB) H → va_D A (wC cI α gw gc gs ge gf cR cL cB pB SD RK RN RS RC RT LK LN LS LL US UB BB) → va_S A s.heap H locs → W p l e rm_X1_isFullOfLiterals s m args below meth c H locs 0 0 (MQ below (kQi D A (wC cI α gw gc gs ge gf cR cL cB pB SD RK RN RS RC RT LK LN LS LL US UB BB) res) args s 0 0 A) (F0 m 0 ls []) from hgo _ _ hP hD hS
  clear hP hD hS
  intro H locs hP hD hS
  refine lv_aload_n hx hb dX1_isFullOfLiterals_0 rfl (lv_at hl 0 rfl) ?_
  refine va_get (D := D) (ci := 2) (v := .ref (α 14)) (C := RX1) (T := TX1) (N := 5) hx hb hts hiX1 hown hK hP 3 rfl rfl 2 (by decide) fl16 (fun _ h9 => h9) rfl dX1_isFullOfLiterals_1 ?_
  refine lv_iload_n hx hb dX1_isFullOfLiterals_4 rfl (lv_at hl 1 rfl) ?_
  obtain ⟨g1, hf⟩ := gin_some hf
  refine va_iald hx hb hK hP 14 0 rfl rfl g1 dX1_isFullOfLiterals_5 ?_
  refine lv_bipush (v := (16 : Int32)) hx hb dX1_isFullOfLiterals_6 (by decide) ?_
  refine lv_icmp_lt (tgt := 15) hx hb dX1_isFullOfLiterals_8 (by decide) (fun c2 => ?_) (fun c2 => ?_)
  · have hf := it_t c2 hf
    refine lv_iconst (v := (0 : Int32)) hx hb dX1_isFullOfLiterals_15 (by decide) ?_
    have e9 := Option.some.inj hf
    subst e9
    exact kI_ret S narrow_b0 hP hD hS dX1_isFullOfLiterals_16
  · have hf := it_f c2 hf
    refine lv_iconst (v := (1 : Int32)) hx hb dX1_isFullOfLiterals_11 (by decide) ?_
    refine lv_goto (tgt := 16) hx hb dX1_isFullOfLiterals_12 (by decide) ?_
    have e9 := Option.some.inj hf
    subst e9
    exact kI_ret S narrow_b1 hP hD hS dX1_isFullOfLiterals_16
abbrev rm_X1_addLiteral : Room := { frames := 1, cells := 0, slots := 0, locals := 22 }
set_option maxHeartbeats 4000000 in
set_option maxRecDepth 100000 in
theorem c_X1_addLiteral (l : Launch) (D : va_G) (cI : ClassId) (α : Nat → Nat) (gw gc gs ge gf cR cL cB pB : Int32) (SD RK RN RS RC RT LK LN LS LL US UB BB : Nat → Int32) (F : Nat) (x1 : Int32) (x2 : Int32) (res : Int32 × (Nat → Int32) × (Nat → Int32)) (hf : f_X1_addLiteral F LS LL x1 x2 = some res) : kI l yX1_addLiteral wsX1_addLiteral rm_X1_addLiteral D cI [.ref (α 3), .int x1, .int x2] (wC cI α gw gc gs ge gf cR cL cB pB SD RK RN RS RC RT LK LN LS LL US UB BB) (wC cI α gw gc gs ge gf cR cL cB pB SD RK RN RS RC RT LK LN res.2.1 res.2.2 US UB BB) res.1 := by
  unfold f_X1_addLiteral at hf
  refine kI_of (cc := cX1_addLiteral) (maxL := 5) (ret := (some .boolean)) (by decide +kernel) rfl (Nat.le_of_ble_eq_true rfl) ?_
  intro p e s m args below meth c A ls S hP hD hS hl
  have S : kC p s m args meth c cX1_addLiteral 5 wsX1_addLiteral RX1 (some .boolean) D cI A := S
  have hx := S.1.1
  have hb := S.1.2.1
  have hml := S.1.2.2.1
  have hown : s.vm.findClass RX1 = some m.cls := S.1.2.2.2.1
  have hts := S.1.2.2.2.2
  have hK := S.2.2.2.1
  have hnk := S.2.2.2.2.1.2
  have hiX1 : ∀ w ∈ u_ws RX1 TX1 5, w ∈ wsX1_addLiteral := by decide +kernel
  have fl16 := hts (.fieldLink RX1 16 "ProofChecker$Lines" "sizes" "[I") (by decide +kernel)
  have fl19 := hts (.fieldLink RX1 19 "ProofChecker$Lines" "literals" "[I") (by decide +kernel)
  have hl : lv_has ls 5 [(0, .ref (α 3)), (1, .int x1), (2, .int x2)] := hl
  have w20 : ∀ (n : Nat), ∀ (x1 : Int32) (x2 : Int32) (x3 : Int32) (x4 : Int32) (LS : Nat → Int32) (LL : Nat → Int32) (H : Heap) (locs : List Loc) (ls : Array Slot), f_X1_addLiteral_L20 F n x1 x2 x3 x4 LS LL = some res → va_P D vwCl (wC cI α gw gc gs ge gf cR cL cB pB SD RK RN RS RC RT LK LN LS LL US UB BB) H → va_D A (wC cI α gw gc gs ge gf cR cL cB pB SD RK RN RS RC RT LK LN LS LL US UB BB) → va_S A s.heap H locs → lv_has ls 5 [(0, .ref (α 3)), (1, .int x1), (2, .int x2), (3, .int x3), (4, .int x4)] → W p l e rm_X1_addLiteral s m args below meth c H locs 0 0 (MQ below (kQi D A (wC cI α gw gc gs ge gf cR cL cB pB SD RK RN RS RC RT LK LN res.2.1 res.2.2 US UB BB) res.1) args s 0 0 A) (F0 m 20 ls []) := by
    intro n
    induction n with
    | zero => intro x1 x2 x3 x4 LS LL H locs ls hf; cases hf
    | succ n ih =>
      intro x1 x2 x3 x4 LS LL H locs ls hf hP hD hS hl
      rw [f_X1_addLiteral_L20.eq_2] at hf
      refine lv_iload hx hb dX1_addLiteral_20 (lv_at hl 4 rfl) ?_
      refine lv_iload_n hx hb dX1_addLiteral_22 rfl (lv_at hl 3 rfl) ?_
      refine lv_icmp_ge (tgt := 45) hx hb dX1_addLiteral_23 (by decide) (fun c4 => ?_) (fun c4 => ?_)
      · have hf := it_t c4 hf
        refine lv_aload_n hx hb dX1_addLiteral_45 rfl (lv_at hl 0 rfl) ?_
        refine va_get (D := D) (ci := 2) (v := .ref (α 15)) (C := RX1) (T := TX1) (N := 5) hx hb hts hiX1 hown hK hP 3 rfl rfl 3 (by decide) fl19 (fun _ h9 => h9) rfl dX1_addLiteral_46 ?_
        refine lv_bipush (v := (16 : Int32)) hx hb dX1_addLiteral_49 (by decide) ?_
        refine lv_iload_n hx hb dX1_addLiteral_51 rfl (lv_at hl 1 rfl) ?_
        refine lv_imul hx hb dX1_addLiteral_52 ?_
        refine lv_iload_n hx hb dX1_addLiteral_53 rfl (lv_at hl 3 rfl) ?_
        refine lv_iadd hx hb dX1_addLiteral_54 ?_
        refine lv_iload_n hx hb dX1_addLiteral_55 rfl (lv_at hl 2 rfl) ?_
        obtain ⟨g5, hf⟩ := gin_some hf
        refine va_iast hx hb hK hP hD hS 15 0 rfl rfl g5 dX1_addLiteral_56 (fun H locs hP hD hS => ?_)
        have hP : va_P D vwCl (wC cI α gw gc gs ge gf cR cL cB pB SD RK RN RS RC RT LK LN LS ((upd LL ((((16 : Int32) * x1) + x3)).toNatClampNeg x2)) US UB BB) H := hP
        have hD : va_D A (wC cI α gw gc gs ge gf cR cL cB pB SD RK RN RS RC RT LK LN LS ((upd LL ((((16 : Int32) * x1) + x3)).toNatClampNeg x2)) US UB BB) := hD
        refine lv_aload_n hx hb dX1_addLiteral_57 rfl (lv_at hl 0 rfl) ?_
        refine va_get (D := D) (ci := 2) (v := .ref (α 14)) (C := RX1) (T := TX1) (N := 5) hx hb hts hiX1 hown hK hP 3 rfl rfl 2 (by decide) fl16 (fun _ h9 => h9) rfl dX1_addLiteral_58 ?_
        refine lv_iload_n hx hb dX1_addLiteral_61 rfl (lv_at hl 1 rfl) ?_
        refine lv_iload_n hx hb dX1_addLiteral_62 rfl (lv_at hl 3 rfl) ?_
        refine lv_iconst (v := (1 : Int32)) hx hb dX1_addLiteral_63 (by decide) ?_
        refine lv_iadd hx hb dX1_addLiteral_64 ?_
        obtain ⟨g6, hf⟩ := gin_some hf
        refine va_iast hx hb hK hP hD hS 14 0 rfl rfl g6 dX1_addLiteral_65 (fun H locs hP hD hS => ?_)
        have hP : va_P D vwCl (wC cI α gw gc gs ge gf cR cL cB pB SD RK RN RS RC RT LK LN ((upd LS x1.toNatClampNeg (x3 + (1 : Int32)))) ((upd LL ((((16 : Int32) * x1) + x3)).toNatClampNeg x2)) US UB BB) H := hP
        have hD : va_D A (wC cI α gw gc gs ge gf cR cL cB pB SD RK RN RS RC RT LK LN ((upd LS x1.toNatClampNeg (x3 + (1 : Int32)))) ((upd LL ((((16 : Int32) * x1) + x3)).toNatClampNeg x2)) US UB BB) := hD
        refine lv_iconst (v := (1 : Int32)) hx hb dX1_addLiteral_66 (by decide) ?_
        have e9 := Option.some.inj hf
        subst e9
        exact kI_ret S narrow_b1 hP hD hS dX1_addLiteral_67
      · have hf := it_f c4 hf
        refine lv_aload_n hx hb dX1_addLiteral_26 rfl (lv_at hl 0 rfl) ?_
        refine lv_iload_n hx hb dX1_addLiteral_27 rfl (lv_at hl 1 rfl) ?_
        refine lv_iload hx hb dX1_addLiteral_28 (lv_at hl 4 rfl) ?_
        obtain ⟨q7, hq7, hf⟩ := bnd hf
        refine kI_callV (As := [.int x1, .int x4]) (rest := []) S hP hD hS (c_X1_literalAt l D cI α gw gc gs ge gf cR cL cB pB SD RK RN RS RC RT LK LN LS LL US UB BB x1 x4 q7 hq7) (cwV 2 hts gX1_addLiteral_X1_literalAt rfl rfl rfl (by decide +kernel) ⟨Nat.le_of_ble_eq_true rfl, Nat.le_of_ble_eq_true rfl⟩) 3 rfl rfl rfl hl.1 rfl (Nat.le_of_ble_eq_true rfl) dX1_addLiteral_30 ⟨Nat.zero_le _, Nat.zero_le _⟩ (fun H locs hP hD hS => ?_)
        have hP : va_P D vwCl (wC cI α gw gc gs ge gf cR cL cB pB SD RK RN RS RC RT LK LN LS LL US UB BB) H := hP
        have hD : va_D A (wC cI α gw gc gs ge gf cR cL cB pB SD RK RN RS RC RT LK LN LS LL US UB BB) := hD
        refine lv_iload_n hx hb dX1_addLiteral_33 rfl (lv_at hl 2 rfl) ?_
        refine lv_icmp_ne (tgt := 39) hx hb dX1_addLiteral_34 (by decide) (fun c8 => ?_) (fun c8 => ?_)
        · have hf := it_t c8 hf
          refine lv_iinc (v := (x4 + (1 : Int32))) (lv' := [(4, .int (x4 + (1 : Int32))), (0, .ref (α 3)), (1, .int x1), (2, .int x2), (3, .int x3)]) hx hb dX1_addLiteral_39 hl (k := 4) rfl rfl (by decide) rfl (fun ls hl => ?_)
          refine lv_goto (tgt := 20) hx hb dX1_addLiteral_42 (by decide) ?_
          exact ih _ _ _ _ _ _ H locs ls hf hP hD hS (lv_sub hl [1, 2, 3, 4, 0] rfl)
        · have hf := it_f (fun h9 => h9 c8) hf
          refine lv_iconst (v := (0 : Int32)) hx hb dX1_addLiteral_37 (by decide) ?_
          have e9 := Option.some.inj hf
          subst e9
          exact kI_ret S narrow_b0 hP hD hS dX1_addLiteral_38
  suffices hgo : ∀ (H : Heap) (locs : List Loc), va_P D vwCl (wC cI α gw gc gs ge gf cR cL cB pB SD RK RN RS RC RT LK LN LS LL US UB BB) H → va_D A (wC cI α gw gc gs ge gf cR cL cB pB SD RK RN RS RC RT LK LN LS LL US UB BB) → va_S A s.heap H locs → W p l e rm_X1_addLiteral s m args below meth c H locs 0 0 (MQ below (kQi D A (wC cI α gw gc gs ge gf cR cL cB pB SD RK RN RS RC RT LK LN res.2.1 res.2.2 US UB BB) res.1) args s 0 0 A) (F0 m 0 ls []) from hgo _ _ hP hD hS
  clear hP hD hS
  intro H locs hP hD hS
  refine lv_aload_n hx hb dX1_addLiteral_0 rfl (lv_at hl 0 rfl) ?_
  refine lv_iload_n hx hb dX1_addLiteral_1 rfl (lv_at hl 1 rfl) ?_
  obtain ⟨q1, hq1, hf⟩ := bnd hf
  refine kI_callV (As := [.int x1]) (rest := []) S hP hD hS (c_X1_isFullOfLiterals l D cI α gw gc gs ge gf cR cL cB pB SD RK RN RS RC RT LK LN LS LL US UB BB x1 q1 hq1) (cwV 1 hts gX1_addLiteral_X1_isFullOfLiterals rfl rfl rfl (by decide +kernel) ⟨Nat.le_of_ble_eq_true rfl, Nat.le_of_ble_eq_true rfl⟩) 3 rfl rfl rfl hl.1 rfl (Nat.le_of_ble_eq_true rfl) dX1_addLiteral_2 ⟨Nat.zero_le _, Nat.zero_le _⟩ (fun H locs hP hD hS => ?_)
  have hP : va_P D vwCl (wC cI α gw gc gs ge gf cR cL cB pB SD RK RN RS RC RT LK LN LS LL US UB BB) H := hP
  have hD : va_D A (wC cI α gw gc gs ge gf cR cL cB pB SD RK RN RS RC RT LK LN LS LL US UB BB) := hD
  refine lv_if_eq (tgt := 10) hx hb dX1_addLiteral_5 (by decide) (fun c2 => ?_) (fun c2 => ?_)
  · have hf := it_t c2 hf
    refine lv_aload_n hx hb dX1_addLiteral_10 rfl (lv_at hl 0 rfl) ?_
    refine va_get (D := D) (ci := 2) (v := .ref (α 14)) (C := RX1) (T := TX1) (N := 5) hx hb hts hiX1 hown hK hP 3 rfl rfl 2 (by decide) fl16 (fun _ h9 => h9) rfl dX1_addLiteral_11 ?_
    refine lv_iload_n hx hb dX1_addLiteral_14 rfl (lv_at hl 1 rfl) ?_
    obtain ⟨g3, hf⟩ := gin_some hf
    refine va_iald hx hb hK hP 14 0 rfl rfl g3 dX1_addLiteral_15 ?_
    refine lv_istore_n (lv' := [(3, .int (LS x1.toNatClampNeg)), (0, .ref (α 3)), (1, .int x1), (2, .int x2)]) hx hb dX1_addLiteral_16 rfl hl (by decide) rfl (fun ls hl => ?_)
    refine lv_iconst (v := (0 : Int32)) hx hb dX1_addLiteral_17 (by decide) ?_
    refine lv_istore (lv' := [(4, .int (0 : Int32)), (3, .int (LS x1.toNatClampNeg)), (0, .ref (α 3)), (1, .int x1), (2, .int x2)]) hx hb dX1_addLiteral_18 hl (by decide) rfl (fun ls hl => ?_)
    exact w20 F _ _ _ _ _ _ H locs ls hf hP hD hS (lv_sub hl [2, 3, 4, 1, 0] rfl)
  · have hf := it_f c2 hf
    refine lv_iconst (v := (0 : Int32)) hx hb dX1_addLiteral_8 (by decide) ?_
    have e9 := Option.some.inj hf
    subst e9
    exact kI_ret S narrow_b0 hP hD hS dX1_addLiteral_9
