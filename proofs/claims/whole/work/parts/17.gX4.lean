abbrev rm_X4_symbolsOf : Room := { frames := 0, cells := 0, slots := 0, locals := 0 }
set_option maxHeartbeats 4000000 in
set_option maxRecDepth 100000 in
theorem c_X4_symbolsOf (l : Launch) (D : va_G) (cI : ClassId) (α : Nat → Nat) (gw gc gs ge gf cR cL cB pB : Int32) (SD RK RN RS RC RT LK LN LS LL US UB BB : Nat → Int32) (x1 : Int32) (res : Int32) (hf : f_X4_symbolsOf US x1 = some res) : kI l yX4_symbolsOf wsX4_symbolsOf rm_X4_symbolsOf D cI [.ref (α 4), .int x1] (wC cI α gw gc gs ge gf cR cL cB pB SD RK RN RS RC RT LK LN LS LL US UB BB) (wC cI α gw gc gs ge gf cR cL cB pB SD RK RN RS RC RT LK LN LS LL US UB BB) res := by
  unfold f_X4_symbolsOf at hf
  refine kI_of (cc := cX4_symbolsOf) (maxL := 2) (ret := (some .int)) (by decide +kernel) rfl (Nat.le_of_ble_eq_true rfl) ?_
  intro p e s m args below meth c A ls S hP hD hS hl
  have S : kC p s m args meth c cX4_symbolsOf 2 wsX4_symbolsOf RX4 (some .int) D cI A := S
  have hx := S.1.1
  have hb := S.1.2.1
  have hml := S.1.2.2.1
  have hown : s.vm.findClass RX4 = some m.cls := S.1.2.2.2.1
  have hts := S.1.2.2.2.2
  have hK := S.2.2.2.1
  have hnk := S.2.2.2.2.1.2
  have hiX4 : ∀ w ∈ u_ws RX4 TX4 4, w ∈ wsX4_symbolsOf := by decide +kernel
  have fl11 := hts (.fieldLink RX4 11 "ProofChecker$Units" "symbols" "[I") (by decide +kernel)
  have hl : lv_has ls 2 [(0, .ref (α 4)), (1, .int x1)] := hl
  suffices hgo : ∀ (H : Heap) (locs : List Loc), va_P D vwCl (wC cI α gw gc gs ge gf cR cL cB pB SD RK RN RS RC RT LK LN LS LL US UB BB) H → va_D A (wC cI α gw gc gs ge gf cR cL cB pB SD RK RN RS RC RT LK LN LS LL US UB BB) → va_S A s.heap H locs → W p l e rm_X4_symbolsOf s m args below meth c H locs 0 0 (MQ below (kQi D A (wC cI α gw gc gs ge gf cR cL cB pB SD RK RN RS RC RT LK LN LS LL US UB BB) res) args s 0 0 A) (F0 m 0 ls []) from hgo _ _ hP hD hS
  clear hP hD hS
  intro H locs hP hD hS
  refine lv_aload_n hx hb dX4_symbolsOf_0 rfl (lv_at hl 0 rfl) ?_
  refine va_get (D := D) (ci := 5) (v := .ref (α 16)) (C := RX4) (T := TX4) (N := 4) hx hb hts hiX4 hown hK hP 4 rfl rfl 2 (by decide) fl11 (fun _ h9 => h9) rfl dX4_symbolsOf_1 ?_
  refine lv_iload_n hx hb dX4_symbolsOf_4 rfl (lv_at hl 1 rfl) ?_
  obtain ⟨g1, hf⟩ := gin_some hf
  refine va_iald hx hb hK hP 16 0 rfl rfl g1 dX4_symbolsOf_5 ?_
  have e9 := Option.some.inj hf
  subst e9
  exact kI_ret S rfl hP hD hS dX4_symbolsOf_6
abbrev rm_X4_startWhole : Room := { frames := 1, cells := 0, slots := 0, locals := 20 }
set_option maxHeartbeats 4000000 in
set_option maxRecDepth 100000 in
theorem c_X4_startWhole (l : Launch) (D : va_G) (cI : ClassId) (α : Nat → Nat) (gw gc gs ge gf cR cL cB pB : Int32) (SD RK RN RS RC RT LK LN LS LL US UB BB : Nat → Int32) (F : Nat)  (res : (Nat → Int32)) (hf : f_X4_startWhole gc gs F US = some res) : kV l yX4_startWhole wsX4_startWhole rm_X4_startWhole D cI [.ref (α 4)] (wC cI α gw gc gs ge gf cR cL cB pB SD RK RN RS RC RT LK LN LS LL US UB BB) (wC cI α gw gc gs ge gf cR cL cB pB SD RK RN RS RC RT LK LN LS LL res UB BB) := by
  unfold f_X4_startWhole at hf
  refine kV_of (cc := cX4_startWhole) (maxL := 2) (ret := none) (by decide +kernel) rfl (Nat.le_of_ble_eq_true rfl) ?_
  intro p e s m args below meth c A ls S hP hD hS hl
  have S : kC p s m args meth c cX4_startWhole 2 wsX4_startWhole RX4 none D cI A := S
  have hx := S.1.1
  have hb := S.1.2.1
  have hml := S.1.2.2.1
  have hown : s.vm.findClass RX4 = some m.cls := S.1.2.2.2.1
  have hts := S.1.2.2.2.2
  have hK := S.2.2.2.1
  have hnk := S.2.2.2.2.1.2
  have hiX4 : ∀ w ∈ u_ws RX4 TX4 4, w ∈ wsX4_startWhole := by decide +kernel
  have fl11 := hts (.fieldLink RX4 11 "ProofChecker$Units" "symbols" "[I") (by decide +kernel)
  have fl20 := hts (.fieldLink RX4 20 "ProofChecker$Units" "grid" "LProofChecker$Grid;") (by decide +kernel)
  have hl : lv_has ls 2 [(0, .ref (α 4))] := hl
  have w2 : ∀ (n : Nat), ∀ (x1 : Int32) (US : Nat → Int32) (H : Heap) (locs : List Loc) (ls : Array Slot), f_X4_startWhole_L2 gc gs F n x1 US = some res → va_P D vwCl (wC cI α gw gc gs ge gf cR cL cB pB SD RK RN RS RC RT LK LN LS LL US UB BB) H → va_D A (wC cI α gw gc gs ge gf cR cL cB pB SD RK RN RS RC RT LK LN LS LL US UB BB) → va_S A s.heap H locs → lv_has ls 2 [(0, .ref (α 4)), (1, .int x1)] → W p l e rm_X4_startWhole s m args below meth c H locs 0 0 (MQ below (kQv D A (wC cI α gw gc gs ge gf cR cL cB pB SD RK RN RS RC RT LK LN LS LL res UB BB)) args s 0 0 A) (F0 m 2 ls []) := by
    intro n
    induction n with
    | zero => intro x1 US H locs ls hf; cases hf
    | succ n ih =>
      intro x1 US H locs ls hf hP hD hS hl
      rw [f_X4_startWhole_L2.eq_2] at hf
      refine lv_iload_n hx hb dX4_startWhole_2 rfl (lv_at hl 1 rfl) ?_
      refine lv_aload_n hx hb dX4_startWhole_3 rfl (lv_at hl 0 rfl) ?_
      refine va_get (D := D) (ci := 5) (v := .ref (α 1)) (C := RX4) (T := TX4) (N := 4) hx hb hts hiX4 hown hK hP 4 rfl rfl 0 (by decide) fl20 (fun _ h9 => h9) rfl dX4_startWhole_4 ?_
      obtain ⟨q1, hq1, hf⟩ := bnd hf
      refine kI_callV (As := []) (rest := [.int x1]) S hP hD hS (c_X0_cells l D cI α gw gc gs ge gf cR cL cB pB SD RK RN RS RC RT LK LN LS LL US UB BB q1 hq1) (cwV 0 hts gX4_startWhole_X0_cells rfl rfl rfl (by decide +kernel) ⟨Nat.le_of_ble_eq_true rfl, Nat.le_of_ble_eq_true rfl⟩) 1 rfl rfl rfl hl.1 rfl (Nat.le_of_ble_eq_true rfl) dX4_startWhole_7 ⟨Nat.zero_le _, Nat.zero_le _⟩ (fun H locs hP hD hS => ?_)
      have hP : va_P D vwCl (wC cI α gw gc gs ge gf cR cL cB pB SD RK RN RS RC RT LK LN LS LL US UB BB) H := hP
      have hD : va_D A (wC cI α gw gc gs ge gf cR cL cB pB SD RK RN RS RC RT LK LN LS LL US UB BB) := hD
      refine lv_icmp_ge (tgt := 32) hx hb dX4_startWhole_10 (by decide) (fun c2 => ?_) (fun c2 => ?_)
      · have hf := it_t c2 hf
        have e9 := Option.some.inj hf
        subst e9
        exact kV_ret S hP hD hS dX4_startWhole_32
      · have hf := it_f c2 hf
        refine lv_aload_n hx hb dX4_startWhole_13 rfl (lv_at hl 0 rfl) ?_
        refine va_get (D := D) (ci := 5) (v := .ref (α 16)) (C := RX4) (T := TX4) (N := 4) hx hb hts hiX4 hown hK hP 4 rfl rfl 2 (by decide) fl11 (fun _ h9 => h9) rfl dX4_startWhole_14 ?_
        refine lv_iload_n hx hb dX4_startWhole_17 rfl (lv_at hl 1 rfl) ?_
        refine lv_aload_n hx hb dX4_startWhole_18 rfl (lv_at hl 0 rfl) ?_
        refine va_get (D := D) (ci := 5) (v := .ref (α 1)) (C := RX4) (T := TX4) (N := 4) hx hb hts hiX4 hown hK hP 4 rfl rfl 0 (by decide) fl20 (fun _ h9 => h9) rfl dX4_startWhole_19 ?_
        obtain ⟨q3, hq3, hf⟩ := bnd hf
        refine kI_callV (As := []) (rest := [.int x1, .ref (α 16)]) S hP hD hS (c_X0_allSymbols l D cI α gw gc gs ge gf cR cL cB pB SD RK RN RS RC RT LK LN LS LL US UB BB q3 hq3) (cwV 0 hts gX4_startWhole_X0_allSymbols rfl rfl rfl (by decide +kernel) ⟨Nat.le_of_ble_eq_true rfl, Nat.le_of_ble_eq_true rfl⟩) 1 rfl rfl rfl hl.1 rfl (Nat.le_of_ble_eq_true rfl) dX4_startWhole_22 ⟨Nat.zero_le _, Nat.zero_le _⟩ (fun H locs hP hD hS => ?_)
        have hP : va_P D vwCl (wC cI α gw gc gs ge gf cR cL cB pB SD RK RN RS RC RT LK LN LS LL US UB BB) H := hP
        have hD : va_D A (wC cI α gw gc gs ge gf cR cL cB pB SD RK RN RS RC RT LK LN LS LL US UB BB) := hD
        obtain ⟨g4, hf⟩ := gin_some hf
        refine va_iast hx hb hK hP hD hS 16 0 rfl rfl g4 dX4_startWhole_25 (fun H locs hP hD hS => ?_)
        have hP : va_P D vwCl (wC cI α gw gc gs ge gf cR cL cB pB SD RK RN RS RC RT LK LN LS LL (upd US x1.toNatClampNeg q3) UB BB) H := hP
        have hD : va_D A (wC cI α gw gc gs ge gf cR cL cB pB SD RK RN RS RC RT LK LN LS LL (upd US x1.toNatClampNeg q3) UB BB) := hD
        refine lv_iinc (v := (x1 + (1 : Int32))) (lv' := [(1, .int (x1 + (1 : Int32))), (0, .ref (α 4))]) hx hb dX4_startWhole_26 hl (k := 1) rfl rfl (by decide) rfl (fun ls hl => ?_)
        refine lv_goto (tgt := 2) hx hb dX4_startWhole_29 (by decide) ?_
        exact ih _ _ H locs ls hf hP hD hS (lv_sub hl [1, 0] rfl)
  suffices hgo : ∀ (H : Heap) (locs : List Loc), va_P D vwCl (wC cI α gw gc gs ge gf cR cL cB pB SD RK RN RS RC RT LK LN LS LL US UB BB) H → va_D A (wC cI α gw gc gs ge gf cR cL cB pB SD RK RN RS RC RT LK LN LS LL US UB BB) → va_S A s.heap H locs → W p l e rm_X4_startWhole s m args below meth c H locs 0 0 (MQ below (kQv D A (wC cI α gw gc gs ge gf cR cL cB pB SD RK RN RS RC RT LK LN LS LL res UB BB)) args s 0 0 A) (F0 m 0 ls []) from hgo _ _ hP hD hS
  clear hP hD hS
  intro H locs hP hD hS
  refine lv_iconst (v := (0 : Int32)) hx hb dX4_startWhole_0 (by decide) ?_
  refine lv_istore_n (lv' := [(1, .int (0 : Int32)), (0, .ref (α 4))]) hx hb dX4_startWhole_1 rfl hl (by decide) rfl (fun ls hl => ?_)
  exact w2 F _ _ H locs ls hf hP hD hS (lv_sub hl [1, 0] rfl)
abbrev rm_X4_narrow : Room := { frames := 1, cells := 0, slots := 0, locals := 20 }
set_option maxHeartbeats 4000000 in
set_option maxRecDepth 100000 in
theorem c_X4_narrow (l : Launch) (D : va_G) (cI : ClassId) (α : Nat → Nat) (gw gc gs ge gf cR cL cB pB : Int32) (SD RK RN RS RC RT LK LN LS LL US UB BB : Nat → Int32) (x1 : Int32) (x2 : Int32) (res : (Nat → Int32)) (hf : f_X4_narrow US x1 x2 = some res) : kV l yX4_narrow wsX4_narrow rm_X4_narrow D cI [.ref (α 4), .int x1, .int x2] (wC cI α gw gc gs ge gf cR cL cB pB SD RK RN RS RC RT LK LN LS LL US UB BB) (wC cI α gw gc gs ge gf cR cL cB pB SD RK RN RS RC RT LK LN LS LL res UB BB) := by
  unfold f_X4_narrow at hf
  refine kV_of (cc := cX4_narrow) (maxL := 5) (ret := none) (by decide +kernel) rfl (Nat.le_of_ble_eq_true rfl) ?_
  intro p e s m args below meth c A ls S hP hD hS hl
  have S : kC p s m args meth c cX4_narrow 5 wsX4_narrow RX4 none D cI A := S
  have hx := S.1.1
  have hb := S.1.2.1
  have hml := S.1.2.2.1
  have hown : s.vm.findClass RX4 = some m.cls := S.1.2.2.2.1
  have hts := S.1.2.2.2.2
  have hK := S.2.2.2.1
  have hnk := S.2.2.2.2.1.2
  have hiX4 : ∀ w ∈ u_ws RX4 TX4 4, w ∈ wsX4_narrow := by decide +kernel
  have fl11 := hts (.fieldLink RX4 11 "ProofChecker$Units" "symbols" "[I") (by decide +kernel)
  have hl : lv_has ls 5 [(0, .ref (α 4)), (1, .int x1), (2, .int x2)] := hl
  suffices hgo : ∀ (H : Heap) (locs : List Loc), va_P D vwCl (wC cI α gw gc gs ge gf cR cL cB pB SD RK RN RS RC RT LK LN LS LL US UB BB) H → va_D A (wC cI α gw gc gs ge gf cR cL cB pB SD RK RN RS RC RT LK LN LS LL US UB BB) → va_S A s.heap H locs → W p l e rm_X4_narrow s m args below meth c H locs 0 0 (MQ below (kQv D A (wC cI α gw gc gs ge gf cR cL cB pB SD RK RN RS RC RT LK LN LS LL res UB BB)) args s 0 0 A) (F0 m 0 ls []) from hgo _ _ hP hD hS
  clear hP hD hS
  intro H locs hP hD hS
  refine lv_iload_n hx hb dX4_narrow_0 rfl (lv_at hl 1 rfl) ?_
  obtain ⟨q1, hq1, hf⟩ := bnd hf
  refine kI_callS (As := [.int x1]) (rest := []) S hP hD hS (c_X1_cellOf l D cI x1 q1 hq1) (va_cwS 1 hts gX4_narrow_X1_cellOf rfl rfl rfl (by decide +kernel) ⟨Nat.le_of_ble_eq_true rfl, Nat.le_of_ble_eq_true rfl⟩) rfl hl.1 rfl (Nat.le_of_ble_eq_true rfl) dX4_narrow_1 ⟨Nat.zero_le _, Nat.zero_le _⟩ (fun H locs hP hD hS => ?_)
  refine lv_istore_n (lv' := [(3, .int q1), (0, .ref (α 4)), (1, .int x1), (2, .int x2)]) hx hb dX4_narrow_4 rfl hl (by decide) rfl (fun ls hl => ?_)
  refine lv_iconst (v := (1 : Int32)) hx hb dX4_narrow_5 (by decide) ?_
  refine lv_iload_n hx hb dX4_narrow_6 rfl (lv_at hl 2 rfl) ?_
  obtain ⟨q2, hq2, hf⟩ := bnd hf
  refine kI_callS (As := [.int x1]) (rest := [.int (1 : Int32)]) S hP hD hS (c_X1_symbolOf l D cI x1 q2 hq2) (va_cwS 1 hts gX4_narrow_X1_symbolOf rfl rfl rfl (by decide +kernel) ⟨Nat.le_of_ble_eq_true rfl, Nat.le_of_ble_eq_true rfl⟩) rfl hl.1 rfl (Nat.le_of_ble_eq_true rfl) dX4_narrow_7 ⟨Nat.zero_le _, Nat.zero_le _⟩ (fun H locs hP hD hS => ?_)
  refine lv_ishl hx hb dX4_narrow_10 ?_
  refine lv_istore (lv' := [(4, .int ((1 : Int32) <<< (q2 &&& 31))), (3, .int q1), (0, .ref (α 4)), (1, .int x1), (2, .int x2)]) hx hb dX4_narrow_11 hl (by decide) rfl (fun ls hl => ?_)
  refine lv_aload_n hx hb dX4_narrow_13 rfl (lv_at hl 2 rfl) ?_
  refine va_get (D := D) (ci := 5) (v := .ref (α 16)) (C := RX4) (T := TX4) (N := 4) hx hb hts hiX4 hown hK hP 4 rfl rfl 2 (by decide) fl11 (fun _ h9 => h9) rfl dX4_narrow_14 ?_
  refine lv_iload_n hx hb dX4_narrow_17 rfl (lv_at hl 1 rfl) ?_
  refine lv_aload_n hx hb dX4_narrow_18 rfl (lv_at hl 2 rfl) ?_
  refine va_get (D := D) (ci := 5) (v := .ref (α 16)) (C := RX4) (T := TX4) (N := 4) hx hb hts hiX4 hown hK hP 4 rfl rfl 2 (by decide) fl11 (fun _ h9 => h9) rfl dX4_narrow_19 ?_
  refine lv_iload_n hx hb dX4_narrow_22 rfl (lv_at hl 1 rfl) ?_
  obtain ⟨g3, hf⟩ := gin_some hf
  refine va_iald hx hb hK hP 16 0 rfl rfl g3 dX4_narrow_23 ?_
  refine lv_iload_n hx hb dX4_narrow_24 rfl (lv_at hl 4 rfl) ?_
  refine lv_if_eq (tgt := 33) hx hb dX4_narrow_25 (by decide) (fun c4 => ?_) (fun c4 => ?_)
  · have hf := it_t c4 hf
    refine lv_iload hx hb dX4_narrow_33 (lv_at hl 0 rfl) ?_
    refine lv_iconst (v := (-1 : Int32)) hx hb dX4_narrow_35 (by decide) ?_
    refine lv_ixor hx hb dX4_narrow_36 ?_
    refine lv_iand hx hb dX4_narrow_37 ?_
    obtain ⟨g5, hf⟩ := gin_some hf
    refine va_iast hx hb hK hP hD hS 16 0 rfl rfl g5 dX4_narrow_38 (fun H locs hP hD hS => ?_)
    have hP : va_P D vwCl (wC cI α gw gc gs ge gf cR cL cB pB SD RK RN RS RC RT LK LN LS LL ((upd US q1.toNatClampNeg (((US q1.toNatClampNeg) &&& ((((1 : Int32) <<< (q2 &&& 31)) ^^^ (-1 : Int32))))))) UB BB) H := hP
    have hD : va_D A (wC cI α gw gc gs ge gf cR cL cB pB SD RK RN RS RC RT LK LN LS LL ((upd US q1.toNatClampNeg (((US q1.toNatClampNeg) &&& ((((1 : Int32) <<< (q2 &&& 31)) ^^^ (-1 : Int32))))))) UB BB) := hD
    have e9 := Option.some.inj hf
    subst e9
    exact kV_ret S hP hD hS dX4_narrow_39
  · have hf := it_f c4 hf
    refine lv_iload hx hb dX4_narrow_28 (lv_at hl 0 rfl) ?_
    refine lv_goto (tgt := 37) hx hb dX4_narrow_30 (by decide) ?_
    refine lv_iand hx hb dX4_narrow_37 ?_
    obtain ⟨g6, hf⟩ := gin_some hf
    refine va_iast hx hb hK hP hD hS 16 0 rfl rfl g6 dX4_narrow_38 (fun H locs hP hD hS => ?_)
    have hP : va_P D vwCl (wC cI α gw gc gs ge gf cR cL cB pB SD RK RN RS RC RT LK LN LS LL ((upd US q1.toNatClampNeg (((US q1.toNatClampNeg) &&& ((1 : Int32) <<< (q2 &&& 31)))))) UB BB) H := hP
    have hD : va_D A (wC cI α gw gc gs ge gf cR cL cB pB SD RK RN RS RC RT LK LN LS LL ((upd US q1.toNatClampNeg (((US q1.toNatClampNeg) &&& ((1 : Int32) <<< (q2 &&& 31)))))) UB BB) := hD
    have e9 := Option.some.inj hf
    subst e9
    exact kV_ret S hP hD hS dX4_narrow_39
abbrev rm_X4_turnRound : Room := { frames := 2, cells := 0, slots := 0, locals := 44 }
set_option maxHeartbeats 4000000 in
set_option maxRecDepth 100000 in
theorem c_X4_turnRound (l : Launch) (D : va_G) (cI : ClassId) (α : Nat → Nat) (gw gc gs ge gf cR cL cB pB : Int32) (SD RK RN RS RC RT LK LN LS LL US UB BB : Nat → Int32) (F : Nat) (x1 : Int32) (res : (Nat → Int32)) (hf : f_X4_turnRound gc gs LS LL F US x1 = some res) : kV l yX4_turnRound wsX4_turnRound rm_X4_turnRound D cI [.ref (α 4), .int x1] (wC cI α gw gc gs ge gf cR cL cB pB SD RK RN RS RC RT LK LN LS LL US UB BB) (wC cI α gw gc gs ge gf cR cL cB pB SD RK RN RS RC RT LK LN LS LL res UB BB) := by
  unfold f_X4_turnRound at hf
  refine kV_of (cc := cX4_turnRound) (maxL := 4) (ret := none) (by decide +kernel) rfl (Nat.le_of_ble_eq_true rfl) ?_
  intro p e s m args below meth c A ls S hP hD hS hl
  have S : kC p s m args meth c cX4_turnRound 4 wsX4_turnRound RX4 none D cI A := S
  have hx := S.1.1
  have hb := S.1.2.1
  have hml := S.1.2.2.1
  have hown : s.vm.findClass RX4 = some m.cls := S.1.2.2.2.1
  have hts := S.1.2.2.2.2
  have hK := S.2.2.2.1
  have hnk := S.2.2.2.2.1.2
  have hiX4 : ∀ w ∈ u_ws RX4 TX4 4, w ∈ wsX4_turnRound := by decide +kernel
  have fl24 := hts (.fieldLink RX4 24 "ProofChecker$Units" "lines" "LProofChecker$Lines;") (by decide +kernel)
  have hl : lv_has ls 4 [(0, .ref (α 4)), (1, .int x1)] := hl
  have w42 : ∀ (k6 : Int32 → Int32 → (Nat → Int32) → Option ((Nat → Int32))) (hk6 : ∀ (x1 : Int32) (x2 : Int32) (US : Nat → Int32) (H : Heap) (locs : List Loc) (ls : Array Slot), k6 x1 x2 US = some res → va_P D vwCl (wC cI α gw gc gs ge gf cR cL cB pB SD RK RN RS RC RT LK LN LS LL US UB BB) H → va_D A (wC cI α gw gc gs ge gf cR cL cB pB SD RK RN RS RC RT LK LN LS LL US UB BB) → va_S A s.heap H locs → lv_has ls 4 [(0, .ref (α 4)), (1, .int x1), (2, .int x2)] → W p l e rm_X4_turnRound s m args below meth c H locs 0 0 (MQ below (kQv D A (wC cI α gw gc gs ge gf cR cL cB pB SD RK RN RS RC RT LK LN LS LL res UB BB)) args s 0 0 A) (F0 m 6 ls [])), ∀ (t1 : Int32) (t2 : Int32) (x1 : Int32) (x2 : Int32) (US : Nat → Int32) (H : Heap) (locs : List Loc) (ls : Array Slot), f_X4_turnRound_J42 gc gs LS LL k6 F t1 t2 x1 x2 US = some res → va_P D vwCl (wC cI α gw gc gs ge gf cR cL cB pB SD RK RN RS RC RT LK LN LS LL US UB BB) H → va_D A (wC cI α gw gc gs ge gf cR cL cB pB SD RK RN RS RC RT LK LN LS LL US UB BB) → va_S A s.heap H locs → lv_has ls 4 [(0, .ref (α 4)), (1, .int x1), (2, .int x2)] → W p l e rm_X4_turnRound s m args below meth c H locs 0 0 (MQ below (kQv D A (wC cI α gw gc gs ge gf cR cL cB pB SD RK RN RS RC RT LK LN LS LL res UB BB)) args s 0 0 A) (F0 m 42 ls [.int t2, .int t1, .ref (α 4)]) := by
    intro k6 hk6 t1 t2 x1 x2 US H locs ls hf hP hD hS hl
    unfold f_X4_turnRound_J42 at hf
    obtain ⟨q7, hq7, hf⟩ := bnd hf
    refine kV_callV (As := [.int t1, .int t2]) (rest := []) S hP hD hS (c_X4_narrow l D cI α gw gc gs ge gf cR cL cB pB SD RK RN RS RC RT LK LN LS LL US UB BB t1 t2 q7 hq7) (cwV 2 hts gX4_turnRound_X4_narrow rfl rfl rfl (by decide +kernel) ⟨Nat.le_of_ble_eq_true rfl, Nat.le_of_ble_eq_true rfl⟩) 4 rfl rfl rfl hl.1 rfl (Nat.le_of_ble_eq_true rfl) dX4_turnRound_42 ⟨Nat.zero_le _, Nat.zero_le _⟩ (fun H locs hP hD hS => ?_)
    have hP : va_P D vwCl (wC cI α gw gc gs ge gf cR cL cB pB SD RK RN RS RC RT LK LN LS LL q7 UB BB) H := hP
    have hD : va_D A (wC cI α gw gc gs ge gf cR cL cB pB SD RK RN RS RC RT LK LN LS LL q7 UB BB) := hD
    refine lv_iinc (v := (x2 + (1 : Int32))) (lv' := [(2, .int (x2 + (1 : Int32))), (0, .ref (α 4)), (1, .int x1)]) hx hb dX4_turnRound_45 hl (k := 2) rfl rfl (by decide) rfl (fun ls hl => ?_)
    refine lv_goto (tgt := 6) hx hb dX4_turnRound_48 (by decide) ?_
    exact hk6 _ _ _ H locs ls hf hP hD hS (lv_sub hl [1, 2, 0] rfl)
  have w6 : ∀ (n : Nat), ∀ (x1 : Int32) (x2 : Int32) (US : Nat → Int32) (H : Heap) (locs : List Loc) (ls : Array Slot), f_X4_turnRound_L6 gc gs LS LL F n x1 x2 US = some res → va_P D vwCl (wC cI α gw gc gs ge gf cR cL cB pB SD RK RN RS RC RT LK LN LS LL US UB BB) H → va_D A (wC cI α gw gc gs ge gf cR cL cB pB SD RK RN RS RC RT LK LN LS LL US UB BB) → va_S A s.heap H locs → lv_has ls 4 [(0, .ref (α 4)), (1, .int x1), (2, .int x2)] → W p l e rm_X4_turnRound s m args below meth c H locs 0 0 (MQ below (kQv D A (wC cI α gw gc gs ge gf cR cL cB pB SD RK RN RS RC RT LK LN LS LL res UB BB)) args s 0 0 A) (F0 m 6 ls []) := by
    intro n
    induction n with
    | zero => intro x1 x2 US H locs ls hf; cases hf
    | succ n ih =>
      intro x1 x2 US H locs ls hf hP hD hS hl
      rw [f_X4_turnRound_L6.eq_2] at hf
      refine lv_iload_n hx hb dX4_turnRound_6 rfl (lv_at hl 2 rfl) ?_
      refine lv_aload_n hx hb dX4_turnRound_7 rfl (lv_at hl 0 rfl) ?_
      refine va_get (D := D) (ci := 5) (v := .ref (α 3)) (C := RX4) (T := TX4) (N := 4) hx hb hts hiX4 hown hK hP 4 rfl rfl 1 (by decide) fl24 (fun _ h9 => h9) rfl dX4_turnRound_8 ?_
      refine lv_iload_n hx hb dX4_turnRound_11 rfl (lv_at hl 1 rfl) ?_
      obtain ⟨q2, hq2, hf⟩ := bnd hf
      refine kI_callV (As := [.int x1]) (rest := [.int x2]) S hP hD hS (c_X1_sizeOf l D cI α gw gc gs ge gf cR cL cB pB SD RK RN RS RC RT LK LN LS LL US UB BB x1 q2 hq2) (cwV 1 hts gX4_turnRound_X1_sizeOf rfl rfl rfl (by decide +kernel) ⟨Nat.le_of_ble_eq_true rfl, Nat.le_of_ble_eq_true rfl⟩) 3 rfl rfl rfl hl.1 rfl (Nat.le_of_ble_eq_true rfl) dX4_turnRound_12 ⟨Nat.zero_le _, Nat.zero_le _⟩ (fun H locs hP hD hS => ?_)
      have hP : va_P D vwCl (wC cI α gw gc gs ge gf cR cL cB pB SD RK RN RS RC RT LK LN LS LL US UB BB) H := hP
      have hD : va_D A (wC cI α gw gc gs ge gf cR cL cB pB SD RK RN RS RC RT LK LN LS LL US UB BB) := hD
      refine lv_icmp_ge (tgt := 51) hx hb dX4_turnRound_15 (by decide) (fun c3 => ?_) (fun c3 => ?_)
      · have hf := it_t c3 hf
        have e9 := Option.some.inj hf
        subst e9
        exact kV_ret S hP hD hS dX4_turnRound_51
      · have hf := it_f c3 hf
        refine lv_aload_n hx hb dX4_turnRound_18 rfl (lv_at hl 0 rfl) ?_
        refine va_get (D := D) (ci := 5) (v := .ref (α 3)) (C := RX4) (T := TX4) (N := 4) hx hb hts hiX4 hown hK hP 4 rfl rfl 1 (by decide) fl24 (fun _ h9 => h9) rfl dX4_turnRound_19 ?_
        refine lv_iload_n hx hb dX4_turnRound_22 rfl (lv_at hl 1 rfl) ?_
        refine lv_iload_n hx hb dX4_turnRound_23 rfl (lv_at hl 2 rfl) ?_
        obtain ⟨q4, hq4, hf⟩ := bnd hf
        refine kI_callV (As := [.int x1, .int x2]) (rest := []) S hP hD hS (c_X1_literalAt l D cI α gw gc gs ge gf cR cL cB pB SD RK RN RS RC RT LK LN LS LL US UB BB x1 x2 q4 hq4) (cwV 2 hts gX4_turnRound_X1_literalAt rfl rfl rfl (by decide +kernel) ⟨Nat.le_of_ble_eq_true rfl, Nat.le_of_ble_eq_true rfl⟩) 3 rfl rfl rfl hl.1 rfl (Nat.le_of_ble_eq_true rfl) dX4_turnRound_24 ⟨Nat.zero_le _, Nat.zero_le _⟩ (fun H locs hP hD hS => ?_)
        have hP : va_P D vwCl (wC cI α gw gc gs ge gf cR cL cB pB SD RK RN RS RC RT LK LN LS LL US UB BB) H := hP
        have hD : va_D A (wC cI α gw gc gs ge gf cR cL cB pB SD RK RN RS RC RT LK LN LS LL US UB BB) := hD
        refine lv_istore_n (lv' := [(3, .int q4), (0, .ref (α 4)), (1, .int x1), (2, .int x2)]) hx hb dX4_turnRound_27 rfl hl (by decide) rfl (fun ls hl => ?_)
        refine lv_aload_n hx hb dX4_turnRound_28 rfl (lv_at hl 1 rfl) ?_
        refine lv_iload_n hx hb dX4_turnRound_29 rfl (lv_at hl 0 rfl) ?_
        refine lv_iload_n hx hb dX4_turnRound_30 rfl (lv_at hl 0 rfl) ?_
        obtain ⟨q5, hq5, hf⟩ := bnd hf
        refine kI_callS (As := [.int q4]) (rest := [.int q4, .ref (α 4)]) S hP hD hS (c_X1_saysIs l D cI q4 q5 hq5) (va_cwS 1 hts gX4_turnRound_X1_saysIs rfl rfl rfl (by decide +kernel) ⟨Nat.le_of_ble_eq_true rfl, Nat.le_of_ble_eq_true rfl⟩) rfl hl.1 rfl (Nat.le_of_ble_eq_true rfl) dX4_turnRound_31 ⟨Nat.zero_le _, Nat.zero_le _⟩ (fun H locs hP hD hS => ?_)
        refine lv_if_ne (tgt := 41) hx hb dX4_turnRound_34 (by decide) (fun c6 => ?_) (fun c6 => ?_)
        · have hf := it_t c6 hf
          refine lv_iconst (v := (0 : Int32)) hx hb dX4_turnRound_41 (by decide) ?_
          exact w42 _ ih _ _ _ _ _ H locs ls hf hP hD hS (lv_sub hl [1, 2, 3] rfl)
        · have hf := it_f (fun h9 => h9 c6) hf
          refine lv_iconst (v := (1 : Int32)) hx hb dX4_turnRound_37 (by decide) ?_
          refine lv_goto (tgt := 42) hx hb dX4_turnRound_38 (by decide) ?_
          exact w42 _ ih _ _ _ _ _ H locs ls hf hP hD hS (lv_sub hl [1, 2, 3] rfl)
  suffices hgo : ∀ (H : Heap) (locs : List Loc), va_P D vwCl (wC cI α gw gc gs ge gf cR cL cB pB SD RK RN RS RC RT LK LN LS LL US UB BB) H → va_D A (wC cI α gw gc gs ge gf cR cL cB pB SD RK RN RS RC RT LK LN LS LL US UB BB) → va_S A s.heap H locs → W p l e rm_X4_turnRound s m args below meth c H locs 0 0 (MQ below (kQv D A (wC cI α gw gc gs ge gf cR cL cB pB SD RK RN RS RC RT LK LN LS LL res UB BB)) args s 0 0 A) (F0 m 0 ls []) from hgo _ _ hP hD hS
  clear hP hD hS
  intro H locs hP hD hS
  refine lv_aload_n hx hb dX4_turnRound_0 rfl (lv_at hl 0 rfl) ?_
  obtain ⟨q1, hq1, hf⟩ := bnd hf
  refine kV_callV (As := []) (rest := []) S hP hD hS (c_X4_startWhole l D cI α gw gc gs ge gf cR cL cB pB SD RK RN RS RC RT LK LN LS LL US UB BB F q1 hq1) (cwV 0 hts gX4_turnRound_X4_startWhole rfl rfl rfl (by decide +kernel) ⟨Nat.le_of_ble_eq_true rfl, Nat.le_of_ble_eq_true rfl⟩) 4 rfl rfl rfl hl.1 rfl (Nat.le_of_ble_eq_true rfl) dX4_turnRound_1 ⟨Nat.zero_le _, Nat.zero_le _⟩ (fun H locs hP hD hS => ?_)
  have hP : va_P D vwCl (wC cI α gw gc gs ge gf cR cL cB pB SD RK RN RS RC RT LK LN LS LL q1 UB BB) H := hP
  have hD : va_D A (wC cI α gw gc gs ge gf cR cL cB pB SD RK RN RS RC RT LK LN LS LL q1 UB BB) := hD
  refine lv_iconst (v := (0 : Int32)) hx hb dX4_turnRound_4 (by decide) ?_
  refine lv_istore_n (lv' := [(2, .int (0 : Int32)), (0, .ref (α 4)), (1, .int x1)]) hx hb dX4_turnRound_5 rfl hl (by decide) rfl (fun ls hl => ?_)
  exact w6 F _ _ _ H locs ls hf hP hD hS (lv_sub hl [1, 2, 0] rfl)
abbrev rm_X4_someCellMayBeNothing : Room := { frames := 1, cells := 0, slots := 0, locals := 20 }
set_option maxHeartbeats 4000000 in
set_option maxRecDepth 100000 in
theorem c_X4_someCellMayBeNothing (l : Launch) (D : va_G) (cI : ClassId) (α : Nat → Nat) (gw gc gs ge gf cR cL cB pB : Int32) (SD RK RN RS RC RT LK LN LS LL US UB BB : Nat → Int32) (F : Nat)  (res : Int32) (hf : f_X4_someCellMayBeNothing gc US F = some res) : kI l yX4_someCellMayBeNothing wsX4_someCellMayBeNothing rm_X4_someCellMayBeNothing D cI [.ref (α 4)] (wC cI α gw gc gs ge gf cR cL cB pB SD RK RN RS RC RT LK LN LS LL US UB BB) (wC cI α gw gc gs ge gf cR cL cB pB SD RK RN RS RC RT LK LN LS LL US UB BB) res := by
  unfold f_X4_someCellMayBeNothing at hf
  refine kI_of (cc := cX4_someCellMayBeNothing) (maxL := 2) (ret := (some .boolean)) (by decide +kernel) rfl (Nat.le_of_ble_eq_true rfl) ?_
  intro p e s m args below meth c A ls S hP hD hS hl
  have S : kC p s m args meth c cX4_someCellMayBeNothing 2 wsX4_someCellMayBeNothing RX4 (some .boolean) D cI A := S
  have hx := S.1.1
  have hb := S.1.2.1
  have hml := S.1.2.2.1
  have hown : s.vm.findClass RX4 = some m.cls := S.1.2.2.2.1
  have hts := S.1.2.2.2.2
  have hK := S.2.2.2.1
  have hnk := S.2.2.2.2.1.2
  have hiX4 : ∀ w ∈ u_ws RX4 TX4 4, w ∈ wsX4_someCellMayBeNothing := by decide +kernel
  have fl11 := hts (.fieldLink RX4 11 "ProofChecker$Units" "symbols" "[I") (by decide +kernel)
  have fl20 := hts (.fieldLink RX4 20 "ProofChecker$Units" "grid" "LProofChecker$Grid;") (by decide +kernel)
  have hl : lv_has ls 2 [(0, .ref (α 4))] := hl
  have w2 : ∀ (n : Nat), ∀ (x1 : Int32) (H : Heap) (locs : List Loc) (ls : Array Slot), f_X4_someCellMayBeNothing_L2 gc US F n x1 = some res → va_P D vwCl (wC cI α gw gc gs ge gf cR cL cB pB SD RK RN RS RC RT LK LN LS LL US UB BB) H → va_D A (wC cI α gw gc gs ge gf cR cL cB pB SD RK RN RS RC RT LK LN LS LL US UB BB) → va_S A s.heap H locs → lv_has ls 2 [(0, .ref (α 4)), (1, .int x1)] → W p l e rm_X4_someCellMayBeNothing s m args below meth c H locs 0 0 (MQ below (kQi D A (wC cI α gw gc gs ge gf cR cL cB pB SD RK RN RS RC RT LK LN LS LL US UB BB) res) args s 0 0 A) (F0 m 2 ls []) := by
    intro n
    induction n with
    | zero => intro x1 H locs ls hf; cases hf
    | succ n ih =>
      intro x1 H locs ls hf hP hD hS hl
      rw [f_X4_someCellMayBeNothing_L2.eq_2] at hf
      refine lv_iload_n hx hb dX4_someCellMayBeNothing_2 rfl (lv_at hl 1 rfl) ?_
      refine lv_aload_n hx hb dX4_someCellMayBeNothing_3 rfl (lv_at hl 0 rfl) ?_
      refine va_get (D := D) (ci := 5) (v := .ref (α 1)) (C := RX4) (T := TX4) (N := 4) hx hb hts hiX4 hown hK hP 4 rfl rfl 0 (by decide) fl20 (fun _ h9 => h9) rfl dX4_someCellMayBeNothing_4 ?_
      obtain ⟨q1, hq1, hf⟩ := bnd hf
      refine kI_callV (As := []) (rest := [.int x1]) S hP hD hS (c_X0_cells l D cI α gw gc gs ge gf cR cL cB pB SD RK RN RS RC RT LK LN LS LL US UB BB q1 hq1) (cwV 0 hts gX4_someCellMayBeNothing_X0_cells rfl rfl rfl (by decide +kernel) ⟨Nat.le_of_ble_eq_true rfl, Nat.le_of_ble_eq_true rfl⟩) 1 rfl rfl rfl hl.1 rfl (Nat.le_of_ble_eq_true rfl) dX4_someCellMayBeNothing_7 ⟨Nat.zero_le _, Nat.zero_le _⟩ (fun H locs hP hD hS => ?_)
      have hP : va_P D vwCl (wC cI α gw gc gs ge gf cR cL cB pB SD RK RN RS RC RT LK LN LS LL US UB BB) H := hP
      have hD : va_D A (wC cI α gw gc gs ge gf cR cL cB pB SD RK RN RS RC RT LK LN LS LL US UB BB) := hD
      refine lv_icmp_ge (tgt := 30) hx hb dX4_someCellMayBeNothing_10 (by decide) (fun c2 => ?_) (fun c2 => ?_)
      · have hf := it_t c2 hf
        refine lv_iconst (v := (0 : Int32)) hx hb dX4_someCellMayBeNothing_30 (by decide) ?_
        have e9 := Option.some.inj hf
        subst e9
        exact kI_ret S narrow_b0 hP hD hS dX4_someCellMayBeNothing_31
      · have hf := it_f c2 hf
        refine lv_aload_n hx hb dX4_someCellMayBeNothing_13 rfl (lv_at hl 0 rfl) ?_
        refine va_get (D := D) (ci := 5) (v := .ref (α 16)) (C := RX4) (T := TX4) (N := 4) hx hb hts hiX4 hown hK hP 4 rfl rfl 2 (by decide) fl11 (fun _ h9 => h9) rfl dX4_someCellMayBeNothing_14 ?_
        refine lv_iload_n hx hb dX4_someCellMayBeNothing_17 rfl (lv_at hl 1 rfl) ?_
        obtain ⟨g3, hf⟩ := gin_some hf
        refine va_iald hx hb hK hP 16 0 rfl rfl g3 dX4_someCellMayBeNothing_18 ?_
        refine lv_if_ne (tgt := 24) hx hb dX4_someCellMayBeNothing_19 (by decide) (fun c4 => ?_) (fun c4 => ?_)
        · have hf := it_t c4 hf
          refine lv_iinc (v := (x1 + (1 : Int32))) (lv' := [(1, .int (x1 + (1 : Int32))), (0, .ref (α 4))]) hx hb dX4_someCellMayBeNothing_24 hl (k := 1) rfl rfl (by decide) rfl (fun ls hl => ?_)
          refine lv_goto (tgt := 2) hx hb dX4_someCellMayBeNothing_27 (by decide) ?_
          exact ih _ H locs ls hf hP hD hS (lv_sub hl [1, 0] rfl)
        · have hf := it_f (fun h9 => h9 c4) hf
          refine lv_iconst (v := (1 : Int32)) hx hb dX4_someCellMayBeNothing_22 (by decide) ?_
          have e9 := Option.some.inj hf
          subst e9
          exact kI_ret S narrow_b1 hP hD hS dX4_someCellMayBeNothing_23
  suffices hgo : ∀ (H : Heap) (locs : List Loc), va_P D vwCl (wC cI α gw gc gs ge gf cR cL cB pB SD RK RN RS RC RT LK LN LS LL US UB BB) H → va_D A (wC cI α gw gc gs ge gf cR cL cB pB SD RK RN RS RC RT LK LN LS LL US UB BB) → va_S A s.heap H locs → W p l e rm_X4_someCellMayBeNothing s m args below meth c H locs 0 0 (MQ below (kQi D A (wC cI α gw gc gs ge gf cR cL cB pB SD RK RN RS RC RT LK LN LS LL US UB BB) res) args s 0 0 A) (F0 m 0 ls []) from hgo _ _ hP hD hS
  clear hP hD hS
  intro H locs hP hD hS
  refine lv_iconst (v := (0 : Int32)) hx hb dX4_someCellMayBeNothing_0 (by decide) ?_
  refine lv_istore_n (lv' := [(1, .int (0 : Int32)), (0, .ref (α 4))]) hx hb dX4_someCellMayBeNothing_1 rfl hl (by decide) rfl (fun ls hl => ?_)
  exact w2 F _ H locs ls hf hP hD hS (lv_sub hl [1, 0] rfl)
abbrev rm_X4_stateOf : Room := { frames := 1, cells := 0, slots := 0, locals := 20 }
set_option maxHeartbeats 4000000 in
set_option maxRecDepth 100000 in
theorem c_X4_stateOf (l : Launch) (D : va_G) (cI : ClassId) (α : Nat → Nat) (gw gc gs ge gf cR cL cB pB : Int32) (SD RK RN RS RC RT LK LN LS LL US UB BB : Nat → Int32) (x1 : Int32) (res : Int32) (hf : f_X4_stateOf US x1 = some res) : kI l yX4_stateOf wsX4_stateOf rm_X4_stateOf D cI [.ref (α 4), .int x1] (wC cI α gw gc gs ge gf cR cL cB pB SD RK RN RS RC RT LK LN LS LL US UB BB) (wC cI α gw gc gs ge gf cR cL cB pB SD RK RN RS RC RT LK LN LS LL US UB BB) res := by
  unfold f_X4_stateOf at hf
  refine kI_of (cc := cX4_stateOf) (maxL := 4) (ret := (some .int)) (by decide +kernel) rfl (Nat.le_of_ble_eq_true rfl) ?_
  intro p e s m args below meth c A ls S hP hD hS hl
  have S : kC p s m args meth c cX4_stateOf 4 wsX4_stateOf RX4 (some .int) D cI A := S
  have hx := S.1.1
  have hb := S.1.2.1
  have hml := S.1.2.2.1
  have hown : s.vm.findClass RX4 = some m.cls := S.1.2.2.2.1
  have hts := S.1.2.2.2.2
  have hK := S.2.2.2.1
  have hnk := S.2.2.2.2.1.2
  have hiX4 : ∀ w ∈ u_ws RX4 TX4 4, w ∈ wsX4_stateOf := by decide +kernel
  have fl11 := hts (.fieldLink RX4 11 "ProofChecker$Units" "symbols" "[I") (by decide +kernel)
  have hl : lv_has ls 4 [(0, .ref (α 4)), (1, .int x1)] := hl
  suffices hgo : ∀ (H : Heap) (locs : List Loc), va_P D vwCl (wC cI α gw gc gs ge gf cR cL cB pB SD RK RN RS RC RT LK LN LS LL US UB BB) H → va_D A (wC cI α gw gc gs ge gf cR cL cB pB SD RK RN RS RC RT LK LN LS LL US UB BB) → va_S A s.heap H locs → W p l e rm_X4_stateOf s m args below meth c H locs 0 0 (MQ below (kQi D A (wC cI α gw gc gs ge gf cR cL cB pB SD RK RN RS RC RT LK LN LS LL US UB BB) res) args s 0 0 A) (F0 m 0 ls []) from hgo _ _ hP hD hS
  clear hP hD hS
  intro H locs hP hD hS
  refine lv_aload_n hx hb dX4_stateOf_0 rfl (lv_at hl 0 rfl) ?_
  refine va_get (D := D) (ci := 5) (v := .ref (α 16)) (C := RX4) (T := TX4) (N := 4) hx hb hts hiX4 hown hK hP 4 rfl rfl 2 (by decide) fl11 (fun _ h9 => h9) rfl dX4_stateOf_1 ?_
  refine lv_iload_n hx hb dX4_stateOf_4 rfl (lv_at hl 1 rfl) ?_
  obtain ⟨q1, hq1, hf⟩ := bnd hf
  refine kI_callS (As := [.int x1]) (rest := [.ref (α 16)]) S hP hD hS (c_X1_cellOf l D cI x1 q1 hq1) (va_cwS 1 hts gX4_stateOf_X1_cellOf rfl rfl rfl (by decide +kernel) ⟨Nat.le_of_ble_eq_true rfl, Nat.le_of_ble_eq_true rfl⟩) rfl hl.1 rfl (Nat.le_of_ble_eq_true rfl) dX4_stateOf_5 ⟨Nat.zero_le _, Nat.zero_le _⟩ (fun H locs hP hD hS => ?_)
  obtain ⟨g2, hf⟩ := gin_some hf
  refine va_iald hx hb hK hP 16 0 rfl rfl g2 dX4_stateOf_8 ?_
  refine lv_istore_n (lv' := [(2, .int (US q1.toNatClampNeg)), (0, .ref (α 4)), (1, .int x1)]) hx hb dX4_stateOf_9 rfl hl (by decide) rfl (fun ls hl => ?_)
  refine lv_iconst (v := (1 : Int32)) hx hb dX4_stateOf_10 (by decide) ?_
  refine lv_iload_n hx hb dX4_stateOf_11 rfl (lv_at hl 2 rfl) ?_
  obtain ⟨q3, hq3, hf⟩ := bnd hf
  refine kI_callS (As := [.int x1]) (rest := [.int (1 : Int32)]) S hP hD hS (c_X1_symbolOf l D cI x1 q3 hq3) (va_cwS 1 hts gX4_stateOf_X1_symbolOf rfl rfl rfl (by decide +kernel) ⟨Nat.le_of_ble_eq_true rfl, Nat.le_of_ble_eq_true rfl⟩) rfl hl.1 rfl (Nat.le_of_ble_eq_true rfl) dX4_stateOf_12 ⟨Nat.zero_le _, Nat.zero_le _⟩ (fun H locs hP hD hS => ?_)
  refine lv_ishl hx hb dX4_stateOf_15 ?_
  refine lv_istore_n (lv' := [(3, .int ((1 : Int32) <<< (q3 &&& 31))), (2, .int (US q1.toNatClampNeg)), (0, .ref (α 4)), (1, .int x1)]) hx hb dX4_stateOf_16 rfl hl (by decide) rfl (fun ls hl => ?_)
  refine lv_iload_n hx hb dX4_stateOf_17 rfl (lv_at hl 1 rfl) ?_
  refine lv_iload_n hx hb dX4_stateOf_18 rfl (lv_at hl 0 rfl) ?_
  refine lv_icmp_ne (tgt := 35) hx hb dX4_stateOf_19 (by decide) (fun c4 => ?_) (fun c4 => ?_)
  · have hf := it_t c4 hf
    refine lv_iload_n hx hb dX4_stateOf_35 rfl (lv_at hl 1 rfl) ?_
    refine lv_iload_n hx hb dX4_stateOf_36 rfl (lv_at hl 0 rfl) ?_
    refine lv_iand hx hb dX4_stateOf_37 ?_
    refine lv_if_ne (tgt := 54) hx hb dX4_stateOf_38 (by decide) (fun c5 => ?_) (fun c5 => ?_)
    · have hf := it_t c5 hf
      refine lv_iconst (v := (5 : Int32)) hx hb dX4_stateOf_54 (by decide) ?_
      have e9 := Option.some.inj hf
      subst e9
      exact kI_ret S rfl hP hD hS dX4_stateOf_55
    · have hf := it_f (fun h9 => h9 c5) hf
      refine lv_iload_n hx hb dX4_stateOf_41 rfl (lv_at hl 3 rfl) ?_
      obtain ⟨q6, hq6, hf⟩ := bnd hf
      refine kI_callS (As := [.int x1]) (rest := []) S hP hD hS (c_X1_saysIs l D cI x1 q6 hq6) (va_cwS 1 hts gX4_stateOf_X1_saysIs rfl rfl rfl (by decide +kernel) ⟨Nat.le_of_ble_eq_true rfl, Nat.le_of_ble_eq_true rfl⟩) rfl hl.1 rfl (Nat.le_of_ble_eq_true rfl) dX4_stateOf_42 ⟨Nat.zero_le _, Nat.zero_le _⟩ (fun H locs hP hD hS => ?_)
      refine lv_if_eq (tgt := 52) hx hb dX4_stateOf_45 (by decide) (fun c7 => ?_) (fun c7 => ?_)
      · have hf := it_t c7 hf
        refine lv_iconst (v := (3 : Int32)) hx hb dX4_stateOf_52 (by decide) ?_
        have e9 := Option.some.inj hf
        subst e9
        exact kI_ret S rfl hP hD hS dX4_stateOf_53
      · have hf := it_f c7 hf
        refine lv_iconst (v := (4 : Int32)) hx hb dX4_stateOf_48 (by decide) ?_
        refine lv_goto (tgt := 53) hx hb dX4_stateOf_49 (by decide) ?_
        have e9 := Option.some.inj hf
        subst e9
        exact kI_ret S rfl hP hD hS dX4_stateOf_53
  · have hf := it_f (fun h9 => h9 c4) hf
    refine lv_iload_n hx hb dX4_stateOf_22 rfl (lv_at hl 3 rfl) ?_
    obtain ⟨q8, hq8, hf⟩ := bnd hf
    refine kI_callS (As := [.int x1]) (rest := []) S hP hD hS (c_X1_saysIs l D cI x1 q8 hq8) (va_cwS 1 hts gX4_stateOf_X1_saysIs rfl rfl rfl (by decide +kernel) ⟨Nat.le_of_ble_eq_true rfl, Nat.le_of_ble_eq_true rfl⟩) rfl hl.1 rfl (Nat.le_of_ble_eq_true rfl) dX4_stateOf_23 ⟨Nat.zero_le _, Nat.zero_le _⟩ (fun H locs hP hD hS => ?_)
    refine lv_if_eq (tgt := 33) hx hb dX4_stateOf_26 (by decide) (fun c9 => ?_) (fun c9 => ?_)
    · have hf := it_t c9 hf
      refine lv_iconst (v := (4 : Int32)) hx hb dX4_stateOf_33 (by decide) ?_
      have e9 := Option.some.inj hf
      subst e9
      exact kI_ret S rfl hP hD hS dX4_stateOf_34
    · have hf := it_f c9 hf
      refine lv_iconst (v := (3 : Int32)) hx hb dX4_stateOf_29 (by decide) ?_
      refine lv_goto (tgt := 34) hx hb dX4_stateOf_30 (by decide) ?_
      have e9 := Option.some.inj hf
      subst e9
      exact kI_ret S rfl hP hD hS dX4_stateOf_34
abbrev rm_X4_stepBy : Room := { frames := 2, cells := 0, slots := 0, locals := 44 }
set_option maxHeartbeats 4000000 in
set_option maxRecDepth 100000 in
theorem c_X4_stepBy (l : Launch) (D : va_G) (cI : ClassId) (α : Nat → Nat) (gw gc gs ge gf cR cL cB pB : Int32) (SD RK RN RS RC RT LK LN LS LL US UB BB : Nat → Int32) (F : Nat) (x1 : Int32) (res : Int32 × (Nat → Int32)) (hf : f_X4_stepBy LS LL F US x1 = some res) : kI l yX4_stepBy wsX4_stepBy rm_X4_stepBy D cI [.ref (α 4), .int x1] (wC cI α gw gc gs ge gf cR cL cB pB SD RK RN RS RC RT LK LN LS LL US UB BB) (wC cI α gw gc gs ge gf cR cL cB pB SD RK RN RS RC RT LK LN LS LL res.2 UB BB) res.1 := by
  unfold f_X4_stepBy at hf
  refine kI_of (cc := cX4_stepBy) (maxL := 6) (ret := (some .int)) (by decide +kernel) rfl (Nat.le_of_ble_eq_true rfl) ?_
  intro p e s m args below meth c A ls S hP hD hS hl
  have S : kC p s m args meth c cX4_stepBy 6 wsX4_stepBy RX4 (some .int) D cI A := S
  have hx := S.1.1
  have hb := S.1.2.1
  have hml := S.1.2.2.1
  have hown : s.vm.findClass RX4 = some m.cls := S.1.2.2.2.1
  have hts := S.1.2.2.2.2
  have hK := S.2.2.2.1
  have hnk := S.2.2.2.2.1.2
  have hiX4 : ∀ w ∈ u_ws RX4 TX4 4, w ∈ wsX4_stepBy := by decide +kernel
  have fl24 := hts (.fieldLink RX4 24 "ProofChecker$Units" "lines" "LProofChecker$Lines;") (by decide +kernel)
  have hl : lv_has ls 6 [(0, .ref (α 4)), (1, .int x1)] := hl
  have w63 : ∀ (k4 : Int32 → Int32 → Int32 → (Nat → Int32) → Option (Int32 × (Nat → Int32))) (hk4 : ∀ (x1 : Int32) (x2 : Int32) (x3 : Int32) (US : Nat → Int32) (H : Heap) (locs : List Loc) (ls : Array Slot), k4 x1 x2 x3 US = some res → va_P D vwCl (wC cI α gw gc gs ge gf cR cL cB pB SD RK RN RS RC RT LK LN LS LL US UB BB) H → va_D A (wC cI α gw gc gs ge gf cR cL cB pB SD RK RN RS RC RT LK LN LS LL US UB BB) → va_S A s.heap H locs → lv_has ls 6 [(0, .ref (α 4)), (1, .int x1), (2, .int x2), (3, .int x3)] → W p l e rm_X4_stepBy s m args below meth c H locs 0 0 (MQ below (kQi D A (wC cI α gw gc gs ge gf cR cL cB pB SD RK RN RS RC RT LK LN LS LL res.2 UB BB) res.1) args s 0 0 A) (F0 m 4 ls [])), ∀ (x1 : Int32) (x2 : Int32) (x3 : Int32) (US : Nat → Int32) (H : Heap) (locs : List Loc) (ls : Array Slot), f_X4_stepBy_J63 LS LL k4 F x1 x2 x3 US = some res → va_P D vwCl (wC cI α gw gc gs ge gf cR cL cB pB SD RK RN RS RC RT LK LN LS LL US UB BB) H → va_D A (wC cI α gw gc gs ge gf cR cL cB pB SD RK RN RS RC RT LK LN LS LL US UB BB) → va_S A s.heap H locs → lv_has ls 6 [(0, .ref (α 4)), (1, .int x1), (2, .int x2), (3, .int x3)] → W p l e rm_X4_stepBy s m args below meth c H locs 0 0 (MQ below (kQi D A (wC cI α gw gc gs ge gf cR cL cB pB SD RK RN RS RC RT LK LN LS LL res.2 UB BB) res.1) args s 0 0 A) (F0 m 63 ls []) := by
    intro k4 hk4 x1 x2 x3 US H locs ls hf hP hD hS hl
    unfold f_X4_stepBy_J63 at hf
    refine lv_iinc (v := (x3 + (1 : Int32))) (lv' := [(3, .int (x3 + (1 : Int32))), (0, .ref (α 4)), (1, .int x1), (2, .int x2)]) hx hb dX4_stepBy_63 hl (k := 3) rfl rfl (by decide) rfl (fun ls hl => ?_)
    refine lv_goto (tgt := 4) hx hb dX4_stepBy_66 (by decide) ?_
    exact hk4 _ _ _ _ H locs ls hf hP hD hS (lv_sub hl [1, 2, 3, 0] rfl)
  have w54 : ∀ (k4 : Int32 → Int32 → Int32 → (Nat → Int32) → Option (Int32 × (Nat → Int32))) (hk4 : ∀ (x1 : Int32) (x2 : Int32) (x3 : Int32) (US : Nat → Int32) (H : Heap) (locs : List Loc) (ls : Array Slot), k4 x1 x2 x3 US = some res → va_P D vwCl (wC cI α gw gc gs ge gf cR cL cB pB SD RK RN RS RC RT LK LN LS LL US UB BB) H → va_D A (wC cI α gw gc gs ge gf cR cL cB pB SD RK RN RS RC RT LK LN LS LL US UB BB) → va_S A s.heap H locs → lv_has ls 6 [(0, .ref (α 4)), (1, .int x1), (2, .int x2), (3, .int x3)] → W p l e rm_X4_stepBy s m args below meth c H locs 0 0 (MQ below (kQi D A (wC cI α gw gc gs ge gf cR cL cB pB SD RK RN RS RC RT LK LN LS LL res.2 UB BB) res.1) args s 0 0 A) (F0 m 4 ls [])), ∀ (x1 : Int32) (x2 : Int32) (x3 : Int32) (x4 : Int32) (x5 : Int32) (US : Nat → Int32) (H : Heap) (locs : List Loc) (ls : Array Slot), f_X4_stepBy_J54 LS LL k4 F x1 x2 x3 x4 x5 US = some res → va_P D vwCl (wC cI α gw gc gs ge gf cR cL cB pB SD RK RN RS RC RT LK LN LS LL US UB BB) H → va_D A (wC cI α gw gc gs ge gf cR cL cB pB SD RK RN RS RC RT LK LN LS LL US UB BB) → va_S A s.heap H locs → lv_has ls 6 [(0, .ref (α 4)), (1, .int x1), (2, .int x2), (3, .int x3), (4, .int x4), (5, .int x5)] → W p l e rm_X4_stepBy s m args below meth c H locs 0 0 (MQ below (kQi D A (wC cI α gw gc gs ge gf cR cL cB pB SD RK RN RS RC RT LK LN LS LL res.2 UB BB) res.1) args s 0 0 A) (F0 m 54 ls []) := by
    intro k4 hk4 x1 x2 x3 x4 x5 US H locs ls hf hP hD hS hl
    unfold f_X4_stepBy_J54 at hf
    refine lv_iload hx hb dX4_stepBy_54 (lv_at hl 5 rfl) ?_
    refine lv_iconst (v := (5 : Int32)) hx hb dX4_stepBy_56 (by decide) ?_
    refine lv_icmp_ne (tgt := 63) hx hb dX4_stepBy_57 (by decide) (fun c11 => ?_) (fun c11 => ?_)
    · have hf := it_t c11 hf
      exact w63 k4 hk4 _ _ _ _ H locs ls hf hP hD hS (lv_sub hl [0, 1, 2, 3] rfl)
    · have hf := it_f (fun h9 => h9 c11) hf
      refine lv_iload hx hb dX4_stepBy_60 (lv_at hl 4 rfl) ?_
      refine lv_istore_n (lv' := [(2, .int x4), (0, .ref (α 4)), (1, .int x1), (3, .int x3), (4, .int x4), (5, .int x5)]) hx hb dX4_stepBy_62 rfl hl (by decide) rfl (fun ls hl => ?_)
      exact w63 k4 hk4 _ _ _ _ H locs ls hf hP hD hS (lv_sub hl [1, 2, 0, 3] rfl)
  have w4 : ∀ (n : Nat), ∀ (x1 : Int32) (x2 : Int32) (x3 : Int32) (US : Nat → Int32) (H : Heap) (locs : List Loc) (ls : Array Slot), f_X4_stepBy_L4 LS LL F n x1 x2 x3 US = some res → va_P D vwCl (wC cI α gw gc gs ge gf cR cL cB pB SD RK RN RS RC RT LK LN LS LL US UB BB) H → va_D A (wC cI α gw gc gs ge gf cR cL cB pB SD RK RN RS RC RT LK LN LS LL US UB BB) → va_S A s.heap H locs → lv_has ls 6 [(0, .ref (α 4)), (1, .int x1), (2, .int x2), (3, .int x3)] → W p l e rm_X4_stepBy s m args below meth c H locs 0 0 (MQ below (kQi D A (wC cI α gw gc gs ge gf cR cL cB pB SD RK RN RS RC RT LK LN LS LL res.2 UB BB) res.1) args s 0 0 A) (F0 m 4 ls []) := by
    intro n
    induction n with
    | zero => intro x1 x2 x3 US H locs ls hf; cases hf
    | succ n ih =>
      intro x1 x2 x3 US H locs ls hf hP hD hS hl
      rw [f_X4_stepBy_L4.eq_2] at hf
      refine lv_iload_n hx hb dX4_stepBy_4 rfl (lv_at hl 3 rfl) ?_
      refine lv_aload_n hx hb dX4_stepBy_5 rfl (lv_at hl 0 rfl) ?_
      refine va_get (D := D) (ci := 5) (v := .ref (α 3)) (C := RX4) (T := TX4) (N := 4) hx hb hts hiX4 hown hK hP 4 rfl rfl 1 (by decide) fl24 (fun _ h9 => h9) rfl dX4_stepBy_6 ?_
      refine lv_iload_n hx hb dX4_stepBy_9 rfl (lv_at hl 1 rfl) ?_
      obtain ⟨q1, hq1, hf⟩ := bnd hf
      refine kI_callV (As := [.int x1]) (rest := [.int x3]) S hP hD hS (c_X1_sizeOf l D cI α gw gc gs ge gf cR cL cB pB SD RK RN RS RC RT LK LN LS LL US UB BB x1 q1 hq1) (cwV 1 hts gX4_stepBy_X1_sizeOf rfl rfl rfl (by decide +kernel) ⟨Nat.le_of_ble_eq_true rfl, Nat.le_of_ble_eq_true rfl⟩) 3 rfl rfl rfl hl.1 rfl (Nat.le_of_ble_eq_true rfl) dX4_stepBy_10 ⟨Nat.zero_le _, Nat.zero_le _⟩ (fun H locs hP hD hS => ?_)
      have hP : va_P D vwCl (wC cI α gw gc gs ge gf cR cL cB pB SD RK RN RS RC RT LK LN LS LL US UB BB) H := hP
      have hD : va_D A (wC cI α gw gc gs ge gf cR cL cB pB SD RK RN RS RC RT LK LN LS LL US UB BB) := hD
      refine lv_icmp_ge (tgt := 69) hx hb dX4_stepBy_13 (by decide) (fun c2 => ?_) (fun c2 => ?_)
      · have hf := it_t c2 hf
        refine lv_iload_n hx hb dX4_stepBy_69 rfl (lv_at hl 2 rfl) ?_
        refine lv_iconst (v := (-1 : Int32)) hx hb dX4_stepBy_70 (by decide) ?_
        refine lv_icmp_ne (tgt := 76) hx hb dX4_stepBy_71 (by decide) (fun c3 => ?_) (fun c3 => ?_)
        · have hf := it_t c3 hf
          refine lv_aload_n hx hb dX4_stepBy_76 rfl (lv_at hl 0 rfl) ?_
          refine lv_iload_n hx hb dX4_stepBy_77 rfl (lv_at hl 2 rfl) ?_
          refine lv_iload_n hx hb dX4_stepBy_78 rfl (lv_at hl 2 rfl) ?_
          obtain ⟨q4, hq4, hf⟩ := bnd hf
          refine kI_callS (As := [.int x2]) (rest := [.int x2, .ref (α 4)]) S hP hD hS (c_X1_saysIs l D cI x2 q4 hq4) (va_cwS 1 hts gX4_stepBy_X1_saysIs rfl rfl rfl (by decide +kernel) ⟨Nat.le_of_ble_eq_true rfl, Nat.le_of_ble_eq_true rfl⟩) rfl hl.1 rfl (Nat.le_of_ble_eq_true rfl) dX4_stepBy_79 ⟨Nat.zero_le _, Nat.zero_le _⟩ (fun H locs hP hD hS => ?_)
          obtain ⟨q5, hq5, hf⟩ := bnd hf
          refine kV_callV (As := [.int x2, .int q4]) (rest := []) S hP hD hS (c_X4_narrow l D cI α gw gc gs ge gf cR cL cB pB SD RK RN RS RC RT LK LN LS LL US UB BB x2 q4 q5 hq5) (cwV 2 hts gX4_stepBy_X4_narrow rfl rfl rfl (by decide +kernel) ⟨Nat.le_of_ble_eq_true rfl, Nat.le_of_ble_eq_true rfl⟩) 4 rfl rfl rfl hl.1 rfl (Nat.le_of_ble_eq_true rfl) dX4_stepBy_82 ⟨Nat.zero_le _, Nat.zero_le _⟩ (fun H locs hP hD hS => ?_)
          have hP : va_P D vwCl (wC cI α gw gc gs ge gf cR cL cB pB SD RK RN RS RC RT LK LN LS LL q5 UB BB) H := hP
          have hD : va_D A (wC cI α gw gc gs ge gf cR cL cB pB SD RK RN RS RC RT LK LN LS LL q5 UB BB) := hD
          refine lv_iconst (v := (1 : Int32)) hx hb dX4_stepBy_85 (by decide) ?_
          have e9 := Option.some.inj hf
          subst e9
          exact kI_ret S rfl hP hD hS dX4_stepBy_86
        · have hf := it_f (fun h9 => h9 c3) hf
          refine lv_iconst (v := (2 : Int32)) hx hb dX4_stepBy_74 (by decide) ?_
          have e9 := Option.some.inj hf
          subst e9
          exact kI_ret S rfl hP hD hS dX4_stepBy_75
      · have hf := it_f c2 hf
        refine lv_aload_n hx hb dX4_stepBy_16 rfl (lv_at hl 0 rfl) ?_
        refine va_get (D := D) (ci := 5) (v := .ref (α 3)) (C := RX4) (T := TX4) (N := 4) hx hb hts hiX4 hown hK hP 4 rfl rfl 1 (by decide) fl24 (fun _ h9 => h9) rfl dX4_stepBy_17 ?_
        refine lv_iload_n hx hb dX4_stepBy_20 rfl (lv_at hl 1 rfl) ?_
        refine lv_iload_n hx hb dX4_stepBy_21 rfl (lv_at hl 3 rfl) ?_
        obtain ⟨q6, hq6, hf⟩ := bnd hf
        refine kI_callV (As := [.int x1, .int x3]) (rest := []) S hP hD hS (c_X1_literalAt l D cI α gw gc gs ge gf cR cL cB pB SD RK RN RS RC RT LK LN LS LL US UB BB x1 x3 q6 hq6) (cwV 2 hts gX4_stepBy_X1_literalAt rfl rfl rfl (by decide +kernel) ⟨Nat.le_of_ble_eq_true rfl, Nat.le_of_ble_eq_true rfl⟩) 3 rfl rfl rfl hl.1 rfl (Nat.le_of_ble_eq_true rfl) dX4_stepBy_22 ⟨Nat.zero_le _, Nat.zero_le _⟩ (fun H locs hP hD hS => ?_)
        have hP : va_P D vwCl (wC cI α gw gc gs ge gf cR cL cB pB SD RK RN RS RC RT LK LN LS LL US UB BB) H := hP
        have hD : va_D A (wC cI α gw gc gs ge gf cR cL cB pB SD RK RN RS RC RT LK LN LS LL US UB BB) := hD
        refine lv_istore (lv' := [(4, .int q6), (0, .ref (α 4)), (1, .int x1), (2, .int x2), (3, .int x3)]) hx hb dX4_stepBy_25 hl (by decide) rfl (fun ls hl => ?_)
        refine lv_aload_n hx hb dX4_stepBy_27 rfl (lv_at hl 1 rfl) ?_
        refine lv_iload hx hb dX4_stepBy_28 (lv_at hl 0 rfl) ?_
        obtain ⟨q7, hq7, hf⟩ := bnd hf
        refine kI_callV (As := [.int q6]) (rest := []) S hP hD hS (c_X4_stateOf l D cI α gw gc gs ge gf cR cL cB pB SD RK RN RS RC RT LK LN LS LL US UB BB q6 q7 hq7) (cwV 1 hts gX4_stepBy_X4_stateOf rfl rfl rfl (by decide +kernel) ⟨Nat.le_of_ble_eq_true rfl, Nat.le_of_ble_eq_true rfl⟩) 4 rfl rfl rfl hl.1 rfl (Nat.le_of_ble_eq_true rfl) dX4_stepBy_30 ⟨Nat.zero_le _, Nat.zero_le _⟩ (fun H locs hP hD hS => ?_)
        have hP : va_P D vwCl (wC cI α gw gc gs ge gf cR cL cB pB SD RK RN RS RC RT LK LN LS LL US UB BB) H := hP
        have hD : va_D A (wC cI α gw gc gs ge gf cR cL cB pB SD RK RN RS RC RT LK LN LS LL US UB BB) := hD
        refine lv_istore (lv' := [(5, .int q7), (4, .int q6), (0, .ref (α 4)), (1, .int x1), (2, .int x2), (3, .int x3)]) hx hb dX4_stepBy_33 hl (by decide) rfl (fun ls hl => ?_)
        refine lv_iload hx hb dX4_stepBy_35 (lv_at hl 0 rfl) ?_
        refine lv_iconst (v := (3 : Int32)) hx hb dX4_stepBy_37 (by decide) ?_
        refine lv_icmp_eq (tgt := 52) hx hb dX4_stepBy_38 (by decide) (fun c8 => ?_) (fun c8 => ?_)
        · have hf := it_t c8 hf
          refine lv_iconst (v := (0 : Int32)) hx hb dX4_stepBy_52 (by decide) ?_
          have e9 := Option.some.inj hf
          subst e9
          exact kI_ret S rfl hP hD hS dX4_stepBy_53
        · have hf := it_f c8 hf
          refine lv_iload hx hb dX4_stepBy_41 (lv_at hl 0 rfl) ?_
          refine lv_iconst (v := (5 : Int32)) hx hb dX4_stepBy_43 (by decide) ?_
          refine lv_icmp_ne (tgt := 54) hx hb dX4_stepBy_44 (by decide) (fun c9 => ?_) (fun c9 => ?_)
          · have hf := it_t c9 hf
            exact w54 _ ih _ _ _ _ _ _ H locs ls hf hP hD hS (lv_sub hl [2, 3, 4, 5, 1, 0] rfl)
          · have hf := it_f (fun h9 => h9 c9) hf
            refine lv_iload_n hx hb dX4_stepBy_47 rfl (lv_at hl 4 rfl) ?_
            refine lv_iconst (v := (-1 : Int32)) hx hb dX4_stepBy_48 (by decide) ?_
            refine lv_icmp_eq (tgt := 54) hx hb dX4_stepBy_49 (by decide) (fun c10 => ?_) (fun c10 => ?_)
            · have hf := it_t c10 hf
              exact w54 _ ih _ _ _ _ _ _ H locs ls hf hP hD hS (lv_sub hl [2, 3, 4, 5, 1, 0] rfl)
            · have hf := it_f c10 hf
              refine lv_iconst (v := (0 : Int32)) hx hb dX4_stepBy_52 (by decide) ?_
              have e9 := Option.some.inj hf
              subst e9
              exact kI_ret S rfl hP hD hS dX4_stepBy_53
  suffices hgo : ∀ (H : Heap) (locs : List Loc), va_P D vwCl (wC cI α gw gc gs ge gf cR cL cB pB SD RK RN RS RC RT LK LN LS LL US UB BB) H → va_D A (wC cI α gw gc gs ge gf cR cL cB pB SD RK RN RS RC RT LK LN LS LL US UB BB) → va_S A s.heap H locs → W p l e rm_X4_stepBy s m args below meth c H locs 0 0 (MQ below (kQi D A (wC cI α gw gc gs ge gf cR cL cB pB SD RK RN RS RC RT LK LN LS LL res.2 UB BB) res.1) args s 0 0 A) (F0 m 0 ls []) from hgo _ _ hP hD hS
  clear hP hD hS
  intro H locs hP hD hS
  refine lv_iconst (v := (-1 : Int32)) hx hb dX4_stepBy_0 (by decide) ?_
  refine lv_istore_n (lv' := [(2, .int (-1 : Int32)), (0, .ref (α 4)), (1, .int x1)]) hx hb dX4_stepBy_1 rfl hl (by decide) rfl (fun ls hl => ?_)
  refine lv_iconst (v := (0 : Int32)) hx hb dX4_stepBy_2 (by decide) ?_
  refine lv_istore_n (lv' := [(3, .int (0 : Int32)), (2, .int (-1 : Int32)), (0, .ref (α 4)), (1, .int x1)]) hx hb dX4_stepBy_3 rfl hl (by decide) rfl (fun ls hl => ?_)
  exact w4 F _ _ _ _ H locs ls hf hP hD hS (lv_sub hl [2, 3, 1, 0] rfl)
abbrev rm_X4_comeToNothing : Room := { frames := 3, cells := 0, slots := 0, locals := 69 }
set_option maxHeartbeats 4000000 in
set_option maxRecDepth 100000 in
theorem c_X4_comeToNothing (l : Launch) (D : va_G) (cI : ClassId) (α : Nat → Nat) (gw gc gs ge gf cR cL cB pB : Int32) (SD RK RN RS RC RT LK LN LS LL US UB BB : Nat → Int32) (F : Nat) (x1 : Int32) (res : Int32 × (Nat → Int32)) (hf : f_X4_comeToNothing gc gs LS LL F US x1 = some res) : kI l yX4_comeToNothing wsX4_comeToNothing rm_X4_comeToNothing D cI [.ref (α 4), .int x1] (wC cI α gw gc gs ge gf cR cL cB pB SD RK RN RS RC RT LK LN LS LL US UB BB) (wC cI α gw gc gs ge gf cR cL cB pB SD RK RN RS RC RT LK LN LS LL res.2 UB BB) res.1 := by
  unfold f_X4_comeToNothing at hf
  refine kI_of (cc := cX4_comeToNothing) (maxL := 6) (ret := (some .boolean)) (by decide +kernel) rfl (Nat.le_of_ble_eq_true rfl) ?_
  intro p e s m args below meth c A ls S hP hD hS hl
  have S : kC p s m args meth c cX4_comeToNothing 6 wsX4_comeToNothing RX4 (some .boolean) D cI A := S
  have hx := S.1.1
  have hb := S.1.2.1
  have hml := S.1.2.2.1
  have hown : s.vm.findClass RX4 = some m.cls := S.1.2.2.2.1
  have hts := S.1.2.2.2.2
  have hK := S.2.2.2.1
  have hnk := S.2.2.2.2.1.2
  have hiX4 : ∀ w ∈ u_ws RX4 TX4 4, w ∈ wsX4_comeToNothing := by decide +kernel
  have fl20 := hts (.fieldLink RX4 20 "ProofChecker$Units" "grid" "LProofChecker$Grid;") (by decide +kernel)
  have hl : lv_has ls 6 [(0, .ref (α 4)), (1, .int x1)] := hl
  have w73 : ∀ (k30 : Int32 → Int32 → Int32 → Int32 → (Nat → Int32) → Option (Int32 × (Nat → Int32))) (hk30 : ∀ (x1 : Int32) (x2 : Int32) (x3 : Int32) (x4 : Int32) (US : Nat → Int32) (H : Heap) (locs : List Loc) (ls : Array Slot), k30 x1 x2 x3 x4 US = some res → va_P D vwCl (wC cI α gw gc gs ge gf cR cL cB pB SD RK RN RS RC RT LK LN LS LL US UB BB) H → va_D A (wC cI α gw gc gs ge gf cR cL cB pB SD RK RN RS RC RT LK LN LS LL US UB BB) → va_S A s.heap H locs → lv_has ls 6 [(0, .ref (α 4)), (1, .int x1), (2, .int x2), (3, .int x3), (4, .int x4)] → W p l e rm_X4_comeToNothing s m args below meth c H locs 0 0 (MQ below (kQi D A (wC cI α gw gc gs ge gf cR cL cB pB SD RK RN RS RC RT LK LN LS LL res.2 UB BB) res.1) args s 0 0 A) (F0 m 30 ls [])), ∀ (t0 : Int32) (x1 : Int32) (x2 : Int32) (x4 : Int32) (US : Nat → Int32) (H : Heap) (locs : List Loc) (ls : Array Slot), f_X4_comeToNothing_J73 gc gs LS LL k30 F t0 x1 x2 x4 US = some res → va_P D vwCl (wC cI α gw gc gs ge gf cR cL cB pB SD RK RN RS RC RT LK LN LS LL US UB BB) H → va_D A (wC cI α gw gc gs ge gf cR cL cB pB SD RK RN RS RC RT LK LN LS LL US UB BB) → va_S A s.heap H locs → lv_has ls 6 [(0, .ref (α 4)), (1, .int x1), (2, .int x2), (4, .int x4)] → W p l e rm_X4_comeToNothing s m args below meth c H locs 0 0 (MQ below (kQi D A (wC cI α gw gc gs ge gf cR cL cB pB SD RK RN RS RC RT LK LN LS LL res.2 UB BB) res.1) args s 0 0 A) (F0 m 73 ls [.int t0]) := by
    intro k30 hk30 t0 x1 x2 x4 US H locs ls hf hP hD hS hl
    unfold f_X4_comeToNothing_J73 at hf
    refine lv_istore_n (lv' := [(3, .int t0), (0, .ref (α 4)), (1, .int x1), (2, .int x2), (4, .int x4)]) hx hb dX4_comeToNothing_73 rfl hl (by decide) rfl (fun ls hl => ?_)
    refine lv_iinc (v := (x4 + (1 : Int32))) (lv' := [(4, .int (x4 + (1 : Int32))), (3, .int t0), (0, .ref (α 4)), (1, .int x1), (2, .int x2)]) hx hb dX4_comeToNothing_74 hl (k := 4) rfl rfl (by decide) rfl (fun ls hl => ?_)
    refine lv_goto (tgt := 30) hx hb dX4_comeToNothing_77 (by decide) ?_
    exact hk30 _ _ _ _ _ H locs ls hf hP hD hS (lv_sub hl [2, 3, 4, 1, 0] rfl)
  have w30 : ∀ (n : Nat), ∀ (x1 : Int32) (x2 : Int32) (x3 : Int32) (x4 : Int32) (US : Nat → Int32) (H : Heap) (locs : List Loc) (ls : Array Slot), f_X4_comeToNothing_L30 gc gs LS LL F n x1 x2 x3 x4 US = some res → va_P D vwCl (wC cI α gw gc gs ge gf cR cL cB pB SD RK RN RS RC RT LK LN LS LL US UB BB) H → va_D A (wC cI α gw gc gs ge gf cR cL cB pB SD RK RN RS RC RT LK LN LS LL US UB BB) → va_S A s.heap H locs → lv_has ls 6 [(0, .ref (α 4)), (1, .int x1), (2, .int x2), (3, .int x3), (4, .int x4)] → W p l e rm_X4_comeToNothing s m args below meth c H locs 0 0 (MQ below (kQi D A (wC cI α gw gc gs ge gf cR cL cB pB SD RK RN RS RC RT LK LN LS LL res.2 UB BB) res.1) args s 0 0 A) (F0 m 30 ls []) := by
    intro n
    induction n with
    | zero => intro x1 x2 x3 x4 US H locs ls hf; cases hf
    | succ n ih =>
      intro x1 x2 x3 x4 US H locs ls hf hP hD hS hl
      rw [f_X4_comeToNothing_L30.eq_2] at hf
      refine lv_iload hx hb dX4_comeToNothing_30 (lv_at hl 4 rfl) ?_
      refine lv_iload_n hx hb dX4_comeToNothing_32 rfl (lv_at hl 2 rfl) ?_
      refine lv_iconst (v := (1 : Int32)) hx hb dX4_comeToNothing_33 (by decide) ?_
      refine lv_iadd hx hb dX4_comeToNothing_34 ?_
      refine lv_iload_n hx hb dX4_comeToNothing_35 rfl (lv_at hl 1 rfl) ?_
      refine lv_imul hx hb dX4_comeToNothing_36 ?_
      refine lv_icmp_ge (tgt := 80) hx hb dX4_comeToNothing_37 (by decide) (fun c5 => ?_) (fun c5 => ?_)
      · have hf := it_t c5 hf
        refine lv_iconst (v := (0 : Int32)) hx hb dX4_comeToNothing_80 (by decide) ?_
        have e9 := Option.some.inj hf
        subst e9
        exact kI_ret S narrow_b0 hP hD hS dX4_comeToNothing_81
      · have hf := it_f c5 hf
        refine lv_iload_n hx hb dX4_comeToNothing_40 rfl (lv_at hl 3 rfl) ?_
        refine lv_iload_n hx hb dX4_comeToNothing_41 rfl (lv_at hl 1 rfl) ?_
        refine lv_icmp_ge (tgt := 80) hx hb dX4_comeToNothing_42 (by decide) (fun c6 => ?_) (fun c6 => ?_)
        · have hf := it_t c6 hf
          refine lv_iconst (v := (0 : Int32)) hx hb dX4_comeToNothing_80 (by decide) ?_
          have e9 := Option.some.inj hf
          subst e9
          exact kI_ret S narrow_b0 hP hD hS dX4_comeToNothing_81
        · have hf := it_f c6 hf
          refine lv_aload_n hx hb dX4_comeToNothing_45 rfl (lv_at hl 0 rfl) ?_
          refine lv_iload_n hx hb dX4_comeToNothing_46 rfl (lv_at hl 3 rfl) ?_
          obtain ⟨q7, hq7, hf⟩ := bnd hf
          refine kI_callV (As := [.int x3]) (rest := []) S hP hD hS (c_X4_stepBy l D cI α gw gc gs ge gf cR cL cB pB SD RK RN RS RC RT LK LN LS LL US UB BB F x3 q7 hq7) (cwV 1 hts gX4_comeToNothing_X4_stepBy rfl rfl rfl (by decide +kernel) ⟨Nat.le_of_ble_eq_true rfl, Nat.le_of_ble_eq_true rfl⟩) 4 rfl rfl rfl hl.1 rfl (Nat.le_of_ble_eq_true rfl) dX4_comeToNothing_47 ⟨Nat.zero_le _, Nat.zero_le _⟩ (fun H locs hP hD hS => ?_)
          have hP : va_P D vwCl (wC cI α gw gc gs ge gf cR cL cB pB SD RK RN RS RC RT LK LN LS LL q7.2 UB BB) H := hP
          have hD : va_D A (wC cI α gw gc gs ge gf cR cL cB pB SD RK RN RS RC RT LK LN LS LL q7.2 UB BB) := hD
          refine lv_istore (lv' := [(5, .int q7.1), (0, .ref (α 4)), (1, .int x1), (2, .int x2), (3, .int x3), (4, .int x4)]) hx hb dX4_comeToNothing_50 hl (by decide) rfl (fun ls hl => ?_)
          refine lv_iload hx hb dX4_comeToNothing_52 (lv_at hl 0 rfl) ?_
          refine lv_iconst (v := (2 : Int32)) hx hb dX4_comeToNothing_54 (by decide) ?_
          refine lv_icmp_ne (tgt := 60) hx hb dX4_comeToNothing_55 (by decide) (fun c8 => ?_) (fun c8 => ?_)
          · have hf := it_t c8 hf
            refine lv_iload hx hb dX4_comeToNothing_60 (lv_at hl 0 rfl) ?_
            refine lv_iconst (v := (1 : Int32)) hx hb dX4_comeToNothing_62 (by decide) ?_
            refine lv_icmp_ne (tgt := 70) hx hb dX4_comeToNothing_63 (by decide) (fun c9 => ?_) (fun c9 => ?_)
            · have hf := it_t c9 hf
              refine lv_iload_n hx hb dX4_comeToNothing_70 rfl (lv_at hl 4 rfl) ?_
              refine lv_iconst (v := (1 : Int32)) hx hb dX4_comeToNothing_71 (by decide) ?_
              refine lv_iadd hx hb dX4_comeToNothing_72 ?_
              exact w73 _ ih _ _ _ _ _ H locs ls hf hP hD hS (lv_sub hl [1, 2, 3, 5] rfl)
            · have hf := it_f (fun h9 => h9 c9) hf
              refine lv_iconst (v := (0 : Int32)) hx hb dX4_comeToNothing_66 (by decide) ?_
              refine lv_goto (tgt := 73) hx hb dX4_comeToNothing_67 (by decide) ?_
              exact w73 _ ih _ _ _ _ _ H locs ls hf hP hD hS (lv_sub hl [1, 2, 3, 5] rfl)
          · have hf := it_f (fun h9 => h9 c8) hf
            refine lv_iconst (v := (1 : Int32)) hx hb dX4_comeToNothing_58 (by decide) ?_
            have e9 := Option.some.inj hf
            subst e9
            exact kI_ret S narrow_b1 hP hD hS dX4_comeToNothing_59
  suffices hgo : ∀ (H : Heap) (locs : List Loc), va_P D vwCl (wC cI α gw gc gs ge gf cR cL cB pB SD RK RN RS RC RT LK LN LS LL US UB BB) H → va_D A (wC cI α gw gc gs ge gf cR cL cB pB SD RK RN RS RC RT LK LN LS LL US UB BB) → va_S A s.heap H locs → W p l e rm_X4_comeToNothing s m args below meth c H locs 0 0 (MQ below (kQi D A (wC cI α gw gc gs ge gf cR cL cB pB SD RK RN RS RC RT LK LN LS LL res.2 UB BB) res.1) args s 0 0 A) (F0 m 0 ls []) from hgo _ _ hP hD hS
  clear hP hD hS
  intro H locs hP hD hS
  refine lv_aload_n hx hb dX4_comeToNothing_0 rfl (lv_at hl 0 rfl) ?_
  obtain ⟨q1, hq1, hf⟩ := bnd hf
  refine kI_callV (As := []) (rest := []) S hP hD hS (c_X4_someCellMayBeNothing l D cI α gw gc gs ge gf cR cL cB pB SD RK RN RS RC RT LK LN LS LL US UB BB F q1 hq1) (cwV 0 hts gX4_comeToNothing_X4_someCellMayBeNothing rfl rfl rfl (by decide +kernel) ⟨Nat.le_of_ble_eq_true rfl, Nat.le_of_ble_eq_true rfl⟩) 4 rfl rfl rfl hl.1 rfl (Nat.le_of_ble_eq_true rfl) dX4_comeToNothing_1 ⟨Nat.zero_le _, Nat.zero_le _⟩ (fun H locs hP hD hS => ?_)
  have hP : va_P D vwCl (wC cI α gw gc gs ge gf cR cL cB pB SD RK RN RS RC RT LK LN LS LL US UB BB) H := hP
  have hD : va_D A (wC cI α gw gc gs ge gf cR cL cB pB SD RK RN RS RC RT LK LN LS LL US UB BB) := hD
  refine lv_if_eq (tgt := 9) hx hb dX4_comeToNothing_4 (by decide) (fun c2 => ?_) (fun c2 => ?_)
  · have hf := it_t c2 hf
    refine lv_aload_n hx hb dX4_comeToNothing_9 rfl (lv_at hl 0 rfl) ?_
    refine va_get (D := D) (ci := 5) (v := .ref (α 1)) (C := RX4) (T := TX4) (N := 4) hx hb hts hiX4 hown hK hP 4 rfl rfl 0 (by decide) fl20 (fun _ h9 => h9) rfl dX4_comeToNothing_10 ?_
    obtain ⟨q3, hq3, hf⟩ := bnd hf
    refine kI_callV (As := []) (rest := []) S hP hD hS (c_X0_cells l D cI α gw gc gs ge gf cR cL cB pB SD RK RN RS RC RT LK LN LS LL US UB BB q3 hq3) (cwV 0 hts gX4_comeToNothing_X0_cells rfl rfl rfl (by decide +kernel) ⟨Nat.le_of_ble_eq_true rfl, Nat.le_of_ble_eq_true rfl⟩) 1 rfl rfl rfl hl.1 rfl (Nat.le_of_ble_eq_true rfl) dX4_comeToNothing_13 ⟨Nat.zero_le _, Nat.zero_le _⟩ (fun H locs hP hD hS => ?_)
    have hP : va_P D vwCl (wC cI α gw gc gs ge gf cR cL cB pB SD RK RN RS RC RT LK LN LS LL US UB BB) H := hP
    have hD : va_D A (wC cI α gw gc gs ge gf cR cL cB pB SD RK RN RS RC RT LK LN LS LL US UB BB) := hD
    refine lv_aload_n hx hb dX4_comeToNothing_16 rfl (lv_at hl 0 rfl) ?_
    refine va_get (D := D) (ci := 5) (v := .ref (α 1)) (C := RX4) (T := TX4) (N := 4) hx hb hts hiX4 hown hK hP 4 rfl rfl 0 (by decide) fl20 (fun _ h9 => h9) rfl dX4_comeToNothing_17 ?_
    obtain ⟨q4, hq4, hf⟩ := bnd hf
    refine kI_callV (As := []) (rest := [.int q3]) S hP hD hS (c_X0_symbols l D cI α gw gc gs ge gf cR cL cB pB SD RK RN RS RC RT LK LN LS LL US UB BB q4 hq4) (cwV 0 hts gX4_comeToNothing_X0_symbols rfl rfl rfl (by decide +kernel) ⟨Nat.le_of_ble_eq_true rfl, Nat.le_of_ble_eq_true rfl⟩) 1 rfl rfl rfl hl.1 rfl (Nat.le_of_ble_eq_true rfl) dX4_comeToNothing_20 ⟨Nat.zero_le _, Nat.zero_le _⟩ (fun H locs hP hD hS => ?_)
    have hP : va_P D vwCl (wC cI α gw gc gs ge gf cR cL cB pB SD RK RN RS RC RT LK LN LS LL US UB BB) H := hP
    have hD : va_D A (wC cI α gw gc gs ge gf cR cL cB pB SD RK RN RS RC RT LK LN LS LL US UB BB) := hD
    refine lv_imul hx hb dX4_comeToNothing_23 ?_
    refine lv_istore_n (lv' := [(2, .int (q3 * q4)), (0, .ref (α 4)), (1, .int x1)]) hx hb dX4_comeToNothing_24 rfl hl (by decide) rfl (fun ls hl => ?_)
    refine lv_iconst (v := (0 : Int32)) hx hb dX4_comeToNothing_25 (by decide) ?_
    refine lv_istore_n (lv' := [(3, .int (0 : Int32)), (2, .int (q3 * q4)), (0, .ref (α 4)), (1, .int x1)]) hx hb dX4_comeToNothing_26 rfl hl (by decide) rfl (fun ls hl => ?_)
    refine lv_iconst (v := (0 : Int32)) hx hb dX4_comeToNothing_27 (by decide) ?_
    refine lv_istore (lv' := [(4, .int (0 : Int32)), (3, .int (0 : Int32)), (2, .int (q3 * q4)), (0, .ref (α 4)), (1, .int x1)]) hx hb dX4_comeToNothing_28 hl (by decide) rfl (fun ls hl => ?_)
    exact w30 F _ _ _ _ _ H locs ls hf hP hD hS (lv_sub hl [3, 4, 2, 1, 0] rfl)
  · have hf := it_f c2 hf
    refine lv_iconst (v := (1 : Int32)) hx hb dX4_comeToNothing_7 (by decide) ?_
    have e9 := Option.some.inj hf
    subst e9
    exact kI_ret S narrow_b1 hP hD hS dX4_comeToNothing_8
abbrev rm_X4_refute : Room := { frames := 4, cells := 0, slots := 0, locals := 94 }
set_option maxHeartbeats 4000000 in
set_option maxRecDepth 100000 in
theorem c_X4_refute (l : Launch) (D : va_G) (cI : ClassId) (α : Nat → Nat) (gw gc gs ge gf cR cL cB pB : Int32) (SD RK RN RS RC RT LK LN LS LL US UB BB : Nat → Int32) (F : Nat) (x1 : Int32) (res : Int32 × (Nat → Int32)) (hf : f_X4_refute gc gs LS LL F US x1 = some res) : kI l yX4_refute wsX4_refute rm_X4_refute D cI [.ref (α 4), .int x1] (wC cI α gw gc gs ge gf cR cL cB pB SD RK RN RS RC RT LK LN LS LL US UB BB) (wC cI α gw gc gs ge gf cR cL cB pB SD RK RN RS RC RT LK LN LS LL res.2 UB BB) res.1 := by
  unfold f_X4_refute at hf
  refine kI_of (cc := cX4_refute) (maxL := 2) (ret := (some .boolean)) (by decide +kernel) rfl (Nat.le_of_ble_eq_true rfl) ?_
  intro p e s m args below meth c A ls S hP hD hS hl
  have S : kC p s m args meth c cX4_refute 2 wsX4_refute RX4 (some .boolean) D cI A := S
  have hx := S.1.1
  have hb := S.1.2.1
  have hml := S.1.2.2.1
  have hown : s.vm.findClass RX4 = some m.cls := S.1.2.2.2.1
  have hts := S.1.2.2.2.2
  have hK := S.2.2.2.1
  have hnk := S.2.2.2.2.1.2
  have hl : lv_has ls 2 [(0, .ref (α 4)), (1, .int x1)] := hl
  suffices hgo : ∀ (H : Heap) (locs : List Loc), va_P D vwCl (wC cI α gw gc gs ge gf cR cL cB pB SD RK RN RS RC RT LK LN LS LL US UB BB) H → va_D A (wC cI α gw gc gs ge gf cR cL cB pB SD RK RN RS RC RT LK LN LS LL US UB BB) → va_S A s.heap H locs → W p l e rm_X4_refute s m args below meth c H locs 0 0 (MQ below (kQi D A (wC cI α gw gc gs ge gf cR cL cB pB SD RK RN RS RC RT LK LN LS LL res.2 UB BB) res.1) args s 0 0 A) (F0 m 0 ls []) from hgo _ _ hP hD hS
  clear hP hD hS
  intro H locs hP hD hS
  refine lv_aload_n hx hb dX4_refute_0 rfl (lv_at hl 0 rfl) ?_
  refine lv_iload_n hx hb dX4_refute_1 rfl (lv_at hl 1 rfl) ?_
  obtain ⟨q1, hq1, hf⟩ := bnd hf
  refine kV_callV (As := [.int x1]) (rest := []) S hP hD hS (c_X4_turnRound l D cI α gw gc gs ge gf cR cL cB pB SD RK RN RS RC RT LK LN LS LL US UB BB F x1 q1 hq1) (cwV 1 hts gX4_refute_X4_turnRound rfl rfl rfl (by decide +kernel) ⟨Nat.le_of_ble_eq_true rfl, Nat.le_of_ble_eq_true rfl⟩) 4 rfl rfl rfl hl.1 rfl (Nat.le_of_ble_eq_true rfl) dX4_refute_2 ⟨Nat.zero_le _, Nat.zero_le _⟩ (fun H locs hP hD hS => ?_)
  have hP : va_P D vwCl (wC cI α gw gc gs ge gf cR cL cB pB SD RK RN RS RC RT LK LN LS LL q1 UB BB) H := hP
  have hD : va_D A (wC cI α gw gc gs ge gf cR cL cB pB SD RK RN RS RC RT LK LN LS LL q1 UB BB) := hD
  refine lv_aload_n hx hb dX4_refute_5 rfl (lv_at hl 0 rfl) ?_
  refine lv_iload_n hx hb dX4_refute_6 rfl (lv_at hl 1 rfl) ?_
  obtain ⟨q2, hq2, hf⟩ := bnd hf
  refine kI_callV (As := [.int x1]) (rest := []) S hP hD hS (c_X4_comeToNothing l D cI α gw gc gs ge gf cR cL cB pB SD RK RN RS RC RT LK LN LS LL q1 UB BB F x1 q2 hq2) (cwV 1 hts gX4_refute_X4_comeToNothing rfl rfl rfl (by decide +kernel) ⟨Nat.le_of_ble_eq_true rfl, Nat.le_of_ble_eq_true rfl⟩) 4 rfl rfl rfl hl.1 rfl (Nat.le_of_ble_eq_true rfl) dX4_refute_7 ⟨Nat.zero_le _, Nat.zero_le _⟩ (fun H locs hP hD hS => ?_)
  have hP : va_P D vwCl (wC cI α gw gc gs ge gf cR cL cB pB SD RK RN RS RC RT LK LN LS LL q2.2 UB BB) H := hP
  have hD : va_D A (wC cI α gw gc gs ge gf cR cL cB pB SD RK RN RS RC RT LK LN LS LL q2.2 UB BB) := hD
  obtain ⟨g3, hf⟩ := gbl_some hf
  have e9 := Option.some.inj hf
  subst e9
  exact kI_ret S (nar_b g3) hP hD hS dX4_refute_10
abbrev rm_X4_refuteBySplit : Room := { frames := 5, cells := 0, slots := 0, locals := 115 }
set_option maxHeartbeats 4000000 in
set_option maxRecDepth 100000 in
theorem c_X4_refuteBySplit (l : Launch) (D : va_G) (cI : ClassId) (α : Nat → Nat) (gw gc gs ge gf cR cL cB pB : Int32) (SD RK RN RS RC RT LK LN LS LL US UB BB : Nat → Int32) (F : Nat) (x1 : Int32) (x2 : Int32) (res : Int32 × (Nat → Int32) × (Nat → Int32)) (hf : f_X4_refuteBySplit gc gs LS LL F US UB x1 x2 = some res) : kI l yX4_refuteBySplit wsX4_refuteBySplit rm_X4_refuteBySplit D cI [.ref (α 4), .int x1, .int x2] (wC cI α gw gc gs ge gf cR cL cB pB SD RK RN RS RC RT LK LN LS LL US UB BB) (wC cI α gw gc gs ge gf cR cL cB pB SD RK RN RS RC RT LK LN LS LL res.2.1 res.2.2 BB) res.1 := by
  unfold f_X4_refuteBySplit at hf
  refine kI_of (cc := cX4_refuteBySplit) (maxL := 5) (ret := (some .boolean)) (by decide +kernel) rfl (Nat.le_of_ble_eq_true rfl) ?_
  intro p e s m args below meth c A ls S hP hD hS hl
  have S : kC p s m args meth c cX4_refuteBySplit 5 wsX4_refuteBySplit RX4 (some .boolean) D cI A := S
  have hx := S.1.1
  have hb := S.1.2.1
  have hml := S.1.2.2.1
  have hown : s.vm.findClass RX4 = some m.cls := S.1.2.2.2.1
  have hts := S.1.2.2.2.2
  have hK := S.2.2.2.1
  have hnk := S.2.2.2.2.1.2
  have hiX4 : ∀ w ∈ u_ws RX4 TX4 4, w ∈ wsX4_refuteBySplit := by decide +kernel
  have fl11 := hts (.fieldLink RX4 11 "ProofChecker$Units" "symbols" "[I") (by decide +kernel)
  have fl17 := hts (.fieldLink RX4 17 "ProofChecker$Units" "beforeSplit" "[I") (by decide +kernel)
  have fl20 := hts (.fieldLink RX4 20 "ProofChecker$Units" "grid" "LProofChecker$Grid;") (by decide +kernel)
  have hl : lv_has ls 5 [(0, .ref (α 4)), (1, .int x1), (2, .int x2)] := hl
  have w88 : ∀ (k27 : Int32 → Int32 → Int32 → (Nat → Int32) → (Nat → Int32) → Option (Int32 × (Nat → Int32) × (Nat → Int32))) (hk27 : ∀ (x1 : Int32) (x2 : Int32) (x3 : Int32) (US : Nat → Int32) (UB : Nat → Int32) (H : Heap) (locs : List Loc) (ls : Array Slot), k27 x1 x2 x3 US UB = some res → va_P D vwCl (wC cI α gw gc gs ge gf cR cL cB pB SD RK RN RS RC RT LK LN LS LL US UB BB) H → va_D A (wC cI α gw gc gs ge gf cR cL cB pB SD RK RN RS RC RT LK LN LS LL US UB BB) → va_S A s.heap H locs → lv_has ls 5 [(0, .ref (α 4)), (1, .int x1), (2, .int x2), (3, .int x3)] → W p l e rm_X4_refuteBySplit s m args below meth c H locs 0 0 (MQ below (kQi D A (wC cI α gw gc gs ge gf cR cL cB pB SD RK RN RS RC RT LK LN LS LL res.2.1 res.2.2 BB) res.1) args s 0 0 A) (F0 m 27 ls [])), ∀ (x1 : Int32) (x2 : Int32) (x3 : Int32) (US : Nat → Int32) (UB : Nat → Int32) (H : Heap) (locs : List Loc) (ls : Array Slot), f_X4_refuteBySplit_J88 gc gs LS LL k27 F x1 x2 x3 US UB = some res → va_P D vwCl (wC cI α gw gc gs ge gf cR cL cB pB SD RK RN RS RC RT LK LN LS LL US UB BB) H → va_D A (wC cI α gw gc gs ge gf cR cL cB pB SD RK RN RS RC RT LK LN LS LL US UB BB) → va_S A s.heap H locs → lv_has ls 5 [(0, .ref (α 4)), (1, .int x1), (2, .int x2), (3, .int x3)] → W p l e rm_X4_refuteBySplit s m args below meth c H locs 0 0 (MQ below (kQi D A (wC cI α gw gc gs ge gf cR cL cB pB SD RK RN RS RC RT LK LN LS LL res.2.1 res.2.2 BB) res.1) args s 0 0 A) (F0 m 88 ls []) := by
    intro k27 hk27 x1 x2 x3 US UB H locs ls hf hP hD hS hl
    unfold f_X4_refuteBySplit_J88 at hf
    refine lv_iinc (v := (x3 + (1 : Int32))) (lv' := [(3, .int (x3 + (1 : Int32))), (0, .ref (α 4)), (1, .int x1), (2, .int x2)]) hx hb dX4_refuteBySplit_88 hl (k := 3) rfl rfl (by decide) rfl (fun ls hl => ?_)
    refine lv_goto (tgt := 27) hx hb dX4_refuteBySplit_91 (by decide) ?_
    exact hk27 _ _ _ _ _ H locs ls hf hP hD hS (lv_sub hl [1, 2, 3, 0] rfl)
  have w27 : ∀ (n : Nat), ∀ (x1 : Int32) (x2 : Int32) (x3 : Int32) (US : Nat → Int32) (UB : Nat → Int32) (H : Heap) (locs : List Loc) (ls : Array Slot), f_X4_refuteBySplit_L27 gc gs LS LL F n x1 x2 x3 US UB = some res → va_P D vwCl (wC cI α gw gc gs ge gf cR cL cB pB SD RK RN RS RC RT LK LN LS LL US UB BB) H → va_D A (wC cI α gw gc gs ge gf cR cL cB pB SD RK RN RS RC RT LK LN LS LL US UB BB) → va_S A s.heap H locs → lv_has ls 5 [(0, .ref (α 4)), (1, .int x1), (2, .int x2), (3, .int x3)] → W p l e rm_X4_refuteBySplit s m args below meth c H locs 0 0 (MQ below (kQi D A (wC cI α gw gc gs ge gf cR cL cB pB SD RK RN RS RC RT LK LN LS LL res.2.1 res.2.2 BB) res.1) args s 0 0 A) (F0 m 27 ls []) := by
    intro n
    induction n with
    | zero => intro x1 x2 x3 US UB H locs ls hf; cases hf
    | succ n ih =>
      intro x1 x2 x3 US UB H locs ls hf hP hD hS hl
      rw [f_X4_refuteBySplit_L27.eq_2] at hf
      refine lv_iload_n hx hb dX4_refuteBySplit_27 rfl (lv_at hl 3 rfl) ?_
      refine lv_aload_n hx hb dX4_refuteBySplit_28 rfl (lv_at hl 0 rfl) ?_
      refine va_get (D := D) (ci := 5) (v := .ref (α 1)) (C := RX4) (T := TX4) (N := 4) hx hb hts hiX4 hown hK hP 4 rfl rfl 0 (by decide) fl20 (fun _ h9 => h9) rfl dX4_refuteBySplit_29 ?_
      obtain ⟨q3, hq3, hf⟩ := bnd hf
      refine kI_callV (As := []) (rest := [.int x3]) S hP hD hS (c_X0_symbols l D cI α gw gc gs ge gf cR cL cB pB SD RK RN RS RC RT LK LN LS LL US UB BB q3 hq3) (cwV 0 hts gX4_refuteBySplit_X0_symbols rfl rfl rfl (by decide +kernel) ⟨Nat.le_of_ble_eq_true rfl, Nat.le_of_ble_eq_true rfl⟩) 1 rfl rfl rfl hl.1 rfl (Nat.le_of_ble_eq_true rfl) dX4_refuteBySplit_32 ⟨Nat.zero_le _, Nat.zero_le _⟩ (fun H locs hP hD hS => ?_)
      have hP : va_P D vwCl (wC cI α gw gc gs ge gf cR cL cB pB SD RK RN RS RC RT LK LN LS LL US UB BB) H := hP
      have hD : va_D A (wC cI α gw gc gs ge gf cR cL cB pB SD RK RN RS RC RT LK LN LS LL US UB BB) := hD
      refine lv_icmp_ge (tgt := 94) hx hb dX4_refuteBySplit_35 (by decide) (fun c4 => ?_) (fun c4 => ?_)
      · have hf := it_t c4 hf
        refine lv_iconst (v := (1 : Int32)) hx hb dX4_refuteBySplit_94 (by decide) ?_
        have e9 := Option.some.inj hf
        subst e9
        exact kI_ret S narrow_b1 hP hD hS dX4_refuteBySplit_95
      · have hf := it_f c4 hf
        refine lv_iconst (v := (1 : Int32)) hx hb dX4_refuteBySplit_38 (by decide) ?_
        refine lv_iload_n hx hb dX4_refuteBySplit_39 rfl (lv_at hl 3 rfl) ?_
        refine lv_ishl hx hb dX4_refuteBySplit_40 ?_
        refine lv_istore (lv' := [(4, .int ((1 : Int32) <<< (x3 &&& 31))), (0, .ref (α 4)), (1, .int x1), (2, .int x2), (3, .int x3)]) hx hb dX4_refuteBySplit_41 hl (by decide) rfl (fun ls hl => ?_)
        refine lv_aload_n hx hb dX4_refuteBySplit_43 rfl (lv_at hl 1 rfl) ?_
        refine va_get (D := D) (ci := 5) (v := .ref (α 17)) (C := RX4) (T := TX4) (N := 4) hx hb hts hiX4 hown hK hP 4 rfl rfl 3 (by decide) fl17 (fun _ h9 => h9) rfl dX4_refuteBySplit_44 ?_
        refine lv_iload_n hx hb dX4_refuteBySplit_47 rfl (lv_at hl 3 rfl) ?_
        obtain ⟨g5, hf⟩ := gin_some hf
        refine va_iald hx hb hK hP 17 0 rfl rfl g5 dX4_refuteBySplit_48 ?_
        refine lv_iload hx hb dX4_refuteBySplit_49 (lv_at hl 0 rfl) ?_
        refine lv_iand hx hb dX4_refuteBySplit_51 ?_
        refine lv_if_eq (tgt := 88) hx hb dX4_refuteBySplit_52 (by decide) (fun c6 => ?_) (fun c6 => ?_)
        · have hf := it_t c6 hf
          exact w88 _ ih _ _ _ _ _ H locs ls hf hP hD hS (lv_sub hl [1, 2, 3, 4] rfl)
        · have hf := it_f c6 hf
          refine lv_aload_n hx hb dX4_refuteBySplit_55 rfl (lv_at hl 1 rfl) ?_
          refine va_get (D := D) (ci := 5) (v := .ref (α 17)) (C := RX4) (T := TX4) (N := 4) hx hb hts hiX4 hown hK hP 4 rfl rfl 3 (by decide) fl17 (fun _ h9 => h9) rfl dX4_refuteBySplit_56 ?_
          refine lv_iconst (v := (0 : Int32)) hx hb dX4_refuteBySplit_59 (by decide) ?_
          refine lv_aload_n hx hb dX4_refuteBySplit_60 rfl (lv_at hl 1 rfl) ?_
          refine va_get (D := D) (ci := 5) (v := .ref (α 16)) (C := RX4) (T := TX4) (N := 4) hx hb hts hiX4 hown hK hP 4 rfl rfl 2 (by decide) fl11 (fun _ h9 => h9) rfl dX4_refuteBySplit_61 ?_
          refine lv_iconst (v := (0 : Int32)) hx hb dX4_refuteBySplit_64 (by decide) ?_
          refine lv_bipush (v := (16 : Int32)) hx hb dX4_refuteBySplit_65 (by decide) ?_
          refine va_copyi hx hb (by rw [hml]; exact hl.1.symm) hown (hts (.methodLink RX4 72 arraycopyName) (by decide +kernel)) (hts (.native arraycopyName) (by decide +kernel)) (hts (.static arraycopyName) (by decide +kernel)) (hts (.initialized "java/lang/System") (by decide +kernel)) hK hP hD hS 17 16 0 0 rfl rfl rfl rfl rfl (by decide) (by decide) (by decide) (by decide) (by decide) (fun _ _ => rfl) (Nat.le_of_ble_eq_true rfl) (by decide) dX4_refuteBySplit_67 (fun H locs hP hD hS => ?_)
          have hP : va_P D vwCl (wC cI α gw gc gs ge gf cR cL cB pB SD RK RN RS RC RT LK LN LS LL (va_cpy UB US (0 : Int32).toNatClampNeg (0 : Int32).toNatClampNeg (16 : Int32).toNatClampNeg) UB BB) H := hP
          have hD : va_D A (wC cI α gw gc gs ge gf cR cL cB pB SD RK RN RS RC RT LK LN LS LL (va_cpy UB US (0 : Int32).toNatClampNeg (0 : Int32).toNatClampNeg (16 : Int32).toNatClampNeg) UB BB) := hD
          refine lv_aload_n hx hb dX4_refuteBySplit_70 rfl (lv_at hl 1 rfl) ?_
          refine va_get (D := D) (ci := 5) (v := .ref (α 16)) (C := RX4) (T := TX4) (N := 4) hx hb hts hiX4 hown hK hP 4 rfl rfl 2 (by decide) fl11 (fun _ h9 => h9) rfl dX4_refuteBySplit_71 ?_
          refine lv_iload_n hx hb dX4_refuteBySplit_74 rfl (lv_at hl 3 rfl) ?_
          refine lv_iload hx hb dX4_refuteBySplit_75 (lv_at hl 0 rfl) ?_
          obtain ⟨g7, hf⟩ := gin_some hf
          refine va_iast hx hb hK hP hD hS 16 0 rfl rfl g7 dX4_refuteBySplit_77 (fun H locs hP hD hS => ?_)
          have hP : va_P D vwCl (wC cI α gw gc gs ge gf cR cL cB pB SD RK RN RS RC RT LK LN LS LL ((upd (va_cpy UB US (0 : Int32).toNatClampNeg (0 : Int32).toNatClampNeg (16 : Int32).toNatClampNeg) x2.toNatClampNeg ((1 : Int32) <<< (x3 &&& 31)))) UB BB) H := hP
          have hD : va_D A (wC cI α gw gc gs ge gf cR cL cB pB SD RK RN RS RC RT LK LN LS LL ((upd (va_cpy UB US (0 : Int32).toNatClampNeg (0 : Int32).toNatClampNeg (16 : Int32).toNatClampNeg) x2.toNatClampNeg ((1 : Int32) <<< (x3 &&& 31)))) UB BB) := hD
          refine lv_aload_n hx hb dX4_refuteBySplit_78 rfl (lv_at hl 1 rfl) ?_
          refine lv_iload_n hx hb dX4_refuteBySplit_79 rfl (lv_at hl 2 rfl) ?_
          obtain ⟨q8, hq8, hf⟩ := bnd hf
          refine kI_callV (As := [.int x1]) (rest := []) S hP hD hS (c_X4_comeToNothing l D cI α gw gc gs ge gf cR cL cB pB SD RK RN RS RC RT LK LN LS LL ((upd (va_cpy UB US (0 : Int32).toNatClampNeg (0 : Int32).toNatClampNeg (16 : Int32).toNatClampNeg) x2.toNatClampNeg ((1 : Int32) <<< (x3 &&& 31)))) UB BB F x1 q8 hq8) (cwV 1 hts gX4_refuteBySplit_X4_comeToNothing rfl rfl rfl (by decide +kernel) ⟨Nat.le_of_ble_eq_true rfl, Nat.le_of_ble_eq_true rfl⟩) 4 rfl rfl rfl hl.1 rfl (Nat.le_of_ble_eq_true rfl) dX4_refuteBySplit_80 ⟨Nat.zero_le _, Nat.zero_le _⟩ (fun H locs hP hD hS => ?_)
          have hP : va_P D vwCl (wC cI α gw gc gs ge gf cR cL cB pB SD RK RN RS RC RT LK LN LS LL q8.2 UB BB) H := hP
          have hD : va_D A (wC cI α gw gc gs ge gf cR cL cB pB SD RK RN RS RC RT LK LN LS LL q8.2 UB BB) := hD
          refine lv_if_ne (tgt := 88) hx hb dX4_refuteBySplit_83 (by decide) (fun c9 => ?_) (fun c9 => ?_)
          · have hf := it_t c9 hf
            exact w88 _ ih _ _ _ _ _ H locs ls hf hP hD hS (lv_sub hl [1, 2, 3, 4] rfl)
          · have hf := it_f (fun h9 => h9 c9) hf
            refine lv_iconst (v := (0 : Int32)) hx hb dX4_refuteBySplit_86 (by decide) ?_
            have e9 := Option.some.inj hf
            subst e9
            exact kI_ret S narrow_b0 hP hD hS dX4_refuteBySplit_87
  suffices hgo : ∀ (H : Heap) (locs : List Loc), va_P D vwCl (wC cI α gw gc gs ge gf cR cL cB pB SD RK RN RS RC RT LK LN LS LL US UB BB) H → va_D A (wC cI α gw gc gs ge gf cR cL cB pB SD RK RN RS RC RT LK LN LS LL US UB BB) → va_S A s.heap H locs → W p l e rm_X4_refuteBySplit s m args below meth c H locs 0 0 (MQ below (kQi D A (wC cI α gw gc gs ge gf cR cL cB pB SD RK RN RS RC RT LK LN LS LL res.2.1 res.2.2 BB) res.1) args s 0 0 A) (F0 m 0 ls []) from hgo _ _ hP hD hS
  clear hP hD hS
  intro H locs hP hD hS
  refine lv_aload_n hx hb dX4_refuteBySplit_0 rfl (lv_at hl 0 rfl) ?_
  refine lv_iload_n hx hb dX4_refuteBySplit_1 rfl (lv_at hl 1 rfl) ?_
  obtain ⟨q1, hq1, hf⟩ := bnd hf
  refine kI_callV (As := [.int x1]) (rest := []) S hP hD hS (c_X4_refute l D cI α gw gc gs ge gf cR cL cB pB SD RK RN RS RC RT LK LN LS LL US UB BB F x1 q1 hq1) (cwV 1 hts gX4_refuteBySplit_X4_refute rfl rfl rfl (by decide +kernel) ⟨Nat.le_of_ble_eq_true rfl, Nat.le_of_ble_eq_true rfl⟩) 4 rfl rfl rfl hl.1 rfl (Nat.le_of_ble_eq_true rfl) dX4_refuteBySplit_2 ⟨Nat.zero_le _, Nat.zero_le _⟩ (fun H locs hP hD hS => ?_)
  have hP : va_P D vwCl (wC cI α gw gc gs ge gf cR cL cB pB SD RK RN RS RC RT LK LN LS LL q1.2 UB BB) H := hP
  have hD : va_D A (wC cI α gw gc gs ge gf cR cL cB pB SD RK RN RS RC RT LK LN LS LL q1.2 UB BB) := hD
  refine lv_if_eq (tgt := 10) hx hb dX4_refuteBySplit_5 (by decide) (fun c2 => ?_) (fun c2 => ?_)
  · have hf := it_t c2 hf
    refine lv_aload_n hx hb dX4_refuteBySplit_10 rfl (lv_at hl 0 rfl) ?_
    refine va_get (D := D) (ci := 5) (v := .ref (α 16)) (C := RX4) (T := TX4) (N := 4) hx hb hts hiX4 hown hK hP 4 rfl rfl 2 (by decide) fl11 (fun _ h9 => h9) rfl dX4_refuteBySplit_11 ?_
    refine lv_iconst (v := (0 : Int32)) hx hb dX4_refuteBySplit_14 (by decide) ?_
    refine lv_aload_n hx hb dX4_refuteBySplit_15 rfl (lv_at hl 0 rfl) ?_
    refine va_get (D := D) (ci := 5) (v := .ref (α 17)) (C := RX4) (T := TX4) (N := 4) hx hb hts hiX4 hown hK hP 4 rfl rfl 3 (by decide) fl17 (fun _ h9 => h9) rfl dX4_refuteBySplit_16 ?_
    refine lv_iconst (v := (0 : Int32)) hx hb dX4_refuteBySplit_19 (by decide) ?_
    refine lv_bipush (v := (16 : Int32)) hx hb dX4_refuteBySplit_20 (by decide) ?_
    refine va_copyi hx hb (by rw [hml]; exact hl.1.symm) hown (hts (.methodLink RX4 72 arraycopyName) (by decide +kernel)) (hts (.native arraycopyName) (by decide +kernel)) (hts (.static arraycopyName) (by decide +kernel)) (hts (.initialized "java/lang/System") (by decide +kernel)) hK hP hD hS 16 17 0 0 rfl rfl rfl rfl rfl (by decide) (by decide) (by decide) (by decide) (by decide) (fun _ _ => rfl) (Nat.le_of_ble_eq_true rfl) (by decide) dX4_refuteBySplit_22 (fun H locs hP hD hS => ?_)
    have hP : va_P D vwCl (wC cI α gw gc gs ge gf cR cL cB pB SD RK RN RS RC RT LK LN LS LL q1.2 (va_cpy q1.2 UB (0 : Int32).toNatClampNeg (0 : Int32).toNatClampNeg (16 : Int32).toNatClampNeg) BB) H := hP
    have hD : va_D A (wC cI α gw gc gs ge gf cR cL cB pB SD RK RN RS RC RT LK LN LS LL q1.2 (va_cpy q1.2 UB (0 : Int32).toNatClampNeg (0 : Int32).toNatClampNeg (16 : Int32).toNatClampNeg) BB) := hD
    refine lv_iconst (v := (0 : Int32)) hx hb dX4_refuteBySplit_25 (by decide) ?_
    refine lv_istore_n (lv' := [(3, .int (0 : Int32)), (0, .ref (α 4)), (1, .int x1), (2, .int x2)]) hx hb dX4_refuteBySplit_26 rfl hl (by decide) rfl (fun ls hl => ?_)
    exact w27 F _ _ _ _ _ H locs ls hf hP hD hS (lv_sub hl [1, 2, 3, 0] rfl)
  · have hf := it_f c2 hf
    refine lv_iconst (v := (1 : Int32)) hx hb dX4_refuteBySplit_8 (by decide) ?_
    have e9 := Option.some.inj hf
    subst e9
    exact kI_ret S narrow_b1 hP hD hS dX4_refuteBySplit_9
