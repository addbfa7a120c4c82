abbrev rm_X5_rule : Room := { frames := 1, cells := 0, slots := 0, locals := 22 }
set_option maxHeartbeats 4000000 in
set_option maxRecDepth 100000 in
theorem c_X5_rule (l : Launch) (D : va_G) (cI : ClassId) (α : Nat → Nat) (gw gc gs ge gf cR cL cB pB : Int32) (SD RK RN RS RC RT LK LN LS LL US UB BB : Nat → Int32) (x1 : Int32) (x2 : Int32) (res : Int32 × Int32 × (Nat → Int32) × (Nat → Int32)) (hf : f_X5_rule cR RK RN x1 x2 = some res) : kI l yX5_rule wsX5_rule rm_X5_rule D cI [.ref (α 0), .int x1, .int x2] (wC cI α gw gc gs ge gf cR cL cB pB SD RK RN RS RC RT LK LN LS LL US UB BB) (wC cI α gw gc gs ge gf res.2.1 cL cB pB SD res.2.2.1 res.2.2.2 RS RC RT LK LN LS LL US UB BB) res.1 := by
  unfold f_X5_rule at hf
  refine kI_of (cc := cX5_rule) (maxL := 3) (ret := (some .int)) (by decide +kernel) rfl (Nat.le_of_ble_eq_true rfl) ?_
  intro p e s m args below meth c A ls S hP hD hS hl
  have S : kC p s m args meth c cX5_rule 3 wsX5_rule RX5 (some .int) D cI A := S
  have hx := S.1.1
  have hb := S.1.2.1
  have hml := S.1.2.2.1
  have hown : s.vm.findClass RX5 = some m.cls := S.1.2.2.2.1
  have hts := S.1.2.2.2.2
  have hK := S.2.2.2.1
  have hnk := S.2.2.2.2.1.2
  have hiX5 : ∀ w ∈ u_ws RX5 TX5 6, w ∈ wsX5_rule := by decide +kernel
  have fl23 := hts (.fieldLink RX5 23 "ProofChecker" "rules" "LProofChecker$Rules;") (by decide +kernel)
  have hl : lv_has ls 3 [(0, .ref (α 0)), (1, .int x1), (2, .int x2)] := hl
  suffices hgo : ∀ (H : Heap) (locs : List Loc), va_P D vwCl (wC cI α gw gc gs ge gf cR cL cB pB SD RK RN RS RC RT LK LN LS LL US UB BB) H → va_D A (wC cI α gw gc gs ge gf cR cL cB pB SD RK RN RS RC RT LK LN LS LL US UB BB) → va_S A s.heap H locs → W p l e rm_X5_rule s m args below meth c H locs 0 0 (MQ below (kQi D A (wC cI α gw gc gs ge gf res.2.1 cL cB pB SD res.2.2.1 res.2.2.2 RS RC RT LK LN LS LL US UB BB) res.1) args s 0 0 A) (F0 m 0 ls []) from hgo _ _ hP hD hS
  clear hP hD hS
  intro H locs hP hD hS
  refine lv_iload_n hx hb dX5_rule_0 rfl (lv_at hl 1 rfl) ?_
  refine lv_if_lt (tgt := 19) hx hb dX5_rule_1 (by decide) (fun c1 => ?_) (fun c1 => ?_)
  · have hf := it_t c1 hf
    refine lv_iconst (v := (-1 : Int32)) hx hb dX5_rule_19 (by decide) ?_
    have e9 := Option.some.inj hf
    subst e9
    exact kI_ret S rfl hP hD hS dX5_rule_20
  · have hf := it_f c1 hf
    refine lv_iload_n hx hb dX5_rule_4 rfl (lv_at hl 1 rfl) ?_
    refine lv_iconst (v := (4 : Int32)) hx hb dX5_rule_5 (by decide) ?_
    refine lv_icmp_gt (tgt := 19) hx hb dX5_rule_6 (by decide) (fun c2 => ?_) (fun c2 => ?_)
    · have hf := it_t c2 hf
      refine lv_iconst (v := (-1 : Int32)) hx hb dX5_rule_19 (by decide) ?_
      have e9 := Option.some.inj hf
      subst e9
      exact kI_ret S rfl hP hD hS dX5_rule_20
    · have hf := it_f c2 hf
      refine lv_iload_n hx hb dX5_rule_9 rfl (lv_at hl 2 rfl) ?_
      refine lv_if_lt (tgt := 19) hx hb dX5_rule_10 (by decide) (fun c3 => ?_) (fun c3 => ?_)
      · have hf := it_t c3 hf
        refine lv_iconst (v := (-1 : Int32)) hx hb dX5_rule_19 (by decide) ?_
        have e9 := Option.some.inj hf
        subst e9
        exact kI_ret S rfl hP hD hS dX5_rule_20
      · have hf := it_f c3 hf
        refine lv_iload_n hx hb dX5_rule_13 rfl (lv_at hl 2 rfl) ?_
        refine lv_bipush (v := (99 : Int32)) hx hb dX5_rule_14 (by decide) ?_
        refine lv_icmp_le (tgt := 21) hx hb dX5_rule_16 (by decide) (fun c4 => ?_) (fun c4 => ?_)
        · have hf := it_t c4 hf
          refine lv_aload_n hx hb dX5_rule_21 rfl (lv_at hl 0 rfl) ?_
          refine va_get (D := D) (ci := 6) (v := .ref (α 2)) (C := RX5) (T := TX5) (N := 6) hx hb hts hiX5 hown hK hP 0 rfl rfl 1 (by decide) fl23 (fun _ h9 => h9) rfl dX5_rule_22 ?_
          refine lv_iload_n hx hb dX5_rule_25 rfl (lv_at hl 1 rfl) ?_
          refine lv_iload_n hx hb dX5_rule_26 rfl (lv_at hl 2 rfl) ?_
          obtain ⟨q5, hq5, hf⟩ := bnd hf
          refine kI_callV (As := [.int x1, .int x2]) (rest := []) S hP hD hS (c_X3_append l D cI α gw gc gs ge gf cR cL cB pB SD RK RN RS RC RT LK LN LS LL US UB BB x1 x2 q5 hq5) (cwV 2 hts gX5_rule_X3_append rfl rfl rfl (by decide +kernel) ⟨Nat.le_of_ble_eq_true rfl, Nat.le_of_ble_eq_true rfl⟩) 2 rfl rfl rfl hl.1 rfl (Nat.le_of_ble_eq_true rfl) dX5_rule_27 ⟨Nat.zero_le _, Nat.zero_le _⟩ (fun H locs hP hD hS => ?_)
          have hP : va_P D vwCl (wC cI α gw gc gs ge gf q5.2.1 cL cB pB SD q5.2.2.1 q5.2.2.2 RS RC RT LK LN LS LL US UB BB) H := hP
          have hD : va_D A (wC cI α gw gc gs ge gf q5.2.1 cL cB pB SD q5.2.2.1 q5.2.2.2 RS RC RT LK LN LS LL US UB BB) := hD
          have e9 := Option.some.inj hf
          subst e9
          exact kI_ret S rfl hP hD hS dX5_rule_30
        · have hf := it_f c4 hf
          refine lv_iconst (v := (-1 : Int32)) hx hb dX5_rule_19 (by decide) ?_
          have e9 := Option.some.inj hf
          subst e9
          exact kI_ret S rfl hP hD hS dX5_rule_20
abbrev rm_X5_needRule : Room := { frames := 1, cells := 0, slots := 0, locals := 21 }
set_option maxHeartbeats 4000000 in
set_option maxRecDepth 100000 in
theorem c_X5_needRule (l : Launch) (D : va_G) (cI : ClassId) (α : Nat → Nat) (gw gc gs ge gf cR cL cB pB : Int32) (SD RK RN RS RC RT LK LN LS LL US UB BB : Nat → Int32) (x1 : Int32) (res : Unit) (hf : f_X5_needRule cR x1 = some res) : kV l yX5_needRule wsX5_needRule rm_X5_needRule D cI [.ref (α 0), .int x1] (wC cI α gw gc gs ge gf cR cL cB pB SD RK RN RS RC RT LK LN LS LL US UB BB) (wC cI α gw gc gs ge gf cR cL cB pB SD RK RN RS RC RT LK LN LS LL US UB BB) := by
  unfold f_X5_needRule at hf
  refine kV_of (cc := cX5_needRule) (maxL := 2) (ret := none) (by decide +kernel) rfl (Nat.le_of_ble_eq_true rfl) ?_
  intro p e s m args below meth c A ls S hP hD hS hl
  have S : kC p s m args meth c cX5_needRule 2 wsX5_needRule RX5 none D cI A := S
  have hx := S.1.1
  have hb := S.1.2.1
  have hml := S.1.2.2.1
  have hown : s.vm.findClass RX5 = some m.cls := S.1.2.2.2.1
  have hts := S.1.2.2.2.2
  have hK := S.2.2.2.1
  have hnk := S.2.2.2.2.1.2
  have hiX5 : ∀ w ∈ u_ws RX5 TX5 6, w ∈ wsX5_needRule := by decide +kernel
  have fl23 := hts (.fieldLink RX5 23 "ProofChecker" "rules" "LProofChecker$Rules;") (by decide +kernel)
  have hl : lv_has ls 2 [(0, .ref (α 0)), (1, .int x1)] := hl
  suffices hgo : ∀ (H : Heap) (locs : List Loc), va_P D vwCl (wC cI α gw gc gs ge gf cR cL cB pB SD RK RN RS RC RT LK LN LS LL US UB BB) H → va_D A (wC cI α gw gc gs ge gf cR cL cB pB SD RK RN RS RC RT LK LN LS LL US UB BB) → va_S A s.heap H locs → W p l e rm_X5_needRule s m args below meth c H locs 0 0 (MQ below (kQv D A (wC cI α gw gc gs ge gf cR cL cB pB SD RK RN RS RC RT LK LN LS LL US UB BB)) args s 0 0 A) (F0 m 0 ls []) from hgo _ _ hP hD hS
  clear hP hD hS
  intro H locs hP hD hS
  refine lv_aload_n hx hb dX5_needRule_0 rfl (lv_at hl 0 rfl) ?_
  refine va_get (D := D) (ci := 6) (v := .ref (α 2)) (C := RX5) (T := TX5) (N := 6) hx hb hts hiX5 hown hK hP 0 rfl rfl 1 (by decide) fl23 (fun _ h9 => h9) rfl dX5_needRule_1 ?_
  refine lv_iload_n hx hb dX5_needRule_4 rfl (lv_at hl 1 rfl) ?_
  obtain ⟨q1, hq1, hf⟩ := bnd hf
  refine kI_callV (As := [.int x1]) (rest := []) S hP hD hS (c_X3_has l D cI α gw gc gs ge gf cR cL cB pB SD RK RN RS RC RT LK LN LS LL US UB BB x1 q1 hq1) (cwV 1 hts gX5_needRule_X3_has rfl rfl rfl (by decide +kernel) ⟨Nat.le_of_ble_eq_true rfl, Nat.le_of_ble_eq_true rfl⟩) 2 rfl rfl rfl hl.1 rfl (Nat.le_of_ble_eq_true rfl) dX5_needRule_5 ⟨Nat.zero_le _, Nat.zero_le _⟩ (fun H locs hP hD hS => ?_)
  have hP : va_P D vwCl (wC cI α gw gc gs ge gf cR cL cB pB SD RK RN RS RC RT LK LN LS LL US UB BB) H := hP
  have hD : va_D A (wC cI α gw gc gs ge gf cR cL cB pB SD RK RN RS RC RT LK LN LS LL US UB BB) := hD
  refine lv_if_ne (tgt := 21) hx hb dX5_needRule_8 (by decide) (fun c2 => ?_) (fun c2 => ?_)
  · have hf := it_t c2 hf
    have e9 := Option.some.inj hf
    subst e9
    exact kV_ret S hP hD hS dX5_needRule_21
  · have hf := it_f (fun h9 => h9 c2) hf
    cases hf
abbrev rm_X5_needCell : Room := { frames := 1, cells := 0, slots := 0, locals := 21 }
set_option maxHeartbeats 4000000 in
set_option maxRecDepth 100000 in
theorem c_X5_needCell (l : Launch) (D : va_G) (cI : ClassId) (α : Nat → Nat) (gw gc gs ge gf cR cL cB pB : Int32) (SD RK RN RS RC RT LK LN LS LL US UB BB : Nat → Int32) (x1 : Int32) (res : Unit) (hf : f_X5_needCell gc x1 = some res) : kV l yX5_needCell wsX5_needCell rm_X5_needCell D cI [.ref (α 0), .int x1] (wC cI α gw gc gs ge gf cR cL cB pB SD RK RN RS RC RT LK LN LS LL US UB BB) (wC cI α gw gc gs ge gf cR cL cB pB SD RK RN RS RC RT LK LN LS LL US UB BB) := by
  unfold f_X5_needCell at hf
  refine kV_of (cc := cX5_needCell) (maxL := 2) (ret := none) (by decide +kernel) rfl (Nat.le_of_ble_eq_true rfl) ?_
  intro p e s m args below meth c A ls S hP hD hS hl
  have S : kC p s m args meth c cX5_needCell 2 wsX5_needCell RX5 none D cI A := S
  have hx := S.1.1
  have hb := S.1.2.1
  have hml := S.1.2.2.1
  have hown : s.vm.findClass RX5 = some m.cls := S.1.2.2.2.1
  have hts := S.1.2.2.2.2
  have hK := S.2.2.2.1
  have hnk := S.2.2.2.2.1.2
  have hiX5 : ∀ w ∈ u_ws RX5 TX5 6, w ∈ wsX5_needCell := by decide +kernel
  have fl12 := hts (.fieldLink RX5 12 "ProofChecker" "grid" "LProofChecker$Grid;") (by decide +kernel)
  have hl : lv_has ls 2 [(0, .ref (α 0)), (1, .int x1)] := hl
  suffices hgo : ∀ (H : Heap) (locs : List Loc), va_P D vwCl (wC cI α gw gc gs ge gf cR cL cB pB SD RK RN RS RC RT LK LN LS LL US UB BB) H → va_D A (wC cI α gw gc gs ge gf cR cL cB pB SD RK RN RS RC RT LK LN LS LL US UB BB) → va_S A s.heap H locs → W p l e rm_X5_needCell s m args below meth c H locs 0 0 (MQ below (kQv D A (wC cI α gw gc gs ge gf cR cL cB pB SD RK RN RS RC RT LK LN LS LL US UB BB)) args s 0 0 A) (F0 m 0 ls []) from hgo _ _ hP hD hS
  clear hP hD hS
  intro H locs hP hD hS
  refine lv_aload_n hx hb dX5_needCell_0 rfl (lv_at hl 0 rfl) ?_
  refine va_get (D := D) (ci := 6) (v := .ref (α 1)) (C := RX5) (T := TX5) (N := 6) hx hb hts hiX5 hown hK hP 0 rfl rfl 0 (by decide) fl12 (fun _ h9 => h9) rfl dX5_needCell_1 ?_
  refine lv_iload_n hx hb dX5_needCell_4 rfl (lv_at hl 1 rfl) ?_
  obtain ⟨q1, hq1, hf⟩ := bnd hf
  refine kI_callV (As := [.int x1]) (rest := []) S hP hD hS (c_X0_hasCell l D cI α gw gc gs ge gf cR cL cB pB SD RK RN RS RC RT LK LN LS LL US UB BB x1 q1 hq1) (cwV 1 hts gX5_needCell_X0_hasCell rfl rfl rfl (by decide +kernel) ⟨Nat.le_of_ble_eq_true rfl, Nat.le_of_ble_eq_true rfl⟩) 1 rfl rfl rfl hl.1 rfl (Nat.le_of_ble_eq_true rfl) dX5_needCell_5 ⟨Nat.zero_le _, Nat.zero_le _⟩ (fun H locs hP hD hS => ?_)
  have hP : va_P D vwCl (wC cI α gw gc gs ge gf cR cL cB pB SD RK RN RS RC RT LK LN LS LL US UB BB) H := hP
  have hD : va_D A (wC cI α gw gc gs ge gf cR cL cB pB SD RK RN RS RC RT LK LN LS LL US UB BB) := hD
  refine lv_if_ne (tgt := 21) hx hb dX5_needCell_8 (by decide) (fun c2 => ?_) (fun c2 => ?_)
  · have hf := it_t c2 hf
    have e9 := Option.some.inj hf
    subst e9
    exact kV_ret S hP hD hS dX5_needCell_21
  · have hf := it_f (fun h9 => h9 c2) hf
    cases hf
abbrev rm_X5_into : Room := { frames := 2, cells := 0, slots := 0, locals := 46 }
set_option maxHeartbeats 4000000 in
set_option maxRecDepth 100000 in
theorem c_X5_into (l : Launch) (D : va_G) (cI : ClassId) (α : Nat → Nat) (gw gc gs ge gf cR cL cB pB : Int32) (SD RK RN RS RC RT LK LN LS LL US UB BB : Nat → Int32) (F : Nat) (x1 : Int32) (x2 : Int32) (res : Int32 × (Nat → Int32) × (Nat → Int32)) (hf : f_X5_into gc cR F RS RC x1 x2 = some res) : kI l yX5_into wsX5_into rm_X5_into D cI [.ref (α 0), .int x1, .int x2] (wC cI α gw gc gs ge gf cR cL cB pB SD RK RN RS RC RT LK LN LS LL US UB BB) (wC cI α gw gc gs ge gf cR cL cB pB SD RK RN res.2.1 res.2.2 RT LK LN LS LL US UB BB) res.1 := by
  unfold f_X5_into at hf
  refine kI_of (cc := cX5_into) (maxL := 3) (ret := (some .boolean)) (by decide +kernel) rfl (Nat.le_of_ble_eq_true rfl) ?_
  intro p e s m args below meth c A ls S hP hD hS hl
  have S : kC p s m args meth c cX5_into 3 wsX5_into RX5 (some .boolean) D cI A := S
  have hx := S.1.1
  have hb := S.1.2.1
  have hml := S.1.2.2.1
  have hown : s.vm.findClass RX5 = some m.cls := S.1.2.2.2.1
  have hts := S.1.2.2.2.2
  have hK := S.2.2.2.1
  have hnk := S.2.2.2.2.1.2
  have hiX5 : ∀ w ∈ u_ws RX5 TX5 6, w ∈ wsX5_into := by decide +kernel
  have fl23 := hts (.fieldLink RX5 23 "ProofChecker" "rules" "LProofChecker$Rules;") (by decide +kernel)
  have hl : lv_has ls 3 [(0, .ref (α 0)), (1, .int x1), (2, .int x2)] := hl
  suffices hgo : ∀ (H : Heap) (locs : List Loc), va_P D vwCl (wC cI α gw gc gs ge gf cR cL cB pB SD RK RN RS RC RT LK LN LS LL US UB BB) H → va_D A (wC cI α gw gc gs ge gf cR cL cB pB SD RK RN RS RC RT LK LN LS LL US UB BB) → va_S A s.heap H locs → W p l e rm_X5_into s m args below meth c H locs 0 0 (MQ below (kQi D A (wC cI α gw gc gs ge gf cR cL cB pB SD RK RN res.2.1 res.2.2 RT LK LN LS LL US UB BB) res.1) args s 0 0 A) (F0 m 0 ls []) from hgo _ _ hP hD hS
  clear hP hD hS
  intro H locs hP hD hS
  refine lv_aload_n hx hb dX5_into_0 rfl (lv_at hl 0 rfl) ?_
  refine lv_iload_n hx hb dX5_into_1 rfl (lv_at hl 1 rfl) ?_
  obtain ⟨q1, hq1, hf⟩ := bnd hf
  refine kV_callV (As := [.int x1]) (rest := []) S hP hD hS (c_X5_needRule l D cI α gw gc gs ge gf cR cL cB pB SD RK RN RS RC RT LK LN LS LL US UB BB x1 q1 hq1) (cwV 1 hts gX5_into_X5_needRule rfl rfl rfl (by decide +kernel) ⟨Nat.le_of_ble_eq_true rfl, Nat.le_of_ble_eq_true rfl⟩) 0 rfl rfl rfl hl.1 rfl (Nat.le_of_ble_eq_true rfl) dX5_into_2 ⟨Nat.zero_le _, Nat.zero_le _⟩ (fun H locs hP hD hS => ?_)
  have hP : va_P D vwCl (wC cI α gw gc gs ge gf cR cL cB pB SD RK RN RS RC RT LK LN LS LL US UB BB) H := hP
  have hD : va_D A (wC cI α gw gc gs ge gf cR cL cB pB SD RK RN RS RC RT LK LN LS LL US UB BB) := hD
  refine lv_aload_n hx hb dX5_into_5 rfl (lv_at hl 0 rfl) ?_
  refine lv_iload_n hx hb dX5_into_6 rfl (lv_at hl 2 rfl) ?_
  obtain ⟨q2, hq2, hf⟩ := bnd hf
  refine kV_callV (As := [.int x2]) (rest := []) S hP hD hS (c_X5_needCell l D cI α gw gc gs ge gf cR cL cB pB SD RK RN RS RC RT LK LN LS LL US UB BB x2 q2 hq2) (cwV 1 hts gX5_into_X5_needCell rfl rfl rfl (by decide +kernel) ⟨Nat.le_of_ble_eq_true rfl, Nat.le_of_ble_eq_true rfl⟩) 0 rfl rfl rfl hl.1 rfl (Nat.le_of_ble_eq_true rfl) dX5_into_7 ⟨Nat.zero_le _, Nat.zero_le _⟩ (fun H locs hP hD hS => ?_)
  have hP : va_P D vwCl (wC cI α gw gc gs ge gf cR cL cB pB SD RK RN RS RC RT LK LN LS LL US UB BB) H := hP
  have hD : va_D A (wC cI α gw gc gs ge gf cR cL cB pB SD RK RN RS RC RT LK LN LS LL US UB BB) := hD
  refine lv_aload_n hx hb dX5_into_10 rfl (lv_at hl 0 rfl) ?_
  refine va_get (D := D) (ci := 6) (v := .ref (α 2)) (C := RX5) (T := TX5) (N := 6) hx hb hts hiX5 hown hK hP 0 rfl rfl 1 (by decide) fl23 (fun _ h9 => h9) rfl dX5_into_11 ?_
  refine lv_iload_n hx hb dX5_into_14 rfl (lv_at hl 1 rfl) ?_
  refine lv_iload_n hx hb dX5_into_15 rfl (lv_at hl 2 rfl) ?_
  obtain ⟨q3, hq3, hf⟩ := bnd hf
  refine kI_callV (As := [.int x1, .int x2]) (rest := []) S hP hD hS (c_X3_addCell l D cI α gw gc gs ge gf cR cL cB pB SD RK RN RS RC RT LK LN LS LL US UB BB F x1 x2 q3 hq3) (cwV 2 hts gX5_into_X3_addCell rfl rfl rfl (by decide +kernel) ⟨Nat.le_of_ble_eq_true rfl, Nat.le_of_ble_eq_true rfl⟩) 2 rfl rfl rfl hl.1 rfl (Nat.le_of_ble_eq_true rfl) dX5_into_16 ⟨Nat.zero_le _, Nat.zero_le _⟩ (fun H locs hP hD hS => ?_)
  have hP : va_P D vwCl (wC cI α gw gc gs ge gf cR cL cB pB SD RK RN q3.2.1 q3.2.2 RT LK LN LS LL US UB BB) H := hP
  have hD : va_D A (wC cI α gw gc gs ge gf cR cL cB pB SD RK RN q3.2.1 q3.2.2 RT LK LN LS LL US UB BB) := hD
  obtain ⟨g4, hf⟩ := gbl_some hf
  have e9 := Option.some.inj hf
  subst e9
  exact kI_ret S (nar_b g4) hP hD hS dX5_into_19
abbrev rm_X5_needSymbol : Room := { frames := 1, cells := 0, slots := 0, locals := 21 }
set_option maxHeartbeats 4000000 in
set_option maxRecDepth 100000 in
theorem c_X5_needSymbol (l : Launch) (D : va_G) (cI : ClassId) (α : Nat → Nat) (gw gc gs ge gf cR cL cB pB : Int32) (SD RK RN RS RC RT LK LN LS LL US UB BB : Nat → Int32) (x1 : Int32) (res : Unit) (hf : f_X5_needSymbol gs x1 = some res) : kV l yX5_needSymbol wsX5_needSymbol rm_X5_needSymbol D cI [.ref (α 0), .int x1] (wC cI α gw gc gs ge gf cR cL cB pB SD RK RN RS RC RT LK LN LS LL US UB BB) (wC cI α gw gc gs ge gf cR cL cB pB SD RK RN RS RC RT LK LN LS LL US UB BB) := by
  unfold f_X5_needSymbol at hf
  refine kV_of (cc := cX5_needSymbol) (maxL := 2) (ret := none) (by decide +kernel) rfl (Nat.le_of_ble_eq_true rfl) ?_
  intro p e s m args below meth c A ls S hP hD hS hl
  have S : kC p s m args meth c cX5_needSymbol 2 wsX5_needSymbol RX5 none D cI A := S
  have hx := S.1.1
  have hb := S.1.2.1
  have hml := S.1.2.2.1
  have hown : s.vm.findClass RX5 = some m.cls := S.1.2.2.2.1
  have hts := S.1.2.2.2.2
  have hK := S.2.2.2.1
  have hnk := S.2.2.2.2.1.2
  have hiX5 : ∀ w ∈ u_ws RX5 TX5 6, w ∈ wsX5_needSymbol := by decide +kernel
  have fl12 := hts (.fieldLink RX5 12 "ProofChecker" "grid" "LProofChecker$Grid;") (by decide +kernel)
  have hl : lv_has ls 2 [(0, .ref (α 0)), (1, .int x1)] := hl
  suffices hgo : ∀ (H : Heap) (locs : List Loc), va_P D vwCl (wC cI α gw gc gs ge gf cR cL cB pB SD RK RN RS RC RT LK LN LS LL US UB BB) H → va_D A (wC cI α gw gc gs ge gf cR cL cB pB SD RK RN RS RC RT LK LN LS LL US UB BB) → va_S A s.heap H locs → W p l e rm_X5_needSymbol s m args below meth c H locs 0 0 (MQ below (kQv D A (wC cI α gw gc gs ge gf cR cL cB pB SD RK RN RS RC RT LK LN LS LL US UB BB)) args s 0 0 A) (F0 m 0 ls []) from hgo _ _ hP hD hS
  clear hP hD hS
  intro H locs hP hD hS
  refine lv_aload_n hx hb dX5_needSymbol_0 rfl (lv_at hl 0 rfl) ?_
  refine va_get (D := D) (ci := 6) (v := .ref (α 1)) (C := RX5) (T := TX5) (N := 6) hx hb hts hiX5 hown hK hP 0 rfl rfl 0 (by decide) fl12 (fun _ h9 => h9) rfl dX5_needSymbol_1 ?_
  refine lv_iload_n hx hb dX5_needSymbol_4 rfl (lv_at hl 1 rfl) ?_
  obtain ⟨q1, hq1, hf⟩ := bnd hf
  refine kI_callV (As := [.int x1]) (rest := []) S hP hD hS (c_X0_hasSymbol l D cI α gw gc gs ge gf cR cL cB pB SD RK RN RS RC RT LK LN LS LL US UB BB x1 q1 hq1) (cwV 1 hts gX5_needSymbol_X0_hasSymbol rfl rfl rfl (by decide +kernel) ⟨Nat.le_of_ble_eq_true rfl, Nat.le_of_ble_eq_true rfl⟩) 1 rfl rfl rfl hl.1 rfl (Nat.le_of_ble_eq_true rfl) dX5_needSymbol_5 ⟨Nat.zero_le _, Nat.zero_le _⟩ (fun H locs hP hD hS => ?_)
  have hP : va_P D vwCl (wC cI α gw gc gs ge gf cR cL cB pB SD RK RN RS RC RT LK LN LS LL US UB BB) H := hP
  have hD : va_D A (wC cI α gw gc gs ge gf cR cL cB pB SD RK RN RS RC RT LK LN LS LL US UB BB) := hD
  refine lv_if_ne (tgt := 21) hx hb dX5_needSymbol_8 (by decide) (fun c2 => ?_) (fun c2 => ?_)
  · have hf := it_t c2 hf
    have e9 := Option.some.inj hf
    subst e9
    exact kV_ret S hP hD hS dX5_needSymbol_21
  · have hf := it_f (fun h9 => h9 c2) hf
    cases hf
abbrev rm_X5_answer : Room := { frames := 2, cells := 0, slots := 0, locals := 42 }
set_option maxHeartbeats 4000000 in
set_option maxRecDepth 100000 in
theorem c_X5_answer (l : Launch) (D : va_G) (cI : ClassId) (α : Nat → Nat) (gw gc gs ge gf cR cL cB pB : Int32) (SD RK RN RS RC RT LK LN LS LL US UB BB : Nat → Int32) (x1 : Int32) (x2 : Int32) (res : Int32 × (Nat → Int32)) (hf : f_X5_answer gc gs SD x1 x2 = some res) : kI l yX5_answer wsX5_answer rm_X5_answer D cI [.ref (α 0), .int x1, .int x2] (wC cI α gw gc gs ge gf cR cL cB pB SD RK RN RS RC RT LK LN LS LL US UB BB) (wC cI α gw gc gs ge gf cR cL cB pB res.2 RK RN RS RC RT LK LN LS LL US UB BB) res.1 := by
  unfold f_X5_answer at hf
  refine kI_of (cc := cX5_answer) (maxL := 3) (ret := (some .boolean)) (by decide +kernel) rfl (Nat.le_of_ble_eq_true rfl) ?_
  intro p e s m args below meth c A ls S hP hD hS hl
  have S : kC p s m args meth c cX5_answer 3 wsX5_answer RX5 (some .boolean) D cI A := S
  have hx := S.1.1
  have hb := S.1.2.1
  have hml := S.1.2.2.1
  have hown : s.vm.findClass RX5 = some m.cls := S.1.2.2.2.1
  have hts := S.1.2.2.2.2
  have hK := S.2.2.2.1
  have hnk := S.2.2.2.2.1.2
  have hiX5 : ∀ w ∈ u_ws RX5 TX5 6, w ∈ wsX5_answer := by decide +kernel
  have fl50 := hts (.fieldLink RX5 50 "ProofChecker" "said" "[I") (by decide +kernel)
  have hl : lv_has ls 3 [(0, .ref (α 0)), (1, .int x1), (2, .int x2)] := hl
  have w15 : ∀ (x1 : Int32) (x2 : Int32) (SD : Nat → Int32) (H : Heap) (locs : List Loc) (ls : Array Slot), f_X5_answer_J15 gc gs x1 x2 SD = some res → va_P D vwCl (wC cI α gw gc gs ge gf cR cL cB pB SD RK RN RS RC RT LK LN LS LL US UB BB) H → va_D A (wC cI α gw gc gs ge gf cR cL cB pB SD RK RN RS RC RT LK LN LS LL US UB BB) → va_S A s.heap H locs → lv_has ls 3 [(0, .ref (α 0)), (1, .int x1), (2, .int x2)] → W p l e rm_X5_answer s m args below meth c H locs 0 0 (MQ below (kQi D A (wC cI α gw gc gs ge gf cR cL cB pB res.2 RK RN RS RC RT LK LN LS LL US UB BB) res.1) args s 0 0 A) (F0 m 15 ls []) := by
    intro x1 x2 SD H locs ls hf hP hD hS hl
    unfold f_X5_answer_J15 at hf
    refine lv_aload_n hx hb dX5_answer_15 rfl (lv_at hl 0 rfl) ?_
    refine va_get (D := D) (ci := 6) (v := .ref (α 6)) (C := RX5) (T := TX5) (N := 6) hx hb hts hiX5 hown hK hP 0 rfl rfl 5 (by decide) fl50 (fun _ h9 => h9) rfl dX5_answer_16 ?_
    refine lv_iload_n hx hb dX5_answer_19 rfl (lv_at hl 1 rfl) ?_
    obtain ⟨g4, hf⟩ := gin_some hf
    refine va_iald hx hb hK hP 6 0 rfl rfl g4 dX5_answer_20 ?_
    refine lv_iload_n hx hb dX5_answer_21 rfl (lv_at hl 2 rfl) ?_
    refine lv_icmp_ne (tgt := 27) hx hb dX5_answer_22 (by decide) (fun c5 => ?_) (fun c5 => ?_)
    · have hf := it_t c5 hf
      refine lv_aload_n hx hb dX5_answer_27 rfl (lv_at hl 0 rfl) ?_
      refine va_get (D := D) (ci := 6) (v := .ref (α 6)) (C := RX5) (T := TX5) (N := 6) hx hb hts hiX5 hown hK hP 0 rfl rfl 5 (by decide) fl50 (fun _ h9 => h9) rfl dX5_answer_28 ?_
      refine lv_iload_n hx hb dX5_answer_31 rfl (lv_at hl 1 rfl) ?_
      refine lv_iload_n hx hb dX5_answer_32 rfl (lv_at hl 2 rfl) ?_
      obtain ⟨g6, hf⟩ := gin_some hf
      refine va_iast hx hb hK hP hD hS 6 0 rfl rfl g6 dX5_answer_33 (fun H locs hP hD hS => ?_)
      have hP : va_P D vwCl (wC cI α gw gc gs ge gf cR cL cB pB (upd SD x1.toNatClampNeg x2) RK RN RS RC RT LK LN LS LL US UB BB) H := hP
      have hD : va_D A (wC cI α gw gc gs ge gf cR cL cB pB (upd SD x1.toNatClampNeg x2) RK RN RS RC RT LK LN LS LL US UB BB) := hD
      refine lv_iconst (v := (1 : Int32)) hx hb dX5_answer_34 (by decide) ?_
      have e9 := Option.some.inj hf
      subst e9
      exact kI_ret S narrow_b1 hP hD hS dX5_answer_35
    · have hf := it_f (fun h9 => h9 c5) hf
      refine lv_iconst (v := (0 : Int32)) hx hb dX5_answer_25 (by decide) ?_
      have e9 := Option.some.inj hf
      subst e9
      exact kI_ret S narrow_b0 hP hD hS dX5_answer_26
  suffices hgo : ∀ (H : Heap) (locs : List Loc), va_P D vwCl (wC cI α gw gc gs ge gf cR cL cB pB SD RK RN RS RC RT LK LN LS LL US UB BB) H → va_D A (wC cI α gw gc gs ge gf cR cL cB pB SD RK RN RS RC RT LK LN LS LL US UB BB) → va_S A s.heap H locs → W p l e rm_X5_answer s m args below meth c H locs 0 0 (MQ below (kQi D A (wC cI α gw gc gs ge gf cR cL cB pB res.2 RK RN RS RC RT LK LN LS LL US UB BB) res.1) args s 0 0 A) (F0 m 0 ls []) from hgo _ _ hP hD hS
  clear hP hD hS
  intro H locs hP hD hS
  refine lv_aload_n hx hb dX5_answer_0 rfl (lv_at hl 0 rfl) ?_
  refine lv_iload_n hx hb dX5_answer_1 rfl (lv_at hl 1 rfl) ?_
  obtain ⟨q1, hq1, hf⟩ := bnd hf
  refine kV_callV (As := [.int x1]) (rest := []) S hP hD hS (c_X5_needCell l D cI α gw gc gs ge gf cR cL cB pB SD RK RN RS RC RT LK LN LS LL US UB BB x1 q1 hq1) (cwV 1 hts gX5_answer_X5_needCell rfl rfl rfl (by decide +kernel) ⟨Nat.le_of_ble_eq_true rfl, Nat.le_of_ble_eq_true rfl⟩) 0 rfl rfl rfl hl.1 rfl (Nat.le_of_ble_eq_true rfl) dX5_answer_2 ⟨Nat.zero_le _, Nat.zero_le _⟩ (fun H locs hP hD hS => ?_)
  have hP : va_P D vwCl (wC cI α gw gc gs ge gf cR cL cB pB SD RK RN RS RC RT LK LN LS LL US UB BB) H := hP
  have hD : va_D A (wC cI α gw gc gs ge gf cR cL cB pB SD RK RN RS RC RT LK LN LS LL US UB BB) := hD
  refine lv_iload_n hx hb dX5_answer_5 rfl (lv_at hl 2 rfl) ?_
  refine lv_iconst (v := (-1 : Int32)) hx hb dX5_answer_6 (by decide) ?_
  refine lv_icmp_eq (tgt := 15) hx hb dX5_answer_7 (by decide) (fun c2 => ?_) (fun c2 => ?_)
  · have hf := it_t c2 hf
    exact w15 _ _ _ H locs ls hf hP hD hS (lv_sub hl [0, 1, 2] rfl)
  · have hf := it_f c2 hf
    refine lv_aload_n hx hb dX5_answer_10 rfl (lv_at hl 0 rfl) ?_
    refine lv_iload_n hx hb dX5_answer_11 rfl (lv_at hl 2 rfl) ?_
    obtain ⟨q3, hq3, hf⟩ := bnd hf
    refine kV_callV (As := [.int x2]) (rest := []) S hP hD hS (c_X5_needSymbol l D cI α gw gc gs ge gf cR cL cB pB SD RK RN RS RC RT LK LN LS LL US UB BB x2 q3 hq3) (cwV 1 hts gX5_answer_X5_needSymbol rfl rfl rfl (by decide +kernel) ⟨Nat.le_of_ble_eq_true rfl, Nat.le_of_ble_eq_true rfl⟩) 0 rfl rfl rfl hl.1 rfl (Nat.le_of_ble_eq_true rfl) dX5_answer_12 ⟨Nat.zero_le _, Nat.zero_le _⟩ (fun H locs hP hD hS => ?_)
    have hP : va_P D vwCl (wC cI α gw gc gs ge gf cR cL cB pB SD RK RN RS RC RT LK LN LS LL US UB BB) H := hP
    have hD : va_D A (wC cI α gw gc gs ge gf cR cL cB pB SD RK RN RS RC RT LK LN LS LL US UB BB) := hD
    exact w15 _ _ _ H locs ls hf hP hD hS (lv_sub hl [0, 1, 2] rfl)
abbrev rm_X5_test : Room := { frames := 3, cells := 0, slots := 0, locals := 69 }
set_option maxHeartbeats 4000000 in
set_option maxRecDepth 100000 in
theorem c_X5_test (l : Launch) (D : va_G) (cI : ClassId) (α : Nat → Nat) (gw gc gs ge gf cR cL cB pB : Int32) (SD RK RN RS RC RT LK LN LS LL US UB BB : Nat → Int32) (F : Nat) (x1 : Int32) (res : Int32) (hf : f_X5_test gw gc ge gf cR SD RK RN RS RC F x1 = some res) : kI l yX5_test wsX5_test rm_X5_test D cI [.ref (α 0), .int x1] (wC cI α gw gc gs ge gf cR cL cB pB SD RK RN RS RC RT LK LN LS LL US UB BB) (wC cI α gw gc gs ge gf cR cL cB pB SD RK RN RS RC RT LK LN LS LL US UB BB) res := by
  unfold f_X5_test at hf
  refine kI_of (cc := cX5_test) (maxL := 2) (ret := (some .int)) (by decide +kernel) rfl (Nat.le_of_ble_eq_true rfl) ?_
  intro p e s m args below meth c A ls S hP hD hS hl
  have S : kC p s m args meth c cX5_test 2 wsX5_test RX5 (some .int) D cI A := S
  have hx := S.1.1
  have hb := S.1.2.1
  have hml := S.1.2.2.1
  have hown : s.vm.findClass RX5 = some m.cls := S.1.2.2.2.1
  have hts := S.1.2.2.2.2
  have hK := S.2.2.2.1
  have hnk := S.2.2.2.2.1.2
  have hiX5 : ∀ w ∈ u_ws RX5 TX5 6, w ∈ wsX5_test := by decide +kernel
  have fl23 := hts (.fieldLink RX5 23 "ProofChecker" "rules" "LProofChecker$Rules;") (by decide +kernel)
  have fl50 := hts (.fieldLink RX5 50 "ProofChecker" "said" "[I") (by decide +kernel)
  have hl : lv_has ls 2 [(0, .ref (α 0)), (1, .int x1)] := hl
  suffices hgo : ∀ (H : Heap) (locs : List Loc), va_P D vwCl (wC cI α gw gc gs ge gf cR cL cB pB SD RK RN RS RC RT LK LN LS LL US UB BB) H → va_D A (wC cI α gw gc gs ge gf cR cL cB pB SD RK RN RS RC RT LK LN LS LL US UB BB) → va_S A s.heap H locs → W p l e rm_X5_test s m args below meth c H locs 0 0 (MQ below (kQi D A (wC cI α gw gc gs ge gf cR cL cB pB SD RK RN RS RC RT LK LN LS LL US UB BB) res) args s 0 0 A) (F0 m 0 ls []) from hgo _ _ hP hD hS
  clear hP hD hS
  intro H locs hP hD hS
  refine lv_aload_n hx hb dX5_test_0 rfl (lv_at hl 0 rfl) ?_
  refine lv_iload_n hx hb dX5_test_1 rfl (lv_at hl 1 rfl) ?_
  obtain ⟨q1, hq1, hf⟩ := bnd hf
  refine kV_callV (As := [.int x1]) (rest := []) S hP hD hS (c_X5_needRule l D cI α gw gc gs ge gf cR cL cB pB SD RK RN RS RC RT LK LN LS LL US UB BB x1 q1 hq1) (cwV 1 hts gX5_test_X5_needRule rfl rfl rfl (by decide +kernel) ⟨Nat.le_of_ble_eq_true rfl, Nat.le_of_ble_eq_true rfl⟩) 0 rfl rfl rfl hl.1 rfl (Nat.le_of_ble_eq_true rfl) dX5_test_2 ⟨Nat.zero_le _, Nat.zero_le _⟩ (fun H locs hP hD hS => ?_)
  have hP : va_P D vwCl (wC cI α gw gc gs ge gf cR cL cB pB SD RK RN RS RC RT LK LN LS LL US UB BB) H := hP
  have hD : va_D A (wC cI α gw gc gs ge gf cR cL cB pB SD RK RN RS RC RT LK LN LS LL US UB BB) := hD
  refine lv_aload_n hx hb dX5_test_5 rfl (lv_at hl 0 rfl) ?_
  refine va_get (D := D) (ci := 6) (v := .ref (α 2)) (C := RX5) (T := TX5) (N := 6) hx hb hts hiX5 hown hK hP 0 rfl rfl 1 (by decide) fl23 (fun _ h9 => h9) rfl dX5_test_6 ?_
  refine lv_iload_n hx hb dX5_test_9 rfl (lv_at hl 1 rfl) ?_
  refine lv_aload_n hx hb dX5_test_10 rfl (lv_at hl 0 rfl) ?_
  refine va_get (D := D) (ci := 6) (v := .ref (α 6)) (C := RX5) (T := TX5) (N := 6) hx hb hts hiX5 hown hK hP 0 rfl rfl 5 (by decide) fl50 (fun _ h9 => h9) rfl dX5_test_11 ?_
  obtain ⟨q2, hq2, hf⟩ := bnd hf
  refine kI_callV (As := [.int x1, .ref (α 6)]) (rest := []) S hP hD hS (c_X3_allSaid l D cI α gw gc gs ge gf cR cL cB pB SD RK RN RS RC RT LK LN LS LL US UB BB (α 6) 6 SD rfl F x1 q2 hq2) (cwV 2 hts gX5_test_X3_allSaid rfl rfl rfl (by decide +kernel) ⟨Nat.le_of_ble_eq_true rfl, Nat.le_of_ble_eq_true rfl⟩) 2 rfl rfl rfl hl.1 rfl (Nat.le_of_ble_eq_true rfl) dX5_test_14 ⟨Nat.zero_le _, Nat.zero_le _⟩ (fun H locs hP hD hS => ?_)
  have hP : va_P D vwCl (wC cI α gw gc gs ge gf cR cL cB pB SD RK RN RS RC RT LK LN LS LL US UB BB) H := hP
  have hD : va_D A (wC cI α gw gc gs ge gf cR cL cB pB SD RK RN RS RC RT LK LN LS LL US UB BB) := hD
  refine lv_if_ne (tgt := 22) hx hb dX5_test_17 (by decide) (fun c3 => ?_) (fun c3 => ?_)
  · have hf := it_t c3 hf
    refine lv_aload_n hx hb dX5_test_22 rfl (lv_at hl 0 rfl) ?_
    refine va_get (D := D) (ci := 6) (v := .ref (α 2)) (C := RX5) (T := TX5) (N := 6) hx hb hts hiX5 hown hK hP 0 rfl rfl 1 (by decide) fl23 (fun _ h9 => h9) rfl dX5_test_23 ?_
    refine lv_iload_n hx hb dX5_test_26 rfl (lv_at hl 1 rfl) ?_
    refine lv_aload_n hx hb dX5_test_27 rfl (lv_at hl 0 rfl) ?_
    refine va_get (D := D) (ci := 6) (v := .ref (α 6)) (C := RX5) (T := TX5) (N := 6) hx hb hts hiX5 hown hK hP 0 rfl rfl 5 (by decide) fl50 (fun _ h9 => h9) rfl dX5_test_28 ?_
    obtain ⟨q4, hq4, hf⟩ := bnd hf
    refine kI_callV (As := [.int x1, .ref (α 6)]) (rest := []) S hP hD hS (c_X3_meets l D cI α gw gc gs ge gf cR cL cB pB SD RK RN RS RC RT LK LN LS LL US UB BB (α 6) 6 SD rfl F x1 q4 hq4) (cwV 2 hts gX5_test_X3_meets rfl rfl rfl (by decide +kernel) ⟨Nat.le_of_ble_eq_true rfl, Nat.le_of_ble_eq_true rfl⟩) 2 rfl rfl rfl hl.1 rfl (Nat.le_of_ble_eq_true rfl) dX5_test_31 ⟨Nat.zero_le _, Nat.zero_le _⟩ (fun H locs hP hD hS => ?_)
    have hP : va_P D vwCl (wC cI α gw gc gs ge gf cR cL cB pB SD RK RN RS RC RT LK LN LS LL US UB BB) H := hP
    have hD : va_D A (wC cI α gw gc gs ge gf cR cL cB pB SD RK RN RS RC RT LK LN LS LL US UB BB) := hD
    refine lv_if_eq (tgt := 41) hx hb dX5_test_34 (by decide) (fun c5 => ?_) (fun c5 => ?_)
    · have hf := it_t c5 hf
      refine lv_iconst (v := (0 : Int32)) hx hb dX5_test_41 (by decide) ?_
      have e9 := Option.some.inj hf
      subst e9
      exact kI_ret S rfl hP hD hS dX5_test_42
    · have hf := it_f c5 hf
      refine lv_iconst (v := (1 : Int32)) hx hb dX5_test_37 (by decide) ?_
      refine lv_goto (tgt := 42) hx hb dX5_test_38 (by decide) ?_
      have e9 := Option.some.inj hf
      subst e9
      exact kI_ret S rfl hP hD hS dX5_test_42
  · have hf := it_f (fun h9 => h9 c3) hf
    refine lv_iconst (v := (-1 : Int32)) hx hb dX5_test_20 (by decide) ?_
    have e9 := Option.some.inj hf
    subst e9
    exact kI_ret S rfl hP hD hS dX5_test_21
abbrev rm_X5_fails : Room := { frames := 3, cells := 0, slots := 0, locals := 69 }
set_option maxHeartbeats 4000000 in
set_option maxRecDepth 100000 in
theorem c_X5_fails (l : Launch) (D : va_G) (cI : ClassId) (α : Nat → Nat) (gw gc gs ge gf cR cL cB pB : Int32) (SD RK RN RS RC RT LK LN LS LL US UB BB : Nat → Int32) (F : Nat)  (res : Int32) (hf : f_X5_fails gw gc ge gf cR SD RK RN RS RC F = some res) : kI l yX5_fails wsX5_fails rm_X5_fails D cI [.ref (α 0)] (wC cI α gw gc gs ge gf cR cL cB pB SD RK RN RS RC RT LK LN LS LL US UB BB) (wC cI α gw gc gs ge gf cR cL cB pB SD RK RN RS RC RT LK LN LS LL US UB BB) res := by
  unfold f_X5_fails at hf
  refine kI_of (cc := cX5_fails) (maxL := 2) (ret := (some .int)) (by decide +kernel) rfl (Nat.le_of_ble_eq_true rfl) ?_
  intro p e s m args below meth c A ls S hP hD hS hl
  have S : kC p s m args meth c cX5_fails 2 wsX5_fails RX5 (some .int) D cI A := S
  have hx := S.1.1
  have hb := S.1.2.1
  have hml := S.1.2.2.1
  have hown : s.vm.findClass RX5 = some m.cls := S.1.2.2.2.1
  have hts := S.1.2.2.2.2
  have hK := S.2.2.2.1
  have hnk := S.2.2.2.2.1.2
  have hiX5 : ∀ w ∈ u_ws RX5 TX5 6, w ∈ wsX5_fails := by decide +kernel
  have fl23 := hts (.fieldLink RX5 23 "ProofChecker" "rules" "LProofChecker$Rules;") (by decide +kernel)
  have fl50 := hts (.fieldLink RX5 50 "ProofChecker" "said" "[I") (by decide +kernel)
  have hl : lv_has ls 2 [(0, .ref (α 0))] := hl
  have w2 : ∀ (n : Nat), ∀ (x1 : Int32) (H : Heap) (locs : List Loc) (ls : Array Slot), f_X5_fails_L2 gw gc ge gf cR SD RK RN RS RC F n x1 = some res → va_P D vwCl (wC cI α gw gc gs ge gf cR cL cB pB SD RK RN RS RC RT LK LN LS LL US UB BB) H → va_D A (wC cI α gw gc gs ge gf cR cL cB pB SD RK RN RS RC RT LK LN LS LL US UB BB) → va_S A s.heap H locs → lv_has ls 2 [(0, .ref (α 0)), (1, .int x1)] → W p l e rm_X5_fails s m args below meth c H locs 0 0 (MQ below (kQi D A (wC cI α gw gc gs ge gf cR cL cB pB SD RK RN RS RC RT LK LN LS LL US UB BB) res) args s 0 0 A) (F0 m 2 ls []) := by
    intro n
    induction n with
    | zero => intro x1 H locs ls hf; cases hf
    | succ n ih =>
      intro x1 H locs ls hf hP hD hS hl
      rw [f_X5_fails_L2.eq_2] at hf
      refine lv_iload_n hx hb dX5_fails_2 rfl (lv_at hl 1 rfl) ?_
      refine lv_aload_n hx hb dX5_fails_3 rfl (lv_at hl 0 rfl) ?_
      refine va_get (D := D) (ci := 6) (v := .ref (α 2)) (C := RX5) (T := TX5) (N := 6) hx hb hts hiX5 hown hK hP 0 rfl rfl 1 (by decide) fl23 (fun _ h9 => h9) rfl dX5_fails_4 ?_
      obtain ⟨q1, hq1, hf⟩ := bnd hf
      refine kI_callV (As := []) (rest := [.int x1]) S hP hD hS (c_X3_count l D cI α gw gc gs ge gf cR cL cB pB SD RK RN RS RC RT LK LN LS LL US UB BB q1 hq1) (cwV 0 hts gX5_fails_X3_count rfl rfl rfl (by decide +kernel) ⟨Nat.le_of_ble_eq_true rfl, Nat.le_of_ble_eq_true rfl⟩) 2 rfl rfl rfl hl.1 rfl (Nat.le_of_ble_eq_true rfl) dX5_fails_7 ⟨Nat.zero_le _, Nat.zero_le _⟩ (fun H locs hP hD hS => ?_)
      have hP : va_P D vwCl (wC cI α gw gc gs ge gf cR cL cB pB SD RK RN RS RC RT LK LN LS LL US UB BB) H := hP
      have hD : va_D A (wC cI α gw gc gs ge gf cR cL cB pB SD RK RN RS RC RT LK LN LS LL US UB BB) := hD
      refine lv_icmp_ge (tgt := 51) hx hb dX5_fails_10 (by decide) (fun c2 => ?_) (fun c2 => ?_)
      · have hf := it_t c2 hf
        refine lv_iconst (v := (-1 : Int32)) hx hb dX5_fails_51 (by decide) ?_
        have e9 := Option.some.inj hf
        subst e9
        exact kI_ret S rfl hP hD hS dX5_fails_52
      · have hf := it_f c2 hf
        refine lv_aload_n hx hb dX5_fails_13 rfl (lv_at hl 0 rfl) ?_
        refine va_get (D := D) (ci := 6) (v := .ref (α 2)) (C := RX5) (T := TX5) (N := 6) hx hb hts hiX5 hown hK hP 0 rfl rfl 1 (by decide) fl23 (fun _ h9 => h9) rfl dX5_fails_14 ?_
        refine lv_iload_n hx hb dX5_fails_17 rfl (lv_at hl 1 rfl) ?_
        refine lv_aload_n hx hb dX5_fails_18 rfl (lv_at hl 0 rfl) ?_
        refine va_get (D := D) (ci := 6) (v := .ref (α 6)) (C := RX5) (T := TX5) (N := 6) hx hb hts hiX5 hown hK hP 0 rfl rfl 5 (by decide) fl50 (fun _ h9 => h9) rfl dX5_fails_19 ?_
        obtain ⟨q3, hq3, hf⟩ := bnd hf
        refine kI_callV (As := [.int x1, .ref (α 6)]) (rest := []) S hP hD hS (c_X3_allSaid l D cI α gw gc gs ge gf cR cL cB pB SD RK RN RS RC RT LK LN LS LL US UB BB (α 6) 6 SD rfl F x1 q3 hq3) (cwV 2 hts gX5_fails_X3_allSaid rfl rfl rfl (by decide +kernel) ⟨Nat.le_of_ble_eq_true rfl, Nat.le_of_ble_eq_true rfl⟩) 2 rfl rfl rfl hl.1 rfl (Nat.le_of_ble_eq_true rfl) dX5_fails_22 ⟨Nat.zero_le _, Nat.zero_le _⟩ (fun H locs hP hD hS => ?_)
        have hP : va_P D vwCl (wC cI α gw gc gs ge gf cR cL cB pB SD RK RN RS RC RT LK LN LS LL US UB BB) H := hP
        have hD : va_D A (wC cI α gw gc gs ge gf cR cL cB pB SD RK RN RS RC RT LK LN LS LL US UB BB) := hD
        refine lv_if_eq (tgt := 43) hx hb dX5_fails_25 (by decide) (fun c4 => ?_) (fun c4 => ?_)
        · have hf := it_t c4 hf
          refine lv_iload_n hx hb dX5_fails_43 rfl (lv_at hl 1 rfl) ?_
          have e9 := Option.some.inj hf
          subst e9
          exact kI_ret S rfl hP hD hS dX5_fails_44
        · have hf := it_f c4 hf
          refine lv_aload_n hx hb dX5_fails_28 rfl (lv_at hl 0 rfl) ?_
          refine va_get (D := D) (ci := 6) (v := .ref (α 2)) (C := RX5) (T := TX5) (N := 6) hx hb hts hiX5 hown hK hP 0 rfl rfl 1 (by decide) fl23 (fun _ h9 => h9) rfl dX5_fails_29 ?_
          refine lv_iload_n hx hb dX5_fails_32 rfl (lv_at hl 1 rfl) ?_
          refine lv_aload_n hx hb dX5_fails_33 rfl (lv_at hl 0 rfl) ?_
          refine va_get (D := D) (ci := 6) (v := .ref (α 6)) (C := RX5) (T := TX5) (N := 6) hx hb hts hiX5 hown hK hP 0 rfl rfl 5 (by decide) fl50 (fun _ h9 => h9) rfl dX5_fails_34 ?_
          obtain ⟨q5, hq5, hf⟩ := bnd hf
          refine kI_callV (As := [.int x1, .ref (α 6)]) (rest := []) S hP hD hS (c_X3_meets l D cI α gw gc gs ge gf cR cL cB pB SD RK RN RS RC RT LK LN LS LL US UB BB (α 6) 6 SD rfl F x1 q5 hq5) (cwV 2 hts gX5_fails_X3_meets rfl rfl rfl (by decide +kernel) ⟨Nat.le_of_ble_eq_true rfl, Nat.le_of_ble_eq_true rfl⟩) 2 rfl rfl rfl hl.1 rfl (Nat.le_of_ble_eq_true rfl) dX5_fails_37 ⟨Nat.zero_le _, Nat.zero_le _⟩ (fun H locs hP hD hS => ?_)
          have hP : va_P D vwCl (wC cI α gw gc gs ge gf cR cL cB pB SD RK RN RS RC RT LK LN LS LL US UB BB) H := hP
          have hD : va_D A (wC cI α gw gc gs ge gf cR cL cB pB SD RK RN RS RC RT LK LN LS LL US UB BB) := hD
          refine lv_if_ne (tgt := 45) hx hb dX5_fails_40 (by decide) (fun c6 => ?_) (fun c6 => ?_)
          · have hf := it_t c6 hf
            refine lv_iinc (v := (x1 + (1 : Int32))) (lv' := [(1, .int (x1 + (1 : Int32))), (0, .ref (α 0))]) hx hb dX5_fails_45 hl (k := 1) rfl rfl (by decide) rfl (fun ls hl => ?_)
            refine lv_goto (tgt := 2) hx hb dX5_fails_48 (by decide) ?_
            exact ih _ H locs ls hf hP hD hS (lv_sub hl [1, 0] rfl)
          · have hf := it_f (fun h9 => h9 c6) hf
            refine lv_iload_n hx hb dX5_fails_43 rfl (lv_at hl 1 rfl) ?_
            have e9 := Option.some.inj hf
            subst e9
            exact kI_ret S rfl hP hD hS dX5_fails_44
  suffices hgo : ∀ (H : Heap) (locs : List Loc), va_P D vwCl (wC cI α gw gc gs ge gf cR cL cB pB SD RK RN RS RC RT LK LN LS LL US UB BB) H → va_D A (wC cI α gw gc gs ge gf cR cL cB pB SD RK RN RS RC RT LK LN LS LL US UB BB) → va_S A s.heap H locs → W p l e rm_X5_fails s m args below meth c H locs 0 0 (MQ below (kQi D A (wC cI α gw gc gs ge gf cR cL cB pB SD RK RN RS RC RT LK LN LS LL US UB BB) res) args s 0 0 A) (F0 m 0 ls []) from hgo _ _ hP hD hS
  clear hP hD hS
  intro H locs hP hD hS
  refine lv_iconst (v := (0 : Int32)) hx hb dX5_fails_0 (by decide) ?_
  refine lv_istore_n (lv' := [(1, .int (0 : Int32)), (0, .ref (α 0))]) hx hb dX5_fails_1 rfl hl (by decide) rfl (fun ls hl => ?_)
  exact w2 F _ H locs ls hf hP hD hS (lv_sub hl [1, 0] rfl)
abbrev rm_X5_line : Room := { frames := 2, cells := 0, slots := 0, locals := 40 }
set_option maxHeartbeats 4000000 in
set_option maxRecDepth 100000 in
theorem c_X5_line (l : Launch) (D : va_G) (cI : ClassId) (α : Nat → Nat) (gw gc gs ge gf cR cL cB pB : Int32) (SD RK RN RS RC RT LK LN LS LL US UB BB : Nat → Int32) (x1 : Int32) (x2 : Int32) (res : Int32 × Int32 × (Nat → Int32) × (Nat → Int32) × (Nat → Int32)) (hf : f_X5_line cL LK LN LS x1 x2 = some res) : kI l yX5_line wsX5_line rm_X5_line D cI [.ref (α 0), .int x1, .int x2] (wC cI α gw gc gs ge gf cR cL cB pB SD RK RN RS RC RT LK LN LS LL US UB BB) (wC cI α gw gc gs ge gf cR res.2.1 cB pB SD RK RN RS RC RT res.2.2.1 res.2.2.2.1 res.2.2.2.2 LL US UB BB) res.1 := by
  unfold f_X5_line at hf
  refine kI_of (cc := cX5_line) (maxL := 3) (ret := (some .int)) (by decide +kernel) rfl (Nat.le_of_ble_eq_true rfl) ?_
  intro p e s m args below meth c A ls S hP hD hS hl
  have S : kC p s m args meth c cX5_line 3 wsX5_line RX5 (some .int) D cI A := S
  have hx := S.1.1
  have hb := S.1.2.1
  have hml := S.1.2.2.1
  have hown : s.vm.findClass RX5 = some m.cls := S.1.2.2.2.1
  have hts := S.1.2.2.2.2
  have hK := S.2.2.2.1
  have hnk := S.2.2.2.2.1.2
  have hiX5 : ∀ w ∈ u_ws RX5 TX5 6, w ∈ wsX5_line := by decide +kernel
  have fl30 := hts (.fieldLink RX5 30 "ProofChecker" "lines" "LProofChecker$Lines;") (by decide +kernel)
  have hl : lv_has ls 3 [(0, .ref (α 0)), (1, .int x1), (2, .int x2)] := hl
  suffices hgo : ∀ (H : Heap) (locs : List Loc), va_P D vwCl (wC cI α gw gc gs ge gf cR cL cB pB SD RK RN RS RC RT LK LN LS LL US UB BB) H → va_D A (wC cI α gw gc gs ge gf cR cL cB pB SD RK RN RS RC RT LK LN LS LL US UB BB) → va_S A s.heap H locs → W p l e rm_X5_line s m args below meth c H locs 0 0 (MQ below (kQi D A (wC cI α gw gc gs ge gf cR res.2.1 cB pB SD RK RN RS RC RT res.2.2.1 res.2.2.2.1 res.2.2.2.2 LL US UB BB) res.1) args s 0 0 A) (F0 m 0 ls []) from hgo _ _ hP hD hS
  clear hP hD hS
  intro H locs hP hD hS
  refine lv_iload_n hx hb dX5_line_0 rfl (lv_at hl 1 rfl) ?_
  refine lv_if_lt (tgt := 19) hx hb dX5_line_1 (by decide) (fun c1 => ?_) (fun c1 => ?_)
  · have hf := it_t c1 hf
    refine lv_iconst (v := (-1 : Int32)) hx hb dX5_line_19 (by decide) ?_
    have e9 := Option.some.inj hf
    subst e9
    exact kI_ret S rfl hP hD hS dX5_line_20
  · have hf := it_f c1 hf
    refine lv_iload_n hx hb dX5_line_4 rfl (lv_at hl 1 rfl) ?_
    refine lv_iconst (v := (3 : Int32)) hx hb dX5_line_5 (by decide) ?_
    refine lv_icmp_gt (tgt := 19) hx hb dX5_line_6 (by decide) (fun c2 => ?_) (fun c2 => ?_)
    · have hf := it_t c2 hf
      refine lv_iconst (v := (-1 : Int32)) hx hb dX5_line_19 (by decide) ?_
      have e9 := Option.some.inj hf
      subst e9
      exact kI_ret S rfl hP hD hS dX5_line_20
    · have hf := it_f c2 hf
      refine lv_aload_n hx hb dX5_line_9 rfl (lv_at hl 0 rfl) ?_
      refine va_get (D := D) (ci := 6) (v := .ref (α 3)) (C := RX5) (T := TX5) (N := 6) hx hb hts hiX5 hown hK hP 0 rfl rfl 2 (by decide) fl30 (fun _ h9 => h9) rfl dX5_line_10 ?_
      obtain ⟨q3, hq3, hf⟩ := bnd hf
      refine kI_callV (As := []) (rest := []) S hP hD hS (c_X1_isFull l D cI α gw gc gs ge gf cR cL cB pB SD RK RN RS RC RT LK LN LS LL US UB BB q3 hq3) (cwV 0 hts gX5_line_X1_isFull rfl rfl rfl (by decide +kernel) ⟨Nat.le_of_ble_eq_true rfl, Nat.le_of_ble_eq_true rfl⟩) 3 rfl rfl rfl hl.1 rfl (Nat.le_of_ble_eq_true rfl) dX5_line_13 ⟨Nat.zero_le _, Nat.zero_le _⟩ (fun H locs hP hD hS => ?_)
      have hP : va_P D vwCl (wC cI α gw gc gs ge gf cR cL cB pB SD RK RN RS RC RT LK LN LS LL US UB BB) H := hP
      have hD : va_D A (wC cI α gw gc gs ge gf cR cL cB pB SD RK RN RS RC RT LK LN LS LL US UB BB) := hD
      refine lv_if_eq (tgt := 21) hx hb dX5_line_16 (by decide) (fun c4 => ?_) (fun c4 => ?_)
      · have hf := it_t c4 hf
        refine lv_aload_n hx hb dX5_line_21 rfl (lv_at hl 0 rfl) ?_
        refine va_get (D := D) (ci := 6) (v := .ref (α 3)) (C := RX5) (T := TX5) (N := 6) hx hb hts hiX5 hown hK hP 0 rfl rfl 2 (by decide) fl30 (fun _ h9 => h9) rfl dX5_line_22 ?_
        refine lv_iload_n hx hb dX5_line_25 rfl (lv_at hl 1 rfl) ?_
        refine lv_iload_n hx hb dX5_line_26 rfl (lv_at hl 2 rfl) ?_
        obtain ⟨q5, hq5, hf⟩ := bnd hf
        refine kV_callV (As := [.int x1, .int x2]) (rest := []) S hP hD hS (c_X1_startDraft l D cI α gw gc gs ge gf cR cL cB pB SD RK RN RS RC RT LK LN LS LL US UB BB x1 x2 q5 hq5) (cwV 2 hts gX5_line_X1_startDraft rfl rfl rfl (by decide +kernel) ⟨Nat.le_of_ble_eq_true rfl, Nat.le_of_ble_eq_true rfl⟩) 3 rfl rfl rfl hl.1 rfl (Nat.le_of_ble_eq_true rfl) dX5_line_27 ⟨Nat.zero_le _, Nat.zero_le _⟩ (fun H locs hP hD hS => ?_)
        have hP : va_P D vwCl (wC cI α gw gc gs ge gf cR cL cB pB SD RK RN RS RC RT q5.1 q5.2.1 q5.2.2 LL US UB BB) H := hP
        have hD : va_D A (wC cI α gw gc gs ge gf cR cL cB pB SD RK RN RS RC RT q5.1 q5.2.1 q5.2.2 LL US UB BB) := hD
        refine lv_aload_n hx hb dX5_line_30 rfl (lv_at hl 0 rfl) ?_
        refine va_get (D := D) (ci := 6) (v := .ref (α 3)) (C := RX5) (T := TX5) (N := 6) hx hb hts hiX5 hown hK hP 0 rfl rfl 2 (by decide) fl30 (fun _ h9 => h9) rfl dX5_line_31 ?_
        obtain ⟨q6, hq6, hf⟩ := bnd hf
        refine kI_callV (As := []) (rest := []) S hP hD hS (c_X1_keepDraft l D cI α gw gc gs ge gf cR cL cB pB SD RK RN RS RC RT q5.1 q5.2.1 q5.2.2 LL US UB BB q6 hq6) (cwV 0 hts gX5_line_X1_keepDraft rfl rfl rfl (by decide +kernel) ⟨Nat.le_of_ble_eq_true rfl, Nat.le_of_ble_eq_true rfl⟩) 3 rfl rfl rfl hl.1 rfl (Nat.le_of_ble_eq_true rfl) dX5_line_34 ⟨Nat.zero_le _, Nat.zero_le _⟩ (fun H locs hP hD hS => ?_)
        have hP : va_P D vwCl (wC cI α gw gc gs ge gf cR q6.2 cB pB SD RK RN RS RC RT q5.1 q5.2.1 q5.2.2 LL US UB BB) H := hP
        have hD : va_D A (wC cI α gw gc gs ge gf cR q6.2 cB pB SD RK RN RS RC RT q5.1 q5.2.1 q5.2.2 LL US UB BB) := hD
        refine lv_pop hx hb dX5_line_37 rfl ?_
        refine lv_aload_n hx hb dX5_line_38 rfl (lv_at hl 0 rfl) ?_
        refine va_get (D := D) (ci := 6) (v := .ref (α 3)) (C := RX5) (T := TX5) (N := 6) hx hb hts hiX5 hown hK hP 0 rfl rfl 2 (by decide) fl30 (fun _ h9 => h9) rfl dX5_line_39 ?_
        obtain ⟨q7, hq7, hf⟩ := bnd hf
        refine kI_callV (As := []) (rest := []) S hP hD hS (c_X1_count l D cI α gw gc gs ge gf cR q6.2 cB pB SD RK RN RS RC RT q5.1 q5.2.1 q5.2.2 LL US UB BB q7 hq7) (cwV 0 hts gX5_line_X1_count rfl rfl rfl (by decide +kernel) ⟨Nat.le_of_ble_eq_true rfl, Nat.le_of_ble_eq_true rfl⟩) 3 rfl rfl rfl hl.1 rfl (Nat.le_of_ble_eq_true rfl) dX5_line_42 ⟨Nat.zero_le _, Nat.zero_le _⟩ (fun H locs hP hD hS => ?_)
        have hP : va_P D vwCl (wC cI α gw gc gs ge gf cR q6.2 cB pB SD RK RN RS RC RT q5.1 q5.2.1 q5.2.2 LL US UB BB) H := hP
        have hD : va_D A (wC cI α gw gc gs ge gf cR q6.2 cB pB SD RK RN RS RC RT q5.1 q5.2.1 q5.2.2 LL US UB BB) := hD
        refine lv_iconst (v := (1 : Int32)) hx hb dX5_line_45 (by decide) ?_
        refine lv_isub hx hb dX5_line_46 ?_
        have e9 := Option.some.inj hf
        subst e9
        exact kI_ret S rfl hP hD hS dX5_line_47
      · have hf := it_f c4 hf
        refine lv_iconst (v := (-1 : Int32)) hx hb dX5_line_19 (by decide) ?_
        have e9 := Option.some.inj hf
        subst e9
        exact kI_ret S rfl hP hD hS dX5_line_20
