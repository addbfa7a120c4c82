abbrev rx_X5_needRule : Room := { frames := 8, cells := 1, slots := 6, locals := 120 }
set_option maxHeartbeats 4000000 in
set_option maxRecDepth 100000 in
theorem x_X5_needRule (l : Launch) (hlt : l.stackTraces = false) (D : va_G) (cI : ClassId) (α : Nat → Nat) (gw gc gs ge gf cR cL cB pB : Int32) (SD RK RN RS RC RT LK LN LS LL US UB BB : Nat → Int32) (x1 : Int32) (h1 : f_X3_has cR x1 = some 0) : kX l yX5_needRule wsX5_needRule rx_X5_needRule D cI [.ref (α 0), .int x1] (wC cI α gw gc gs ge gf cR cL cB pB SD RK RN RS RC RT LK LN LS LL US UB BB) eA qv := by
  refine kX_of (cc := cX5_needRule) (maxL := 2) (ret := none) (by decide +kernel) rfl (Nat.le_of_ble_eq_true rfl) hlt ?_
  intro p e s m args below meth c A ls S T hnt H locs hP hD hS hl
  have S : kC p s m args meth c cX5_needRule 2 wsX5_needRule RX5 none D cI A := S
  have hx := S.1.1
  have hb := S.1.2.1
  have hown : s.vm.findClass RX5 = some m.cls := S.1.2.2.2.1
  have hts := S.1.2.2.2.2
  have hK := S.2.2.2.1
  have hl : lv_has ls 2 [(0, .ref (α 0)), (1, .int x1)] := hl
  refine lv_aload_n hx hb dX5_needRule_0 rfl (lv_at hl 0 rfl) ?_
  have hiX5 : ∀ w ∈ u_ws RX5 TX5 6, w ∈ wsX5_needRule := by decide +kernel
  refine va_get (D := D) (ci := 6) (v := .ref (α 2)) (C := RX5) (T := TX5) (N := 6) hx hb hts hiX5 hown hK hP 0 rfl rfl 1 (by decide) (hts (.fieldLink RX5 23 "ProofChecker" "rules" "LProofChecker$Rules;") (by decide +kernel)) (fun _ h9 => h9) rfl dX5_needRule_1 ?_
  refine lv_iload_n hx hb dX5_needRule_4 rfl (lv_at hl 1 rfl) ?_
  refine kI_callV (As := [.int x1]) (rest := []) S hP hD hS (c_X3_has l D cI α gw gc gs ge gf cR cL cB pB SD RK RN RS RC RT LK LN LS LL US UB BB x1 0 h1) (cwV 1 hts gX5_needRule_X3_has rfl rfl rfl (by decide +kernel) ⟨Nat.le_of_ble_eq_true rfl, Nat.le_of_ble_eq_true rfl⟩) 2 rfl rfl rfl hl.1 rfl (Nat.le_of_ble_eq_true rfl) dX5_needRule_5 ⟨Nat.zero_le _, Nat.zero_le _⟩ (fun H locs hP hD hS => ?_)
  refine lv_if_ne (tgt := 21) hx hb dX5_needRule_8 (by decide) (fun c1 => absurd rfl c1) (fun c1 => ?_)
  exact kX_thrA S T hnt hP hS hl.1 T.2.1.2.2.1 dX5_needRule_11 dX5_needRule_14 dX5_needRule_15 dX5_needRule_17 dX5_needRule_20 (Nat.le_of_ble_eq_true rfl) (Nat.le_of_ble_eq_true rfl) (Nat.le_of_ble_eq_true rfl) (Nat.le_of_ble_eq_true rfl)
abbrev rx_X5_needCell : Room := { frames := 8, cells := 1, slots := 6, locals := 120 }
set_option maxHeartbeats 4000000 in
set_option maxRecDepth 100000 in
theorem x_X5_needCell (l : Launch) (hlt : l.stackTraces = false) (D : va_G) (cI : ClassId) (α : Nat → Nat) (gw gc gs ge gf cR cL cB pB : Int32) (SD RK RN RS RC RT LK LN LS LL US UB BB : Nat → Int32) (x1 : Int32) (h1 : f_X0_hasCell gc x1 = some 0) : kX l yX5_needCell wsX5_needCell rx_X5_needCell D cI [.ref (α 0), .int x1] (wC cI α gw gc gs ge gf cR cL cB pB SD RK RN RS RC RT LK LN LS LL US UB BB) eA qv := by
  refine kX_of (cc := cX5_needCell) (maxL := 2) (ret := none) (by decide +kernel) rfl (Nat.le_of_ble_eq_true rfl) hlt ?_
  intro p e s m args below meth c A ls S T hnt H locs hP hD hS hl
  have S : kC p s m args meth c cX5_needCell 2 wsX5_needCell RX5 none D cI A := S
  have hx := S.1.1
  have hb := S.1.2.1
  have hown : s.vm.findClass RX5 = some m.cls := S.1.2.2.2.1
  have hts := S.1.2.2.2.2
  have hK := S.2.2.2.1
  have hl : lv_has ls 2 [(0, .ref (α 0)), (1, .int x1)] := hl
  refine lv_aload_n hx hb dX5_needCell_0 rfl (lv_at hl 0 rfl) ?_
  have hiX5 : ∀ w ∈ u_ws RX5 TX5 6, w ∈ wsX5_needCell := by decide +kernel
  refine va_get (D := D) (ci := 6) (v := .ref (α 1)) (C := RX5) (T := TX5) (N := 6) hx hb hts hiX5 hown hK hP 0 rfl rfl 0 (by decide) (hts (.fieldLink RX5 12 "ProofChecker" "grid" "LProofChecker$Grid;") (by decide +kernel)) (fun _ h9 => h9) rfl dX5_needCell_1 ?_
  refine lv_iload_n hx hb dX5_needCell_4 rfl (lv_at hl 1 rfl) ?_
  refine kI_callV (As := [.int x1]) (rest := []) S hP hD hS (c_X0_hasCell l D cI α gw gc gs ge gf cR cL cB pB SD RK RN RS RC RT LK LN LS LL US UB BB x1 0 h1) (cwV 1 hts gX5_needCell_X0_hasCell rfl rfl rfl (by decide +kernel) ⟨Nat.le_of_ble_eq_true rfl, Nat.le_of_ble_eq_true rfl⟩) 1 rfl rfl rfl hl.1 rfl (Nat.le_of_ble_eq_true rfl) dX5_needCell_5 ⟨Nat.zero_le _, Nat.zero_le _⟩ (fun H locs hP hD hS => ?_)
  refine lv_if_ne (tgt := 21) hx hb dX5_needCell_8 (by decide) (fun c1 => absurd rfl c1) (fun c1 => ?_)
  exact kX_thrA S T hnt hP hS hl.1 T.2.1.2.2.2.1 dX5_needCell_11 dX5_needCell_14 dX5_needCell_15 dX5_needCell_17 dX5_needCell_20 (Nat.le_of_ble_eq_true rfl) (Nat.le_of_ble_eq_true rfl) (Nat.le_of_ble_eq_true rfl) (Nat.le_of_ble_eq_true rfl)
abbrev rx_X5_needSymbol : Room := { frames := 8, cells := 1, slots := 6, locals := 120 }
set_option maxHeartbeats 4000000 in
set_option maxRecDepth 100000 in
theorem x_X5_needSymbol (l : Launch) (hlt : l.stackTraces = false) (D : va_G) (cI : ClassId) (α : Nat → Nat) (gw gc gs ge gf cR cL cB pB : Int32) (SD RK RN RS RC RT LK LN LS LL US UB BB : Nat → Int32) (x1 : Int32) (h1 : f_X0_hasSymbol gs x1 = some 0) : kX l yX5_needSymbol wsX5_needSymbol rx_X5_needSymbol D cI [.ref (α 0), .int x1] (wC cI α gw gc gs ge gf cR cL cB pB SD RK RN RS RC RT LK LN LS LL US UB BB) eI qv := by
  refine kX_of (cc := cX5_needSymbol) (maxL := 2) (ret := none) (by decide +kernel) rfl (Nat.le_of_ble_eq_true rfl) hlt ?_
  intro p e s m args below meth c A ls S T hnt H locs hP hD hS hl
  have S : kC p s m args meth c cX5_needSymbol 2 wsX5_needSymbol RX5 none D cI A := S
  have hx := S.1.1
  have hb := S.1.2.1
  have hown : s.vm.findClass RX5 = some m.cls := S.1.2.2.2.1
  have hts := S.1.2.2.2.2
  have hK := S.2.2.2.1
  have hl : lv_has ls 2 [(0, .ref (α 0)), (1, .int x1)] := hl
  refine lv_aload_n hx hb dX5_needSymbol_0 rfl (lv_at hl 0 rfl) ?_
  have hiX5 : ∀ w ∈ u_ws RX5 TX5 6, w ∈ wsX5_needSymbol := by decide +kernel
  refine va_get (D := D) (ci := 6) (v := .ref (α 1)) (C := RX5) (T := TX5) (N := 6) hx hb hts hiX5 hown hK hP 0 rfl rfl 0 (by decide) (hts (.fieldLink RX5 12 "ProofChecker" "grid" "LProofChecker$Grid;") (by decide +kernel)) (fun _ h9 => h9) rfl dX5_needSymbol_1 ?_
  refine lv_iload_n hx hb dX5_needSymbol_4 rfl (lv_at hl 1 rfl) ?_
  refine kI_callV (As := [.int x1]) (rest := []) S hP hD hS (c_X0_hasSymbol l D cI α gw gc gs ge gf cR cL cB pB SD RK RN RS RC RT LK LN LS LL US UB BB x1 0 h1) (cwV 1 hts gX5_needSymbol_X0_hasSymbol rfl rfl rfl (by decide +kernel) ⟨Nat.le_of_ble_eq_true rfl, Nat.le_of_ble_eq_true rfl⟩) 1 rfl rfl rfl hl.1 rfl (Nat.le_of_ble_eq_true rfl) dX5_needSymbol_5 ⟨Nat.zero_le _, Nat.zero_le _⟩ (fun H locs hP hD hS => ?_)
  refine lv_if_ne (tgt := 21) hx hb dX5_needSymbol_8 (by decide) (fun c1 => absurd rfl c1) (fun c1 => ?_)
  exact kX_thrI S T hnt hP hS hl.1 T.2.1.2.2.2.2.1 dX5_needSymbol_11 dX5_needSymbol_14 dX5_needSymbol_15 dX5_needSymbol_17 dX5_needSymbol_20 (Nat.le_of_ble_eq_true rfl) (Nat.le_of_ble_eq_true rfl) (Nat.le_of_ble_eq_true rfl) (Nat.le_of_ble_eq_true rfl)
abbrev rx_X5_into_1 : Room := { frames := 10, cells := 1, slots := 6, locals := 200 }
set_option maxHeartbeats 4000000 in
set_option maxRecDepth 100000 in
theorem x_X5_into_1 (l : Launch) (hlt : l.stackTraces = false) (D : va_G) (cI : ClassId) (α : Nat → Nat) (gw gc gs ge gf cR cL cB pB : Int32) (SD RK RN RS RC RT LK LN LS LL US UB BB : Nat → Int32) (x1 : Int32) (x2 : Int32) (h1 : f_X3_has cR x1 = some 0) : kX l yX5_into wsX5_into rx_X5_into_1 D cI [.ref (α 0), .int x1, .int x2] (wC cI α gw gc gs ge gf cR cL cB pB SD RK RN RS RC RT LK LN LS LL US UB BB) eA qi := by
  refine kX_of (cc := cX5_into) (maxL := 3) (ret := (some .boolean)) (by decide +kernel) rfl (Nat.le_of_ble_eq_true rfl) hlt ?_
  intro p e s m args below meth c A ls S T hnt H locs hP hD hS hl
  have S : kC p s m args meth c cX5_into 3 wsX5_into RX5 (some .boolean) D cI A := S
  have hx := S.1.1
  have hb := S.1.2.1
  have hown : s.vm.findClass RX5 = some m.cls := S.1.2.2.2.1
  have hts := S.1.2.2.2.2
  have hK := S.2.2.2.1
  have hl : lv_has ls 3 [(0, .ref (α 0)), (1, .int x1), (2, .int x2)] := hl
  refine lv_aload_n hx hb dX5_into_0 rfl (lv_at hl 0 rfl) ?_
  refine lv_iload_n hx hb dX5_into_1 rfl (lv_at hl 1 rfl) ?_
  exact kX_pass (As := [.int x1]) (rest := []) S T hnt hP hD hS (x_X5_needRule l hlt D cI α gw gc gs ge gf cR cL cB pB SD RK RN RS RC RT LK LN LS LL US UB BB x1 h1) (cwV 1 hts gX5_into_X5_needRule rfl rfl rfl (by decide +kernel) ⟨Nat.le_of_ble_eq_true rfl, Nat.le_of_ble_eq_true rfl⟩) 0 rfl rfl rfl hl.1 rfl (Nat.le_of_ble_eq_true rfl) dX5_into_2 ⟨Nat.le_of_ble_eq_true rfl, Nat.le_of_ble_eq_true rfl⟩
abbrev rx_X5_into_2 : Room := { frames := 10, cells := 1, slots := 6, locals := 200 }
set_option maxHeartbeats 4000000 in
set_option maxRecDepth 100000 in
theorem x_X5_into_2 (l : Launch) (hlt : l.stackTraces = false) (D : va_G) (cI : ClassId) (α : Nat → Nat) (gw gc gs ge gf cR cL cB pB : Int32) (SD RK RN RS RC RT LK LN LS LL US UB BB : Nat → Int32) (x1 : Int32) (x2 : Int32) (h0 : f_X5_needRule cR x1 = some ()) (h1 : f_X0_hasCell gc x2 = some 0) : kX l yX5_into wsX5_into rx_X5_into_2 D cI [.ref (α 0), .int x1, .int x2] (wC cI α gw gc gs ge gf cR cL cB pB SD RK RN RS RC RT LK LN LS LL US UB BB) eA qi := by
  refine kX_of (cc := cX5_into) (maxL := 3) (ret := (some .boolean)) (by decide +kernel) rfl (Nat.le_of_ble_eq_true rfl) hlt ?_
  intro p e s m args below meth c A ls S T hnt H locs hP hD hS hl
  have S : kC p s m args meth c cX5_into 3 wsX5_into RX5 (some .boolean) D cI A := S
  have hx := S.1.1
  have hb := S.1.2.1
  have hown : s.vm.findClass RX5 = some m.cls := S.1.2.2.2.1
  have hts := S.1.2.2.2.2
  have hK := S.2.2.2.1
  have hl : lv_has ls 3 [(0, .ref (α 0)), (1, .int x1), (2, .int x2)] := hl
  refine lv_aload_n hx hb dX5_into_0 rfl (lv_at hl 0 rfl) ?_
  refine lv_iload_n hx hb dX5_into_1 rfl (lv_at hl 1 rfl) ?_
  refine kV_callV (As := [.int x1]) (rest := []) S hP hD hS (c_X5_needRule l D cI α gw gc gs ge gf cR cL cB pB SD RK RN RS RC RT LK LN LS LL US UB BB x1 () h0) (cwV 1 hts gX5_into_X5_needRule rfl rfl rfl (by decide +kernel) ⟨Nat.le_of_ble_eq_true rfl, Nat.le_of_ble_eq_true rfl⟩) 0 rfl rfl rfl hl.1 rfl (Nat.le_of_ble_eq_true rfl) dX5_into_2 ⟨Nat.zero_le _, Nat.zero_le _⟩ (fun H locs hP hD hS => ?_)
  refine lv_aload_n hx hb dX5_into_5 rfl (lv_at hl 0 rfl) ?_
  refine lv_iload_n hx hb dX5_into_6 rfl (lv_at hl 2 rfl) ?_
  exact kX_pass (As := [.int x2]) (rest := []) S T hnt hP hD hS (x_X5_needCell l hlt D cI α gw gc gs ge gf cR cL cB pB SD RK RN RS RC RT LK LN LS LL US UB BB x2 h1) (cwV 1 hts gX5_into_X5_needCell rfl rfl rfl (by decide +kernel) ⟨Nat.le_of_ble_eq_true rfl, Nat.le_of_ble_eq_true rfl⟩) 0 rfl rfl rfl hl.1 rfl (Nat.le_of_ble_eq_true rfl) dX5_into_7 ⟨Nat.le_of_ble_eq_true rfl, Nat.le_of_ble_eq_true rfl⟩
abbrev rx_X5_answer_1 : Room := { frames := 10, cells := 1, slots := 6, locals := 200 }
set_option maxHeartbeats 4000000 in
set_option maxRecDepth 100000 in
theorem x_X5_answer_1 (l : Launch) (hlt : l.stackTraces = false) (D : va_G) (cI : ClassId) (α : Nat → Nat) (gw gc gs ge gf cR cL cB pB : Int32) (SD RK RN RS RC RT LK LN LS LL US UB BB : Nat → Int32) (x1 : Int32) (x2 : Int32) (h1 : f_X0_hasCell gc x1 = some 0) : kX l yX5_answer wsX5_answer rx_X5_answer_1 D cI [.ref (α 0), .int x1, .int x2] (wC cI α gw gc gs ge gf cR cL cB pB SD RK RN RS RC RT LK LN LS LL US UB BB) eA qi := by
  refine kX_of (cc := cX5_answer) (maxL := 3) (ret := (some .boolean)) (by decide +kernel) rfl (Nat.le_of_ble_eq_true rfl) hlt ?_
  intro p e s m args below meth c A ls S T hnt H locs hP hD hS hl
  have S : kC p s m args meth c cX5_answer 3 wsX5_answer RX5 (some .boolean) D cI A := S
  have hx := S.1.1
  have hb := S.1.2.1
  have hown : s.vm.findClass RX5 = some m.cls := S.1.2.2.2.1
  have hts := S.1.2.2.2.2
  have hK := S.2.2.2.1
  have hl : lv_has ls 3 [(0, .ref (α 0)), (1, .int x1), (2, .int x2)] := hl
  refine lv_aload_n hx hb dX5_answer_0 rfl (lv_at hl 0 rfl) ?_
  refine lv_iload_n hx hb dX5_answer_1 rfl (lv_at hl 1 rfl) ?_
  exact kX_pass (As := [.int x1]) (rest := []) S T hnt hP hD hS (x_X5_needCell l hlt D cI α gw gc gs ge gf cR cL cB pB SD RK RN RS RC RT LK LN LS LL US UB BB x1 h1) (cwV 1 hts gX5_answer_X5_needCell rfl rfl rfl (by decide +kernel) ⟨Nat.le_of_ble_eq_true rfl, Nat.le_of_ble_eq_true rfl⟩) 0 rfl rfl rfl hl.1 rfl (Nat.le_of_ble_eq_true rfl) dX5_answer_2 ⟨Nat.le_of_ble_eq_true rfl, Nat.le_of_ble_eq_true rfl⟩
abbrev rx_X5_answer_2 : Room := { frames := 10, cells := 1, slots := 6, locals := 200 }
set_option maxHeartbeats 4000000 in
set_option maxRecDepth 100000 in
theorem x_X5_answer_2 (l : Launch) (hlt : l.stackTraces = false) (D : va_G) (cI : ClassId) (α : Nat → Nat) (gw gc gs ge gf cR cL cB pB : Int32) (SD RK RN RS RC RT LK LN LS LL US UB BB : Nat → Int32) (x1 : Int32) (x2 : Int32) (h0 : f_X5_needCell gc x1 = some ()) (hne : ¬ x2 = (-1 : Int32)) (h1 : f_X0_hasSymbol gs x2 = some 0) : kX l yX5_answer wsX5_answer rx_X5_answer_2 D cI [.ref (α 0), .int x1, .int x2] (wC cI α gw gc gs ge gf cR cL cB pB SD RK RN RS RC RT LK LN LS LL US UB BB) eI qi := by
  refine kX_of (cc := cX5_answer) (maxL := 3) (ret := (some .boolean)) (by decide +kernel) rfl (Nat.le_of_ble_eq_true rfl) hlt ?_
  intro p e s m args below meth c A ls S T hnt H locs hP hD hS hl
  have S : kC p s m args meth c cX5_answer 3 wsX5_answer RX5 (some .boolean) D cI A := S
  have hx := S.1.1
  have hb := S.1.2.1
  have hown : s.vm.findClass RX5 = some m.cls := S.1.2.2.2.1
  have hts := S.1.2.2.2.2
  have hK := S.2.2.2.1
  have hl : lv_has ls 3 [(0, .ref (α 0)), (1, .int x1), (2, .int x2)] := hl
  refine lv_aload_n hx hb dX5_answer_0 rfl (lv_at hl 0 rfl) ?_
  refine lv_iload_n hx hb dX5_answer_1 rfl (lv_at hl 1 rfl) ?_
  refine kV_callV (As := [.int x1]) (rest := []) S hP hD hS (c_X5_needCell l D cI α gw gc gs ge gf cR cL cB pB SD RK RN RS RC RT LK LN LS LL US UB BB x1 () h0) (cwV 1 hts gX5_answer_X5_needCell rfl rfl rfl (by decide +kernel) ⟨Nat.le_of_ble_eq_true rfl, Nat.le_of_ble_eq_true rfl⟩) 0 rfl rfl rfl hl.1 rfl (Nat.le_of_ble_eq_true rfl) dX5_answer_2 ⟨Nat.zero_le _, Nat.zero_le _⟩ (fun H locs hP hD hS => ?_)
  refine lv_iload_n hx hb dX5_answer_5 rfl (lv_at hl 2 rfl) ?_
  refine lv_iconst (v := (-1 : Int32)) hx hb dX5_answer_6 (by decide) ?_
  refine lv_icmp_eq (tgt := 15) hx hb dX5_answer_7 (by decide) (fun c1 => absurd c1 hne) (fun c1 => ?_)
  refine lv_aload_n hx hb dX5_answer_10 rfl (lv_at hl 0 rfl) ?_
  refine lv_iload_n hx hb dX5_answer_11 rfl (lv_at hl 2 rfl) ?_
  exact kX_pass (As := [.int x2]) (rest := []) S T hnt hP hD hS (x_X5_needSymbol l hlt D cI α gw gc gs ge gf cR cL cB pB SD RK RN RS RC RT LK LN LS LL US UB BB x2 h1) (cwV 1 hts gX5_answer_X5_needSymbol rfl rfl rfl (by decide +kernel) ⟨Nat.le_of_ble_eq_true rfl, Nat.le_of_ble_eq_true rfl⟩) 0 rfl rfl rfl hl.1 rfl (Nat.le_of_ble_eq_true rfl) dX5_answer_12 ⟨Nat.le_of_ble_eq_true rfl, Nat.le_of_ble_eq_true rfl⟩
abbrev rx_X5_test_1 : Room := { frames := 10, cells := 1, slots := 6, locals := 200 }
set_option maxHeartbeats 4000000 in
set_option maxRecDepth 100000 in
theorem x_X5_test_1 (l : Launch) (hlt : l.stackTraces = false) (D : va_G) (cI : ClassId) (α : Nat → Nat) (gw gc gs ge gf cR cL cB pB : Int32) (SD RK RN RS RC RT LK LN LS LL US UB BB : Nat → Int32) (x1 : Int32) (h1 : f_X3_has cR x1 = some 0) : kX l yX5_test wsX5_test rx_X5_test_1 D cI [.ref (α 0), .int x1] (wC cI α gw gc gs ge gf cR cL cB pB SD RK RN RS RC RT LK LN LS LL US UB BB) eA qi := by
  refine kX_of (cc := cX5_test) (maxL := 2) (ret := (some .int)) (by decide +kernel) rfl (Nat.le_of_ble_eq_true rfl) hlt ?_
  intro p e s m args below meth c A ls S T hnt H locs hP hD hS hl
  have S : kC p s m args meth c cX5_test 2 wsX5_test RX5 (some .int) D cI A := S
  have hx := S.1.1
  have hb := S.1.2.1
  have hown : s.vm.findClass RX5 = some m.cls := S.1.2.2.2.1
  have hts := S.1.2.2.2.2
  have hK := S.2.2.2.1
  have hl : lv_has ls 2 [(0, .ref (α 0)), (1, .int x1)] := hl
  refine lv_aload_n hx hb dX5_test_0 rfl (lv_at hl 0 rfl) ?_
  refine lv_iload_n hx hb dX5_test_1 rfl (lv_at hl 1 rfl) ?_
  exact kX_pass (As := [.int x1]) (rest := []) S T hnt hP hD hS (x_X5_needRule l hlt D cI α gw gc gs ge gf cR cL cB pB SD RK RN RS RC RT LK LN LS LL US UB BB x1 h1) (cwV 1 hts gX5_test_X5_needRule rfl rfl rfl (by decide +kernel) ⟨Nat.le_of_ble_eq_true rfl, Nat.le_of_ble_eq_true rfl⟩) 0 rfl rfl rfl hl.1 rfl (Nat.le_of_ble_eq_true rfl) dX5_test_2 ⟨Nat.le_of_ble_eq_true rfl, Nat.le_of_ble_eq_true rfl⟩
abbrev rx_X5_literal_1 : Room := { frames := 10, cells := 1, slots := 6, locals := 200 }
set_option maxHeartbeats 4000000 in
set_option maxRecDepth 100000 in
theorem x_X5_literal_1 (l : Launch) (hlt : l.stackTraces = false) (D : va_G) (cI : ClassId) (α : Nat → Nat) (gw gc gs ge gf cR cL cB pB : Int32) (SD RK RN RS RC RT LK LN LS LL US UB BB : Nat → Int32) (x1 : Int32) (x2 : Int32) (x3 : Int32) (h1 : f_X0_hasCell gc x1 = some 0) : kX l yX5_literal wsX5_literal rx_X5_literal_1 D cI [.ref (α 0), .int x1, .int x2, .int x3] (wC cI α gw gc gs ge gf cR cL cB pB SD RK RN RS RC RT LK LN LS LL US UB BB) eA qi := by
  refine kX_of (cc := cX5_literal) (maxL := 4) (ret := (some .boolean)) (by decide +kernel) rfl (Nat.le_of_ble_eq_true rfl) hlt ?_
  intro p e s m args below meth c A ls S T hnt H locs hP hD hS hl
  have S : kC p s m args meth c cX5_literal 4 wsX5_literal RX5 (some .boolean) D cI A := S
  have hx := S.1.1
  have hb := S.1.2.1
  have hown : s.vm.findClass RX5 = some m.cls := S.1.2.2.2.1
  have hts := S.1.2.2.2.2
  have hK := S.2.2.2.1
  have hl : lv_has ls 4 [(0, .ref (α 0)), (1, .int x1), (2, .int x2), (3, .int x3)] := hl
  refine lv_aload_n hx hb dX5_literal_0 rfl (lv_at hl 0 rfl) ?_
  refine lv_iload_n hx hb dX5_literal_1 rfl (lv_at hl 1 rfl) ?_
  exact kX_pass (As := [.int x1]) (rest := []) S T hnt hP hD hS (x_X5_needCell l hlt D cI α gw gc gs ge gf cR cL cB pB SD RK RN RS RC RT LK LN LS LL US UB BB x1 h1) (cwV 1 hts gX5_literal_X5_needCell rfl rfl rfl (by decide +kernel) ⟨Nat.le_of_ble_eq_true rfl, Nat.le_of_ble_eq_true rfl⟩) 0 rfl rfl rfl hl.1 rfl (Nat.le_of_ble_eq_true rfl) dX5_literal_2 ⟨Nat.le_of_ble_eq_true rfl, Nat.le_of_ble_eq_true rfl⟩
abbrev rx_X5_literal_2 : Room := { frames := 10, cells := 1, slots := 6, locals := 200 }
set_option maxHeartbeats 4000000 in
set_option maxRecDepth 100000 in
theorem x_X5_literal_2 (l : Launch) (hlt : l.stackTraces = false) (D : va_G) (cI : ClassId) (α : Nat → Nat) (gw gc gs ge gf cR cL cB pB : Int32) (SD RK RN RS RC RT LK LN LS LL US UB BB : Nat → Int32) (x1 : Int32) (x2 : Int32) (x3 : Int32) (h0 : f_X5_needCell gc x1 = some ()) (h1 : f_X0_hasSymbol gs x2 = some 0) : kX l yX5_literal wsX5_literal rx_X5_literal_2 D cI [.ref (α 0), .int x1, .int x2, .int x3] (wC cI α gw gc gs ge gf cR cL cB pB SD RK RN RS RC RT LK LN LS LL US UB BB) eI qi := by
  refine kX_of (cc := cX5_literal) (maxL := 4) (ret := (some .boolean)) (by decide +kernel) rfl (Nat.le_of_ble_eq_true rfl) hlt ?_
  intro p e s m args below meth c A ls S T hnt H locs hP hD hS hl
  have S : kC p s m args meth c cX5_literal 4 wsX5_literal RX5 (some .boolean) D cI A := S
  have hx := S.1.1
  have hb := S.1.2.1
  have hown : s.vm.findClass RX5 = some m.cls := S.1.2.2.2.1
  have hts := S.1.2.2.2.2
  have hK := S.2.2.2.1
  have hl : lv_has ls 4 [(0, .ref (α 0)), (1, .int x1), (2, .int x2), (3, .int x3)] := hl
  refine lv_aload_n hx hb dX5_literal_0 rfl (lv_at hl 0 rfl) ?_
  refine lv_iload_n hx hb dX5_literal_1 rfl (lv_at hl 1 rfl) ?_
  refine kV_callV (As := [.int x1]) (rest := []) S hP hD hS (c_X5_needCell l D cI α gw gc gs ge gf cR cL cB pB SD RK RN RS RC RT LK LN LS LL US UB BB x1 () h0) (cwV 1 hts gX5_literal_X5_needCell rfl rfl rfl (by decide +kernel) ⟨Nat.le_of_ble_eq_true rfl, Nat.le_of_ble_eq_true rfl⟩) 0 rfl rfl rfl hl.1 rfl (Nat.le_of_ble_eq_true rfl) dX5_literal_2 ⟨Nat.zero_le _, Nat.zero_le _⟩ (fun H locs hP hD hS => ?_)
  refine lv_aload_n hx hb dX5_literal_5 rfl (lv_at hl 0 rfl) ?_
  refine lv_iload_n hx hb dX5_literal_6 rfl (lv_at hl 2 rfl) ?_
  exact kX_pass (As := [.int x2]) (rest := []) S T hnt hP hD hS (x_X5_needSymbol l hlt D cI α gw gc gs ge gf cR cL cB pB SD RK RN RS RC RT LK LN LS LL US UB BB x2 h1) (cwV 1 hts gX5_literal_X5_needSymbol rfl rfl rfl (by decide +kernel) ⟨Nat.le_of_ble_eq_true rfl, Nat.le_of_ble_eq_true rfl⟩) 0 rfl rfl rfl hl.1 rfl (Nat.le_of_ble_eq_true rfl) dX5_literal_7 ⟨Nat.le_of_ble_eq_true rfl, Nat.le_of_ble_eq_true rfl⟩
abbrev rx_X5_may_1 : Room := { frames := 10, cells := 1, slots := 6, locals := 200 }
set_option maxHeartbeats 4000000 in
set_option maxRecDepth 100000 in
theorem x_X5_may_1 (l : Launch) (hlt : l.stackTraces = false) (D : va_G) (cI : ClassId) (α : Nat → Nat) (gw gc gs ge gf cR cL cB pB : Int32) (SD RK RN RS RC RT LK LN LS LL US UB BB : Nat → Int32) (x1 : Int32) (h1 : f_X0_hasCell gc x1 = some 0) : kX l yX5_may wsX5_may rx_X5_may_1 D cI [.ref (α 0), .int x1] (wC cI α gw gc gs ge gf cR cL cB pB SD RK RN RS RC RT LK LN LS LL US UB BB) eA qi := by
  refine kX_of (cc := cX5_may) (maxL := 2) (ret := (some .int)) (by decide +kernel) rfl (Nat.le_of_ble_eq_true rfl) hlt ?_
  intro p e s m args below meth c A ls S T hnt H locs hP hD hS hl
  have S : kC p s m args meth c cX5_may 2 wsX5_may RX5 (some .int) D cI A := S
  have hx := S.1.1
  have hb := S.1.2.1
  have hown : s.vm.findClass RX5 = some m.cls := S.1.2.2.2.1
  have hts := S.1.2.2.2.2
  have hK := S.2.2.2.1
  have hl : lv_has ls 2 [(0, .ref (α 0)), (1, .int x1)] := hl
  refine lv_aload_n hx hb dX5_may_0 rfl (lv_at hl 0 rfl) ?_
  refine lv_iload_n hx hb dX5_may_1 rfl (lv_at hl 1 rfl) ?_
  exact kX_pass (As := [.int x1]) (rest := []) S T hnt hP hD hS (x_X5_needCell l hlt D cI α gw gc gs ge gf cR cL cB pB SD RK RN RS RC RT LK LN LS LL US UB BB x1 h1) (cwV 1 hts gX5_may_X5_needCell rfl rfl rfl (by decide +kernel) ⟨Nat.le_of_ble_eq_true rfl, Nat.le_of_ble_eq_true rfl⟩) 0 rfl rfl rfl hl.1 rfl (Nat.le_of_ble_eq_true rfl) dX5_may_2 ⟨Nat.le_of_ble_eq_true rfl, Nat.le_of_ble_eq_true rfl⟩
abbrev rx_X5_tell_1 : Room := { frames := 10, cells := 1, slots := 6, locals := 200 }
set_option maxHeartbeats 4000000 in
set_option maxRecDepth 100000 in
theorem x_X5_tell_1 (l : Launch) (hlt : l.stackTraces = false) (D : va_G) (cI : ClassId) (α : Nat → Nat) (gw gc gs ge gf cR cL cB pB : Int32) (SD RK RN RS RC RT LK LN LS LL US UB BB : Nat → Int32) (x1 : Int32) (x2 : Int32) (h1 : x1 < 0 ∨ ¬ x1 < cL) : kX l yX5_tell wsX5_tell rx_X5_tell_1 D cI [.ref (α 0), .int x1, .int x2] (wC cI α gw gc gs ge gf cR cL cB pB SD RK RN RS RC RT LK LN LS LL US UB BB) eA qi := by
  refine kX_of (cc := cX5_tell) (maxL := 3) (ret := (some .int)) (by decide +kernel) rfl (Nat.le_of_ble_eq_true rfl) hlt ?_
  intro p e s m args below meth c A ls S T hnt H locs hP hD hS hl
  have S : kC p s m args meth c cX5_tell 3 wsX5_tell RX5 (some .int) D cI A := S
  have hx := S.1.1
  have hb := S.1.2.1
  have hown : s.vm.findClass RX5 = some m.cls := S.1.2.2.2.1
  have hts := S.1.2.2.2.2
  have hK := S.2.2.2.1
  have hl : lv_has ls 3 [(0, .ref (α 0)), (1, .int x1), (2, .int x2)] := hl
  refine lv_iload_n hx hb dX5_tell_0 rfl (lv_at hl 1 rfl) ?_
  refine lv_if_lt (tgt := 15) hx hb dX5_tell_1 (by decide) (fun c1 => ?_) (fun c1 => ?_)
  · exact kX_thrA S T hnt hP hS hl.1 T.2.1.2.2.2.2.2 dX5_tell_15 dX5_tell_18 dX5_tell_19 dX5_tell_21 dX5_tell_24 (Nat.le_of_ble_eq_true rfl) (Nat.le_of_ble_eq_true rfl) (Nat.le_of_ble_eq_true rfl) (Nat.le_of_ble_eq_true rfl)
  · refine lv_iload_n hx hb dX5_tell_4 rfl (lv_at hl 1 rfl) ?_
    refine lv_aload_n hx hb dX5_tell_5 rfl (lv_at hl 0 rfl) ?_
    have hiX5 : ∀ w ∈ u_ws RX5 TX5 6, w ∈ wsX5_tell := by decide +kernel
    refine va_get (D := D) (ci := 6) (v := .ref (α 3)) (C := RX5) (T := TX5) (N := 6) hx hb hts hiX5 hown hK hP 0 rfl rfl 2 (by decide) (hts (.fieldLink RX5 30 "ProofChecker" "lines" "LProofChecker$Lines;") (by decide +kernel)) (fun _ h9 => h9) rfl dX5_tell_6 ?_
    refine kI_callV (As := []) (rest := [.int x1]) S hP hD hS (c_X1_count l D cI α gw gc gs ge gf cR cL cB pB SD RK RN RS RC RT LK LN LS LL US UB BB  cL rfl) (cwV 0 hts gX5_tell_X1_count rfl rfl rfl (by decide +kernel) ⟨Nat.le_of_ble_eq_true rfl, Nat.le_of_ble_eq_true rfl⟩) 3 rfl rfl rfl hl.1 rfl (Nat.le_of_ble_eq_true rfl) dX5_tell_9 ⟨Nat.zero_le _, Nat.zero_le _⟩ (fun H locs hP hD hS => ?_)
    refine lv_icmp_lt (tgt := 25) hx hb dX5_tell_12 (by decide) (fun c2 => absurd c2 (h1.resolve_left c1)) (fun c2 => ?_)
    exact kX_thrA S T hnt hP hS hl.1 T.2.1.2.2.2.2.2 dX5_tell_15 dX5_tell_18 dX5_tell_19 dX5_tell_21 dX5_tell_24 (Nat.le_of_ble_eq_true rfl) (Nat.le_of_ble_eq_true rfl) (Nat.le_of_ble_eq_true rfl) (Nat.le_of_ble_eq_true rfl)
