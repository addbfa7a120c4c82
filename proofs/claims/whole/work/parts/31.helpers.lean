/-! the law's helpers: written by wip/gen/helpers.py -/
def lb (r : Int32) : Int64 := if r = 0 then 0 else 1
theorem lb_0 {r : Int32} (h : r = 0) : lb r = 0 := if_pos h
theorem lb_1 {r : Int32} (h : ¬ r = 0) : lb r = 1 := if_neg h
theorem vp01 : vp_in 0 1 := by unfold vp_in; decide
abbrev rm_L : Room := { frames := 200, cells := 1, slots := 6, locals := 6000 }
set_option maxHeartbeats 4000000 in
set_option maxRecDepth 100000 in
theorem c_L_into_n (l : Launch) (hlt : l.stackTraces = false) (D : va_G) (cI cJ : ClassId) (α : Nat → Nat) (o : Nat) (OUT : Nat → Int64) (gw gc gs ge gf cR cL cB pB : Int32) (SD RK RN RS RC RT LK LN LS LL US UB BB : Nat → Int32) (x1 : Int32) (x2 : Int32) (F : Nat) (res : Int32 × (Nat → Int32) × (Nat → Int32)) (hf : f_X5_into gc cR F RS RC x1 x2 = some res) : kH l yL_into wsL_into rm_L D cI cJ [.ref (α 0), .int x1, .int x2, .ref o] ((o, .inl (cJ, 1, .inr (.inl OUT))) :: wC cI α gw gc gs ge gf cR cL cB pB SD RK RN RS RC RT LK LN LS LL US UB BB) ((o, .inl (cJ, 1, .inr (.inl (vp_updL OUT 0 (lb res.1))))) :: wC cI α gw gc gs ge gf cR cL cB pB SD RK RN res.2.1 res.2.2 RT LK LN LS LL US UB BB) 0 := by
  refine kH_of (cc := cL_into) (maxL := 5) (ret := (some .int)) (hh := [(0, 17, 20, 13)]) (by decide +kernel) rfl (Nat.le_of_ble_eq_true rfl) hlt ?_
  intro p e s m args below meth c A ls S T hNc hK2 htb H locs hP hD hS hl
  have S : kC p s m args meth c cL_into 5 wsL_into RL (some .int) D cI A := S
  have hx := S.1.1
  have hb := S.1.2.1
  have hts := S.1.2.2.2.2
  have hl : lv_has ls 5 [(0, .ref (α 0)), (1, .int x1), (2, .int x2), (3, .ref o)] := hl
  refine lv_aload_n hx hb dL_into_0 rfl (lv_at hl 3 rfl) ?_
  refine lv_iconst (v := (0 : Int32)) hx hb dL_into_1 (by decide) ?_
  refine lv_aload_n hx hb dL_into_2 rfl (lv_at hl 0 rfl) ?_
  refine lv_iload_n hx hb dL_into_3 rfl (lv_at hl 1 rfl) ?_
  refine lv_iload_n hx hb dL_into_4 rfl (lv_at hl 2 rfl) ?_
  refine kI_callVs (As := [.int x1, .int x2]) (rest := [.int (0 : Int32), .ref o]) (wr := [(o, .inl (cJ, 1, .inr (.inl OUT)))]) (wn := (o, .inl (cJ, 1, .inr (.inl OUT))) :: wC cI α gw gc gs ge gf cR cL cB pB SD RK RN res.2.1 res.2.2 RT LK LN LS LL US UB BB) S hP hD hS [1, 2, 3, 4, 5, 6, 7, 8, 9, 10, 11, 12, 13, 14, 15, 16, 17, 18, 19] [0] [0, 1, 2, 3, 4, 5, 6, 7, 8, 9, 10, 11, 12, 13, 14, 15, 16, 17, 18, 19] rfl rfl rfl rfl (by decide) rfl rfl (c_X5_into l D cI α gw gc gs ge gf cR cL cB pB SD RK RN RS RC RT LK LN LS LL US UB BB F x1 x2 res hf) (cwV 2 hts gL_into_X5_into rfl rfl rfl (by decide +kernel) ⟨(Nat.le_of_ble_eq_true rfl), (Nat.le_of_ble_eq_true rfl)⟩) 0 rfl rfl rfl hl.1 rfl (Nat.le_of_ble_eq_true rfl) dL_into_5 ⟨Nat.zero_le _, Nat.zero_le _⟩ (fun H locs hP hD hS => ?_)
  refine lv_if_eq (tgt := 15) hx hb dL_into_8 (by decide) (fun c1 => ?_) (fun c1 => ?_)
  · refine lv_lconst (v := 0) hx hb dL_into_15 rfl ?_
    refine va_last hx hb hK2 hP hD hS 0 1 rfl rfl vp01 dL_into_16 (fun H locs hP hD hS => ?_)
    have hP : va_P D vwCl ((o, .inl (cJ, 1, .inr (.inl (vp_updL OUT 0 (lb res.1))))) :: wC cI α gw gc gs ge gf cR cL cB pB SD RK RN res.2.1 res.2.2 RT LK LN LS LL US UB BB) H := by rw [lb_0 c1]; exact hP
    have hD : va_D A ((o, .inl (cJ, 1, .inr (.inl (vp_updL OUT 0 (lb res.1))))) :: wC cI α gw gc gs ge gf cR cL cB pB SD RK RN res.2.1 res.2.2 RT LK LN LS LL US UB BB) := by rw [lb_0 c1]; exact hD
    refine lv_goto (tgt := 24) hx hb dL_into_17 (by decide) ?_
    refine lv_iconst (v := (0 : Int32)) hx hb dL_into_24 (by decide) ?_
    refine W.widen (k := 1) (n := 6) (by decide) (by decide) ?_
    exact kH_ret S rfl hP hD hS dL_into_25
  · refine lv_lconst (v := 1) hx hb dL_into_11 rfl ?_
    refine lv_goto (tgt := 16) hx hb dL_into_12 (by decide) ?_
    refine va_last hx hb hK2 hP hD hS 0 1 rfl rfl vp01 dL_into_16 (fun H locs hP hD hS => ?_)
    have hP : va_P D vwCl ((o, .inl (cJ, 1, .inr (.inl (vp_updL OUT 0 (lb res.1))))) :: wC cI α gw gc gs ge gf cR cL cB pB SD RK RN res.2.1 res.2.2 RT LK LN LS LL US UB BB) H := by rw [lb_1 c1]; exact hP
    have hD : va_D A ((o, .inl (cJ, 1, .inr (.inl (vp_updL OUT 0 (lb res.1))))) :: wC cI α gw gc gs ge gf cR cL cB pB SD RK RN res.2.1 res.2.2 RT LK LN LS LL US UB BB) := by rw [lb_1 c1]; exact hD
    refine lv_goto (tgt := 24) hx hb dL_into_17 (by decide) ?_
    refine lv_iconst (v := (0 : Int32)) hx hb dL_into_24 (by decide) ?_
    refine W.widen (k := 1) (n := 6) (by decide) (by decide) ?_
    exact kH_ret S rfl hP hD hS dL_into_25
set_option maxHeartbeats 4000000 in
set_option maxRecDepth 100000 in
theorem c_L_into_x1 (l : Launch) (hlt : l.stackTraces = false) (D : va_G) (cI cJ : ClassId) (α : Nat → Nat) (o : Nat) (OUT : Nat → Int64) (gw gc gs ge gf cR cL cB pB : Int32) (SD RK RN RS RC RT LK LN LS LL US UB BB : Nat → Int32) (x1 : Int32) (x2 : Int32) (h1 : f_X3_has cR x1 = some 0) : kH l yL_into wsL_into rm_L D cI cJ [.ref (α 0), .int x1, .int x2, .ref o] ((o, .inl (cJ, 1, .inr (.inl OUT))) :: wC cI α gw gc gs ge gf cR cL cB pB SD RK RN RS RC RT LK LN LS LL US UB BB) ((o, .inl (cJ, 1, .inr (.inl OUT))) :: wC cI α gw gc gs ge gf cR cL cB pB SD RK RN RS RC RT LK LN LS LL US UB BB) 1 := by
  refine kH_of (cc := cL_into) (maxL := 5) (ret := (some .int)) (hh := [(0, 17, 20, 13)]) (by decide +kernel) rfl (Nat.le_of_ble_eq_true rfl) hlt ?_
  intro p e s m args below meth c A ls S T hNc hK2 htb H locs hP hD hS hl
  have S : kC p s m args meth c cL_into 5 wsL_into RL (some .int) D cI A := S
  have hx := S.1.1
  have hb := S.1.2.1
  have hts := S.1.2.2.2.2
  have hl : lv_has ls 5 [(0, .ref (α 0)), (1, .int x1), (2, .int x2), (3, .ref o)] := hl
  refine lv_aload_n hx hb dL_into_0 rfl (lv_at hl 3 rfl) ?_
  refine lv_iconst (v := (0 : Int32)) hx hb dL_into_1 (by decide) ?_
  refine lv_aload_n hx hb dL_into_2 rfl (lv_at hl 0 rfl) ?_
  refine lv_iload_n hx hb dL_into_3 rfl (lv_at hl 1 rfl) ?_
  refine lv_iload_n hx hb dL_into_4 rfl (lv_at hl 2 rfl) ?_
  refine kX_catchV (As := [.int x1, .int x2]) (rest := [.int (0 : Int32), .ref o]) (wr := [(o, .inl (cJ, 1, .inr (.inl OUT)))]) S T hP hD hS [1, 2, 3, 4, 5, 6, 7, 8, 9, 10, 11, 12, 13, 14, 15, 16, 17, 18, 19] [0] rfl rfl rfl rfl (by decide) (x_X5_into_1 l hlt D cI α gw gc gs ge gf cR cL cB pB SD RK RN RS RC RT LK LN LS LL US UB BB x1 x2 h1) (cwV 2 hts gL_into_X5_into rfl rfl rfl (by decide +kernel) ⟨(Nat.le_of_ble_eq_true rfl), (Nat.le_of_ble_eq_true rfl)⟩) 0 rfl rfl rfl hl.1 rfl (Nat.le_of_ble_eq_true rfl) dL_into_5 ⟨(Nat.le_of_ble_eq_true rfl), (Nat.le_of_ble_eq_true rfl)⟩ (name := eA) [] ⟨0, 17, 20, 13⟩ [] htb (fun z h => absurd h List.not_mem_nil) rfl (by decide) hNc.link (okw_warm (State.WarmedH.refl s) rfl (T.2.1.1 (.castable eA eA) (by decide +kernel))) (fun q H locs hP hD hS => ?_)
  have hP : va_P D vwCl ((o, .inl (cJ, 1, .inr (.inl OUT))) :: wC cI α gw gc gs ge gf cR cL cB pB SD RK RN RS RC RT LK LN LS LL US UB BB) H := hP
  have hD : va_D A ((o, .inl (cJ, 1, .inr (.inl OUT))) :: wC cI α gw gc gs ge gf cR cL cB pB SD RK RN RS RC RT LK LN LS LL US UB BB) := hD
  refine lv_astore (lv' := [(4, .ref q), (0, .ref (α 0)), (1, .int x1), (2, .int x2), (3, .ref o)]) hx hb dL_into_20 hl (by decide) rfl (fun ls hl => ?_)
  refine lv_iconst (v := (1 : Int32)) hx hb dL_into_22 (by decide) ?_
  exact kH_ret S rfl hP hD hS dL_into_23
set_option maxHeartbeats 4000000 in
set_option maxRecDepth 100000 in
theorem c_L_into_x2 (l : Launch) (hlt : l.stackTraces = false) (D : va_G) (cI cJ : ClassId) (α : Nat → Nat) (o : Nat) (OUT : Nat → Int64) (gw gc gs ge gf cR cL cB pB : Int32) (SD RK RN RS RC RT LK LN LS LL US UB BB : Nat → Int32) (x1 : Int32) (x2 : Int32) (h0 : f_X5_needRule cR x1 = some ()) (h1 : f_X0_hasCell gc x2 = some 0) : kH l yL_into wsL_into rm_L D cI cJ [.ref (α 0), .int x1, .int x2, .ref o] ((o, .inl (cJ, 1, .inr (.inl OUT))) :: wC cI α gw gc gs ge gf cR cL cB pB SD RK RN RS RC RT LK LN LS LL US UB BB) ((o, .inl (cJ, 1, .inr (.inl OUT))) :: wC cI α gw gc gs ge gf cR cL cB pB SD RK RN RS RC RT LK LN LS LL US UB BB) 1 := by
  refine kH_of (cc := cL_into) (maxL := 5) (ret := (some .int)) (hh := [(0, 17, 20, 13)]) (by decide +kernel) rfl (Nat.le_of_ble_eq_true rfl) hlt ?_
  intro p e s m args below meth c A ls S T hNc hK2 htb H locs hP hD hS hl
  have S : kC p s m args meth c cL_into 5 wsL_into RL (some .int) D cI A := S
  have hx := S.1.1
  have hb := S.1.2.1
  have hts := S.1.2.2.2.2
  have hl : lv_has ls 5 [(0, .ref (α 0)), (1, .int x1), (2, .int x2), (3, .ref o)] := hl
  refine lv_aload_n hx hb dL_into_0 rfl (lv_at hl 3 rfl) ?_
  refine lv_iconst (v := (0 : Int32)) hx hb dL_into_1 (by decide) ?_
  refine lv_aload_n hx hb dL_into_2 rfl (lv_at hl 0 rfl) ?_
  refine lv_iload_n hx hb dL_into_3 rfl (lv_at hl 1 rfl) ?_
  refine lv_iload_n hx hb dL_into_4 rfl (lv_at hl 2 rfl) ?_
  refine kX_catchV (As := [.int x1, .int x2]) (rest := [.int (0 : Int32), .ref o]) (wr := [(o, .inl (cJ, 1, .inr (.inl OUT)))]) S T hP hD hS [1, 2, 3, 4, 5, 6, 7, 8, 9, 10, 11, 12, 13, 14, 15, 16, 17, 18, 19] [0] rfl rfl rfl rfl (by decide) (x_X5_into_2 l hlt D cI α gw gc gs ge gf cR cL cB pB SD RK RN RS RC RT LK LN LS LL US UB BB x1 x2 h0 h1) (cwV 2 hts gL_into_X5_into rfl rfl rfl (by decide +kernel) ⟨(Nat.le_of_ble_eq_true rfl), (Nat.le_of_ble_eq_true rfl)⟩) 0 rfl rfl rfl hl.1 rfl (Nat.le_of_ble_eq_true rfl) dL_into_5 ⟨(Nat.le_of_ble_eq_true rfl), (Nat.le_of_ble_eq_true rfl)⟩ (name := eA) [] ⟨0, 17, 20, 13⟩ [] htb (fun z h => absurd h List.not_mem_nil) rfl (by decide) hNc.link (okw_warm (State.WarmedH.refl s) rfl (T.2.1.1 (.castable eA eA) (by decide +kernel))) (fun q H locs hP hD hS => ?_)
  have hP : va_P D vwCl ((o, .inl (cJ, 1, .inr (.inl OUT))) :: wC cI α gw gc gs ge gf cR cL cB pB SD RK RN RS RC RT LK LN LS LL US UB BB) H := hP
  have hD : va_D A ((o, .inl (cJ, 1, .inr (.inl OUT))) :: wC cI α gw gc gs ge gf cR cL cB pB SD RK RN RS RC RT LK LN LS LL US UB BB) := hD
  refine lv_astore (lv' := [(4, .ref q), (0, .ref (α 0)), (1, .int x1), (2, .int x2), (3, .ref o)]) hx hb dL_into_20 hl (by decide) rfl (fun ls hl => ?_)
  refine lv_iconst (v := (1 : Int32)) hx hb dL_into_22 (by decide) ?_
  exact kH_ret S rfl hP hD hS dL_into_23
set_option maxHeartbeats 4000000 in
set_option maxRecDepth 100000 in
theorem c_L_answer_n (l : Launch) (hlt : l.stackTraces = false) (D : va_G) (cI cJ : ClassId) (α : Nat → Nat) (o : Nat) (OUT : Nat → Int64) (gw gc gs ge gf cR cL cB pB : Int32) (SD RK RN RS RC RT LK LN LS LL US UB BB : Nat → Int32) (x1 : Int32) (x2 : Int32) (res : Int32 × (Nat → Int32)) (hf : f_X5_answer gc gs SD x1 x2 = some res) : kH l yL_answer wsL_answer rm_L D cI cJ [.ref (α 0), .int x1, .int x2, .ref o] ((o, .inl (cJ, 1, .inr (.inl OUT))) :: wC cI α gw gc gs ge gf cR cL cB pB SD RK RN RS RC RT LK LN LS LL US UB BB) ((o, .inl (cJ, 1, .inr (.inl (vp_updL OUT 0 (lb res.1))))) :: wC cI α gw gc gs ge gf cR cL cB pB res.2 RK RN RS RC RT LK LN LS LL US UB BB) 0 := by
  refine kH_of (cc := cL_answer) (maxL := 5) (ret := (some .int)) (hh := [(0, 17, 20, 13), (0, 17, 24, 18)]) (by decide +kernel) rfl (Nat.le_of_ble_eq_true rfl) hlt ?_
  intro p e s m args below meth c A ls S T hNc hK2 htb H locs hP hD hS hl
  have S : kC p s m args meth c cL_answer 5 wsL_answer RL (some .int) D cI A := S
  have hx := S.1.1
  have hb := S.1.2.1
  have hts := S.1.2.2.2.2
  have hl : lv_has ls 5 [(0, .ref (α 0)), (1, .int x1), (2, .int x2), (3, .ref o)] := hl
  refine lv_aload_n hx hb dL_answer_0 rfl (lv_at hl 3 rfl) ?_
  refine lv_iconst (v := (0 : Int32)) hx hb dL_answer_1 (by decide) ?_
  refine lv_aload_n hx hb dL_answer_2 rfl (lv_at hl 0 rfl) ?_
  refine lv_iload_n hx hb dL_answer_3 rfl (lv_at hl 1 rfl) ?_
  refine lv_iload_n hx hb dL_answer_4 rfl (lv_at hl 2 rfl) ?_
  refine kI_callVs (As := [.int x1, .int x2]) (rest := [.int (0 : Int32), .ref o]) (wr := [(o, .inl (cJ, 1, .inr (.inl OUT)))]) (wn := (o, .inl (cJ, 1, .inr (.inl OUT))) :: wC cI α gw gc gs ge gf cR cL cB pB res.2 RK RN RS RC RT LK LN LS LL US UB BB) S hP hD hS [1, 2, 3, 4, 5, 6, 7, 8, 9, 10, 11, 12, 13, 14, 15, 16, 17, 18, 19] [0] [0, 1, 2, 3, 4, 5, 6, 7, 8, 9, 10, 11, 12, 13, 14, 15, 16, 17, 18, 19] rfl rfl rfl rfl (by decide) rfl rfl (c_X5_answer l D cI α gw gc gs ge gf cR cL cB pB SD RK RN RS RC RT LK LN LS LL US UB BB x1 x2 res hf) (cwV 2 hts gL_answer_X5_answer rfl rfl rfl (by decide +kernel) ⟨(Nat.le_of_ble_eq_true rfl), (Nat.le_of_ble_eq_true rfl)⟩) 0 rfl rfl rfl hl.1 rfl (Nat.le_of_ble_eq_true rfl) dL_answer_5 ⟨Nat.zero_le _, Nat.zero_le _⟩ (fun H locs hP hD hS => ?_)
  refine lv_if_eq (tgt := 15) hx hb dL_answer_8 (by decide) (fun c1 => ?_) (fun c1 => ?_)
  · refine lv_lconst (v := 0) hx hb dL_answer_15 rfl ?_
    refine va_last hx hb hK2 hP hD hS 0 1 rfl rfl vp01 dL_answer_16 (fun H locs hP hD hS => ?_)
    have hP : va_P D vwCl ((o, .inl (cJ, 1, .inr (.inl (vp_updL OUT 0 (lb res.1))))) :: wC cI α gw gc gs ge gf cR cL cB pB res.2 RK RN RS RC RT LK LN LS LL US UB BB) H := by rw [lb_0 c1]; exact hP
    have hD : va_D A ((o, .inl (cJ, 1, .inr (.inl (vp_updL OUT 0 (lb res.1))))) :: wC cI α gw gc gs ge gf cR cL cB pB res.2 RK RN RS RC RT LK LN LS LL US UB BB) := by rw [lb_0 c1]; exact hD
    refine lv_goto (tgt := 28) hx hb dL_answer_17 (by decide) ?_
    refine lv_iconst (v := (0 : Int32)) hx hb dL_answer_28 (by decide) ?_
    refine W.widen (k := 1) (n := 6) (by decide) (by decide) ?_
    exact kH_ret S rfl hP hD hS dL_answer_29
  · refine lv_lconst (v := 1) hx hb dL_answer_11 rfl ?_
    refine lv_goto (tgt := 16) hx hb dL_answer_12 (by decide) ?_
    refine va_last hx hb hK2 hP hD hS 0 1 rfl rfl vp01 dL_answer_16 (fun H locs hP hD hS => ?_)
    have hP : va_P D vwCl ((o, .inl (cJ, 1, .inr (.inl (vp_updL OUT 0 (lb res.1))))) :: wC cI α gw gc gs ge gf cR cL cB pB res.2 RK RN RS RC RT LK LN LS LL US UB BB) H := by rw [lb_1 c1]; exact hP
    have hD : va_D A ((o, .inl (cJ, 1, .inr (.inl (vp_updL OUT 0 (lb res.1))))) :: wC cI α gw gc gs ge gf cR cL cB pB res.2 RK RN RS RC RT LK LN LS LL US UB BB) := by rw [lb_1 c1]; exact hD
    refine lv_goto (tgt := 28) hx hb dL_answer_17 (by decide) ?_
    refine lv_iconst (v := (0 : Int32)) hx hb dL_answer_28 (by decide) ?_
    refine W.widen (k := 1) (n := 6) (by decide) (by decide) ?_
    exact kH_ret S rfl hP hD hS dL_answer_29
set_option maxHeartbeats 4000000 in
set_option maxRecDepth 100000 in
theorem c_L_answer_x1 (l : Launch) (hlt : l.stackTraces = false) (D : va_G) (cI cJ : ClassId) (α : Nat → Nat) (o : Nat) (OUT : Nat → Int64) (gw gc gs ge gf cR cL cB pB : Int32) (SD RK RN RS RC RT LK LN LS LL US UB BB : Nat → Int32) (x1 : Int32) (x2 : Int32) (h1 : f_X0_hasCell gc x1 = some 0) : kH l yL_answer wsL_answer rm_L D cI cJ [.ref (α 0), .int x1, .int x2, .ref o] ((o, .inl (cJ, 1, .inr (.inl OUT))) :: wC cI α gw gc gs ge gf cR cL cB pB SD RK RN RS RC RT LK LN LS LL US UB BB) ((o, .inl (cJ, 1, .inr (.inl OUT))) :: wC cI α gw gc gs ge gf cR cL cB pB SD RK RN RS RC RT LK LN LS LL US UB BB) 1 := by
  refine kH_of (cc := cL_answer) (maxL := 5) (ret := (some .int)) (hh := [(0, 17, 20, 13), (0, 17, 24, 18)]) (by decide +kernel) rfl (Nat.le_of_ble_eq_true rfl) hlt ?_
  intro p e s m args below meth c A ls S T hNc hK2 htb H locs hP hD hS hl
  have S : kC p s m args meth c cL_answer 5 wsL_answer RL (some .int) D cI A := S
  have hx := S.1.1
  have hb := S.1.2.1
  have hts := S.1.2.2.2.2
  have hl : lv_has ls 5 [(0, .ref (α 0)), (1, .int x1), (2, .int x2), (3, .ref o)] := hl
  refine lv_aload_n hx hb dL_answer_0 rfl (lv_at hl 3 rfl) ?_
  refine lv_iconst (v := (0 : Int32)) hx hb dL_answer_1 (by decide) ?_
  refine lv_aload_n hx hb dL_answer_2 rfl (lv_at hl 0 rfl) ?_
  refine lv_iload_n hx hb dL_answer_3 rfl (lv_at hl 1 rfl) ?_
  refine lv_iload_n hx hb dL_answer_4 rfl (lv_at hl 2 rfl) ?_
  refine kX_catchV (As := [.int x1, .int x2]) (rest := [.int (0 : Int32), .ref o]) (wr := [(o, .inl (cJ, 1, .inr (.inl OUT)))]) S T hP hD hS [1, 2, 3, 4, 5, 6, 7, 8, 9, 10, 11, 12, 13, 14, 15, 16, 17, 18, 19] [0] rfl rfl rfl rfl (by decide) (x_X5_answer_1 l hlt D cI α gw gc gs ge gf cR cL cB pB SD RK RN RS RC RT LK LN LS LL US UB BB x1 x2 h1) (cwV 2 hts gL_answer_X5_answer rfl rfl rfl (by decide +kernel) ⟨(Nat.le_of_ble_eq_true rfl), (Nat.le_of_ble_eq_true rfl)⟩) 0 rfl rfl rfl hl.1 rfl (Nat.le_of_ble_eq_true rfl) dL_answer_5 ⟨(Nat.le_of_ble_eq_true rfl), (Nat.le_of_ble_eq_true rfl)⟩ (name := eA) [] ⟨0, 17, 20, 13⟩ [⟨0, 17, 24, 18⟩] htb (fun z h => absurd h List.not_mem_nil) rfl (by decide) hNc.link (okw_warm (State.WarmedH.refl s) rfl (T.2.1.1 (.castable eA eA) (by decide +kernel))) (fun q H locs hP hD hS => ?_)
  have hP : va_P D vwCl ((o, .inl (cJ, 1, .inr (.inl OUT))) :: wC cI α gw gc gs ge gf cR cL cB pB SD RK RN RS RC RT LK LN LS LL US UB BB) H := hP
  have hD : va_D A ((o, .inl (cJ, 1, .inr (.inl OUT))) :: wC cI α gw gc gs ge gf cR cL cB pB SD RK RN RS RC RT LK LN LS LL US UB BB) := hD
  refine lv_astore (lv' := [(4, .ref q), (0, .ref (α 0)), (1, .int x1), (2, .int x2), (3, .ref o)]) hx hb dL_answer_20 hl (by decide) rfl (fun ls hl => ?_)
  refine lv_iconst (v := (1 : Int32)) hx hb dL_answer_22 (by decide) ?_
  exact kH_ret S rfl hP hD hS dL_answer_23
set_option maxHeartbeats 4000000 in
set_option maxRecDepth 100000 in
theorem c_L_answer_x2 (l : Launch) (hlt : l.stackTraces = false) (D : va_G) (cI cJ : ClassId) (α : Nat → Nat) (o : Nat) (OUT : Nat → Int64) (gw gc gs ge gf cR cL cB pB : Int32) (SD RK RN RS RC RT LK LN LS LL US UB BB : Nat → Int32) (x1 : Int32) (x2 : Int32) (h0 : f_X5_needCell gc x1 = some ()) (hne : ¬ x2 = (-1 : Int32)) (h1 : f_X0_hasSymbol gs x2 = some 0) : kH l yL_answer wsL_answer rm_L D cI cJ [.ref (α 0), .int x1, .int x2, .ref o] ((o, .inl (cJ, 1, .inr (.inl OUT))) :: wC cI α gw gc gs ge gf cR cL cB pB SD RK RN RS RC RT LK LN LS LL US UB BB) ((o, .inl (cJ, 1, .inr (.inl OUT))) :: wC cI α gw gc gs ge gf cR cL cB pB SD RK RN RS RC RT LK LN LS LL US UB BB) 2 := by
  refine kH_of (cc := cL_answer) (maxL := 5) (ret := (some .int)) (hh := [(0, 17, 20, 13), (0, 17, 24, 18)]) (by decide +kernel) rfl (Nat.le_of_ble_eq_true rfl) hlt ?_
  intro p e s m args below meth c A ls S T hNc hK2 htb H locs hP hD hS hl
  have S : kC p s m args meth c cL_answer 5 wsL_answer RL (some .int) D cI A := S
  have hx := S.1.1
  have hb := S.1.2.1
  have hts := S.1.2.2.2.2
  have hl : lv_has ls 5 [(0, .ref (α 0)), (1, .int x1), (2, .int x2), (3, .ref o)] := hl
  refine lv_aload_n hx hb dL_answer_0 rfl (lv_at hl 3 rfl) ?_
  refine lv_iconst (v := (0 : Int32)) hx hb dL_answer_1 (by decide) ?_
  refine lv_aload_n hx hb dL_answer_2 rfl (lv_at hl 0 rfl) ?_
  refine lv_iload_n hx hb dL_answer_3 rfl (lv_at hl 1 rfl) ?_
  refine lv_iload_n hx hb dL_answer_4 rfl (lv_at hl 2 rfl) ?_
  refine kX_catchV (As := [.int x1, .int x2]) (rest := [.int (0 : Int32), .ref o]) (wr := [(o, .inl (cJ, 1, .inr (.inl OUT)))]) S T hP hD hS [1, 2, 3, 4, 5, 6, 7, 8, 9, 10, 11, 12, 13, 14, 15, 16, 17, 18, 19] [0] rfl rfl rfl rfl (by decide) (x_X5_answer_2 l hlt D cI α gw gc gs ge gf cR cL cB pB SD RK RN RS RC RT LK LN LS LL US UB BB x1 x2 h0 hne h1) (cwV 2 hts gL_answer_X5_answer rfl rfl rfl (by decide +kernel) ⟨(Nat.le_of_ble_eq_true rfl), (Nat.le_of_ble_eq_true rfl)⟩) 0 rfl rfl rfl hl.1 rfl (Nat.le_of_ble_eq_true rfl) dL_answer_5 ⟨(Nat.le_of_ble_eq_true rfl), (Nat.le_of_ble_eq_true rfl)⟩ (name := eI) [⟨0, 17, 20, 13⟩] ⟨0, 17, 24, 18⟩ [] htb (fun z h => by cases (List.mem_singleton.mp h); exact Or.inr ⟨by decide, eA, hNc.link, hNc.1⟩) rfl (by decide) (hts (.classLink RL 18 eI) (by decide +kernel)) (okw_warm (State.WarmedH.refl s) rfl (T.2.1.2.1 (.castable eI eI) (by decide +kernel))) (fun q H locs hP hD hS => ?_)
  have hP : va_P D vwCl ((o, .inl (cJ, 1, .inr (.inl OUT))) :: wC cI α gw gc gs ge gf cR cL cB pB SD RK RN RS RC RT LK LN LS LL US UB BB) H := hP
  have hD : va_D A ((o, .inl (cJ, 1, .inr (.inl OUT))) :: wC cI α gw gc gs ge gf cR cL cB pB SD RK RN RS RC RT LK LN LS LL US UB BB) := hD
  refine lv_astore (lv' := [(4, .ref q), (0, .ref (α 0)), (1, .int x1), (2, .int x2), (3, .ref o)]) hx hb dL_answer_24 hl (by decide) rfl (fun ls hl => ?_)
  refine lv_iconst (v := (2 : Int32)) hx hb dL_answer_26 (by decide) ?_
  exact kH_ret S rfl hP hD hS dL_answer_27
set_option maxHeartbeats 4000000 in
set_option maxRecDepth 100000 in
theorem c_L_test_n (l : Launch) (hlt : l.stackTraces = false) (D : va_G) (cI cJ : ClassId) (α : Nat → Nat) (o : Nat) (OUT : Nat → Int64) (gw gc gs ge gf cR cL cB pB : Int32) (SD RK RN RS RC RT LK LN LS LL US UB BB : Nat → Int32) (x1 : Int32) (F : Nat) (res : Int32) (hf : f_X5_test gw gc ge gf cR SD RK RN RS RC F x1 = some res) : kH l yL_test wsL_test rm_L D cI cJ [.ref (α 0), .int x1, .ref o] ((o, .inl (cJ, 1, .inr (.inl OUT))) :: wC cI α gw gc gs ge gf cR cL cB pB SD RK RN RS RC RT LK LN LS LL US UB BB) ((o, .inl (cJ, 1, .inr (.inl (vp_updL OUT 0 (res).toInt64)))) :: wC cI α gw gc gs ge gf cR cL cB pB SD RK RN RS RC RT LK LN LS LL US UB BB) 0 := by
  refine kH_of (cc := cL_test) (maxL := 4) (ret := (some .int)) (hh := [(0, 9, 12, 13)]) (by decide +kernel) rfl (Nat.le_of_ble_eq_true rfl) hlt ?_
  intro p e s m args below meth c A ls S T hNc hK2 htb H locs hP hD hS hl
  have S : kC p s m args meth c cL_test 4 wsL_test RL (some .int) D cI A := S
  have hx := S.1.1
  have hb := S.1.2.1
  have hts := S.1.2.2.2.2
  have hl : lv_has ls 4 [(0, .ref (α 0)), (1, .int x1), (2, .ref o)] := hl
  refine lv_aload_n hx hb dL_test_0 rfl (lv_at hl 2 rfl) ?_
  refine lv_iconst (v := (0 : Int32)) hx hb dL_test_1 (by decide) ?_
  refine lv_aload_n hx hb dL_test_2 rfl (lv_at hl 0 rfl) ?_
  refine lv_iload_n hx hb dL_test_3 rfl (lv_at hl 1 rfl) ?_
  refine kI_callVs (As := [.int x1]) (rest := [.int (0 : Int32), .ref o]) (wr := [(o, .inl (cJ, 1, .inr (.inl OUT)))]) (wn := (o, .inl (cJ, 1, .inr (.inl OUT))) :: wC cI α gw gc gs ge gf cR cL cB pB SD RK RN RS RC RT LK LN LS LL US UB BB) S hP hD hS [1, 2, 3, 4, 5, 6, 7, 8, 9, 10, 11, 12, 13, 14, 15, 16, 17, 18, 19] [0] [0, 1, 2, 3, 4, 5, 6, 7, 8, 9, 10, 11, 12, 13, 14, 15, 16, 17, 18, 19] rfl rfl rfl rfl (by decide) rfl rfl (c_X5_test l D cI α gw gc gs ge gf cR cL cB pB SD RK RN RS RC RT LK LN LS LL US UB BB F x1 res hf) (cwV 1 hts gL_test_X5_test rfl rfl rfl (by decide +kernel) ⟨(Nat.le_of_ble_eq_true rfl), (Nat.le_of_ble_eq_true rfl)⟩) 0 rfl rfl rfl hl.1 rfl (Nat.le_of_ble_eq_true rfl) dL_test_4 ⟨Nat.zero_le _, Nat.zero_le _⟩ (fun H locs hP hD hS => ?_)
  refine lv_i2l (v := (res).toInt64) hx hb dL_test_7 rfl ?_
  refine va_last hx hb hK2 hP hD hS 0 1 rfl rfl vp01 dL_test_8 (fun H locs hP hD hS => ?_)
  have hP : va_P D vwCl ((o, .inl (cJ, 1, .inr (.inl (vp_updL OUT 0 (res).toInt64)))) :: wC cI α gw gc gs ge gf cR cL cB pB SD RK RN RS RC RT LK LN LS LL US UB BB) H := by exact hP
  have hD : va_D A ((o, .inl (cJ, 1, .inr (.inl (vp_updL OUT 0 (res).toInt64)))) :: wC cI α gw gc gs ge gf cR cL cB pB SD RK RN RS RC RT LK LN LS LL US UB BB) := by exact hD
  refine lv_goto (tgt := 15) hx hb dL_test_9 (by decide) ?_
  refine lv_iconst (v := (0 : Int32)) hx hb dL_test_15 (by decide) ?_
  refine W.widen (k := 1) (n := 6) (by decide) (by decide) ?_
  exact kH_ret S rfl hP hD hS dL_test_16
set_option maxHeartbeats 4000000 in
set_option maxRecDepth 100000 in
theorem c_L_test_x1 (l : Launch) (hlt : l.stackTraces = false) (D : va_G) (cI cJ : ClassId) (α : Nat → Nat) (o : Nat) (OUT : Nat → Int64) (gw gc gs ge gf cR cL cB pB : Int32) (SD RK RN RS RC RT LK LN LS LL US UB BB : Nat → Int32) (x1 : Int32) (h1 : f_X3_has cR x1 = some 0) : kH l yL_test wsL_test rm_L D cI cJ [.ref (α 0), .int x1, .ref o] ((o, .inl (cJ, 1, .inr (.inl OUT))) :: wC cI α gw gc gs ge gf cR cL cB pB SD RK RN RS RC RT LK LN LS LL US UB BB) ((o, .inl (cJ, 1, .inr (.inl OUT))) :: wC cI α gw gc gs ge gf cR cL cB pB SD RK RN RS RC RT LK LN LS LL US UB BB) 1 := by
  refine kH_of (cc := cL_test) (maxL := 4) (ret := (some .int)) (hh := [(0, 9, 12, 13)]) (by decide +kernel) rfl (Nat.le_of_ble_eq_true rfl) hlt ?_
  intro p e s m args below meth c A ls S T hNc hK2 htb H locs hP hD hS hl
  have S : kC p s m args meth c cL_test 4 wsL_test RL (some .int) D cI A := S
  have hx := S.1.1
  have hb := S.1.2.1
  have hts := S.1.2.2.2.2
  have hl : lv_has ls 4 [(0, .ref (α 0)), (1, .int x1), (2, .ref o)] := hl
  refine lv_aload_n hx hb dL_test_0 rfl (lv_at hl 2 rfl) ?_
  refine lv_iconst (v := (0 : Int32)) hx hb dL_test_1 (by decide) ?_
  refine lv_aload_n hx hb dL_test_2 rfl (lv_at hl 0 rfl) ?_
  refine lv_iload_n hx hb dL_test_3 rfl (lv_at hl 1 rfl) ?_
  refine kX_catchV (As := [.int x1]) (rest := [.int (0 : Int32), .ref o]) (wr := [(o, .inl (cJ, 1, .inr (.inl OUT)))]) S T hP hD hS [1, 2, 3, 4, 5, 6, 7, 8, 9, 10, 11, 12, 13, 14, 15, 16, 17, 18, 19] [0] rfl rfl rfl rfl (by decide) (x_X5_test_1 l hlt D cI α gw gc gs ge gf cR cL cB pB SD RK RN RS RC RT LK LN LS LL US UB BB x1 h1) (cwV 1 hts gL_test_X5_test rfl rfl rfl (by decide +kernel) ⟨(Nat.le_of_ble_eq_true rfl), (Nat.le_of_ble_eq_true rfl)⟩) 0 rfl rfl rfl hl.1 rfl (Nat.le_of_ble_eq_true rfl) dL_test_4 ⟨(Nat.le_of_ble_eq_true rfl), (Nat.le_of_ble_eq_true rfl)⟩ (name := eA) [] ⟨0, 9, 12, 13⟩ [] htb (fun z h => absurd h List.not_mem_nil) rfl (by decide) hNc.link (okw_warm (State.WarmedH.refl s) rfl (T.2.1.1 (.castable eA eA) (by decide +kernel))) (fun q H locs hP hD hS => ?_)
  have hP : va_P D vwCl ((o, .inl (cJ, 1, .inr (.inl OUT))) :: wC cI α gw gc gs ge gf cR cL cB pB SD RK RN RS RC RT LK LN LS LL US UB BB) H := hP
  have hD : va_D A ((o, .inl (cJ, 1, .inr (.inl OUT))) :: wC cI α gw gc gs ge gf cR cL cB pB SD RK RN RS RC RT LK LN LS LL US UB BB) := hD
  refine lv_astore_n (lv' := [(3, .ref q), (0, .ref (α 0)), (1, .int x1), (2, .ref o)]) hx hb dL_test_12 rfl hl (by decide) rfl (fun ls hl => ?_)
  refine lv_iconst (v := (1 : Int32)) hx hb dL_test_13 (by decide) ?_
  exact kH_ret S rfl hP hD hS dL_test_14
set_option maxHeartbeats 4000000 in
set_option maxRecDepth 100000 in
theorem c_L_literal_n (l : Launch) (hlt : l.stackTraces = false) (D : va_G) (cI cJ : ClassId) (α : Nat → Nat) (o : Nat) (OUT : Nat → Int64) (gw gc gs ge gf cR cL cB pB : Int32) (SD RK RN RS RC RT LK LN LS LL US UB BB : Nat → Int32) (x1 : Int32) (x2 : Int32) (x3 : Int32) (F : Nat) (res : Int32 × (Nat → Int32) × (Nat → Int32)) (hf : f_X5_literal gc gs cL F LS LL x1 x2 x3 = some res) : kH l yL_literal wsL_literal rm_L D cI cJ [.ref (α 0), .int x1, .int x2, .int x3, .ref o] ((o, .inl (cJ, 1, .inr (.inl OUT))) :: wC cI α gw gc gs ge gf cR cL cB pB SD RK RN RS RC RT LK LN LS LL US UB BB) ((o, .inl (cJ, 1, .inr (.inl (vp_updL OUT 0 (lb res.1))))) :: wC cI α gw gc gs ge gf cR cL cB pB SD RK RN RS RC RT LK LN res.2.1 res.2.2 US UB BB) 0 := by
  refine kH_of (cc := cL_literal) (maxL := 6) (ret := (some .int)) (hh := [(0, 19, 22, 13), (0, 19, 26, 18)]) (by decide +kernel) rfl (Nat.le_of_ble_eq_true rfl) hlt ?_
  intro p e s m args below meth c A ls S T hNc hK2 htb H locs hP hD hS hl
  have S : kC p s m args meth c cL_literal 6 wsL_literal RL (some .int) D cI A := S
  have hx := S.1.1
  have hb := S.1.2.1
  have hts := S.1.2.2.2.2
  have hl : lv_has ls 6 [(0, .ref (α 0)), (1, .int x1), (2, .int x2), (3, .int x3), (4, .ref o)] := hl
  refine lv_aload hx hb dL_literal_0 (lv_at hl 4 rfl) ?_
  refine lv_iconst (v := (0 : Int32)) hx hb dL_literal_2 (by decide) ?_
  refine lv_aload_n hx hb dL_literal_3 rfl (lv_at hl 0 rfl) ?_
  refine lv_iload_n hx hb dL_literal_4 rfl (lv_at hl 1 rfl) ?_
  refine lv_iload_n hx hb dL_literal_5 rfl (lv_at hl 2 rfl) ?_
  refine lv_iload_n hx hb dL_literal_6 rfl (lv_at hl 3 rfl) ?_
  refine kI_callVs (As := [.int x1, .int x2, .int x3]) (rest := [.int (0 : Int32), .ref o]) (wr := [(o, .inl (cJ, 1, .inr (.inl OUT)))]) (wn := (o, .inl (cJ, 1, .inr (.inl OUT))) :: wC cI α gw gc gs ge gf cR cL cB pB SD RK RN RS RC RT LK LN res.2.1 res.2.2 US UB BB) S hP hD hS [1, 2, 3, 4, 5, 6, 7, 8, 9, 10, 11, 12, 13, 14, 15, 16, 17, 18, 19] [0] [0, 1, 2, 3, 4, 5, 6, 7, 8, 9, 10, 11, 12, 13, 14, 15, 16, 17, 18, 19] rfl rfl rfl rfl (by decide) rfl rfl (c_X5_literal l D cI α gw gc gs ge gf cR cL cB pB SD RK RN RS RC RT LK LN LS LL US UB BB F x1 x2 x3 res hf) (cwV 3 hts gL_literal_X5_literal rfl rfl rfl (by decide +kernel) ⟨(Nat.le_of_ble_eq_true rfl), (Nat.le_of_ble_eq_true rfl)⟩) 0 rfl rfl rfl hl.1 rfl (Nat.le_of_ble_eq_true rfl) dL_literal_7 ⟨Nat.zero_le _, Nat.zero_le _⟩ (fun H locs hP hD hS => ?_)
  refine lv_if_eq (tgt := 17) hx hb dL_literal_10 (by decide) (fun c1 => ?_) (fun c1 => ?_)
  · refine lv_lconst (v := 0) hx hb dL_literal_17 rfl ?_
    refine va_last hx hb hK2 hP hD hS 0 1 rfl rfl vp01 dL_literal_18 (fun H locs hP hD hS => ?_)
    have hP : va_P D vwCl ((o, .inl (cJ, 1, .inr (.inl (vp_updL OUT 0 (lb res.1))))) :: wC cI α gw gc gs ge gf cR cL cB pB SD RK RN RS RC RT LK LN res.2.1 res.2.2 US UB BB) H := by rw [lb_0 c1]; exact hP
    have hD : va_D A ((o, .inl (cJ, 1, .inr (.inl (vp_updL OUT 0 (lb res.1))))) :: wC cI α gw gc gs ge gf cR cL cB pB SD RK RN RS RC RT LK LN res.2.1 res.2.2 US UB BB) := by rw [lb_0 c1]; exact hD
    refine lv_goto (tgt := 30) hx hb dL_literal_19 (by decide) ?_
    refine lv_iconst (v := (0 : Int32)) hx hb dL_literal_30 (by decide) ?_
    refine W.widen (k := 1) (n := 6) (by decide) (by decide) ?_
    exact kH_ret S rfl hP hD hS dL_literal_31
  · refine lv_lconst (v := 1) hx hb dL_literal_13 rfl ?_
    refine lv_goto (tgt := 18) hx hb dL_literal_14 (by decide) ?_
    refine va_last hx hb hK2 hP hD hS 0 1 rfl rfl vp01 dL_literal_18 (fun H locs hP hD hS => ?_)
    have hP : va_P D vwCl ((o, .inl (cJ, 1, .inr (.inl (vp_updL OUT 0 (lb res.1))))) :: wC cI α gw gc gs ge gf cR cL cB pB SD RK RN RS RC RT LK LN res.2.1 res.2.2 US UB BB) H := by rw [lb_1 c1]; exact hP
    have hD : va_D A ((o, .inl (cJ, 1, .inr (.inl (vp_updL OUT 0 (lb res.1))))) :: wC cI α gw gc gs ge gf cR cL cB pB SD RK RN RS RC RT LK LN res.2.1 res.2.2 US UB BB) := by rw [lb_1 c1]; exact hD
    refine lv_goto (tgt := 30) hx hb dL_literal_19 (by decide) ?_
    refine lv_iconst (v := (0 : Int32)) hx hb dL_literal_30 (by decide) ?_
    refine W.widen (k := 1) (n := 6) (by decide) (by decide) ?_
    exact kH_ret S rfl hP hD hS dL_literal_31
set_option maxHeartbeats 4000000 in
set_option maxRecDepth 100000 in
theorem c_L_literal_x1 (l : Launch) (hlt : l.stackTraces = false) (D : va_G) (cI cJ : ClassId) (α : Nat → Nat) (o : Nat) (OUT : Nat → Int64) (gw gc gs ge gf cR cL cB pB : Int32) (SD RK RN RS RC RT LK LN LS LL US UB BB : Nat → Int32) (x1 : Int32) (x2 : Int32) (x3 : Int32) (h1 : f_X0_hasCell gc x1 = some 0) : kH l yL_literal wsL_literal rm_L D cI cJ [.ref (α 0), .int x1, .int x2, .int x3, .ref o] ((o, .inl (cJ, 1, .inr (.inl OUT))) :: wC cI α gw gc gs ge gf cR cL cB pB SD RK RN RS RC RT LK LN LS LL US UB BB) ((o, .inl (cJ, 1, .inr (.inl OUT))) :: wC cI α gw gc gs ge gf cR cL cB pB SD RK RN RS RC RT LK LN LS LL US UB BB) 1 := by
  refine kH_of (cc := cL_literal) (maxL := 6) (ret := (some .int)) (hh := [(0, 19, 22, 13), (0, 19, 26, 18)]) (by decide +kernel) rfl (Nat.le_of_ble_eq_true rfl) hlt ?_
  intro p e s m args below meth c A ls S T hNc hK2 htb H locs hP hD hS hl
  have S : kC p s m args meth c cL_literal 6 wsL_literal RL (some .int) D cI A := S
  have hx := S.1.1
  have hb := S.1.2.1
  have hts := S.1.2.2.2.2
  have hl : lv_has ls 6 [(0, .ref (α 0)), (1, .int x1), (2, .int x2), (3, .int x3), (4, .ref o)] := hl
  refine lv_aload hx hb dL_literal_0 (lv_at hl 4 rfl) ?_
  refine lv_iconst (v := (0 : Int32)) hx hb dL_literal_2 (by decide) ?_
  refine lv_aload_n hx hb dL_literal_3 rfl (lv_at hl 0 rfl) ?_
  refine lv_iload_n hx hb dL_literal_4 rfl (lv_at hl 1 rfl) ?_
  refine lv_iload_n hx hb dL_literal_5 rfl (lv_at hl 2 rfl) ?_
  refine lv_iload_n hx hb dL_literal_6 rfl (lv_at hl 3 rfl) ?_
  refine kX_catchV (As := [.int x1, .int x2, .int x3]) (rest := [.int (0 : Int32), .ref o]) (wr := [(o, .inl (cJ, 1, .inr (.inl OUT)))]) S T hP hD hS [1, 2, 3, 4, 5, 6, 7, 8, 9, 10, 11, 12, 13, 14, 15, 16, 17, 18, 19] [0] rfl rfl rfl rfl (by decide) (x_X5_literal_1 l hlt D cI α gw gc gs ge gf cR cL cB pB SD RK RN RS RC RT LK LN LS LL US UB BB x1 x2 x3 h1) (cwV 3 hts gL_literal_X5_literal rfl rfl rfl (by decide +kernel) ⟨(Nat.le_of_ble_eq_true rfl), (Nat.le_of_ble_eq_true rfl)⟩) 0 rfl rfl rfl hl.1 rfl (Nat.le_of_ble_eq_true rfl) dL_literal_7 ⟨(Nat.le_of_ble_eq_true rfl), (Nat.le_of_ble_eq_true rfl)⟩ (name := eA) [] ⟨0, 19, 22, 13⟩ [⟨0, 19, 26, 18⟩] htb (fun z h => absurd h List.not_mem_nil) rfl (by decide) hNc.link (okw_warm (State.WarmedH.refl s) rfl (T.2.1.1 (.castable eA eA) (by decide +kernel))) (fun q H locs hP hD hS => ?_)
  have hP : va_P D vwCl ((o, .inl (cJ, 1, .inr (.inl OUT))) :: wC cI α gw gc gs ge gf cR cL cB pB SD RK RN RS RC RT LK LN LS LL US UB BB) H := hP
  have hD : va_D A ((o, .inl (cJ, 1, .inr (.inl OUT))) :: wC cI α gw gc gs ge gf cR cL cB pB SD RK RN RS RC RT LK LN LS LL US UB BB) := hD
  refine lv_astore (lv' := [(5, .ref q), (0, .ref (α 0)), (1, .int x1), (2, .int x2), (3, .int x3), (4, .ref o)]) hx hb dL_literal_22 hl (by decide) rfl (fun ls hl => ?_)
  refine lv_iconst (v := (1 : Int32)) hx hb dL_literal_24 (by decide) ?_
  exact kH_ret S rfl hP hD hS dL_literal_25
set_option maxHeartbeats 4000000 in
set_option maxRecDepth 100000 in
theorem c_L_literal_x2 (l : Launch) (hlt : l.stackTraces = false) (D : va_G) (cI cJ : ClassId) (α : Nat → Nat) (o : Nat) (OUT : Nat → Int64) (gw gc gs ge gf cR cL cB pB : Int32) (SD RK RN RS RC RT LK LN LS LL US UB BB : Nat → Int32) (x1 : Int32) (x2 : Int32) (x3 : Int32) (h0 : f_X5_needCell gc x1 = some ()) (h1 : f_X0_hasSymbol gs x2 = some 0) : kH l yL_literal wsL_literal rm_L D cI cJ [.ref (α 0), .int x1, .int x2, .int x3, .ref o] ((o, .inl (cJ, 1, .inr (.inl OUT))) :: wC cI α gw gc gs ge gf cR cL cB pB SD RK RN RS RC RT LK LN LS LL US UB BB) ((o, .inl (cJ, 1, .inr (.inl OUT))) :: wC cI α gw gc gs ge gf cR cL cB pB SD RK RN RS RC RT LK LN LS LL US UB BB) 2 := by
  refine kH_of (cc := cL_literal) (maxL := 6) (ret := (some .int)) (hh := [(0, 19, 22, 13), (0, 19, 26, 18)]) (by decide +kernel) rfl (Nat.le_of_ble_eq_true rfl) hlt ?_
  intro p e s m args below meth c A ls S T hNc hK2 htb H locs hP hD hS hl
  have S : kC p s m args meth c cL_literal 6 wsL_literal RL (some .int) D cI A := S
  have hx := S.1.1
  have hb := S.1.2.1
  have hts := S.1.2.2.2.2
  have hl : lv_has ls 6 [(0, .ref (α 0)), (1, .int x1), (2, .int x2), (3, .int x3), (4, .ref o)] := hl
  refine lv_aload hx hb dL_literal_0 (lv_at hl 4 rfl) ?_
  refine lv_iconst (v := (0 : Int32)) hx hb dL_literal_2 (by decide) ?_
  refine lv_aload_n hx hb dL_literal_3 rfl (lv_at hl 0 rfl) ?_
  refine lv_iload_n hx hb dL_literal_4 rfl (lv_at hl 1 rfl) ?_
  refine lv_iload_n hx hb dL_literal_5 rfl (lv_at hl 2 rfl) ?_
  refine lv_iload_n hx hb dL_literal_6 rfl (lv_at hl 3 rfl) ?_
  refine kX_catchV (As := [.int x1, .int x2, .int x3]) (rest := [.int (0 : Int32), .ref o]) (wr := [(o, .inl (cJ, 1, .inr (.inl OUT)))]) S T hP hD hS [1, 2, 3, 4, 5, 6, 7, 8, 9, 10, 11, 12, 13, 14, 15, 16, 17, 18, 19] [0] rfl rfl rfl rfl (by decide) (x_X5_literal_2 l hlt D cI α gw gc gs ge gf cR cL cB pB SD RK RN RS RC RT LK LN LS LL US UB BB x1 x2 x3 h0 h1) (cwV 3 hts gL_literal_X5_literal rfl rfl rfl (by decide +kernel) ⟨(Nat.le_of_ble_eq_true rfl), (Nat.le_of_ble_eq_true rfl)⟩) 0 rfl rfl rfl hl.1 rfl (Nat.le_of_ble_eq_true rfl) dL_literal_7 ⟨(Nat.le_of_ble_eq_true rfl), (Nat.le_of_ble_eq_true rfl)⟩ (name := eI) [⟨0, 19, 22, 13⟩] ⟨0, 19, 26, 18⟩ [] htb (fun z h => by cases (List.mem_singleton.mp h); exact Or.inr ⟨by decide, eA, hNc.link, hNc.1⟩) rfl (by decide) (hts (.classLink RL 18 eI) (by decide +kernel)) (okw_warm (State.WarmedH.refl s) rfl (T.2.1.2.1 (.castable eI eI) (by decide +kernel))) (fun q H locs hP hD hS => ?_)
  have hP : va_P D vwCl ((o, .inl (cJ, 1, .inr (.inl OUT))) :: wC cI α gw gc gs ge gf cR cL cB pB SD RK RN RS RC RT LK LN LS LL US UB BB) H := hP
  have hD : va_D A ((o, .inl (cJ, 1, .inr (.inl OUT))) :: wC cI α gw gc gs ge gf cR cL cB pB SD RK RN RS RC RT LK LN LS LL US UB BB) := hD
  refine lv_astore (lv' := [(5, .ref q), (0, .ref (α 0)), (1, .int x1), (2, .int x2), (3, .int x3), (4, .ref o)]) hx hb dL_literal_26 hl (by decide) rfl (fun ls hl => ?_)
  refine lv_iconst (v := (2 : Int32)) hx hb dL_literal_28 (by decide) ?_
  exact kH_ret S rfl hP hD hS dL_literal_29
set_option maxHeartbeats 4000000 in
set_option maxRecDepth 100000 in
theorem c_L_tell_n (l : Launch) (hlt : l.stackTraces = false) (D : va_G) (cI cJ : ClassId) (α : Nat → Nat) (o : Nat) (OUT : Nat → Int64) (gw gc gs ge gf cR cL cB pB : Int32) (SD RK RN RS RC RT LK LN LS LL US UB BB : Nat → Int32) (x1 : Int32) (x2 : Int32) (res : Int32) (hf : f_X5_tell gs cL LK LN LS LL x1 x2 = some res) : kH l yL_tell wsL_tell rm_L D cI cJ [.ref (α 0), .int x1, .int x2, .ref o] ((o, .inl (cJ, 1, .inr (.inl OUT))) :: wC cI α gw gc gs ge gf cR cL cB pB SD RK RN RS RC RT LK LN LS LL US UB BB) ((o, .inl (cJ, 1, .inr (.inl (vp_updL OUT 0 (res).toInt64)))) :: wC cI α gw gc gs ge gf cR cL cB pB SD RK RN RS RC RT LK LN LS LL US UB BB) 0 := by
  refine kH_of (cc := cL_tell) (maxL := 5) (ret := (some .int)) (hh := [(0, 10, 13, 13)]) (by decide +kernel) rfl (Nat.le_of_ble_eq_true rfl) hlt ?_
  intro p e s m args below meth c A ls S T hNc hK2 htb H locs hP hD hS hl
  have S : kC p s m args meth c cL_tell 5 wsL_tell RL (some .int) D cI A := S
  have hx := S.1.1
  have hb := S.1.2.1
  have hts := S.1.2.2.2.2
  have hl : lv_has ls 5 [(0, .ref (α 0)), (1, .int x1), (2, .int x2), (3, .ref o)] := hl
  refine lv_aload_n hx hb dL_tell_0 rfl (lv_at hl 3 rfl) ?_
  refine lv_iconst (v := (0 : Int32)) hx hb dL_tell_1 (by decide) ?_
  refine lv_aload_n hx hb dL_tell_2 rfl (lv_at hl 0 rfl) ?_
  refine lv_iload_n hx hb dL_tell_3 rfl (lv_at hl 1 rfl) ?_
  refine lv_iload_n hx hb dL_tell_4 rfl (lv_at hl 2 rfl) ?_
  refine kI_callVs (As := [.int x1, .int x2]) (rest := [.int (0 : Int32), .ref o]) (wr := [(o, .inl (cJ, 1, .inr (.inl OUT)))]) (wn := (o, .inl (cJ, 1, .inr (.inl OUT))) :: wC cI α gw gc gs ge gf cR cL cB pB SD RK RN RS RC RT LK LN LS LL US UB BB) S hP hD hS [1, 2, 3, 4, 5, 6, 7, 8, 9, 10, 11, 12, 13, 14, 15, 16, 17, 18, 19] [0] [0, 1, 2, 3, 4, 5, 6, 7, 8, 9, 10, 11, 12, 13, 14, 15, 16, 17, 18, 19] rfl rfl rfl rfl (by decide) rfl rfl (c_X5_tell l D cI α gw gc gs ge gf cR cL cB pB SD RK RN RS RC RT LK LN LS LL US UB BB x1 x2 res hf) (cwV 2 hts gL_tell_X5_tell rfl rfl rfl (by decide +kernel) ⟨(Nat.le_of_ble_eq_true rfl), (Nat.le_of_ble_eq_true rfl)⟩) 0 rfl rfl rfl hl.1 rfl (Nat.le_of_ble_eq_true rfl) dL_tell_5 ⟨Nat.zero_le _, Nat.zero_le _⟩ (fun H locs hP hD hS => ?_)
  refine lv_i2l (v := (res).toInt64) hx hb dL_tell_8 rfl ?_
  refine va_last hx hb hK2 hP hD hS 0 1 rfl rfl vp01 dL_tell_9 (fun H locs hP hD hS => ?_)
  have hP : va_P D vwCl ((o, .inl (cJ, 1, .inr (.inl (vp_updL OUT 0 (res).toInt64)))) :: wC cI α gw gc gs ge gf cR cL cB pB SD RK RN RS RC RT LK LN LS LL US UB BB) H := by exact hP
  have hD : va_D A ((o, .inl (cJ, 1, .inr (.inl (vp_updL OUT 0 (res).toInt64)))) :: wC cI α gw gc gs ge gf cR cL cB pB SD RK RN RS RC RT LK LN LS LL US UB BB) := by exact hD
  refine lv_goto (tgt := 17) hx hb dL_tell_10 (by decide) ?_
  refine lv_iconst (v := (0 : Int32)) hx hb dL_tell_17 (by decide) ?_
  refine W.widen (k := 1) (n := 6) (by decide) (by decide) ?_
  exact kH_ret S rfl hP hD hS dL_tell_18
set_option maxHeartbeats 4000000 in
set_option maxRecDepth 100000 in
theorem c_L_tell_x1 (l : Launch) (hlt : l.stackTraces = false) (D : va_G) (cI cJ : ClassId) (α : Nat → Nat) (o : Nat) (OUT : Nat → Int64) (gw gc gs ge gf cR cL cB pB : Int32) (SD RK RN RS RC RT LK LN LS LL US UB BB : Nat → Int32) (x1 : Int32) (x2 : Int32) (h1 : x1 < 0 ∨ ¬ x1 < cL) : kH l yL_tell wsL_tell rm_L D cI cJ [.ref (α 0), .int x1, .int x2, .ref o] ((o, .inl (cJ, 1, .inr (.inl OUT))) :: wC cI α gw gc gs ge gf cR cL cB pB SD RK RN RS RC RT LK LN LS LL US UB BB) ((o, .inl (cJ, 1, .inr (.inl OUT))) :: wC cI α gw gc gs ge gf cR cL cB pB SD RK RN RS RC RT LK LN LS LL US UB BB) 1 := by
  refine kH_of (cc := cL_tell) (maxL := 5) (ret := (some .int)) (hh := [(0, 10, 13, 13)]) (by decide +kernel) rfl (Nat.le_of_ble_eq_true rfl) hlt ?_
  intro p e s m args below meth c A ls S T hNc hK2 htb H locs hP hD hS hl
  have S : kC p s m args meth c cL_tell 5 wsL_tell RL (some .int) D cI A := S
  have hx := S.1.1
  have hb := S.1.2.1
  have hts := S.1.2.2.2.2
  have hl : lv_has ls 5 [(0, .ref (α 0)), (1, .int x1), (2, .int x2), (3, .ref o)] := hl
  refine lv_aload_n hx hb dL_tell_0 rfl (lv_at hl 3 rfl) ?_
  refine lv_iconst (v := (0 : Int32)) hx hb dL_tell_1 (by decide) ?_
  refine lv_aload_n hx hb dL_tell_2 rfl (lv_at hl 0 rfl) ?_
  refine lv_iload_n hx hb dL_tell_3 rfl (lv_at hl 1 rfl) ?_
  refine lv_iload_n hx hb dL_tell_4 rfl (lv_at hl 2 rfl) ?_
  refine kX_catchV (As := [.int x1, .int x2]) (rest := [.int (0 : Int32), .ref o]) (wr := [(o, .inl (cJ, 1, .inr (.inl OUT)))]) S T hP hD hS [1, 2, 3, 4, 5, 6, 7, 8, 9, 10, 11, 12, 13, 14, 15, 16, 17, 18, 19] [0] rfl rfl rfl rfl (by decide) (x_X5_tell_1 l hlt D cI α gw gc gs ge gf cR cL cB pB SD RK RN RS RC RT LK LN LS LL US UB BB x1 x2 h1) (cwV 2 hts gL_tell_X5_tell rfl rfl rfl (by decide +kernel) ⟨(Nat.le_of_ble_eq_true rfl), (Nat.le_of_ble_eq_true rfl)⟩) 0 rfl rfl rfl hl.1 rfl (Nat.le_of_ble_eq_true rfl) dL_tell_5 ⟨(Nat.le_of_ble_eq_true rfl), (Nat.le_of_ble_eq_true rfl)⟩ (name := eA) [] ⟨0, 10, 13, 13⟩ [] htb (fun z h => absurd h List.not_mem_nil) rfl (by decide) hNc.link (okw_warm (State.WarmedH.refl s) rfl (T.2.1.1 (.castable eA eA) (by decide +kernel))) (fun q H locs hP hD hS => ?_)
  have hP : va_P D vwCl ((o, .inl (cJ, 1, .inr (.inl OUT))) :: wC cI α gw gc gs ge gf cR cL cB pB SD RK RN RS RC RT LK LN LS LL US UB BB) H := hP
  have hD : va_D A ((o, .inl (cJ, 1, .inr (.inl OUT))) :: wC cI α gw gc gs ge gf cR cL cB pB SD RK RN RS RC RT LK LN LS LL US UB BB) := hD
  refine lv_astore (lv' := [(4, .ref q), (0, .ref (α 0)), (1, .int x1), (2, .int x2), (3, .ref o)]) hx hb dL_tell_13 hl (by decide) rfl (fun ls hl => ?_)
  refine lv_iconst (v := (1 : Int32)) hx hb dL_tell_15 (by decide) ?_
  exact kH_ret S rfl hP hD hS dL_tell_16
set_option maxHeartbeats 4000000 in
set_option maxRecDepth 100000 in
theorem c_L_may_n (l : Launch) (hlt : l.stackTraces = false) (D : va_G) (cI cJ : ClassId) (α : Nat → Nat) (o : Nat) (OUT : Nat → Int64) (gw gc gs ge gf cR cL cB pB : Int32) (SD RK RN RS RC RT LK LN LS LL US UB BB : Nat → Int32) (x1 : Int32) (F : Nat) (res : Int32 × (Nat → Int32)) (hf : f_X5_may gc gs cL LS LL F US x1 = some res) : kH l yL_may wsL_may rm_L D cI cJ [.ref (α 0), .int x1, .ref o] ((o, .inl (cJ, 1, .inr (.inl OUT))) :: wC cI α gw gc gs ge gf cR cL cB pB SD RK RN RS RC RT LK LN LS LL US UB BB) ((o, .inl (cJ, 1, .inr (.inl (vp_updL OUT 0 (res.1).toInt64)))) :: wC cI α gw gc gs ge gf cR cL cB pB SD RK RN RS RC RT LK LN LS LL res.2 UB BB) 0 := by
  refine kH_of (cc := cL_may) (maxL := 4) (ret := (some .int)) (hh := [(0, 9, 12, 13)]) (by decide +kernel) rfl (Nat.le_of_ble_eq_true rfl) hlt ?_
  intro p e s m args below meth c A ls S T hNc hK2 htb H locs hP hD hS hl
  have S : kC p s m args meth c cL_may 4 wsL_may RL (some .int) D cI A := S
  have hx := S.1.1
  have hb := S.1.2.1
  have hts := S.1.2.2.2.2
  have hl : lv_has ls 4 [(0, .ref (α 0)), (1, .int x1), (2, .ref o)] := hl
  refine lv_aload_n hx hb dL_may_0 rfl (lv_at hl 2 rfl) ?_
  refine lv_iconst (v := (0 : Int32)) hx hb dL_may_1 (by decide) ?_
  refine lv_aload_n hx hb dL_may_2 rfl (lv_at hl 0 rfl) ?_
  refine lv_iload_n hx hb dL_may_3 rfl (lv_at hl 1 rfl) ?_
  refine kI_callVs (As := [.int x1]) (rest := [.int (0 : Int32), .ref o]) (wr := [(o, .inl (cJ, 1, .inr (.inl OUT)))]) (wn := (o, .inl (cJ, 1, .inr (.inl OUT))) :: wC cI α gw gc gs ge gf cR cL cB pB SD RK RN RS RC RT LK LN LS LL res.2 UB BB) S hP hD hS [1, 2, 3, 4, 5, 6, 7, 8, 9, 10, 11, 12, 13, 14, 15, 16, 17, 18, 19] [0] [0, 1, 2, 3, 4, 5, 6, 7, 8, 9, 10, 11, 12, 13, 14, 15, 16, 17, 18, 19] rfl rfl rfl rfl (by decide) rfl rfl (c_X5_may l D cI α gw gc gs ge gf cR cL cB pB SD RK RN RS RC RT LK LN LS LL US UB BB F x1 res hf) (cwV 1 hts gL_may_X5_may rfl rfl rfl (by decide +kernel) ⟨(Nat.le_of_ble_eq_true rfl), (Nat.le_of_ble_eq_true rfl)⟩) 0 rfl rfl rfl hl.1 rfl (Nat.le_of_ble_eq_true rfl) dL_may_4 ⟨Nat.zero_le _, Nat.zero_le _⟩ (fun H locs hP hD hS => ?_)
  refine lv_i2l (v := (res.1).toInt64) hx hb dL_may_7 rfl ?_
  refine va_last hx hb hK2 hP hD hS 0 1 rfl rfl vp01 dL_may_8 (fun H locs hP hD hS => ?_)
  have hP : va_P D vwCl ((o, .inl (cJ, 1, .inr (.inl (vp_updL OUT 0 (res.1).toInt64)))) :: wC cI α gw gc gs ge gf cR cL cB pB SD RK RN RS RC RT LK LN LS LL res.2 UB BB) H := by exact hP
  have hD : va_D A ((o, .inl (cJ, 1, .inr (.inl (vp_updL OUT 0 (res.1).toInt64)))) :: wC cI α gw gc gs ge gf cR cL cB pB SD RK RN RS RC RT LK LN LS LL res.2 UB BB) := by exact hD
  refine lv_goto (tgt := 15) hx hb dL_may_9 (by decide) ?_
  refine lv_iconst (v := (0 : Int32)) hx hb dL_may_15 (by decide) ?_
  refine W.widen (k := 1) (n := 6) (by decide) (by decide) ?_
  exact kH_ret S rfl hP hD hS dL_may_16
set_option maxHeartbeats 4000000 in
set_option maxRecDepth 100000 in
theorem c_L_may_x1 (l : Launch) (hlt : l.stackTraces = false) (D : va_G) (cI cJ : ClassId) (α : Nat → Nat) (o : Nat) (OUT : Nat → Int64) (gw gc gs ge gf cR cL cB pB : Int32) (SD RK RN RS RC RT LK LN LS LL US UB BB : Nat → Int32) (x1 : Int32) (h1 : f_X0_hasCell gc x1 = some 0) : kH l yL_may wsL_may rm_L D cI cJ [.ref (α 0), .int x1, .ref o] ((o, .inl (cJ, 1, .inr (.inl OUT))) :: wC cI α gw gc gs ge gf cR cL cB pB SD RK RN RS RC RT LK LN LS LL US UB BB) ((o, .inl (cJ, 1, .inr (.inl OUT))) :: wC cI α gw gc gs ge gf cR cL cB pB SD RK RN RS RC RT LK LN LS LL US UB BB) 1 := by
  refine kH_of (cc := cL_may) (maxL := 4) (ret := (some .int)) (hh := [(0, 9, 12, 13)]) (by decide +kernel) rfl (Nat.le_of_ble_eq_true rfl) hlt ?_
  intro p e s m args below meth c A ls S T hNc hK2 htb H locs hP hD hS hl
  have S : kC p s m args meth c cL_may 4 wsL_may RL (some .int) D cI A := S
  have hx := S.1.1
  have hb := S.1.2.1
  have hts := S.1.2.2.2.2
  have hl : lv_has ls 4 [(0, .ref (α 0)), (1, .int x1), (2, .ref o)] := hl
  refine lv_aload_n hx hb dL_may_0 rfl (lv_at hl 2 rfl) ?_
  refine lv_iconst (v := (0 : Int32)) hx hb dL_may_1 (by decide) ?_
  refine lv_aload_n hx hb dL_may_2 rfl (lv_at hl 0 rfl) ?_
  refine lv_iload_n hx hb dL_may_3 rfl (lv_at hl 1 rfl) ?_
  refine kX_catchV (As := [.int x1]) (rest := [.int (0 : Int32), .ref o]) (wr := [(o, .inl (cJ, 1, .inr (.inl OUT)))]) S T hP hD hS [1, 2, 3, 4, 5, 6, 7, 8, 9, 10, 11, 12, 13, 14, 15, 16, 17, 18, 19] [0] rfl rfl rfl rfl (by decide) (x_X5_may_1 l hlt D cI α gw gc gs ge gf cR cL cB pB SD RK RN RS RC RT LK LN LS LL US UB BB x1 h1) (cwV 1 hts gL_may_X5_may rfl rfl rfl (by decide +kernel) ⟨(Nat.le_of_ble_eq_true rfl), (Nat.le_of_ble_eq_true rfl)⟩) 0 rfl rfl rfl hl.1 rfl (Nat.le_of_ble_eq_true rfl) dL_may_4 ⟨(Nat.le_of_ble_eq_true rfl), (Nat.le_of_ble_eq_true rfl)⟩ (name := eA) [] ⟨0, 9, 12, 13⟩ [] htb (fun z h => absurd h List.not_mem_nil) rfl (by decide) hNc.link (okw_warm (State.WarmedH.refl s) rfl (T.2.1.1 (.castable eA eA) (by decide +kernel))) (fun q H locs hP hD hS => ?_)
  have hP : va_P D vwCl ((o, .inl (cJ, 1, .inr (.inl OUT))) :: wC cI α gw gc gs ge gf cR cL cB pB SD RK RN RS RC RT LK LN LS LL US UB BB) H := hP
  have hD : va_D A ((o, .inl (cJ, 1, .inr (.inl OUT))) :: wC cI α gw gc gs ge gf cR cL cB pB SD RK RN RS RC RT LK LN LS LL US UB BB) := hD
  refine lv_astore_n (lv' := [(3, .ref q), (0, .ref (α 0)), (1, .int x1), (2, .ref o)]) hx hb dL_may_12 rfl hl (by decide) rfl (fun ls hl => ?_)
  refine lv_iconst (v := (1 : Int32)) hx hb dL_may_13 (by decide) ?_
  exact kH_ret S rfl hP hD hS dL_may_14
