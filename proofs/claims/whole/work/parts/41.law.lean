/-! the law: written by wip/gen/lawgen.py; the head is the skeleton's -/
/-! THE CLAIM OUT OF ONE WALK OF THE LAW'S BODY. Your part is whole_start (and what it stands on); all else here is the same for every law, but numbers. -/
def R_law : String := "ProofCheckerLaw"
def lw_P (b : Addr) (xs : List Int32) (args : Array Value) (s : State) : Prop := args = #[.ref b] ∧ s.IntsAt b xs ∧ xs.length ≤ 2051 ∧ (Jvm.Cond.and given_1 narrow_1).before args s = true
def lw_Q (_ : Array Value) (s : State) (o : Outcome) (t : State) : Prop := o = .returned (some (.int 1)) ∧ Framed s o t [] 601024 7292999
def lw_Z (below : List Frame) (a : Array Value) (s : State) : State → Prop := fun t => ∃ o, t.status = .running ∧ Ended t below o ∧ lw_Q a s o t
/-- the law's own end, with 1 on the stack, nothing written that was there before, its room as the claim has it -/
theorem lw_ret {p : Program} {l : Launch} {e : Env} {s : State} {m : MethodId} {below : List Frame} {meth : Method} {c : Code} {b : Nat} (hx : p.tables.exec = Jvm.exec) (hb : c.code = code) (hr : meth.sig.returnType = ret) (hlocks : meth.locks = false) {pc : Nat} {H : Heap} {ls : Array Slot} (hdg : decode code pc = .ok (.ireturn, 1)) : W p l e room_1 s m #[Value.ref b] below meth c H [] 601024 7292999 (lw_Z below #[Value.ref b] s) (F0 m pc ls [.int 1]) := by
  intro T hT X
  obtain ⟨fs, hret, hrun, hended, hW, hframe⟩ := X.leave (v := some (.int 1)) (hlocks := hlocks) (fun h => by rw [hr] at h; cases h)
  have hmeth' : T.vm.method? m = some meth := X.method'
  refine ⟨T.setFrames fs, ?_, .returned (some (.int 1)), hrun, hended, rfl, ⟨_, rfl⟩, hW, hframe⟩
  jvm_step X.here [X.here.top, hx, hb, hdg, hmeth', hr, ret, narrow_b1]
  (try refine ⟨rfl, ?_⟩); (try refine ⟨rfl, ?_⟩)
  first | (intro acts; rw [hret _ acts rfl rfl rfl]) | rw [hret _ _ rfl rfl rfl]
  exact Steps.refl _
/-- what holds at the law's entry: the machine, the code, the tables' words (any of lw_tbl by 'hts w (by decide +kernel)'), the script of L ints xs at the cell b, what the Statement gives of the start (any of its parts by flat_of_before) -/
def lw_At (p : Program) (s : State) (m : MethodId) (meth : Method) (c : Code) (b L : Nat) (xs : Nat → Int32) : Prop :=
  p.tables.exec = Jvm.exec ∧ c.code = code ∧ meth.sig.returnType = ret ∧ c.maxLocals = 7 ∧ s.vm.findClass R_law = some m.cls ∧ (∀ w ∈ lw_tbl, w.before #[Value.ref b] s = true) ∧ va_X b L xs s s.heap ∧ b < s.heap.size ∧ meth.locks = false ∧ (Jvm.Cond.and given_1 narrow_1).before #[Value.ref b] s = true
theorem lw_up (OUT : Nat → Int64) (x : Int64) : vp_updL OUT 0 x (0 : Int32).toNatClampNeg = x := rfl
theorem lw_c0 {OUT : Nat → Int64} {a b : Int32} (h : lb a = lb b) (hz : b = 0) : lg_cmp (vp_updL OUT 0 (lb a) (0 : Int32).toNatClampNeg) 0 = 0 := by
  rw [lw_up, h, lb_0 hz]; rfl
theorem lw_c1 {OUT : Nat → Int64} {a b : Int32} (h : lb a = lb b) (hz : ¬ b = 0) : lg_cmp (vp_updL OUT 0 (lb a) (0 : Int32).toNatClampNeg) 1 = 0 := by
  rw [lw_up, h, lb_1 hz]; rfl
theorem lw_ci {OUT : Nat → Int64} {a b : Int32} (h : a = b) : lg_cmp (vp_updL OUT 0 a.toInt64 (0 : Int32).toNatClampNeg) b.toInt64 = 0 := by
  rw [lw_up, h]; simp [lg_cmp]
theorem law_lt {i L : Nat} (hL : L ≤ 2051) (hi : i ≤ 2055) (h : ¬ nI L - (4 : Int32) < nI i) : i + 4 ≤ L := by
  have h1 : (nI L - nI 4).toInt = (L : Int) - 4 := pk_sub_toInt (by omega) (by omega)
  have h2 : (nI i).toInt = (i : Int) := nI_toInt (by omega)
  have h3 : ¬ (nI L - nI 4).toInt < (nI i).toInt := fun q => h (Int32.lt_iff_toInt_lt.mpr q)
  rw [h1, h2] at h3
  omega
def wL (cI cJ : ClassId) (α β : Nat → Nat) (o : Nat) (OUT : Nat → Int64) (gw gc gs ge gf cR cL cB pB : Int32) (SD RK RN RS RC RT LK LN LS LL US UB BB : Nat → Int32) (mT mW mH mS mR mL mC mZ mA mB : Int32) (KK KN KS KC AN JK JN JS JL MY KP FI TX : Nat → Int32) : va_W :=
  wC cI α gw gc gs ge gf cR cL cB pB SD RK RN RS RC RT LK LN LS LL US UB BB ++ (wM cI β mT mW mH mS mR mL mC mZ mA mB KK KN KS KC AN JK JN JS JL MY KP FI TX ++ [(o, .inl (cJ, 1, .inr (.inl OUT)))])
set_option maxHeartbeats 8000000 in
set_option maxRecDepth 100000 in
theorem lc_rule {p : Program} {l : Launch} {e : Env} {s : State} {m : MethodId} {below : List Frame} {meth : Method} {c : Code} {D : va_G} {cI cJ : ClassId} {α β : Nat → Nat} {o : Nat} {A : Nat → Prop} {b L : Nat} {xs : Nat → Int32} (hL : L ≤ 2051) (hlt : l.stackTraces = false) (S : kC p s m #[Value.ref b] meth c cL_law 7 wsL_law RL ret D cI A) (T : kT l s A) (hNc : lk s) (hK2 : va_K D vwCl [(cI, .int), (cJ, .long)] s) (hX : va_X b L xs s s.heap) (hbl : b < s.heap.size) (hbA : ¬ A b) (hA9 : ∀ q, A q → s.heap.size ≤ q) (k i : Nat) (hk : k ≤ 512) (hv0 : vp_in (nI i) L) (hv1 : vp_in (nI i + (1 : Int32)) L) (hv2 : vp_in (nI i + (2 : Int32)) L) (hv3 : vp_in (nI i + (3 : Int32)) L)
    (w737 : ∀ (OUT : Nat → Int64) (gw gc gs ge gf cR cL cB pB : Int32) (SD RK RN RS RC RT LK LN LS LL US UB BB : Nat → Int32) (mT mW mH mS mR mL mC mZ mA mB : Int32) (KK KN KS KC AN JK JN JS JL MY KP FI TX : Nat → Int32) (hs : Sim gw gc gs ge gf cR cL cB pB SD RK RN RS RC RT LK LN LS LL US UB BB mT mW mH mS mR mL mC mZ mA mB KK KN KS KC AN JK JN JS JL MY KP FI TX) (H : Heap) (locs : List Loc) (ls : Array Slot), va_P D vwCl (wL cI cJ α β o OUT gw gc gs ge gf cR cL cB pB SD RK RN RS RC RT LK LN LS LL US UB BB mT mW mH mS mR mL mC mZ mA mB KK KN KS KC AN JK JN JS JL MY KP FI TX) H → va_D A (wL cI cJ α β o OUT gw gc gs ge gf cR cL cB pB SD RK RN RS RC RT LK LN LS LL US UB BB mT mW mH mS mR mL mC mZ mA mB KK KN KS KC AN JK JN JS JL MY KP FI TX) → va_S A s.heap H locs → lv_has ls 7 [(0, .ref b), (1, .ref (α 0)), (2, .ref (β 0)), (3, .ref o), (4, .int (nI i))] → W p l e room_1 s m #[Value.ref b] below meth c H locs (34 + (k + 1)) (4936 + 6 * (k + 1)) (lw_Z below #[Value.ref b] s) (F0 m 737 ls [])) :
    ∀ (OUT : Nat → Int64) (gw gc gs ge gf cR cL cB pB : Int32) (SD RK RN RS RC RT LK LN LS LL US UB BB : Nat → Int32) (mT mW mH mS mR mL mC mZ mA mB : Int32) (KK KN KS KC AN JK JN JS JL MY KP FI TX : Nat → Int32) (hs : Sim gw gc gs ge gf cR cL cB pB SD RK RN RS RC RT LK LN LS LL US UB BB mT mW mH mS mR mL mC mZ mA mB KK KN KS KC AN JK JN JS JL MY KP FI TX) (H : Heap) (locs : List Loc) (ls : Array Slot), va_P D vwCl (wL cI cJ α β o OUT gw gc gs ge gf cR cL cB pB SD RK RN RS RC RT LK LN LS LL US UB BB mT mW mH mS mR mL mC mZ mA mB KK KN KS KC AN JK JN JS JL MY KP FI TX) H → va_D A (wL cI cJ α β o OUT gw gc gs ge gf cR cL cB pB SD RK RN RS RC RT LK LN LS LL US UB BB mT mW mH mS mR mL mC mZ mA mB KK KN KS KC AN JK JN JS JL MY KP FI TX) → va_S A s.heap H locs → lv_has ls 7 [(0, .ref b), (1, .ref (α 0)), (2, .ref (β 0)), (3, .ref o), (4, .int (nI i))] → W p l e room_1 s m #[Value.ref b] below meth c H locs (34 + k) (4936 + 6 * k) (lw_Z below #[Value.ref b] s) (F0 m 140 ls []) := by
  have hx := S.1.1
  have hb := S.1.2.1
  have hts := S.1.2.2.2.2
  intro OUT gw gc gs ge gf cR cL cB pB SD RK RN RS RC RT LK LN LS LL US UB BB mT mW mH mS mR mL mC mZ mA mB KK KN KS KC AN JK JN JS JL MY KP FI TX hs H locs ls hP hD hS hl
  obtain ⟨r, t, h5, h6, heq, hsim⟩ := P_rule gw gc gs ge gf cR cL cB pB SD RK RN RS RC RT LK LN LS LL US UB BB mT mW mH mS mR mL mC mZ mA mB KK KN KS KC AN JK JN JS JL MY KP FI TX hs (xs (nI i + (1 : Int32)).toNatClampNeg) (xs (nI i + (2 : Int32)).toNatClampNeg)
  refine lv_aload_n hx hb dL_law_140 rfl (lv_at hl 1 rfl) ?_
  refine lv_aload_n hx hb dL_law_141 rfl (lv_at hl 0 rfl) ?_
  refine lv_iload hx hb dL_law_142 (lv_at hl 4 rfl) ?_
  refine lv_iconst (v := (1 : Int32)) hx hb dL_law_144 (by decide) ?_
  refine lv_iadd hx hb dL_law_145 ?_
  refine va_sld hx hb hX hbl hbA hS hv1 dL_law_146 ?_
  refine lv_aload_n hx hb dL_law_147 rfl (lv_at hl 0 rfl) ?_
  refine lv_iload hx hb dL_law_148 (lv_at hl 4 rfl) ?_
  refine lv_iconst (v := (2 : Int32)) hx hb dL_law_150 (by decide) ?_
  refine lv_iadd hx hb dL_law_151 ?_
  refine va_sld hx hb hX hbl hbA hS hv2 dL_law_152 ?_
  refine kI_callVs (As := [.int ((xs ((nI i) + (1 : Int32)).toNatClampNeg)), .int ((xs ((nI i) + (2 : Int32)).toNatClampNeg))]) (rest := []) (wr := (wM cI β mT mW mH mS mR mL mC mZ mA mB KK KN KS KC AN JK JN JS JL MY KP FI TX) ++ [(o, .inl (cJ, 1, .inr (.inl OUT)))]) (wn := wL cI cJ α β o OUT gw gc gs ge gf r.2.1 cL cB pB SD r.2.2.1 r.2.2.2 RS RC RT LK LN LS LL US UB BB mT mW mH mS mR mL mC mZ mA mB KK KN KS KC AN JK JN JS JL MY KP FI TX) S hP hD hS [0, 1, 2, 3, 4, 5, 6, 7, 8, 9, 10, 11, 12, 13, 14, 15, 16, 17, 18] [19, 20, 21, 22, 23, 24, 25, 26, 27, 28, 29, 30, 31, 32, 33] [15, 16, 17, 18, 19, 20, 21, 22, 23, 24, 25, 26, 27, 28, 29, 30, 31, 32, 33, 0, 1, 2, 3, 4, 5, 6, 7, 8, 9, 10, 11, 12, 13, 14] rfl rfl rfl rfl (by decide) rfl rfl (c_X5_rule l D cI α gw gc gs ge gf cR cL cB pB SD RK RN RS RC RT LK LN LS LL US UB BB ((xs ((nI i) + (1 : Int32)).toNatClampNeg)) ((xs ((nI i) + (2 : Int32)).toNatClampNeg)) r h5) (cwV 2 hts gL_law_X5_rule rfl rfl rfl (by decide +kernel) ⟨(Nat.le_of_ble_eq_true rfl), (Nat.le_of_ble_eq_true rfl)⟩) 0 rfl rfl rfl hl.1 rfl (Nat.le_of_ble_eq_true rfl) dL_law_153 ⟨by show _ ≤ 601024; omega, by show _ ≤ 7292999; omega⟩ (fun H locs hP hD hS => ?_)
  refine lv_aload_n hx hb dL_law_156 rfl (lv_at hl 2 rfl) ?_
  refine lv_aload_n hx hb dL_law_157 rfl (lv_at hl 0 rfl) ?_
  refine lv_iload hx hb dL_law_158 (lv_at hl 4 rfl) ?_
  refine lv_iconst (v := (1 : Int32)) hx hb dL_law_160 (by decide) ?_
  refine lv_iadd hx hb dL_law_161 ?_
  refine va_sld hx hb hX hbl hbA hS hv1 dL_law_162 ?_
  refine lv_aload_n hx hb dL_law_163 rfl (lv_at hl 0 rfl) ?_
  refine lv_iload hx hb dL_law_164 (lv_at hl 4 rfl) ?_
  refine lv_iconst (v := (2 : Int32)) hx hb dL_law_166 (by decide) ?_
  refine lv_iadd hx hb dL_law_167 ?_
  refine va_sld hx hb hX hbl hbA hS hv2 dL_law_168 ?_
  refine kI_callVs (As := [.int ((xs ((nI i) + (1 : Int32)).toNatClampNeg)), .int ((xs ((nI i) + (2 : Int32)).toNatClampNeg))]) (rest := [.int r.1]) (wr := (wC cI α gw gc gs ge gf r.2.1 cL cB pB SD r.2.2.1 r.2.2.2 RS RC RT LK LN LS LL US UB BB) ++ [(o, .inl (cJ, 1, .inr (.inl OUT)))]) (wn := wL cI cJ α β o OUT gw gc gs ge gf r.2.1 cL cB pB SD r.2.2.1 r.2.2.2 RS RC RT LK LN LS LL US UB BB t.2.1 mW mH mS t.2.2.1 mL mC mZ mA mB t.2.2.2.1 t.2.2.2.2.1 t.2.2.2.2.2 KC AN JK JN JS JL MY KP FI TX) S hP hD hS [19, 20, 21, 22, 23, 24, 25, 26, 27, 28, 29, 30, 31, 32] [0, 1, 2, 3, 4, 5, 6, 7, 8, 9, 10, 11, 12, 13, 14, 15, 16, 17, 18, 33] [0, 1, 2, 3, 4, 5, 6, 7, 8, 9, 10, 11, 12, 13, 14, 15, 16, 17, 18, 20, 21, 22, 23, 24, 25, 26, 27, 28, 29, 30, 31, 32, 33, 19] rfl rfl rfl rfl (by decide) rfl rfl (c_X6_rule l D cI β mT mW mH mS mR mL mC mZ mA mB KK KN KS KC AN JK JN JS JL MY KP FI TX ((xs ((nI i) + (1 : Int32)).toNatClampNeg)) ((xs ((nI i) + (2 : Int32)).toNatClampNeg)) t h6) (cwV 2 hts gL_law_X6_rule rfl rfl rfl (by decide +kernel) ⟨(Nat.le_of_ble_eq_true rfl), (Nat.le_of_ble_eq_true rfl)⟩) 0 rfl rfl rfl hl.1 rfl (Nat.le_of_ble_eq_true rfl) dL_law_169 ⟨by show _ ≤ 601024; omega, by show _ ≤ 7292999; omega⟩ (fun H locs hP hD hS => ?_)
  refine lv_icmp_eq (tgt := 737) hx hb dL_law_172 (by decide) (fun c9 => ?_) (fun c9 => absurd heq c9)
  refine W.widen (k := 34 + (k + 1)) (n := 4936 + 6 * (k + 1)) (by omega) (by omega) ?_
  exact w737 OUT gw gc gs ge gf r.2.1 cL cB pB SD r.2.2.1 r.2.2.2 RS RC RT LK LN LS LL US UB BB t.2.1 mW mH mS t.2.2.1 mL mC mZ mA mB t.2.2.2.1 t.2.2.2.2.1 t.2.2.2.2.2 KC AN JK JN JS JL MY KP FI TX hsim H locs ls hP hD hS (lv_sub hl [0, 1, 2, 3, 4] rfl)
set_option maxHeartbeats 8000000 in
set_option maxRecDepth 100000 in
theorem lc_into {p : Program} {l : Launch} {e : Env} {s : State} {m : MethodId} {below : List Frame} {meth : Method} {c : Code} {D : va_G} {cI cJ : ClassId} {α β : Nat → Nat} {o : Nat} {A : Nat → Prop} {b L : Nat} {xs : Nat → Int32} (hL : L ≤ 2051) (hlt : l.stackTraces = false) (S : kC p s m #[Value.ref b] meth c cL_law 7 wsL_law RL ret D cI A) (T : kT l s A) (hNc : lk s) (hK2 : va_K D vwCl [(cI, .int), (cJ, .long)] s) (hX : va_X b L xs s s.heap) (hbl : b < s.heap.size) (hbA : ¬ A b) (hA9 : ∀ q, A q → s.heap.size ≤ q) (k i : Nat) (hk : k ≤ 512) (hv0 : vp_in (nI i) L) (hv1 : vp_in (nI i + (1 : Int32)) L) (hv2 : vp_in (nI i + (2 : Int32)) L) (hv3 : vp_in (nI i + (3 : Int32)) L)
    (w737 : ∀ (OUT : Nat → Int64) (gw gc gs ge gf cR cL cB pB : Int32) (SD RK RN RS RC RT LK LN LS LL US UB BB : Nat → Int32) (mT mW mH mS mR mL mC mZ mA mB : Int32) (KK KN KS KC AN JK JN JS JL MY KP FI TX : Nat → Int32) (hs : Sim gw gc gs ge gf cR cL cB pB SD RK RN RS RC RT LK LN LS LL US UB BB mT mW mH mS mR mL mC mZ mA mB KK KN KS KC AN JK JN JS JL MY KP FI TX) (H : Heap) (locs : List Loc) (ls : Array Slot), va_P D vwCl (wL cI cJ α β o OUT gw gc gs ge gf cR cL cB pB SD RK RN RS RC RT LK LN LS LL US UB BB mT mW mH mS mR mL mC mZ mA mB KK KN KS KC AN JK JN JS JL MY KP FI TX) H → va_D A (wL cI cJ α β o OUT gw gc gs ge gf cR cL cB pB SD RK RN RS RC RT LK LN LS LL US UB BB mT mW mH mS mR mL mC mZ mA mB KK KN KS KC AN JK JN JS JL MY KP FI TX) → va_S A s.heap H locs → lv_has ls 7 [(0, .ref b), (1, .ref (α 0)), (2, .ref (β 0)), (3, .ref o), (4, .int (nI i))] → W p l e room_1 s m #[Value.ref b] below meth c H locs (34 + (k + 1)) (4936 + 6 * (k + 1)) (lw_Z below #[Value.ref b] s) (F0 m 737 ls [])) :
    ∀ (OUT : Nat → Int64) (gw gc gs ge gf cR cL cB pB : Int32) (SD RK RN RS RC RT LK LN LS LL US UB BB : Nat → Int32) (mT mW mH mS mR mL mC mZ mA mB : Int32) (KK KN KS KC AN JK JN JS JL MY KP FI TX : Nat → Int32) (hs : Sim gw gc gs ge gf cR cL cB pB SD RK RN RS RC RT LK LN LS LL US UB BB mT mW mH mS mR mL mC mZ mA mB KK KN KS KC AN JK JN JS JL MY KP FI TX) (H : Heap) (locs : List Loc) (ls : Array Slot), va_P D vwCl (wL cI cJ α β o OUT gw gc gs ge gf cR cL cB pB SD RK RN RS RC RT LK LN LS LL US UB BB mT mW mH mS mR mL mC mZ mA mB KK KN KS KC AN JK JN JS JL MY KP FI TX) H → va_D A (wL cI cJ α β o OUT gw gc gs ge gf cR cL cB pB SD RK RN RS RC RT LK LN LS LL US UB BB mT mW mH mS mR mL mC mZ mA mB KK KN KS KC AN JK JN JS JL MY KP FI TX) → va_S A s.heap H locs → lv_has ls 7 [(0, .ref b), (1, .ref (α 0)), (2, .ref (β 0)), (3, .ref o), (4, .int (nI i))] → W p l e room_1 s m #[Value.ref b] below meth c H locs (34 + k) (4936 + 6 * k) (lw_Z below #[Value.ref b] s) (F0 m 177 ls []) := by
  have hx := S.1.1
  have hb := S.1.2.1
  have hts := S.1.2.2.2.2
  intro OUT gw gc gs ge gf cR cL cB pB SD RK RN RS RC RT LK LN LS LL US UB BB mT mW mH mS mR mL mC mZ mA mB KK KN KS KC AN JK JN JS JL MY KP FI TX hs H locs ls hP hD hS hl
  rcases P_into gw gc gs ge gf cR cL cB pB SD RK RN RS RC RT LK LN LS LL US UB BB mT mW mH mS mR mL mC mZ mA mB KK KN KS KC AN JK JN JS JL MY KP FI TX hs (xs (nI i + (1 : Int32)).toNatClampNeg) (xs (nI i + (2 : Int32)).toNatClampNeg)  with ⟨r, t, h5, h6, ht, heq, hsim⟩ | ⟨g0, t, h6, ht, hsim⟩ | ⟨g0, g1, t, h6, ht, hsim⟩
  · by_cases hz : t.1 = 0
    · refine lv_aload_n hx hb dL_law_177 rfl (lv_at hl 1 rfl) ?_
      refine lv_aload_n hx hb dL_law_178 rfl (lv_at hl 0 rfl) ?_
      refine lv_iload hx hb dL_law_179 (lv_at hl 4 rfl) ?_
      refine lv_iconst (v := (1 : Int32)) hx hb dL_law_181 (by decide) ?_
      refine lv_iadd hx hb dL_law_182 ?_
      refine va_sld hx hb hX hbl hbA hS hv1 dL_law_183 ?_
      refine lv_aload_n hx hb dL_law_184 rfl (lv_at hl 0 rfl) ?_
      refine lv_iload hx hb dL_law_185 (lv_at hl 4 rfl) ?_
      refine lv_iconst (v := (2 : Int32)) hx hb dL_law_187 (by decide) ?_
      refine lv_iadd hx hb dL_law_188 ?_
      refine va_sld hx hb hX hbl hbA hS hv2 dL_law_189 ?_
      refine lv_aload_n hx hb dL_law_190 rfl (lv_at hl 3 rfl) ?_
      refine kH_callSs (As := [.ref (α 0), .int ((xs ((nI i) + (1 : Int32)).toNatClampNeg)), .int ((xs ((nI i) + (2 : Int32)).toNatClampNeg)), .ref o]) (rest := []) (wr := wM cI β mT mW mH mS mR mL mC mZ mA mB KK KN KS KC AN JK JN JS JL MY KP FI TX) (wn := wL cI cJ α β o (vp_updL OUT 0 (lb r.1)) gw gc gs ge gf cR cL cB pB SD RK RN r.2.1 r.2.2 RT LK LN LS LL US UB BB mT mW mH mS mR mL mC mZ mA mB KK KN KS KC AN JK JN JS JL MY KP FI TX) S T hNc hK2 hP hD hS [33, 0, 1, 2, 3, 4, 5, 6, 7, 8, 9, 10, 11, 12, 13, 14, 15, 16, 17, 18] [19, 20, 21, 22, 23, 24, 25, 26, 27, 28, 29, 30, 31, 32] [15, 16, 17, 18, 19, 20, 21, 22, 23, 24, 25, 26, 27, 28, 29, 30, 31, 32, 33, 0, 1, 2, 3, 4, 5, 6, 7, 8, 9, 10, 11, 12, 13, 14] rfl rfl rfl rfl (by decide) rfl rfl (c_L_into_n l hlt D cI cJ α o OUT gw gc gs ge gf cR cL cB pB SD RK RN RS RC RT LK LN LS LL US UB BB ((xs ((nI i) + (1 : Int32)).toNatClampNeg)) ((xs ((nI i) + (2 : Int32)).toNatClampNeg)) FF r h5) (vx_cwSW 4 hts gL_law_L_into rfl rfl rfl (by decide +kernel) ⟨(Nat.le_of_ble_eq_true rfl), (Nat.le_of_ble_eq_true rfl)⟩) rfl hl.1 rfl (Nat.le_of_ble_eq_true rfl) dL_law_191 ⟨by show _ ≤ 601024; omega, by show _ ≤ 7292999; omega⟩ (fun H locs hP hD hS => ?_)
      refine lv_istore (lv' := [(5, .int (0 : Int32)), (0, .ref b), (1, .ref (α 0)), (2, .ref (β 0)), (3, .ref o), (4, .int (nI i))]) hx hb dL_law_194 hl (by decide) rfl (fun ls hl => ?_)
      refine lv_aload_n hx hb dL_law_196 rfl (lv_at hl 3 rfl) ?_
      refine lv_aload_n hx hb dL_law_197 rfl (lv_at hl 1 rfl) ?_
      refine lv_iload hx hb dL_law_198 (lv_at hl 5 rfl) ?_
      refine lv_iconst (v := (1 : Int32)) hx hb dL_law_200 (by decide) ?_
      refine lv_iadd hx hb dL_law_201 ?_
      refine va_sld hx hb hX hbl hbA hS hv1 dL_law_202 ?_
      refine lv_aload_n hx hb dL_law_203 rfl (lv_at hl 1 rfl) ?_
      refine lv_iload hx hb dL_law_204 (lv_at hl 5 rfl) ?_
      refine lv_iconst (v := (2 : Int32)) hx hb dL_law_206 (by decide) ?_
      refine lv_iadd hx hb dL_law_207 ?_
      refine va_sld hx hb hX hbl hbA hS hv2 dL_law_208 ?_
      refine kI_callVs (As := [.int ((xs ((nI i) + (1 : Int32)).toNatClampNeg)), .int ((xs ((nI i) + (2 : Int32)).toNatClampNeg))]) (rest := []) (wr := (wC cI α gw gc gs ge gf cR cL cB pB SD RK RN r.2.1 r.2.2 RT LK LN LS LL US UB BB) ++ [(o, .inl (cJ, 1, .inr (.inl (vp_updL OUT 0 (lb r.1)))))]) (wn := wL cI cJ α β o (vp_updL OUT 0 (lb r.1)) gw gc gs ge gf cR cL cB pB SD RK RN r.2.1 r.2.2 RT LK LN LS LL US UB BB t.2.1 mW mH mS mR mL mC mZ mA mB KK KN t.2.2.1 t.2.2.2 AN JK JN JS JL MY KP FI TX) S hP hD hS [19, 20, 21, 22, 23, 24, 25, 26, 27, 28, 29, 30, 31, 32] [0, 1, 2, 3, 4, 5, 6, 7, 8, 9, 10, 11, 12, 13, 14, 15, 16, 17, 18, 33] [0, 1, 2, 3, 4, 5, 6, 7, 8, 9, 10, 11, 12, 13, 14, 15, 16, 17, 18, 20, 21, 22, 23, 24, 25, 26, 27, 28, 29, 30, 31, 32, 33, 19] rfl rfl rfl rfl (by decide) rfl rfl (c_X6_into l D cI β mT mW mH mS mR mL mC mZ mA mB KK KN KS KC AN JK JN JS JL MY KP FI TX FF ((xs ((nI i) + (1 : Int32)).toNatClampNeg)) ((xs ((nI i) + (2 : Int32)).toNatClampNeg)) t h6) (cwV 2 hts gL_law_X6_into rfl rfl rfl (by decide +kernel) ⟨(Nat.le_of_ble_eq_true rfl), (Nat.le_of_ble_eq_true rfl)⟩) 0 rfl rfl rfl hl.1 rfl (Nat.le_of_ble_eq_true rfl) dL_law_209 ⟨by show _ ≤ 601024; omega, by show _ ≤ 7292999; omega⟩ (fun H locs hP hD hS => ?_)
      refine lv_istore (lv' := [(6, .int t.1), (5, .int (0 : Int32)), (0, .ref b), (1, .ref (α 0)), (2, .ref (β 0)), (3, .ref o), (4, .int (nI i))]) hx hb dL_law_212 hl (by decide) rfl (fun ls hl => ?_)
      refine lv_aload_n hx hb dL_law_214 rfl (lv_at hl 4 rfl) ?_
      refine kI_callVs (As := []) (rest := []) (wr := (wC cI α gw gc gs ge gf cR cL cB pB SD RK RN r.2.1 r.2.2 RT LK LN LS LL US UB BB) ++ [(o, .inl (cJ, 1, .inr (.inl (vp_updL OUT 0 (lb r.1)))))]) (wn := wL cI cJ α β o (vp_updL OUT 0 (lb r.1)) gw gc gs ge gf cR cL cB pB SD RK RN r.2.1 r.2.2 RT LK LN LS LL US UB BB t.2.1 mW mH mS mR mL mC mZ mA mB KK KN t.2.2.1 t.2.2.2 AN JK JN JS JL MY KP FI TX) S hP hD hS [19, 20, 21, 22, 23, 24, 25, 26, 27, 28, 29, 30, 31, 32] [0, 1, 2, 3, 4, 5, 6, 7, 8, 9, 10, 11, 12, 13, 14, 15, 16, 17, 18, 33] [0, 1, 2, 3, 4, 5, 6, 7, 8, 9, 10, 11, 12, 13, 14, 15, 16, 17, 18, 20, 21, 22, 23, 24, 25, 26, 27, 28, 29, 30, 31, 32, 33, 19] rfl rfl rfl rfl (by decide) rfl rfl (c_X6_thrown l D cI β t.2.1 mW mH mS mR mL mC mZ mA mB KK KN t.2.2.1 t.2.2.2 AN JK JN JS JL MY KP FI TX t.2.1 rfl) (cwV 0 hts gL_law_X6_thrown rfl rfl rfl (by decide +kernel) ⟨(Nat.le_of_ble_eq_true rfl), (Nat.le_of_ble_eq_true rfl)⟩) 0 rfl rfl rfl hl.1 rfl (Nat.le_of_ble_eq_true rfl) dL_law_215 ⟨by show _ ≤ 601024; omega, by show _ ≤ 7292999; omega⟩ (fun H locs hP hD hS => ?_)
      refine lv_iload hx hb dL_law_218 (lv_at hl 1 rfl) ?_
      refine lv_icmp_eq (tgt := 225) hx hb dL_law_220 (by decide) (fun c9 => ?_) (fun c9 => absurd ht c9)
      refine lv_iload hx hb dL_law_225 (lv_at hl 1 rfl) ?_
      refine lv_if_ne (tgt := 249) hx hb dL_law_227 (by decide) (fun c9 => absurd rfl c9) (fun c9 => ?_)
      refine lv_aload_n hx hb dL_law_230 rfl (lv_at hl 5 rfl) ?_
      refine lv_iconst (v := (0 : Int32)) hx hb dL_law_231 (by decide) ?_
      refine va_lald hx hb hK2 hP 33 1 rfl rfl vp01 dL_law_232 ?_
      refine lv_iload hx hb dL_law_233 (lv_at hl 0 rfl) ?_
      refine lv_if_eq (tgt := 242) hx hb dL_law_235 (by decide) (fun c9 => ?_) (fun c9 => absurd hz c9)
      refine lv_lconst (v := (0 : Int64)) hx hb dL_law_242 rfl ?_
      refine W.lcmp hx hb dL_law_243 ?_
      refine lv_if_eq (tgt := 249) hx hb dL_law_244 (by decide) (fun c9 => ?_) (fun c9 => absurd (lw_c0 heq hz) c9)
      refine lv_goto (tgt := 737) hx hb dL_law_249 (by decide) ?_
      refine W.widen (k := 34 + (k + 1)) (n := 4936 + 6 * (k + 1)) (by omega) (by omega) ?_
      exact w737 (vp_updL OUT 0 (lb r.1)) gw gc gs ge gf cR cL cB pB SD RK RN r.2.1 r.2.2 RT LK LN LS LL US UB BB t.2.1 mW mH mS mR mL mC mZ mA mB KK KN t.2.2.1 t.2.2.2 AN JK JN JS JL MY KP FI TX hsim H locs ls hP hD hS (lv_sub hl [2, 3, 4, 5, 6] rfl)
    · refine lv_aload_n hx hb dL_law_177 rfl (lv_at hl 1 rfl) ?_
      refine lv_aload_n hx hb dL_law_178 rfl (lv_at hl 0 rfl) ?_
      refine lv_iload hx hb dL_law_179 (lv_at hl 4 rfl) ?_
      refine lv_iconst (v := (1 : Int32)) hx hb dL_law_181 (by decide) ?_
      refine lv_iadd hx hb dL_law_182 ?_
      refine va_sld hx hb hX hbl hbA hS hv1 dL_law_183 ?_
      refine lv_aload_n hx hb dL_law_184 rfl (lv_at hl 0 rfl) ?_
      refine lv_iload hx hb dL_law_185 (lv_at hl 4 rfl) ?_
      refine lv_iconst (v := (2 : Int32)) hx hb dL_law_187 (by decide) ?_
      refine lv_iadd hx hb dL_law_188 ?_
      refine va_sld hx hb hX hbl hbA hS hv2 dL_law_189 ?_
      refine lv_aload_n hx hb dL_law_190 rfl (lv_at hl 3 rfl) ?_
      refine kH_callSs (As := [.ref (α 0), .int ((xs ((nI i) + (1 : Int32)).toNatClampNeg)), .int ((xs ((nI i) + (2 : Int32)).toNatClampNeg)), .ref o]) (rest := []) (wr := wM cI β mT mW mH mS mR mL mC mZ mA mB KK KN KS KC AN JK JN JS JL MY KP FI TX) (wn := wL cI cJ α β o (vp_updL OUT 0 (lb r.1)) gw gc gs ge gf cR cL cB pB SD RK RN r.2.1 r.2.2 RT LK LN LS LL US UB BB mT mW mH mS mR mL mC mZ mA mB KK KN KS KC AN JK JN JS JL MY KP FI TX) S T hNc hK2 hP hD hS [33, 0, 1, 2, 3, 4, 5, 6, 7, 8, 9, 10, 11, 12, 13, 14, 15, 16, 17, 18] [19, 20, 21, 22, 23, 24, 25, 26, 27, 28, 29, 30, 31, 32] [15, 16, 17, 18, 19, 20, 21, 22, 23, 24, 25, 26, 27, 28, 29, 30, 31, 32, 33, 0, 1, 2, 3, 4, 5, 6, 7, 8, 9, 10, 11, 12, 13, 14] rfl rfl rfl rfl (by decide) rfl rfl (c_L_into_n l hlt D cI cJ α o OUT gw gc gs ge gf cR cL cB pB SD RK RN RS RC RT LK LN LS LL US UB BB ((xs ((nI i) + (1 : Int32)).toNatClampNeg)) ((xs ((nI i) + (2 : Int32)).toNatClampNeg)) FF r h5) (vx_cwSW 4 hts gL_law_L_into rfl rfl rfl (by decide +kernel) ⟨(Nat.le_of_ble_eq_true rfl), (Nat.le_of_ble_eq_true rfl)⟩) rfl hl.1 rfl (Nat.le_of_ble_eq_true rfl) dL_law_191 ⟨by show _ ≤ 601024; omega, by show _ ≤ 7292999; omega⟩ (fun H locs hP hD hS => ?_)
      refine lv_istore (lv' := [(5, .int (0 : Int32)), (0, .ref b), (1, .ref (α 0)), (2, .ref (β 0)), (3, .ref o), (4, .int (nI i))]) hx hb dL_law_194 hl (by decide) rfl (fun ls hl => ?_)
      refine lv_aload_n hx hb dL_law_196 rfl (lv_at hl 3 rfl) ?_
      refine lv_aload_n hx hb dL_law_197 rfl (lv_at hl 1 rfl) ?_
      refine lv_iload hx hb dL_law_198 (lv_at hl 5 rfl) ?_
      refine lv_iconst (v := (1 : Int32)) hx hb dL_law_200 (by decide) ?_
      refine lv_iadd hx hb dL_law_201 ?_
      refine va_sld hx hb hX hbl hbA hS hv1 dL_law_202 ?_
      refine lv_aload_n hx hb dL_law_203 rfl (lv_at hl 1 rfl) ?_
      refine lv_iload hx hb dL_law_204 (lv_at hl 5 rfl) ?_
      refine lv_iconst (v := (2 : Int32)) hx hb dL_law_206 (by decide) ?_
      refine lv_iadd hx hb dL_law_207 ?_
      refine va_sld hx hb hX hbl hbA hS hv2 dL_law_208 ?_
      refine kI_callVs (As := [.int ((xs ((nI i) + (1 : Int32)).toNatClampNeg)), .int ((xs ((nI i) + (2 : Int32)).toNatClampNeg))]) (rest := []) (wr := (wC cI α gw gc gs ge gf cR cL cB pB SD RK RN r.2.1 r.2.2 RT LK LN LS LL US UB BB) ++ [(o, .inl (cJ, 1, .inr (.inl (vp_updL OUT 0 (lb r.1)))))]) (wn := wL cI cJ α β o (vp_updL OUT 0 (lb r.1)) gw gc gs ge gf cR cL cB pB SD RK RN r.2.1 r.2.2 RT LK LN LS LL US UB BB t.2.1 mW mH mS mR mL mC mZ mA mB KK KN t.2.2.1 t.2.2.2 AN JK JN JS JL MY KP FI TX) S hP hD hS [19, 20, 21, 22, 23, 24, 25, 26, 27, 28, 29, 30, 31, 32] [0, 1, 2, 3, 4, 5, 6, 7, 8, 9, 10, 11, 12, 13, 14, 15, 16, 17, 18, 33] [0, 1, 2, 3, 4, 5, 6, 7, 8, 9, 10, 11, 12, 13, 14, 15, 16, 17, 18, 20, 21, 22, 23, 24, 25, 26, 27, 28, 29, 30, 31, 32, 33, 19] rfl rfl rfl rfl (by decide) rfl rfl (c_X6_into l D cI β mT mW mH mS mR mL mC mZ mA mB KK KN KS KC AN JK JN JS JL MY KP FI TX FF ((xs ((nI i) + (1 : Int32)).toNatClampNeg)) ((xs ((nI i) + (2 : Int32)).toNatClampNeg)) t h6) (cwV 2 hts gL_law_X6_into rfl rfl rfl (by decide +kernel) ⟨(Nat.le_of_ble_eq_true rfl), (Nat.le_of_ble_eq_true rfl)⟩) 0 rfl rfl rfl hl.1 rfl (Nat.le_of_ble_eq_true rfl) dL_law_209 ⟨by show _ ≤ 601024; omega, by show _ ≤ 7292999; omega⟩ (fun H locs hP hD hS => ?_)
      refine lv_istore (lv' := [(6, .int t.1), (5, .int (0 : Int32)), (0, .ref b), (1, .ref (α 0)), (2, .ref (β 0)), (3, .ref o), (4, .int (nI i))]) hx hb dL_law_212 hl (by decide) rfl (fun ls hl => ?_)
      refine lv_aload_n hx hb dL_law_214 rfl (lv_at hl 4 rfl) ?_
      refine kI_callVs (As := []) (rest := []) (wr := (wC cI α gw gc gs ge gf cR cL cB pB SD RK RN r.2.1 r.2.2 RT LK LN LS LL US UB BB) ++ [(o, .inl (cJ, 1, .inr (.inl (vp_updL OUT 0 (lb r.1)))))]) (wn := wL cI cJ α β o (vp_updL OUT 0 (lb r.1)) gw gc gs ge gf cR cL cB pB SD RK RN r.2.1 r.2.2 RT LK LN LS LL US UB BB t.2.1 mW mH mS mR mL mC mZ mA mB KK KN t.2.2.1 t.2.2.2 AN JK JN JS JL MY KP FI TX) S hP hD hS [19, 20, 21, 22, 23, 24, 25, 26, 27, 28, 29, 30, 31, 32] [0, 1, 2, 3, 4, 5, 6, 7, 8, 9, 10, 11, 12, 13, 14, 15, 16, 17, 18, 33] [0, 1, 2, 3, 4, 5, 6, 7, 8, 9, 10, 11, 12, 13, 14, 15, 16, 17, 18, 20, 21, 22, 23, 24, 25, 26, 27, 28, 29, 30, 31, 32, 33, 19] rfl rfl rfl rfl (by decide) rfl rfl (c_X6_thrown l D cI β t.2.1 mW mH mS mR mL mC mZ mA mB KK KN t.2.2.1 t.2.2.2 AN JK JN JS JL MY KP FI TX t.2.1 rfl) (cwV 0 hts gL_law_X6_thrown rfl rfl rfl (by decide +kernel) ⟨(Nat.le_of_ble_eq_true rfl), (Nat.le_of_ble_eq_true rfl)⟩) 0 rfl rfl rfl hl.1 rfl (Nat.le_of_ble_eq_true rfl) dL_law_215 ⟨by show _ ≤ 601024; omega, by show _ ≤ 7292999; omega⟩ (fun H locs hP hD hS => ?_)
      refine lv_iload hx hb dL_law_218 (lv_at hl 1 rfl) ?_
      refine lv_icmp_eq (tgt := 225) hx hb dL_law_220 (by decide) (fun c9 => ?_) (fun c9 => absurd ht c9)
      refine lv_iload hx hb dL_law_225 (lv_at hl 1 rfl) ?_
      refine lv_if_ne (tgt := 249) hx hb dL_law_227 (by decide) (fun c9 => absurd rfl c9) (fun c9 => ?_)
      refine lv_aload_n hx hb dL_law_230 rfl (lv_at hl 5 rfl) ?_
      refine lv_iconst (v := (0 : Int32)) hx hb dL_law_231 (by decide) ?_
      refine va_lald hx hb hK2 hP 33 1 rfl rfl vp01 dL_law_232 ?_
      refine lv_iload hx hb dL_law_233 (lv_at hl 0 rfl) ?_
      refine lv_if_eq (tgt := 242) hx hb dL_law_235 (by decide) (fun c9 => absurd c9 hz) (fun c9 => ?_)
      refine lv_lconst (v := (1 : Int64)) hx hb dL_law_238 rfl ?_
      refine lv_goto (tgt := 243) hx hb dL_law_239 (by decide) ?_
      refine W.lcmp hx hb dL_law_243 ?_
      refine lv_if_eq (tgt := 249) hx hb dL_law_244 (by decide) (fun c9 => ?_) (fun c9 => absurd (lw_c1 heq hz) c9)
      refine lv_goto (tgt := 737) hx hb dL_law_249 (by decide) ?_
      refine W.widen (k := 34 + (k + 1)) (n := 4936 + 6 * (k + 1)) (by omega) (by omega) ?_
      exact w737 (vp_updL OUT 0 (lb r.1)) gw gc gs ge gf cR cL cB pB SD RK RN r.2.1 r.2.2 RT LK LN LS LL US UB BB t.2.1 mW mH mS mR mL mC mZ mA mB KK KN t.2.2.1 t.2.2.2 AN JK JN JS JL MY KP FI TX hsim H locs ls hP hD hS (lv_sub hl [2, 3, 4, 5, 6] rfl)
  · refine lv_aload_n hx hb dL_law_177 rfl (lv_at hl 1 rfl) ?_
    refine lv_aload_n hx hb dL_law_178 rfl (lv_at hl 0 rfl) ?_
    refine lv_iload hx hb dL_law_179 (lv_at hl 4 rfl) ?_
    refine lv_iconst (v := (1 : Int32)) hx hb dL_law_181 (by decide) ?_
    refine lv_iadd hx hb dL_law_182 ?_
    refine va_sld hx hb hX hbl hbA hS hv1 dL_law_183 ?_
    refine lv_aload_n hx hb dL_law_184 rfl (lv_at hl 0 rfl) ?_
    refine lv_iload hx hb dL_law_185 (lv_at hl 4 rfl) ?_
    refine lv_iconst (v := (2 : Int32)) hx hb dL_law_187 (by decide) ?_
    refine lv_iadd hx hb dL_law_188 ?_
    refine va_sld hx hb hX hbl hbA hS hv2 dL_law_189 ?_
    refine lv_aload_n hx hb dL_law_190 rfl (lv_at hl 3 rfl) ?_
    refine kH_callSs (As := [.ref (α 0), .int ((xs ((nI i) + (1 : Int32)).toNatClampNeg)), .int ((xs ((nI i) + (2 : Int32)).toNatClampNeg)), .ref o]) (rest := []) (wr := wM cI β mT mW mH mS mR mL mC mZ mA mB KK KN KS KC AN JK JN JS JL MY KP FI TX) (wn := wL cI cJ α β o OUT gw gc gs ge gf cR cL cB pB SD RK RN RS RC RT LK LN LS LL US UB BB mT mW mH mS mR mL mC mZ mA mB KK KN KS KC AN JK JN JS JL MY KP FI TX) S T hNc hK2 hP hD hS [33, 0, 1, 2, 3, 4, 5, 6, 7, 8, 9, 10, 11, 12, 13, 14, 15, 16, 17, 18] [19, 20, 21, 22, 23, 24, 25, 26, 27, 28, 29, 30, 31, 32] [15, 16, 17, 18, 19, 20, 21, 22, 23, 24, 25, 26, 27, 28, 29, 30, 31, 32, 33, 0, 1, 2, 3, 4, 5, 6, 7, 8, 9, 10, 11, 12, 13, 14] rfl rfl rfl rfl (by decide) rfl rfl (c_L_into_x1 l hlt D cI cJ α o OUT gw gc gs ge gf cR cL cB pB SD RK RN RS RC RT LK LN LS LL US UB BB ((xs ((nI i) + (1 : Int32)).toNatClampNeg)) ((xs ((nI i) + (2 : Int32)).toNatClampNeg)) g0) (vx_cwSW 4 hts gL_law_L_into rfl rfl rfl (by decide +kernel) ⟨(Nat.le_of_ble_eq_true rfl), (Nat.le_of_ble_eq_true rfl)⟩) rfl hl.1 rfl (Nat.le_of_ble_eq_true rfl) dL_law_191 ⟨by show _ ≤ 601024; omega, by show _ ≤ 7292999; omega⟩ (fun H locs hP hD hS => ?_)
    refine lv_istore (lv' := [(5, .int (1 : Int32)), (0, .ref b), (1, .ref (α 0)), (2, .ref (β 0)), (3, .ref o), (4, .int (nI i))]) hx hb dL_law_194 hl (by decide) rfl (fun ls hl => ?_)
    refine lv_aload_n hx hb dL_law_196 rfl (lv_at hl 3 rfl) ?_
    refine lv_aload_n hx hb dL_law_197 rfl (lv_at hl 1 rfl) ?_
    refine lv_iload hx hb dL_law_198 (lv_at hl 5 rfl) ?_
    refine lv_iconst (v := (1 : Int32)) hx hb dL_law_200 (by decide) ?_
    refine lv_iadd hx hb dL_law_201 ?_
    refine va_sld hx hb hX hbl hbA hS hv1 dL_law_202 ?_
    refine lv_aload_n hx hb dL_law_203 rfl (lv_at hl 1 rfl) ?_
    refine lv_iload hx hb dL_law_204 (lv_at hl 5 rfl) ?_
    refine lv_iconst (v := (2 : Int32)) hx hb dL_law_206 (by decide) ?_
    refine lv_iadd hx hb dL_law_207 ?_
    refine va_sld hx hb hX hbl hbA hS hv2 dL_law_208 ?_
    refine kI_callVs (As := [.int ((xs ((nI i) + (1 : Int32)).toNatClampNeg)), .int ((xs ((nI i) + (2 : Int32)).toNatClampNeg))]) (rest := []) (wr := (wC cI α gw gc gs ge gf cR cL cB pB SD RK RN RS RC RT LK LN LS LL US UB BB) ++ [(o, .inl (cJ, 1, .inr (.inl OUT)))]) (wn := wL cI cJ α β o OUT gw gc gs ge gf cR cL cB pB SD RK RN RS RC RT LK LN LS LL US UB BB t.2.1 mW mH mS mR mL mC mZ mA mB KK KN t.2.2.1 t.2.2.2 AN JK JN JS JL MY KP FI TX) S hP hD hS [19, 20, 21, 22, 23, 24, 25, 26, 27, 28, 29, 30, 31, 32] [0, 1, 2, 3, 4, 5, 6, 7, 8, 9, 10, 11, 12, 13, 14, 15, 16, 17, 18, 33] [0, 1, 2, 3, 4, 5, 6, 7, 8, 9, 10, 11, 12, 13, 14, 15, 16, 17, 18, 20, 21, 22, 23, 24, 25, 26, 27, 28, 29, 30, 31, 32, 33, 19] rfl rfl rfl rfl (by decide) rfl rfl (c_X6_into l D cI β mT mW mH mS mR mL mC mZ mA mB KK KN KS KC AN JK JN JS JL MY KP FI TX FF ((xs ((nI i) + (1 : Int32)).toNatClampNeg)) ((xs ((nI i) + (2 : Int32)).toNatClampNeg)) t h6) (cwV 2 hts gL_law_X6_into rfl rfl rfl (by decide +kernel) ⟨(Nat.le_of_ble_eq_true rfl), (Nat.le_of_ble_eq_true rfl)⟩) 0 rfl rfl rfl hl.1 rfl (Nat.le_of_ble_eq_true rfl) dL_law_209 ⟨by show _ ≤ 601024; omega, by show _ ≤ 7292999; omega⟩ (fun H locs hP hD hS => ?_)
    refine lv_istore (lv' := [(6, .int t.1), (5, .int (1 : Int32)), (0, .ref b), (1, .ref (α 0)), (2, .ref (β 0)), (3, .ref o), (4, .int (nI i))]) hx hb dL_law_212 hl (by decide) rfl (fun ls hl => ?_)
    refine lv_aload_n hx hb dL_law_214 rfl (lv_at hl 4 rfl) ?_
    refine kI_callVs (As := []) (rest := []) (wr := (wC cI α gw gc gs ge gf cR cL cB pB SD RK RN RS RC RT LK LN LS LL US UB BB) ++ [(o, .inl (cJ, 1, .inr (.inl OUT)))]) (wn := wL cI cJ α β o OUT gw gc gs ge gf cR cL cB pB SD RK RN RS RC RT LK LN LS LL US UB BB t.2.1 mW mH mS mR mL mC mZ mA mB KK KN t.2.2.1 t.2.2.2 AN JK JN JS JL MY KP FI TX) S hP hD hS [19, 20, 21, 22, 23, 24, 25, 26, 27, 28, 29, 30, 31, 32] [0, 1, 2, 3, 4, 5, 6, 7, 8, 9, 10, 11, 12, 13, 14, 15, 16, 17, 18, 33] [0, 1, 2, 3, 4, 5, 6, 7, 8, 9, 10, 11, 12, 13, 14, 15, 16, 17, 18, 20, 21, 22, 23, 24, 25, 26, 27, 28, 29, 30, 31, 32, 33, 19] rfl rfl rfl rfl (by decide) rfl rfl (c_X6_thrown l D cI β t.2.1 mW mH mS mR mL mC mZ mA mB KK KN t.2.2.1 t.2.2.2 AN JK JN JS JL MY KP FI TX t.2.1 rfl) (cwV 0 hts gL_law_X6_thrown rfl rfl rfl (by decide +kernel) ⟨(Nat.le_of_ble_eq_true rfl), (Nat.le_of_ble_eq_true rfl)⟩) 0 rfl rfl rfl hl.1 rfl (Nat.le_of_ble_eq_true rfl) dL_law_215 ⟨by show _ ≤ 601024; omega, by show _ ≤ 7292999; omega⟩ (fun H locs hP hD hS => ?_)
    refine lv_iload hx hb dL_law_218 (lv_at hl 1 rfl) ?_
    refine lv_icmp_eq (tgt := 225) hx hb dL_law_220 (by decide) (fun c9 => ?_) (fun c9 => absurd ht c9)
    refine lv_iload hx hb dL_law_225 (lv_at hl 1 rfl) ?_
    refine lv_if_ne (tgt := 249) hx hb dL_law_227 (by decide) (fun c9 => ?_) (fun c9 => absurd c9 (by decide))
    refine lv_goto (tgt := 737) hx hb dL_law_249 (by decide) ?_
    refine W.widen (k := 34 + (k + 1)) (n := 4936 + 6 * (k + 1)) (by omega) (by omega) ?_
    exact w737 OUT gw gc gs ge gf cR cL cB pB SD RK RN RS RC RT LK LN LS LL US UB BB t.2.1 mW mH mS mR mL mC mZ mA mB KK KN t.2.2.1 t.2.2.2 AN JK JN JS JL MY KP FI TX hsim H locs ls hP hD hS (lv_sub hl [2, 3, 4, 5, 6] rfl)
  · refine lv_aload_n hx hb dL_law_177 rfl (lv_at hl 1 rfl) ?_
    refine lv_aload_n hx hb dL_law_178 rfl (lv_at hl 0 rfl) ?_
    refine lv_iload hx hb dL_law_179 (lv_at hl 4 rfl) ?_
    refine lv_iconst (v := (1 : Int32)) hx hb dL_law_181 (by decide) ?_
    refine lv_iadd hx hb dL_law_182 ?_
    refine va_sld hx hb hX hbl hbA hS hv1 dL_law_183 ?_
    refine lv_aload_n hx hb dL_law_184 rfl (lv_at hl 0 rfl) ?_
    refine lv_iload hx hb dL_law_185 (lv_at hl 4 rfl) ?_
    refine lv_iconst (v := (2 : Int32)) hx hb dL_law_187 (by decide) ?_
    refine lv_iadd hx hb dL_law_188 ?_
    refine va_sld hx hb hX hbl hbA hS hv2 dL_law_189 ?_
    refine lv_aload_n hx hb dL_law_190 rfl (lv_at hl 3 rfl) ?_
    refine kH_callSs (As := [.ref (α 0), .int ((xs ((nI i) + (1 : Int32)).toNatClampNeg)), .int ((xs ((nI i) + (2 : Int32)).toNatClampNeg)), .ref o]) (rest := []) (wr := wM cI β mT mW mH mS mR mL mC mZ mA mB KK KN KS KC AN JK JN JS JL MY KP FI TX) (wn := wL cI cJ α β o OUT gw gc gs ge gf cR cL cB pB SD RK RN RS RC RT LK LN LS LL US UB BB mT mW mH mS mR mL mC mZ mA mB KK KN KS KC AN JK JN JS JL MY KP FI TX) S T hNc hK2 hP hD hS [33, 0, 1, 2, 3, 4, 5, 6, 7, 8, 9, 10, 11, 12, 13, 14, 15, 16, 17, 18] [19, 20, 21, 22, 23, 24, 25, 26, 27, 28, 29, 30, 31, 32] [15, 16, 17, 18, 19, 20, 21, 22, 23, 24, 25, 26, 27, 28, 29, 30, 31, 32, 33, 0, 1, 2, 3, 4, 5, 6, 7, 8, 9, 10, 11, 12, 13, 14] rfl rfl rfl rfl (by decide) rfl rfl (c_L_into_x2 l hlt D cI cJ α o OUT gw gc gs ge gf cR cL cB pB SD RK RN RS RC RT LK LN LS LL US UB BB ((xs ((nI i) + (1 : Int32)).toNatClampNeg)) ((xs ((nI i) + (2 : Int32)).toNatClampNeg)) g0 g1) (vx_cwSW 4 hts gL_law_L_into rfl rfl rfl (by decide +kernel) ⟨(Nat.le_of_ble_eq_true rfl), (Nat.le_of_ble_eq_true rfl)⟩) rfl hl.1 rfl (Nat.le_of_ble_eq_true rfl) dL_law_191 ⟨by show _ ≤ 601024; omega, by show _ ≤ 7292999; omega⟩ (fun H locs hP hD hS => ?_)
    refine lv_istore (lv' := [(5, .int (1 : Int32)), (0, .ref b), (1, .ref (α 0)), (2, .ref (β 0)), (3, .ref o), (4, .int (nI i))]) hx hb dL_law_194 hl (by decide) rfl (fun ls hl => ?_)
    refine lv_aload_n hx hb dL_law_196 rfl (lv_at hl 3 rfl) ?_
    refine lv_aload_n hx hb dL_law_197 rfl (lv_at hl 1 rfl) ?_
    refine lv_iload hx hb dL_law_198 (lv_at hl 5 rfl) ?_
    refine lv_iconst (v := (1 : Int32)) hx hb dL_law_200 (by decide) ?_
    refine lv_iadd hx hb dL_law_201 ?_
    refine va_sld hx hb hX hbl hbA hS hv1 dL_law_202 ?_
    refine lv_aload_n hx hb dL_law_203 rfl (lv_at hl 1 rfl) ?_
    refine lv_iload hx hb dL_law_204 (lv_at hl 5 rfl) ?_
    refine lv_iconst (v := (2 : Int32)) hx hb dL_law_206 (by decide) ?_
    refine lv_iadd hx hb dL_law_207 ?_
    refine va_sld hx hb hX hbl hbA hS hv2 dL_law_208 ?_
    refine kI_callVs (As := [.int ((xs ((nI i) + (1 : Int32)).toNatClampNeg)), .int ((xs ((nI i) + (2 : Int32)).toNatClampNeg))]) (rest := []) (wr := (wC cI α gw gc gs ge gf cR cL cB pB SD RK RN RS RC RT LK LN LS LL US UB BB) ++ [(o, .inl (cJ, 1, .inr (.inl OUT)))]) (wn := wL cI cJ α β o OUT gw gc gs ge gf cR cL cB pB SD RK RN RS RC RT LK LN LS LL US UB BB t.2.1 mW mH mS mR mL mC mZ mA mB KK KN t.2.2.1 t.2.2.2 AN JK JN JS JL MY KP FI TX) S hP hD hS [19, 20, 21, 22, 23, 24, 25, 26, 27, 28, 29, 30, 31, 32] [0, 1, 2, 3, 4, 5, 6, 7, 8, 9, 10, 11, 12, 13, 14, 15, 16, 17, 18, 33] [0, 1, 2, 3, 4, 5, 6, 7, 8, 9, 10, 11, 12, 13, 14, 15, 16, 17, 18, 20, 21, 22, 23, 24, 25, 26, 27, 28, 29, 30, 31, 32, 33, 19] rfl rfl rfl rfl (by decide) rfl rfl (c_X6_into l D cI β mT mW mH mS mR mL mC mZ mA mB KK KN KS KC AN JK JN JS JL MY KP FI TX FF ((xs ((nI i) + (1 : Int32)).toNatClampNeg)) ((xs ((nI i) + (2 : Int32)).toNatClampNeg)) t h6) (cwV 2 hts gL_law_X6_into rfl rfl rfl (by decide +kernel) ⟨(Nat.le_of_ble_eq_true rfl), (Nat.le_of_ble_eq_true rfl)⟩) 0 rfl rfl rfl hl.1 rfl (Nat.le_of_ble_eq_true rfl) dL_law_209 ⟨by show _ ≤ 601024; omega, by show _ ≤ 7292999; omega⟩ (fun H locs hP hD hS => ?_)
    refine lv_istore (lv' := [(6, .int t.1), (5, .int (1 : Int32)), (0, .ref b), (1, .ref (α 0)), (2, .ref (β 0)), (3, .ref o), (4, .int (nI i))]) hx hb dL_law_212 hl (by decide) rfl (fun ls hl => ?_)
    refine lv_aload_n hx hb dL_law_214 rfl (lv_at hl 4 rfl) ?_
    refine kI_callVs (As := []) (rest := []) (wr := (wC cI α gw gc gs ge gf cR cL cB pB SD RK RN RS RC RT LK LN LS LL US UB BB) ++ [(o, .inl (cJ, 1, .inr (.inl OUT)))]) (wn := wL cI cJ α β o OUT gw gc gs ge gf cR cL cB pB SD RK RN RS RC RT LK LN LS LL US UB BB t.2.1 mW mH mS mR mL mC mZ mA mB KK KN t.2.2.1 t.2.2.2 AN JK JN JS JL MY KP FI TX) S hP hD hS [19, 20, 21, 22, 23, 24, 25, 26, 27, 28, 29, 30, 31, 32] [0, 1, 2, 3, 4, 5, 6, 7, 8, 9, 10, 11, 12, 13, 14, 15, 16, 17, 18, 33] [0, 1, 2, 3, 4, 5, 6, 7, 8, 9, 10, 11, 12, 13, 14, 15, 16, 17, 18, 20, 21, 22, 23, 24, 25, 26, 27, 28, 29, 30, 31, 32, 33, 19] rfl rfl rfl rfl (by decide) rfl rfl (c_X6_thrown l D cI β t.2.1 mW mH mS mR mL mC mZ mA mB KK KN t.2.2.1 t.2.2.2 AN JK JN JS JL MY KP FI TX t.2.1 rfl) (cwV 0 hts gL_law_X6_thrown rfl rfl rfl (by decide +kernel) ⟨(Nat.le_of_ble_eq_true rfl), (Nat.le_of_ble_eq_true rfl)⟩) 0 rfl rfl rfl hl.1 rfl (Nat.le_of_ble_eq_true rfl) dL_law_215 ⟨by show _ ≤ 601024; omega, by show _ ≤ 7292999; omega⟩ (fun H locs hP hD hS => ?_)
    refine lv_iload hx hb dL_law_218 (lv_at hl 1 rfl) ?_
    refine lv_icmp_eq (tgt := 225) hx hb dL_law_220 (by decide) (fun c9 => ?_) (fun c9 => absurd ht c9)
    refine lv_iload hx hb dL_law_225 (lv_at hl 1 rfl) ?_
    refine lv_if_ne (tgt := 249) hx hb dL_law_227 (by decide) (fun c9 => ?_) (fun c9 => absurd c9 (by decide))
    refine lv_goto (tgt := 737) hx hb dL_law_249 (by decide) ?_
    refine W.widen (k := 34 + (k + 1)) (n := 4936 + 6 * (k + 1)) (by omega) (by omega) ?_
    exact w737 OUT gw gc gs ge gf cR cL cB pB SD RK RN RS RC RT LK LN LS LL US UB BB t.2.1 mW mH mS mR mL mC mZ mA mB KK KN t.2.2.1 t.2.2.2 AN JK JN JS JL MY KP FI TX hsim H locs ls hP hD hS (lv_sub hl [2, 3, 4, 5, 6] rfl)
set_option maxHeartbeats 8000000 in
set_option maxRecDepth 100000 in
theorem lc_answer {p : Program} {l : Launch} {e : Env} {s : State} {m : MethodId} {below : List Frame} {meth : Method} {c : Code} {D : va_G} {cI cJ : ClassId} {α β : Nat → Nat} {o : Nat} {A : Nat → Prop} {b L : Nat} {xs : Nat → Int32} (hL : L ≤ 2051) (hlt : l.stackTraces = false) (S : kC p s m #[Value.ref b] meth c cL_law 7 wsL_law RL ret D cI A) (T : kT l s A) (hNc : lk s) (hK2 : va_K D vwCl [(cI, .int), (cJ, .long)] s) (hX : va_X b L xs s s.heap) (hbl : b < s.heap.size) (hbA : ¬ A b) (hA9 : ∀ q, A q → s.heap.size ≤ q) (k i : Nat) (hk : k ≤ 512) (hv0 : vp_in (nI i) L) (hv1 : vp_in (nI i + (1 : Int32)) L) (hv2 : vp_in (nI i + (2 : Int32)) L) (hv3 : vp_in (nI i + (3 : Int32)) L)
    (w737 : ∀ (OUT : Nat → Int64) (gw gc gs ge gf cR cL cB pB : Int32) (SD RK RN RS RC RT LK LN LS LL US UB BB : Nat → Int32) (mT mW mH mS mR mL mC mZ mA mB : Int32) (KK KN KS KC AN JK JN JS JL MY KP FI TX : Nat → Int32) (hs : Sim gw gc gs ge gf cR cL cB pB SD RK RN RS RC RT LK LN LS LL US UB BB mT mW mH mS mR mL mC mZ mA mB KK KN KS KC AN JK JN JS JL MY KP FI TX) (H : Heap) (locs : List Loc) (ls : Array Slot), va_P D vwCl (wL cI cJ α β o OUT gw gc gs ge gf cR cL cB pB SD RK RN RS RC RT LK LN LS LL US UB BB mT mW mH mS mR mL mC mZ mA mB KK KN KS KC AN JK JN JS JL MY KP FI TX) H → va_D A (wL cI cJ α β o OUT gw gc gs ge gf cR cL cB pB SD RK RN RS RC RT LK LN LS LL US UB BB mT mW mH mS mR mL mC mZ mA mB KK KN KS KC AN JK JN JS JL MY KP FI TX) → va_S A s.heap H locs → lv_has ls 7 [(0, .ref b), (1, .ref (α 0)), (2, .ref (β 0)), (3, .ref o), (4, .int (nI i))] → W p l e room_1 s m #[Value.ref b] below meth c H locs (34 + (k + 1)) (4936 + 6 * (k + 1)) (lw_Z below #[Value.ref b] s) (F0 m 737 ls [])) :
    ∀ (OUT : Nat → Int64) (gw gc gs ge gf cR cL cB pB : Int32) (SD RK RN RS RC RT LK LN LS LL US UB BB : Nat → Int32) (mT mW mH mS mR mL mC mZ mA mB : Int32) (KK KN KS KC AN JK JN JS JL MY KP FI TX : Nat → Int32) (hs : Sim gw gc gs ge gf cR cL cB pB SD RK RN RS RC RT LK LN LS LL US UB BB mT mW mH mS mR mL mC mZ mA mB KK KN KS KC AN JK JN JS JL MY KP FI TX) (H : Heap) (locs : List Loc) (ls : Array Slot), va_P D vwCl (wL cI cJ α β o OUT gw gc gs ge gf cR cL cB pB SD RK RN RS RC RT LK LN LS LL US UB BB mT mW mH mS mR mL mC mZ mA mB KK KN KS KC AN JK JN JS JL MY KP FI TX) H → va_D A (wL cI cJ α β o OUT gw gc gs ge gf cR cL cB pB SD RK RN RS RC RT LK LN LS LL US UB BB mT mW mH mS mR mL mC mZ mA mB KK KN KS KC AN JK JN JS JL MY KP FI TX) → va_S A s.heap H locs → lv_has ls 7 [(0, .ref b), (1, .ref (α 0)), (2, .ref (β 0)), (3, .ref o), (4, .int (nI i))] → W p l e room_1 s m #[Value.ref b] below meth c H locs (34 + k) (4936 + 6 * k) (lw_Z below #[Value.ref b] s) (F0 m 252 ls []) := by
  have hx := S.1.1
  have hb := S.1.2.1
  have hts := S.1.2.2.2.2
  intro OUT gw gc gs ge gf cR cL cB pB SD RK RN RS RC RT LK LN LS LL US UB BB mT mW mH mS mR mL mC mZ mA mB KK KN KS KC AN JK JN JS JL MY KP FI TX hs H locs ls hP hD hS hl
  rcases P_answer gw gc gs ge gf cR cL cB pB SD RK RN RS RC RT LK LN LS LL US UB BB mT mW mH mS mR mL mC mZ mA mB KK KN KS KC AN JK JN JS JL MY KP FI TX hs (xs (nI i + (1 : Int32)).toNatClampNeg) (xs (nI i + (2 : Int32)).toNatClampNeg)  with ⟨r, t, h5, h6, ht, heq, hsim⟩ | ⟨g0, t, h6, ht, hsim⟩ | ⟨g0, g1, g2, t, h6, ht, hsim⟩
  · by_cases hz : t.1 = 0
    · refine lv_aload_n hx hb dL_law_252 rfl (lv_at hl 1 rfl) ?_
      refine lv_aload_n hx hb dL_law_253 rfl (lv_at hl 0 rfl) ?_
      refine lv_iload hx hb dL_law_254 (lv_at hl 4 rfl) ?_
      refine lv_iconst (v := (1 : Int32)) hx hb dL_law_256 (by decide) ?_
      refine lv_iadd hx hb dL_law_257 ?_
      refine va_sld hx hb hX hbl hbA hS hv1 dL_law_258 ?_
      refine lv_aload_n hx hb dL_law_259 rfl (lv_at hl 0 rfl) ?_
      refine lv_iload hx hb dL_law_260 (lv_at hl 4 rfl) ?_
      refine lv_iconst (v := (2 : Int32)) hx hb dL_law_262 (by decide) ?_
      refine lv_iadd hx hb dL_law_263 ?_
      refine va_sld hx hb hX hbl hbA hS hv2 dL_law_264 ?_
      refine lv_aload_n hx hb dL_law_265 rfl (lv_at hl 3 rfl) ?_
      refine kH_callSs (As := [.ref (α 0), .int ((xs ((nI i) + (1 : Int32)).toNatClampNeg)), .int ((xs ((nI i) + (2 : Int32)).toNatClampNeg)), .ref o]) (rest := []) (wr := wM cI β mT mW mH mS mR mL mC mZ mA mB KK KN KS KC AN JK JN JS JL MY KP FI TX) (wn := wL cI cJ α β o (vp_updL OUT 0 (lb r.1)) gw gc gs ge gf cR cL cB pB r.2 RK RN RS RC RT LK LN LS LL US UB BB mT mW mH mS mR mL mC mZ mA mB KK KN KS KC AN JK JN JS JL MY KP FI TX) S T hNc hK2 hP hD hS [33, 0, 1, 2, 3, 4, 5, 6, 7, 8, 9, 10, 11, 12, 13, 14, 15, 16, 17, 18] [19, 20, 21, 22, 23, 24, 25, 26, 27, 28, 29, 30, 31, 32] [15, 16, 17, 18, 19, 20, 21, 22, 23, 24, 25, 26, 27, 28, 29, 30, 31, 32, 33, 0, 1, 2, 3, 4, 5, 6, 7, 8, 9, 10, 11, 12, 13, 14] rfl rfl rfl rfl (by decide) rfl rfl (c_L_answer_n l hlt D cI cJ α o OUT gw gc gs ge gf cR cL cB pB SD RK RN RS RC RT LK LN LS LL US UB BB ((xs ((nI i) + (1 : Int32)).toNatClampNeg)) ((xs ((nI i) + (2 : Int32)).toNatClampNeg)) r h5) (vx_cwSW 4 hts gL_law_L_answer rfl rfl rfl (by decide +kernel) ⟨(Nat.le_of_ble_eq_true rfl), (Nat.le_of_ble_eq_true rfl)⟩) rfl hl.1 rfl (Nat.le_of_ble_eq_true rfl) dL_law_266 ⟨by show _ ≤ 601024; omega, by show _ ≤ 7292999; omega⟩ (fun H locs hP hD hS => ?_)
      refine lv_istore (lv' := [(5, .int (0 : Int32)), (0, .ref b), (1, .ref (α 0)), (2, .ref (β 0)), (3, .ref o), (4, .int (nI i))]) hx hb dL_law_269 hl (by decide) rfl (fun ls hl => ?_)
      refine lv_aload_n hx hb dL_law_271 rfl (lv_at hl 3 rfl) ?_
      refine lv_aload_n hx hb dL_law_272 rfl (lv_at hl 1 rfl) ?_
      refine lv_iload hx hb dL_law_273 (lv_at hl 5 rfl) ?_
      refine lv_iconst (v := (1 : Int32)) hx hb dL_law_275 (by decide) ?_
      refine lv_iadd hx hb dL_law_276 ?_
      refine va_sld hx hb hX hbl hbA hS hv1 dL_law_277 ?_
      refine lv_aload_n hx hb dL_law_278 rfl (lv_at hl 1 rfl) ?_
      refine lv_iload hx hb dL_law_279 (lv_at hl 5 rfl) ?_
      refine lv_iconst (v := (2 : Int32)) hx hb dL_law_281 (by decide) ?_
      refine lv_iadd hx hb dL_law_282 ?_
      refine va_sld hx hb hX hbl hbA hS hv2 dL_law_283 ?_
      refine kI_callVs (As := [.int ((xs ((nI i) + (1 : Int32)).toNatClampNeg)), .int ((xs ((nI i) + (2 : Int32)).toNatClampNeg))]) (rest := []) (wr := (wC cI α gw gc gs ge gf cR cL cB pB r.2 RK RN RS RC RT LK LN LS LL US UB BB) ++ [(o, .inl (cJ, 1, .inr (.inl (vp_updL OUT 0 (lb r.1)))))]) (wn := wL cI cJ α β o (vp_updL OUT 0 (lb r.1)) gw gc gs ge gf cR cL cB pB r.2 RK RN RS RC RT LK LN LS LL US UB BB t.2.1 mW mH mS mR mL mC mZ mA mB KK KN KS KC t.2.2 JK JN JS JL MY KP FI TX) S hP hD hS [19, 20, 21, 22, 23, 24, 25, 26, 27, 28, 29, 30, 31, 32] [0, 1, 2, 3, 4, 5, 6, 7, 8, 9, 10, 11, 12, 13, 14, 15, 16, 17, 18, 33] [0, 1, 2, 3, 4, 5, 6, 7, 8, 9, 10, 11, 12, 13, 14, 15, 16, 17, 18, 20, 21, 22, 23, 24, 25, 26, 27, 28, 29, 30, 31, 32, 33, 19] rfl rfl rfl rfl (by decide) rfl rfl (c_X6_answer l D cI β mT mW mH mS mR mL mC mZ mA mB KK KN KS KC AN JK JN JS JL MY KP FI TX ((xs ((nI i) + (1 : Int32)).toNatClampNeg)) ((xs ((nI i) + (2 : Int32)).toNatClampNeg)) t h6) (cwV 2 hts gL_law_X6_answer rfl rfl rfl (by decide +kernel) ⟨(Nat.le_of_ble_eq_true rfl), (Nat.le_of_ble_eq_true rfl)⟩) 0 rfl rfl rfl hl.1 rfl (Nat.le_of_ble_eq_true rfl) dL_law_284 ⟨by show _ ≤ 601024; omega, by show _ ≤ 7292999; omega⟩ (fun H locs hP hD hS => ?_)
      refine lv_istore (lv' := [(6, .int t.1), (5, .int (0 : Int32)), (0, .ref b), (1, .ref (α 0)), (2, .ref (β 0)), (3, .ref o), (4, .int (nI i))]) hx hb dL_law_287 hl (by decide) rfl (fun ls hl => ?_)
      refine lv_aload_n hx hb dL_law_289 rfl (lv_at hl 4 rfl) ?_
      refine kI_callVs (As := []) (rest := []) (wr := (wC cI α gw gc gs ge gf cR cL cB pB r.2 RK RN RS RC RT LK LN LS LL US UB BB) ++ [(o, .inl (cJ, 1, .inr (.inl (vp_updL OUT 0 (lb r.1)))))]) (wn := wL cI cJ α β o (vp_updL OUT 0 (lb r.1)) gw gc gs ge gf cR cL cB pB r.2 RK RN RS RC RT LK LN LS LL US UB BB t.2.1 mW mH mS mR mL mC mZ mA mB KK KN KS KC t.2.2 JK JN JS JL MY KP FI TX) S hP hD hS [19, 20, 21, 22, 23, 24, 25, 26, 27, 28, 29, 30, 31, 32] [0, 1, 2, 3, 4, 5, 6, 7, 8, 9, 10, 11, 12, 13, 14, 15, 16, 17, 18, 33] [0, 1, 2, 3, 4, 5, 6, 7, 8, 9, 10, 11, 12, 13, 14, 15, 16, 17, 18, 20, 21, 22, 23, 24, 25, 26, 27, 28, 29, 30, 31, 32, 33, 19] rfl rfl rfl rfl (by decide) rfl rfl (c_X6_thrown l D cI β t.2.1 mW mH mS mR mL mC mZ mA mB KK KN KS KC t.2.2 JK JN JS JL MY KP FI TX t.2.1 rfl) (cwV 0 hts gL_law_X6_thrown rfl rfl rfl (by decide +kernel) ⟨(Nat.le_of_ble_eq_true rfl), (Nat.le_of_ble_eq_true rfl)⟩) 0 rfl rfl rfl hl.1 rfl (Nat.le_of_ble_eq_true rfl) dL_law_290 ⟨by show _ ≤ 601024; omega, by show _ ≤ 7292999; omega⟩ (fun H locs hP hD hS => ?_)
      refine lv_iload hx hb dL_law_293 (lv_at hl 1 rfl) ?_
      refine lv_icmp_eq (tgt := 300) hx hb dL_law_295 (by decide) (fun c9 => ?_) (fun c9 => absurd ht c9)
      refine lv_iload hx hb dL_law_300 (lv_at hl 1 rfl) ?_
      refine lv_if_ne (tgt := 324) hx hb dL_law_302 (by decide) (fun c9 => absurd rfl c9) (fun c9 => ?_)
      refine lv_aload_n hx hb dL_law_305 rfl (lv_at hl 5 rfl) ?_
      refine lv_iconst (v := (0 : Int32)) hx hb dL_law_306 (by decide) ?_
      refine va_lald hx hb hK2 hP 33 1 rfl rfl vp01 dL_law_307 ?_
      refine lv_iload hx hb dL_law_308 (lv_at hl 0 rfl) ?_
      refine lv_if_eq (tgt := 317) hx hb dL_law_310 (by decide) (fun c9 => ?_) (fun c9 => absurd hz c9)
      refine lv_lconst (v := (0 : Int64)) hx hb dL_law_317 rfl ?_
      refine W.lcmp hx hb dL_law_318 ?_
      refine lv_if_eq (tgt := 324) hx hb dL_law_319 (by decide) (fun c9 => ?_) (fun c9 => absurd (lw_c0 heq hz) c9)
      refine lv_goto (tgt := 737) hx hb dL_law_324 (by decide) ?_
      refine W.widen (k := 34 + (k + 1)) (n := 4936 + 6 * (k + 1)) (by omega) (by omega) ?_
      exact w737 (vp_updL OUT 0 (lb r.1)) gw gc gs ge gf cR cL cB pB r.2 RK RN RS RC RT LK LN LS LL US UB BB t.2.1 mW mH mS mR mL mC mZ mA mB KK KN KS KC t.2.2 JK JN JS JL MY KP FI TX hsim H locs ls hP hD hS (lv_sub hl [2, 3, 4, 5, 6] rfl)
    · refine lv_aload_n hx hb dL_law_252 rfl (lv_at hl 1 rfl) ?_
      refine lv_aload_n hx hb dL_law_253 rfl (lv_at hl 0 rfl) ?_
      refine lv_iload hx hb dL_law_254 (lv_at hl 4 rfl) ?_
      refine lv_iconst (v := (1 : Int32)) hx hb dL_law_256 (by decide) ?_
      refine lv_iadd hx hb dL_law_257 ?_
      refine va_sld hx hb hX hbl hbA hS hv1 dL_law_258 ?_
      refine lv_aload_n hx hb dL_law_259 rfl (lv_at hl 0 rfl) ?_
      refine lv_iload hx hb dL_law_260 (lv_at hl 4 rfl) ?_
      refine lv_iconst (v := (2 : Int32)) hx hb dL_law_262 (by decide) ?_
      refine lv_iadd hx hb dL_law_263 ?_
      refine va_sld hx hb hX hbl hbA hS hv2 dL_law_264 ?_
      refine lv_aload_n hx hb dL_law_265 rfl (lv_at hl 3 rfl) ?_
      refine kH_callSs (As := [.ref (α 0), .int ((xs ((nI i) + (1 : Int32)).toNatClampNeg)), .int ((xs ((nI i) + (2 : Int32)).toNatClampNeg)), .ref o]) (rest := []) (wr := wM cI β mT mW mH mS mR mL mC mZ mA mB KK KN KS KC AN JK JN JS JL MY KP FI TX) (wn := wL cI cJ α β o (vp_updL OUT 0 (lb r.1)) gw gc gs ge gf cR cL cB pB r.2 RK RN RS RC RT LK LN LS LL US UB BB mT mW mH mS mR mL mC mZ mA mB KK KN KS KC AN JK JN JS JL MY KP FI TX) S T hNc hK2 hP hD hS [33, 0, 1, 2, 3, 4, 5, 6, 7, 8, 9, 10, 11, 12, 13, 14, 15, 16, 17, 18] [19, 20, 21, 22, 23, 24, 25, 26, 27, 28, 29, 30, 31, 32] [15, 16, 17, 18, 19, 20, 21, 22, 23, 24, 25, 26, 27, 28, 29, 30, 31, 32, 33, 0, 1, 2, 3, 4, 5, 6, 7, 8, 9, 10, 11, 12, 13, 14] rfl rfl rfl rfl (by decide) rfl rfl (c_L_answer_n l hlt D cI cJ α o OUT gw gc gs ge gf cR cL cB pB SD RK RN RS RC RT LK LN LS LL US UB BB ((xs ((nI i) + (1 : Int32)).toNatClampNeg)) ((xs ((nI i) + (2 : Int32)).toNatClampNeg)) r h5) (vx_cwSW 4 hts gL_law_L_answer rfl rfl rfl (by decide +kernel) ⟨(Nat.le_of_ble_eq_true rfl), (Nat.le_of_ble_eq_true rfl)⟩) rfl hl.1 rfl (Nat.le_of_ble_eq_true rfl) dL_law_266 ⟨by show _ ≤ 601024; omega, by show _ ≤ 7292999; omega⟩ (fun H locs hP hD hS => ?_)
      refine lv_istore (lv' := [(5, .int (0 : Int32)), (0, .ref b), (1, .ref (α 0)), (2, .ref (β 0)), (3, .ref o), (4, .int (nI i))]) hx hb dL_law_269 hl (by decide) rfl (fun ls hl => ?_)
      refine lv_aload_n hx hb dL_law_271 rfl (lv_at hl 3 rfl) ?_
      refine lv_aload_n hx hb dL_law_272 rfl (lv_at hl 1 rfl) ?_
      refine lv_iload hx hb dL_law_273 (lv_at hl 5 rfl) ?_
      refine lv_iconst (v := (1 : Int32)) hx hb dL_law_275 (by decide) ?_
      refine lv_iadd hx hb dL_law_276 ?_
      refine va_sld hx hb hX hbl hbA hS hv1 dL_law_277 ?_
      refine lv_aload_n hx hb dL_law_278 rfl (lv_at hl 1 rfl) ?_
      refine lv_iload hx hb dL_law_279 (lv_at hl 5 rfl) ?_
      refine lv_iconst (v := (2 : Int32)) hx hb dL_law_281 (by decide) ?_
      refine lv_iadd hx hb dL_law_282 ?_
      refine va_sld hx hb hX hbl hbA hS hv2 dL_law_283 ?_
      refine kI_callVs (As := [.int ((xs ((nI i) + (1 : Int32)).toNatClampNeg)), .int ((xs ((nI i) + (2 : Int32)).toNatClampNeg))]) (rest := []) (wr := (wC cI α gw gc gs ge gf cR cL cB pB r.2 RK RN RS RC RT LK LN LS LL US UB BB) ++ [(o, .inl (cJ, 1, .inr (.inl (vp_updL OUT 0 (lb r.1)))))]) (wn := wL cI cJ α β o (vp_updL OUT 0 (lb r.1)) gw gc gs ge gf cR cL cB pB r.2 RK RN RS RC RT LK LN LS LL US UB BB t.2.1 mW mH mS mR mL mC mZ mA mB KK KN KS KC t.2.2 JK JN JS JL MY KP FI TX) S hP hD hS [19, 20, 21, 22, 23, 24, 25, 26, 27, 28, 29, 30, 31, 32] [0, 1, 2, 3, 4, 5, 6, 7, 8, 9, 10, 11, 12, 13, 14, 15, 16, 17, 18, 33] [0, 1, 2, 3, 4, 5, 6, 7, 8, 9, 10, 11, 12, 13, 14, 15, 16, 17, 18, 20, 21, 22, 23, 24, 25, 26, 27, 28, 29, 30, 31, 32, 33, 19] rfl rfl rfl rfl (by decide) rfl rfl (c_X6_answer l D cI β mT mW mH mS mR mL mC mZ mA mB KK KN KS KC AN JK JN JS JL MY KP FI TX ((xs ((nI i) + (1 : Int32)).toNatClampNeg)) ((xs ((nI i) + (2 : Int32)).toNatClampNeg)) t h6) (cwV 2 hts gL_law_X6_answer rfl rfl rfl (by decide +kernel) ⟨(Nat.le_of_ble_eq_true rfl), (Nat.le_of_ble_eq_true rfl)⟩) 0 rfl rfl rfl hl.1 rfl (Nat.le_of_ble_eq_true rfl) dL_law_284 ⟨by show _ ≤ 601024; omega, by show _ ≤ 7292999; omega⟩ (fun H locs hP hD hS => ?_)
      refine lv_istore (lv' := [(6, .int t.1), (5, .int (0 : Int32)), (0, .ref b), (1, .ref (α 0)), (2, .ref (β 0)), (3, .ref o), (4, .int (nI i))]) hx hb dL_law_287 hl (by decide) rfl (fun ls hl => ?_)
      refine lv_aload_n hx hb dL_law_289 rfl (lv_at hl 4 rfl) ?_
      refine kI_callVs (As := []) (rest := []) (wr := (wC cI α gw gc gs ge gf cR cL cB pB r.2 RK RN RS RC RT LK LN LS LL US UB BB) ++ [(o, .inl (cJ, 1, .inr (.inl (vp_updL OUT 0 (lb r.1)))))]) (wn := wL cI cJ α β o (vp_updL OUT 0 (lb r.1)) gw gc gs ge gf cR cL cB pB r.2 RK RN RS RC RT LK LN LS LL US UB BB t.2.1 mW mH mS mR mL mC mZ mA mB KK KN KS KC t.2.2 JK JN JS JL MY KP FI TX) S hP hD hS [19, 20, 21, 22, 23, 24, 25, 26, 27, 28, 29, 30, 31, 32] [0, 1, 2, 3, 4, 5, 6, 7, 8, 9, 10, 11, 12, 13, 14, 15, 16, 17, 18, 33] [0, 1, 2, 3, 4, 5, 6, 7, 8, 9, 10, 11, 12, 13, 14, 15, 16, 17, 18, 20, 21, 22, 23, 24, 25, 26, 27, 28, 29, 30, 31, 32, 33, 19] rfl rfl rfl rfl (by decide) rfl rfl (c_X6_thrown l D cI β t.2.1 mW mH mS mR mL mC mZ mA mB KK KN KS KC t.2.2 JK JN JS JL MY KP FI TX t.2.1 rfl) (cwV 0 hts gL_law_X6_thrown rfl rfl rfl (by decide +kernel) ⟨(Nat.le_of_ble_eq_true rfl), (Nat.le_of_ble_eq_true rfl)⟩) 0 rfl rfl rfl hl.1 rfl (Nat.le_of_ble_eq_true rfl) dL_law_290 ⟨by show _ ≤ 601024; omega, by show _ ≤ 7292999; omega⟩ (fun H locs hP hD hS => ?_)
      refine lv_iload hx hb dL_law_293 (lv_at hl 1 rfl) ?_
      refine lv_icmp_eq (tgt := 300) hx hb dL_law_295 (by decide) (fun c9 => ?_) (fun c9 => absurd ht c9)
      refine lv_iload hx hb dL_law_300 (lv_at hl 1 rfl) ?_
      refine lv_if_ne (tgt := 324) hx hb dL_law_302 (by decide) (fun c9 => absurd rfl c9) (fun c9 => ?_)
      refine lv_aload_n hx hb dL_law_305 rfl (lv_at hl 5 rfl) ?_
      refine lv_iconst (v := (0 : Int32)) hx hb dL_law_306 (by decide) ?_
      refine va_lald hx hb hK2 hP 33 1 rfl rfl vp01 dL_law_307 ?_
      refine lv_iload hx hb dL_law_308 (lv_at hl 0 rfl) ?_
      refine lv_if_eq (tgt := 317) hx hb dL_law_310 (by decide) (fun c9 => absurd c9 hz) (fun c9 => ?_)
      refine lv_lconst (v := (1 : Int64)) hx hb dL_law_313 rfl ?_
      refine lv_goto (tgt := 318) hx hb dL_law_314 (by decide) ?_
      refine W.lcmp hx hb dL_law_318 ?_
      refine lv_if_eq (tgt := 324) hx hb dL_law_319 (by decide) (fun c9 => ?_) (fun c9 => absurd (lw_c1 heq hz) c9)
      refine lv_goto (tgt := 737) hx hb dL_law_324 (by decide) ?_
      refine W.widen (k := 34 + (k + 1)) (n := 4936 + 6 * (k + 1)) (by omega) (by omega) ?_
      exact w737 (vp_updL OUT 0 (lb r.1)) gw gc gs ge gf cR cL cB pB r.2 RK RN RS RC RT LK LN LS LL US UB BB t.2.1 mW mH mS mR mL mC mZ mA mB KK KN KS KC t.2.2 JK JN JS JL MY KP FI TX hsim H locs ls hP hD hS (lv_sub hl [2, 3, 4, 5, 6] rfl)
  · refine lv_aload_n hx hb dL_law_252 rfl (lv_at hl 1 rfl) ?_
    refine lv_aload_n hx hb dL_law_253 rfl (lv_at hl 0 rfl) ?_
    refine lv_iload hx hb dL_law_254 (lv_at hl 4 rfl) ?_
    refine lv_iconst (v := (1 : Int32)) hx hb dL_law_256 (by decide) ?_
    refine lv_iadd hx hb dL_law_257 ?_
    refine va_sld hx hb hX hbl hbA hS hv1 dL_law_258 ?_
    refine lv_aload_n hx hb dL_law_259 rfl (lv_at hl 0 rfl) ?_
    refine lv_iload hx hb dL_law_260 (lv_at hl 4 rfl) ?_
    refine lv_iconst (v := (2 : Int32)) hx hb dL_law_262 (by decide) ?_
    refine lv_iadd hx hb dL_law_263 ?_
    refine va_sld hx hb hX hbl hbA hS hv2 dL_law_264 ?_
    refine lv_aload_n hx hb dL_law_265 rfl (lv_at hl 3 rfl) ?_
    refine kH_callSs (As := [.ref (α 0), .int ((xs ((nI i) + (1 : Int32)).toNatClampNeg)), .int ((xs ((nI i) + (2 : Int32)).toNatClampNeg)), .ref o]) (rest := []) (wr := wM cI β mT mW mH mS mR mL mC mZ mA mB KK KN KS KC AN JK JN JS JL MY KP FI TX) (wn := wL cI cJ α β o OUT gw gc gs ge gf cR cL cB pB SD RK RN RS RC RT LK LN LS LL US UB BB mT mW mH mS mR mL mC mZ mA mB KK KN KS KC AN JK JN JS JL MY KP FI TX) S T hNc hK2 hP hD hS [33, 0, 1, 2, 3, 4, 5, 6, 7, 8, 9, 10, 11, 12, 13, 14, 15, 16, 17, 18] [19, 20, 21, 22, 23, 24, 25, 26, 27, 28, 29, 30, 31, 32] [15, 16, 17, 18, 19, 20, 21, 22, 23, 24, 25, 26, 27, 28, 29, 30, 31, 32, 33, 0, 1, 2, 3, 4, 5, 6, 7, 8, 9, 10, 11, 12, 13, 14] rfl rfl rfl rfl (by decide) rfl rfl (c_L_answer_x1 l hlt D cI cJ α o OUT gw gc gs ge gf cR cL cB pB SD RK RN RS RC RT LK LN LS LL US UB BB ((xs ((nI i) + (1 : Int32)).toNatClampNeg)) ((xs ((nI i) + (2 : Int32)).toNatClampNeg)) g0) (vx_cwSW 4 hts gL_law_L_answer rfl rfl rfl (by decide +kernel) ⟨(Nat.le_of_ble_eq_true rfl), (Nat.le_of_ble_eq_true rfl)⟩) rfl hl.1 rfl (Nat.le_of_ble_eq_true rfl) dL_law_266 ⟨by show _ ≤ 601024; omega, by show _ ≤ 7292999; omega⟩ (fun H locs hP hD hS => ?_)
    refine lv_istore (lv' := [(5, .int (1 : Int32)), (0, .ref b), (1, .ref (α 0)), (2, .ref (β 0)), (3, .ref o), (4, .int (nI i))]) hx hb dL_law_269 hl (by decide) rfl (fun ls hl => ?_)
    refine lv_aload_n hx hb dL_law_271 rfl (lv_at hl 3 rfl) ?_
    refine lv_aload_n hx hb dL_law_272 rfl (lv_at hl 1 rfl) ?_
    refine lv_iload hx hb dL_law_273 (lv_at hl 5 rfl) ?_
    refine lv_iconst (v := (1 : Int32)) hx hb dL_law_275 (by decide) ?_
    refine lv_iadd hx hb dL_law_276 ?_
    refine va_sld hx hb hX hbl hbA hS hv1 dL_law_277 ?_
    refine lv_aload_n hx hb dL_law_278 rfl (lv_at hl 1 rfl) ?_
    refine lv_iload hx hb dL_law_279 (lv_at hl 5 rfl) ?_
    refine lv_iconst (v := (2 : Int32)) hx hb dL_law_281 (by decide) ?_
    refine lv_iadd hx hb dL_law_282 ?_
    refine va_sld hx hb hX hbl hbA hS hv2 dL_law_283 ?_
    refine kI_callVs (As := [.int ((xs ((nI i) + (1 : Int32)).toNatClampNeg)), .int ((xs ((nI i) + (2 : Int32)).toNatClampNeg))]) (rest := []) (wr := (wC cI α gw gc gs ge gf cR cL cB pB SD RK RN RS RC RT LK LN LS LL US UB BB) ++ [(o, .inl (cJ, 1, .inr (.inl OUT)))]) (wn := wL cI cJ α β o OUT gw gc gs ge gf cR cL cB pB SD RK RN RS RC RT LK LN LS LL US UB BB t.2.1 mW mH mS mR mL mC mZ mA mB KK KN KS KC t.2.2 JK JN JS JL MY KP FI TX) S hP hD hS [19, 20, 21, 22, 23, 24, 25, 26, 27, 28, 29, 30, 31, 32] [0, 1, 2, 3, 4, 5, 6, 7, 8, 9, 10, 11, 12, 13, 14, 15, 16, 17, 18, 33] [0, 1, 2, 3, 4, 5, 6, 7, 8, 9, 10, 11, 12, 13, 14, 15, 16, 17, 18, 20, 21, 22, 23, 24, 25, 26, 27, 28, 29, 30, 31, 32, 33, 19] rfl rfl rfl rfl (by decide) rfl rfl (c_X6_answer l D cI β mT mW mH mS mR mL mC mZ mA mB KK KN KS KC AN JK JN JS JL MY KP FI TX ((xs ((nI i) + (1 : Int32)).toNatClampNeg)) ((xs ((nI i) + (2 : Int32)).toNatClampNeg)) t h6) (cwV 2 hts gL_law_X6_answer rfl rfl rfl (by decide +kernel) ⟨(Nat.le_of_ble_eq_true rfl), (Nat.le_of_ble_eq_true rfl)⟩) 0 rfl rfl rfl hl.1 rfl (Nat.le_of_ble_eq_true rfl) dL_law_284 ⟨by show _ ≤ 601024; omega, by show _ ≤ 7292999; omega⟩ (fun H locs hP hD hS => ?_)
    refine lv_istore (lv' := [(6, .int t.1), (5, .int (1 : Int32)), (0, .ref b), (1, .ref (α 0)), (2, .ref (β 0)), (3, .ref o), (4, .int (nI i))]) hx hb dL_law_287 hl (by decide) rfl (fun ls hl => ?_)
    refine lv_aload_n hx hb dL_law_289 rfl (lv_at hl 4 rfl) ?_
    refine kI_callVs (As := []) (rest := []) (wr := (wC cI α gw gc gs ge gf cR cL cB pB SD RK RN RS RC RT LK LN LS LL US UB BB) ++ [(o, .inl (cJ, 1, .inr (.inl OUT)))]) (wn := wL cI cJ α β o OUT gw gc gs ge gf cR cL cB pB SD RK RN RS RC RT LK LN LS LL US UB BB t.2.1 mW mH mS mR mL mC mZ mA mB KK KN KS KC t.2.2 JK JN JS JL MY KP FI TX) S hP hD hS [19, 20, 21, 22, 23, 24, 25, 26, 27, 28, 29, 30, 31, 32] [0, 1, 2, 3, 4, 5, 6, 7, 8, 9, 10, 11, 12, 13, 14, 15, 16, 17, 18, 33] [0, 1, 2, 3, 4, 5, 6, 7, 8, 9, 10, 11, 12, 13, 14, 15, 16, 17, 18, 20, 21, 22, 23, 24, 25, 26, 27, 28, 29, 30, 31, 32, 33, 19] rfl rfl rfl rfl (by decide) rfl rfl (c_X6_thrown l D cI β t.2.1 mW mH mS mR mL mC mZ mA mB KK KN KS KC t.2.2 JK JN JS JL MY KP FI TX t.2.1 rfl) (cwV 0 hts gL_law_X6_thrown rfl rfl rfl (by decide +kernel) ⟨(Nat.le_of_ble_eq_true rfl), (Nat.le_of_ble_eq_true rfl)⟩) 0 rfl rfl rfl hl.1 rfl (Nat.le_of_ble_eq_true rfl) dL_law_290 ⟨by show _ ≤ 601024; omega, by show _ ≤ 7292999; omega⟩ (fun H locs hP hD hS => ?_)
    refine lv_iload hx hb dL_law_293 (lv_at hl 1 rfl) ?_
    refine lv_icmp_eq (tgt := 300) hx hb dL_law_295 (by decide) (fun c9 => ?_) (fun c9 => absurd ht c9)
    refine lv_iload hx hb dL_law_300 (lv_at hl 1 rfl) ?_
    refine lv_if_ne (tgt := 324) hx hb dL_law_302 (by decide) (fun c9 => ?_) (fun c9 => absurd c9 (by decide))
    refine lv_goto (tgt := 737) hx hb dL_law_324 (by decide) ?_
    refine W.widen (k := 34 + (k + 1)) (n := 4936 + 6 * (k + 1)) (by omega) (by omega) ?_
    exact w737 OUT gw gc gs ge gf cR cL cB pB SD RK RN RS RC RT LK LN LS LL US UB BB t.2.1 mW mH mS mR mL mC mZ mA mB KK KN KS KC t.2.2 JK JN JS JL MY KP FI TX hsim H locs ls hP hD hS (lv_sub hl [2, 3, 4, 5, 6] rfl)
  · refine lv_aload_n hx hb dL_law_252 rfl (lv_at hl 1 rfl) ?_
    refine lv_aload_n hx hb dL_law_253 rfl (lv_at hl 0 rfl) ?_
    refine lv_iload hx hb dL_law_254 (lv_at hl 4 rfl) ?_
    refine lv_iconst (v := (1 : Int32)) hx hb dL_law_256 (by decide) ?_
    refine lv_iadd hx hb dL_law_257 ?_
    refine va_sld hx hb hX hbl hbA hS hv1 dL_law_258 ?_
    refine lv_aload_n hx hb dL_law_259 rfl (lv_at hl 0 rfl) ?_
    refine lv_iload hx hb dL_law_260 (lv_at hl 4 rfl) ?_
    refine lv_iconst (v := (2 : Int32)) hx hb dL_law_262 (by decide) ?_
    refine lv_iadd hx hb dL_law_263 ?_
    refine va_sld hx hb hX hbl hbA hS hv2 dL_law_264 ?_
    refine lv_aload_n hx hb dL_law_265 rfl (lv_at hl 3 rfl) ?_
    refine kH_callSs (As := [.ref (α 0), .int ((xs ((nI i) + (1 : Int32)).toNatClampNeg)), .int ((xs ((nI i) + (2 : Int32)).toNatClampNeg)), .ref o]) (rest := []) (wr := wM cI β mT mW mH mS mR mL mC mZ mA mB KK KN KS KC AN JK JN JS JL MY KP FI TX) (wn := wL cI cJ α β o OUT gw gc gs ge gf cR cL cB pB SD RK RN RS RC RT LK LN LS LL US UB BB mT mW mH mS mR mL mC mZ mA mB KK KN KS KC AN JK JN JS JL MY KP FI TX) S T hNc hK2 hP hD hS [33, 0, 1, 2, 3, 4, 5, 6, 7, 8, 9, 10, 11, 12, 13, 14, 15, 16, 17, 18] [19, 20, 21, 22, 23, 24, 25, 26, 27, 28, 29, 30, 31, 32] [15, 16, 17, 18, 19, 20, 21, 22, 23, 24, 25, 26, 27, 28, 29, 30, 31, 32, 33, 0, 1, 2, 3, 4, 5, 6, 7, 8, 9, 10, 11, 12, 13, 14] rfl rfl rfl rfl (by decide) rfl rfl (c_L_answer_x2 l hlt D cI cJ α o OUT gw gc gs ge gf cR cL cB pB SD RK RN RS RC RT LK LN LS LL US UB BB ((xs ((nI i) + (1 : Int32)).toNatClampNeg)) ((xs ((nI i) + (2 : Int32)).toNatClampNeg)) g0 g1 g2) (vx_cwSW 4 hts gL_law_L_answer rfl rfl rfl (by decide +kernel) ⟨(Nat.le_of_ble_eq_true rfl), (Nat.le_of_ble_eq_true rfl)⟩) rfl hl.1 rfl (Nat.le_of_ble_eq_true rfl) dL_law_266 ⟨by show _ ≤ 601024; omega, by show _ ≤ 7292999; omega⟩ (fun H locs hP hD hS => ?_)
    refine lv_istore (lv' := [(5, .int (2 : Int32)), (0, .ref b), (1, .ref (α 0)), (2, .ref (β 0)), (3, .ref o), (4, .int (nI i))]) hx hb dL_law_269 hl (by decide) rfl (fun ls hl => ?_)
    refine lv_aload_n hx hb dL_law_271 rfl (lv_at hl 3 rfl) ?_
    refine lv_aload_n hx hb dL_law_272 rfl (lv_at hl 1 rfl) ?_
    refine lv_iload hx hb dL_law_273 (lv_at hl 5 rfl) ?_
    refine lv_iconst (v := (1 : Int32)) hx hb dL_law_275 (by decide) ?_
    refine lv_iadd hx hb dL_law_276 ?_
    refine va_sld hx hb hX hbl hbA hS hv1 dL_law_277 ?_
    refine lv_aload_n hx hb dL_law_278 rfl (lv_at hl 1 rfl) ?_
    refine lv_iload hx hb dL_law_279 (lv_at hl 5 rfl) ?_
    refine lv_iconst (v := (2 : Int32)) hx hb dL_law_281 (by decide) ?_
    refine lv_iadd hx hb dL_law_282 ?_
    refine va_sld hx hb hX hbl hbA hS hv2 dL_law_283 ?_
    refine kI_callVs (As := [.int ((xs ((nI i) + (1 : Int32)).toNatClampNeg)), .int ((xs ((nI i) + (2 : Int32)).toNatClampNeg))]) (rest := []) (wr := (wC cI α gw gc gs ge gf cR cL cB pB SD RK RN RS RC RT LK LN LS LL US UB BB) ++ [(o, .inl (cJ, 1, .inr (.inl OUT)))]) (wn := wL cI cJ α β o OUT gw gc gs ge gf cR cL cB pB SD RK RN RS RC RT LK LN LS LL US UB BB t.2.1 mW mH mS mR mL mC mZ mA mB KK KN KS KC t.2.2 JK JN JS JL MY KP FI TX) S hP hD hS [19, 20, 21, 22, 23, 24, 25, 26, 27, 28, 29, 30, 31, 32] [0, 1, 2, 3, 4, 5, 6, 7, 8, 9, 10, 11, 12, 13, 14, 15, 16, 17, 18, 33] [0, 1, 2, 3, 4, 5, 6, 7, 8, 9, 10, 11, 12, 13, 14, 15, 16, 17, 18, 20, 21, 22, 23, 24, 25, 26, 27, 28, 29, 30, 31, 32, 33, 19] rfl rfl rfl rfl (by decide) rfl rfl (c_X6_answer l D cI β mT mW mH mS mR mL mC mZ mA mB KK KN KS KC AN JK JN JS JL MY KP FI TX ((xs ((nI i) + (1 : Int32)).toNatClampNeg)) ((xs ((nI i) + (2 : Int32)).toNatClampNeg)) t h6) (cwV 2 hts gL_law_X6_answer rfl rfl rfl (by decide +kernel) ⟨(Nat.le_of_ble_eq_true rfl), (Nat.le_of_ble_eq_true rfl)⟩) 0 rfl rfl rfl hl.1 rfl (Nat.le_of_ble_eq_true rfl) dL_law_284 ⟨by show _ ≤ 601024; omega, by show _ ≤ 7292999; omega⟩ (fun H locs hP hD hS => ?_)
    refine lv_istore (lv' := [(6, .int t.1), (5, .int (2 : Int32)), (0, .ref b), (1, .ref (α 0)), (2, .ref (β 0)), (3, .ref o), (4, .int (nI i))]) hx hb dL_law_287 hl (by decide) rfl (fun ls hl => ?_)
    refine lv_aload_n hx hb dL_law_289 rfl (lv_at hl 4 rfl) ?_
    refine kI_callVs (As := []) (rest := []) (wr := (wC cI α gw gc gs ge gf cR cL cB pB SD RK RN RS RC RT LK LN LS LL US UB BB) ++ [(o, .inl (cJ, 1, .inr (.inl OUT)))]) (wn := wL cI cJ α β o OUT gw gc gs ge gf cR cL cB pB SD RK RN RS RC RT LK LN LS LL US UB BB t.2.1 mW mH mS mR mL mC mZ mA mB KK KN KS KC t.2.2 JK JN JS JL MY KP FI TX) S hP hD hS [19, 20, 21, 22, 23, 24, 25, 26, 27, 28, 29, 30, 31, 32] [0, 1, 2, 3, 4, 5, 6, 7, 8, 9, 10, 11, 12, 13, 14, 15, 16, 17, 18, 33] [0, 1, 2, 3, 4, 5, 6, 7, 8, 9, 10, 11, 12, 13, 14, 15, 16, 17, 18, 20, 21, 22, 23, 24, 25, 26, 27, 28, 29, 30, 31, 32, 33, 19] rfl rfl rfl rfl (by decide) rfl rfl (c_X6_thrown l D cI β t.2.1 mW mH mS mR mL mC mZ mA mB KK KN KS KC t.2.2 JK JN JS JL MY KP FI TX t.2.1 rfl) (cwV 0 hts gL_law_X6_thrown rfl rfl rfl (by decide +kernel) ⟨(Nat.le_of_ble_eq_true rfl), (Nat.le_of_ble_eq_true rfl)⟩) 0 rfl rfl rfl hl.1 rfl (Nat.le_of_ble_eq_true rfl) dL_law_290 ⟨by show _ ≤ 601024; omega, by show _ ≤ 7292999; omega⟩ (fun H locs hP hD hS => ?_)
    refine lv_iload hx hb dL_law_293 (lv_at hl 1 rfl) ?_
    refine lv_icmp_eq (tgt := 300) hx hb dL_law_295 (by decide) (fun c9 => ?_) (fun c9 => absurd ht c9)
    refine lv_iload hx hb dL_law_300 (lv_at hl 1 rfl) ?_
    refine lv_if_ne (tgt := 324) hx hb dL_law_302 (by decide) (fun c9 => ?_) (fun c9 => absurd c9 (by decide))
    refine lv_goto (tgt := 737) hx hb dL_law_324 (by decide) ?_
    refine W.widen (k := 34 + (k + 1)) (n := 4936 + 6 * (k + 1)) (by omega) (by omega) ?_
    exact w737 OUT gw gc gs ge gf cR cL cB pB SD RK RN RS RC RT LK LN LS LL US UB BB t.2.1 mW mH mS mR mL mC mZ mA mB KK KN KS KC t.2.2 JK JN JS JL MY KP FI TX hsim H locs ls hP hD hS (lv_sub hl [2, 3, 4, 5, 6] rfl)
set_option maxHeartbeats 8000000 in
set_option maxRecDepth 100000 in
theorem lc_test {p : Program} {l : Launch} {e : Env} {s : State} {m : MethodId} {below : List Frame} {meth : Method} {c : Code} {D : va_G} {cI cJ : ClassId} {α β : Nat → Nat} {o : Nat} {A : Nat → Prop} {b L : Nat} {xs : Nat → Int32} (hL : L ≤ 2051) (hlt : l.stackTraces = false) (S : kC p s m #[Value.ref b] meth c cL_law 7 wsL_law RL ret D cI A) (T : kT l s A) (hNc : lk s) (hK2 : va_K D vwCl [(cI, .int), (cJ, .long)] s) (hX : va_X b L xs s s.heap) (hbl : b < s.heap.size) (hbA : ¬ A b) (hA9 : ∀ q, A q → s.heap.size ≤ q) (k i : Nat) (hk : k ≤ 512) (hv0 : vp_in (nI i) L) (hv1 : vp_in (nI i + (1 : Int32)) L) (hv2 : vp_in (nI i + (2 : Int32)) L) (hv3 : vp_in (nI i + (3 : Int32)) L)
    (w737 : ∀ (OUT : Nat → Int64) (gw gc gs ge gf cR cL cB pB : Int32) (SD RK RN RS RC RT LK LN LS LL US UB BB : Nat → Int32) (mT mW mH mS mR mL mC mZ mA mB : Int32) (KK KN KS KC AN JK JN JS JL MY KP FI TX : Nat → Int32) (hs : Sim gw gc gs ge gf cR cL cB pB SD RK RN RS RC RT LK LN LS LL US UB BB mT mW mH mS mR mL mC mZ mA mB KK KN KS KC AN JK JN JS JL MY KP FI TX) (H : Heap) (locs : List Loc) (ls : Array Slot), va_P D vwCl (wL cI cJ α β o OUT gw gc gs ge gf cR cL cB pB SD RK RN RS RC RT LK LN LS LL US UB BB mT mW mH mS mR mL mC mZ mA mB KK KN KS KC AN JK JN JS JL MY KP FI TX) H → va_D A (wL cI cJ α β o OUT gw gc gs ge gf cR cL cB pB SD RK RN RS RC RT LK LN LS LL US UB BB mT mW mH mS mR mL mC mZ mA mB KK KN KS KC AN JK JN JS JL MY KP FI TX) → va_S A s.heap H locs → lv_has ls 7 [(0, .ref b), (1, .ref (α 0)), (2, .ref (β 0)), (3, .ref o), (4, .int (nI i))] → W p l e room_1 s m #[Value.ref b] below meth c H locs (34 + (k + 1)) (4936 + 6 * (k + 1)) (lw_Z below #[Value.ref b] s) (F0 m 737 ls [])) :
    ∀ (OUT : Nat → Int64) (gw gc gs ge gf cR cL cB pB : Int32) (SD RK RN RS RC RT LK LN LS LL US UB BB : Nat → Int32) (mT mW mH mS mR mL mC mZ mA mB : Int32) (KK KN KS KC AN JK JN JS JL MY KP FI TX : Nat → Int32) (hs : Sim gw gc gs ge gf cR cL cB pB SD RK RN RS RC RT LK LN LS LL US UB BB mT mW mH mS mR mL mC mZ mA mB KK KN KS KC AN JK JN JS JL MY KP FI TX) (H : Heap) (locs : List Loc) (ls : Array Slot), va_P D vwCl (wL cI cJ α β o OUT gw gc gs ge gf cR cL cB pB SD RK RN RS RC RT LK LN LS LL US UB BB mT mW mH mS mR mL mC mZ mA mB KK KN KS KC AN JK JN JS JL MY KP FI TX) H → va_D A (wL cI cJ α β o OUT gw gc gs ge gf cR cL cB pB SD RK RN RS RC RT LK LN LS LL US UB BB mT mW mH mS mR mL mC mZ mA mB KK KN KS KC AN JK JN JS JL MY KP FI TX) → va_S A s.heap H locs → lv_has ls 7 [(0, .ref b), (1, .ref (α 0)), (2, .ref (β 0)), (3, .ref o), (4, .int (nI i))] → W p l e room_1 s m #[Value.ref b] below meth c H locs (34 + k) (4936 + 6 * k) (lw_Z below #[Value.ref b] s) (F0 m 327 ls []) := by
  have hx := S.1.1
  have hb := S.1.2.1
  have hts := S.1.2.2.2.2
  intro OUT gw gc gs ge gf cR cL cB pB SD RK RN RS RC RT LK LN LS LL US UB BB mT mW mH mS mR mL mC mZ mA mB KK KN KS KC AN JK JN JS JL MY KP FI TX hs H locs ls hP hD hS hl
  rcases P_test gw gc gs ge gf cR cL cB pB SD RK RN RS RC RT LK LN LS LL US UB BB mT mW mH mS mR mL mC mZ mA mB KK KN KS KC AN JK JN JS JL MY KP FI TX hs (xs (nI i + (1 : Int32)).toNatClampNeg)  with ⟨r, t, h5, h6, ht, heq, hsim⟩ | ⟨g0, t, h6, ht, hsim⟩
  · refine lv_aload_n hx hb dL_law_327 rfl (lv_at hl 1 rfl) ?_
    refine lv_aload_n hx hb dL_law_328 rfl (lv_at hl 0 rfl) ?_
    refine lv_iload hx hb dL_law_329 (lv_at hl 4 rfl) ?_
    refine lv_iconst (v := (1 : Int32)) hx hb dL_law_331 (by decide) ?_
    refine lv_iadd hx hb dL_law_332 ?_
    refine va_sld hx hb hX hbl hbA hS hv1 dL_law_333 ?_
    refine lv_aload_n hx hb dL_law_334 rfl (lv_at hl 3 rfl) ?_
    refine kH_callSs (As := [.ref (α 0), .int ((xs ((nI i) + (1 : Int32)).toNatClampNeg)), .ref o]) (rest := []) (wr := wM cI β mT mW mH mS mR mL mC mZ mA mB KK KN KS KC AN JK JN JS JL MY KP FI TX) (wn := wL cI cJ α β o (vp_updL OUT 0 (r).toInt64) gw gc gs ge gf cR cL cB pB SD RK RN RS RC RT LK LN LS LL US UB BB mT mW mH mS mR mL mC mZ mA mB KK KN KS KC AN JK JN JS JL MY KP FI TX) S T hNc hK2 hP hD hS [33, 0, 1, 2, 3, 4, 5, 6, 7, 8, 9, 10, 11, 12, 13, 14, 15, 16, 17, 18] [19, 20, 21, 22, 23, 24, 25, 26, 27, 28, 29, 30, 31, 32] [15, 16, 17, 18, 19, 20, 21, 22, 23, 24, 25, 26, 27, 28, 29, 30, 31, 32, 33, 0, 1, 2, 3, 4, 5, 6, 7, 8, 9, 10, 11, 12, 13, 14] rfl rfl rfl rfl (by decide) rfl rfl (c_L_test_n l hlt D cI cJ α o OUT gw gc gs ge gf cR cL cB pB SD RK RN RS RC RT LK LN LS LL US UB BB ((xs ((nI i) + (1 : Int32)).toNatClampNeg)) FF r h5) (vx_cwSW 3 hts gL_law_L_test rfl rfl rfl (by decide +kernel) ⟨(Nat.le_of_ble_eq_true rfl), (Nat.le_of_ble_eq_true rfl)⟩) rfl hl.1 rfl (Nat.le_of_ble_eq_true rfl) dL_law_335 ⟨by show _ ≤ 601024; omega, by show _ ≤ 7292999; omega⟩ (fun H locs hP hD hS => ?_)
    refine lv_istore (lv' := [(5, .int (0 : Int32)), (0, .ref b), (1, .ref (α 0)), (2, .ref (β 0)), (3, .ref o), (4, .int (nI i))]) hx hb dL_law_338 hl (by decide) rfl (fun ls hl => ?_)
    refine lv_aload_n hx hb dL_law_340 rfl (lv_at hl 3 rfl) ?_
    refine lv_aload_n hx hb dL_law_341 rfl (lv_at hl 1 rfl) ?_
    refine lv_iload hx hb dL_law_342 (lv_at hl 5 rfl) ?_
    refine lv_iconst (v := (1 : Int32)) hx hb dL_law_344 (by decide) ?_
    refine lv_iadd hx hb dL_law_345 ?_
    refine va_sld hx hb hX hbl hbA hS hv1 dL_law_346 ?_
    refine kI_callVs (As := [.int ((xs ((nI i) + (1 : Int32)).toNatClampNeg))]) (rest := []) (wr := (wC cI α gw gc gs ge gf cR cL cB pB SD RK RN RS RC RT LK LN LS LL US UB BB) ++ [(o, .inl (cJ, 1, .inr (.inl (vp_updL OUT 0 (r).toInt64))))]) (wn := wL cI cJ α β o (vp_updL OUT 0 (r).toInt64) gw gc gs ge gf cR cL cB pB SD RK RN RS RC RT LK LN LS LL US UB BB t.2.1 mW mH mS mR mL mC mZ mA mB KK KN KS KC AN JK JN JS JL MY KP t.2.2 TX) S hP hD hS [19, 20, 21, 22, 23, 24, 25, 26, 27, 28, 29, 30, 31, 32] [0, 1, 2, 3, 4, 5, 6, 7, 8, 9, 10, 11, 12, 13, 14, 15, 16, 17, 18, 33] [0, 1, 2, 3, 4, 5, 6, 7, 8, 9, 10, 11, 12, 13, 14, 15, 16, 17, 18, 20, 21, 22, 23, 24, 25, 26, 27, 28, 29, 30, 31, 32, 33, 19] rfl rfl rfl rfl (by decide) rfl rfl (c_X6_test l D cI β mT mW mH mS mR mL mC mZ mA mB KK KN KS KC AN JK JN JS JL MY KP FI TX FF ((xs ((nI i) + (1 : Int32)).toNatClampNeg)) t h6) (cwV 1 hts gL_law_X6_test rfl rfl rfl (by decide +kernel) ⟨(Nat.le_of_ble_eq_true rfl), (Nat.le_of_ble_eq_true rfl)⟩) 0 rfl rfl rfl hl.1 rfl (Nat.le_of_ble_eq_true rfl) dL_law_347 ⟨by show _ ≤ 601024; omega, by show _ ≤ 7292999; omega⟩ (fun H locs hP hD hS => ?_)
    refine lv_istore (lv' := [(6, .int t.1), (5, .int (0 : Int32)), (0, .ref b), (1, .ref (α 0)), (2, .ref (β 0)), (3, .ref o), (4, .int (nI i))]) hx hb dL_law_350 hl (by decide) rfl (fun ls hl => ?_)
    refine lv_aload_n hx hb dL_law_352 rfl (lv_at hl 4 rfl) ?_
    refine kI_callVs (As := []) (rest := []) (wr := (wC cI α gw gc gs ge gf cR cL cB pB SD RK RN RS RC RT LK LN LS LL US UB BB) ++ [(o, .inl (cJ, 1, .inr (.inl (vp_updL OUT 0 (r).toInt64))))]) (wn := wL cI cJ α β o (vp_updL OUT 0 (r).toInt64) gw gc gs ge gf cR cL cB pB SD RK RN RS RC RT LK LN LS LL US UB BB t.2.1 mW mH mS mR mL mC mZ mA mB KK KN KS KC AN JK JN JS JL MY KP t.2.2 TX) S hP hD hS [19, 20, 21, 22, 23, 24, 25, 26, 27, 28, 29, 30, 31, 32] [0, 1, 2, 3, 4, 5, 6, 7, 8, 9, 10, 11, 12, 13, 14, 15, 16, 17, 18, 33] [0, 1, 2, 3, 4, 5, 6, 7, 8, 9, 10, 11, 12, 13, 14, 15, 16, 17, 18, 20, 21, 22, 23, 24, 25, 26, 27, 28, 29, 30, 31, 32, 33, 19] rfl rfl rfl rfl (by decide) rfl rfl (c_X6_thrown l D cI β t.2.1 mW mH mS mR mL mC mZ mA mB KK KN KS KC AN JK JN JS JL MY KP t.2.2 TX t.2.1 rfl) (cwV 0 hts gL_law_X6_thrown rfl rfl rfl (by decide +kernel) ⟨(Nat.le_of_ble_eq_true rfl), (Nat.le_of_ble_eq_true rfl)⟩) 0 rfl rfl rfl hl.1 rfl (Nat.le_of_ble_eq_true rfl) dL_law_353 ⟨by show _ ≤ 601024; omega, by show _ ≤ 7292999; omega⟩ (fun H locs hP hD hS => ?_)
    refine lv_iload hx hb dL_law_356 (lv_at hl 1 rfl) ?_
    refine lv_icmp_eq (tgt := 363) hx hb dL_law_358 (by decide) (fun c9 => ?_) (fun c9 => absurd ht c9)
    refine lv_iload hx hb dL_law_363 (lv_at hl 1 rfl) ?_
    refine lv_if_ne (tgt := 380) hx hb dL_law_365 (by decide) (fun c9 => absurd rfl c9) (fun c9 => ?_)
    refine lv_aload_n hx hb dL_law_368 rfl (lv_at hl 5 rfl) ?_
    refine lv_iconst (v := (0 : Int32)) hx hb dL_law_369 (by decide) ?_
    refine va_lald hx hb hK2 hP 33 1 rfl rfl vp01 dL_law_370 ?_
    refine lv_iload hx hb dL_law_371 (lv_at hl 0 rfl) ?_
    refine lv_i2l (v := (t.1).toInt64) hx hb dL_law_373 rfl ?_
    refine W.lcmp hx hb dL_law_374 ?_
    refine lv_if_eq (tgt := 380) hx hb dL_law_375 (by decide) (fun c9 => ?_) (fun c9 => absurd (lw_ci heq) c9)
    refine lv_goto (tgt := 737) hx hb dL_law_380 (by decide) ?_
    refine W.widen (k := 34 + (k + 1)) (n := 4936 + 6 * (k + 1)) (by omega) (by omega) ?_
    exact w737 (vp_updL OUT 0 (r).toInt64) gw gc gs ge gf cR cL cB pB SD RK RN RS RC RT LK LN LS LL US UB BB t.2.1 mW mH mS mR mL mC mZ mA mB KK KN KS KC AN JK JN JS JL MY KP t.2.2 TX hsim H locs ls hP hD hS (lv_sub hl [2, 3, 4, 5, 6] rfl)
  · refine lv_aload_n hx hb dL_law_327 rfl (lv_at hl 1 rfl) ?_
    refine lv_aload_n hx hb dL_law_328 rfl (lv_at hl 0 rfl) ?_
    refine lv_iload hx hb dL_law_329 (lv_at hl 4 rfl) ?_
    refine lv_iconst (v := (1 : Int32)) hx hb dL_law_331 (by decide) ?_
    refine lv_iadd hx hb dL_law_332 ?_
    refine va_sld hx hb hX hbl hbA hS hv1 dL_law_333 ?_
    refine lv_aload_n hx hb dL_law_334 rfl (lv_at hl 3 rfl) ?_
    refine kH_callSs (As := [.ref (α 0), .int ((xs ((nI i) + (1 : Int32)).toNatClampNeg)), .ref o]) (rest := []) (wr := wM cI β mT mW mH mS mR mL mC mZ mA mB KK KN KS KC AN JK JN JS JL MY KP FI TX) (wn := wL cI cJ α β o OUT gw gc gs ge gf cR cL cB pB SD RK RN RS RC RT LK LN LS LL US UB BB mT mW mH mS mR mL mC mZ mA mB KK KN KS KC AN JK JN JS JL MY KP FI TX) S T hNc hK2 hP hD hS [33, 0, 1, 2, 3, 4, 5, 6, 7, 8, 9, 10, 11, 12, 13, 14, 15, 16, 17, 18] [19, 20, 21, 22, 23, 24, 25, 26, 27, 28, 29, 30, 31, 32] [15, 16, 17, 18, 19, 20, 21, 22, 23, 24, 25, 26, 27, 28, 29, 30, 31, 32, 33, 0, 1, 2, 3, 4, 5, 6, 7, 8, 9, 10, 11, 12, 13, 14] rfl rfl rfl rfl (by decide) rfl rfl (c_L_test_x1 l hlt D cI cJ α o OUT gw gc gs ge gf cR cL cB pB SD RK RN RS RC RT LK LN LS LL US UB BB ((xs ((nI i) + (1 : Int32)).toNatClampNeg)) g0) (vx_cwSW 3 hts gL_law_L_test rfl rfl rfl (by decide +kernel) ⟨(Nat.le_of_ble_eq_true rfl), (Nat.le_of_ble_eq_true rfl)⟩) rfl hl.1 rfl (Nat.le_of_ble_eq_true rfl) dL_law_335 ⟨by show _ ≤ 601024; omega, by show _ ≤ 7292999; omega⟩ (fun H locs hP hD hS => ?_)
    refine lv_istore (lv' := [(5, .int (1 : Int32)), (0, .ref b), (1, .ref (α 0)), (2, .ref (β 0)), (3, .ref o), (4, .int (nI i))]) hx hb dL_law_338 hl (by decide) rfl (fun ls hl => ?_)
    refine lv_aload_n hx hb dL_law_340 rfl (lv_at hl 3 rfl) ?_
    refine lv_aload_n hx hb dL_law_341 rfl (lv_at hl 1 rfl) ?_
    refine lv_iload hx hb dL_law_342 (lv_at hl 5 rfl) ?_
    refine lv_iconst (v := (1 : Int32)) hx hb dL_law_344 (by decide) ?_
    refine lv_iadd hx hb dL_law_345 ?_
    refine va_sld hx hb hX hbl hbA hS hv1 dL_law_346 ?_
    refine kI_callVs (As := [.int ((xs ((nI i) + (1 : Int32)).toNatClampNeg))]) (rest := []) (wr := (wC cI α gw gc gs ge gf cR cL cB pB SD RK RN RS RC RT LK LN LS LL US UB BB) ++ [(o, .inl (cJ, 1, .inr (.inl OUT)))]) (wn := wL cI cJ α β o OUT gw gc gs ge gf cR cL cB pB SD RK RN RS RC RT LK LN LS LL US UB BB t.2.1 mW mH mS mR mL mC mZ mA mB KK KN KS KC AN JK JN JS JL MY KP t.2.2 TX) S hP hD hS [19, 20, 21, 22, 23, 24, 25, 26, 27, 28, 29, 30, 31, 32] [0, 1, 2, 3, 4, 5, 6, 7, 8, 9, 10, 11, 12, 13, 14, 15, 16, 17, 18, 33] [0, 1, 2, 3, 4, 5, 6, 7, 8, 9, 10, 11, 12, 13, 14, 15, 16, 17, 18, 20, 21, 22, 23, 24, 25, 26, 27, 28, 29, 30, 31, 32, 33, 19] rfl rfl rfl rfl (by decide) rfl rfl (c_X6_test l D cI β mT mW mH mS mR mL mC mZ mA mB KK KN KS KC AN JK JN JS JL MY KP FI TX FF ((xs ((nI i) + (1 : Int32)).toNatClampNeg)) t h6) (cwV 1 hts gL_law_X6_test rfl rfl rfl (by decide +kernel) ⟨(Nat.le_of_ble_eq_true rfl), (Nat.le_of_ble_eq_true rfl)⟩) 0 rfl rfl rfl hl.1 rfl (Nat.le_of_ble_eq_true rfl) dL_law_347 ⟨by show _ ≤ 601024; omega, by show _ ≤ 7292999; omega⟩ (fun H locs hP hD hS => ?_)
    refine lv_istore (lv' := [(6, .int t.1), (5, .int (1 : Int32)), (0, .ref b), (1, .ref (α 0)), (2, .ref (β 0)), (3, .ref o), (4, .int (nI i))]) hx hb dL_law_350 hl (by decide) rfl (fun ls hl => ?_)
    refine lv_aload_n hx hb dL_law_352 rfl (lv_at hl 4 rfl) ?_
    refine kI_callVs (As := []) (rest := []) (wr := (wC cI α gw gc gs ge gf cR cL cB pB SD RK RN RS RC RT LK LN LS LL US UB BB) ++ [(o, .inl (cJ, 1, .inr (.inl OUT)))]) (wn := wL cI cJ α β o OUT gw gc gs ge gf cR cL cB pB SD RK RN RS RC RT LK LN LS LL US UB BB t.2.1 mW mH mS mR mL mC mZ mA mB KK KN KS KC AN JK JN JS JL MY KP t.2.2 TX) S hP hD hS [19, 20, 21, 22, 23, 24, 25, 26, 27, 28, 29, 30, 31, 32] [0, 1, 2, 3, 4, 5, 6, 7, 8, 9, 10, 11, 12, 13, 14, 15, 16, 17, 18, 33] [0, 1, 2, 3, 4, 5, 6, 7, 8, 9, 10, 11, 12, 13, 14, 15, 16, 17, 18, 20, 21, 22, 23, 24, 25, 26, 27, 28, 29, 30, 31, 32, 33, 19] rfl rfl rfl rfl (by decide) rfl rfl (c_X6_thrown l D cI β t.2.1 mW mH mS mR mL mC mZ mA mB KK KN KS KC AN JK JN JS JL MY KP t.2.2 TX t.2.1 rfl) (cwV 0 hts gL_law_X6_thrown rfl rfl rfl (by decide +kernel) ⟨(Nat.le_of_ble_eq_true rfl), (Nat.le_of_ble_eq_true rfl)⟩) 0 rfl rfl rfl hl.1 rfl (Nat.le_of_ble_eq_true rfl) dL_law_353 ⟨by show _ ≤ 601024; omega, by show _ ≤ 7292999; omega⟩ (fun H locs hP hD hS => ?_)
    refine lv_iload hx hb dL_law_356 (lv_at hl 1 rfl) ?_
    refine lv_icmp_eq (tgt := 363) hx hb dL_law_358 (by decide) (fun c9 => ?_) (fun c9 => absurd ht c9)
    refine lv_iload hx hb dL_law_363 (lv_at hl 1 rfl) ?_
    refine lv_if_ne (tgt := 380) hx hb dL_law_365 (by decide) (fun c9 => ?_) (fun c9 => absurd c9 (by decide))
    refine lv_goto (tgt := 737) hx hb dL_law_380 (by decide) ?_
    refine W.widen (k := 34 + (k + 1)) (n := 4936 + 6 * (k + 1)) (by omega) (by omega) ?_
    exact w737 OUT gw gc gs ge gf cR cL cB pB SD RK RN RS RC RT LK LN LS LL US UB BB t.2.1 mW mH mS mR mL mC mZ mA mB KK KN KS KC AN JK JN JS JL MY KP t.2.2 TX hsim H locs ls hP hD hS (lv_sub hl [2, 3, 4, 5, 6] rfl)
set_option maxHeartbeats 8000000 in
set_option maxRecDepth 100000 in
theorem lc_fails {p : Program} {l : Launch} {e : Env} {s : State} {m : MethodId} {below : List Frame} {meth : Method} {c : Code} {D : va_G} {cI cJ : ClassId} {α β : Nat → Nat} {o : Nat} {A : Nat → Prop} {b L : Nat} {xs : Nat → Int32} (hL : L ≤ 2051) (hlt : l.stackTraces = false) (S : kC p s m #[Value.ref b] meth c cL_law 7 wsL_law RL ret D cI A) (T : kT l s A) (hNc : lk s) (hK2 : va_K D vwCl [(cI, .int), (cJ, .long)] s) (hX : va_X b L xs s s.heap) (hbl : b < s.heap.size) (hbA : ¬ A b) (hA9 : ∀ q, A q → s.heap.size ≤ q) (k i : Nat) (hk : k ≤ 512) (hv0 : vp_in (nI i) L) (hv1 : vp_in (nI i + (1 : Int32)) L) (hv2 : vp_in (nI i + (2 : Int32)) L) (hv3 : vp_in (nI i + (3 : Int32)) L)
    (w737 : ∀ (OUT : Nat → Int64) (gw gc gs ge gf cR cL cB pB : Int32) (SD RK RN RS RC RT LK LN LS LL US UB BB : Nat → Int32) (mT mW mH mS mR mL mC mZ mA mB : Int32) (KK KN KS KC AN JK JN JS JL MY KP FI TX : Nat → Int32) (hs : Sim gw gc gs ge gf cR cL cB pB SD RK RN RS RC RT LK LN LS LL US UB BB mT mW mH mS mR mL mC mZ mA mB KK KN KS KC AN JK JN JS JL MY KP FI TX) (H : Heap) (locs : List Loc) (ls : Array Slot), va_P D vwCl (wL cI cJ α β o OUT gw gc gs ge gf cR cL cB pB SD RK RN RS RC RT LK LN LS LL US UB BB mT mW mH mS mR mL mC mZ mA mB KK KN KS KC AN JK JN JS JL MY KP FI TX) H → va_D A (wL cI cJ α β o OUT gw gc gs ge gf cR cL cB pB SD RK RN RS RC RT LK LN LS LL US UB BB mT mW mH mS mR mL mC mZ mA mB KK KN KS KC AN JK JN JS JL MY KP FI TX) → va_S A s.heap H locs → lv_has ls 7 [(0, .ref b), (1, .ref (α 0)), (2, .ref (β 0)), (3, .ref o), (4, .int (nI i))] → W p l e room_1 s m #[Value.ref b] below meth c H locs (34 + (k + 1)) (4936 + 6 * (k + 1)) (lw_Z below #[Value.ref b] s) (F0 m 737 ls [])) :
    ∀ (OUT : Nat → Int64) (gw gc gs ge gf cR cL cB pB : Int32) (SD RK RN RS RC RT LK LN LS LL US UB BB : Nat → Int32) (mT mW mH mS mR mL mC mZ mA mB : Int32) (KK KN KS KC AN JK JN JS JL MY KP FI TX : Nat → Int32) (hs : Sim gw gc gs ge gf cR cL cB pB SD RK RN RS RC RT LK LN LS LL US UB BB mT mW mH mS mR mL mC mZ mA mB KK KN KS KC AN JK JN JS JL MY KP FI TX) (H : Heap) (locs : List Loc) (ls : Array Slot), va_P D vwCl (wL cI cJ α β o OUT gw gc gs ge gf cR cL cB pB SD RK RN RS RC RT LK LN LS LL US UB BB mT mW mH mS mR mL mC mZ mA mB KK KN KS KC AN JK JN JS JL MY KP FI TX) H → va_D A (wL cI cJ α β o OUT gw gc gs ge gf cR cL cB pB SD RK RN RS RC RT LK LN LS LL US UB BB mT mW mH mS mR mL mC mZ mA mB KK KN KS KC AN JK JN JS JL MY KP FI TX) → va_S A s.heap H locs → lv_has ls 7 [(0, .ref b), (1, .ref (α 0)), (2, .ref (β 0)), (3, .ref o), (4, .int (nI i))] → W p l e room_1 s m #[Value.ref b] below meth c H locs (34 + k) (4936 + 6 * k) (lw_Z below #[Value.ref b] s) (F0 m 383 ls []) := by
  have hx := S.1.1
  have hb := S.1.2.1
  have hts := S.1.2.2.2.2
  intro OUT gw gc gs ge gf cR cL cB pB SD RK RN RS RC RT LK LN LS LL US UB BB mT mW mH mS mR mL mC mZ mA mB KK KN KS KC AN JK JN JS JL MY KP FI TX hs H locs ls hP hD hS hl
  obtain ⟨r, t, h5, h6, heq, hsim⟩ := P_fails gw gc gs ge gf cR cL cB pB SD RK RN RS RC RT LK LN LS LL US UB BB mT mW mH mS mR mL mC mZ mA mB KK KN KS KC AN JK JN JS JL MY KP FI TX hs 
  refine lv_aload_n hx hb dL_law_383 rfl (lv_at hl 1 rfl) ?_
  refine kI_callVs (As := []) (rest := []) (wr := (wM cI β mT mW mH mS mR mL mC mZ mA mB KK KN KS KC AN JK JN JS JL MY KP FI TX) ++ [(o, .inl (cJ, 1, .inr (.inl OUT)))]) (wn := wL cI cJ α β o OUT gw gc gs ge gf cR cL cB pB SD RK RN RS RC RT LK LN LS LL US UB BB mT mW mH mS mR mL mC mZ mA mB KK KN KS KC AN JK JN JS JL MY KP FI TX) S hP hD hS [0, 1, 2, 3, 4, 5, 6, 7, 8, 9, 10, 11, 12, 13, 14, 15, 16, 17, 18] [19, 20, 21, 22, 23, 24, 25, 26, 27, 28, 29, 30, 31, 32, 33] [15, 16, 17, 18, 19, 20, 21, 22, 23, 24, 25, 26, 27, 28, 29, 30, 31, 32, 33, 0, 1, 2, 3, 4, 5, 6, 7, 8, 9, 10, 11, 12, 13, 14] rfl rfl rfl rfl (by decide) rfl rfl (c_X5_fails l D cI α gw gc gs ge gf cR cL cB pB SD RK RN RS RC RT LK LN LS LL US UB BB FF r h5) (cwV 0 hts gL_law_X5_fails rfl rfl rfl (by decide +kernel) ⟨(Nat.le_of_ble_eq_true rfl), (Nat.le_of_ble_eq_true rfl)⟩) 0 rfl rfl rfl hl.1 rfl (Nat.le_of_ble_eq_true rfl) dL_law_384 ⟨by show _ ≤ 601024; omega, by show _ ≤ 7292999; omega⟩ (fun H locs hP hD hS => ?_)
  refine lv_aload_n hx hb dL_law_387 rfl (lv_at hl 2 rfl) ?_
  refine kI_callVs (As := []) (rest := [.int r]) (wr := (wC cI α gw gc gs ge gf cR cL cB pB SD RK RN RS RC RT LK LN LS LL US UB BB) ++ [(o, .inl (cJ, 1, .inr (.inl OUT)))]) (wn := wL cI cJ α β o OUT gw gc gs ge gf cR cL cB pB SD RK RN RS RC RT LK LN LS LL US UB BB t.2.1 mW mH mS mR mL mC mZ mA mB KK KN KS KC AN JK JN JS JL MY KP t.2.2 TX) S hP hD hS [19, 20, 21, 22, 23, 24, 25, 26, 27, 28, 29, 30, 31, 32] [0, 1, 2, 3, 4, 5, 6, 7, 8, 9, 10, 11, 12, 13, 14, 15, 16, 17, 18, 33] [0, 1, 2, 3, 4, 5, 6, 7, 8, 9, 10, 11, 12, 13, 14, 15, 16, 17, 18, 20, 21, 22, 23, 24, 25, 26, 27, 28, 29, 30, 31, 32, 33, 19] rfl rfl rfl rfl (by decide) rfl rfl (c_X6_fails l D cI β mT mW mH mS mR mL mC mZ mA mB KK KN KS KC AN JK JN JS JL MY KP FI TX FF t h6) (cwV 0 hts gL_law_X6_fails rfl rfl rfl (by decide +kernel) ⟨(Nat.le_of_ble_eq_true rfl), (Nat.le_of_ble_eq_true rfl)⟩) 0 rfl rfl rfl hl.1 rfl (Nat.le_of_ble_eq_true rfl) dL_law_388 ⟨by show _ ≤ 601024; omega, by show _ ≤ 7292999; omega⟩ (fun H locs hP hD hS => ?_)
  refine lv_icmp_eq (tgt := 737) hx hb dL_law_391 (by decide) (fun c9 => ?_) (fun c9 => absurd heq c9)
  refine W.widen (k := 34 + (k + 1)) (n := 4936 + 6 * (k + 1)) (by omega) (by omega) ?_
  exact w737 OUT gw gc gs ge gf cR cL cB pB SD RK RN RS RC RT LK LN LS LL US UB BB t.2.1 mW mH mS mR mL mC mZ mA mB KK KN KS KC AN JK JN JS JL MY KP t.2.2 TX hsim H locs ls hP hD hS (lv_sub hl [0, 1, 2, 3, 4] rfl)
set_option maxHeartbeats 8000000 in
set_option maxRecDepth 100000 in
theorem lc_line {p : Program} {l : Launch} {e : Env} {s : State} {m : MethodId} {below : List Frame} {meth : Method} {c : Code} {D : va_G} {cI cJ : ClassId} {α β : Nat → Nat} {o : Nat} {A : Nat → Prop} {b L : Nat} {xs : Nat → Int32} (hL : L ≤ 2051) (hlt : l.stackTraces = false) (S : kC p s m #[Value.ref b] meth c cL_law 7 wsL_law RL ret D cI A) (T : kT l s A) (hNc : lk s) (hK2 : va_K D vwCl [(cI, .int), (cJ, .long)] s) (hX : va_X b L xs s s.heap) (hbl : b < s.heap.size) (hbA : ¬ A b) (hA9 : ∀ q, A q → s.heap.size ≤ q) (k i : Nat) (hk : k ≤ 512) (hv0 : vp_in (nI i) L) (hv1 : vp_in (nI i + (1 : Int32)) L) (hv2 : vp_in (nI i + (2 : Int32)) L) (hv3 : vp_in (nI i + (3 : Int32)) L)
    (w737 : ∀ (OUT : Nat → Int64) (gw gc gs ge gf cR cL cB pB : Int32) (SD RK RN RS RC RT LK LN LS LL US UB BB : Nat → Int32) (mT mW mH mS mR mL mC mZ mA mB : Int32) (KK KN KS KC AN JK JN JS JL MY KP FI TX : Nat → Int32) (hs : Sim gw gc gs ge gf cR cL cB pB SD RK RN RS RC RT LK LN LS LL US UB BB mT mW mH mS mR mL mC mZ mA mB KK KN KS KC AN JK JN JS JL MY KP FI TX) (H : Heap) (locs : List Loc) (ls : Array Slot), va_P D vwCl (wL cI cJ α β o OUT gw gc gs ge gf cR cL cB pB SD RK RN RS RC RT LK LN LS LL US UB BB mT mW mH mS mR mL mC mZ mA mB KK KN KS KC AN JK JN JS JL MY KP FI TX) H → va_D A (wL cI cJ α β o OUT gw gc gs ge gf cR cL cB pB SD RK RN RS RC RT LK LN LS LL US UB BB mT mW mH mS mR mL mC mZ mA mB KK KN KS KC AN JK JN JS JL MY KP FI TX) → va_S A s.heap H locs → lv_has ls 7 [(0, .ref b), (1, .ref (α 0)), (2, .ref (β 0)), (3, .ref o), (4, .int (nI i))] → W p l e room_1 s m #[Value.ref b] below meth c H locs (34 + (k + 1)) (4936 + 6 * (k + 1)) (lw_Z below #[Value.ref b] s) (F0 m 737 ls [])) :
    ∀ (OUT : Nat → Int64) (gw gc gs ge gf cR cL cB pB : Int32) (SD RK RN RS RC RT LK LN LS LL US UB BB : Nat → Int32) (mT mW mH mS mR mL mC mZ mA mB : Int32) (KK KN KS KC AN JK JN JS JL MY KP FI TX : Nat → Int32) (hs : Sim gw gc gs ge gf cR cL cB pB SD RK RN RS RC RT LK LN LS LL US UB BB mT mW mH mS mR mL mC mZ mA mB KK KN KS KC AN JK JN JS JL MY KP FI TX) (H : Heap) (locs : List Loc) (ls : Array Slot), va_P D vwCl (wL cI cJ α β o OUT gw gc gs ge gf cR cL cB pB SD RK RN RS RC RT LK LN LS LL US UB BB mT mW mH mS mR mL mC mZ mA mB KK KN KS KC AN JK JN JS JL MY KP FI TX) H → va_D A (wL cI cJ α β o OUT gw gc gs ge gf cR cL cB pB SD RK RN RS RC RT LK LN LS LL US UB BB mT mW mH mS mR mL mC mZ mA mB KK KN KS KC AN JK JN JS JL MY KP FI TX) → va_S A s.heap H locs → lv_has ls 7 [(0, .ref b), (1, .ref (α 0)), (2, .ref (β 0)), (3, .ref o), (4, .int (nI i))] → W p l e room_1 s m #[Value.ref b] below meth c H locs (34 + k) (4936 + 6 * k) (lw_Z below #[Value.ref b] s) (F0 m 396 ls []) := by
  have hx := S.1.1
  have hb := S.1.2.1
  have hts := S.1.2.2.2.2
  intro OUT gw gc gs ge gf cR cL cB pB SD RK RN RS RC RT LK LN LS LL US UB BB mT mW mH mS mR mL mC mZ mA mB KK KN KS KC AN JK JN JS JL MY KP FI TX hs H locs ls hP hD hS hl
  obtain ⟨r, t, h5, h6, heq, hsim⟩ := P_line gw gc gs ge gf cR cL cB pB SD RK RN RS RC RT LK LN LS LL US UB BB mT mW mH mS mR mL mC mZ mA mB KK KN KS KC AN JK JN JS JL MY KP FI TX hs (xs (nI i + (1 : Int32)).toNatClampNeg) (xs (nI i + (2 : Int32)).toNatClampNeg)
  refine lv_aload_n hx hb dL_law_396 rfl (lv_at hl 1 rfl) ?_
  refine lv_aload_n hx hb dL_law_397 rfl (lv_at hl 0 rfl) ?_
  refine lv_iload hx hb dL_law_398 (lv_at hl 4 rfl) ?_
  refine lv_iconst (v := (1 : Int32)) hx hb dL_law_400 (by decide) ?_
  refine lv_iadd hx hb dL_law_401 ?_
  refine va_sld hx hb hX hbl hbA hS hv1 dL_law_402 ?_
  refine lv_aload_n hx hb dL_law_403 rfl (lv_at hl 0 rfl) ?_
  refine lv_iload hx hb dL_law_404 (lv_at hl 4 rfl) ?_
  refine lv_iconst (v := (2 : Int32)) hx hb dL_law_406 (by decide) ?_
  refine lv_iadd hx hb dL_law_407 ?_
  refine va_sld hx hb hX hbl hbA hS hv2 dL_law_408 ?_
  refine kI_callVs (As := [.int ((xs ((nI i) + (1 : Int32)).toNatClampNeg)), .int ((xs ((nI i) + (2 : Int32)).toNatClampNeg))]) (rest := []) (wr := (wM cI β mT mW mH mS mR mL mC mZ mA mB KK KN KS KC AN JK JN JS JL MY KP FI TX) ++ [(o, .inl (cJ, 1, .inr (.inl OUT)))]) (wn := wL cI cJ α β o OUT gw gc gs ge gf cR r.2.1 cB pB SD RK RN RS RC RT r.2.2.1 r.2.2.2.1 r.2.2.2.2 LL US UB BB mT mW mH mS mR mL mC mZ mA mB KK KN KS KC AN JK JN JS JL MY KP FI TX) S hP hD hS [0, 1, 2, 3, 4, 5, 6, 7, 8, 9, 10, 11, 12, 13, 14, 15, 16, 17, 18] [19, 20, 21, 22, 23, 24, 25, 26, 27, 28, 29, 30, 31, 32, 33] [15, 16, 17, 18, 19, 20, 21, 22, 23, 24, 25, 26, 27, 28, 29, 30, 31, 32, 33, 0, 1, 2, 3, 4, 5, 6, 7, 8, 9, 10, 11, 12, 13, 14] rfl rfl rfl rfl (by decide) rfl rfl (c_X5_line l D cI α gw gc gs ge gf cR cL cB pB SD RK RN RS RC RT LK LN LS LL US UB BB ((xs ((nI i) + (1 : Int32)).toNatClampNeg)) ((xs ((nI i) + (2 : Int32)).toNatClampNeg)) r h5) (cwV 2 hts gL_law_X5_line rfl rfl rfl (by decide +kernel) ⟨(Nat.le_of_ble_eq_true rfl), (Nat.le_of_ble_eq_true rfl)⟩) 0 rfl rfl rfl hl.1 rfl (Nat.le_of_ble_eq_true rfl) dL_law_409 ⟨by show _ ≤ 601024; omega, by show _ ≤ 7292999; omega⟩ (fun H locs hP hD hS => ?_)
  refine lv_aload_n hx hb dL_law_412 rfl (lv_at hl 2 rfl) ?_
  refine lv_aload_n hx hb dL_law_413 rfl (lv_at hl 0 rfl) ?_
  refine lv_iload hx hb dL_law_414 (lv_at hl 4 rfl) ?_
  refine lv_iconst (v := (1 : Int32)) hx hb dL_law_416 (by decide) ?_
  refine lv_iadd hx hb dL_law_417 ?_
  refine va_sld hx hb hX hbl hbA hS hv1 dL_law_418 ?_
  refine lv_aload_n hx hb dL_law_419 rfl (lv_at hl 0 rfl) ?_
  refine lv_iload hx hb dL_law_420 (lv_at hl 4 rfl) ?_
  refine lv_iconst (v := (2 : Int32)) hx hb dL_law_422 (by decide) ?_
  refine lv_iadd hx hb dL_law_423 ?_
  refine va_sld hx hb hX hbl hbA hS hv2 dL_law_424 ?_
  refine kI_callVs (As := [.int ((xs ((nI i) + (1 : Int32)).toNatClampNeg)), .int ((xs ((nI i) + (2 : Int32)).toNatClampNeg))]) (rest := [.int r.1]) (wr := (wC cI α gw gc gs ge gf cR r.2.1 cB pB SD RK RN RS RC RT r.2.2.1 r.2.2.2.1 r.2.2.2.2 LL US UB BB) ++ [(o, .inl (cJ, 1, .inr (.inl OUT)))]) (wn := wL cI cJ α β o OUT gw gc gs ge gf cR r.2.1 cB pB SD RK RN RS RC RT r.2.2.1 r.2.2.2.1 r.2.2.2.2 LL US UB BB t.2.1 mW mH mS mR t.2.2.1 mC mZ mA mB KK KN KS KC AN t.2.2.2.1 t.2.2.2.2.1 t.2.2.2.2.2 JL MY KP FI TX) S hP hD hS [19, 20, 21, 22, 23, 24, 25, 26, 27, 28, 29, 30, 31, 32] [0, 1, 2, 3, 4, 5, 6, 7, 8, 9, 10, 11, 12, 13, 14, 15, 16, 17, 18, 33] [0, 1, 2, 3, 4, 5, 6, 7, 8, 9, 10, 11, 12, 13, 14, 15, 16, 17, 18, 20, 21, 22, 23, 24, 25, 26, 27, 28, 29, 30, 31, 32, 33, 19] rfl rfl rfl rfl (by decide) rfl rfl (c_X6_line l D cI β mT mW mH mS mR mL mC mZ mA mB KK KN KS KC AN JK JN JS JL MY KP FI TX ((xs ((nI i) + (1 : Int32)).toNatClampNeg)) ((xs ((nI i) + (2 : Int32)).toNatClampNeg)) t h6) (cwV 2 hts gL_law_X6_line rfl rfl rfl (by decide +kernel) ⟨(Nat.le_of_ble_eq_true rfl), (Nat.le_of_ble_eq_true rfl)⟩) 0 rfl rfl rfl hl.1 rfl (Nat.le_of_ble_eq_true rfl) dL_law_425 ⟨by show _ ≤ 601024; omega, by show _ ≤ 7292999; omega⟩ (fun H locs hP hD hS => ?_)
  refine lv_icmp_eq (tgt := 737) hx hb dL_law_428 (by decide) (fun c9 => ?_) (fun c9 => absurd heq c9)
  refine W.widen (k := 34 + (k + 1)) (n := 4936 + 6 * (k + 1)) (by omega) (by omega) ?_
  exact w737 OUT gw gc gs ge gf cR r.2.1 cB pB SD RK RN RS RC RT r.2.2.1 r.2.2.2.1 r.2.2.2.2 LL US UB BB t.2.1 mW mH mS mR t.2.2.1 mC mZ mA mB KK KN KS KC AN t.2.2.2.1 t.2.2.2.2.1 t.2.2.2.2.2 JL MY KP FI TX hsim H locs ls hP hD hS (lv_sub hl [0, 1, 2, 3, 4] rfl)
set_option maxHeartbeats 8000000 in
set_option maxRecDepth 100000 in
theorem lc_literal {p : Program} {l : Launch} {e : Env} {s : State} {m : MethodId} {below : List Frame} {meth : Method} {c : Code} {D : va_G} {cI cJ : ClassId} {α β : Nat → Nat} {o : Nat} {A : Nat → Prop} {b L : Nat} {xs : Nat → Int32} (hL : L ≤ 2051) (hlt : l.stackTraces = false) (S : kC p s m #[Value.ref b] meth c cL_law 7 wsL_law RL ret D cI A) (T : kT l s A) (hNc : lk s) (hK2 : va_K D vwCl [(cI, .int), (cJ, .long)] s) (hX : va_X b L xs s s.heap) (hbl : b < s.heap.size) (hbA : ¬ A b) (hA9 : ∀ q, A q → s.heap.size ≤ q) (k i : Nat) (hk : k ≤ 512) (hv0 : vp_in (nI i) L) (hv1 : vp_in (nI i + (1 : Int32)) L) (hv2 : vp_in (nI i + (2 : Int32)) L) (hv3 : vp_in (nI i + (3 : Int32)) L)
    (w737 : ∀ (OUT : Nat → Int64) (gw gc gs ge gf cR cL cB pB : Int32) (SD RK RN RS RC RT LK LN LS LL US UB BB : Nat → Int32) (mT mW mH mS mR mL mC mZ mA mB : Int32) (KK KN KS KC AN JK JN JS JL MY KP FI TX : Nat → Int32) (hs : Sim gw gc gs ge gf cR cL cB pB SD RK RN RS RC RT LK LN LS LL US UB BB mT mW mH mS mR mL mC mZ mA mB KK KN KS KC AN JK JN JS JL MY KP FI TX) (H : Heap) (locs : List Loc) (ls : Array Slot), va_P D vwCl (wL cI cJ α β o OUT gw gc gs ge gf cR cL cB pB SD RK RN RS RC RT LK LN LS LL US UB BB mT mW mH mS mR mL mC mZ mA mB KK KN KS KC AN JK JN JS JL MY KP FI TX) H → va_D A (wL cI cJ α β o OUT gw gc gs ge gf cR cL cB pB SD RK RN RS RC RT LK LN LS LL US UB BB mT mW mH mS mR mL mC mZ mA mB KK KN KS KC AN JK JN JS JL MY KP FI TX) → va_S A s.heap H locs → lv_has ls 7 [(0, .ref b), (1, .ref (α 0)), (2, .ref (β 0)), (3, .ref o), (4, .int (nI i))] → W p l e room_1 s m #[Value.ref b] below meth c H locs (34 + (k + 1)) (4936 + 6 * (k + 1)) (lw_Z below #[Value.ref b] s) (F0 m 737 ls [])) :
    ∀ (OUT : Nat → Int64) (gw gc gs ge gf cR cL cB pB : Int32) (SD RK RN RS RC RT LK LN LS LL US UB BB : Nat → Int32) (mT mW mH mS mR mL mC mZ mA mB : Int32) (KK KN KS KC AN JK JN JS JL MY KP FI TX : Nat → Int32) (hs : Sim gw gc gs ge gf cR cL cB pB SD RK RN RS RC RT LK LN LS LL US UB BB mT mW mH mS mR mL mC mZ mA mB KK KN KS KC AN JK JN JS JL MY KP FI TX) (H : Heap) (locs : List Loc) (ls : Array Slot), va_P D vwCl (wL cI cJ α β o OUT gw gc gs ge gf cR cL cB pB SD RK RN RS RC RT LK LN LS LL US UB BB mT mW mH mS mR mL mC mZ mA mB KK KN KS KC AN JK JN JS JL MY KP FI TX) H → va_D A (wL cI cJ α β o OUT gw gc gs ge gf cR cL cB pB SD RK RN RS RC RT LK LN LS LL US UB BB mT mW mH mS mR mL mC mZ mA mB KK KN KS KC AN JK JN JS JL MY KP FI TX) → va_S A s.heap H locs → lv_has ls 7 [(0, .ref b), (1, .ref (α 0)), (2, .ref (β 0)), (3, .ref o), (4, .int (nI i))] → W p l e room_1 s m #[Value.ref b] below meth c H locs (34 + k) (4936 + 6 * k) (lw_Z below #[Value.ref b] s) (F0 m 433 ls []) := by
  have hx := S.1.1
  have hb := S.1.2.1
  have hts := S.1.2.2.2.2
  intro OUT gw gc gs ge gf cR cL cB pB SD RK RN RS RC RT LK LN LS LL US UB BB mT mW mH mS mR mL mC mZ mA mB KK KN KS KC AN JK JN JS JL MY KP FI TX hs H locs ls hP hD hS hl
  by_cases hb3 : (xs (nI i + (3 : Int32)).toNatClampNeg) = 0
  · rcases P_literal gw gc gs ge gf cR cL cB pB SD RK RN RS RC RT LK LN LS LL US UB BB mT mW mH mS mR mL mC mZ mA mB KK KN KS KC AN JK JN JS JL MY KP FI TX hs (xs (nI i + (1 : Int32)).toNatClampNeg) (xs (nI i + (2 : Int32)).toNatClampNeg) (0 : Int32) (Or.inl rfl) with ⟨r, t, h5, h6, ht, heq, hsim⟩ | ⟨g0, t, h6, ht, hsim⟩ | ⟨g0, g1, t, h6, ht, hsim⟩
    · by_cases hz : t.1 = 0
      · refine lv_aload_n hx hb dL_law_433 rfl (lv_at hl 1 rfl) ?_
        refine lv_aload_n hx hb dL_law_434 rfl (lv_at hl 0 rfl) ?_
        refine lv_iload hx hb dL_law_435 (lv_at hl 4 rfl) ?_
        refine lv_iconst (v := (1 : Int32)) hx hb dL_law_437 (by decide) ?_
        refine lv_iadd hx hb dL_law_438 ?_
        refine va_sld hx hb hX hbl hbA hS hv1 dL_law_439 ?_
        refine lv_aload_n hx hb dL_law_440 rfl (lv_at hl 0 rfl) ?_
        refine lv_iload hx hb dL_law_441 (lv_at hl 4 rfl) ?_
        refine lv_iconst (v := (2 : Int32)) hx hb dL_law_443 (by decide) ?_
        refine lv_iadd hx hb dL_law_444 ?_
        refine va_sld hx hb hX hbl hbA hS hv2 dL_law_445 ?_
        refine lv_aload_n hx hb dL_law_446 rfl (lv_at hl 0 rfl) ?_
        refine lv_iload hx hb dL_law_447 (lv_at hl 4 rfl) ?_
        refine lv_iconst (v := (3 : Int32)) hx hb dL_law_449 (by decide) ?_
        refine lv_iadd hx hb dL_law_450 ?_
        refine va_sld hx hb hX hbl hbA hS hv3 dL_law_451 ?_
        refine lv_if_eq (tgt := 459) hx hb dL_law_452 (by decide) (fun c9 => ?_) (fun c9 => absurd hb3 c9)
        refine lv_iconst (v := (0 : Int32)) hx hb dL_law_459 (by decide) ?_
        refine lv_aload_n hx hb dL_law_460 rfl (lv_at hl 3 rfl) ?_
        refine kH_callSs (As := [.ref (α 0), .int ((xs ((nI i) + (1 : Int32)).toNatClampNeg)), .int ((xs ((nI i) + (2 : Int32)).toNatClampNeg)), .int (0 : Int32), .ref o]) (rest := []) (wr := wM cI β mT mW mH mS mR mL mC mZ mA mB KK KN KS KC AN JK JN JS JL MY KP FI TX) (wn := wL cI cJ α β o (vp_updL OUT 0 (lb r.1)) gw gc gs ge gf cR cL cB pB SD RK RN RS RC RT LK LN r.2.1 r.2.2 US UB BB mT mW mH mS mR mL mC mZ mA mB KK KN KS KC AN JK JN JS JL MY KP FI TX) S T hNc hK2 hP hD hS [33, 0, 1, 2, 3, 4, 5, 6, 7, 8, 9, 10, 11, 12, 13, 14, 15, 16, 17, 18] [19, 20, 21, 22, 23, 24, 25, 26, 27, 28, 29, 30, 31, 32] [15, 16, 17, 18, 19, 20, 21, 22, 23, 24, 25, 26, 27, 28, 29, 30, 31, 32, 33, 0, 1, 2, 3, 4, 5, 6, 7, 8, 9, 10, 11, 12, 13, 14] rfl rfl rfl rfl (by decide) rfl rfl (c_L_literal_n l hlt D cI cJ α o OUT gw gc gs ge gf cR cL cB pB SD RK RN RS RC RT LK LN LS LL US UB BB ((xs ((nI i) + (1 : Int32)).toNatClampNeg)) ((xs ((nI i) + (2 : Int32)).toNatClampNeg)) (0 : Int32) FF r h5) (vx_cwSW 5 hts gL_law_L_literal rfl rfl rfl (by decide +kernel) ⟨(Nat.le_of_ble_eq_true rfl), (Nat.le_of_ble_eq_true rfl)⟩) rfl hl.1 rfl (Nat.le_of_ble_eq_true rfl) dL_law_461 ⟨by show _ ≤ 601024; omega, by show _ ≤ 7292999; omega⟩ (fun H locs hP hD hS => ?_)
        refine lv_istore (lv' := [(5, .int (0 : Int32)), (0, .ref b), (1, .ref (α 0)), (2, .ref (β 0)), (3, .ref o), (4, .int (nI i))]) hx hb dL_law_464 hl (by decide) rfl (fun ls hl => ?_)
        refine lv_aload_n hx hb dL_law_466 rfl (lv_at hl 3 rfl) ?_
        refine lv_aload_n hx hb dL_law_467 rfl (lv_at hl 1 rfl) ?_
        refine lv_iload hx hb dL_law_468 (lv_at hl 5 rfl) ?_
        refine lv_iconst (v := (1 : Int32)) hx hb dL_law_470 (by decide) ?_
        refine lv_iadd hx hb dL_law_471 ?_
        refine va_sld hx hb hX hbl hbA hS hv1 dL_law_472 ?_
        refine lv_aload_n hx hb dL_law_473 rfl (lv_at hl 1 rfl) ?_
        refine lv_iload hx hb dL_law_474 (lv_at hl 5 rfl) ?_
        refine lv_iconst (v := (2 : Int32)) hx hb dL_law_476 (by decide) ?_
        refine lv_iadd hx hb dL_law_477 ?_
        refine va_sld hx hb hX hbl hbA hS hv2 dL_law_478 ?_
        refine lv_aload_n hx hb dL_law_479 rfl (lv_at hl 1 rfl) ?_
        refine lv_iload hx hb dL_law_480 (lv_at hl 5 rfl) ?_
        refine lv_iconst (v := (3 : Int32)) hx hb dL_law_482 (by decide) ?_
        refine lv_iadd hx hb dL_law_483 ?_
        refine va_sld hx hb hX hbl hbA hS hv3 dL_law_484 ?_
        refine lv_if_eq (tgt := 492) hx hb dL_law_485 (by decide) (fun c9 => ?_) (fun c9 => absurd hb3 c9)
        refine lv_iconst (v := (0 : Int32)) hx hb dL_law_492 (by decide) ?_
        refine kI_callVs (As := [.int ((xs ((nI i) + (1 : Int32)).toNatClampNeg)), .int ((xs ((nI i) + (2 : Int32)).toNatClampNeg)), .int (0 : Int32)]) (rest := []) (wr := (wC cI α gw gc gs ge gf cR cL cB pB SD RK RN RS RC RT LK LN r.2.1 r.2.2 US UB BB) ++ [(o, .inl (cJ, 1, .inr (.inl (vp_updL OUT 0 (lb r.1)))))]) (wn := wL cI cJ α β o (vp_updL OUT 0 (lb r.1)) gw gc gs ge gf cR cL cB pB SD RK RN RS RC RT LK LN r.2.1 r.2.2 US UB BB t.2.1 mW mH mS mR mL mC mZ mA mB KK KN KS KC AN JK JN t.2.2.1 t.2.2.2 MY KP FI TX) S hP hD hS [19, 20, 21, 22, 23, 24, 25, 26, 27, 28, 29, 30, 31, 32] [0, 1, 2, 3, 4, 5, 6, 7, 8, 9, 10, 11, 12, 13, 14, 15, 16, 17, 18, 33] [0, 1, 2, 3, 4, 5, 6, 7, 8, 9, 10, 11, 12, 13, 14, 15, 16, 17, 18, 20, 21, 22, 23, 24, 25, 26, 27, 28, 29, 30, 31, 32, 33, 19] rfl rfl rfl rfl (by decide) rfl rfl (c_X6_literal l D cI β mT mW mH mS mR mL mC mZ mA mB KK KN KS KC AN JK JN JS JL MY KP FI TX FF ((xs ((nI i) + (1 : Int32)).toNatClampNeg)) ((xs ((nI i) + (2 : Int32)).toNatClampNeg)) (0 : Int32) t h6) (cwV 3 hts gL_law_X6_literal rfl rfl rfl (by decide +kernel) ⟨(Nat.le_of_ble_eq_true rfl), (Nat.le_of_ble_eq_true rfl)⟩) 0 rfl rfl rfl hl.1 rfl (Nat.le_of_ble_eq_true rfl) dL_law_493 ⟨by show _ ≤ 601024; omega, by show _ ≤ 7292999; omega⟩ (fun H locs hP hD hS => ?_)
        refine lv_istore (lv' := [(6, .int t.1), (5, .int (0 : Int32)), (0, .ref b), (1, .ref (α 0)), (2, .ref (β 0)), (3, .ref o), (4, .int (nI i))]) hx hb dL_law_496 hl (by decide) rfl (fun ls hl => ?_)
        refine lv_aload_n hx hb dL_law_498 rfl (lv_at hl 4 rfl) ?_
        refine kI_callVs (As := []) (rest := []) (wr := (wC cI α gw gc gs ge gf cR cL cB pB SD RK RN RS RC RT LK LN r.2.1 r.2.2 US UB BB) ++ [(o, .inl (cJ, 1, .inr (.inl (vp_updL OUT 0 (lb r.1)))))]) (wn := wL cI cJ α β o (vp_updL OUT 0 (lb r.1)) gw gc gs ge gf cR cL cB pB SD RK RN RS RC RT LK LN r.2.1 r.2.2 US UB BB t.2.1 mW mH mS mR mL mC mZ mA mB KK KN KS KC AN JK JN t.2.2.1 t.2.2.2 MY KP FI TX) S hP hD hS [19, 20, 21, 22, 23, 24, 25, 26, 27, 28, 29, 30, 31, 32] [0, 1, 2, 3, 4, 5, 6, 7, 8, 9, 10, 11, 12, 13, 14, 15, 16, 17, 18, 33] [0, 1, 2, 3, 4, 5, 6, 7, 8, 9, 10, 11, 12, 13, 14, 15, 16, 17, 18, 20, 21, 22, 23, 24, 25, 26, 27, 28, 29, 30, 31, 32, 33, 19] rfl rfl rfl rfl (by decide) rfl rfl (c_X6_thrown l D cI β t.2.1 mW mH mS mR mL mC mZ mA mB KK KN KS KC AN JK JN t.2.2.1 t.2.2.2 MY KP FI TX t.2.1 rfl) (cwV 0 hts gL_law_X6_thrown rfl rfl rfl (by decide +kernel) ⟨(Nat.le_of_ble_eq_true rfl), (Nat.le_of_ble_eq_true rfl)⟩) 0 rfl rfl rfl hl.1 rfl (Nat.le_of_ble_eq_true rfl) dL_law_499 ⟨by show _ ≤ 601024; omega, by show _ ≤ 7292999; omega⟩ (fun H locs hP hD hS => ?_)
        refine lv_iload hx hb dL_law_502 (lv_at hl 1 rfl) ?_
        refine lv_icmp_eq (tgt := 509) hx hb dL_law_504 (by decide) (fun c9 => ?_) (fun c9 => absurd ht c9)
        refine lv_iload hx hb dL_law_509 (lv_at hl 1 rfl) ?_
        refine lv_if_ne (tgt := 533) hx hb dL_law_511 (by decide) (fun c9 => absurd rfl c9) (fun c9 => ?_)
        refine lv_aload_n hx hb dL_law_514 rfl (lv_at hl 5 rfl) ?_
        refine lv_iconst (v := (0 : Int32)) hx hb dL_law_515 (by decide) ?_
        refine va_lald hx hb hK2 hP 33 1 rfl rfl vp01 dL_law_516 ?_
        refine lv_iload hx hb dL_law_517 (lv_at hl 0 rfl) ?_
        refine lv_if_eq (tgt := 526) hx hb dL_law_519 (by decide) (fun c9 => ?_) (fun c9 => absurd hz c9)
        refine lv_lconst (v := (0 : Int64)) hx hb dL_law_526 rfl ?_
        refine W.lcmp hx hb dL_law_527 ?_
        refine lv_if_eq (tgt := 533) hx hb dL_law_528 (by decide) (fun c9 => ?_) (fun c9 => absurd (lw_c0 heq hz) c9)
        refine lv_goto (tgt := 737) hx hb dL_law_533 (by decide) ?_
        refine W.widen (k := 34 + (k + 1)) (n := 4936 + 6 * (k + 1)) (by omega) (by omega) ?_
        exact w737 (vp_updL OUT 0 (lb r.1)) gw gc gs ge gf cR cL cB pB SD RK RN RS RC RT LK LN r.2.1 r.2.2 US UB BB t.2.1 mW mH mS mR mL mC mZ mA mB KK KN KS KC AN JK JN t.2.2.1 t.2.2.2 MY KP FI TX hsim H locs ls hP hD hS (lv_sub hl [2, 3, 4, 5, 6] rfl)
      · refine lv_aload_n hx hb dL_law_433 rfl (lv_at hl 1 rfl) ?_
        refine lv_aload_n hx hb dL_law_434 rfl (lv_at hl 0 rfl) ?_
        refine lv_iload hx hb dL_law_435 (lv_at hl 4 rfl) ?_
        refine lv_iconst (v := (1 : Int32)) hx hb dL_law_437 (by decide) ?_
        refine lv_iadd hx hb dL_law_438 ?_
        refine va_sld hx hb hX hbl hbA hS hv1 dL_law_439 ?_
        refine lv_aload_n hx hb dL_law_440 rfl (lv_at hl 0 rfl) ?_
        refine lv_iload hx hb dL_law_441 (lv_at hl 4 rfl) ?_
        refine lv_iconst (v := (2 : Int32)) hx hb dL_law_443 (by decide) ?_
        refine lv_iadd hx hb dL_law_444 ?_
        refine va_sld hx hb hX hbl hbA hS hv2 dL_law_445 ?_
        refine lv_aload_n hx hb dL_law_446 rfl (lv_at hl 0 rfl) ?_
        refine lv_iload hx hb dL_law_447 (lv_at hl 4 rfl) ?_
        refine lv_iconst (v := (3 : Int32)) hx hb dL_law_449 (by decide) ?_
        refine lv_iadd hx hb dL_law_450 ?_
        refine va_sld hx hb hX hbl hbA hS hv3 dL_law_451 ?_
        refine lv_if_eq (tgt := 459) hx hb dL_law_452 (by decide) (fun c9 => ?_) (fun c9 => absurd hb3 c9)
        refine lv_iconst (v := (0 : Int32)) hx hb dL_law_459 (by decide) ?_
        refine lv_aload_n hx hb dL_law_460 rfl (lv_at hl 3 rfl) ?_
        refine kH_callSs (As := [.ref (α 0), .int ((xs ((nI i) + (1 : Int32)).toNatClampNeg)), .int ((xs ((nI i) + (2 : Int32)).toNatClampNeg)), .int (0 : Int32), .ref o]) (rest := []) (wr := wM cI β mT mW mH mS mR mL mC mZ mA mB KK KN KS KC AN JK JN JS JL MY KP FI TX) (wn := wL cI cJ α β o (vp_updL OUT 0 (lb r.1)) gw gc gs ge gf cR cL cB pB SD RK RN RS RC RT LK LN r.2.1 r.2.2 US UB BB mT mW mH mS mR mL mC mZ mA mB KK KN KS KC AN JK JN JS JL MY KP FI TX) S T hNc hK2 hP hD hS [33, 0, 1, 2, 3, 4, 5, 6, 7, 8, 9, 10, 11, 12, 13, 14, 15, 16, 17, 18] [19, 20, 21, 22, 23, 24, 25, 26, 27, 28, 29, 30, 31, 32] [15, 16, 17, 18, 19, 20, 21, 22, 23, 24, 25, 26, 27, 28, 29, 30, 31, 32, 33, 0, 1, 2, 3, 4, 5, 6, 7, 8, 9, 10, 11, 12, 13, 14] rfl rfl rfl rfl (by decide) rfl rfl (c_L_literal_n l hlt D cI cJ α o OUT gw gc gs ge gf cR cL cB pB SD RK RN RS RC RT LK LN LS LL US UB BB ((xs ((nI i) + (1 : Int32)).toNatClampNeg)) ((xs ((nI i) + (2 : Int32)).toNatClampNeg)) (0 : Int32) FF r h5) (vx_cwSW 5 hts gL_law_L_literal rfl rfl rfl (by decide +kernel) ⟨(Nat.le_of_ble_eq_true rfl), (Nat.le_of_ble_eq_true rfl)⟩) rfl hl.1 rfl (Nat.le_of_ble_eq_true rfl) dL_law_461 ⟨by show _ ≤ 601024; omega, by show _ ≤ 7292999; omega⟩ (fun H locs hP hD hS => ?_)
        refine lv_istore (lv' := [(5, .int (0 : Int32)), (0, .ref b), (1, .ref (α 0)), (2, .ref (β 0)), (3, .ref o), (4, .int (nI i))]) hx hb dL_law_464 hl (by decide) rfl (fun ls hl => ?_)
        refine lv_aload_n hx hb dL_law_466 rfl (lv_at hl 3 rfl) ?_
        refine lv_aload_n hx hb dL_law_467 rfl (lv_at hl 1 rfl) ?_
        refine lv_iload hx hb dL_law_468 (lv_at hl 5 rfl) ?_
        refine lv_iconst (v := (1 : Int32)) hx hb dL_law_470 (by decide) ?_
        refine lv_iadd hx hb dL_law_471 ?_
        refine va_sld hx hb hX hbl hbA hS hv1 dL_law_472 ?_
        refine lv_aload_n hx hb dL_law_473 rfl (lv_at hl 1 rfl) ?_
        refine lv_iload hx hb dL_law_474 (lv_at hl 5 rfl) ?_
        refine lv_iconst (v := (2 : Int32)) hx hb dL_law_476 (by decide) ?_
        refine lv_iadd hx hb dL_law_477 ?_
        refine va_sld hx hb hX hbl hbA hS hv2 dL_law_478 ?_
        refine lv_aload_n hx hb dL_law_479 rfl (lv_at hl 1 rfl) ?_
        refine lv_iload hx hb dL_law_480 (lv_at hl 5 rfl) ?_
        refine lv_iconst (v := (3 : Int32)) hx hb dL_law_482 (by decide) ?_
        refine lv_iadd hx hb dL_law_483 ?_
        refine va_sld hx hb hX hbl hbA hS hv3 dL_law_484 ?_
        refine lv_if_eq (tgt := 492) hx hb dL_law_485 (by decide) (fun c9 => ?_) (fun c9 => absurd hb3 c9)
        refine lv_iconst (v := (0 : Int32)) hx hb dL_law_492 (by decide) ?_
        refine kI_callVs (As := [.int ((xs ((nI i) + (1 : Int32)).toNatClampNeg)), .int ((xs ((nI i) + (2 : Int32)).toNatClampNeg)), .int (0 : Int32)]) (rest := []) (wr := (wC cI α gw gc gs ge gf cR cL cB pB SD RK RN RS RC RT LK LN r.2.1 r.2.2 US UB BB) ++ [(o, .inl (cJ, 1, .inr (.inl (vp_updL OUT 0 (lb r.1)))))]) (wn := wL cI cJ α β o (vp_updL OUT 0 (lb r.1)) gw gc gs ge gf cR cL cB pB SD RK RN RS RC RT LK LN r.2.1 r.2.2 US UB BB t.2.1 mW mH mS mR mL mC mZ mA mB KK KN KS KC AN JK JN t.2.2.1 t.2.2.2 MY KP FI TX) S hP hD hS [19, 20, 21, 22, 23, 24, 25, 26, 27, 28, 29, 30, 31, 32] [0, 1, 2, 3, 4, 5, 6, 7, 8, 9, 10, 11, 12, 13, 14, 15, 16, 17, 18, 33] [0, 1, 2, 3, 4, 5, 6, 7, 8, 9, 10, 11, 12, 13, 14, 15, 16, 17, 18, 20, 21, 22, 23, 24, 25, 26, 27, 28, 29, 30, 31, 32, 33, 19] rfl rfl rfl rfl (by decide) rfl rfl (c_X6_literal l D cI β mT mW mH mS mR mL mC mZ mA mB KK KN KS KC AN JK JN JS JL MY KP FI TX FF ((xs ((nI i) + (1 : Int32)).toNatClampNeg)) ((xs ((nI i) + (2 : Int32)).toNatClampNeg)) (0 : Int32) t h6) (cwV 3 hts gL_law_X6_literal rfl rfl rfl (by decide +kernel) ⟨(Nat.le_of_ble_eq_true rfl), (Nat.le_of_ble_eq_true rfl)⟩) 0 rfl rfl rfl hl.1 rfl (Nat.le_of_ble_eq_true rfl) dL_law_493 ⟨by show _ ≤ 601024; omega, by show _ ≤ 7292999; omega⟩ (fun H locs hP hD hS => ?_)
        refine lv_istore (lv' := [(6, .int t.1), (5, .int (0 : Int32)), (0, .ref b), (1, .ref (α 0)), (2, .ref (β 0)), (3, .ref o), (4, .int (nI i))]) hx hb dL_law_496 hl (by decide) rfl (fun ls hl => ?_)
        refine lv_aload_n hx hb dL_law_498 rfl (lv_at hl 4 rfl) ?_
        refine kI_callVs (As := []) (rest := []) (wr := (wC cI α gw gc gs ge gf cR cL cB pB SD RK RN RS RC RT LK LN r.2.1 r.2.2 US UB BB) ++ [(o, .inl (cJ, 1, .inr (.inl (vp_updL OUT 0 (lb r.1)))))]) (wn := wL cI cJ α β o (vp_updL OUT 0 (lb r.1)) gw gc gs ge gf cR cL cB pB SD RK RN RS RC RT LK LN r.2.1 r.2.2 US UB BB t.2.1 mW mH mS mR mL mC mZ mA mB KK KN KS KC AN JK JN t.2.2.1 t.2.2.2 MY KP FI TX) S hP hD hS [19, 20, 21, 22, 23, 24, 25, 26, 27, 28, 29, 30, 31, 32] [0, 1, 2, 3, 4, 5, 6, 7, 8, 9, 10, 11, 12, 13, 14, 15, 16, 17, 18, 33] [0, 1, 2, 3, 4, 5, 6, 7, 8, 9, 10, 11, 12, 13, 14, 15, 16, 17, 18, 20, 21, 22, 23, 24, 25, 26, 27, 28, 29, 30, 31, 32, 33, 19] rfl rfl rfl rfl (by decide) rfl rfl (c_X6_thrown l D cI β t.2.1 mW mH mS mR mL mC mZ mA mB KK KN KS KC AN JK JN t.2.2.1 t.2.2.2 MY KP FI TX t.2.1 rfl) (cwV 0 hts gL_law_X6_thrown rfl rfl rfl (by decide +kernel) ⟨(Nat.le_of_ble_eq_true rfl), (Nat.le_of_ble_eq_true rfl)⟩) 0 rfl rfl rfl hl.1 rfl (Nat.le_of_ble_eq_true rfl) dL_law_499 ⟨by show _ ≤ 601024; omega, by show _ ≤ 7292999; omega⟩ (fun H locs hP hD hS => ?_)
        refine lv_iload hx hb dL_law_502 (lv_at hl 1 rfl) ?_
        refine lv_icmp_eq (tgt := 509) hx hb dL_law_504 (by decide) (fun c9 => ?_) (fun c9 => absurd ht c9)
        refine lv_iload hx hb dL_law_509 (lv_at hl 1 rfl) ?_
        refine lv_if_ne (tgt := 533) hx hb dL_law_511 (by decide) (fun c9 => absurd rfl c9) (fun c9 => ?_)
        refine lv_aload_n hx hb dL_law_514 rfl (lv_at hl 5 rfl) ?_
        refine lv_iconst (v := (0 : Int32)) hx hb dL_law_515 (by decide) ?_
        refine va_lald hx hb hK2 hP 33 1 rfl rfl vp01 dL_law_516 ?_
        refine lv_iload hx hb dL_law_517 (lv_at hl 0 rfl) ?_
        refine lv_if_eq (tgt := 526) hx hb dL_law_519 (by decide) (fun c9 => absurd c9 hz) (fun c9 => ?_)
        refine lv_lconst (v := (1 : Int64)) hx hb dL_law_522 rfl ?_
        refine lv_goto (tgt := 527) hx hb dL_law_523 (by decide) ?_
        refine W.lcmp hx hb dL_law_527 ?_
        refine lv_if_eq (tgt := 533) hx hb dL_law_528 (by decide) (fun c9 => ?_) (fun c9 => absurd (lw_c1 heq hz) c9)
        refine lv_goto (tgt := 737) hx hb dL_law_533 (by decide) ?_
        refine W.widen (k := 34 + (k + 1)) (n := 4936 + 6 * (k + 1)) (by omega) (by omega) ?_
        exact w737 (vp_updL OUT 0 (lb r.1)) gw gc gs ge gf cR cL cB pB SD RK RN RS RC RT LK LN r.2.1 r.2.2 US UB BB t.2.1 mW mH mS mR mL mC mZ mA mB KK KN KS KC AN JK JN t.2.2.1 t.2.2.2 MY KP FI TX hsim H locs ls hP hD hS (lv_sub hl [2, 3, 4, 5, 6] rfl)
    · refine lv_aload_n hx hb dL_law_433 rfl (lv_at hl 1 rfl) ?_
      refine lv_aload_n hx hb dL_law_434 rfl (lv_at hl 0 rfl) ?_
      refine lv_iload hx hb dL_law_435 (lv_at hl 4 rfl) ?_
      refine lv_iconst (v := (1 : Int32)) hx hb dL_law_437 (by decide) ?_
      refine lv_iadd hx hb dL_law_438 ?_
      refine va_sld hx hb hX hbl hbA hS hv1 dL_law_439 ?_
      refine lv_aload_n hx hb dL_law_440 rfl (lv_at hl 0 rfl) ?_
      refine lv_iload hx hb dL_law_441 (lv_at hl 4 rfl) ?_
      refine lv_iconst (v := (2 : Int32)) hx hb dL_law_443 (by decide) ?_
      refine lv_iadd hx hb dL_law_444 ?_
      refine va_sld hx hb hX hbl hbA hS hv2 dL_law_445 ?_
      refine lv_aload_n hx hb dL_law_446 rfl (lv_at hl 0 rfl) ?_
      refine lv_iload hx hb dL_law_447 (lv_at hl 4 rfl) ?_
      refine lv_iconst (v := (3 : Int32)) hx hb dL_law_449 (by decide) ?_
      refine lv_iadd hx hb dL_law_450 ?_
      refine va_sld hx hb hX hbl hbA hS hv3 dL_law_451 ?_
      refine lv_if_eq (tgt := 459) hx hb dL_law_452 (by decide) (fun c9 => ?_) (fun c9 => absurd hb3 c9)
      refine lv_iconst (v := (0 : Int32)) hx hb dL_law_459 (by decide) ?_
      refine lv_aload_n hx hb dL_law_460 rfl (lv_at hl 3 rfl) ?_
      refine kH_callSs (As := [.ref (α 0), .int ((xs ((nI i) + (1 : Int32)).toNatClampNeg)), .int ((xs ((nI i) + (2 : Int32)).toNatClampNeg)), .int (0 : Int32), .ref o]) (rest := []) (wr := wM cI β mT mW mH mS mR mL mC mZ mA mB KK KN KS KC AN JK JN JS JL MY KP FI TX) (wn := wL cI cJ α β o OUT gw gc gs ge gf cR cL cB pB SD RK RN RS RC RT LK LN LS LL US UB BB mT mW mH mS mR mL mC mZ mA mB KK KN KS KC AN JK JN JS JL MY KP FI TX) S T hNc hK2 hP hD hS [33, 0, 1, 2, 3, 4, 5, 6, 7, 8, 9, 10, 11, 12, 13, 14, 15, 16, 17, 18] [19, 20, 21, 22, 23, 24, 25, 26, 27, 28, 29, 30, 31, 32] [15, 16, 17, 18, 19, 20, 21, 22, 23, 24, 25, 26, 27, 28, 29, 30, 31, 32, 33, 0, 1, 2, 3, 4, 5, 6, 7, 8, 9, 10, 11, 12, 13, 14] rfl rfl rfl rfl (by decide) rfl rfl (c_L_literal_x1 l hlt D cI cJ α o OUT gw gc gs ge gf cR cL cB pB SD RK RN RS RC RT LK LN LS LL US UB BB ((xs ((nI i) + (1 : Int32)).toNatClampNeg)) ((xs ((nI i) + (2 : Int32)).toNatClampNeg)) (0 : Int32) g0) (vx_cwSW 5 hts gL_law_L_literal rfl rfl rfl (by decide +kernel) ⟨(Nat.le_of_ble_eq_true rfl), (Nat.le_of_ble_eq_true rfl)⟩) rfl hl.1 rfl (Nat.le_of_ble_eq_true rfl) dL_law_461 ⟨by show _ ≤ 601024; omega, by show _ ≤ 7292999; omega⟩ (fun H locs hP hD hS => ?_)
      refine lv_istore (lv' := [(5, .int (1 : Int32)), (0, .ref b), (1, .ref (α 0)), (2, .ref (β 0)), (3, .ref o), (4, .int (nI i))]) hx hb dL_law_464 hl (by decide) rfl (fun ls hl => ?_)
      refine lv_aload_n hx hb dL_law_466 rfl (lv_at hl 3 rfl) ?_
      refine lv_aload_n hx hb dL_law_467 rfl (lv_at hl 1 rfl) ?_
      refine lv_iload hx hb dL_law_468 (lv_at hl 5 rfl) ?_
      refine lv_iconst (v := (1 : Int32)) hx hb dL_law_470 (by decide) ?_
      refine lv_iadd hx hb dL_law_471 ?_
      refine va_sld hx hb hX hbl hbA hS hv1 dL_law_472 ?_
      refine lv_aload_n hx hb dL_law_473 rfl (lv_at hl 1 rfl) ?_
      refine lv_iload hx hb dL_law_474 (lv_at hl 5 rfl) ?_
      refine lv_iconst (v := (2 : Int32)) hx hb dL_law_476 (by decide) ?_
      refine lv_iadd hx hb dL_law_477 ?_
      refine va_sld hx hb hX hbl hbA hS hv2 dL_law_478 ?_
      refine lv_aload_n hx hb dL_law_479 rfl (lv_at hl 1 rfl) ?_
      refine lv_iload hx hb dL_law_480 (lv_at hl 5 rfl) ?_
      refine lv_iconst (v := (3 : Int32)) hx hb dL_law_482 (by decide) ?_
      refine lv_iadd hx hb dL_law_483 ?_
      refine va_sld hx hb hX hbl hbA hS hv3 dL_law_484 ?_
      refine lv_if_eq (tgt := 492) hx hb dL_law_485 (by decide) (fun c9 => ?_) (fun c9 => absurd hb3 c9)
      refine lv_iconst (v := (0 : Int32)) hx hb dL_law_492 (by decide) ?_
      refine kI_callVs (As := [.int ((xs ((nI i) + (1 : Int32)).toNatClampNeg)), .int ((xs ((nI i) + (2 : Int32)).toNatClampNeg)), .int (0 : Int32)]) (rest := []) (wr := (wC cI α gw gc gs ge gf cR cL cB pB SD RK RN RS RC RT LK LN LS LL US UB BB) ++ [(o, .inl (cJ, 1, .inr (.inl OUT)))]) (wn := wL cI cJ α β o OUT gw gc gs ge gf cR cL cB pB SD RK RN RS RC RT LK LN LS LL US UB BB t.2.1 mW mH mS mR mL mC mZ mA mB KK KN KS KC AN JK JN t.2.2.1 t.2.2.2 MY KP FI TX) S hP hD hS [19, 20, 21, 22, 23, 24, 25, 26, 27, 28, 29, 30, 31, 32] [0, 1, 2, 3, 4, 5, 6, 7, 8, 9, 10, 11, 12, 13, 14, 15, 16, 17, 18, 33] [0, 1, 2, 3, 4, 5, 6, 7, 8, 9, 10, 11, 12, 13, 14, 15, 16, 17, 18, 20, 21, 22, 23, 24, 25, 26, 27, 28, 29, 30, 31, 32, 33, 19] rfl rfl rfl rfl (by decide) rfl rfl (c_X6_literal l D cI β mT mW mH mS mR mL mC mZ mA mB KK KN KS KC AN JK JN JS JL MY KP FI TX FF ((xs ((nI i) + (1 : Int32)).toNatClampNeg)) ((xs ((nI i) + (2 : Int32)).toNatClampNeg)) (0 : Int32) t h6) (cwV 3 hts gL_law_X6_literal rfl rfl rfl (by decide +kernel) ⟨(Nat.le_of_ble_eq_true rfl), (Nat.le_of_ble_eq_true rfl)⟩) 0 rfl rfl rfl hl.1 rfl (Nat.le_of_ble_eq_true rfl) dL_law_493 ⟨by show _ ≤ 601024; omega, by show _ ≤ 7292999; omega⟩ (fun H locs hP hD hS => ?_)
      refine lv_istore (lv' := [(6, .int t.1), (5, .int (1 : Int32)), (0, .ref b), (1, .ref (α 0)), (2, .ref (β 0)), (3, .ref o), (4, .int (nI i))]) hx hb dL_law_496 hl (by decide) rfl (fun ls hl => ?_)
      refine lv_aload_n hx hb dL_law_498 rfl (lv_at hl 4 rfl) ?_
      refine kI_callVs (As := []) (rest := []) (wr := (wC cI α gw gc gs ge gf cR cL cB pB SD RK RN RS RC RT LK LN LS LL US UB BB) ++ [(o, .inl (cJ, 1, .inr (.inl OUT)))]) (wn := wL cI cJ α β o OUT gw gc gs ge gf cR cL cB pB SD RK RN RS RC RT LK LN LS LL US UB BB t.2.1 mW mH mS mR mL mC mZ mA mB KK KN KS KC AN JK JN t.2.2.1 t.2.2.2 MY KP FI TX) S hP hD hS [19, 20, 21, 22, 23, 24, 25, 26, 27, 28, 29, 30, 31, 32] [0, 1, 2, 3, 4, 5, 6, 7, 8, 9, 10, 11, 12, 13, 14, 15, 16, 17, 18, 33] [0, 1, 2, 3, 4, 5, 6, 7, 8, 9, 10, 11, 12, 13, 14, 15, 16, 17, 18, 20, 21, 22, 23, 24, 25, 26, 27, 28, 29, 30, 31, 32, 33, 19] rfl rfl rfl rfl (by decide) rfl rfl (c_X6_thrown l D cI β t.2.1 mW mH mS mR mL mC mZ mA mB KK KN KS KC AN JK JN t.2.2.1 t.2.2.2 MY KP FI TX t.2.1 rfl) (cwV 0 hts gL_law_X6_thrown rfl rfl rfl (by decide +kernel) ⟨(Nat.le_of_ble_eq_true rfl), (Nat.le_of_ble_eq_true rfl)⟩) 0 rfl rfl rfl hl.1 rfl (Nat.le_of_ble_eq_true rfl) dL_law_499 ⟨by show _ ≤ 601024; omega, by show _ ≤ 7292999; omega⟩ (fun H locs hP hD hS => ?_)
      refine lv_iload hx hb dL_law_502 (lv_at hl 1 rfl) ?_
      refine lv_icmp_eq (tgt := 509) hx hb dL_law_504 (by decide) (fun c9 => ?_) (fun c9 => absurd ht c9)
      refine lv_iload hx hb dL_law_509 (lv_at hl 1 rfl) ?_
      refine lv_if_ne (tgt := 533) hx hb dL_law_511 (by decide) (fun c9 => ?_) (fun c9 => absurd c9 (by decide))
      refine lv_goto (tgt := 737) hx hb dL_law_533 (by decide) ?_
      refine W.widen (k := 34 + (k + 1)) (n := 4936 + 6 * (k + 1)) (by omega) (by omega) ?_
      exact w737 OUT gw gc gs ge gf cR cL cB pB SD RK RN RS RC RT LK LN LS LL US UB BB t.2.1 mW mH mS mR mL mC mZ mA mB KK KN KS KC AN JK JN t.2.2.1 t.2.2.2 MY KP FI TX hsim H locs ls hP hD hS (lv_sub hl [2, 3, 4, 5, 6] rfl)
    · refine lv_aload_n hx hb dL_law_433 rfl (lv_at hl 1 rfl) ?_
      refine lv_aload_n hx hb dL_law_434 rfl (lv_at hl 0 rfl) ?_
      refine lv_iload hx hb dL_law_435 (lv_at hl 4 rfl) ?_
      refine lv_iconst (v := (1 : Int32)) hx hb dL_law_437 (by decide) ?_
      refine lv_iadd hx hb dL_law_438 ?_
      refine va_sld hx hb hX hbl hbA hS hv1 dL_law_439 ?_
      refine lv_aload_n hx hb dL_law_440 rfl (lv_at hl 0 rfl) ?_
      refine lv_iload hx hb dL_law_441 (lv_at hl 4 rfl) ?_
      refine lv_iconst (v := (2 : Int32)) hx hb dL_law_443 (by decide) ?_
      refine lv_iadd hx hb dL_law_444 ?_
      refine va_sld hx hb hX hbl hbA hS hv2 dL_law_445 ?_
      refine lv_aload_n hx hb dL_law_446 rfl (lv_at hl 0 rfl) ?_
      refine lv_iload hx hb dL_law_447 (lv_at hl 4 rfl) ?_
      refine lv_iconst (v := (3 : Int32)) hx hb dL_law_449 (by decide) ?_
      refine lv_iadd hx hb dL_law_450 ?_
      refine va_sld hx hb hX hbl hbA hS hv3 dL_law_451 ?_
      refine lv_if_eq (tgt := 459) hx hb dL_law_452 (by decide) (fun c9 => ?_) (fun c9 => absurd hb3 c9)
      refine lv_iconst (v := (0 : Int32)) hx hb dL_law_459 (by decide) ?_
      refine lv_aload_n hx hb dL_law_460 rfl (lv_at hl 3 rfl) ?_
      refine kH_callSs (As := [.ref (α 0), .int ((xs ((nI i) + (1 : Int32)).toNatClampNeg)), .int ((xs ((nI i) + (2 : Int32)).toNatClampNeg)), .int (0 : Int32), .ref o]) (rest := []) (wr := wM cI β mT mW mH mS mR mL mC mZ mA mB KK KN KS KC AN JK JN JS JL MY KP FI TX) (wn := wL cI cJ α β o OUT gw gc gs ge gf cR cL cB pB SD RK RN RS RC RT LK LN LS LL US UB BB mT mW mH mS mR mL mC mZ mA mB KK KN KS KC AN JK JN JS JL MY KP FI TX) S T hNc hK2 hP hD hS [33, 0, 1, 2, 3, 4, 5, 6, 7, 8, 9, 10, 11, 12, 13, 14, 15, 16, 17, 18] [19, 20, 21, 22, 23, 24, 25, 26, 27, 28, 29, 30, 31, 32] [15, 16, 17, 18, 19, 20, 21, 22, 23, 24, 25, 26, 27, 28, 29, 30, 31, 32, 33, 0, 1, 2, 3, 4, 5, 6, 7, 8, 9, 10, 11, 12, 13, 14] rfl rfl rfl rfl (by decide) rfl rfl (c_L_literal_x2 l hlt D cI cJ α o OUT gw gc gs ge gf cR cL cB pB SD RK RN RS RC RT LK LN LS LL US UB BB ((xs ((nI i) + (1 : Int32)).toNatClampNeg)) ((xs ((nI i) + (2 : Int32)).toNatClampNeg)) (0 : Int32) g0 g1) (vx_cwSW 5 hts gL_law_L_literal rfl rfl rfl (by decide +kernel) ⟨(Nat.le_of_ble_eq_true rfl), (Nat.le_of_ble_eq_true rfl)⟩) rfl hl.1 rfl (Nat.le_of_ble_eq_true rfl) dL_law_461 ⟨by show _ ≤ 601024; omega, by show _ ≤ 7292999; omega⟩ (fun H locs hP hD hS => ?_)
      refine lv_istore (lv' := [(5, .int (2 : Int32)), (0, .ref b), (1, .ref (α 0)), (2, .ref (β 0)), (3, .ref o), (4, .int (nI i))]) hx hb dL_law_464 hl (by decide) rfl (fun ls hl => ?_)
      refine lv_aload_n hx hb dL_law_466 rfl (lv_at hl 3 rfl) ?_
      refine lv_aload_n hx hb dL_law_467 rfl (lv_at hl 1 rfl) ?_
      refine lv_iload hx hb dL_law_468 (lv_at hl 5 rfl) ?_
      refine lv_iconst (v := (1 : Int32)) hx hb dL_law_470 (by decide) ?_
      refine lv_iadd hx hb dL_law_471 ?_
      refine va_sld hx hb hX hbl hbA hS hv1 dL_law_472 ?_
      refine lv_aload_n hx hb dL_law_473 rfl (lv_at hl 1 rfl) ?_
      refine lv_iload hx hb dL_law_474 (lv_at hl 5 rfl) ?_
      refine lv_iconst (v := (2 : Int32)) hx hb dL_law_476 (by decide) ?_
      refine lv_iadd hx hb dL_law_477 ?_
      refine va_sld hx hb hX hbl hbA hS hv2 dL_law_478 ?_
      refine lv_aload_n hx hb dL_law_479 rfl (lv_at hl 1 rfl) ?_
      refine lv_iload hx hb dL_law_480 (lv_at hl 5 rfl) ?_
      refine lv_iconst (v := (3 : Int32)) hx hb dL_law_482 (by decide) ?_
      refine lv_iadd hx hb dL_law_483 ?_
      refine va_sld hx hb hX hbl hbA hS hv3 dL_law_484 ?_
      refine lv_if_eq (tgt := 492) hx hb dL_law_485 (by decide) (fun c9 => ?_) (fun c9 => absurd hb3 c9)
      refine lv_iconst (v := (0 : Int32)) hx hb dL_law_492 (by decide) ?_
      refine kI_callVs (As := [.int ((xs ((nI i) + (1 : Int32)).toNatClampNeg)), .int ((xs ((nI i) + (2 : Int32)).toNatClampNeg)), .int (0 : Int32)]) (rest := []) (wr := (wC cI α gw gc gs ge gf cR cL cB pB SD RK RN RS RC RT LK LN LS LL US UB BB) ++ [(o, .inl (cJ, 1, .inr (.inl OUT)))]) (wn := wL cI cJ α β o OUT gw gc gs ge gf cR cL cB pB SD RK RN RS RC RT LK LN LS LL US UB BB t.2.1 mW mH mS mR mL mC mZ mA mB KK KN KS KC AN JK JN t.2.2.1 t.2.2.2 MY KP FI TX) S hP hD hS [19, 20, 21, 22, 23, 24, 25, 26, 27, 28, 29, 30, 31, 32] [0, 1, 2, 3, 4, 5, 6, 7, 8, 9, 10, 11, 12, 13, 14, 15, 16, 17, 18, 33] [0, 1, 2, 3, 4, 5, 6, 7, 8, 9, 10, 11, 12, 13, 14, 15, 16, 17, 18, 20, 21, 22, 23, 24, 25, 26, 27, 28, 29, 30, 31, 32, 33, 19] rfl rfl rfl rfl (by decide) rfl rfl (c_X6_literal l D cI β mT mW mH mS mR mL mC mZ mA mB KK KN KS KC AN JK JN JS JL MY KP FI TX FF ((xs ((nI i) + (1 : Int32)).toNatClampNeg)) ((xs ((nI i) + (2 : Int32)).toNatClampNeg)) (0 : Int32) t h6) (cwV 3 hts gL_law_X6_literal rfl rfl rfl (by decide +kernel) ⟨(Nat.le_of_ble_eq_true rfl), (Nat.le_of_ble_eq_true rfl)⟩) 0 rfl rfl rfl hl.1 rfl (Nat.le_of_ble_eq_true rfl) dL_law_493 ⟨by show _ ≤ 601024; omega, by show _ ≤ 7292999; omega⟩ (fun H locs hP hD hS => ?_)
      refine lv_istore (lv' := [(6, .int t.1), (5, .int (2 : Int32)), (0, .ref b), (1, .ref (α 0)), (2, .ref (β 0)), (3, .ref o), (4, .int (nI i))]) hx hb dL_law_496 hl (by decide) rfl (fun ls hl => ?_)
      refine lv_aload_n hx hb dL_law_498 rfl (lv_at hl 4 rfl) ?_
      refine kI_callVs (As := []) (rest := []) (wr := (wC cI α gw gc gs ge gf cR cL cB pB SD RK RN RS RC RT LK LN LS LL US UB BB) ++ [(o, .inl (cJ, 1, .inr (.inl OUT)))]) (wn := wL cI cJ α β o OUT gw gc gs ge gf cR cL cB pB SD RK RN RS RC RT LK LN LS LL US UB BB t.2.1 mW mH mS mR mL mC mZ mA mB KK KN KS KC AN JK JN t.2.2.1 t.2.2.2 MY KP FI TX) S hP hD hS [19, 20, 21, 22, 23, 24, 25, 26, 27, 28, 29, 30, 31, 32] [0, 1, 2, 3, 4, 5, 6, 7, 8, 9, 10, 11, 12, 13, 14, 15, 16, 17, 18, 33] [0, 1, 2, 3, 4, 5, 6, 7, 8, 9, 10, 11, 12, 13, 14, 15, 16, 17, 18, 20, 21, 22, 23, 24, 25, 26, 27, 28, 29, 30, 31, 32, 33, 19] rfl rfl rfl rfl (by decide) rfl rfl (c_X6_thrown l D cI β t.2.1 mW mH mS mR mL mC mZ mA mB KK KN KS KC AN JK JN t.2.2.1 t.2.2.2 MY KP FI TX t.2.1 rfl) (cwV 0 hts gL_law_X6_thrown rfl rfl rfl (by decide +kernel) ⟨(Nat.le_of_ble_eq_true rfl), (Nat.le_of_ble_eq_true rfl)⟩) 0 rfl rfl rfl hl.1 rfl (Nat.le_of_ble_eq_true rfl) dL_law_499 ⟨by show _ ≤ 601024; omega, by show _ ≤ 7292999; omega⟩ (fun H locs hP hD hS => ?_)
      refine lv_iload hx hb dL_law_502 (lv_at hl 1 rfl) ?_
      refine lv_icmp_eq (tgt := 509) hx hb dL_law_504 (by decide) (fun c9 => ?_) (fun c9 => absurd ht c9)
      refine lv_iload hx hb dL_law_509 (lv_at hl 1 rfl) ?_
      refine lv_if_ne (tgt := 533) hx hb dL_law_511 (by decide) (fun c9 => ?_) (fun c9 => absurd c9 (by decide))
      refine lv_goto (tgt := 737) hx hb dL_law_533 (by decide) ?_
      refine W.widen (k := 34 + (k + 1)) (n := 4936 + 6 * (k + 1)) (by omega) (by omega) ?_
      exact w737 OUT gw gc gs ge gf cR cL cB pB SD RK RN RS RC RT LK LN LS LL US UB BB t.2.1 mW mH mS mR mL mC mZ mA mB KK KN KS KC AN JK JN t.2.2.1 t.2.2.2 MY KP FI TX hsim H locs ls hP hD hS (lv_sub hl [2, 3, 4, 5, 6] rfl)
  · rcases P_literal gw gc gs ge gf cR cL cB pB SD RK RN RS RC RT LK LN LS LL US UB BB mT mW mH mS mR mL mC mZ mA mB KK KN KS KC AN JK JN JS JL MY KP FI TX hs (xs (nI i + (1 : Int32)).toNatClampNeg) (xs (nI i + (2 : Int32)).toNatClampNeg) (1 : Int32) (Or.inr rfl) with ⟨r, t, h5, h6, ht, heq, hsim⟩ | ⟨g0, t, h6, ht, hsim⟩ | ⟨g0, g1, t, h6, ht, hsim⟩
    · by_cases hz : t.1 = 0
      · refine lv_aload_n hx hb dL_law_433 rfl (lv_at hl 1 rfl) ?_
        refine lv_aload_n hx hb dL_law_434 rfl (lv_at hl 0 rfl) ?_
        refine lv_iload hx hb dL_law_435 (lv_at hl 4 rfl) ?_
        refine lv_iconst (v := (1 : Int32)) hx hb dL_law_437 (by decide) ?_
        refine lv_iadd hx hb dL_law_438 ?_
        refine va_sld hx hb hX hbl hbA hS hv1 dL_law_439 ?_
        refine lv_aload_n hx hb dL_law_440 rfl (lv_at hl 0 rfl) ?_
        refine lv_iload hx hb dL_law_441 (lv_at hl 4 rfl) ?_
        refine lv_iconst (v := (2 : Int32)) hx hb dL_law_443 (by decide) ?_
        refine lv_iadd hx hb dL_law_444 ?_
        refine va_sld hx hb hX hbl hbA hS hv2 dL_law_445 ?_
        refine lv_aload_n hx hb dL_law_446 rfl (lv_at hl 0 rfl) ?_
        refine lv_iload hx hb dL_law_447 (lv_at hl 4 rfl) ?_
        refine lv_iconst (v := (3 : Int32)) hx hb dL_law_449 (by decide) ?_
        refine lv_iadd hx hb dL_law_450 ?_
        refine va_sld hx hb hX hbl hbA hS hv3 dL_law_451 ?_
        refine lv_if_eq (tgt := 459) hx hb dL_law_452 (by decide) (fun c9 => absurd c9 hb3) (fun c9 => ?_)
        refine lv_iconst (v := (1 : Int32)) hx hb dL_law_455 (by decide) ?_
        refine lv_goto (tgt := 460) hx hb dL_law_456 (by decide) ?_
        refine lv_aload_n hx hb dL_law_460 rfl (lv_at hl 3 rfl) ?_
        refine kH_callSs (As := [.ref (α 0), .int ((xs ((nI i) + (1 : Int32)).toNatClampNeg)), .int ((xs ((nI i) + (2 : Int32)).toNatClampNeg)), .int (1 : Int32), .ref o]) (rest := []) (wr := wM cI β mT mW mH mS mR mL mC mZ mA mB KK KN KS KC AN JK JN JS JL MY KP FI TX) (wn := wL cI cJ α β o (vp_updL OUT 0 (lb r.1)) gw gc gs ge gf cR cL cB pB SD RK RN RS RC RT LK LN r.2.1 r.2.2 US UB BB mT mW mH mS mR mL mC mZ mA mB KK KN KS KC AN JK JN JS JL MY KP FI TX) S T hNc hK2 hP hD hS [33, 0, 1, 2, 3, 4, 5, 6, 7, 8, 9, 10, 11, 12, 13, 14, 15, 16, 17, 18] [19, 20, 21, 22, 23, 24, 25, 26, 27, 28, 29, 30, 31, 32] [15, 16, 17, 18, 19, 20, 21, 22, 23, 24, 25, 26, 27, 28, 29, 30, 31, 32, 33, 0, 1, 2, 3, 4, 5, 6, 7, 8, 9, 10, 11, 12, 13, 14] rfl rfl rfl rfl (by decide) rfl rfl (c_L_literal_n l hlt D cI cJ α o OUT gw gc gs ge gf cR cL cB pB SD RK RN RS RC RT LK LN LS LL US UB BB ((xs ((nI i) + (1 : Int32)).toNatClampNeg)) ((xs ((nI i) + (2 : Int32)).toNatClampNeg)) (1 : Int32) FF r h5) (vx_cwSW 5 hts gL_law_L_literal rfl rfl rfl (by decide +kernel) ⟨(Nat.le_of_ble_eq_true rfl), (Nat.le_of_ble_eq_true rfl)⟩) rfl hl.1 rfl (Nat.le_of_ble_eq_true rfl) dL_law_461 ⟨by show _ ≤ 601024; omega, by show _ ≤ 7292999; omega⟩ (fun H locs hP hD hS => ?_)
        refine lv_istore (lv' := [(5, .int (0 : Int32)), (0, .ref b), (1, .ref (α 0)), (2, .ref (β 0)), (3, .ref o), (4, .int (nI i))]) hx hb dL_law_464 hl (by decide) rfl (fun ls hl => ?_)
        refine lv_aload_n hx hb dL_law_466 rfl (lv_at hl 3 rfl) ?_
        refine lv_aload_n hx hb dL_law_467 rfl (lv_at hl 1 rfl) ?_
        refine lv_iload hx hb dL_law_468 (lv_at hl 5 rfl) ?_
        refine lv_iconst (v := (1 : Int32)) hx hb dL_law_470 (by decide) ?_
        refine lv_iadd hx hb dL_law_471 ?_
        refine va_sld hx hb hX hbl hbA hS hv1 dL_law_472 ?_
        refine lv_aload_n hx hb dL_law_473 rfl (lv_at hl 1 rfl) ?_
        refine lv_iload hx hb dL_law_474 (lv_at hl 5 rfl) ?_
        refine lv_iconst (v := (2 : Int32)) hx hb dL_law_476 (by decide) ?_
        refine lv_iadd hx hb dL_law_477 ?_
        refine va_sld hx hb hX hbl hbA hS hv2 dL_law_478 ?_
        refine lv_aload_n hx hb dL_law_479 rfl (lv_at hl 1 rfl) ?_
        refine lv_iload hx hb dL_law_480 (lv_at hl 5 rfl) ?_
        refine lv_iconst (v := (3 : Int32)) hx hb dL_law_482 (by decide) ?_
        refine lv_iadd hx hb dL_law_483 ?_
        refine va_sld hx hb hX hbl hbA hS hv3 dL_law_484 ?_
        refine lv_if_eq (tgt := 492) hx hb dL_law_485 (by decide) (fun c9 => absurd c9 hb3) (fun c9 => ?_)
        refine lv_iconst (v := (1 : Int32)) hx hb dL_law_488 (by decide) ?_
        refine lv_goto (tgt := 493) hx hb dL_law_489 (by decide) ?_
        refine kI_callVs (As := [.int ((xs ((nI i) + (1 : Int32)).toNatClampNeg)), .int ((xs ((nI i) + (2 : Int32)).toNatClampNeg)), .int (1 : Int32)]) (rest := []) (wr := (wC cI α gw gc gs ge gf cR cL cB pB SD RK RN RS RC RT LK LN r.2.1 r.2.2 US UB BB) ++ [(o, .inl (cJ, 1, .inr (.inl (vp_updL OUT 0 (lb r.1)))))]) (wn := wL cI cJ α β o (vp_updL OUT 0 (lb r.1)) gw gc gs ge gf cR cL cB pB SD RK RN RS RC RT LK LN r.2.1 r.2.2 US UB BB t.2.1 mW mH mS mR mL mC mZ mA mB KK KN KS KC AN JK JN t.2.2.1 t.2.2.2 MY KP FI TX) S hP hD hS [19, 20, 21, 22, 23, 24, 25, 26, 27, 28, 29, 30, 31, 32] [0, 1, 2, 3, 4, 5, 6, 7, 8, 9, 10, 11, 12, 13, 14, 15, 16, 17, 18, 33] [0, 1, 2, 3, 4, 5, 6, 7, 8, 9, 10, 11, 12, 13, 14, 15, 16, 17, 18, 20, 21, 22, 23, 24, 25, 26, 27, 28, 29, 30, 31, 32, 33, 19] rfl rfl rfl rfl (by decide) rfl rfl (c_X6_literal l D cI β mT mW mH mS mR mL mC mZ mA mB KK KN KS KC AN JK JN JS JL MY KP FI TX FF ((xs ((nI i) + (1 : Int32)).toNatClampNeg)) ((xs ((nI i) + (2 : Int32)).toNatClampNeg)) (1 : Int32) t h6) (cwV 3 hts gL_law_X6_literal rfl rfl rfl (by decide +kernel) ⟨(Nat.le_of_ble_eq_true rfl), (Nat.le_of_ble_eq_true rfl)⟩) 0 rfl rfl rfl hl.1 rfl (Nat.le_of_ble_eq_true rfl) dL_law_493 ⟨by show _ ≤ 601024; omega, by show _ ≤ 7292999; omega⟩ (fun H locs hP hD hS => ?_)
        refine lv_istore (lv' := [(6, .int t.1), (5, .int (0 : Int32)), (0, .ref b), (1, .ref (α 0)), (2, .ref (β 0)), (3, .ref o), (4, .int (nI i))]) hx hb dL_law_496 hl (by decide) rfl (fun ls hl => ?_)
        refine lv_aload_n hx hb dL_law_498 rfl (lv_at hl 4 rfl) ?_
        refine kI_callVs (As := []) (rest := []) (wr := (wC cI α gw gc gs ge gf cR cL cB pB SD RK RN RS RC RT LK LN r.2.1 r.2.2 US UB BB) ++ [(o, .inl (cJ, 1, .inr (.inl (vp_updL OUT 0 (lb r.1)))))]) (wn := wL cI cJ α β o (vp_updL OUT 0 (lb r.1)) gw gc gs ge gf cR cL cB pB SD RK RN RS RC RT LK LN r.2.1 r.2.2 US UB BB t.2.1 mW mH mS mR mL mC mZ mA mB KK KN KS KC AN JK JN t.2.2.1 t.2.2.2 MY KP FI TX) S hP hD hS [19, 20, 21, 22, 23, 24, 25, 26, 27, 28, 29, 30, 31, 32] [0, 1, 2, 3, 4, 5, 6, 7, 8, 9, 10, 11, 12, 13, 14, 15, 16, 17, 18, 33] [0, 1, 2, 3, 4, 5, 6, 7, 8, 9, 10, 11, 12, 13, 14, 15, 16, 17, 18, 20, 21, 22, 23, 24, 25, 26, 27, 28, 29, 30, 31, 32, 33, 19] rfl rfl rfl rfl (by decide) rfl rfl (c_X6_thrown l D cI β t.2.1 mW mH mS mR mL mC mZ mA mB KK KN KS KC AN JK JN t.2.2.1 t.2.2.2 MY KP FI TX t.2.1 rfl) (cwV 0 hts gL_law_X6_thrown rfl rfl rfl (by decide +kernel) ⟨(Nat.le_of_ble_eq_true rfl), (Nat.le_of_ble_eq_true rfl)⟩) 0 rfl rfl rfl hl.1 rfl (Nat.le_of_ble_eq_true rfl) dL_law_499 ⟨by show _ ≤ 601024; omega, by show _ ≤ 7292999; omega⟩ (fun H locs hP hD hS => ?_)
        refine lv_iload hx hb dL_law_502 (lv_at hl 1 rfl) ?_
        refine lv_icmp_eq (tgt := 509) hx hb dL_law_504 (by decide) (fun c9 => ?_) (fun c9 => absurd ht c9)
        refine lv_iload hx hb dL_law_509 (lv_at hl 1 rfl) ?_
        refine lv_if_ne (tgt := 533) hx hb dL_law_511 (by decide) (fun c9 => absurd rfl c9) (fun c9 => ?_)
        refine lv_aload_n hx hb dL_law_514 rfl (lv_at hl 5 rfl) ?_
        refine lv_iconst (v := (0 : Int32)) hx hb dL_law_515 (by decide) ?_
        refine va_lald hx hb hK2 hP 33 1 rfl rfl vp01 dL_law_516 ?_
        refine lv_iload hx hb dL_law_517 (lv_at hl 0 rfl) ?_
        refine lv_if_eq (tgt := 526) hx hb dL_law_519 (by decide) (fun c9 => ?_) (fun c9 => absurd hz c9)
        refine lv_lconst (v := (0 : Int64)) hx hb dL_law_526 rfl ?_
        refine W.lcmp hx hb dL_law_527 ?_
        refine lv_if_eq (tgt := 533) hx hb dL_law_528 (by decide) (fun c9 => ?_) (fun c9 => absurd (lw_c0 heq hz) c9)
        refine lv_goto (tgt := 737) hx hb dL_law_533 (by decide) ?_
        refine W.widen (k := 34 + (k + 1)) (n := 4936 + 6 * (k + 1)) (by omega) (by omega) ?_
        exact w737 (vp_updL OUT 0 (lb r.1)) gw gc gs ge gf cR cL cB pB SD RK RN RS RC RT LK LN r.2.1 r.2.2 US UB BB t.2.1 mW mH mS mR mL mC mZ mA mB KK KN KS KC AN JK JN t.2.2.1 t.2.2.2 MY KP FI TX hsim H locs ls hP hD hS (lv_sub hl [2, 3, 4, 5, 6] rfl)
      · refine lv_aload_n hx hb dL_law_433 rfl (lv_at hl 1 rfl) ?_
        refine lv_aload_n hx hb dL_law_434 rfl (lv_at hl 0 rfl) ?_
        refine lv_iload hx hb dL_law_435 (lv_at hl 4 rfl) ?_
        refine lv_iconst (v := (1 : Int32)) hx hb dL_law_437 (by decide) ?_
        refine lv_iadd hx hb dL_law_438 ?_
        refine va_sld hx hb hX hbl hbA hS hv1 dL_law_439 ?_
        refine lv_aload_n hx hb dL_law_440 rfl (lv_at hl 0 rfl) ?_
        refine lv_iload hx hb dL_law_441 (lv_at hl 4 rfl) ?_
        refine lv_iconst (v := (2 : Int32)) hx hb dL_law_443 (by decide) ?_
        refine lv_iadd hx hb dL_law_444 ?_
        refine va_sld hx hb hX hbl hbA hS hv2 dL_law_445 ?_
        refine lv_aload_n hx hb dL_law_446 rfl (lv_at hl 0 rfl) ?_
        refine lv_iload hx hb dL_law_447 (lv_at hl 4 rfl) ?_
        refine lv_iconst (v := (3 : Int32)) hx hb dL_law_449 (by decide) ?_
        refine lv_iadd hx hb dL_law_450 ?_
        refine va_sld hx hb hX hbl hbA hS hv3 dL_law_451 ?_
        refine lv_if_eq (tgt := 459) hx hb dL_law_452 (by decide) (fun c9 => absurd c9 hb3) (fun c9 => ?_)
        refine lv_iconst (v := (1 : Int32)) hx hb dL_law_455 (by decide) ?_
        refine lv_goto (tgt := 460) hx hb dL_law_456 (by decide) ?_
        refine lv_aload_n hx hb dL_law_460 rfl (lv_at hl 3 rfl) ?_
        refine kH_callSs (As := [.ref (α 0), .int ((xs ((nI i) + (1 : Int32)).toNatClampNeg)), .int ((xs ((nI i) + (2 : Int32)).toNatClampNeg)), .int (1 : Int32), .ref o]) (rest := []) (wr := wM cI β mT mW mH mS mR mL mC mZ mA mB KK KN KS KC AN JK JN JS JL MY KP FI TX) (wn := wL cI cJ α β o (vp_updL OUT 0 (lb r.1)) gw gc gs ge gf cR cL cB pB SD RK RN RS RC RT LK LN r.2.1 r.2.2 US UB BB mT mW mH mS mR mL mC mZ mA mB KK KN KS KC AN JK JN JS JL MY KP FI TX) S T hNc hK2 hP hD hS [33, 0, 1, 2, 3, 4, 5, 6, 7, 8, 9, 10, 11, 12, 13, 14, 15, 16, 17, 18] [19, 20, 21, 22, 23, 24, 25, 26, 27, 28, 29, 30, 31, 32] [15, 16, 17, 18, 19, 20, 21, 22, 23, 24, 25, 26, 27, 28, 29, 30, 31, 32, 33, 0, 1, 2, 3, 4, 5, 6, 7, 8, 9, 10, 11, 12, 13, 14] rfl rfl rfl rfl (by decide) rfl rfl (c_L_literal_n l hlt D cI cJ α o OUT gw gc gs ge gf cR cL cB pB SD RK RN RS RC RT LK LN LS LL US UB BB ((xs ((nI i) + (1 : Int32)).toNatClampNeg)) ((xs ((nI i) + (2 : Int32)).toNatClampNeg)) (1 : Int32) FF r h5) (vx_cwSW 5 hts gL_law_L_literal rfl rfl rfl (by decide +kernel) ⟨(Nat.le_of_ble_eq_true rfl), (Nat.le_of_ble_eq_true rfl)⟩) rfl hl.1 rfl (Nat.le_of_ble_eq_true rfl) dL_law_461 ⟨by show _ ≤ 601024; omega, by show _ ≤ 7292999; omega⟩ (fun H locs hP hD hS => ?_)
        refine lv_istore (lv' := [(5, .int (0 : Int32)), (0, .ref b), (1, .ref (α 0)), (2, .ref (β 0)), (3, .ref o), (4, .int (nI i))]) hx hb dL_law_464 hl (by decide) rfl (fun ls hl => ?_)
        refine lv_aload_n hx hb dL_law_466 rfl (lv_at hl 3 rfl) ?_
        refine lv_aload_n hx hb dL_law_467 rfl (lv_at hl 1 rfl) ?_
        refine lv_iload hx hb dL_law_468 (lv_at hl 5 rfl) ?_
        refine lv_iconst (v := (1 : Int32)) hx hb dL_law_470 (by decide) ?_
        refine lv_iadd hx hb dL_law_471 ?_
        refine va_sld hx hb hX hbl hbA hS hv1 dL_law_472 ?_
        refine lv_aload_n hx hb dL_law_473 rfl (lv_at hl 1 rfl) ?_
        refine lv_iload hx hb dL_law_474 (lv_at hl 5 rfl) ?_
        refine lv_iconst (v := (2 : Int32)) hx hb dL_law_476 (by decide) ?_
        refine lv_iadd hx hb dL_law_477 ?_
        refine va_sld hx hb hX hbl hbA hS hv2 dL_law_478 ?_
        refine lv_aload_n hx hb dL_law_479 rfl (lv_at hl 1 rfl) ?_
        refine lv_iload hx hb dL_law_480 (lv_at hl 5 rfl) ?_
        refine lv_iconst (v := (3 : Int32)) hx hb dL_law_482 (by decide) ?_
        refine lv_iadd hx hb dL_law_483 ?_
        refine va_sld hx hb hX hbl hbA hS hv3 dL_law_484 ?_
        refine lv_if_eq (tgt := 492) hx hb dL_law_485 (by decide) (fun c9 => absurd c9 hb3) (fun c9 => ?_)
        refine lv_iconst (v := (1 : Int32)) hx hb dL_law_488 (by decide) ?_
        refine lv_goto (tgt := 493) hx hb dL_law_489 (by decide) ?_
        refine kI_callVs (As := [.int ((xs ((nI i) + (1 : Int32)).toNatClampNeg)), .int ((xs ((nI i) + (2 : Int32)).toNatClampNeg)), .int (1 : Int32)]) (rest := []) (wr := (wC cI α gw gc gs ge gf cR cL cB pB SD RK RN RS RC RT LK LN r.2.1 r.2.2 US UB BB) ++ [(o, .inl (cJ, 1, .inr (.inl (vp_updL OUT 0 (lb r.1)))))]) (wn := wL cI cJ α β o (vp_updL OUT 0 (lb r.1)) gw gc gs ge gf cR cL cB pB SD RK RN RS RC RT LK LN r.2.1 r.2.2 US UB BB t.2.1 mW mH mS mR mL mC mZ mA mB KK KN KS KC AN JK JN t.2.2.1 t.2.2.2 MY KP FI TX) S hP hD hS [19, 20, 21, 22, 23, 24, 25, 26, 27, 28, 29, 30, 31, 32] [0, 1, 2, 3, 4, 5, 6, 7, 8, 9, 10, 11, 12, 13, 14, 15, 16, 17, 18, 33] [0, 1, 2, 3, 4, 5, 6, 7, 8, 9, 10, 11, 12, 13, 14, 15, 16, 17, 18, 20, 21, 22, 23, 24, 25, 26, 27, 28, 29, 30, 31, 32, 33, 19] rfl rfl rfl rfl (by decide) rfl rfl (c_X6_literal l D cI β mT mW mH mS mR mL mC mZ mA mB KK KN KS KC AN JK JN JS JL MY KP FI TX FF ((xs ((nI i) + (1 : Int32)).toNatClampNeg)) ((xs ((nI i) + (2 : Int32)).toNatClampNeg)) (1 : Int32) t h6) (cwV 3 hts gL_law_X6_literal rfl rfl rfl (by decide +kernel) ⟨(Nat.le_of_ble_eq_true rfl), (Nat.le_of_ble_eq_true rfl)⟩) 0 rfl rfl rfl hl.1 rfl (Nat.le_of_ble_eq_true rfl) dL_law_493 ⟨by show _ ≤ 601024; omega, by show _ ≤ 7292999; omega⟩ (fun H locs hP hD hS => ?_)
        refine lv_istore (lv' := [(6, .int t.1), (5, .int (0 : Int32)), (0, .ref b), (1, .ref (α 0)), (2, .ref (β 0)), (3, .ref o), (4, .int (nI i))]) hx hb dL_law_496 hl (by decide) rfl (fun ls hl => ?_)
        refine lv_aload_n hx hb dL_law_498 rfl (lv_at hl 4 rfl) ?_
        refine kI_callVs (As := []) (rest := []) (wr := (wC cI α gw gc gs ge gf cR cL cB pB SD RK RN RS RC RT LK LN r.2.1 r.2.2 US UB BB) ++ [(o, .inl (cJ, 1, .inr (.inl (vp_updL OUT 0 (lb r.1)))))]) (wn := wL cI cJ α β o (vp_updL OUT 0 (lb r.1)) gw gc gs ge gf cR cL cB pB SD RK RN RS RC RT LK LN r.2.1 r.2.2 US UB BB t.2.1 mW mH mS mR mL mC mZ mA mB KK KN KS KC AN JK JN t.2.2.1 t.2.2.2 MY KP FI TX) S hP hD hS [19, 20, 21, 22, 23, 24, 25, 26, 27, 28, 29, 30, 31, 32] [0, 1, 2, 3, 4, 5, 6, 7, 8, 9, 10, 11, 12, 13, 14, 15, 16, 17, 18, 33] [0, 1, 2, 3, 4, 5, 6, 7, 8, 9, 10, 11, 12, 13, 14, 15, 16, 17, 18, 20, 21, 22, 23, 24, 25, 26, 27, 28, 29, 30, 31, 32, 33, 19] rfl rfl rfl rfl (by decide) rfl rfl (c_X6_thrown l D cI β t.2.1 mW mH mS mR mL mC mZ mA mB KK KN KS KC AN JK JN t.2.2.1 t.2.2.2 MY KP FI TX t.2.1 rfl) (cwV 0 hts gL_law_X6_thrown rfl rfl rfl (by decide +kernel) ⟨(Nat.le_of_ble_eq_true rfl), (Nat.le_of_ble_eq_true rfl)⟩) 0 rfl rfl rfl hl.1 rfl (Nat.le_of_ble_eq_true rfl) dL_law_499 ⟨by show _ ≤ 601024; omega, by show _ ≤ 7292999; omega⟩ (fun H locs hP hD hS => ?_)
        refine lv_iload hx hb dL_law_502 (lv_at hl 1 rfl) ?_
        refine lv_icmp_eq (tgt := 509) hx hb dL_law_504 (by decide) (fun c9 => ?_) (fun c9 => absurd ht c9)
        refine lv_iload hx hb dL_law_509 (lv_at hl 1 rfl) ?_
        refine lv_if_ne (tgt := 533) hx hb dL_law_511 (by decide) (fun c9 => absurd rfl c9) (fun c9 => ?_)
        refine lv_aload_n hx hb dL_law_514 rfl (lv_at hl 5 rfl) ?_
        refine lv_iconst (v := (0 : Int32)) hx hb dL_law_515 (by decide) ?_
        refine va_lald hx hb hK2 hP 33 1 rfl rfl vp01 dL_law_516 ?_
        refine lv_iload hx hb dL_law_517 (lv_at hl 0 rfl) ?_
        refine lv_if_eq (tgt := 526) hx hb dL_law_519 (by decide) (fun c9 => absurd c9 hz) (fun c9 => ?_)
        refine lv_lconst (v := (1 : Int64)) hx hb dL_law_522 rfl ?_
        refine lv_goto (tgt := 527) hx hb dL_law_523 (by decide) ?_
        refine W.lcmp hx hb dL_law_527 ?_
        refine lv_if_eq (tgt := 533) hx hb dL_law_528 (by decide) (fun c9 => ?_) (fun c9 => absurd (lw_c1 heq hz) c9)
        refine lv_goto (tgt := 737) hx hb dL_law_533 (by decide) ?_
        refine W.widen (k := 34 + (k + 1)) (n := 4936 + 6 * (k + 1)) (by omega) (by omega) ?_
        exact w737 (vp_updL OUT 0 (lb r.1)) gw gc gs ge gf cR cL cB pB SD RK RN RS RC RT LK LN r.2.1 r.2.2 US UB BB t.2.1 mW mH mS mR mL mC mZ mA mB KK KN KS KC AN JK JN t.2.2.1 t.2.2.2 MY KP FI TX hsim H locs ls hP hD hS (lv_sub hl [2, 3, 4, 5, 6] rfl)
    · refine lv_aload_n hx hb dL_law_433 rfl (lv_at hl 1 rfl) ?_
      refine lv_aload_n hx hb dL_law_434 rfl (lv_at hl 0 rfl) ?_
      refine lv_iload hx hb dL_law_435 (lv_at hl 4 rfl) ?_
      refine lv_iconst (v := (1 : Int32)) hx hb dL_law_437 (by decide) ?_
      refine lv_iadd hx hb dL_law_438 ?_
      refine va_sld hx hb hX hbl hbA hS hv1 dL_law_439 ?_
      refine lv_aload_n hx hb dL_law_440 rfl (lv_at hl 0 rfl) ?_
      refine lv_iload hx hb dL_law_441 (lv_at hl 4 rfl) ?_
      refine lv_iconst (v := (2 : Int32)) hx hb dL_law_443 (by decide) ?_
      refine lv_iadd hx hb dL_law_444 ?_
      refine va_sld hx hb hX hbl hbA hS hv2 dL_law_445 ?_
      refine lv_aload_n hx hb dL_law_446 rfl (lv_at hl 0 rfl) ?_
      refine lv_iload hx hb dL_law_447 (lv_at hl 4 rfl) ?_
      refine lv_iconst (v := (3 : Int32)) hx hb dL_law_449 (by decide) ?_
      refine lv_iadd hx hb dL_law_450 ?_
      refine va_sld hx hb hX hbl hbA hS hv3 dL_law_451 ?_
      refine lv_if_eq (tgt := 459) hx hb dL_law_452 (by decide) (fun c9 => absurd c9 hb3) (fun c9 => ?_)
      refine lv_iconst (v := (1 : Int32)) hx hb dL_law_455 (by decide) ?_
      refine lv_goto (tgt := 460) hx hb dL_law_456 (by decide) ?_
      refine lv_aload_n hx hb dL_law_460 rfl (lv_at hl 3 rfl) ?_
      refine kH_callSs (As := [.ref (α 0), .int ((xs ((nI i) + (1 : Int32)).toNatClampNeg)), .int ((xs ((nI i) + (2 : Int32)).toNatClampNeg)), .int (1 : Int32), .ref o]) (rest := []) (wr := wM cI β mT mW mH mS mR mL mC mZ mA mB KK KN KS KC AN JK JN JS JL MY KP FI TX) (wn := wL cI cJ α β o OUT gw gc gs ge gf cR cL cB pB SD RK RN RS RC RT LK LN LS LL US UB BB mT mW mH mS mR mL mC mZ mA mB KK KN KS KC AN JK JN JS JL MY KP FI TX) S T hNc hK2 hP hD hS [33, 0, 1, 2, 3, 4, 5, 6, 7, 8, 9, 10, 11, 12, 13, 14, 15, 16, 17, 18] [19, 20, 21, 22, 23, 24, 25, 26, 27, 28, 29, 30, 31, 32] [15, 16, 17, 18, 19, 20, 21, 22, 23, 24, 25, 26, 27, 28, 29, 30, 31, 32, 33, 0, 1, 2, 3, 4, 5, 6, 7, 8, 9, 10, 11, 12, 13, 14] rfl rfl rfl rfl (by decide) rfl rfl (c_L_literal_x1 l hlt D cI cJ α o OUT gw gc gs ge gf cR cL cB pB SD RK RN RS RC RT LK LN LS LL US UB BB ((xs ((nI i) + (1 : Int32)).toNatClampNeg)) ((xs ((nI i) + (2 : Int32)).toNatClampNeg)) (1 : Int32) g0) (vx_cwSW 5 hts gL_law_L_literal rfl rfl rfl (by decide +kernel) ⟨(Nat.le_of_ble_eq_true rfl), (Nat.le_of_ble_eq_true rfl)⟩) rfl hl.1 rfl (Nat.le_of_ble_eq_true rfl) dL_law_461 ⟨by show _ ≤ 601024; omega, by show _ ≤ 7292999; omega⟩ (fun H locs hP hD hS => ?_)
      refine lv_istore (lv' := [(5, .int (1 : Int32)), (0, .ref b), (1, .ref (α 0)), (2, .ref (β 0)), (3, .ref o), (4, .int (nI i))]) hx hb dL_law_464 hl (by decide) rfl (fun ls hl => ?_)
      refine lv_aload_n hx hb dL_law_466 rfl (lv_at hl 3 rfl) ?_
      refine lv_aload_n hx hb dL_law_467 rfl (lv_at hl 1 rfl) ?_
      refine lv_iload hx hb dL_law_468 (lv_at hl 5 rfl) ?_
      refine lv_iconst (v := (1 : Int32)) hx hb dL_law_470 (by decide) ?_
      refine lv_iadd hx hb dL_law_471 ?_
      refine va_sld hx hb hX hbl hbA hS hv1 dL_law_472 ?_
      refine lv_aload_n hx hb dL_law_473 rfl (lv_at hl 1 rfl) ?_
      refine lv_iload hx hb dL_law_474 (lv_at hl 5 rfl) ?_
      refine lv_iconst (v := (2 : Int32)) hx hb dL_law_476 (by decide) ?_
      refine lv_iadd hx hb dL_law_477 ?_
      refine va_sld hx hb hX hbl hbA hS hv2 dL_law_478 ?_
      refine lv_aload_n hx hb dL_law_479 rfl (lv_at hl 1 rfl) ?_
      refine lv_iload hx hb dL_law_480 (lv_at hl 5 rfl) ?_
      refine lv_iconst (v := (3 : Int32)) hx hb dL_law_482 (by decide) ?_
      refine lv_iadd hx hb dL_law_483 ?_
      refine va_sld hx hb hX hbl hbA hS hv3 dL_law_484 ?_
      refine lv_if_eq (tgt := 492) hx hb dL_law_485 (by decide) (fun c9 => absurd c9 hb3) (fun c9 => ?_)
      refine lv_iconst (v := (1 : Int32)) hx hb dL_law_488 (by decide) ?_
      refine lv_goto (tgt := 493) hx hb dL_law_489 (by decide) ?_
      refine kI_callVs (As := [.int ((xs ((nI i) + (1 : Int32)).toNatClampNeg)), .int ((xs ((nI i) + (2 : Int32)).toNatClampNeg)), .int (1 : Int32)]) (rest := []) (wr := (wC cI α gw gc gs ge gf cR cL cB pB SD RK RN RS RC RT LK LN LS LL US UB BB) ++ [(o, .inl (cJ, 1, .inr (.inl OUT)))]) (wn := wL cI cJ α β o OUT gw gc gs ge gf cR cL cB pB SD RK RN RS RC RT LK LN LS LL US UB BB t.2.1 mW mH mS mR mL mC mZ mA mB KK KN KS KC AN JK JN t.2.2.1 t.2.2.2 MY KP FI TX) S hP hD hS [19, 20, 21, 22, 23, 24, 25, 26, 27, 28, 29, 30, 31, 32] [0, 1, 2, 3, 4, 5, 6, 7, 8, 9, 10, 11, 12, 13, 14, 15, 16, 17, 18, 33] [0, 1, 2, 3, 4, 5, 6, 7, 8, 9, 10, 11, 12, 13, 14, 15, 16, 17, 18, 20, 21, 22, 23, 24, 25, 26, 27, 28, 29, 30, 31, 32, 33, 19] rfl rfl rfl rfl (by decide) rfl rfl (c_X6_literal l D cI β mT mW mH mS mR mL mC mZ mA mB KK KN KS KC AN JK JN JS JL MY KP FI TX FF ((xs ((nI i) + (1 : Int32)).toNatClampNeg)) ((xs ((nI i) + (2 : Int32)).toNatClampNeg)) (1 : Int32) t h6) (cwV 3 hts gL_law_X6_literal rfl rfl rfl (by decide +kernel) ⟨(Nat.le_of_ble_eq_true rfl), (Nat.le_of_ble_eq_true rfl)⟩) 0 rfl rfl rfl hl.1 rfl (Nat.le_of_ble_eq_true rfl) dL_law_493 ⟨by show _ ≤ 601024; omega, by show _ ≤ 7292999; omega⟩ (fun H locs hP hD hS => ?_)
      refine lv_istore (lv' := [(6, .int t.1), (5, .int (1 : Int32)), (0, .ref b), (1, .ref (α 0)), (2, .ref (β 0)), (3, .ref o), (4, .int (nI i))]) hx hb dL_law_496 hl (by decide) rfl (fun ls hl => ?_)
      refine lv_aload_n hx hb dL_law_498 rfl (lv_at hl 4 rfl) ?_
      refine kI_callVs (As := []) (rest := []) (wr := (wC cI α gw gc gs ge gf cR cL cB pB SD RK RN RS RC RT LK LN LS LL US UB BB) ++ [(o, .inl (cJ, 1, .inr (.inl OUT)))]) (wn := wL cI cJ α β o OUT gw gc gs ge gf cR cL cB pB SD RK RN RS RC RT LK LN LS LL US UB BB t.2.1 mW mH mS mR mL mC mZ mA mB KK KN KS KC AN JK JN t.2.2.1 t.2.2.2 MY KP FI TX) S hP hD hS [19, 20, 21, 22, 23, 24, 25, 26, 27, 28, 29, 30, 31, 32] [0, 1, 2, 3, 4, 5, 6, 7, 8, 9, 10, 11, 12, 13, 14, 15, 16, 17, 18, 33] [0, 1, 2, 3, 4, 5, 6, 7, 8, 9, 10, 11, 12, 13, 14, 15, 16, 17, 18, 20, 21, 22, 23, 24, 25, 26, 27, 28, 29, 30, 31, 32, 33, 19] rfl rfl rfl rfl (by decide) rfl rfl (c_X6_thrown l D cI β t.2.1 mW mH mS mR mL mC mZ mA mB KK KN KS KC AN JK JN t.2.2.1 t.2.2.2 MY KP FI TX t.2.1 rfl) (cwV 0 hts gL_law_X6_thrown rfl rfl rfl (by decide +kernel) ⟨(Nat.le_of_ble_eq_true rfl), (Nat.le_of_ble_eq_true rfl)⟩) 0 rfl rfl rfl hl.1 rfl (Nat.le_of_ble_eq_true rfl) dL_law_499 ⟨by show _ ≤ 601024; omega, by show _ ≤ 7292999; omega⟩ (fun H locs hP hD hS => ?_)
      refine lv_iload hx hb dL_law_502 (lv_at hl 1 rfl) ?_
      refine lv_icmp_eq (tgt := 509) hx hb dL_law_504 (by decide) (fun c9 => ?_) (fun c9 => absurd ht c9)
      refine lv_iload hx hb dL_law_509 (lv_at hl 1 rfl) ?_
      refine lv_if_ne (tgt := 533) hx hb dL_law_511 (by decide) (fun c9 => ?_) (fun c9 => absurd c9 (by decide))
      refine lv_goto (tgt := 737) hx hb dL_law_533 (by decide) ?_
      refine W.widen (k := 34 + (k + 1)) (n := 4936 + 6 * (k + 1)) (by omega) (by omega) ?_
      exact w737 OUT gw gc gs ge gf cR cL cB pB SD RK RN RS RC RT LK LN LS LL US UB BB t.2.1 mW mH mS mR mL mC mZ mA mB KK KN KS KC AN JK JN t.2.2.1 t.2.2.2 MY KP FI TX hsim H locs ls hP hD hS (lv_sub hl [2, 3, 4, 5, 6] rfl)
    · refine lv_aload_n hx hb dL_law_433 rfl (lv_at hl 1 rfl) ?_
      refine lv_aload_n hx hb dL_law_434 rfl (lv_at hl 0 rfl) ?_
      refine lv_iload hx hb dL_law_435 (lv_at hl 4 rfl) ?_
      refine lv_iconst (v := (1 : Int32)) hx hb dL_law_437 (by decide) ?_
      refine lv_iadd hx hb dL_law_438 ?_
      refine va_sld hx hb hX hbl hbA hS hv1 dL_law_439 ?_
      refine lv_aload_n hx hb dL_law_440 rfl (lv_at hl 0 rfl) ?_
      refine lv_iload hx hb dL_law_441 (lv_at hl 4 rfl) ?_
      refine lv_iconst (v := (2 : Int32)) hx hb dL_law_443 (by decide) ?_
      refine lv_iadd hx hb dL_law_444 ?_
      refine va_sld hx hb hX hbl hbA hS hv2 dL_law_445 ?_
      refine lv_aload_n hx hb dL_law_446 rfl (lv_at hl 0 rfl) ?_
      refine lv_iload hx hb dL_law_447 (lv_at hl 4 rfl) ?_
      refine lv_iconst (v := (3 : Int32)) hx hb dL_law_449 (by decide) ?_
      refine lv_iadd hx hb dL_law_450 ?_
      refine va_sld hx hb hX hbl hbA hS hv3 dL_law_451 ?_
      refine lv_if_eq (tgt := 459) hx hb dL_law_452 (by decide) (fun c9 => absurd c9 hb3) (fun c9 => ?_)
      refine lv_iconst (v := (1 : Int32)) hx hb dL_law_455 (by decide) ?_
      refine lv_goto (tgt := 460) hx hb dL_law_456 (by decide) ?_
      refine lv_aload_n hx hb dL_law_460 rfl (lv_at hl 3 rfl) ?_
      refine kH_callSs (As := [.ref (α 0), .int ((xs ((nI i) + (1 : Int32)).toNatClampNeg)), .int ((xs ((nI i) + (2 : Int32)).toNatClampNeg)), .int (1 : Int32), .ref o]) (rest := []) (wr := wM cI β mT mW mH mS mR mL mC mZ mA mB KK KN KS KC AN JK JN JS JL MY KP FI TX) (wn := wL cI cJ α β o OUT gw gc gs ge gf cR cL cB pB SD RK RN RS RC RT LK LN LS LL US UB BB mT mW mH mS mR mL mC mZ mA mB KK KN KS KC AN JK JN JS JL MY KP FI TX) S T hNc hK2 hP hD hS [33, 0, 1, 2, 3, 4, 5, 6, 7, 8, 9, 10, 11, 12, 13, 14, 15, 16, 17, 18] [19, 20, 21, 22, 23, 24, 25, 26, 27, 28, 29, 30, 31, 32] [15, 16, 17, 18, 19, 20, 21, 22, 23, 24, 25, 26, 27, 28, 29, 30, 31, 32, 33, 0, 1, 2, 3, 4, 5, 6, 7, 8, 9, 10, 11, 12, 13, 14] rfl rfl rfl rfl (by decide) rfl rfl (c_L_literal_x2 l hlt D cI cJ α o OUT gw gc gs ge gf cR cL cB pB SD RK RN RS RC RT LK LN LS LL US UB BB ((xs ((nI i) + (1 : Int32)).toNatClampNeg)) ((xs ((nI i) + (2 : Int32)).toNatClampNeg)) (1 : Int32) g0 g1) (vx_cwSW 5 hts gL_law_L_literal rfl rfl rfl (by decide +kernel) ⟨(Nat.le_of_ble_eq_true rfl), (Nat.le_of_ble_eq_true rfl)⟩) rfl hl.1 rfl (Nat.le_of_ble_eq_true rfl) dL_law_461 ⟨by show _ ≤ 601024; omega, by show _ ≤ 7292999; omega⟩ (fun H locs hP hD hS => ?_)
      refine lv_istore (lv' := [(5, .int (2 : Int32)), (0, .ref b), (1, .ref (α 0)), (2, .ref (β 0)), (3, .ref o), (4, .int (nI i))]) hx hb dL_law_464 hl (by decide) rfl (fun ls hl => ?_)
      refine lv_aload_n hx hb dL_law_466 rfl (lv_at hl 3 rfl) ?_
      refine lv_aload_n hx hb dL_law_467 rfl (lv_at hl 1 rfl) ?_
      refine lv_iload hx hb dL_law_468 (lv_at hl 5 rfl) ?_
      refine lv_iconst (v := (1 : Int32)) hx hb dL_law_470 (by decide) ?_
      refine lv_iadd hx hb dL_law_471 ?_
      refine va_sld hx hb hX hbl hbA hS hv1 dL_law_472 ?_
      refine lv_aload_n hx hb dL_law_473 rfl (lv_at hl 1 rfl) ?_
      refine lv_iload hx hb dL_law_474 (lv_at hl 5 rfl) ?_
      refine lv_iconst (v := (2 : Int32)) hx hb dL_law_476 (by decide) ?_
      refine lv_iadd hx hb dL_law_477 ?_
      refine va_sld hx hb hX hbl hbA hS hv2 dL_law_478 ?_
      refine lv_aload_n hx hb dL_law_479 rfl (lv_at hl 1 rfl) ?_
      refine lv_iload hx hb dL_law_480 (lv_at hl 5 rfl) ?_
      refine lv_iconst (v := (3 : Int32)) hx hb dL_law_482 (by decide) ?_
      refine lv_iadd hx hb dL_law_483 ?_
      refine va_sld hx hb hX hbl hbA hS hv3 dL_law_484 ?_
      refine lv_if_eq (tgt := 492) hx hb dL_law_485 (by decide) (fun c9 => absurd c9 hb3) (fun c9 => ?_)
      refine lv_iconst (v := (1 : Int32)) hx hb dL_law_488 (by decide) ?_
      refine lv_goto (tgt := 493) hx hb dL_law_489 (by decide) ?_
      refine kI_callVs (As := [.int ((xs ((nI i) + (1 : Int32)).toNatClampNeg)), .int ((xs ((nI i) + (2 : Int32)).toNatClampNeg)), .int (1 : Int32)]) (rest := []) (wr := (wC cI α gw gc gs ge gf cR cL cB pB SD RK RN RS RC RT LK LN LS LL US UB BB) ++ [(o, .inl (cJ, 1, .inr (.inl OUT)))]) (wn := wL cI cJ α β o OUT gw gc gs ge gf cR cL cB pB SD RK RN RS RC RT LK LN LS LL US UB BB t.2.1 mW mH mS mR mL mC mZ mA mB KK KN KS KC AN JK JN t.2.2.1 t.2.2.2 MY KP FI TX) S hP hD hS [19, 20, 21, 22, 23, 24, 25, 26, 27, 28, 29, 30, 31, 32] [0, 1, 2, 3, 4, 5, 6, 7, 8, 9, 10, 11, 12, 13, 14, 15, 16, 17, 18, 33] [0, 1, 2, 3, 4, 5, 6, 7, 8, 9, 10, 11, 12, 13, 14, 15, 16, 17, 18, 20, 21, 22, 23, 24, 25, 26, 27, 28, 29, 30, 31, 32, 33, 19] rfl rfl rfl rfl (by decide) rfl rfl (c_X6_literal l D cI β mT mW mH mS mR mL mC mZ mA mB KK KN KS KC AN JK JN JS JL MY KP FI TX FF ((xs ((nI i) + (1 : Int32)).toNatClampNeg)) ((xs ((nI i) + (2 : Int32)).toNatClampNeg)) (1 : Int32) t h6) (cwV 3 hts gL_law_X6_literal rfl rfl rfl (by decide +kernel) ⟨(Nat.le_of_ble_eq_true rfl), (Nat.le_of_ble_eq_true rfl)⟩) 0 rfl rfl rfl hl.1 rfl (Nat.le_of_ble_eq_true rfl) dL_law_493 ⟨by show _ ≤ 601024; omega, by show _ ≤ 7292999; omega⟩ (fun H locs hP hD hS => ?_)
      refine lv_istore (lv' := [(6, .int t.1), (5, .int (2 : Int32)), (0, .ref b), (1, .ref (α 0)), (2, .ref (β 0)), (3, .ref o), (4, .int (nI i))]) hx hb dL_law_496 hl (by decide) rfl (fun ls hl => ?_)
      refine lv_aload_n hx hb dL_law_498 rfl (lv_at hl 4 rfl) ?_
      refine kI_callVs (As := []) (rest := []) (wr := (wC cI α gw gc gs ge gf cR cL cB pB SD RK RN RS RC RT LK LN LS LL US UB BB) ++ [(o, .inl (cJ, 1, .inr (.inl OUT)))]) (wn := wL cI cJ α β o OUT gw gc gs ge gf cR cL cB pB SD RK RN RS RC RT LK LN LS LL US UB BB t.2.1 mW mH mS mR mL mC mZ mA mB KK KN KS KC AN JK JN t.2.2.1 t.2.2.2 MY KP FI TX) S hP hD hS [19, 20, 21, 22, 23, 24, 25, 26, 27, 28, 29, 30, 31, 32] [0, 1, 2, 3, 4, 5, 6, 7, 8, 9, 10, 11, 12, 13, 14, 15, 16, 17, 18, 33] [0, 1, 2, 3, 4, 5, 6, 7, 8, 9, 10, 11, 12, 13, 14, 15, 16, 17, 18, 20, 21, 22, 23, 24, 25, 26, 27, 28, 29, 30, 31, 32, 33, 19] rfl rfl rfl rfl (by decide) rfl rfl (c_X6_thrown l D cI β t.2.1 mW mH mS mR mL mC mZ mA mB KK KN KS KC AN JK JN t.2.2.1 t.2.2.2 MY KP FI TX t.2.1 rfl) (cwV 0 hts gL_law_X6_thrown rfl rfl rfl (by decide +kernel) ⟨(Nat.le_of_ble_eq_true rfl), (Nat.le_of_ble_eq_true rfl)⟩) 0 rfl rfl rfl hl.1 rfl (Nat.le_of_ble_eq_true rfl) dL_law_499 ⟨by show _ ≤ 601024; omega, by show _ ≤ 7292999; omega⟩ (fun H locs hP hD hS => ?_)
      refine lv_iload hx hb dL_law_502 (lv_at hl 1 rfl) ?_
      refine lv_icmp_eq (tgt := 509) hx hb dL_law_504 (by decide) (fun c9 => ?_) (fun c9 => absurd ht c9)
      refine lv_iload hx hb dL_law_509 (lv_at hl 1 rfl) ?_
      refine lv_if_ne (tgt := 533) hx hb dL_law_511 (by decide) (fun c9 => ?_) (fun c9 => absurd c9 (by decide))
      refine lv_goto (tgt := 737) hx hb dL_law_533 (by decide) ?_
      refine W.widen (k := 34 + (k + 1)) (n := 4936 + 6 * (k + 1)) (by omega) (by omega) ?_
      exact w737 OUT gw gc gs ge gf cR cL cB pB SD RK RN RS RC RT LK LN LS LL US UB BB t.2.1 mW mH mS mR mL mC mZ mA mB KK KN KS KC AN JK JN t.2.2.1 t.2.2.2 MY KP FI TX hsim H locs ls hP hD hS (lv_sub hl [2, 3, 4, 5, 6] rfl)
set_option maxHeartbeats 8000000 in
set_option maxRecDepth 100000 in
theorem lc_drop {p : Program} {l : Launch} {e : Env} {s : State} {m : MethodId} {below : List Frame} {meth : Method} {c : Code} {D : va_G} {cI cJ : ClassId} {α β : Nat → Nat} {o : Nat} {A : Nat → Prop} {b L : Nat} {xs : Nat → Int32} (hL : L ≤ 2051) (hlt : l.stackTraces = false) (S : kC p s m #[Value.ref b] meth c cL_law 7 wsL_law RL ret D cI A) (T : kT l s A) (hNc : lk s) (hK2 : va_K D vwCl [(cI, .int), (cJ, .long)] s) (hX : va_X b L xs s s.heap) (hbl : b < s.heap.size) (hbA : ¬ A b) (hA9 : ∀ q, A q → s.heap.size ≤ q) (k i : Nat) (hk : k ≤ 512) (hv0 : vp_in (nI i) L) (hv1 : vp_in (nI i + (1 : Int32)) L) (hv2 : vp_in (nI i + (2 : Int32)) L) (hv3 : vp_in (nI i + (3 : Int32)) L)
    (w737 : ∀ (OUT : Nat → Int64) (gw gc gs ge gf cR cL cB pB : Int32) (SD RK RN RS RC RT LK LN LS LL US UB BB : Nat → Int32) (mT mW mH mS mR mL mC mZ mA mB : Int32) (KK KN KS KC AN JK JN JS JL MY KP FI TX : Nat → Int32) (hs : Sim gw gc gs ge gf cR cL cB pB SD RK RN RS RC RT LK LN LS LL US UB BB mT mW mH mS mR mL mC mZ mA mB KK KN KS KC AN JK JN JS JL MY KP FI TX) (H : Heap) (locs : List Loc) (ls : Array Slot), va_P D vwCl (wL cI cJ α β o OUT gw gc gs ge gf cR cL cB pB SD RK RN RS RC RT LK LN LS LL US UB BB mT mW mH mS mR mL mC mZ mA mB KK KN KS KC AN JK JN JS JL MY KP FI TX) H → va_D A (wL cI cJ α β o OUT gw gc gs ge gf cR cL cB pB SD RK RN RS RC RT LK LN LS LL US UB BB mT mW mH mS mR mL mC mZ mA mB KK KN KS KC AN JK JN JS JL MY KP FI TX) → va_S A s.heap H locs → lv_has ls 7 [(0, .ref b), (1, .ref (α 0)), (2, .ref (β 0)), (3, .ref o), (4, .int (nI i))] → W p l e room_1 s m #[Value.ref b] below meth c H locs (34 + (k + 1)) (4936 + 6 * (k + 1)) (lw_Z below #[Value.ref b] s) (F0 m 737 ls [])) :
    ∀ (OUT : Nat → Int64) (gw gc gs ge gf cR cL cB pB : Int32) (SD RK RN RS RC RT LK LN LS LL US UB BB : Nat → Int32) (mT mW mH mS mR mL mC mZ mA mB : Int32) (KK KN KS KC AN JK JN JS JL MY KP FI TX : Nat → Int32) (hs : Sim gw gc gs ge gf cR cL cB pB SD RK RN RS RC RT LK LN LS LL US UB BB mT mW mH mS mR mL mC mZ mA mB KK KN KS KC AN JK JN JS JL MY KP FI TX) (H : Heap) (locs : List Loc) (ls : Array Slot), va_P D vwCl (wL cI cJ α β o OUT gw gc gs ge gf cR cL cB pB SD RK RN RS RC RT LK LN LS LL US UB BB mT mW mH mS mR mL mC mZ mA mB KK KN KS KC AN JK JN JS JL MY KP FI TX) H → va_D A (wL cI cJ α β o OUT gw gc gs ge gf cR cL cB pB SD RK RN RS RC RT LK LN LS LL US UB BB mT mW mH mS mR mL mC mZ mA mB KK KN KS KC AN JK JN JS JL MY KP FI TX) → va_S A s.heap H locs → lv_has ls 7 [(0, .ref b), (1, .ref (α 0)), (2, .ref (β 0)), (3, .ref o), (4, .int (nI i))] → W p l e room_1 s m #[Value.ref b] below meth c H locs (34 + k) (4936 + 6 * k) (lw_Z below #[Value.ref b] s) (F0 m 536 ls []) := by
  have hx := S.1.1
  have hb := S.1.2.1
  have hts := S.1.2.2.2.2
  intro OUT gw gc gs ge gf cR cL cB pB SD RK RN RS RC RT LK LN LS LL US UB BB mT mW mH mS mR mL mC mZ mA mB KK KN KS KC AN JK JN JS JL MY KP FI TX hs H locs ls hP hD hS hl
  obtain ⟨r, t, h5, h6, heq, hsim⟩ := P_drop gw gc gs ge gf cR cL cB pB SD RK RN RS RC RT LK LN LS LL US UB BB mT mW mH mS mR mL mC mZ mA mB KK KN KS KC AN JK JN JS JL MY KP FI TX hs 
  refine lv_aload_n hx hb dL_law_536 rfl (lv_at hl 1 rfl) ?_
  refine kI_callVs (As := []) (rest := []) (wr := (wM cI β mT mW mH mS mR mL mC mZ mA mB KK KN KS KC AN JK JN JS JL MY KP FI TX) ++ [(o, .inl (cJ, 1, .inr (.inl OUT)))]) (wn := wL cI cJ α β o OUT gw gc gs ge gf cR r.2 cB pB SD RK RN RS RC RT LK LN LS LL US UB BB mT mW mH mS mR mL mC mZ mA mB KK KN KS KC AN JK JN JS JL MY KP FI TX) S hP hD hS [0, 1, 2, 3, 4, 5, 6, 7, 8, 9, 10, 11, 12, 13, 14, 15, 16, 17, 18] [19, 20, 21, 22, 23, 24, 25, 26, 27, 28, 29, 30, 31, 32, 33] [15, 16, 17, 18, 19, 20, 21, 22, 23, 24, 25, 26, 27, 28, 29, 30, 31, 32, 33, 0, 1, 2, 3, 4, 5, 6, 7, 8, 9, 10, 11, 12, 13, 14] rfl rfl rfl rfl (by decide) rfl rfl (c_X5_drop l D cI α gw gc gs ge gf cR cL cB pB SD RK RN RS RC RT LK LN LS LL US UB BB r h5) (cwV 0 hts gL_law_X5_drop rfl rfl rfl (by decide +kernel) ⟨(Nat.le_of_ble_eq_true rfl), (Nat.le_of_ble_eq_true rfl)⟩) 0 rfl rfl rfl hl.1 rfl (Nat.le_of_ble_eq_true rfl) dL_law_537 ⟨by show _ ≤ 601024; omega, by show _ ≤ 7292999; omega⟩ (fun H locs hP hD hS => ?_)
  refine lv_aload_n hx hb dL_law_540 rfl (lv_at hl 2 rfl) ?_
  refine kI_callVs (As := []) (rest := [.int r.1]) (wr := (wC cI α gw gc gs ge gf cR r.2 cB pB SD RK RN RS RC RT LK LN LS LL US UB BB) ++ [(o, .inl (cJ, 1, .inr (.inl OUT)))]) (wn := wL cI cJ α β o OUT gw gc gs ge gf cR r.2 cB pB SD RK RN RS RC RT LK LN LS LL US UB BB t.2.1 mW mH mS mR t.2.2 mC mZ mA mB KK KN KS KC AN JK JN JS JL MY KP FI TX) S hP hD hS [19, 20, 21, 22, 23, 24, 25, 26, 27, 28, 29, 30, 31, 32] [0, 1, 2, 3, 4, 5, 6, 7, 8, 9, 10, 11, 12, 13, 14, 15, 16, 17, 18, 33] [0, 1, 2, 3, 4, 5, 6, 7, 8, 9, 10, 11, 12, 13, 14, 15, 16, 17, 18, 20, 21, 22, 23, 24, 25, 26, 27, 28, 29, 30, 31, 32, 33, 19] rfl rfl rfl rfl (by decide) rfl rfl (c_X6_drop l D cI β mT mW mH mS mR mL mC mZ mA mB KK KN KS KC AN JK JN JS JL MY KP FI TX t h6) (cwV 0 hts gL_law_X6_drop rfl rfl rfl (by decide +kernel) ⟨(Nat.le_of_ble_eq_true rfl), (Nat.le_of_ble_eq_true rfl)⟩) 0 rfl rfl rfl hl.1 rfl (Nat.le_of_ble_eq_true rfl) dL_law_541 ⟨by show _ ≤ 601024; omega, by show _ ≤ 7292999; omega⟩ (fun H locs hP hD hS => ?_)
  refine lv_icmp_eq (tgt := 737) hx hb dL_law_544 (by decide) (fun c9 => ?_) (fun c9 => absurd heq c9)
  refine W.widen (k := 34 + (k + 1)) (n := 4936 + 6 * (k + 1)) (by omega) (by omega) ?_
  exact w737 OUT gw gc gs ge gf cR r.2 cB pB SD RK RN RS RC RT LK LN LS LL US UB BB t.2.1 mW mH mS mR t.2.2 mC mZ mA mB KK KN KS KC AN JK JN JS JL MY KP FI TX hsim H locs ls hP hD hS (lv_sub hl [0, 1, 2, 3, 4] rfl)
set_option maxHeartbeats 8000000 in
set_option maxRecDepth 100000 in
theorem lc_check {p : Program} {l : Launch} {e : Env} {s : State} {m : MethodId} {below : List Frame} {meth : Method} {c : Code} {D : va_G} {cI cJ : ClassId} {α β : Nat → Nat} {o : Nat} {A : Nat → Prop} {b L : Nat} {xs : Nat → Int32} (hL : L ≤ 2051) (hlt : l.stackTraces = false) (S : kC p s m #[Value.ref b] meth c cL_law 7 wsL_law RL ret D cI A) (T : kT l s A) (hNc : lk s) (hK2 : va_K D vwCl [(cI, .int), (cJ, .long)] s) (hX : va_X b L xs s s.heap) (hbl : b < s.heap.size) (hbA : ¬ A b) (hA9 : ∀ q, A q → s.heap.size ≤ q) (k i : Nat) (hk : k ≤ 512) (hv0 : vp_in (nI i) L) (hv1 : vp_in (nI i + (1 : Int32)) L) (hv2 : vp_in (nI i + (2 : Int32)) L) (hv3 : vp_in (nI i + (3 : Int32)) L)
    (w737 : ∀ (OUT : Nat → Int64) (gw gc gs ge gf cR cL cB pB : Int32) (SD RK RN RS RC RT LK LN LS LL US UB BB : Nat → Int32) (mT mW mH mS mR mL mC mZ mA mB : Int32) (KK KN KS KC AN JK JN JS JL MY KP FI TX : Nat → Int32) (hs : Sim gw gc gs ge gf cR cL cB pB SD RK RN RS RC RT LK LN LS LL US UB BB mT mW mH mS mR mL mC mZ mA mB KK KN KS KC AN JK JN JS JL MY KP FI TX) (H : Heap) (locs : List Loc) (ls : Array Slot), va_P D vwCl (wL cI cJ α β o OUT gw gc gs ge gf cR cL cB pB SD RK RN RS RC RT LK LN LS LL US UB BB mT mW mH mS mR mL mC mZ mA mB KK KN KS KC AN JK JN JS JL MY KP FI TX) H → va_D A (wL cI cJ α β o OUT gw gc gs ge gf cR cL cB pB SD RK RN RS RC RT LK LN LS LL US UB BB mT mW mH mS mR mL mC mZ mA mB KK KN KS KC AN JK JN JS JL MY KP FI TX) → va_S A s.heap H locs → lv_has ls 7 [(0, .ref b), (1, .ref (α 0)), (2, .ref (β 0)), (3, .ref o), (4, .int (nI i))] → W p l e room_1 s m #[Value.ref b] below meth c H locs (34 + (k + 1)) (4936 + 6 * (k + 1)) (lw_Z below #[Value.ref b] s) (F0 m 737 ls [])) :
    ∀ (OUT : Nat → Int64) (gw gc gs ge gf cR cL cB pB : Int32) (SD RK RN RS RC RT LK LN LS LL US UB BB : Nat → Int32) (mT mW mH mS mR mL mC mZ mA mB : Int32) (KK KN KS KC AN JK JN JS JL MY KP FI TX : Nat → Int32) (hs : Sim gw gc gs ge gf cR cL cB pB SD RK RN RS RC RT LK LN LS LL US UB BB mT mW mH mS mR mL mC mZ mA mB KK KN KS KC AN JK JN JS JL MY KP FI TX) (H : Heap) (locs : List Loc) (ls : Array Slot), va_P D vwCl (wL cI cJ α β o OUT gw gc gs ge gf cR cL cB pB SD RK RN RS RC RT LK LN LS LL US UB BB mT mW mH mS mR mL mC mZ mA mB KK KN KS KC AN JK JN JS JL MY KP FI TX) H → va_D A (wL cI cJ α β o OUT gw gc gs ge gf cR cL cB pB SD RK RN RS RC RT LK LN LS LL US UB BB mT mW mH mS mR mL mC mZ mA mB KK KN KS KC AN JK JN JS JL MY KP FI TX) → va_S A s.heap H locs → lv_has ls 7 [(0, .ref b), (1, .ref (α 0)), (2, .ref (β 0)), (3, .ref o), (4, .int (nI i))] → W p l e room_1 s m #[Value.ref b] below meth c H locs (34 + k) (4936 + 6 * k) (lw_Z below #[Value.ref b] s) (F0 m 549 ls []) := by
  have hx := S.1.1
  have hb := S.1.2.1
  have hts := S.1.2.2.2.2
  intro OUT gw gc gs ge gf cR cL cB pB SD RK RN RS RC RT LK LN LS LL US UB BB mT mW mH mS mR mL mC mZ mA mB KK KN KS KC AN JK JN JS JL MY KP FI TX hs H locs ls hP hD hS hl
  obtain ⟨r, t, h5, h6, heq, hsim⟩ := P_check gw gc gs ge gf cR cL cB pB SD RK RN RS RC RT LK LN LS LL US UB BB mT mW mH mS mR mL mC mZ mA mB KK KN KS KC AN JK JN JS JL MY KP FI TX hs 
  refine lv_aload_n hx hb dL_law_549 rfl (lv_at hl 1 rfl) ?_
  refine kI_callVs (As := []) (rest := []) (wr := (wM cI β mT mW mH mS mR mL mC mZ mA mB KK KN KS KC AN JK JN JS JL MY KP FI TX) ++ [(o, .inl (cJ, 1, .inr (.inl OUT)))]) (wn := wL cI cJ α β o OUT gw gc gs ge gf cR cL cB pB SD RK RN RS RC r.2.1 LK LN LS LL r.2.2.1 r.2.2.2 BB mT mW mH mS mR mL mC mZ mA mB KK KN KS KC AN JK JN JS JL MY KP FI TX) S hP hD hS [0, 1, 2, 3, 4, 5, 6, 7, 8, 9, 10, 11, 12, 13, 14, 15, 16, 17, 18] [19, 20, 21, 22, 23, 24, 25, 26, 27, 28, 29, 30, 31, 32, 33] [15, 16, 17, 18, 19, 20, 21, 22, 23, 24, 25, 26, 27, 28, 29, 30, 31, 32, 33, 0, 1, 2, 3, 4, 5, 6, 7, 8, 9, 10, 11, 12, 13, 14] rfl rfl rfl rfl (by decide) rfl rfl (c_X5_check l D cI α gw gc gs ge gf cR cL cB pB SD RK RN RS RC RT LK LN LS LL US UB BB FF r h5) (cwV 0 hts gL_law_X5_check rfl rfl rfl (by decide +kernel) ⟨(Nat.le_of_ble_eq_true rfl), (Nat.le_of_ble_eq_true rfl)⟩) 0 rfl rfl rfl hl.1 rfl (Nat.le_of_ble_eq_true rfl) dL_law_550 ⟨by show _ ≤ 601024; omega, by show _ ≤ 7292999; omega⟩ (fun H locs hP hD hS => ?_)
  refine lv_aload_n hx hb dL_law_553 rfl (lv_at hl 2 rfl) ?_
  refine kI_callVs (As := []) (rest := [.int r.1]) (wr := (wC cI α gw gc gs ge gf cR cL cB pB SD RK RN RS RC r.2.1 LK LN LS LL r.2.2.1 r.2.2.2 BB) ++ [(o, .inl (cJ, 1, .inr (.inl OUT)))]) (wn := wL cI cJ α β o OUT gw gc gs ge gf cR cL cB pB SD RK RN RS RC r.2.1 LK LN LS LL r.2.2.1 r.2.2.2 BB t.2.1 mW mH mS mR mL t.2.2.1 mZ mA mB KK KN KS KC AN JK JN JS JL t.2.2.2.1 t.2.2.2.2.1 t.2.2.2.2.2 TX) S hP hD hS [19, 20, 21, 22, 23, 24, 25, 26, 27, 28, 29, 30, 31, 32] [0, 1, 2, 3, 4, 5, 6, 7, 8, 9, 10, 11, 12, 13, 14, 15, 16, 17, 18, 33] [0, 1, 2, 3, 4, 5, 6, 7, 8, 9, 10, 11, 12, 13, 14, 15, 16, 17, 18, 20, 21, 22, 23, 24, 25, 26, 27, 28, 29, 30, 31, 32, 33, 19] rfl rfl rfl rfl (by decide) rfl rfl (c_X6_check l D cI β mT mW mH mS mR mL mC mZ mA mB KK KN KS KC AN JK JN JS JL MY KP FI TX FF t h6) (cwV 0 hts gL_law_X6_check rfl rfl rfl (by decide +kernel) ⟨(Nat.le_of_ble_eq_true rfl), (Nat.le_of_ble_eq_true rfl)⟩) 0 rfl rfl rfl hl.1 rfl (Nat.le_of_ble_eq_true rfl) dL_law_554 ⟨by show _ ≤ 601024; omega, by show _ ≤ 7292999; omega⟩ (fun H locs hP hD hS => ?_)
  refine lv_icmp_eq (tgt := 737) hx hb dL_law_557 (by decide) (fun c9 => ?_) (fun c9 => absurd heq c9)
  refine W.widen (k := 34 + (k + 1)) (n := 4936 + 6 * (k + 1)) (by omega) (by omega) ?_
  exact w737 OUT gw gc gs ge gf cR cL cB pB SD RK RN RS RC r.2.1 LK LN LS LL r.2.2.1 r.2.2.2 BB t.2.1 mW mH mS mR mL t.2.2.1 mZ mA mB KK KN KS KC AN JK JN JS JL t.2.2.2.1 t.2.2.2.2.1 t.2.2.2.2.2 TX hsim H locs ls hP hD hS (lv_sub hl [0, 1, 2, 3, 4] rfl)
set_option maxHeartbeats 8000000 in
set_option maxRecDepth 100000 in
theorem lc_proves {p : Program} {l : Launch} {e : Env} {s : State} {m : MethodId} {below : List Frame} {meth : Method} {c : Code} {D : va_G} {cI cJ : ClassId} {α β : Nat → Nat} {o : Nat} {A : Nat → Prop} {b L : Nat} {xs : Nat → Int32} (hL : L ≤ 2051) (hlt : l.stackTraces = false) (S : kC p s m #[Value.ref b] meth c cL_law 7 wsL_law RL ret D cI A) (T : kT l s A) (hNc : lk s) (hK2 : va_K D vwCl [(cI, .int), (cJ, .long)] s) (hX : va_X b L xs s s.heap) (hbl : b < s.heap.size) (hbA : ¬ A b) (hA9 : ∀ q, A q → s.heap.size ≤ q) (k i : Nat) (hk : k ≤ 512) (hv0 : vp_in (nI i) L) (hv1 : vp_in (nI i + (1 : Int32)) L) (hv2 : vp_in (nI i + (2 : Int32)) L) (hv3 : vp_in (nI i + (3 : Int32)) L)
    (w737 : ∀ (OUT : Nat → Int64) (gw gc gs ge gf cR cL cB pB : Int32) (SD RK RN RS RC RT LK LN LS LL US UB BB : Nat → Int32) (mT mW mH mS mR mL mC mZ mA mB : Int32) (KK KN KS KC AN JK JN JS JL MY KP FI TX : Nat → Int32) (hs : Sim gw gc gs ge gf cR cL cB pB SD RK RN RS RC RT LK LN LS LL US UB BB mT mW mH mS mR mL mC mZ mA mB KK KN KS KC AN JK JN JS JL MY KP FI TX) (H : Heap) (locs : List Loc) (ls : Array Slot), va_P D vwCl (wL cI cJ α β o OUT gw gc gs ge gf cR cL cB pB SD RK RN RS RC RT LK LN LS LL US UB BB mT mW mH mS mR mL mC mZ mA mB KK KN KS KC AN JK JN JS JL MY KP FI TX) H → va_D A (wL cI cJ α β o OUT gw gc gs ge gf cR cL cB pB SD RK RN RS RC RT LK LN LS LL US UB BB mT mW mH mS mR mL mC mZ mA mB KK KN KS KC AN JK JN JS JL MY KP FI TX) → va_S A s.heap H locs → lv_has ls 7 [(0, .ref b), (1, .ref (α 0)), (2, .ref (β 0)), (3, .ref o), (4, .int (nI i))] → W p l e room_1 s m #[Value.ref b] below meth c H locs (34 + (k + 1)) (4936 + 6 * (k + 1)) (lw_Z below #[Value.ref b] s) (F0 m 737 ls [])) :
    ∀ (OUT : Nat → Int64) (gw gc gs ge gf cR cL cB pB : Int32) (SD RK RN RS RC RT LK LN LS LL US UB BB : Nat → Int32) (mT mW mH mS mR mL mC mZ mA mB : Int32) (KK KN KS KC AN JK JN JS JL MY KP FI TX : Nat → Int32) (hs : Sim gw gc gs ge gf cR cL cB pB SD RK RN RS RC RT LK LN LS LL US UB BB mT mW mH mS mR mL mC mZ mA mB KK KN KS KC AN JK JN JS JL MY KP FI TX) (H : Heap) (locs : List Loc) (ls : Array Slot), va_P D vwCl (wL cI cJ α β o OUT gw gc gs ge gf cR cL cB pB SD RK RN RS RC RT LK LN LS LL US UB BB mT mW mH mS mR mL mC mZ mA mB KK KN KS KC AN JK JN JS JL MY KP FI TX) H → va_D A (wL cI cJ α β o OUT gw gc gs ge gf cR cL cB pB SD RK RN RS RC RT LK LN LS LL US UB BB mT mW mH mS mR mL mC mZ mA mB KK KN KS KC AN JK JN JS JL MY KP FI TX) → va_S A s.heap H locs → lv_has ls 7 [(0, .ref b), (1, .ref (α 0)), (2, .ref (β 0)), (3, .ref o), (4, .int (nI i))] → W p l e room_1 s m #[Value.ref b] below meth c H locs (34 + k) (4936 + 6 * k) (lw_Z below #[Value.ref b] s) (F0 m 562 ls []) := by
  have hx := S.1.1
  have hb := S.1.2.1
  have hts := S.1.2.2.2.2
  intro OUT gw gc gs ge gf cR cL cB pB SD RK RN RS RC RT LK LN LS LL US UB BB mT mW mH mS mR mL mC mZ mA mB KK KN KS KC AN JK JN JS JL MY KP FI TX hs H locs ls hP hD hS hl
  obtain ⟨r, t, h5, h6, heq, hsim⟩ := P_proves gw gc gs ge gf cR cL cB pB SD RK RN RS RC RT LK LN LS LL US UB BB mT mW mH mS mR mL mC mZ mA mB KK KN KS KC AN JK JN JS JL MY KP FI TX hs 
  refine lv_aload_n hx hb dL_law_562 rfl (lv_at hl 1 rfl) ?_
  refine kI_callVs (As := []) (rest := []) (wr := (wM cI β mT mW mH mS mR mL mC mZ mA mB KK KN KS KC AN JK JN JS JL MY KP FI TX) ++ [(o, .inl (cJ, 1, .inr (.inl OUT)))]) (wn := wL cI cJ α β o OUT gw gc gs ge gf cR cL cB pB SD RK RN RS RC r.2.1 LK LN LS LL r.2.2.1 r.2.2.2 BB mT mW mH mS mR mL mC mZ mA mB KK KN KS KC AN JK JN JS JL MY KP FI TX) S hP hD hS [0, 1, 2, 3, 4, 5, 6, 7, 8, 9, 10, 11, 12, 13, 14, 15, 16, 17, 18] [19, 20, 21, 22, 23, 24, 25, 26, 27, 28, 29, 30, 31, 32, 33] [15, 16, 17, 18, 19, 20, 21, 22, 23, 24, 25, 26, 27, 28, 29, 30, 31, 32, 33, 0, 1, 2, 3, 4, 5, 6, 7, 8, 9, 10, 11, 12, 13, 14] rfl rfl rfl rfl (by decide) rfl rfl (c_X5_proves l D cI α gw gc gs ge gf cR cL cB pB SD RK RN RS RC RT LK LN LS LL US UB BB FF r h5) (cwV 0 hts gL_law_X5_proves rfl rfl rfl (by decide +kernel) ⟨(Nat.le_of_ble_eq_true rfl), (Nat.le_of_ble_eq_true rfl)⟩) 0 rfl rfl rfl hl.1 rfl (Nat.le_of_ble_eq_true rfl) dL_law_563 ⟨by show _ ≤ 601024; omega, by show _ ≤ 7292999; omega⟩ (fun H locs hP hD hS => ?_)
  refine lv_aload_n hx hb dL_law_566 rfl (lv_at hl 2 rfl) ?_
  refine kI_callVs (As := []) (rest := [.int r.1]) (wr := (wC cI α gw gc gs ge gf cR cL cB pB SD RK RN RS RC r.2.1 LK LN LS LL r.2.2.1 r.2.2.2 BB) ++ [(o, .inl (cJ, 1, .inr (.inl OUT)))]) (wn := wL cI cJ α β o OUT gw gc gs ge gf cR cL cB pB SD RK RN RS RC r.2.1 LK LN LS LL r.2.2.1 r.2.2.2 BB t.2.1 mW mH mS mR mL t.2.2.1 mZ mA mB KK KN KS KC AN JK JN JS JL t.2.2.2.1 t.2.2.2.2.1 t.2.2.2.2.2 TX) S hP hD hS [19, 20, 21, 22, 23, 24, 25, 26, 27, 28, 29, 30, 31, 32] [0, 1, 2, 3, 4, 5, 6, 7, 8, 9, 10, 11, 12, 13, 14, 15, 16, 17, 18, 33] [0, 1, 2, 3, 4, 5, 6, 7, 8, 9, 10, 11, 12, 13, 14, 15, 16, 17, 18, 20, 21, 22, 23, 24, 25, 26, 27, 28, 29, 30, 31, 32, 33, 19] rfl rfl rfl rfl (by decide) rfl rfl (c_X6_proves l D cI β mT mW mH mS mR mL mC mZ mA mB KK KN KS KC AN JK JN JS JL MY KP FI TX FF t h6) (cwV 0 hts gL_law_X6_proves rfl rfl rfl (by decide +kernel) ⟨(Nat.le_of_ble_eq_true rfl), (Nat.le_of_ble_eq_true rfl)⟩) 0 rfl rfl rfl hl.1 rfl (Nat.le_of_ble_eq_true rfl) dL_law_567 ⟨by show _ ≤ 601024; omega, by show _ ≤ 7292999; omega⟩ (fun H locs hP hD hS => ?_)
  refine lv_icmp_eq (tgt := 737) hx hb dL_law_570 (by decide) (fun c9 => ?_) (fun c9 => absurd heq c9)
  refine W.widen (k := 34 + (k + 1)) (n := 4936 + 6 * (k + 1)) (by omega) (by omega) ?_
  exact w737 OUT gw gc gs ge gf cR cL cB pB SD RK RN RS RC r.2.1 LK LN LS LL r.2.2.1 r.2.2.2 BB t.2.1 mW mH mS mR mL t.2.2.1 mZ mA mB KK KN KS KC AN JK JN JS JL t.2.2.2.1 t.2.2.2.2.1 t.2.2.2.2.2 TX hsim H locs ls hP hD hS (lv_sub hl [0, 1, 2, 3, 4] rfl)
set_option maxHeartbeats 8000000 in
set_option maxRecDepth 100000 in
theorem lc_tell {p : Program} {l : Launch} {e : Env} {s : State} {m : MethodId} {below : List Frame} {meth : Method} {c : Code} {D : va_G} {cI cJ : ClassId} {α β : Nat → Nat} {o : Nat} {A : Nat → Prop} {b L : Nat} {xs : Nat → Int32} (hL : L ≤ 2051) (hlt : l.stackTraces = false) (S : kC p s m #[Value.ref b] meth c cL_law 7 wsL_law RL ret D cI A) (T : kT l s A) (hNc : lk s) (hK2 : va_K D vwCl [(cI, .int), (cJ, .long)] s) (hX : va_X b L xs s s.heap) (hbl : b < s.heap.size) (hbA : ¬ A b) (hA9 : ∀ q, A q → s.heap.size ≤ q) (k i : Nat) (hk : k ≤ 512) (hv0 : vp_in (nI i) L) (hv1 : vp_in (nI i + (1 : Int32)) L) (hv2 : vp_in (nI i + (2 : Int32)) L) (hv3 : vp_in (nI i + (3 : Int32)) L)
    (w737 : ∀ (OUT : Nat → Int64) (gw gc gs ge gf cR cL cB pB : Int32) (SD RK RN RS RC RT LK LN LS LL US UB BB : Nat → Int32) (mT mW mH mS mR mL mC mZ mA mB : Int32) (KK KN KS KC AN JK JN JS JL MY KP FI TX : Nat → Int32) (hs : Sim gw gc gs ge gf cR cL cB pB SD RK RN RS RC RT LK LN LS LL US UB BB mT mW mH mS mR mL mC mZ mA mB KK KN KS KC AN JK JN JS JL MY KP FI TX) (H : Heap) (locs : List Loc) (ls : Array Slot), va_P D vwCl (wL cI cJ α β o OUT gw gc gs ge gf cR cL cB pB SD RK RN RS RC RT LK LN LS LL US UB BB mT mW mH mS mR mL mC mZ mA mB KK KN KS KC AN JK JN JS JL MY KP FI TX) H → va_D A (wL cI cJ α β o OUT gw gc gs ge gf cR cL cB pB SD RK RN RS RC RT LK LN LS LL US UB BB mT mW mH mS mR mL mC mZ mA mB KK KN KS KC AN JK JN JS JL MY KP FI TX) → va_S A s.heap H locs → lv_has ls 7 [(0, .ref b), (1, .ref (α 0)), (2, .ref (β 0)), (3, .ref o), (4, .int (nI i))] → W p l e room_1 s m #[Value.ref b] below meth c H locs (34 + (k + 1)) (4936 + 6 * (k + 1)) (lw_Z below #[Value.ref b] s) (F0 m 737 ls [])) :
    ∀ (OUT : Nat → Int64) (gw gc gs ge gf cR cL cB pB : Int32) (SD RK RN RS RC RT LK LN LS LL US UB BB : Nat → Int32) (mT mW mH mS mR mL mC mZ mA mB : Int32) (KK KN KS KC AN JK JN JS JL MY KP FI TX : Nat → Int32) (hs : Sim gw gc gs ge gf cR cL cB pB SD RK RN RS RC RT LK LN LS LL US UB BB mT mW mH mS mR mL mC mZ mA mB KK KN KS KC AN JK JN JS JL MY KP FI TX) (H : Heap) (locs : List Loc) (ls : Array Slot), va_P D vwCl (wL cI cJ α β o OUT gw gc gs ge gf cR cL cB pB SD RK RN RS RC RT LK LN LS LL US UB BB mT mW mH mS mR mL mC mZ mA mB KK KN KS KC AN JK JN JS JL MY KP FI TX) H → va_D A (wL cI cJ α β o OUT gw gc gs ge gf cR cL cB pB SD RK RN RS RC RT LK LN LS LL US UB BB mT mW mH mS mR mL mC mZ mA mB KK KN KS KC AN JK JN JS JL MY KP FI TX) → va_S A s.heap H locs → lv_has ls 7 [(0, .ref b), (1, .ref (α 0)), (2, .ref (β 0)), (3, .ref o), (4, .int (nI i))] → W p l e room_1 s m #[Value.ref b] below meth c H locs (34 + k) (4936 + 6 * k) (lw_Z below #[Value.ref b] s) (F0 m 575 ls []) := by
  have hx := S.1.1
  have hb := S.1.2.1
  have hts := S.1.2.2.2.2
  intro OUT gw gc gs ge gf cR cL cB pB SD RK RN RS RC RT LK LN LS LL US UB BB mT mW mH mS mR mL mC mZ mA mB KK KN KS KC AN JK JN JS JL MY KP FI TX hs H locs ls hP hD hS hl
  rcases P_tell gw gc gs ge gf cR cL cB pB SD RK RN RS RC RT LK LN LS LL US UB BB mT mW mH mS mR mL mC mZ mA mB KK KN KS KC AN JK JN JS JL MY KP FI TX hs (xs (nI i + (1 : Int32)).toNatClampNeg) (xs (nI i + (2 : Int32)).toNatClampNeg)  with ⟨r, t, h5, h6, ht, heq, hsim⟩ | ⟨g0, t, h6, ht, hsim⟩
  · refine lv_aload_n hx hb dL_law_575 rfl (lv_at hl 1 rfl) ?_
    refine lv_aload_n hx hb dL_law_576 rfl (lv_at hl 0 rfl) ?_
    refine lv_iload hx hb dL_law_577 (lv_at hl 4 rfl) ?_
    refine lv_iconst (v := (1 : Int32)) hx hb dL_law_579 (by decide) ?_
    refine lv_iadd hx hb dL_law_580 ?_
    refine va_sld hx hb hX hbl hbA hS hv1 dL_law_581 ?_
    refine lv_aload_n hx hb dL_law_582 rfl (lv_at hl 0 rfl) ?_
    refine lv_iload hx hb dL_law_583 (lv_at hl 4 rfl) ?_
    refine lv_iconst (v := (2 : Int32)) hx hb dL_law_585 (by decide) ?_
    refine lv_iadd hx hb dL_law_586 ?_
    refine va_sld hx hb hX hbl hbA hS hv2 dL_law_587 ?_
    refine lv_aload_n hx hb dL_law_588 rfl (lv_at hl 3 rfl) ?_
    refine kH_callSs (As := [.ref (α 0), .int ((xs ((nI i) + (1 : Int32)).toNatClampNeg)), .int ((xs ((nI i) + (2 : Int32)).toNatClampNeg)), .ref o]) (rest := []) (wr := wM cI β mT mW mH mS mR mL mC mZ mA mB KK KN KS KC AN JK JN JS JL MY KP FI TX) (wn := wL cI cJ α β o (vp_updL OUT 0 (r).toInt64) gw gc gs ge gf cR cL cB pB SD RK RN RS RC RT LK LN LS LL US UB BB mT mW mH mS mR mL mC mZ mA mB KK KN KS KC AN JK JN JS JL MY KP FI TX) S T hNc hK2 hP hD hS [33, 0, 1, 2, 3, 4, 5, 6, 7, 8, 9, 10, 11, 12, 13, 14, 15, 16, 17, 18] [19, 20, 21, 22, 23, 24, 25, 26, 27, 28, 29, 30, 31, 32] [15, 16, 17, 18, 19, 20, 21, 22, 23, 24, 25, 26, 27, 28, 29, 30, 31, 32, 33, 0, 1, 2, 3, 4, 5, 6, 7, 8, 9, 10, 11, 12, 13, 14] rfl rfl rfl rfl (by decide) rfl rfl (c_L_tell_n l hlt D cI cJ α o OUT gw gc gs ge gf cR cL cB pB SD RK RN RS RC RT LK LN LS LL US UB BB ((xs ((nI i) + (1 : Int32)).toNatClampNeg)) ((xs ((nI i) + (2 : Int32)).toNatClampNeg)) r h5) (vx_cwSW 4 hts gL_law_L_tell rfl rfl rfl (by decide +kernel) ⟨(Nat.le_of_ble_eq_true rfl), (Nat.le_of_ble_eq_true rfl)⟩) rfl hl.1 rfl (Nat.le_of_ble_eq_true rfl) dL_law_589 ⟨by show _ ≤ 601024; omega, by show _ ≤ 7292999; omega⟩ (fun H locs hP hD hS => ?_)
    refine lv_istore (lv' := [(5, .int (0 : Int32)), (0, .ref b), (1, .ref (α 0)), (2, .ref (β 0)), (3, .ref o), (4, .int (nI i))]) hx hb dL_law_592 hl (by decide) rfl (fun ls hl => ?_)
    refine lv_aload_n hx hb dL_law_594 rfl (lv_at hl 3 rfl) ?_
    refine lv_aload_n hx hb dL_law_595 rfl (lv_at hl 1 rfl) ?_
    refine lv_iload hx hb dL_law_596 (lv_at hl 5 rfl) ?_
    refine lv_iconst (v := (1 : Int32)) hx hb dL_law_598 (by decide) ?_
    refine lv_iadd hx hb dL_law_599 ?_
    refine va_sld hx hb hX hbl hbA hS hv1 dL_law_600 ?_
    refine lv_aload_n hx hb dL_law_601 rfl (lv_at hl 1 rfl) ?_
    refine lv_iload hx hb dL_law_602 (lv_at hl 5 rfl) ?_
    refine lv_iconst (v := (2 : Int32)) hx hb dL_law_604 (by decide) ?_
    refine lv_iadd hx hb dL_law_605 ?_
    refine va_sld hx hb hX hbl hbA hS hv2 dL_law_606 ?_
    refine kI_callVs (As := [.int ((xs ((nI i) + (1 : Int32)).toNatClampNeg)), .int ((xs ((nI i) + (2 : Int32)).toNatClampNeg))]) (rest := []) (wr := (wC cI α gw gc gs ge gf cR cL cB pB SD RK RN RS RC RT LK LN LS LL US UB BB) ++ [(o, .inl (cJ, 1, .inr (.inl (vp_updL OUT 0 (r).toInt64))))]) (wn := wL cI cJ α β o (vp_updL OUT 0 (r).toInt64) gw gc gs ge gf cR cL cB pB SD RK RN RS RC RT LK LN LS LL US UB BB t.2 mW mH mS mR mL mC mZ mA mB KK KN KS KC AN JK JN JS JL MY KP FI TX) S hP hD hS [19, 20, 21, 22, 23, 24, 25, 26, 27, 28, 29, 30, 31, 32] [0, 1, 2, 3, 4, 5, 6, 7, 8, 9, 10, 11, 12, 13, 14, 15, 16, 17, 18, 33] [0, 1, 2, 3, 4, 5, 6, 7, 8, 9, 10, 11, 12, 13, 14, 15, 16, 17, 18, 20, 21, 22, 23, 24, 25, 26, 27, 28, 29, 30, 31, 32, 33, 19] rfl rfl rfl rfl (by decide) rfl rfl (c_X6_tell l D cI β mT mW mH mS mR mL mC mZ mA mB KK KN KS KC AN JK JN JS JL MY KP FI TX ((xs ((nI i) + (1 : Int32)).toNatClampNeg)) ((xs ((nI i) + (2 : Int32)).toNatClampNeg)) t h6) (cwV 2 hts gL_law_X6_tell rfl rfl rfl (by decide +kernel) ⟨(Nat.le_of_ble_eq_true rfl), (Nat.le_of_ble_eq_true rfl)⟩) 0 rfl rfl rfl hl.1 rfl (Nat.le_of_ble_eq_true rfl) dL_law_607 ⟨by show _ ≤ 601024; omega, by show _ ≤ 7292999; omega⟩ (fun H locs hP hD hS => ?_)
    refine lv_istore (lv' := [(6, .int t.1), (5, .int (0 : Int32)), (0, .ref b), (1, .ref (α 0)), (2, .ref (β 0)), (3, .ref o), (4, .int (nI i))]) hx hb dL_law_610 hl (by decide) rfl (fun ls hl => ?_)
    refine lv_aload_n hx hb dL_law_612 rfl (lv_at hl 4 rfl) ?_
    refine kI_callVs (As := []) (rest := []) (wr := (wC cI α gw gc gs ge gf cR cL cB pB SD RK RN RS RC RT LK LN LS LL US UB BB) ++ [(o, .inl (cJ, 1, .inr (.inl (vp_updL OUT 0 (r).toInt64))))]) (wn := wL cI cJ α β o (vp_updL OUT 0 (r).toInt64) gw gc gs ge gf cR cL cB pB SD RK RN RS RC RT LK LN LS LL US UB BB t.2 mW mH mS mR mL mC mZ mA mB KK KN KS KC AN JK JN JS JL MY KP FI TX) S hP hD hS [19, 20, 21, 22, 23, 24, 25, 26, 27, 28, 29, 30, 31, 32] [0, 1, 2, 3, 4, 5, 6, 7, 8, 9, 10, 11, 12, 13, 14, 15, 16, 17, 18, 33] [0, 1, 2, 3, 4, 5, 6, 7, 8, 9, 10, 11, 12, 13, 14, 15, 16, 17, 18, 20, 21, 22, 23, 24, 25, 26, 27, 28, 29, 30, 31, 32, 33, 19] rfl rfl rfl rfl (by decide) rfl rfl (c_X6_thrown l D cI β t.2 mW mH mS mR mL mC mZ mA mB KK KN KS KC AN JK JN JS JL MY KP FI TX t.2 rfl) (cwV 0 hts gL_law_X6_thrown rfl rfl rfl (by decide +kernel) ⟨(Nat.le_of_ble_eq_true rfl), (Nat.le_of_ble_eq_true rfl)⟩) 0 rfl rfl rfl hl.1 rfl (Nat.le_of_ble_eq_true rfl) dL_law_613 ⟨by show _ ≤ 601024; omega, by show _ ≤ 7292999; omega⟩ (fun H locs hP hD hS => ?_)
    refine lv_iload hx hb dL_law_616 (lv_at hl 1 rfl) ?_
    refine lv_icmp_eq (tgt := 623) hx hb dL_law_618 (by decide) (fun c9 => ?_) (fun c9 => absurd ht c9)
    refine lv_iload hx hb dL_law_623 (lv_at hl 1 rfl) ?_
    refine lv_if_ne (tgt := 640) hx hb dL_law_625 (by decide) (fun c9 => absurd rfl c9) (fun c9 => ?_)
    refine lv_aload_n hx hb dL_law_628 rfl (lv_at hl 5 rfl) ?_
    refine lv_iconst (v := (0 : Int32)) hx hb dL_law_629 (by decide) ?_
    refine va_lald hx hb hK2 hP 33 1 rfl rfl vp01 dL_law_630 ?_
    refine lv_iload hx hb dL_law_631 (lv_at hl 0 rfl) ?_
    refine lv_i2l (v := (t.1).toInt64) hx hb dL_law_633 rfl ?_
    refine W.lcmp hx hb dL_law_634 ?_
    refine lv_if_eq (tgt := 640) hx hb dL_law_635 (by decide) (fun c9 => ?_) (fun c9 => absurd (lw_ci heq) c9)
    refine lv_goto (tgt := 737) hx hb dL_law_640 (by decide) ?_
    refine W.widen (k := 34 + (k + 1)) (n := 4936 + 6 * (k + 1)) (by omega) (by omega) ?_
    exact w737 (vp_updL OUT 0 (r).toInt64) gw gc gs ge gf cR cL cB pB SD RK RN RS RC RT LK LN LS LL US UB BB t.2 mW mH mS mR mL mC mZ mA mB KK KN KS KC AN JK JN JS JL MY KP FI TX hsim H locs ls hP hD hS (lv_sub hl [2, 3, 4, 5, 6] rfl)
  · refine lv_aload_n hx hb dL_law_575 rfl (lv_at hl 1 rfl) ?_
    refine lv_aload_n hx hb dL_law_576 rfl (lv_at hl 0 rfl) ?_
    refine lv_iload hx hb dL_law_577 (lv_at hl 4 rfl) ?_
    refine lv_iconst (v := (1 : Int32)) hx hb dL_law_579 (by decide) ?_
    refine lv_iadd hx hb dL_law_580 ?_
    refine va_sld hx hb hX hbl hbA hS hv1 dL_law_581 ?_
    refine lv_aload_n hx hb dL_law_582 rfl (lv_at hl 0 rfl) ?_
    refine lv_iload hx hb dL_law_583 (lv_at hl 4 rfl) ?_
    refine lv_iconst (v := (2 : Int32)) hx hb dL_law_585 (by decide) ?_
    refine lv_iadd hx hb dL_law_586 ?_
    refine va_sld hx hb hX hbl hbA hS hv2 dL_law_587 ?_
    refine lv_aload_n hx hb dL_law_588 rfl (lv_at hl 3 rfl) ?_
    refine kH_callSs (As := [.ref (α 0), .int ((xs ((nI i) + (1 : Int32)).toNatClampNeg)), .int ((xs ((nI i) + (2 : Int32)).toNatClampNeg)), .ref o]) (rest := []) (wr := wM cI β mT mW mH mS mR mL mC mZ mA mB KK KN KS KC AN JK JN JS JL MY KP FI TX) (wn := wL cI cJ α β o OUT gw gc gs ge gf cR cL cB pB SD RK RN RS RC RT LK LN LS LL US UB BB mT mW mH mS mR mL mC mZ mA mB KK KN KS KC AN JK JN JS JL MY KP FI TX) S T hNc hK2 hP hD hS [33, 0, 1, 2, 3, 4, 5, 6, 7, 8, 9, 10, 11, 12, 13, 14, 15, 16, 17, 18] [19, 20, 21, 22, 23, 24, 25, 26, 27, 28, 29, 30, 31, 32] [15, 16, 17, 18, 19, 20, 21, 22, 23, 24, 25, 26, 27, 28, 29, 30, 31, 32, 33, 0, 1, 2, 3, 4, 5, 6, 7, 8, 9, 10, 11, 12, 13, 14] rfl rfl rfl rfl (by decide) rfl rfl (c_L_tell_x1 l hlt D cI cJ α o OUT gw gc gs ge gf cR cL cB pB SD RK RN RS RC RT LK LN LS LL US UB BB ((xs ((nI i) + (1 : Int32)).toNatClampNeg)) ((xs ((nI i) + (2 : Int32)).toNatClampNeg)) g0) (vx_cwSW 4 hts gL_law_L_tell rfl rfl rfl (by decide +kernel) ⟨(Nat.le_of_ble_eq_true rfl), (Nat.le_of_ble_eq_true rfl)⟩) rfl hl.1 rfl (Nat.le_of_ble_eq_true rfl) dL_law_589 ⟨by show _ ≤ 601024; omega, by show _ ≤ 7292999; omega⟩ (fun H locs hP hD hS => ?_)
    refine lv_istore (lv' := [(5, .int (1 : Int32)), (0, .ref b), (1, .ref (α 0)), (2, .ref (β 0)), (3, .ref o), (4, .int (nI i))]) hx hb dL_law_592 hl (by decide) rfl (fun ls hl => ?_)
    refine lv_aload_n hx hb dL_law_594 rfl (lv_at hl 3 rfl) ?_
    refine lv_aload_n hx hb dL_law_595 rfl (lv_at hl 1 rfl) ?_
    refine lv_iload hx hb dL_law_596 (lv_at hl 5 rfl) ?_
    refine lv_iconst (v := (1 : Int32)) hx hb dL_law_598 (by decide) ?_
    refine lv_iadd hx hb dL_law_599 ?_
    refine va_sld hx hb hX hbl hbA hS hv1 dL_law_600 ?_
    refine lv_aload_n hx hb dL_law_601 rfl (lv_at hl 1 rfl) ?_
    refine lv_iload hx hb dL_law_602 (lv_at hl 5 rfl) ?_
    refine lv_iconst (v := (2 : Int32)) hx hb dL_law_604 (by decide) ?_
    refine lv_iadd hx hb dL_law_605 ?_
    refine va_sld hx hb hX hbl hbA hS hv2 dL_law_606 ?_
    refine kI_callVs (As := [.int ((xs ((nI i) + (1 : Int32)).toNatClampNeg)), .int ((xs ((nI i) + (2 : Int32)).toNatClampNeg))]) (rest := []) (wr := (wC cI α gw gc gs ge gf cR cL cB pB SD RK RN RS RC RT LK LN LS LL US UB BB) ++ [(o, .inl (cJ, 1, .inr (.inl OUT)))]) (wn := wL cI cJ α β o OUT gw gc gs ge gf cR cL cB pB SD RK RN RS RC RT LK LN LS LL US UB BB t.2 mW mH mS mR mL mC mZ mA mB KK KN KS KC AN JK JN JS JL MY KP FI TX) S hP hD hS [19, 20, 21, 22, 23, 24, 25, 26, 27, 28, 29, 30, 31, 32] [0, 1, 2, 3, 4, 5, 6, 7, 8, 9, 10, 11, 12, 13, 14, 15, 16, 17, 18, 33] [0, 1, 2, 3, 4, 5, 6, 7, 8, 9, 10, 11, 12, 13, 14, 15, 16, 17, 18, 20, 21, 22, 23, 24, 25, 26, 27, 28, 29, 30, 31, 32, 33, 19] rfl rfl rfl rfl (by decide) rfl rfl (c_X6_tell l D cI β mT mW mH mS mR mL mC mZ mA mB KK KN KS KC AN JK JN JS JL MY KP FI TX ((xs ((nI i) + (1 : Int32)).toNatClampNeg)) ((xs ((nI i) + (2 : Int32)).toNatClampNeg)) t h6) (cwV 2 hts gL_law_X6_tell rfl rfl rfl (by decide +kernel) ⟨(Nat.le_of_ble_eq_true rfl), (Nat.le_of_ble_eq_true rfl)⟩) 0 rfl rfl rfl hl.1 rfl (Nat.le_of_ble_eq_true rfl) dL_law_607 ⟨by show _ ≤ 601024; omega, by show _ ≤ 7292999; omega⟩ (fun H locs hP hD hS => ?_)
    refine lv_istore (lv' := [(6, .int t.1), (5, .int (1 : Int32)), (0, .ref b), (1, .ref (α 0)), (2, .ref (β 0)), (3, .ref o), (4, .int (nI i))]) hx hb dL_law_610 hl (by decide) rfl (fun ls hl => ?_)
    refine lv_aload_n hx hb dL_law_612 rfl (lv_at hl 4 rfl) ?_
    refine kI_callVs (As := []) (rest := []) (wr := (wC cI α gw gc gs ge gf cR cL cB pB SD RK RN RS RC RT LK LN LS LL US UB BB) ++ [(o, .inl (cJ, 1, .inr (.inl OUT)))]) (wn := wL cI cJ α β o OUT gw gc gs ge gf cR cL cB pB SD RK RN RS RC RT LK LN LS LL US UB BB t.2 mW mH mS mR mL mC mZ mA mB KK KN KS KC AN JK JN JS JL MY KP FI TX) S hP hD hS [19, 20, 21, 22, 23, 24, 25, 26, 27, 28, 29, 30, 31, 32] [0, 1, 2, 3, 4, 5, 6, 7, 8, 9, 10, 11, 12, 13, 14, 15, 16, 17, 18, 33] [0, 1, 2, 3, 4, 5, 6, 7, 8, 9, 10, 11, 12, 13, 14, 15, 16, 17, 18, 20, 21, 22, 23, 24, 25, 26, 27, 28, 29, 30, 31, 32, 33, 19] rfl rfl rfl rfl (by decide) rfl rfl (c_X6_thrown l D cI β t.2 mW mH mS mR mL mC mZ mA mB KK KN KS KC AN JK JN JS JL MY KP FI TX t.2 rfl) (cwV 0 hts gL_law_X6_thrown rfl rfl rfl (by decide +kernel) ⟨(Nat.le_of_ble_eq_true rfl), (Nat.le_of_ble_eq_true rfl)⟩) 0 rfl rfl rfl hl.1 rfl (Nat.le_of_ble_eq_true rfl) dL_law_613 ⟨by show _ ≤ 601024; omega, by show _ ≤ 7292999; omega⟩ (fun H locs hP hD hS => ?_)
    refine lv_iload hx hb dL_law_616 (lv_at hl 1 rfl) ?_
    refine lv_icmp_eq (tgt := 623) hx hb dL_law_618 (by decide) (fun c9 => ?_) (fun c9 => absurd ht c9)
    refine lv_iload hx hb dL_law_623 (lv_at hl 1 rfl) ?_
    refine lv_if_ne (tgt := 640) hx hb dL_law_625 (by decide) (fun c9 => ?_) (fun c9 => absurd c9 (by decide))
    refine lv_goto (tgt := 737) hx hb dL_law_640 (by decide) ?_
    refine W.widen (k := 34 + (k + 1)) (n := 4936 + 6 * (k + 1)) (by omega) (by omega) ?_
    exact w737 OUT gw gc gs ge gf cR cL cB pB SD RK RN RS RC RT LK LN LS LL US UB BB t.2 mW mH mS mR mL mC mZ mA mB KK KN KS KC AN JK JN JS JL MY KP FI TX hsim H locs ls hP hD hS (lv_sub hl [2, 3, 4, 5, 6] rfl)
set_option maxHeartbeats 8000000 in
set_option maxRecDepth 100000 in
theorem lc_may {p : Program} {l : Launch} {e : Env} {s : State} {m : MethodId} {below : List Frame} {meth : Method} {c : Code} {D : va_G} {cI cJ : ClassId} {α β : Nat → Nat} {o : Nat} {A : Nat → Prop} {b L : Nat} {xs : Nat → Int32} (hL : L ≤ 2051) (hlt : l.stackTraces = false) (S : kC p s m #[Value.ref b] meth c cL_law 7 wsL_law RL ret D cI A) (T : kT l s A) (hNc : lk s) (hK2 : va_K D vwCl [(cI, .int), (cJ, .long)] s) (hX : va_X b L xs s s.heap) (hbl : b < s.heap.size) (hbA : ¬ A b) (hA9 : ∀ q, A q → s.heap.size ≤ q) (k i : Nat) (hk : k ≤ 512) (hv0 : vp_in (nI i) L) (hv1 : vp_in (nI i + (1 : Int32)) L) (hv2 : vp_in (nI i + (2 : Int32)) L) (hv3 : vp_in (nI i + (3 : Int32)) L)
    (w737 : ∀ (OUT : Nat → Int64) (gw gc gs ge gf cR cL cB pB : Int32) (SD RK RN RS RC RT LK LN LS LL US UB BB : Nat → Int32) (mT mW mH mS mR mL mC mZ mA mB : Int32) (KK KN KS KC AN JK JN JS JL MY KP FI TX : Nat → Int32) (hs : Sim gw gc gs ge gf cR cL cB pB SD RK RN RS RC RT LK LN LS LL US UB BB mT mW mH mS mR mL mC mZ mA mB KK KN KS KC AN JK JN JS JL MY KP FI TX) (H : Heap) (locs : List Loc) (ls : Array Slot), va_P D vwCl (wL cI cJ α β o OUT gw gc gs ge gf cR cL cB pB SD RK RN RS RC RT LK LN LS LL US UB BB mT mW mH mS mR mL mC mZ mA mB KK KN KS KC AN JK JN JS JL MY KP FI TX) H → va_D A (wL cI cJ α β o OUT gw gc gs ge gf cR cL cB pB SD RK RN RS RC RT LK LN LS LL US UB BB mT mW mH mS mR mL mC mZ mA mB KK KN KS KC AN JK JN JS JL MY KP FI TX) → va_S A s.heap H locs → lv_has ls 7 [(0, .ref b), (1, .ref (α 0)), (2, .ref (β 0)), (3, .ref o), (4, .int (nI i))] → W p l e room_1 s m #[Value.ref b] below meth c H locs (34 + (k + 1)) (4936 + 6 * (k + 1)) (lw_Z below #[Value.ref b] s) (F0 m 737 ls [])) :
    ∀ (OUT : Nat → Int64) (gw gc gs ge gf cR cL cB pB : Int32) (SD RK RN RS RC RT LK LN LS LL US UB BB : Nat → Int32) (mT mW mH mS mR mL mC mZ mA mB : Int32) (KK KN KS KC AN JK JN JS JL MY KP FI TX : Nat → Int32) (hs : Sim gw gc gs ge gf cR cL cB pB SD RK RN RS RC RT LK LN LS LL US UB BB mT mW mH mS mR mL mC mZ mA mB KK KN KS KC AN JK JN JS JL MY KP FI TX) (H : Heap) (locs : List Loc) (ls : Array Slot), va_P D vwCl (wL cI cJ α β o OUT gw gc gs ge gf cR cL cB pB SD RK RN RS RC RT LK LN LS LL US UB BB mT mW mH mS mR mL mC mZ mA mB KK KN KS KC AN JK JN JS JL MY KP FI TX) H → va_D A (wL cI cJ α β o OUT gw gc gs ge gf cR cL cB pB SD RK RN RS RC RT LK LN LS LL US UB BB mT mW mH mS mR mL mC mZ mA mB KK KN KS KC AN JK JN JS JL MY KP FI TX) → va_S A s.heap H locs → lv_has ls 7 [(0, .ref b), (1, .ref (α 0)), (2, .ref (β 0)), (3, .ref o), (4, .int (nI i))] → W p l e room_1 s m #[Value.ref b] below meth c H locs (34 + k) (4936 + 6 * k) (lw_Z below #[Value.ref b] s) (F0 m 643 ls []) := by
  have hx := S.1.1
  have hb := S.1.2.1
  have hts := S.1.2.2.2.2
  intro OUT gw gc gs ge gf cR cL cB pB SD RK RN RS RC RT LK LN LS LL US UB BB mT mW mH mS mR mL mC mZ mA mB KK KN KS KC AN JK JN JS JL MY KP FI TX hs H locs ls hP hD hS hl
  rcases P_may gw gc gs ge gf cR cL cB pB SD RK RN RS RC RT LK LN LS LL US UB BB mT mW mH mS mR mL mC mZ mA mB KK KN KS KC AN JK JN JS JL MY KP FI TX hs (xs (nI i + (1 : Int32)).toNatClampNeg)  with ⟨r, t, h5, h6, ht, heq, hsim⟩ | ⟨g0, t, h6, ht, hsim⟩
  · refine lv_aload_n hx hb dL_law_643 rfl (lv_at hl 1 rfl) ?_
    refine lv_aload_n hx hb dL_law_644 rfl (lv_at hl 0 rfl) ?_
    refine lv_iload hx hb dL_law_645 (lv_at hl 4 rfl) ?_
    refine lv_iconst (v := (1 : Int32)) hx hb dL_law_647 (by decide) ?_
    refine lv_iadd hx hb dL_law_648 ?_
    refine va_sld hx hb hX hbl hbA hS hv1 dL_law_649 ?_
    refine lv_aload_n hx hb dL_law_650 rfl (lv_at hl 3 rfl) ?_
    refine kH_callSs (As := [.ref (α 0), .int ((xs ((nI i) + (1 : Int32)).toNatClampNeg)), .ref o]) (rest := []) (wr := wM cI β mT mW mH mS mR mL mC mZ mA mB KK KN KS KC AN JK JN JS JL MY KP FI TX) (wn := wL cI cJ α β o (vp_updL OUT 0 (r.1).toInt64) gw gc gs ge gf cR cL cB pB SD RK RN RS RC RT LK LN LS LL r.2 UB BB mT mW mH mS mR mL mC mZ mA mB KK KN KS KC AN JK JN JS JL MY KP FI TX) S T hNc hK2 hP hD hS [33, 0, 1, 2, 3, 4, 5, 6, 7, 8, 9, 10, 11, 12, 13, 14, 15, 16, 17, 18] [19, 20, 21, 22, 23, 24, 25, 26, 27, 28, 29, 30, 31, 32] [15, 16, 17, 18, 19, 20, 21, 22, 23, 24, 25, 26, 27, 28, 29, 30, 31, 32, 33, 0, 1, 2, 3, 4, 5, 6, 7, 8, 9, 10, 11, 12, 13, 14] rfl rfl rfl rfl (by decide) rfl rfl (c_L_may_n l hlt D cI cJ α o OUT gw gc gs ge gf cR cL cB pB SD RK RN RS RC RT LK LN LS LL US UB BB ((xs ((nI i) + (1 : Int32)).toNatClampNeg)) FF r h5) (vx_cwSW 3 hts gL_law_L_may rfl rfl rfl (by decide +kernel) ⟨(Nat.le_of_ble_eq_true rfl), (Nat.le_of_ble_eq_true rfl)⟩) rfl hl.1 rfl (Nat.le_of_ble_eq_true rfl) dL_law_651 ⟨by show _ ≤ 601024; omega, by show _ ≤ 7292999; omega⟩ (fun H locs hP hD hS => ?_)
    refine lv_istore (lv' := [(5, .int (0 : Int32)), (0, .ref b), (1, .ref (α 0)), (2, .ref (β 0)), (3, .ref o), (4, .int (nI i))]) hx hb dL_law_654 hl (by decide) rfl (fun ls hl => ?_)
    refine lv_aload_n hx hb dL_law_656 rfl (lv_at hl 3 rfl) ?_
    refine lv_aload_n hx hb dL_law_657 rfl (lv_at hl 1 rfl) ?_
    refine lv_iload hx hb dL_law_658 (lv_at hl 5 rfl) ?_
    refine lv_iconst (v := (1 : Int32)) hx hb dL_law_660 (by decide) ?_
    refine lv_iadd hx hb dL_law_661 ?_
    refine va_sld hx hb hX hbl hbA hS hv1 dL_law_662 ?_
    refine kI_callVs (As := [.int ((xs ((nI i) + (1 : Int32)).toNatClampNeg))]) (rest := []) (wr := (wC cI α gw gc gs ge gf cR cL cB pB SD RK RN RS RC RT LK LN LS LL r.2 UB BB) ++ [(o, .inl (cJ, 1, .inr (.inl (vp_updL OUT 0 (r.1).toInt64))))]) (wn := wL cI cJ α β o (vp_updL OUT 0 (r.1).toInt64) gw gc gs ge gf cR cL cB pB SD RK RN RS RC RT LK LN LS LL r.2 UB BB t.2.1 mW mH mS mR mL t.2.2.1 mZ mA mB KK KN KS KC AN JK JN JS JL t.2.2.2 KP FI TX) S hP hD hS [19, 20, 21, 22, 23, 24, 25, 26, 27, 28, 29, 30, 31, 32] [0, 1, 2, 3, 4, 5, 6, 7, 8, 9, 10, 11, 12, 13, 14, 15, 16, 17, 18, 33] [0, 1, 2, 3, 4, 5, 6, 7, 8, 9, 10, 11, 12, 13, 14, 15, 16, 17, 18, 20, 21, 22, 23, 24, 25, 26, 27, 28, 29, 30, 31, 32, 33, 19] rfl rfl rfl rfl (by decide) rfl rfl (c_X6_may l D cI β mT mW mH mS mR mL mC mZ mA mB KK KN KS KC AN JK JN JS JL MY KP FI TX FF ((xs ((nI i) + (1 : Int32)).toNatClampNeg)) t h6) (cwV 1 hts gL_law_X6_may rfl rfl rfl (by decide +kernel) ⟨(Nat.le_of_ble_eq_true rfl), (Nat.le_of_ble_eq_true rfl)⟩) 0 rfl rfl rfl hl.1 rfl (Nat.le_of_ble_eq_true rfl) dL_law_663 ⟨by show _ ≤ 601024; omega, by show _ ≤ 7292999; omega⟩ (fun H locs hP hD hS => ?_)
    refine lv_istore (lv' := [(6, .int t.1), (5, .int (0 : Int32)), (0, .ref b), (1, .ref (α 0)), (2, .ref (β 0)), (3, .ref o), (4, .int (nI i))]) hx hb dL_law_666 hl (by decide) rfl (fun ls hl => ?_)
    refine lv_aload_n hx hb dL_law_668 rfl (lv_at hl 4 rfl) ?_
    refine kI_callVs (As := []) (rest := []) (wr := (wC cI α gw gc gs ge gf cR cL cB pB SD RK RN RS RC RT LK LN LS LL r.2 UB BB) ++ [(o, .inl (cJ, 1, .inr (.inl (vp_updL OUT 0 (r.1).toInt64))))]) (wn := wL cI cJ α β o (vp_updL OUT 0 (r.1).toInt64) gw gc gs ge gf cR cL cB pB SD RK RN RS RC RT LK LN LS LL r.2 UB BB t.2.1 mW mH mS mR mL t.2.2.1 mZ mA mB KK KN KS KC AN JK JN JS JL t.2.2.2 KP FI TX) S hP hD hS [19, 20, 21, 22, 23, 24, 25, 26, 27, 28, 29, 30, 31, 32] [0, 1, 2, 3, 4, 5, 6, 7, 8, 9, 10, 11, 12, 13, 14, 15, 16, 17, 18, 33] [0, 1, 2, 3, 4, 5, 6, 7, 8, 9, 10, 11, 12, 13, 14, 15, 16, 17, 18, 20, 21, 22, 23, 24, 25, 26, 27, 28, 29, 30, 31, 32, 33, 19] rfl rfl rfl rfl (by decide) rfl rfl (c_X6_thrown l D cI β t.2.1 mW mH mS mR mL t.2.2.1 mZ mA mB KK KN KS KC AN JK JN JS JL t.2.2.2 KP FI TX t.2.1 rfl) (cwV 0 hts gL_law_X6_thrown rfl rfl rfl (by decide +kernel) ⟨(Nat.le_of_ble_eq_true rfl), (Nat.le_of_ble_eq_true rfl)⟩) 0 rfl rfl rfl hl.1 rfl (Nat.le_of_ble_eq_true rfl) dL_law_669 ⟨by show _ ≤ 601024; omega, by show _ ≤ 7292999; omega⟩ (fun H locs hP hD hS => ?_)
    refine lv_iload hx hb dL_law_672 (lv_at hl 1 rfl) ?_
    refine lv_icmp_eq (tgt := 679) hx hb dL_law_674 (by decide) (fun c9 => ?_) (fun c9 => absurd ht c9)
    refine lv_iload hx hb dL_law_679 (lv_at hl 1 rfl) ?_
    refine lv_if_ne (tgt := 696) hx hb dL_law_681 (by decide) (fun c9 => absurd rfl c9) (fun c9 => ?_)
    refine lv_aload_n hx hb dL_law_684 rfl (lv_at hl 5 rfl) ?_
    refine lv_iconst (v := (0 : Int32)) hx hb dL_law_685 (by decide) ?_
    refine va_lald hx hb hK2 hP 33 1 rfl rfl vp01 dL_law_686 ?_
    refine lv_iload hx hb dL_law_687 (lv_at hl 0 rfl) ?_
    refine lv_i2l (v := (t.1).toInt64) hx hb dL_law_689 rfl ?_
    refine W.lcmp hx hb dL_law_690 ?_
    refine lv_if_eq (tgt := 696) hx hb dL_law_691 (by decide) (fun c9 => ?_) (fun c9 => absurd (lw_ci heq) c9)
    refine lv_goto (tgt := 737) hx hb dL_law_696 (by decide) ?_
    refine W.widen (k := 34 + (k + 1)) (n := 4936 + 6 * (k + 1)) (by omega) (by omega) ?_
    exact w737 (vp_updL OUT 0 (r.1).toInt64) gw gc gs ge gf cR cL cB pB SD RK RN RS RC RT LK LN LS LL r.2 UB BB t.2.1 mW mH mS mR mL t.2.2.1 mZ mA mB KK KN KS KC AN JK JN JS JL t.2.2.2 KP FI TX hsim H locs ls hP hD hS (lv_sub hl [2, 3, 4, 5, 6] rfl)
  · refine lv_aload_n hx hb dL_law_643 rfl (lv_at hl 1 rfl) ?_
    refine lv_aload_n hx hb dL_law_644 rfl (lv_at hl 0 rfl) ?_
    refine lv_iload hx hb dL_law_645 (lv_at hl 4 rfl) ?_
    refine lv_iconst (v := (1 : Int32)) hx hb dL_law_647 (by decide) ?_
    refine lv_iadd hx hb dL_law_648 ?_
    refine va_sld hx hb hX hbl hbA hS hv1 dL_law_649 ?_
    refine lv_aload_n hx hb dL_law_650 rfl (lv_at hl 3 rfl) ?_
    refine kH_callSs (As := [.ref (α 0), .int ((xs ((nI i) + (1 : Int32)).toNatClampNeg)), .ref o]) (rest := []) (wr := wM cI β mT mW mH mS mR mL mC mZ mA mB KK KN KS KC AN JK JN JS JL MY KP FI TX) (wn := wL cI cJ α β o OUT gw gc gs ge gf cR cL cB pB SD RK RN RS RC RT LK LN LS LL US UB BB mT mW mH mS mR mL mC mZ mA mB KK KN KS KC AN JK JN JS JL MY KP FI TX) S T hNc hK2 hP hD hS [33, 0, 1, 2, 3, 4, 5, 6, 7, 8, 9, 10, 11, 12, 13, 14, 15, 16, 17, 18] [19, 20, 21, 22, 23, 24, 25, 26, 27, 28, 29, 30, 31, 32] [15, 16, 17, 18, 19, 20, 21, 22, 23, 24, 25, 26, 27, 28, 29, 30, 31, 32, 33, 0, 1, 2, 3, 4, 5, 6, 7, 8, 9, 10, 11, 12, 13, 14] rfl rfl rfl rfl (by decide) rfl rfl (c_L_may_x1 l hlt D cI cJ α o OUT gw gc gs ge gf cR cL cB pB SD RK RN RS RC RT LK LN LS LL US UB BB ((xs ((nI i) + (1 : Int32)).toNatClampNeg)) g0) (vx_cwSW 3 hts gL_law_L_may rfl rfl rfl (by decide +kernel) ⟨(Nat.le_of_ble_eq_true rfl), (Nat.le_of_ble_eq_true rfl)⟩) rfl hl.1 rfl (Nat.le_of_ble_eq_true rfl) dL_law_651 ⟨by show _ ≤ 601024; omega, by show _ ≤ 7292999; omega⟩ (fun H locs hP hD hS => ?_)
    refine lv_istore (lv' := [(5, .int (1 : Int32)), (0, .ref b), (1, .ref (α 0)), (2, .ref (β 0)), (3, .ref o), (4, .int (nI i))]) hx hb dL_law_654 hl (by decide) rfl (fun ls hl => ?_)
    refine lv_aload_n hx hb dL_law_656 rfl (lv_at hl 3 rfl) ?_
    refine lv_aload_n hx hb dL_law_657 rfl (lv_at hl 1 rfl) ?_
    refine lv_iload hx hb dL_law_658 (lv_at hl 5 rfl) ?_
    refine lv_iconst (v := (1 : Int32)) hx hb dL_law_660 (by decide) ?_
    refine lv_iadd hx hb dL_law_661 ?_
    refine va_sld hx hb hX hbl hbA hS hv1 dL_law_662 ?_
    refine kI_callVs (As := [.int ((xs ((nI i) + (1 : Int32)).toNatClampNeg))]) (rest := []) (wr := (wC cI α gw gc gs ge gf cR cL cB pB SD RK RN RS RC RT LK LN LS LL US UB BB) ++ [(o, .inl (cJ, 1, .inr (.inl OUT)))]) (wn := wL cI cJ α β o OUT gw gc gs ge gf cR cL cB pB SD RK RN RS RC RT LK LN LS LL US UB BB t.2.1 mW mH mS mR mL t.2.2.1 mZ mA mB KK KN KS KC AN JK JN JS JL t.2.2.2 KP FI TX) S hP hD hS [19, 20, 21, 22, 23, 24, 25, 26, 27, 28, 29, 30, 31, 32] [0, 1, 2, 3, 4, 5, 6, 7, 8, 9, 10, 11, 12, 13, 14, 15, 16, 17, 18, 33] [0, 1, 2, 3, 4, 5, 6, 7, 8, 9, 10, 11, 12, 13, 14, 15, 16, 17, 18, 20, 21, 22, 23, 24, 25, 26, 27, 28, 29, 30, 31, 32, 33, 19] rfl rfl rfl rfl (by decide) rfl rfl (c_X6_may l D cI β mT mW mH mS mR mL mC mZ mA mB KK KN KS KC AN JK JN JS JL MY KP FI TX FF ((xs ((nI i) + (1 : Int32)).toNatClampNeg)) t h6) (cwV 1 hts gL_law_X6_may rfl rfl rfl (by decide +kernel) ⟨(Nat.le_of_ble_eq_true rfl), (Nat.le_of_ble_eq_true rfl)⟩) 0 rfl rfl rfl hl.1 rfl (Nat.le_of_ble_eq_true rfl) dL_law_663 ⟨by show _ ≤ 601024; omega, by show _ ≤ 7292999; omega⟩ (fun H locs hP hD hS => ?_)
    refine lv_istore (lv' := [(6, .int t.1), (5, .int (1 : Int32)), (0, .ref b), (1, .ref (α 0)), (2, .ref (β 0)), (3, .ref o), (4, .int (nI i))]) hx hb dL_law_666 hl (by decide) rfl (fun ls hl => ?_)
    refine lv_aload_n hx hb dL_law_668 rfl (lv_at hl 4 rfl) ?_
    refine kI_callVs (As := []) (rest := []) (wr := (wC cI α gw gc gs ge gf cR cL cB pB SD RK RN RS RC RT LK LN LS LL US UB BB) ++ [(o, .inl (cJ, 1, .inr (.inl OUT)))]) (wn := wL cI cJ α β o OUT gw gc gs ge gf cR cL cB pB SD RK RN RS RC RT LK LN LS LL US UB BB t.2.1 mW mH mS mR mL t.2.2.1 mZ mA mB KK KN KS KC AN JK JN JS JL t.2.2.2 KP FI TX) S hP hD hS [19, 20, 21, 22, 23, 24, 25, 26, 27, 28, 29, 30, 31, 32] [0, 1, 2, 3, 4, 5, 6, 7, 8, 9, 10, 11, 12, 13, 14, 15, 16, 17, 18, 33] [0, 1, 2, 3, 4, 5, 6, 7, 8, 9, 10, 11, 12, 13, 14, 15, 16, 17, 18, 20, 21, 22, 23, 24, 25, 26, 27, 28, 29, 30, 31, 32, 33, 19] rfl rfl rfl rfl (by decide) rfl rfl (c_X6_thrown l D cI β t.2.1 mW mH mS mR mL t.2.2.1 mZ mA mB KK KN KS KC AN JK JN JS JL t.2.2.2 KP FI TX t.2.1 rfl) (cwV 0 hts gL_law_X6_thrown rfl rfl rfl (by decide +kernel) ⟨(Nat.le_of_ble_eq_true rfl), (Nat.le_of_ble_eq_true rfl)⟩) 0 rfl rfl rfl hl.1 rfl (Nat.le_of_ble_eq_true rfl) dL_law_669 ⟨by show _ ≤ 601024; omega, by show _ ≤ 7292999; omega⟩ (fun H locs hP hD hS => ?_)
    refine lv_iload hx hb dL_law_672 (lv_at hl 1 rfl) ?_
    refine lv_icmp_eq (tgt := 679) hx hb dL_law_674 (by decide) (fun c9 => ?_) (fun c9 => absurd ht c9)
    refine lv_iload hx hb dL_law_679 (lv_at hl 1 rfl) ?_
    refine lv_if_ne (tgt := 696) hx hb dL_law_681 (by decide) (fun c9 => ?_) (fun c9 => absurd c9 (by decide))
    refine lv_goto (tgt := 737) hx hb dL_law_696 (by decide) ?_
    refine W.widen (k := 34 + (k + 1)) (n := 4936 + 6 * (k + 1)) (by omega) (by omega) ?_
    exact w737 OUT gw gc gs ge gf cR cL cB pB SD RK RN RS RC RT LK LN LS LL US UB BB t.2.1 mW mH mS mR mL t.2.2.1 mZ mA mB KK KN KS KC AN JK JN JS JL t.2.2.2 KP FI TX hsim H locs ls hP hD hS (lv_sub hl [2, 3, 4, 5, 6] rfl)
set_option maxHeartbeats 8000000 in
set_option maxRecDepth 100000 in
theorem lc_unit {p : Program} {l : Launch} {e : Env} {s : State} {m : MethodId} {below : List Frame} {meth : Method} {c : Code} {D : va_G} {cI cJ : ClassId} {α β : Nat → Nat} {o : Nat} {A : Nat → Prop} {b L : Nat} {xs : Nat → Int32} (hL : L ≤ 2051) (hlt : l.stackTraces = false) (S : kC p s m #[Value.ref b] meth c cL_law 7 wsL_law RL ret D cI A) (T : kT l s A) (hNc : lk s) (hK2 : va_K D vwCl [(cI, .int), (cJ, .long)] s) (hX : va_X b L xs s s.heap) (hbl : b < s.heap.size) (hbA : ¬ A b) (hA9 : ∀ q, A q → s.heap.size ≤ q) (k i : Nat) (hk : k ≤ 512) (hv0 : vp_in (nI i) L) (hv1 : vp_in (nI i + (1 : Int32)) L) (hv2 : vp_in (nI i + (2 : Int32)) L) (hv3 : vp_in (nI i + (3 : Int32)) L)
    (w737 : ∀ (OUT : Nat → Int64) (gw gc gs ge gf cR cL cB pB : Int32) (SD RK RN RS RC RT LK LN LS LL US UB BB : Nat → Int32) (mT mW mH mS mR mL mC mZ mA mB : Int32) (KK KN KS KC AN JK JN JS JL MY KP FI TX : Nat → Int32) (hs : Sim gw gc gs ge gf cR cL cB pB SD RK RN RS RC RT LK LN LS LL US UB BB mT mW mH mS mR mL mC mZ mA mB KK KN KS KC AN JK JN JS JL MY KP FI TX) (H : Heap) (locs : List Loc) (ls : Array Slot), va_P D vwCl (wL cI cJ α β o OUT gw gc gs ge gf cR cL cB pB SD RK RN RS RC RT LK LN LS LL US UB BB mT mW mH mS mR mL mC mZ mA mB KK KN KS KC AN JK JN JS JL MY KP FI TX) H → va_D A (wL cI cJ α β o OUT gw gc gs ge gf cR cL cB pB SD RK RN RS RC RT LK LN LS LL US UB BB mT mW mH mS mR mL mC mZ mA mB KK KN KS KC AN JK JN JS JL MY KP FI TX) → va_S A s.heap H locs → lv_has ls 7 [(0, .ref b), (1, .ref (α 0)), (2, .ref (β 0)), (3, .ref o), (4, .int (nI i))] → W p l e room_1 s m #[Value.ref b] below meth c H locs (34 + (k + 1)) (4936 + 6 * (k + 1)) (lw_Z below #[Value.ref b] s) (F0 m 737 ls [])) :
    ∀ (OUT : Nat → Int64) (gw gc gs ge gf cR cL cB pB : Int32) (SD RK RN RS RC RT LK LN LS LL US UB BB : Nat → Int32) (mT mW mH mS mR mL mC mZ mA mB : Int32) (KK KN KS KC AN JK JN JS JL MY KP FI TX : Nat → Int32) (hs : Sim gw gc gs ge gf cR cL cB pB SD RK RN RS RC RT LK LN LS LL US UB BB mT mW mH mS mR mL mC mZ mA mB KK KN KS KC AN JK JN JS JL MY KP FI TX) (H : Heap) (locs : List Loc) (ls : Array Slot), va_P D vwCl (wL cI cJ α β o OUT gw gc gs ge gf cR cL cB pB SD RK RN RS RC RT LK LN LS LL US UB BB mT mW mH mS mR mL mC mZ mA mB KK KN KS KC AN JK JN JS JL MY KP FI TX) H → va_D A (wL cI cJ α β o OUT gw gc gs ge gf cR cL cB pB SD RK RN RS RC RT LK LN LS LL US UB BB mT mW mH mS mR mL mC mZ mA mB KK KN KS KC AN JK JN JS JL MY KP FI TX) → va_S A s.heap H locs → lv_has ls 7 [(0, .ref b), (1, .ref (α 0)), (2, .ref (β 0)), (3, .ref o), (4, .int (nI i))] → W p l e room_1 s m #[Value.ref b] below meth c H locs (34 + k) (4936 + 6 * k) (lw_Z below #[Value.ref b] s) (F0 m 699 ls []) := by
  have hx := S.1.1
  have hb := S.1.2.1
  have hts := S.1.2.2.2.2
  intro OUT gw gc gs ge gf cR cL cB pB SD RK RN RS RC RT LK LN LS LL US UB BB mT mW mH mS mR mL mC mZ mA mB KK KN KS KC AN JK JN JS JL MY KP FI TX hs H locs ls hP hD hS hl
  obtain ⟨r, t, h5, h6, heq, hsim⟩ := P_unit gw gc gs ge gf cR cL cB pB SD RK RN RS RC RT LK LN LS LL US UB BB mT mW mH mS mR mL mC mZ mA mB KK KN KS KC AN JK JN JS JL MY KP FI TX hs (xs (nI i + (1 : Int32)).toNatClampNeg)
  refine lv_aload_n hx hb dL_law_699 rfl (lv_at hl 1 rfl) ?_
  refine lv_aload_n hx hb dL_law_700 rfl (lv_at hl 0 rfl) ?_
  refine lv_iload hx hb dL_law_701 (lv_at hl 4 rfl) ?_
  refine lv_iconst (v := (1 : Int32)) hx hb dL_law_703 (by decide) ?_
  refine lv_iadd hx hb dL_law_704 ?_
  refine va_sld hx hb hX hbl hbA hS hv1 dL_law_705 ?_
  refine kI_callVs (As := [.int ((xs ((nI i) + (1 : Int32)).toNatClampNeg))]) (rest := []) (wr := (wM cI β mT mW mH mS mR mL mC mZ mA mB KK KN KS KC AN JK JN JS JL MY KP FI TX) ++ [(o, .inl (cJ, 1, .inr (.inl OUT)))]) (wn := wL cI cJ α β o OUT gw gc gs ge gf cR cL r.2.1 pB SD RK RN RS RC RT LK LN LS LL US UB r.2.2 mT mW mH mS mR mL mC mZ mA mB KK KN KS KC AN JK JN JS JL MY KP FI TX) S hP hD hS [0, 1, 2, 3, 4, 5, 6, 7, 8, 9, 10, 11, 12, 13, 14, 15, 16, 17, 18] [19, 20, 21, 22, 23, 24, 25, 26, 27, 28, 29, 30, 31, 32, 33] [15, 16, 17, 18, 19, 20, 21, 22, 23, 24, 25, 26, 27, 28, 29, 30, 31, 32, 33, 0, 1, 2, 3, 4, 5, 6, 7, 8, 9, 10, 11, 12, 13, 14] rfl rfl rfl rfl (by decide) rfl rfl (c_X5_unit l D cI α gw gc gs ge gf cR cL cB pB SD RK RN RS RC RT LK LN LS LL US UB BB ((xs ((nI i) + (1 : Int32)).toNatClampNeg)) r h5) (cwV 1 hts gL_law_X5_unit rfl rfl rfl (by decide +kernel) ⟨(Nat.le_of_ble_eq_true rfl), (Nat.le_of_ble_eq_true rfl)⟩) 0 rfl rfl rfl hl.1 rfl (Nat.le_of_ble_eq_true rfl) dL_law_706 ⟨by show _ ≤ 601024; omega, by show _ ≤ 7292999; omega⟩ (fun H locs hP hD hS => ?_)
  refine lv_aload_n hx hb dL_law_709 rfl (lv_at hl 2 rfl) ?_
  refine lv_aload_n hx hb dL_law_710 rfl (lv_at hl 0 rfl) ?_
  refine lv_iload hx hb dL_law_711 (lv_at hl 4 rfl) ?_
  refine lv_iconst (v := (1 : Int32)) hx hb dL_law_713 (by decide) ?_
  refine lv_iadd hx hb dL_law_714 ?_
  refine va_sld hx hb hX hbl hbA hS hv1 dL_law_715 ?_
  refine kI_callVs (As := [.int ((xs ((nI i) + (1 : Int32)).toNatClampNeg))]) (rest := [.int r.1]) (wr := (wC cI α gw gc gs ge gf cR cL r.2.1 pB SD RK RN RS RC RT LK LN LS LL US UB r.2.2) ++ [(o, .inl (cJ, 1, .inr (.inl OUT)))]) (wn := wL cI cJ α β o OUT gw gc gs ge gf cR cL r.2.1 pB SD RK RN RS RC RT LK LN LS LL US UB r.2.2 t.2.1 mW mH mS mR mL mC t.2.2.1 mA mB KK KN KS KC AN JK JN JS JL MY KP FI t.2.2.2) S hP hD hS [19, 20, 21, 22, 23, 24, 25, 26, 27, 28, 29, 30, 31, 32] [0, 1, 2, 3, 4, 5, 6, 7, 8, 9, 10, 11, 12, 13, 14, 15, 16, 17, 18, 33] [0, 1, 2, 3, 4, 5, 6, 7, 8, 9, 10, 11, 12, 13, 14, 15, 16, 17, 18, 20, 21, 22, 23, 24, 25, 26, 27, 28, 29, 30, 31, 32, 33, 19] rfl rfl rfl rfl (by decide) rfl rfl (c_X6_unit l D cI β mT mW mH mS mR mL mC mZ mA mB KK KN KS KC AN JK JN JS JL MY KP FI TX ((xs ((nI i) + (1 : Int32)).toNatClampNeg)) t h6) (cwV 1 hts gL_law_X6_unit rfl rfl rfl (by decide +kernel) ⟨(Nat.le_of_ble_eq_true rfl), (Nat.le_of_ble_eq_true rfl)⟩) 0 rfl rfl rfl hl.1 rfl (Nat.le_of_ble_eq_true rfl) dL_law_716 ⟨by show _ ≤ 601024; omega, by show _ ≤ 7292999; omega⟩ (fun H locs hP hD hS => ?_)
  refine lv_icmp_eq (tgt := 737) hx hb dL_law_719 (by decide) (fun c9 => ?_) (fun c9 => absurd heq c9)
  refine W.widen (k := 34 + (k + 1)) (n := 4936 + 6 * (k + 1)) (by omega) (by omega) ?_
  exact w737 OUT gw gc gs ge gf cR cL r.2.1 pB SD RK RN RS RC RT LK LN LS LL US UB r.2.2 t.2.1 mW mH mS mR mL mC t.2.2.1 mA mB KK KN KS KC AN JK JN JS JL MY KP FI t.2.2.2 hsim H locs ls hP hD hS (lv_sub hl [0, 1, 2, 3, 4] rfl)
set_option maxHeartbeats 8000000 in
set_option maxRecDepth 100000 in
theorem lc_read {p : Program} {l : Launch} {e : Env} {s : State} {m : MethodId} {below : List Frame} {meth : Method} {c : Code} {D : va_G} {cI cJ : ClassId} {α β : Nat → Nat} {o : Nat} {A : Nat → Prop} {b L : Nat} {xs : Nat → Int32} (hL : L ≤ 2051) (hlt : l.stackTraces = false) (S : kC p s m #[Value.ref b] meth c cL_law 7 wsL_law RL ret D cI A) (T : kT l s A) (hNc : lk s) (hK2 : va_K D vwCl [(cI, .int), (cJ, .long)] s) (hX : va_X b L xs s s.heap) (hbl : b < s.heap.size) (hbA : ¬ A b) (hA9 : ∀ q, A q → s.heap.size ≤ q) (k i : Nat) (hk : k ≤ 512) (hv0 : vp_in (nI i) L) (hv1 : vp_in (nI i + (1 : Int32)) L) (hv2 : vp_in (nI i + (2 : Int32)) L) (hv3 : vp_in (nI i + (3 : Int32)) L)
    (w737 : ∀ (OUT : Nat → Int64) (gw gc gs ge gf cR cL cB pB : Int32) (SD RK RN RS RC RT LK LN LS LL US UB BB : Nat → Int32) (mT mW mH mS mR mL mC mZ mA mB : Int32) (KK KN KS KC AN JK JN JS JL MY KP FI TX : Nat → Int32) (hs : Sim gw gc gs ge gf cR cL cB pB SD RK RN RS RC RT LK LN LS LL US UB BB mT mW mH mS mR mL mC mZ mA mB KK KN KS KC AN JK JN JS JL MY KP FI TX) (H : Heap) (locs : List Loc) (ls : Array Slot), va_P D vwCl (wL cI cJ α β o OUT gw gc gs ge gf cR cL cB pB SD RK RN RS RC RT LK LN LS LL US UB BB mT mW mH mS mR mL mC mZ mA mB KK KN KS KC AN JK JN JS JL MY KP FI TX) H → va_D A (wL cI cJ α β o OUT gw gc gs ge gf cR cL cB pB SD RK RN RS RC RT LK LN LS LL US UB BB mT mW mH mS mR mL mC mZ mA mB KK KN KS KC AN JK JN JS JL MY KP FI TX) → va_S A s.heap H locs → lv_has ls 7 [(0, .ref b), (1, .ref (α 0)), (2, .ref (β 0)), (3, .ref o), (4, .int (nI i))] → W p l e room_1 s m #[Value.ref b] below meth c H locs (34 + (k + 1)) (4936 + 6 * (k + 1)) (lw_Z below #[Value.ref b] s) (F0 m 737 ls [])) :
    ∀ (OUT : Nat → Int64) (gw gc gs ge gf cR cL cB pB : Int32) (SD RK RN RS RC RT LK LN LS LL US UB BB : Nat → Int32) (mT mW mH mS mR mL mC mZ mA mB : Int32) (KK KN KS KC AN JK JN JS JL MY KP FI TX : Nat → Int32) (hs : Sim gw gc gs ge gf cR cL cB pB SD RK RN RS RC RT LK LN LS LL US UB BB mT mW mH mS mR mL mC mZ mA mB KK KN KS KC AN JK JN JS JL MY KP FI TX) (H : Heap) (locs : List Loc) (ls : Array Slot), va_P D vwCl (wL cI cJ α β o OUT gw gc gs ge gf cR cL cB pB SD RK RN RS RC RT LK LN LS LL US UB BB mT mW mH mS mR mL mC mZ mA mB KK KN KS KC AN JK JN JS JL MY KP FI TX) H → va_D A (wL cI cJ α β o OUT gw gc gs ge gf cR cL cB pB SD RK RN RS RC RT LK LN LS LL US UB BB mT mW mH mS mR mL mC mZ mA mB KK KN KS KC AN JK JN JS JL MY KP FI TX) → va_S A s.heap H locs → lv_has ls 7 [(0, .ref b), (1, .ref (α 0)), (2, .ref (β 0)), (3, .ref o), (4, .int (nI i))] → W p l e room_1 s m #[Value.ref b] below meth c H locs (34 + k) (4936 + 6 * k) (lw_Z below #[Value.ref b] s) (F0 m 724 ls []) := by
  have hx := S.1.1
  have hb := S.1.2.1
  have hts := S.1.2.2.2.2
  intro OUT gw gc gs ge gf cR cL cB pB SD RK RN RS RC RT LK LN LS LL US UB BB mT mW mH mS mR mL mC mZ mA mB KK KN KS KC AN JK JN JS JL MY KP FI TX hs H locs ls hP hD hS hl
  obtain ⟨r, t, h5, h6, heq, hsim⟩ := P_read gw gc gs ge gf cR cL cB pB SD RK RN RS RC RT LK LN LS LL US UB BB mT mW mH mS mR mL mC mZ mA mB KK KN KS KC AN JK JN JS JL MY KP FI TX hs 
  refine lv_aload_n hx hb dL_law_724 rfl (lv_at hl 1 rfl) ?_
  refine kI_callVs (As := []) (rest := []) (wr := (wM cI β mT mW mH mS mR mL mC mZ mA mB KK KN KS KC AN JK JN JS JL MY KP FI TX) ++ [(o, .inl (cJ, 1, .inr (.inl OUT)))]) (wn := wL cI cJ α β o OUT gw gc gs ge gf cR r.2.1 r.2.2.1 r.2.2.2.1 SD RK RN RS RC RT r.2.2.2.2.1 r.2.2.2.2.2.1 r.2.2.2.2.2.2.1 r.2.2.2.2.2.2.2 US UB BB mT mW mH mS mR mL mC mZ mA mB KK KN KS KC AN JK JN JS JL MY KP FI TX) S hP hD hS [0, 1, 2, 3, 4, 5, 6, 7, 8, 9, 10, 11, 12, 13, 14, 15, 16, 17, 18] [19, 20, 21, 22, 23, 24, 25, 26, 27, 28, 29, 30, 31, 32, 33] [15, 16, 17, 18, 19, 20, 21, 22, 23, 24, 25, 26, 27, 28, 29, 30, 31, 32, 33, 0, 1, 2, 3, 4, 5, 6, 7, 8, 9, 10, 11, 12, 13, 14] rfl rfl rfl rfl (by decide) rfl rfl (c_X5_read l D cI α gw gc gs ge gf cR cL cB pB SD RK RN RS RC RT LK LN LS LL US UB BB FF r h5) (cwV 0 hts gL_law_X5_read rfl rfl rfl (by decide +kernel) ⟨(Nat.le_of_ble_eq_true rfl), (Nat.le_of_ble_eq_true rfl)⟩) 0 rfl rfl rfl hl.1 rfl (Nat.le_of_ble_eq_true rfl) dL_law_725 ⟨by show _ ≤ 601024; omega, by show _ ≤ 7292999; omega⟩ (fun H locs hP hD hS => ?_)
  refine lv_aload_n hx hb dL_law_728 rfl (lv_at hl 2 rfl) ?_
  refine kI_callVs (As := []) (rest := [.int r.1]) (wr := (wC cI α gw gc gs ge gf cR r.2.1 r.2.2.1 r.2.2.2.1 SD RK RN RS RC RT r.2.2.2.2.1 r.2.2.2.2.2.1 r.2.2.2.2.2.2.1 r.2.2.2.2.2.2.2 US UB BB) ++ [(o, .inl (cJ, 1, .inr (.inl OUT)))]) (wn := wL cI cJ α β o OUT gw gc gs ge gf cR r.2.1 r.2.2.1 r.2.2.2.1 SD RK RN RS RC RT r.2.2.2.2.1 r.2.2.2.2.2.1 r.2.2.2.2.2.2.1 r.2.2.2.2.2.2.2 US UB BB t.2.1 mW mH mS mR t.2.2.1 mC t.2.2.2.1 t.2.2.2.2.1 t.2.2.2.2.2.1 KK KN KS KC AN t.2.2.2.2.2.2.1 t.2.2.2.2.2.2.2.1 t.2.2.2.2.2.2.2.2.1 t.2.2.2.2.2.2.2.2.2 MY KP FI TX) S hP hD hS [19, 20, 21, 22, 23, 24, 25, 26, 27, 28, 29, 30, 31, 32] [0, 1, 2, 3, 4, 5, 6, 7, 8, 9, 10, 11, 12, 13, 14, 15, 16, 17, 18, 33] [0, 1, 2, 3, 4, 5, 6, 7, 8, 9, 10, 11, 12, 13, 14, 15, 16, 17, 18, 20, 21, 22, 23, 24, 25, 26, 27, 28, 29, 30, 31, 32, 33, 19] rfl rfl rfl rfl (by decide) rfl rfl (c_X6_read l D cI β mT mW mH mS mR mL mC mZ mA mB KK KN KS KC AN JK JN JS JL MY KP FI TX FF t h6) (cwV 0 hts gL_law_X6_read rfl rfl rfl (by decide +kernel) ⟨(Nat.le_of_ble_eq_true rfl), (Nat.le_of_ble_eq_true rfl)⟩) 0 rfl rfl rfl hl.1 rfl (Nat.le_of_ble_eq_true rfl) dL_law_729 ⟨by show _ ≤ 601024; omega, by show _ ≤ 7292999; omega⟩ (fun H locs hP hD hS => ?_)
  refine lv_icmp_eq (tgt := 737) hx hb dL_law_732 (by decide) (fun c9 => ?_) (fun c9 => absurd heq c9)
  refine W.widen (k := 34 + (k + 1)) (n := 4936 + 6 * (k + 1)) (by omega) (by omega) ?_
  exact w737 OUT gw gc gs ge gf cR r.2.1 r.2.2.1 r.2.2.2.1 SD RK RN RS RC RT r.2.2.2.2.1 r.2.2.2.2.2.1 r.2.2.2.2.2.2.1 r.2.2.2.2.2.2.2 US UB BB t.2.1 mW mH mS mR t.2.2.1 mC t.2.2.2.1 t.2.2.2.2.1 t.2.2.2.2.2.1 KK KN KS KC AN t.2.2.2.2.2.2.1 t.2.2.2.2.2.2.2.1 t.2.2.2.2.2.2.2.2.1 t.2.2.2.2.2.2.2.2.2 MY KP FI TX hsim H locs ls hP hD hS (lv_sub hl [0, 1, 2, 3, 4] rfl)
set_option maxHeartbeats 8000000 in
set_option maxRecDepth 100000 in
theorem law_loop {p : Program} {l : Launch} {e : Env} {s : State} {m : MethodId} {below : List Frame} {meth : Method} {c : Code} {D : va_G} {cI cJ : ClassId} {α β : Nat → Nat} {o : Nat} {A : Nat → Prop} {b L : Nat} {xs : Nat → Int32} (hL : L ≤ 2051) (hlt : l.stackTraces = false) (S : kC p s m #[Value.ref b] meth c cL_law 7 wsL_law RL ret D cI A) (T : kT l s A) (hNc : lk s) (hK2 : va_K D vwCl [(cI, .int), (cJ, .long)] s) (hX : va_X b L xs s s.heap) (hbl : b < s.heap.size) (hbA : ¬ A b) (hA9 : ∀ q, A q → s.heap.size ≤ q) : ∀ (n k i : Nat), i = 3 + 4 * k → i ≤ L + 4 → L + 8 ≤ i + n → ∀ (OUT : Nat → Int64) (gw gc gs ge gf cR cL cB pB : Int32) (SD RK RN RS RC RT LK LN LS LL US UB BB : Nat → Int32) (mT mW mH mS mR mL mC mZ mA mB : Int32) (KK KN KS KC AN JK JN JS JL MY KP FI TX : Nat → Int32) (hs : Sim gw gc gs ge gf cR cL cB pB SD RK RN RS RC RT LK LN LS LL US UB BB mT mW mH mS mR mL mC mZ mA mB KK KN KS KC AN JK JN JS JL MY KP FI TX) (H : Heap) (locs : List Loc) (ls : Array Slot), va_P D vwCl (wL cI cJ α β o OUT gw gc gs ge gf cR cL cB pB SD RK RN RS RC RT LK LN LS LL US UB BB mT mW mH mS mR mL mC mZ mA mB KK KN KS KC AN JK JN JS JL MY KP FI TX) H → va_D A (wL cI cJ α β o OUT gw gc gs ge gf cR cL cB pB SD RK RN RS RC RT LK LN LS LL US UB BB mT mW mH mS mR mL mC mZ mA mB KK KN KS KC AN JK JN JS JL MY KP FI TX) → va_S A s.heap H locs → lv_has ls 7 [(0, .ref b), (1, .ref (α 0)), (2, .ref (β 0)), (3, .ref o), (4, .int (nI i))] → W p l e room_1 s m #[Value.ref b] below meth c H locs (34 + k) (4936 + 6 * k) (lw_Z below #[Value.ref b] s) (F0 m 53 ls []) := by
  have hx := S.1.1
  have hb := S.1.2.1
  have hts := S.1.2.2.2.2
  intro n
  induction n with
  | zero => intro k i hki hi hn; exact absurd hn (by omega)
  | succ n ih =>
    intro k i hki hi hn OUT gw gc gs ge gf cR cL cB pB SD RK RN RS RC RT LK LN LS LL US UB BB mT mW mH mS mR mL mC mZ mA mB KK KN KS KC AN JK JN JS JL MY KP FI TX hs H locs ls hP hD hS hl
    refine lv_iload hx hb dL_law_53 (lv_at hl 4 rfl) ?_
    refine lv_aload_n hx hb dL_law_55 rfl (lv_at hl 0 rfl) ?_
    refine va_slen hx hb hX hbl hbA hS dL_law_56 ?_
    refine lv_iconst (v := (4 : Int32)) hx hb dL_law_57 (by decide) ?_
    refine lv_isub hx hb dL_law_58 ?_
    refine lv_icmp_gt (tgt := 743) hx hb dL_law_59 (by decide) (fun c1 => ?_) (fun c1 => ?_)
    · refine lv_iconst (v := 1) hx hb dL_law_743 (by decide) ?_
      refine va_forget (fun q hq => hA9 _ (hS.2.2 q hq)) ?_
      refine W.widen (k := 601024) (n := 7292999) (by omega) (by omega) ?_
      exact lw_ret hx hb S.2.1 S.2.2.1 dL_law_744
    · have hi4 : i + 4 ≤ L := law_lt (by omega) (by omega) c1
      have hv0 : vp_in (nI i) L := vp_in_nI (by omega) (by omega)
      have hv1 : vp_in (nI i + (1 : Int32)) L := by rw [show (1 : Int32) = nI 1 from rfl, nI_add]; exact vp_in_nI (by omega) (by omega)
      have hv2 : vp_in (nI i + (2 : Int32)) L := by rw [show (2 : Int32) = nI 2 from rfl, nI_add]; exact vp_in_nI (by omega) (by omega)
      have hv3 : vp_in (nI i + (3 : Int32)) L := by rw [show (3 : Int32) = nI 3 from rfl, nI_add]; exact vp_in_nI (by omega) (by omega)
      have w737 : ∀ (OUT : Nat → Int64) (gw gc gs ge gf cR cL cB pB : Int32) (SD RK RN RS RC RT LK LN LS LL US UB BB : Nat → Int32) (mT mW mH mS mR mL mC mZ mA mB : Int32) (KK KN KS KC AN JK JN JS JL MY KP FI TX : Nat → Int32) (hs : Sim gw gc gs ge gf cR cL cB pB SD RK RN RS RC RT LK LN LS LL US UB BB mT mW mH mS mR mL mC mZ mA mB KK KN KS KC AN JK JN JS JL MY KP FI TX) (H : Heap) (locs : List Loc) (ls : Array Slot), va_P D vwCl (wL cI cJ α β o OUT gw gc gs ge gf cR cL cB pB SD RK RN RS RC RT LK LN LS LL US UB BB mT mW mH mS mR mL mC mZ mA mB KK KN KS KC AN JK JN JS JL MY KP FI TX) H → va_D A (wL cI cJ α β o OUT gw gc gs ge gf cR cL cB pB SD RK RN RS RC RT LK LN LS LL US UB BB mT mW mH mS mR mL mC mZ mA mB KK KN KS KC AN JK JN JS JL MY KP FI TX) → va_S A s.heap H locs → lv_has ls 7 [(0, .ref b), (1, .ref (α 0)), (2, .ref (β 0)), (3, .ref o), (4, .int (nI i))] → W p l e room_1 s m #[Value.ref b] below meth c H locs (34 + (k + 1)) (4936 + 6 * (k + 1)) (lw_Z below #[Value.ref b] s) (F0 m 737 ls []) := by
        intro OUT gw gc gs ge gf cR cL cB pB SD RK RN RS RC RT LK LN LS LL US UB BB mT mW mH mS mR mL mC mZ mA mB KK KN KS KC AN JK JN JS JL MY KP FI TX hs H locs ls hP hD hS hl
        refine lv_iinc (v := nI (i + 4)) (lv' := [(4, .int (nI (i + 4))), (0, .ref b), (1, .ref (α 0)), (2, .ref (β 0)), (3, .ref o)]) hx hb dL_law_737 hl (k := 4) rfl (by rw [show Int32.ofInt 4 = nI 4 from rfl, nI_add]) (by decide) rfl (fun ls hl => ?_)
        refine lv_goto (tgt := 53) hx hb dL_law_740 (by decide) ?_
        exact ih (k + 1) (i + 4) (by omega) (by omega) (by omega) OUT gw gc gs ge gf cR cL cB pB SD RK RN RS RC RT LK LN LS LL US UB BB mT mW mH mS mR mL mC mZ mA mB KK KN KS KC AN JK JN JS JL MY KP FI TX hs H locs ls hP hD hS (lv_sub hl [1, 2, 3, 4, 0] rfl)
      refine lv_aload_n hx hb dL_law_62 rfl (lv_at hl 0 rfl) ?_
      refine lv_iload hx hb dL_law_63 (lv_at hl 4 rfl) ?_
      refine va_sld hx hb hX hbl hbA hS hv0 dL_law_65 ?_
      refine lv_bipush (v := (15 : Int32)) hx hb dL_law_66 (by decide) ?_
      refine lv_iand hx hb dL_law_68 ?_
      by_cases c_0 : (xs (nI i).toNatClampNeg &&& (15 : Int32)) = (0 : Int32)
      · refine sw_in (k := (0 : Int32)) (tgt := 140) hx hb c_0 dL_law_69 (by decide) (by decide) rfl (by decide) ?_
        exact lc_rule hL hlt S T hNc hK2 hX hbl hbA hA9 k i (by omega) hv0 hv1 hv2 hv3 w737 OUT gw gc gs ge gf cR cL cB pB SD RK RN RS RC RT LK LN LS LL US UB BB mT mW mH mS mR mL mC mZ mA mB KK KN KS KC AN JK JN JS JL MY KP FI TX hs H locs ls hP hD hS hl
      by_cases c_1 : (xs (nI i).toNatClampNeg &&& (15 : Int32)) = (1 : Int32)
      · refine sw_in (k := (1 : Int32)) (tgt := 177) hx hb c_1 dL_law_69 (by decide) (by decide) rfl (by decide) ?_
        exact lc_into hL hlt S T hNc hK2 hX hbl hbA hA9 k i (by omega) hv0 hv1 hv2 hv3 w737 OUT gw gc gs ge gf cR cL cB pB SD RK RN RS RC RT LK LN LS LL US UB BB mT mW mH mS mR mL mC mZ mA mB KK KN KS KC AN JK JN JS JL MY KP FI TX hs H locs ls hP hD hS hl
      by_cases c_2 : (xs (nI i).toNatClampNeg &&& (15 : Int32)) = (2 : Int32)
      · refine sw_in (k := (2 : Int32)) (tgt := 252) hx hb c_2 dL_law_69 (by decide) (by decide) rfl (by decide) ?_
        exact lc_answer hL hlt S T hNc hK2 hX hbl hbA hA9 k i (by omega) hv0 hv1 hv2 hv3 w737 OUT gw gc gs ge gf cR cL cB pB SD RK RN RS RC RT LK LN LS LL US UB BB mT mW mH mS mR mL mC mZ mA mB KK KN KS KC AN JK JN JS JL MY KP FI TX hs H locs ls hP hD hS hl
      by_cases c_3 : (xs (nI i).toNatClampNeg &&& (15 : Int32)) = (3 : Int32)
      · refine sw_in (k := (3 : Int32)) (tgt := 327) hx hb c_3 dL_law_69 (by decide) (by decide) rfl (by decide) ?_
        exact lc_test hL hlt S T hNc hK2 hX hbl hbA hA9 k i (by omega) hv0 hv1 hv2 hv3 w737 OUT gw gc gs ge gf cR cL cB pB SD RK RN RS RC RT LK LN LS LL US UB BB mT mW mH mS mR mL mC mZ mA mB KK KN KS KC AN JK JN JS JL MY KP FI TX hs H locs ls hP hD hS hl
      by_cases c_4 : (xs (nI i).toNatClampNeg &&& (15 : Int32)) = (4 : Int32)
      · refine sw_in (k := (4 : Int32)) (tgt := 383) hx hb c_4 dL_law_69 (by decide) (by decide) rfl (by decide) ?_
        exact lc_fails hL hlt S T hNc hK2 hX hbl hbA hA9 k i (by omega) hv0 hv1 hv2 hv3 w737 OUT gw gc gs ge gf cR cL cB pB SD RK RN RS RC RT LK LN LS LL US UB BB mT mW mH mS mR mL mC mZ mA mB KK KN KS KC AN JK JN JS JL MY KP FI TX hs H locs ls hP hD hS hl
      by_cases c_5 : (xs (nI i).toNatClampNeg &&& (15 : Int32)) = (5 : Int32)
      · refine sw_in (k := (5 : Int32)) (tgt := 396) hx hb c_5 dL_law_69 (by decide) (by decide) rfl (by decide) ?_
        exact lc_line hL hlt S T hNc hK2 hX hbl hbA hA9 k i (by omega) hv0 hv1 hv2 hv3 w737 OUT gw gc gs ge gf cR cL cB pB SD RK RN RS RC RT LK LN LS LL US UB BB mT mW mH mS mR mL mC mZ mA mB KK KN KS KC AN JK JN JS JL MY KP FI TX hs H locs ls hP hD hS hl
      by_cases c_6 : (xs (nI i).toNatClampNeg &&& (15 : Int32)) = (6 : Int32)
      · refine sw_in (k := (6 : Int32)) (tgt := 433) hx hb c_6 dL_law_69 (by decide) (by decide) rfl (by decide) ?_
        exact lc_literal hL hlt S T hNc hK2 hX hbl hbA hA9 k i (by omega) hv0 hv1 hv2 hv3 w737 OUT gw gc gs ge gf cR cL cB pB SD RK RN RS RC RT LK LN LS LL US UB BB mT mW mH mS mR mL mC mZ mA mB KK KN KS KC AN JK JN JS JL MY KP FI TX hs H locs ls hP hD hS hl
      by_cases c_7 : (xs (nI i).toNatClampNeg &&& (15 : Int32)) = (7 : Int32)
      · refine sw_in (k := (7 : Int32)) (tgt := 536) hx hb c_7 dL_law_69 (by decide) (by decide) rfl (by decide) ?_
        exact lc_drop hL hlt S T hNc hK2 hX hbl hbA hA9 k i (by omega) hv0 hv1 hv2 hv3 w737 OUT gw gc gs ge gf cR cL cB pB SD RK RN RS RC RT LK LN LS LL US UB BB mT mW mH mS mR mL mC mZ mA mB KK KN KS KC AN JK JN JS JL MY KP FI TX hs H locs ls hP hD hS hl
      by_cases c_8 : (xs (nI i).toNatClampNeg &&& (15 : Int32)) = (8 : Int32)
      · refine sw_in (k := (8 : Int32)) (tgt := 549) hx hb c_8 dL_law_69 (by decide) (by decide) rfl (by decide) ?_
        exact lc_check hL hlt S T hNc hK2 hX hbl hbA hA9 k i (by omega) hv0 hv1 hv2 hv3 w737 OUT gw gc gs ge gf cR cL cB pB SD RK RN RS RC RT LK LN LS LL US UB BB mT mW mH mS mR mL mC mZ mA mB KK KN KS KC AN JK JN JS JL MY KP FI TX hs H locs ls hP hD hS hl
      by_cases c_9 : (xs (nI i).toNatClampNeg &&& (15 : Int32)) = (9 : Int32)
      · refine sw_in (k := (9 : Int32)) (tgt := 562) hx hb c_9 dL_law_69 (by decide) (by decide) rfl (by decide) ?_
        exact lc_proves hL hlt S T hNc hK2 hX hbl hbA hA9 k i (by omega) hv0 hv1 hv2 hv3 w737 OUT gw gc gs ge gf cR cL cB pB SD RK RN RS RC RT LK LN LS LL US UB BB mT mW mH mS mR mL mC mZ mA mB KK KN KS KC AN JK JN JS JL MY KP FI TX hs H locs ls hP hD hS hl
      by_cases c_10 : (xs (nI i).toNatClampNeg &&& (15 : Int32)) = (10 : Int32)
      · refine sw_in (k := (10 : Int32)) (tgt := 575) hx hb c_10 dL_law_69 (by decide) (by decide) rfl (by decide) ?_
        exact lc_tell hL hlt S T hNc hK2 hX hbl hbA hA9 k i (by omega) hv0 hv1 hv2 hv3 w737 OUT gw gc gs ge gf cR cL cB pB SD RK RN RS RC RT LK LN LS LL US UB BB mT mW mH mS mR mL mC mZ mA mB KK KN KS KC AN JK JN JS JL MY KP FI TX hs H locs ls hP hD hS hl
      by_cases c_11 : (xs (nI i).toNatClampNeg &&& (15 : Int32)) = (11 : Int32)
      · refine sw_in (k := (11 : Int32)) (tgt := 643) hx hb c_11 dL_law_69 (by decide) (by decide) rfl (by decide) ?_
        exact lc_may hL hlt S T hNc hK2 hX hbl hbA hA9 k i (by omega) hv0 hv1 hv2 hv3 w737 OUT gw gc gs ge gf cR cL cB pB SD RK RN RS RC RT LK LN LS LL US UB BB mT mW mH mS mR mL mC mZ mA mB KK KN KS KC AN JK JN JS JL MY KP FI TX hs H locs ls hP hD hS hl
      by_cases c_12 : (xs (nI i).toNatClampNeg &&& (15 : Int32)) = (12 : Int32)
      · refine sw_in (k := (12 : Int32)) (tgt := 699) hx hb c_12 dL_law_69 (by decide) (by decide) rfl (by decide) ?_
        exact lc_unit hL hlt S T hNc hK2 hX hbl hbA hA9 k i (by omega) hv0 hv1 hv2 hv3 w737 OUT gw gc gs ge gf cR cL cB pB SD RK RN RS RC RT LK LN LS LL US UB BB mT mW mH mS mR mL mC mZ mA mB KK KN KS KC AN JK JN JS JL MY KP FI TX hs H locs ls hP hD hS hl
      by_cases c_13 : (xs (nI i).toNatClampNeg &&& (15 : Int32)) = (13 : Int32)
      · refine sw_in (k := (13 : Int32)) (tgt := 724) hx hb c_13 dL_law_69 (by decide) (by decide) rfl (by decide) ?_
        exact lc_read hL hlt S T hNc hK2 hX hbl hbA hA9 k i (by omega) hv0 hv1 hv2 hv3 w737 OUT gw gc gs ge gf cR cL cB pB SD RK RN RS RC RT LK LN LS LL US UB BB mT mW mH mS mR mL mC mZ mA mB KK KN KS KC AN JK JN JS JL MY KP FI TX hs H locs ls hP hD hS hl
      refine lv_tableOut (tgt := 737) hx hb dL_law_69 (by have e0 := lv_neT (a := 0) c_0 rfl; have e1 := lv_neT (a := 1) c_1 rfl; have e2 := lv_neT (a := 2) c_2 rfl; have e3 := lv_neT (a := 3) c_3 rfl; have e4 := lv_neT (a := 4) c_4 rfl; have e5 := lv_neT (a := 5) c_5 rfl; have e6 := lv_neT (a := 6) c_6 rfl; have e7 := lv_neT (a := 7) c_7 rfl; have e8 := lv_neT (a := 8) c_8 rfl; have e9 := lv_neT (a := 9) c_9 rfl; have e10 := lv_neT (a := 10) c_10 rfl; have e11 := lv_neT (a := 11) c_11 rfl; have e12 := lv_neT (a := 12) c_12 rfl; have e13 := lv_neT (a := 13) c_13 rfl; omega) (by decide) ?_
      refine W.widen (k := 34 + (k + 1)) (n := 4936 + 6 * (k + 1)) (by omega) (by omega) ?_
      exact w737 OUT gw gc gs ge gf cR cL cB pB SD RK RN RS RC RT LK LN LS LL US UB BB mT mW mH mS mR mL mC mZ mA mB KK KN KS KC AN JK JN JS JL MY KP FI TX hs H locs ls hP hD hS hl
