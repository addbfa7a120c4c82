/-! MY KIT for the law: calls over a part of the cells, methods with an exception table that return, catching a callee's throw. -/
theorem np_sub {D : va_G} {A : Nat → Prop} {w wn : va_W} {H : Heap} (hP : va_P D vwCl w H) (hD : va_D A w) (pm : List Nat) (hpm : pm.map (fun i => w[i]?) = wn.map some) (hn : va_nd pm = true) : va_P D vwCl wn H ∧ va_D A wn := ⟨hP.sub pm (fm_map hpm), hD.sub pm hn hpm⟩
/-- that the one exception is not the other, and the law's own link to its name -/
def lk (U : State) : Prop := va_Nc eI eA U ∧ (Cond.classLink RL 13 eA).before #[] U = true
theorem lk.warm {s U : State} (hW : s.WarmedH U.vm) (h : lk s) : lk U := ⟨va_Nc.moved hW.alike h.1, word_at hW (Or.inl rfl) h.2⟩
theorem lk.link {s : State} {args : Array Value} (h : lk s) : (Cond.classLink RL 13 eA).before args s = true := word_at (State.WarmedH.refl s) (Or.inl rfl) h.2
section MK4
variable {p : Program} {l : Launch} {e : Env} {R : Room} {s : State} {m : MethodId} {args : Array Value} {below : List Frame} {meth : Method} {c : Code} {H : Heap} {locs : List Loc} {cells slots : Nat} {Q : State → Prop}
variable {D : va_G} {cI cJ : ClassId} {A : Nat → Prop} {cc bytes : ByteArray} {pc maxL nL index n : Nat} {ls : Array Slot} {own C : String} {y : MethodName} {ret : Option FieldType} {ws wsy ws' Ts : List Cond} {rm : Room} {wc wn w1 wr wo : va_W} {r : Int32} {As rest st : List Value} {b : Nat} {E : String}
theorem kI_callVs {ret' : Option FieldType} (S : kC p s m args meth c cc nL ws own ret D cI A) (hP : va_P D vwCl wo H) (hD : va_D A wo) (hS : va_S A s.heap H locs) (isC isR pm : List Nat) (hC : isC.map (fun i => wo[i]?) = wc.map some) (hnC : va_nd isC = true) (hR : isR.map (fun i => wo[i]?) = wr.map some) (hnR : va_nd isR = true) (hdis : ∀ i ∈ isR, i ∉ isC) (hpm : pm.map (fun i => (wr ++ w1)[i]?) = wn.map some) (hnp : va_nd pm = true)
    (hM : kI l y wsy rm D cI (.ref b :: As) wc w1 r) (cw : CallW R s args own C index y bytes maxL ret' wsy rm 0 0 n) (q0 : Nat) {ci : Nat} {fs : List Value} {T : u_T} {N : Nat} (he : wc[q0]? = some (b, .inr (ci, fs))) (hc : vwCl[ci]? = some (C, T, N))
    (hn : As.length = n) (hsize : ls.size = nL) (hst : st = As.reverse ++ .ref b :: rest) (hroom : (rest.map fun v => v.category).sum ≤ 8) (hdg : decode cc pc = .ok (.invokevirtual index, 3)) (hf : cells ≤ R.cells ∧ slots ≤ R.slots)
    (kk : ∀ (H1 : Heap) (locs1 : List Loc), va_P D vwCl wn H1 → va_D A wn → va_S A s.heap H1 locs1 → W p l e R s m args below meth c H1 locs1 cells slots Q (F0 m (pc + 3) ls (.int r :: rest))) :
    W p l e R s m args below meth c H locs cells slots Q (F0 m pc ls st) := by
  have hPc := hP.sub isC (fm_map hC)
  have hDc := hD.sub isC hnC hC
  have hF := va_free hD hS S.2.2.2.2.2 isC hC
  refine va_calli (va_runV S.1 (hM H.size) cw (kPreV S hPc hDc he hc) rfl hn hsize hst (lv_room hroom) hdg hf) hS (fun q _ h => hF q h) hF (fun r' u t H1 locs1 ht hvm hw hB hz1 hk1 hS1 => ?_)
  cases hw
  obtain ⟨hP2, hD2⟩ := va_join hP hD isC isR hC hR hnR hdis hk1 hF (by rw [← ht]; exact hB.1) hB.2
  obtain ⟨hP3, hD3⟩ := np_sub hP2 hD2 pm hpm hnp
  exact kk H1 locs1 hP3 hD3 hS1
def kPreH (D : va_G) (cI cJ : ClassId) (As : List Value) (wc : va_W) (sz : Nat) : Array Value → State → Prop :=
  va_Pc As (fun U => (U.heap.size = sz ∧ va_P D vwCl wc U.heap ∧ va_K D vwCl [(cI, .int), (cJ, .long)] U ∧ va_D (fun _ => True) wc ∧ nk U) ∧ tk U ∧ sk (va_A wc sz) U U.heap ∧ lk U)
theorem kPreH_blind (D : va_G) (cI cJ : ClassId) (As : List Value) (wc : va_W) (sz : Nat) : FrameBlind (kPreH D cI cJ As wc sz) := fun a U g mk h => by
  obtain ⟨h0, ⟨h1, h2, h3, h4, h5⟩, h6, h7, h8⟩ := h
  exact ⟨h0, ⟨h1, h2, va_K.moved (u := U) (U := U.calling g mk a) (Vm.Alike.refl U.vm) h3, h4, nk.same rfl h5⟩, tk.same (s := U) (U := U.calling g mk a) rfl h6, sk.moved (u := U) (U := U.calling g mk a) (Vm.Alike.refl U.vm) h7, lk.warm (s := U) (U := U.calling g mk a) (State.WarmedH.refl U) h8⟩
/-- the contract of a method with a table, that returns; it may make one exception -/
def kH (l : Launch) (y : MethodName) (ws : List Cond) (rm : Room) (D : va_G) (cI cJ : ClassId) (As : List Value) (wc w1 : va_W) (r : Int32) : Prop :=
  ∀ sz, Met l y ws rm (kPreH D cI cJ As wc sz) (kQi D (va_A wc sz) w1 r) 1 6 (va_A wc sz)
theorem kH_of {hh : List (Nat × Nat × Nat × Nat)} (hy : plainName y.cls = true) (hw : ws = Cond.codeWith y cc maxL ret hh :: ws') (hlen : (lg_sl As).length ≤ maxL) (hlt : l.stackTraces = false)
    (body : ∀ (p : Program) (e : Env) (s : State) (m : MethodId) (args : Array Value) (below : List Frame) (meth : Method) (c : Code) (A : Nat → Prop) (ls : Array Slot), kC p s m args meth c cc maxL ws y.cls ret D cI A → kT l s A → lk s → va_K D vwCl [(cI, .int), (cJ, .long)] s → c.exceptionTable.toList = tableOf hh → ∀ (H : Heap) (locs : List Loc), va_P D vwCl wc H → va_D A wc → va_S A s.heap H locs → lv_has ls maxL (lv_args 0 As) →
      W p l e rm s m args below meth c H locs 0 0 (MQ below (kQi D A w1 r) args s 1 6 A) (F0 m 0 ls [])) : kH l y ws rm D cI cJ As wc w1 r := by
  intro sz
  refine va_MetW (cc := cc) (maxL := maxL) (ret := ret) (hh := hh) hy hw ?_
  intro p e s m args below meth c s₁ B hml hv
  obtain ⟨rfl, ⟨hsz, hP, hK, hD0, hN⟩, hT, hZ, hNc⟩ := hv
  subst hsz
  have hl := lv_entry As (n := maxL) hlen
  have htb := vx_table (x := y) B (atoms_spec (ws := ws) B.pre _ (by rw [hw]; exact List.mem_cons_self))
  rw [lg_entry_eq]
  exact body p e s m _ below meth c _ _ ⟨⟨B.exec, B.bytes, hml, findClass_of_methodNamed B.named, atoms_spec (ws := ws) B.pre⟩, B.returns, B.notSynchronized, hK.sub [0] rfl, hN, fun q h => Or.inr h⟩ ⟨hlt, hT, hZ⟩ hNc hK htb _ _ hP hD0.self va_S.rf hl
theorem kH_ret {ty : FieldType} (S : kC p s m args meth c cc nL ws own (some ty) D cI A) (hn : narrow ty (.int r) = .int r) (hP : va_P D vwCl w1 H) (hD : va_D A w1) (hS : va_S A s.heap H locs) (d : decode cc pc = .ok (.ireturn, 1)) :
    W p l e R s m args below meth c H locs 1 6 (MQ below (kQi D A w1 r) args s 1 6 A) (F0 m pc ls [.int r]) :=
  W.zret (ty := ty) S.1.1 S.1.2.1 S.2.1 hn (fun t ht hW => ⟨⟨r, (), rfl, rfl, by rw [ht]; exact hP, hD⟩, hS.F ht⟩) hS.2.2 d S.2.2.1
/-- a callee that throws E, caught here -/
theorem kX_catchV {ret' : Option FieldType} (S : kC p s m args meth c cc nL ws own ret D cI A) (T : kT l s A) (hP : va_P D vwCl wo H) (hD : va_D A wo) (hS : va_S A s.heap H locs) (isC isR : List Nat) (hC : isC.map (fun i => wo[i]?) = wc.map some) (hnC : va_nd isC = true) (hR : isR.map (fun i => wo[i]?) = wr.map some) (hnR : va_nd isR = true) (hdis : ∀ i ∈ isR, i ∉ isC)
    (hM : kX l y wsy rm D cI (.ref b :: As) wc E qi) (cw : CallW R s args own C index y bytes maxL ret' wsy rm 1 6 n) (q0 : Nat) {ci : Nat} {fs : List Value} {T' : u_T} {N : Nat} (he : wc[q0]? = some (b, .inr (ci, fs))) (hc : vwCl[ci]? = some (C, T', N))
    (hn : As.length = n) (hsize : ls.size = nL) (hst : st = As.reverse ++ .ref b :: rest) (hroom : (rest.map fun v => v.category).sum ≤ 8) (hdg : decode cc pc = .ok (.invokevirtual index, 3)) (hf : cells + 1 ≤ R.cells ∧ slots + 6 ≤ R.slots)
    {name : String} (pre : List ExceptionTableEntry) (x : ExceptionTableEntry) (suf : List ExceptionTableEntry) (hsplit : c.exceptionTable.toList = pre ++ x :: suf)
    (hpass : ∀ z ∈ pre, covers z pc = false ∨ (z.catchType ≠ 0 ∧ ∃ nm : String, (Cond.classLink own z.catchType nm).before args s = true ∧ va_Nc E nm s)) (hx : covers x pc = true) (h0 : x.catchType ≠ 0)
    (hlink : (Cond.classLink own x.catchType name).before args s = true) (hcast : (Cond.castable E name).before args s = true)
    (kk : ∀ (q : Nat) (H1 : Heap) (locs1 : List Loc), va_P D vwCl (wr ++ wc) H1 → va_D A (wr ++ wc) → va_S A s.heap H1 locs1 → W p l e R s m args below meth c H1 locs1 (cells + 1) (slots + 6) Q (F0 m x.handlerPc ls [.ref q])) :
    W p l e R s m args below meth c H locs cells slots Q (F0 m pc ls st) := by
  have hPc := hP.sub isC (fm_map hC)
  have hDc := hD.sub isC hnC hC
  have hF := va_free hD hS S.2.2.2.2.2 isC hC
  have hpre : PreV s H C b (kPreX D cI (.ref b :: As) wc H.size) As :=
    ⟨kPreX_blind _ _ _ _ _, va_recv (q := (C, T', N)) S.2.2.2.1 hPc hc he, fun U hU hW => ⟨rfl, ⟨by rw [hU], by rw [hU]; exact hPc, va_K.moved hW.alike S.2.2.2.1, hDc.weaken (fun _ _ _ _ => trivial), nk.warm hW S.2.2.2.2.1⟩, tk.warm hW T.2.1, by rw [hU]; exact ((T.2.2.kept hS.2.1).moved hW.alike).narrow hF⟩⟩
  refine vx_calli (vx_runV S.1 (hM H.size) cw hpre rfl hn hsize hst (lv_room hroom) hdg hf) hS (fun q _ h => hF q h) hF (fun q _ h => hF q h) (fun E9 ce q9 u t H1 locs1 ht hvm hp hB hz hk hS1 hce hv hcl => ?_) (fun r' u t H1 locs1 ht hvm hw hB hz1 hk1 hS1 => hw.elim)
  obtain ⟨hE, hB⟩ := hB
  subst hE
  obtain ⟨hP2, hD2⟩ := va_join hP hD isC isR hC hR hnR hdis hk hF (by rw [← ht]; exact hB) hDc.self
  exact kx_catch S.1.2.2.2.1 pre x suf hsplit hpass hx h0 hlink hcast hce hv hcl (kk q9 H1 locs1 hP2 hD2 hS1)
/-- a call of such a method, static, over a part of the cells -/
theorem kH_callSs {hh : List (Nat × Nat × Nat × Nat)} {ret' : Option FieldType} (S : kC p s m args meth c cc nL ws own ret D cI A) (T : kT l s A) (hNc : lk s) (hK2 : va_K D vwCl [(cI, .int), (cJ, .long)] s) (hP : va_P D vwCl wo H) (hD : va_D A wo) (hS : va_S A s.heap H locs) (isC isR pm : List Nat) (hC : isC.map (fun i => wo[i]?) = wc.map some) (hnC : va_nd isC = true) (hR : isR.map (fun i => wo[i]?) = wr.map some) (hnR : va_nd isR = true) (hdis : ∀ i ∈ isR, i ∉ isC) (hpm : pm.map (fun i => (wr ++ w1)[i]?) = wn.map some) (hnp : va_nd pm = true)
    (hM : kH l y wsy rm D cI cJ As wc w1 r) (cw : vx_CSW R s args own index y bytes maxL ret' hh wsy rm 1 6 n)
    (hn : As.length = n) (hsize : ls.size = nL) (hst : st = As.reverse ++ rest) (hroom : (rest.map fun v => v.category).sum ≤ 8) (hdg : decode cc pc = .ok (.invokestatic index, 3)) (hf : cells + 1 ≤ R.cells ∧ slots + 6 ≤ R.slots)
    (kk : ∀ (H1 : Heap) (locs1 : List Loc), va_P D vwCl wn H1 → va_D A wn → va_S A s.heap H1 locs1 → W p l e R s m args below meth c H1 locs1 (cells + 1) (slots + 6) Q (F0 m (pc + 3) ls (.int r :: rest))) :
    W p l e R s m args below meth c H locs cells slots Q (F0 m pc ls st) := by
  have hPc := hP.sub isC (fm_map hC)
  have hDc := hD.sub isC hnC hC
  have hF := va_free hD hS S.2.2.2.2.2 isC hC
  have hpre : PreS s H (kPreH D cI cJ As wc H.size) As :=
    ⟨kPreH_blind _ _ _ _ _ _, fun U hU hW => ⟨rfl, ⟨by rw [hU], by rw [hU]; exact hPc, va_K.moved hW.alike hK2, hDc.weaken (fun _ _ _ _ => trivial), nk.warm hW S.2.2.2.2.1⟩, tk.warm hW T.2.1, by rw [hU]; exact ((T.2.2.kept hS.2.1).moved hW.alike).narrow hF, lk.warm hW hNc⟩⟩
  refine va_calli (vx_runSW S.1 (hM H.size) cw hpre rfl hn hsize hst (lv_room hroom) hdg hf) hS (fun q _ h => hF q h) hF (fun r' u t H1 locs1 ht hvm hw hB hz1 hk1 hS1 => ?_)
  cases hw
  obtain ⟨hP2, hD2⟩ := va_join hP hD isC isR hC hR hnR hdis hk1 hF (by rw [← ht]; exact hB.1) hB.2
  obtain ⟨hP3, hD3⟩ := np_sub hP2 hD2 pm hpm hnp
  exact kk H1 locs1 hP3 hD3 hS1
end MK4
