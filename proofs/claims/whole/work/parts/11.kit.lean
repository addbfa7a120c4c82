/-! MY KIT: pure guards, the contract of a method whose answer and new cells are known, its start, its end, its calls. -/
/-- an index that is in range -/
def gin {α : Type} (i : Int32) (n : Nat) (k : Option α) : Option α := if 0 ≤ i.toInt ∧ i.toInt < (n : Int) then k else none
def gnz {α : Type} (y : Int32) (k : Option α) : Option α := if y = 0 then none else k
def gbl {α : Type} (v : Int32) (k : Option α) : Option α := if v = 0 ∨ v = 1 then k else none
theorem gin_some {α : Type} {i : Int32} {n : Nat} {k : Option α} {r : α} (h : gin i n k = some r) : vp_in i n ∧ k = some r := by
  unfold gin at h
  split at h
  · exact ⟨vp_in_iff.mpr ‹_›, h⟩
  · cases h
theorem gin_in {α : Type} {i : Int32} {n : Nat} {k : Option α} (h : 0 ≤ i.toInt ∧ i.toInt < (n : Int)) : gin i n k = k := if_pos h
theorem gnz_some {α : Type} {y : Int32} {k : Option α} {r : α} (h : gnz y k = some r) : ¬ y = 0 ∧ k = some r := by
  unfold gnz at h
  split at h
  · cases h
  · exact ⟨‹_›, h⟩
theorem gbl_some {α : Type} {v : Int32} {k : Option α} {r : α} (h : gbl v k = some r) : (v = 0 ∨ v = 1) ∧ k = some r := by
  unfold gbl at h
  split at h
  · exact ⟨‹_›, h⟩
  · cases h
theorem it_t {c : Prop} [Decidable c] {α : Sort _} {a b r : α} (h : c) (e : (if c then a else b) = r) : a = r := by rw [if_pos h] at e; exact e
theorem it_f {c : Prop} [Decidable c] {α : Sort _} {a b r : α} (h : ¬ c) (e : (if c then a else b) = r) : b = r := by rw [if_neg h] at e; exact e
theorem bnd {α β : Type} {x : Option α} {f : α → Option β} {r : β} (h : Option.bind x f = some r) : ∃ q, x = some q ∧ f q = some r := by
  cases x with
  | none => cases h
  | some q => exact ⟨q, rfl, h⟩
theorem nar_b {v : Int32} (h : v = 0 ∨ v = 1) : narrow .boolean (.int v) = .int v := by
  rcases h with rfl | rfl <;> rfl
theorem fit_b {v : Int32} (h : v = 0 ∨ v = 1) : fits .boolean (.int v) = true := by
  rcases h with rfl | rfl <;> rfl
/-- words that no reader of steady words carries: two private members of nest mates -/
def nk (U : State) : Prop := va_Nw (.methodLinkNest RX5 29 yX1_init RX5) U ∧ va_Nw (.methodLinkNest RX5 194 yX3_canBeMet RX5) U
theorem nk.warm {s U : State} (hW : s.WarmedH U.vm) (h : nk s) : nk U := ⟨va_Nw.warmM hW h.1, va_Nw.warmM hW h.2⟩
theorem nk.same {s U : State} (hv : s.vm = U.vm) (h : nk s) : nk U := ⟨va_Nw.same rfl hv h.1, va_Nw.same rfl hv h.2⟩
section MK
variable {p : Program} {l : Launch} {e : Env} {R : Room} {s : State} {m : MethodId} {args : Array Value} {below : List Frame} {meth : Method} {c : Code} {H : Heap} {locs : List Loc} {cells slots : Nat} {Q : State → Prop}
variable {D : va_G} {cI : ClassId} {A : Nat → Prop} {cc bytes : ByteArray} {pc maxL nL index n : Nat} {ls : Array Slot} {own C : String} {y : MethodName} {ret : Option FieldType} {ws wsy ws' Ts : List Cond} {rm : Room} {wc wn w1 wr : va_W} {r : Int32} {As rest st : List Value} {b : Nat}
def kPre (D : va_G) (cI : ClassId) (As : List Value) (wc : va_W) (sz : Nat) : Array Value → State → Prop :=
  va_Pc As (fun U => U.heap.size = sz ∧ va_P D vwCl wc U.heap ∧ va_K D vwCl [(cI, .int)] U ∧ va_D (fun _ => True) wc ∧ nk U)
def kB (D : va_G) (A : Nat → Prop) (w1 : va_W) : Unit → State → Prop := fun _ t => va_P D vwCl w1 t.heap ∧ va_D A w1
def kQi (D : va_G) (A : Nat → Prop) (w1 : va_W) (r : Int32) : Array Value → State → Outcome → State → Prop := va_Qi (fun r' (_ : Unit) => r' = r) (kB D A w1) A
def kQv (D : va_G) (A : Nat → Prop) (w1 : va_W) : Array Value → State → Outcome → State → Prop := va_Qv (fun (_ : Unit) => True) (kB D A w1) A
/-- the contract of a method that makes nothing: its arguments, its cells before and behind, its answer -/
def kI (l : Launch) (y : MethodName) (ws : List Cond) (rm : Room) (D : va_G) (cI : ClassId) (As : List Value) (wc w1 : va_W) (r : Int32) : Prop :=
  ∀ sz, Met l y ws rm (kPre D cI As wc sz) (kQi D (va_A wc sz) w1 r) 0 0 (va_A wc sz)
def kV (l : Launch) (y : MethodName) (ws : List Cond) (rm : Room) (D : va_G) (cI : ClassId) (As : List Value) (wc w1 : va_W) : Prop :=
  ∀ sz, Met l y ws rm (kPre D cI As wc sz) (kQv D (va_A wc sz) w1) 0 0 (va_A wc sz)
theorem kPre_blind (D : va_G) (cI : ClassId) (As : List Value) (wc : va_W) (sz : Nat) : FrameBlind (kPre D cI As wc sz) := fun a U g mk h => by
  obtain ⟨h0, h1, h2, h3, h4, h5⟩ := h
  exact ⟨h0, h1, h2, va_K.moved (u := U) (U := U.calling g mk a) (Vm.Alike.refl U.vm) h3, h4, nk.same rfl h5⟩
/-- what a walk stands on -/
def kC (p : Program) (s : State) (m : MethodId) (args : Array Value) (meth : Method) (c : Code) (cc : ByteArray) (nL : Nat) (ws : List Cond) (own : String) (ret : Option FieldType) (D : va_G) (cI : ClassId) (A : Nat → Prop) : Prop :=
  CallFix p m c cc nL s args ws own ∧ meth.sig.returnType = ret ∧ meth.locks = false ∧ va_K D vwCl [(cI, .int)] s ∧ nk s ∧ ∀ q : Nat, s.heap.size ≤ q → A q
theorem kI_of (hy : plainName y.cls = true) (hw : ws = Cond.code y cc maxL ret :: ws') (hlen : (lg_sl As).length ≤ maxL)
    (body : ∀ (p : Program) (e : Env) (s : State) (m : MethodId) (args : Array Value) (below : List Frame) (meth : Method) (c : Code) (A : Nat → Prop) (ls : Array Slot), kC p s m args meth c cc maxL ws y.cls ret D cI A → va_P D vwCl wc s.heap → va_D A wc → va_S A s.heap s.heap [] → lv_has ls maxL (lv_args 0 As) →
      W p l e rm s m args below meth c s.heap [] 0 0 (MQ below (kQi D A w1 r) args s 0 0 A) (F0 m 0 ls [])) : kI l y ws rm D cI As wc w1 r := by
  intro sz
  refine Met.ofW (cc := cc) (maxL := maxL) (ret := ret) hy hw ?_
  intro p e s m args below meth c s₁ B hml hv
  obtain ⟨rfl, hsz, hP, hK, hD0, hN⟩ := hv
  subst hsz
  have hl := lv_entry As (n := maxL) hlen
  rw [lg_entry_eq]
  exact body p e s m _ below meth c _ _ ⟨⟨B.exec, B.bytes, hml, findClass_of_methodNamed B.named, atoms_spec (ws := ws) B.pre⟩, B.returns, B.notSynchronized, hK, hN, fun q h => Or.inr h⟩ hP hD0.self va_S.rf hl
theorem kV_of (hy : plainName y.cls = true) (hw : ws = Cond.code y cc maxL ret :: ws') (hlen : (lg_sl As).length ≤ maxL)
    (body : ∀ (p : Program) (e : Env) (s : State) (m : MethodId) (args : Array Value) (below : List Frame) (meth : Method) (c : Code) (A : Nat → Prop) (ls : Array Slot), kC p s m args meth c cc maxL ws y.cls ret D cI A → va_P D vwCl wc s.heap → va_D A wc → va_S A s.heap s.heap [] → lv_has ls maxL (lv_args 0 As) →
      W p l e rm s m args below meth c s.heap [] 0 0 (MQ below (kQv D A w1) args s 0 0 A) (F0 m 0 ls [])) : kV l y ws rm D cI As wc w1 := by
  intro sz
  refine Met.ofW (cc := cc) (maxL := maxL) (ret := ret) hy hw ?_
  intro p e s m args below meth c s₁ B hml hv
  obtain ⟨rfl, hsz, hP, hK, hD0, hN⟩ := hv
  subst hsz
  have hl := lv_entry As (n := maxL) hlen
  rw [lg_entry_eq]
  exact body p e s m _ below meth c _ _ ⟨⟨B.exec, B.bytes, hml, findClass_of_methodNamed B.named, atoms_spec (ws := ws) B.pre⟩, B.returns, B.notSynchronized, hK, hN, fun q h => Or.inr h⟩ hP hD0.self va_S.rf hl
theorem kI_ret {ty : FieldType} (S : kC p s m args meth c cc nL ws own (some ty) D cI A) (hn : narrow ty (.int r) = .int r) (hP : va_P D vwCl w1 H) (hD : va_D A w1) (hS : va_S A s.heap H locs) (d : decode cc pc = .ok (.ireturn, 1)) :
    W p l e R s m args below meth c H locs 0 0 (MQ below (kQi D A w1 r) args s 0 0 A) (F0 m pc ls [.int r]) :=
  W.zret (ty := ty) S.1.1 S.1.2.1 S.2.1 hn (fun t ht hW => ⟨⟨r, (), rfl, rfl, by rw [ht]; exact hP, hD⟩, hS.F ht⟩) hS.2.2 d S.2.2.1
theorem kV_ret (S : kC p s m args meth c cc nL ws own none D cI A) (hP : va_P D vwCl w1 H) (hD : va_D A w1) (hS : va_S A s.heap H locs) (d : decode cc pc = .ok (.return_, 1)) :
    W p l e R s m args below meth c H locs 0 0 (MQ below (kQv D A w1) args s 0 0 A) (F0 m pc ls []) :=
  W.vret S.1.1 S.1.2.1 S.2.1 (fun t ht hW => ⟨⟨(), rfl, trivial, by rw [ht]; exact hP, hD⟩, hS.F ht⟩) hS.2.2 d S.2.2.1
theorem kFree {wc : va_W} (hD : va_D A wc) (hS : va_S A s.heap H locs) (hA : ∀ q : Nat, s.heap.size ≤ q → A q) : ∀ q, va_A wc H.size q → A q := by
  intro q h
  rcases h with ⟨k, e, h⟩ | h
  · exact hD.2 k (q, e) h
  · exact hA q (Nat.le_trans hS.1 h)
theorem kPreS (S : kC p s m args meth c cc nL ws own ret D cI A) (hP : va_P D vwCl wc H) (hD : va_D A wc) : PreS s H (kPre D cI As wc H.size) As :=
  ⟨kPre_blind _ _ _ _ _, fun U hU hW => ⟨rfl, by rw [hU], by rw [hU]; exact hP, va_K.moved hW.alike S.2.2.2.1, hD.weaken (fun _ _ _ _ => trivial), nk.warm hW S.2.2.2.2.1⟩⟩
theorem kPreV (S : kC p s m args meth c cc nL ws own ret D cI A) (hP : va_P D vwCl wc H) (hD : va_D A wc) {q0 ci : Nat} {fs : List Value} {T : u_T} {N : Nat} (he : wc[q0]? = some (b, .inr (ci, fs))) (hc : vwCl[ci]? = some (C, T, N)) : PreV s H C b (kPre D cI (.ref b :: As) wc H.size) As :=
  ⟨kPre_blind _ _ _ _ _, va_recv (q := (C, T, N)) S.2.2.2.1 hP hc he, fun U hU hW => ⟨rfl, by rw [hU], by rw [hU]; exact hP, va_K.moved hW.alike S.2.2.2.1, hD.weaken (fun _ _ _ _ => trivial), nk.warm hW S.2.2.2.2.1⟩⟩
/-- a call of a virtual method over the same cells -/
theorem kI_callV {ret' : Option FieldType} (S : kC p s m args meth c cc nL ws own ret D cI A) (hP : va_P D vwCl wc H) (hD : va_D A wc) (hS : va_S A s.heap H locs)
    (hM : kI l y wsy rm D cI (.ref b :: As) wc w1 r) (cw : CallW R s args own C index y bytes maxL ret' wsy rm 0 0 n) (q0 : Nat) {ci : Nat} {fs : List Value} {T : u_T} {N : Nat} (he : wc[q0]? = some (b, .inr (ci, fs))) (hc : vwCl[ci]? = some (C, T, N))
    (hn : As.length = n) (hsize : ls.size = nL) (hst : st = As.reverse ++ .ref b :: rest) (hroom : (rest.map fun v => v.category).sum ≤ 8) (hdg : decode cc pc = .ok (.invokevirtual index, 3)) (hf : cells ≤ R.cells ∧ slots ≤ R.slots)
    (kk : ∀ (H1 : Heap) (locs1 : List Loc), va_P D vwCl w1 H1 → va_D A w1 → va_S A s.heap H1 locs1 → W p l e R s m args below meth c H1 locs1 cells slots Q (F0 m (pc + 3) ls (.int r :: rest))) :
    W p l e R s m args below meth c H locs cells slots Q (F0 m pc ls st) := by
  have hF := kFree hD hS S.2.2.2.2.2
  refine va_calli (va_runV S.1 (hM H.size) cw (kPreV S hP hD he hc) rfl hn hsize hst (lv_room hroom) hdg hf) hS (fun q _ h => hF q h) hF (fun r' u t H1 locs1 ht hvm hw hB hz1 hk1 hS1 => ?_)
  cases hw
  exact kk H1 locs1 (by rw [← ht]; exact hB.1) (hB.2.weaken (fun k q _ h => hF q.1 h)) hS1
theorem kV_callV {ret' : Option FieldType} (S : kC p s m args meth c cc nL ws own ret D cI A) (hP : va_P D vwCl wc H) (hD : va_D A wc) (hS : va_S A s.heap H locs)
    (hM : kV l y wsy rm D cI (.ref b :: As) wc w1) (cw : CallW R s args own C index y bytes maxL ret' wsy rm 0 0 n) (q0 : Nat) {ci : Nat} {fs : List Value} {T : u_T} {N : Nat} (he : wc[q0]? = some (b, .inr (ci, fs))) (hc : vwCl[ci]? = some (C, T, N))
    (hn : As.length = n) (hsize : ls.size = nL) (hst : st = As.reverse ++ .ref b :: rest) (hroom : (rest.map fun v => v.category).sum ≤ 8) (hdg : decode cc pc = .ok (.invokevirtual index, 3)) (hf : cells ≤ R.cells ∧ slots ≤ R.slots)
    (kk : ∀ (H1 : Heap) (locs1 : List Loc), va_P D vwCl w1 H1 → va_D A w1 → va_S A s.heap H1 locs1 → W p l e R s m args below meth c H1 locs1 cells slots Q (F0 m (pc + 3) ls rest)) :
    W p l e R s m args below meth c H locs cells slots Q (F0 m pc ls st) := by
  have hF := kFree hD hS S.2.2.2.2.2
  refine va_callv (va_runV S.1 (hM H.size) cw (kPreV S hP hD he hc) rfl hn hsize hst (lv_room hroom) hdg hf) hS (fun q _ h => hF q h) hF (fun u t H1 locs1 ht hvm hw hB hz1 hk1 hS1 => ?_)
  exact kk H1 locs1 (by rw [← ht]; exact hB.1) (hB.2.weaken (fun k q _ h => hF q.1 h)) hS1
/-- the same of a private method of a nest mate -/
theorem kI_callVN {ret' : Option FieldType} {host : String} (S : kC p s m args meth c cc nL ws own ret D cI A) (hP : va_P D vwCl wc H) (hD : va_D A wc) (hS : va_S A s.heap H locs)
    (hM : kI l y wsy rm D cI (.ref b :: As) wc w1 r) (cw : va_CN R s args own index y host bytes maxL ret' wsy rm 0 0 n ∧ (Cond.instanceMethod y).before args s = true ∧ (Cond.selects C y y).before args s = true) (q0 : Nat) {ci : Nat} {fs : List Value} {T : u_T} {N : Nat} (he : wc[q0]? = some (b, .inr (ci, fs))) (hc : vwCl[ci]? = some (C, T, N))
    (hn : As.length = n) (hsize : ls.size = nL) (hst : st = As.reverse ++ .ref b :: rest) (hroom : (rest.map fun v => v.category).sum ≤ 8) (hdg : decode cc pc = .ok (.invokevirtual index, 3)) (hf : cells ≤ R.cells ∧ slots ≤ R.slots)
    (kk : ∀ (H1 : Heap) (locs1 : List Loc), va_P D vwCl w1 H1 → va_D A w1 → va_S A s.heap H1 locs1 → W p l e R s m args below meth c H1 locs1 cells slots Q (F0 m (pc + 3) ls (.int r :: rest))) :
    W p l e R s m args below meth c H locs cells slots Q (F0 m pc ls st) := by
  have hF := kFree hD hS S.2.2.2.2.2
  refine va_calli (va_runVN S.1 (hM H.size) cw (kPreV S hP hD he hc) rfl hn hsize hst (lv_room hroom) hdg hf) hS (fun q _ h => hF q h) hF (fun r' u t H1 locs1 ht hvm hw hB hz1 hk1 hS1 => ?_)
  cases hw
  exact kk H1 locs1 (by rw [← ht]; exact hB.1) (hB.2.weaken (fun k q _ h => hF q.1 h)) hS1
/-- a call of a static method, over no cells of its own -/
theorem kI_callS {ret' : Option FieldType} (S : kC p s m args meth c cc nL ws own ret D cI A) (hP : va_P D vwCl wc H) (hD : va_D A wc) (hS : va_S A s.heap H locs)
    (hM : kI l y wsy rm D cI As [] [] r) (cw : CallB R s args own index y bytes maxL ret' wsy rm 0 0 n ∧ (Cond.static y).before args s = true)
    (hn : As.length = n) (hsize : ls.size = nL) (hst : st = As.reverse ++ rest) (hroom : (rest.map fun v => v.category).sum ≤ 8) (hdg : decode cc pc = .ok (.invokestatic index, 3)) (hf : cells ≤ R.cells ∧ slots ≤ R.slots)
    (kk : ∀ (H1 : Heap) (locs1 : List Loc), va_P D vwCl wc H1 → va_D A wc → va_S A s.heap H1 locs1 → W p l e R s m args below meth c H1 locs1 cells slots Q (F0 m (pc + 3) ls (.int r :: rest))) :
    W p l e R s m args below meth c H locs cells slots Q (F0 m pc ls st) := by
  have hP0 : va_P D vwCl [] H := fun k q h => by simp at h
  have hD0 : va_D A ([] : va_W) := ⟨fun i j p q h => by simp at h, fun k q h => by simp at h⟩
  have hF := kFree hD0 hS S.2.2.2.2.2
  refine va_calli (va_runS S.1 (hM H.size) cw (kPreS S hP0 hD0) rfl hn hsize hst (lv_room hroom) hdg hf) hS (fun q _ h => hF q h) hF (fun r' u t H1 locs1 ht hvm hw hB hz1 hk1 hS1 => ?_)
  cases hw
  refine kk H1 locs1 (hP.kept (fun k q h => hk1 q.1 (hP k q h).lt (fun h9 => ?_))) hD hS1
  rcases h9 with ⟨k9, e9, h9⟩ | h9
  · simp at h9
  · exact absurd (hP k q h).lt (Nat.not_lt.mpr h9)
theorem sw_in {dflt lo hi : Int} {offs : Array Int} {len : Nat} {x k : Int32} {off : Int} {tgt : Nat} (hexec : p.tables.exec = Jvm.exec) (hb : c.code = cc) (hx : x = k) (hdg : decode cc pc = .ok (.tableswitch dflt lo hi offs, len)) (h1 : ¬ k.toInt < lo) (h2 : ¬ hi < k.toInt) (ho : offs[(k.toInt - lo).toNat]? = some off) (ht : (pc : Int) + off = (tgt : Int))
    (kk : W p l e R s m args below meth c H locs cells slots Q (F0 m tgt ls rest)) : W p l e R s m args below meth c H locs cells slots Q (F0 m pc ls (.int x :: rest)) := by
  subst hx
  exact lv_tableIn hexec hb hdg h1 h2 ho ht kk
end MK
