/-! MY KIT for methods that make cells (constructors), and for calls over a part of the cells. -/
theorem fm_map {α β : Type} {f : α → Option β} : ∀ {l : List α} {w : List β}, l.map f = w.map some → l.filterMap f = w
  | [], [], _ => rfl
  | [], _ :: _, h => by cases h
  | _ :: _, [], h => by cases h
  | a :: l, b :: w, h => by
    rw [List.map_cons, List.map_cons] at h
    obtain ⟨h1, h2⟩ := List.cons.inj h
    rw [List.filterMap_cons, h1, fm_map h2]
section MK2
variable {p : Program} {l : Launch} {e : Env} {R : Room} {s : State} {m : MethodId} {args : Array Value} {below : List Frame} {meth : Method} {c : Code} {H : Heap} {locs : List Loc} {cells slots mc ms : Nat} {Q : State → Prop}
variable {D : va_G} {cI : ClassId} {A : Nat → Prop} {cc bytes : ByteArray} {pc maxL nL index n : Nat} {ls : Array Slot} {own C : String} {y : MethodName} {ret : Option FieldType} {ws' wsy Ts : List Cond} {ws : List Cond} {rm : Room} {wc wn wr wo : va_W} {w1 : (Nat → Nat) → va_W} {v1 : va_W} {r : Int32} {As rest st : List Value} {b : Nat}
def kQn (D : va_G) (A : Nat → Prop) (w1 : (Nat → Nat) → va_W) : Array Value → State → Outcome → State → Prop := va_Qv (fun (_ : Nat → Nat) => True) (fun a t => va_P D vwCl (w1 a) t.heap ∧ va_D A (w1 a)) A
/-- the contract of a constructor: its cells behind it, at addresses that it chose -/
def kN (l : Launch) (y : MethodName) (ws : List Cond) (rm : Room) (D : va_G) (cI : ClassId) (As : List Value) (wc : va_W) (w1 : (Nat → Nat) → va_W) (mc ms : Nat) : Prop :=
  ∀ sz, Met l y ws rm (kPre D cI As wc sz) (kQn D (va_A wc sz) w1) mc ms (va_A wc sz)
theorem kN_of (hy : plainName y.cls = true) (hw : ws = Cond.code y cc maxL ret :: ws') (hlen : (lg_sl As).length ≤ maxL)
    (body : ∀ (p : Program) (e : Env) (s : State) (m : MethodId) (args : Array Value) (below : List Frame) (meth : Method) (c : Code) (A : Nat → Prop) (ls : Array Slot), kC p s m args meth c cc maxL ws y.cls ret D cI A → meth.name = y.name → va_P D vwCl wc s.heap → va_D A wc → va_S A s.heap s.heap [] → lv_has ls maxL (lv_args 0 As) →
      W p l e rm s m args below meth c s.heap [] 0 0 (MQ below (kQn D A w1) args s mc ms A) (F0 m 0 ls [])) : kN l y ws rm D cI As wc w1 mc ms := by
  intro sz
  refine Met.ofW (cc := cc) (maxL := maxL) (ret := ret) hy hw ?_
  intro p e s m args below meth c s₁ B hml hv
  obtain ⟨rfl, hsz, hP, hK, hD0, hN⟩ := hv
  subst hsz
  have hl := lv_entry As (n := maxL) hlen
  rw [lg_entry_eq]
  exact body p e s m _ below meth c _ _ ⟨⟨B.exec, B.bytes, hml, findClass_of_methodNamed B.named, atoms_spec (ws := ws) B.pre⟩, B.returns, B.notSynchronized, hK, hN, fun q h => Or.inr h⟩ (name_of_methodNamed B.named B.method).1 hP hD0.self va_S.rf hl
theorem kN_ret (S : kC p s m args meth c cc nL ws own none D cI A) (a : Nat → Nat) (hP : va_P D vwCl (w1 a) H) (hD : va_D A (w1 a)) (hS : va_S A s.heap H locs) (d : decode cc pc = .ok (.return_, 1)) :
    W p l e R s m args below meth c H locs mc ms (MQ below (kQn D A w1) args s mc ms A) (F0 m pc ls []) :=
  W.vret S.1.1 S.1.2.1 S.2.1 (fun t ht hW => ⟨⟨a, rfl, trivial, by rw [ht]; exact hP, hD⟩, hS.F ht⟩) hS.2.2 d S.2.2.1
theorem kSame {cA : ClassId} (hK : va_K D vwCl ([(cI, .int)] ++ [(cA, .int)]) s) : cA = cI := by
  have h0 := (hK.2 0 (cI, .int) rfl).2
  have h1 := (hK.2 1 (cA, .int) rfl).2
  exact Option.some.inj (h1.symm.trans h0)
/-- a new int array -/
theorem kNewa (S : kC p s m args meth c cc nL ws own ret D cI A) (harr : (Cond.arrayClass .int).before args s = true) (hP : va_P D vwCl wo H) (hD : va_D A wo) (hS : va_S A s.heap H locs) {k : Int32} (N : Nat) (hn : ¬ k < 0) (hN : k.toNatClampNeg = N) (hb : N * componentBytes .int ≤ 536870912) (hc : cells + 1 ≤ R.cells) (hs : slots + N ≤ R.slots) (d : decode cc pc = .ok (.newarray .int, 2))
    (kk : ∀ (q : Nat) (H1 : Heap), va_P D vwCl (wo ++ [(q, .inl (cI, N, .inl (fun _ => 0)))]) H1 → va_D A (wo ++ [(q, .inl (cI, N, .inl (fun _ => 0)))]) → va_S A s.heap H1 locs → W p l e R s m args below meth c H1 locs (cells + 1) (slots + N) Q (F0 m (pc + 2) ls (.ref q :: rest))) :
    W p l e R s m args below meth c H locs cells slots Q (F0 m pc ls (.int k :: rest)) := by
  refine va_newa (atype := .int) (ty := .int) (a0 := (N, .inl (fun _ => 0))) S.1.1 S.1.2.1 harr rfl S.2.2.2.1 hP hD hS S.2.2.2.2.2 (fun cA => rfl) hn hN hb hc hs d (fun q cA H1 hK1 hP1 hD1 hS1 => ?_)
  cases kSame hK1
  exact kk q H1 hP1 hD1 hS1
/-- a call of a constructor, over a part of the cells -/
theorem kN_callI (S : kC p s m args meth c cc nL ws own ret D cI A) (hP : va_P D vwCl wo H) (hD : va_D A wo) (hS : va_S A s.heap H locs) (isC isR : List Nat) (hC : isC.map (fun i => wo[i]?) = wc.map some) (hnC : va_nd isC = true) (hR : isR.map (fun i => wo[i]?) = wr.map some) (hnR : va_nd isR = true) (hdis : ∀ i ∈ isR, i ∉ isC)
    (hM : kN l y wsy rm D cI (.ref b :: As) wc w1 mc ms) (cw : CallB R s args own index y bytes maxL none wsy rm mc ms n ∧ y.name = "<init>" ∧ (Cond.instanceMethod y).before args s = true)
    (hn : As.length = n) (hsize : ls.size = nL) (hst : st = As.reverse ++ .ref b :: rest) (hroom : (rest.map fun v => v.category).sum ≤ 8) (hdg : decode cc pc = .ok (.invokespecial index, 3)) (hf : cells + mc ≤ R.cells ∧ slots + ms ≤ R.slots)
    (kk : ∀ (a : Nat → Nat) (H1 : Heap) (locs1 : List Loc), va_P D vwCl (wr ++ w1 a) H1 → va_D A (wr ++ w1 a) → va_S A s.heap H1 locs1 → W p l e R s m args below meth c H1 locs1 (cells + mc) (slots + ms) Q (F0 m (pc + 3) ls rest)) :
    W p l e R s m args below meth c H locs cells slots Q (F0 m pc ls st) := by
  have hPc := hP.sub isC (fm_map hC)
  have hDc := hD.sub isC hnC hC
  have hF := va_free hD hS S.2.2.2.2.2 isC hC
  refine va_callv (va_runI S.1 (hM H.size) cw (kPreS S hPc hDc) rfl hn hsize hst (lv_room hroom) hdg hf) hS (fun q _ h => hF q h) hF (fun a t H1 locs1 ht hvm hw hB hz1 hk1 hS1 => ?_)
  obtain ⟨hP2, hD2⟩ := va_join hP hD isC isR hC hR hnR hdis hk1 hF (by rw [← ht]; exact hB.1) hB.2
  exact kk a H1 locs1 hP2 hD2 hS1
theorem kN_callIN {host : String} (S : kC p s m args meth c cc nL ws own ret D cI A) (hP : va_P D vwCl wo H) (hD : va_D A wo) (hS : va_S A s.heap H locs) (isC isR : List Nat) (hC : isC.map (fun i => wo[i]?) = wc.map some) (hnC : va_nd isC = true) (hR : isR.map (fun i => wo[i]?) = wr.map some) (hnR : va_nd isR = true) (hdis : ∀ i ∈ isR, i ∉ isC)
    (hM : kN l y wsy rm D cI (.ref b :: As) wc w1 mc ms) (cw : va_CN R s args own index y host bytes maxL none wsy rm mc ms n ∧ y.name = "<init>" ∧ (Cond.instanceMethod y).before args s = true)
    (hn : As.length = n) (hsize : ls.size = nL) (hst : st = As.reverse ++ .ref b :: rest) (hroom : (rest.map fun v => v.category).sum ≤ 8) (hdg : decode cc pc = .ok (.invokespecial index, 3)) (hf : cells + mc ≤ R.cells ∧ slots + ms ≤ R.slots)
    (kk : ∀ (a : Nat → Nat) (H1 : Heap) (locs1 : List Loc), va_P D vwCl (wr ++ w1 a) H1 → va_D A (wr ++ w1 a) → va_S A s.heap H1 locs1 → W p l e R s m args below meth c H1 locs1 (cells + mc) (slots + ms) Q (F0 m (pc + 3) ls rest)) :
    W p l e R s m args below meth c H locs cells slots Q (F0 m pc ls st) := by
  have hPc := hP.sub isC (fm_map hC)
  have hDc := hD.sub isC hnC hC
  have hF := va_free hD hS S.2.2.2.2.2 isC hC
  refine va_callv (va_runIN S.1 (hM H.size) cw (kPreS S hPc hDc) rfl hn hsize hst (lv_room hroom) hdg hf) hS (fun q _ h => hF q h) hF (fun a t H1 locs1 ht hvm hw hB hz1 hk1 hS1 => ?_)
  obtain ⟨hP2, hD2⟩ := va_join hP hD isC isR hC hR hnR hdis hk1 hF (by rw [← ht]; exact hB.1) hB.2
  exact kk a H1 locs1 hP2 hD2 hS1
end MK2
