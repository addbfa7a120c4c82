/-! MY KIT for methods that throw: the words of the two exceptions, contracts of roads that throw, the throw itself, and its passing on through a caller. -/
def eA : String := "java/lang/ArrayIndexOutOfBoundsException"
def eI : String := "java/lang/IllegalArgumentException"
abbrev nsA : List String := ["java/lang/IndexOutOfBoundsException", "java/lang/RuntimeException", "java/lang/Exception"]
abbrev nsI : List String := ["java/lang/RuntimeException", "java/lang/Exception"]
def twA : List Cond := .classLink RX5 116 eA :: .initialized eA :: vx_atS RX5 120 eA nsA
def twI : List Cond := .classLink RX5 156 eI :: .initialized eI :: vx_atS RX5 160 eI nsI
def okw : Cond → Bool
  | .castable _ _ => true
  | .declares _ => true
  | w => goodWord w
theorem okw_warm {s U : State} {a a' : Array Value} (hW : s.WarmedH U.vm) {w : Cond} (h : okw w = true) (hb : w.before a s = true) : w.before a' U = true := by
  cases w with
  | castable x y =>
    have e := Cond.onTables_vm (A := a) (A' := a') (U := s) (U' := U) U.vm (.castable x y) rfl
    have hU : U.setVm U.vm = U := rfl
    rw [hU] at e
    rw [← e, Cond.castable_setVm hW.alike]
    exact hb
  | declares x =>
    have e := Cond.onTables_vm (A := a) (A' := a') (U := s) (U' := U) U.vm (.declares x) rfl
    have hU : U.setVm U.vm = U := rfl
    rw [hU] at e
    rw [← e, Cond.declares_setVm hW.alike]
    exact hb
  | _ => exact word_at hW (good_of_word h) hb
theorem twA_all : twA.all (fun w => okw w && vx_ot w) = true := by decide +kernel
theorem twI_all : twI.all (fun w => okw w && vx_ot w) = true := by decide +kernel
theorem twA_ok {w : Cond} (h : w ∈ twA) : okw w = true ∧ vx_ot w = true := by
  have h1 := List.all_eq_true.mp twA_all w h
  simpa [Bool.and_eq_true] using h1
theorem twI_ok {w : Cond} (h : w ∈ twI) : okw w = true ∧ vx_ot w = true := by
  have h1 := List.all_eq_true.mp twI_all w h
  simpa [Bool.and_eq_true] using h1
def tk (U : State) : Prop := (∀ w ∈ twA, w.before #[] U = true) ∧ (∀ w ∈ twI, w.before #[] U = true) ∧ (∃ a, vk_R RX5 146 "no such rule" a U) ∧ (∃ a, vk_R RX5 151 "no such cell" a U) ∧ (∃ a, vk_R RX5 158 "no such symbol" a U) ∧ ∃ a, vk_R RX5 118 "no such line" a U
theorem tk.warm {s U : State} (hW : s.WarmedH U.vm) (h : tk s) : tk U := by
  obtain ⟨h1, h2, ⟨a3, h3⟩, ⟨a4, h4⟩, ⟨a5, h5⟩, ⟨a6, h6⟩⟩ := h
  exact ⟨fun w hw => okw_warm hW (twA_ok hw).1 (h1 w hw), fun w hw => okw_warm hW (twI_ok hw).1 (h2 w hw), ⟨a3, h3.warm hW⟩, ⟨a4, h4.warm hW⟩, ⟨a5, h5.warm hW⟩, ⟨a6, h6.warm hW⟩⟩
theorem tk.same {s U : State} (hv : s.vm = U.vm) (h : tk s) : tk U := h.warm (by rw [← hv]; exact State.WarmedH.refl s)
def sk (A : Nat → Prop) (U : State) (H : Heap) : Prop := vx_Zq Bundle.tN "UNASSIGNED_STACK" Bundle.steD A U H ∧ vx_Zq Bundle.tN "SUPPRESSED_SENTINEL" Bundle.listD A U H
theorem sk.moved {A : Nat → Prop} {u U : State} {H : Heap} (hvm : u.vm.Alike U.vm) (h : sk A u H) : sk A U H := ⟨h.1.moved hvm, h.2.moved hvm⟩
theorem sk.kept {A : Nat → Prop} {U : State} {H H1 : Heap} (h : sk A U H) (hq : ∀ a : Nat, a < H.size → ¬ A a → H1[a]? = H[a]?) : sk A U H1 := ⟨h.1.kept hq, h.2.kept hq⟩
theorem sk.narrow {A B : Nat → Prop} {U : State} {H : Heap} (h : sk A U H) (hAB : ∀ q, B q → A q) : sk B U H := ⟨h.1.narrow hAB, h.2.narrow hAB⟩
section MK3
variable {p : Program} {l : Launch} {e : Env} {R : Room} {s : State} {m : MethodId} {args : Array Value} {below : List Frame} {meth : Method} {c : Code} {H : Heap} {locs : List Loc} {cells slots : Nat} {Q : State → Prop}
variable {D : va_G} {cI : ClassId} {A : Nat → Prop} {cc bytes : ByteArray} {pc maxL nL index n : Nat} {ls : Array Slot} {own C : String} {y : MethodName} {ret : Option FieldType} {ws wsy ws' Ts : List Cond} {rm : Room} {wc wn w1 wr : va_W} {r : Int32} {As rest st : List Value} {b : Nat} {E : String}
def kPreX (D : va_G) (cI : ClassId) (As : List Value) (wc : va_W) (sz : Nat) : Array Value → State → Prop :=
  va_Pc As (fun U => (U.heap.size = sz ∧ va_P D vwCl wc U.heap ∧ va_K D vwCl [(cI, .int)] U ∧ va_D (fun _ => True) wc ∧ nk U) ∧ tk U ∧ sk (va_A wc sz) U U.heap)
def kXC (D : va_G) (A : Nat → Prop) (wc : va_W) (E : String) : String → State → State → Prop := vx_X (fun (_ : Unit) => True) (fun E' _ t => E' = E ∧ va_P D vwCl wc t.heap) A
def qv (A : Nat → Prop) : Array Value → State → Outcome → State → Prop := va_Qv (fun (_ : Unit) => False) (fun _ _ => True) A
def qi (A : Nat → Prop) : Array Value → State → Outcome → State → Prop := va_Qi (fun _ (_ : Unit) => False) (fun _ _ => True) A
/-- the contract of a road that throws E, its cells as they were -/
def kX (l : Launch) (y : MethodName) (ws : List Cond) (rm : Room) (D : va_G) (cI : ClassId) (As : List Value) (wc : va_W) (E : String) (Qf : (Nat → Prop) → Array Value → State → Outcome → State → Prop) : Prop :=
  ∀ sz, vx_Met l y ws rm (kPreX D cI As wc sz) (Qf (va_A wc sz)) (kXC D (va_A wc sz) wc E) 1 6 (va_A wc sz)
theorem kPreX_blind (D : va_G) (cI : ClassId) (As : List Value) (wc : va_W) (sz : Nat) : FrameBlind (kPreX D cI As wc sz) := fun a U g mk h => by
  obtain ⟨h0, ⟨h1, h2, h3, h4, h5⟩, h6, h7⟩ := h
  exact ⟨h0, ⟨h1, h2, va_K.moved (u := U) (U := U.calling g mk a) (Vm.Alike.refl U.vm) h3, h4, nk.same rfl h5⟩, tk.same (s := U) (U := U.calling g mk a) rfl h6, sk.moved (u := U) (U := U.calling g mk a) (Vm.Alike.refl U.vm) h7⟩
def kT (l : Launch) (s : State) (A : Nat → Prop) : Prop := l.stackTraces = false ∧ tk s ∧ sk A s s.heap
theorem kX_of {Qf : (Nat → Prop) → Array Value → State → Outcome → State → Prop} (hy : plainName y.cls = true) (hw : ws = Cond.code y cc maxL ret :: ws') (hlen : (lg_sl As).length ≤ maxL) (hlt : l.stackTraces = false)
    (body : ∀ (p : Program) (e : Env) (s : State) (m : MethodId) (args : Array Value) (below : List Frame) (meth : Method) (c : Code) (A : Nat → Prop) (ls : Array Slot), kC p s m args meth c cc maxL ws y.cls ret D cI A → kT l s A → (∀ x ∈ c.exceptionTable.toList, False) → ∀ (H : Heap) (locs : List Loc), va_P D vwCl wc H → va_D A wc → va_S A s.heap H locs → lv_has ls maxL (lv_args 0 As) →
      W p l e rm s m args below meth c H locs 0 0 (vx_MQ below (Qf A) (kXC D A wc E) args s 1 6 A) (F0 m 0 ls [])) : kX l y ws rm D cI As wc E Qf := by
  intro sz
  refine vx_ofW (cc := cc) (maxL := maxL) (ret := ret) hy hw ?_
  intro p e s m args below meth c s₁ B hml hnt hv
  obtain ⟨rfl, ⟨hsz, hP, hK, hD0, hN⟩, hT, hZ⟩ := hv
  subst hsz
  have hl := lv_entry As (n := maxL) hlen
  rw [lg_entry_eq]
  exact body p e s m _ below meth c _ _ ⟨⟨B.exec, B.bytes, hml, findClass_of_methodNamed B.named, atoms_spec (ws := ws) B.pre⟩, B.returns, B.notSynchronized, hK, hN, fun q h => Or.inr h⟩ ⟨hlt, hT, hZ⟩ hnt _ _ hP hD0.self va_S.rf hl
theorem kX_thrA {Qc : Array Value → State → Outcome → State → Prop} (S : kC p s m args meth c cc nL ws RX5 ret D cI A) (T : kT l s A) (hnt : ∀ x ∈ c.exceptionTable.toList, False) (hP : va_P D vwCl wc H) (hS : va_S A s.heap H locs) (hsize : ls.size = nL) {tx : String} {is : Nat} (hstr : ∃ a, vk_R RX5 is tx a s)
    (d0 : decode cc pc = .ok (.new 116, 3)) (d3 : decode cc (pc + 3) = .ok (.dup, 1)) (d4 : decode cc (pc + 4) = .ok (.ldc is, 2)) (d6 : decode cc (pc + 6) = .ok (.invokespecial 120, 3)) (d9 : decode cc (pc + 9) = .ok (.athrow, 1))
    (hfr : 6 < R.frames) (hlo : (rest.map fun v => v.category).sum + 95 ≤ R.locals) (hc : 1 ≤ R.cells) (hs : 6 ≤ R.slots) :
    W p l e R s m args below meth c H locs 0 0 (vx_MQ below Qc (kXC D A wc eA) args s 1 6 A) (F0 m pc ls rest) := by
  obtain ⟨sa, hstr⟩ := hstr
  have hA : ∀ w ∈ twA, w.before args s = true := fun w hw => okw_warm (State.WarmedH.refl s) (twA_ok hw).1 (T.2.1.1 w hw)
  refine vx_throwS (own := RX5) (cls := eA) (text := tx) (names := nsA) (ik := 116) (is := is) (ic := 120) (sa := sa) (A := A) S.1.1 S.1.2.1 T.1 S.1.2.2.2.1 (by decide +kernel) (by decide +kernel) (hA _ List.mem_cons_self) (hA _ (List.mem_cons_of_mem _ List.mem_cons_self)) hstr (fun w h => hA w (List.mem_cons_of_mem _ (List.mem_cons_of_mem _ h))) (fun w h => (twA_ok h).2) T.2.2.1 T.2.2.2 hS (hsize.trans S.1.2.2.1.symm) d0 d3 d4 d6 d9 (fun x hx => (hnt x hx).elim) hfr hlo (by omega) (by omega) S.2.2.1 (fun t hal hz hk => ?_) hS.2.2 (Nat.le_refl _) (Nat.le_refl _)
  exact ⟨(), trivial, ⟨rfl, hP.kept (fun k q h => hk q.1 (hP k q h).lt)⟩, Nat.le_trans hS.1 hz, fun q h1 h2 => (hk q (Nat.lt_of_lt_of_le h1 hS.1)).trans (hS.2.1 q h1 h2)⟩
theorem kX_thrI {Qc : Array Value → State → Outcome → State → Prop} (S : kC p s m args meth c cc nL ws RX5 ret D cI A) (T : kT l s A) (hnt : ∀ x ∈ c.exceptionTable.toList, False) (hP : va_P D vwCl wc H) (hS : va_S A s.heap H locs) (hsize : ls.size = nL) {tx : String} {is : Nat} (hstr : ∃ a, vk_R RX5 is tx a s)
    (d0 : decode cc pc = .ok (.new 156, 3)) (d3 : decode cc (pc + 3) = .ok (.dup, 1)) (d4 : decode cc (pc + 4) = .ok (.ldc is, 2)) (d6 : decode cc (pc + 6) = .ok (.invokespecial 160, 3)) (d9 : decode cc (pc + 9) = .ok (.athrow, 1))
    (hfr : 6 < R.frames) (hlo : (rest.map fun v => v.category).sum + 95 ≤ R.locals) (hc : 1 ≤ R.cells) (hs : 6 ≤ R.slots) :
    W p l e R s m args below meth c H locs 0 0 (vx_MQ below Qc (kXC D A wc eI) args s 1 6 A) (F0 m pc ls rest) := by
  obtain ⟨sa, hstr⟩ := hstr
  have hA : ∀ w ∈ twI, w.before args s = true := fun w hw => okw_warm (State.WarmedH.refl s) (twI_ok hw).1 (T.2.1.2.1 w hw)
  refine vx_throwS (own := RX5) (cls := eI) (text := tx) (names := nsI) (ik := 156) (is := is) (ic := 160) (sa := sa) (A := A) S.1.1 S.1.2.1 T.1 S.1.2.2.2.1 (by decide +kernel) (by decide +kernel) (hA _ List.mem_cons_self) (hA _ (List.mem_cons_of_mem _ List.mem_cons_self)) hstr (fun w h => hA w (List.mem_cons_of_mem _ (List.mem_cons_of_mem _ h))) (fun w h => (twI_ok h).2) T.2.2.1 T.2.2.2 hS (hsize.trans S.1.2.2.1.symm) d0 d3 d4 d6 d9 (fun x hx => (hnt x hx).elim) (by show 2 + 3 < _; omega) (by show _ + (13 * (2 + 1) + 43) ≤ _; omega) (by omega) (by omega) S.2.2.1 (fun t hal hz hk => ?_) hS.2.2 (Nat.le_refl _) (Nat.le_refl _)
  exact ⟨(), trivial, ⟨rfl, hP.kept (fun k q h => hk q.1 (hP k q h).lt)⟩, Nat.le_trans hS.1 hz, fun q h1 h2 => (hk q (Nat.lt_of_lt_of_le h1 hS.1)).trans (hS.2.1 q h1 h2)⟩
theorem kPreXV (S : kC p s m args meth c cc nL ws own ret D cI A) (T : kT l s A) (hP : va_P D vwCl wc H) (hD : va_D A wc) (hS : va_S A s.heap H locs) {q0 ci : Nat} {fs : List Value} {T' : u_T} {N : Nat} (he : wc[q0]? = some (b, .inr (ci, fs))) (hc : vwCl[ci]? = some (C, T', N)) : PreV s H C b (kPreX D cI (.ref b :: As) wc H.size) As :=
  ⟨kPreX_blind _ _ _ _ _, va_recv (q := (C, T', N)) S.2.2.2.1 hP hc he, fun U hU hW => ⟨rfl, ⟨by rw [hU], by rw [hU]; exact hP, va_K.moved hW.alike S.2.2.2.1, hD.weaken (fun _ _ _ _ => trivial), nk.warm hW S.2.2.2.2.1⟩, tk.warm hW T.2.1, by rw [hU]; exact ((T.2.2.kept hS.2.1).moved hW.alike).narrow (kFree hD hS S.2.2.2.2.2)⟩⟩
/-- a callee's throw, passed on to the caller's caller -/
theorem kX_pass {ret' : Option FieldType} {Qc : Array Value → State → Outcome → State → Prop} (S : kC p s m args meth c cc nL ws own ret D cI A) (T : kT l s A) (hnt : ∀ x ∈ c.exceptionTable.toList, False) (hP : va_P D vwCl wc H) (hD : va_D A wc) (hS : va_S A s.heap H locs)
    (hM : kX l y wsy rm D cI (.ref b :: As) wc E qv) (cw : CallW R s args own C index y bytes maxL ret' wsy rm 1 6 n) (q0 : Nat) {ci : Nat} {fs : List Value} {T' : u_T} {N : Nat} (he : wc[q0]? = some (b, .inr (ci, fs))) (hc : vwCl[ci]? = some (C, T', N))
    (hn : As.length = n) (hsize : ls.size = nL) (hst : st = As.reverse ++ .ref b :: rest) (hroom : (rest.map fun v => v.category).sum ≤ 8) (hdg : decode cc pc = .ok (.invokevirtual index, 3)) (hf : 1 ≤ R.cells ∧ 6 ≤ R.slots) :
    W p l e R s m args below meth c H locs 0 0 (vx_MQ below Qc (kXC D A wc E) args s 1 6 A) (F0 m pc ls st) := by
  have hF := kFree hD hS S.2.2.2.2.2
  refine vx_callv (vx_runV S.1 (hM H.size) cw (kPreXV S T hP hD hS he hc) rfl hn hsize hst (lv_room hroom) hdg (by omega)) hS (fun q _ h => hF q h) hF (fun q _ h => hF q h) (fun E9 ce q9 u t H1 locs1 ht hvm hp hB hz hk hS1 hce hv hcl => ?_) (fun u t H1 locs1 ht hvm hw hB hz1 hk1 hS1 => hw.elim)
  exact vx_out (fun x hx => (hnt x hx).elim) S.2.2.1 hce hv hcl (fun t9 ht9 hal9 => ⟨(), trivial, ⟨hB.1, by rw [ht9, ← ht]; exact hB.2⟩, hS1.F ht9⟩) hS1.2.2 (by omega) (by omega)
end MK3
