/-! MY ROWS on catching: what is thrown over a frame goes to the first row of its table that takes it; a row that names another kind is passed, and its name is then known to the tables. -/
section MKX
/-- one row that covers the place and names a kind: it takes what is of that kind, else the search goes on -/
theorem kx_row {Q : Handler → Pre} {E : CtlPost} {e : Env} {d : Bool} {acts : List Action} {S : State} {f : JFrame} {a : Addr} {x : ExceptionTableEntry} {t : List ExceptionTableEntry} {k : ClassId} {cell : Cell} (hx : covers x f.pc = true) (h0 : x.catchType ≠ 0)
    (hl : S.vm.ClassLinks e.platform f.method.cls x.catchType k) (hcell : S.heap[a]? = some cell) (hobj : ∀ z, cell.vm ≠ .statics z) (h1 : ∃ z, S.vm.classes[cell.cls]? = some z) (h2 : ∃ z, S.vm.classes[k]? = some z) :
    (S.vm.assignable cell.cls k = true → (wp (findHandler.go f a (x :: t)) Q E e d acts S ↔ Q (.found x.handlerPc) d acts (S.setVm (S.vm.noted f.method.cls x.catchType (.cls k))))) ∧
    (S.vm.assignable cell.cls k = false → (wp (findHandler.go f a (x :: t)) Q E e d acts S ↔ wp (findHandler.go f a t) Q E e d acts (S.setVm (S.vm.noted f.method.cls x.catchType (.cls k))))) := by
  simp only [covers] at hx
  obtain ⟨ha, ht⟩ := (resolveClass_links e.toSetting hl).op (op := VmOp.resolveClass f.method.cls x.catchType) rfl
  have hal : S.vm.Alike (S.vm.noted f.method.cls x.catchType (.cls k)) := (Vm.Alike.refl S.vm).noted _ _ _
  obtain ⟨z1, hz1⟩ := h1
  obtain ⟨z2, hz2⟩ := h2
  obtain ⟨y1, hy1, -⟩ := hal.2.2 _ _ hz1
  obtain ⟨y2, hy2, -⟩ := hal.2.2 _ _ hz2
  refine ⟨fun h => ?_, fun h => ?_⟩
  · have h' : (S.vm.noted f.method.cls x.catchType (.cls k)).assignable cell.cls k = true := by rw [hal.assignable]; exact h
    simp [findHandler.go, hx, h0, ha, ht, hcell, hobj, hy1, hy2, h', VmOp.dirties, VmOp.acts]
  · have h' : (S.vm.noted f.method.cls x.catchType (.cls k)).assignable cell.cls k = false := by rw [hal.assignable]; exact h
    simp [findHandler.go, hx, h0, ha, ht, hcell, hobj, hy1, hy2, h', VmOp.dirties, VmOp.acts]
theorem kx_rows {e : Env} {s : State} {f : JFrame} {a : Addr} {cell : Cell} (hobj : ∀ z, cell.vm ≠ .statics z) (hk0 : ∃ z, s.vm.classes[cell.cls]? = some z) (x : ExceptionTableEntry) (suf : List ExceptionTableEntry) (hx : covers x f.pc = true) (h0 : x.catchType ≠ 0) {k : ClassId} (hl : s.vm.ClassLinks e.platform f.method.cls x.catchType k) (hfit : s.vm.assignable cell.cls k = true) :
    ∀ (pre : List ExceptionTableEntry) (S : State), s.WarmedH S.vm → S.heap[a]? = some cell → (∀ z ∈ pre, covers z f.pc = false ∨ (z.catchType ≠ 0 ∧ ∃ c, s.vm.ClassLinks e.platform f.method.cls z.catchType c ∧ s.vm.assignable cell.cls c = false)) →
      ∃ vm', s.WarmedH vm' ∧ ∀ (Q : Handler → Pre) (E : CtlPost) (d : Bool) (acts : List Action), wp (findHandler.go f a (pre ++ x :: suf)) Q E e d acts S ↔ Q (.found x.handlerPc) d acts (S.setVm vm')
  | [], S, hW, hc, _ => by
    obtain ⟨dk, _, _, kt, hd, _, _, _, _, hkt, _, hopen⟩ := hl.here
    obtain ⟨z0, hz0⟩ := hk0
    obtain ⟨y0, hy0, -⟩ := hW.alike.2.2 _ _ hz0
    obtain ⟨y1, hy1, -⟩ := hW.alike.2.2 _ _ hkt
    exact ⟨_, hW.noted hd hopen (State.rightAt_cls hl), fun Q E d acts => (kx_row hx h0 (hW.classLinks hl) hc hobj ⟨y0, hy0⟩ ⟨y1, hy1⟩).1 (by rw [hW.alike.assignable]; exact hfit)⟩
  | z :: pre, S, hW, hc, hp => by
    have hp' := fun w hw => hp w (List.mem_cons_of_mem _ hw)
    cases hcv : covers z f.pc with
    | false =>
      obtain ⟨vm', h1, h2⟩ := kx_rows hobj hk0 x suf hx h0 hl hfit pre S hW hc hp'
      exact ⟨vm', h1, fun Q E d acts => by rw [List.cons_append, W.findHandler_go_skip hcv]; exact h2 Q E d acts⟩
    | true =>
      rcases hp z List.mem_cons_self with h | ⟨hz0, c, hlc, hno⟩
      · rw [hcv] at h
        cases h
      · obtain ⟨dk, _, _, kt, hd, _, _, _, _, hkt, _, hopen⟩ := hlc.here
        obtain ⟨z0, hz1⟩ := id hk0
        obtain ⟨y0, hy0, -⟩ := hW.alike.2.2 _ _ hz1
        obtain ⟨y1, hy1, -⟩ := hW.alike.2.2 _ _ hkt
        obtain ⟨vm', h1, h2⟩ := kx_rows hobj hk0 x suf hx h0 hl hfit pre (S.setVm (S.vm.noted f.method.cls z.catchType (.cls c))) (hW.noted hd hopen (State.rightAt_cls hlc)) hc hp'
        exact ⟨vm', h1, fun Q E d acts => ((kx_row hcv hz0 (hW.classLinks hlc) hc hobj ⟨y0, hy0⟩ ⟨y1, hy1⟩).2 (by rw [hW.alike.assignable]; exact hno)).trans (h2 Q E d acts)⟩
theorem kx_step {tb : Tables} {e : Env} {s target : State} {g : JFrame} {c : Code} {below : List Frame} {a : Addr} (h : At s g.method c below) {pc : Nat} {vm' : Vm}
    (hfind : ∀ (Q : Handler → Pre) (E : CtlPost) (d : Bool) (acts : List Action), wp (findHandler g a) Q E e d acts ((s.setTop g).pushFrame (.throwing a)) ↔ Q (.found pc) d acts (((s.setTop g).pushFrame (.throwing a)).setVm vm'))
    (hrest : Steps tb e below ((s.setVm vm').setTop { g with pc := pc, stack := [.ref a] }) target) : Steps tb e below ((s.setTop g).pushFrame (.throwing a)) target := by
  obtain ⟨hgo, hw⟩ := h.throwing a
  obtain ⟨g0, hg0⟩ := Option.isSome_iff_exists.mp h.top
  obtain ⟨r, hr⟩ := State.topJava?_eq_some.mp hg0
  have hr2 : (s.setVm vm').frames = .java g0 :: r := hr
  have hone : ∀ fr : List Frame, (stepThrowing e ((s.setTop g).pushFrame (.throwing a)) a (.java g :: fr)).1 = (((s.setTop g).pushFrame (.throwing a)).setVm vm').setFrames (.java { g with pc := pc, stack := [.ref a] } :: fr) := by
    intro fr
    simp only [stepThrowing, searchFrame, vmDo]
    generalize hr9 : Sem.go _ e false [] ((s.setTop g).pushFrame (.throwing a)) = res
    obtain ⟨as, rfl, ha⟩ := Sem.eq_ok_of hr9 (a := Handler.found pc) (s' := ((s.setTop g).pushFrame (.throwing a)).setVm vm') (acts' := []) (by simp [hfind _ _ _ _])
    rfl
  refine Steps.head hgo hw ?_
  rw [stepThread_throwing (frames_entered h.top _), hone, hr, List.tail_cons]
  rw [State.setTop_of_frames _ hr2] at hrest
  have hsame : ∀ (u : State) (F G : List Frame), ((u.setFrames F).setVm vm').setFrames G = (u.setVm vm').setFrames G := fun u F G => by
    rw [show (u.setFrames F).setVm vm' = (u.setVm vm').setFrames F from rfl, State.setFrames_setFrames]
  rw [State.pushFrame, hsame, State.setTop_of_frames _ hr, hsame]
  exact hrest
variable {p : Program} {l : Launch} {e : Env} {R : Room} {s : State} {m : MethodId} {args : Array Value} {below : List Frame} {meth : Method} {c : Code} {H : Heap} {locs : List Loc} {cells slots : Nat} {Q : State → Prop} {pc : Nat} {ls : Array Slot} {rest : List Value}
/-- caught by the row x of this method's table; the rows ahead don't take it -/
theorem kx_catch {own name : String} {E : String} {ce : Cell} {q : Addr} (hown : s.vm.findClass own = some m.cls) (pre : List ExceptionTableEntry) (x : ExceptionTableEntry) (suf : List ExceptionTableEntry) (hsplit : c.exceptionTable.toList = pre ++ x :: suf)
    (hpass : ∀ z ∈ pre, covers z pc = false ∨ (z.catchType ≠ 0 ∧ ∃ nm : String, (Cond.classLink own z.catchType nm).before args s = true ∧ va_Nc E nm s)) (hx : covers x pc = true) (h0 : x.catchType ≠ 0)
    (hlink : (Cond.classLink own x.catchType name).before args s = true) (hcast : (Cond.castable E name).before args s = true) (hcell : H[q]? = some ce) (hv : ce.vm = .none) (hcl : s.vm.findClass E = some ce.cls)
    (kk : W p l e R s m args below meth c H locs cells slots Q (F0 m x.handlerPc ls [.ref q])) : vx_W p l e R s m args below meth c H locs cells slots Q (F0 m pc ls rest) q := by
  intro T hT X
  have hpl : e.platform.magicAccessors = ({} : Platform).magicAccessors := by rw [X.admits.platform]
  obtain ⟨c3, c4, hc3, hc4, hasg⟩ := Cond.castable_spec hcast
  cases Option.some.inj (hc3.symm.trans hcl)
  obtain ⟨c5, hc5, hcl5⟩ := Cond.classLink_spec hown hlink e.platform hpl
  cases Option.some.inj (hc4.symm.trans hc5)
  have hk0 : ∃ z, s.vm.classes[ce.cls]? = some z := by obtain ⟨k9, h9, -⟩ := Vm.findClass_spec hcl; exact ⟨k9, h9⟩
  have hTS : (((T.setTop (F0 m pc ls rest)).pushFrame (.throwing q)).heap)[q]? = some ce := by rw [Stand.throwing_heap, hT]; exact hcell
  have hWS : s.WarmedH ((T.setTop (F0 m pc ls rest)).pushFrame (.throwing q)).vm := by rw [Stand.throwing_vm]; exact X.warmed
  obtain ⟨vm', hW', hq⟩ := kx_rows (e := e) (s := s) (f := F0 m pc ls rest) (a := q) (cell := ce) (fun z h => by rw [hv] at h; cases h) hk0 x suf hx h0 hcl5 hasg pre _ hWS hTS (fun z hz => by
    rcases hpass z hz with h | ⟨hz0, nm, hl1, hn1⟩
    · exact Or.inl h
    · obtain ⟨c6, hc6, hcl6⟩ := Cond.classLink_spec hown hl1 e.platform hpl
      obtain ⟨a8, b8, h1, h2, h3⟩ := hn1
      cases Option.some.inj (h1.symm.trans hcl)
      cases Option.some.inj (h2.symm.trans hc6)
      exact Or.inr ⟨hz0, _, hcl6, h3⟩)
  have hm9 : ((T.setTop (F0 m pc ls rest)).pushFrame (.throwing q)).vm.method? m = some meth := by rw [Stand.throwing_vm]; exact X.method'
  obtain ⟨t, a1, b1⟩ := kk (T.setVm vm') hT (X.noted hW')
  exact ⟨t, kx_step (g := F0 m pc ls rest) X.here (fun Q9 E9 d9 acts9 => by rw [W.findHandler_eq hm9 X.code, hsplit]; exact hq Q9 E9 d9 acts9) a1, b1⟩
end MKX
