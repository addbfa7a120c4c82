/-! the law's start, and the claim: the skeleton's end, with the launch's flag passed on -/
theorem twA_in : ∀ w ∈ twA, w ∈ lw_tbl := by decide +kernel
theorem twI_in : ∀ w ∈ twI, w ∈ lw_tbl := by decide +kernel
theorem str_of {s : State} {b k : Nat} {tx : String} (hts : ∀ w ∈ lw_tbl, w.before #[Value.ref b] s = true) (hgv : (Jvm.Cond.and given_1 narrow_1).before #[Value.ref b] s = true) (h1 : Cond.stringRef "ProofChecker" k tx ∈ lw_tbl) (h2 : Cond.exactly (.string "ProofChecker" k) "java/lang/String" ∈ flatC (Jvm.Cond.and given_1 narrow_1)) : ∃ a, vk_R RX5 k tx a s := by
  obtain ⟨a, c, cA, kA, q1, q2, q3, q4, q5, q6, -⟩ := Cond.exactly_spec (args := #[Value.ref b]) (first := s) (o := none) (s := s) (idx := []) (t := .string "ProofChecker" k) (cls := "java/lang/String") (flat_of_before _ hgv _ h2)
  exact ⟨a, vk_R.of (hts _ h1) q1⟩
theorem start_words {p : Program} {s : State} {m : MethodId} {meth : Method} {c : Code} {b L : Nat} {xs : Nat → Int32} {l : Launch} (hlt : l.stackTraces = false) (C0 : lw_At p s m meth c b L xs) :
    kT l s (fun q : Nat => s.heap.size ≤ q) ∧ lk s ∧ nk s ∧ (∀ w ∈ wsL_law, w.before #[Value.ref b] s = true) ∧ ∃ (D : va_G) (cI : ClassId), va_K D vwCl [(cI, .int)] s := by
  obtain ⟨hx, hb, hr, hml, hown, hts, hX, hbl, hlocks, hgv⟩ := C0
  have hA : ∀ a : Nat, a < s.heap.size → ¬ (fun q : Nat => s.heap.size ≤ q) a := fun a h => Nat.not_le.mpr h
  have hg := flat_of_before _ hgv
  refine ⟨⟨hlt, ⟨fun w hw => okw_warm (State.WarmedH.refl s) (twA_ok hw).1 (hts w (twA_in w hw)), fun w hw => okw_warm (State.WarmedH.refl s) (twI_ok hw).1 (hts w (twI_in w hw)), str_of hts hgv (by decide +kernel) (by decide +kernel), str_of hts hgv (by decide +kernel) (by decide +kernel), str_of hts hgv (by decide +kernel) (by decide +kernel), str_of hts hgv (by decide +kernel) (by decide +kernel)⟩, ?_, ?_⟩, ⟨va_Nc.of (hg (.not (.castable eI eA)) (by decide +kernel)), okw_warm (a := #[Value.ref b]) (State.WarmedH.refl s) rfl (hts (.classLink RL 13 eA) (by decide +kernel))⟩, ⟨va_Nw.of rfl (hts (.methodLinkNest RX5 29 yX1_init RX5) (by decide +kernel)), va_Nw.of rfl (hts (.methodLinkNest RX5 194 yX3_canBeMet RX5) (by decide +kernel))⟩, fun w h => hts w (wsL_law_in w h), ?_⟩
  · exact vx_Zqof (hts (.laysStatic Bundle.tN "UNASSIGNED_STACK" Bundle.steD) (by decide +kernel)) (hts (.initialized Bundle.tN) (by decide +kernel)) (hg (.isRef (.static Bundle.tN "UNASSIGNED_STACK" Bundle.steD)) (by decide +kernel)) hA
  · exact vx_Zqof (hts (.laysStatic Bundle.tN "SUPPRESSED_SENTINEL" Bundle.listD) (by decide +kernel)) (hts (.initialized Bundle.tN) (by decide +kernel)) (hg (.isRef (.static Bundle.tN "SUPPRESSED_SENTINEL" Bundle.listD)) (by decide +kernel)) hA
  · obtain ⟨cI, kA, comp, a1, a2, a3⟩ := Cond.arrayClass_spec (hts (.arrayClass .int) (by decide +kernel))
    obtain ⟨c0, i0, hn0⟩ := u_known (C := RJx00060) (T := TJx00060) (N := 6) (n := 6) hts li_wsJx000600 (hts (.instantiable RJx00060 6) (by decide +kernel))
    obtain ⟨c1, i1, hn1⟩ := u_known (C := RX0) (T := TX0) (N := 5) (n := 5) hts li_wsX00 (hts (.instantiable RX0 5) (by decide +kernel))
    obtain ⟨c2, i2, hn2⟩ := u_known (C := RX1) (T := TX1) (N := 5) (n := 5) hts li_wsX10 (hts (.instantiable RX1 5) (by decide +kernel))
    obtain ⟨c3, i3, hn3⟩ := u_known (C := RX2) (T := TX2) (N := 5) (n := 5) hts li_wsX20 (hts (.instantiable RX2 5) (by decide +kernel))
    obtain ⟨c4, i4, hn4⟩ := u_known (C := RX3) (T := TX3) (N := 7) (n := 7) hts li_wsX30 (hts (.instantiable RX3 7) (by decide +kernel))
    obtain ⟨c5, i5, hn5⟩ := u_known (C := RX4) (T := TX4) (N := 4) (n := 4) hts li_wsX40 (hts (.instantiable RX4 4) (by decide +kernel))
    obtain ⟨c6, i6, hn6⟩ := u_known (C := RX5) (T := TX5) (N := 6) (n := 6) hts li_wsX50 (hts (.instantiable RX5 6) (by decide +kernel))
    obtain ⟨c7, i7, hn7⟩ := u_known (C := RX6) (T := TX6) (N := 23) (n := 23) hts li_wsX60 (hts (.instantiable RX6 23) (by decide +kernel))
    refine ⟨(fun k => match k with | 0 => c0 | 1 => c1 | 2 => c2 | 3 => c3 | 4 => c4 | 5 => c5 | 6 => c6 | _ => c7, fun k => match k with | 0 => i0 | 1 => i1 | 2 => i2 | 3 => i3 | 4 => i4 | 5 => i5 | 6 => i6 | _ => i7), cI, fun k q hq => ?_, fun k q h => ?_⟩
    · match k, hq with
      | 0, hq => cases hq; exact hn0
      | 1, hq => cases hq; exact hn1
      | 2, hq => cases hq; exact hn2
      | 3, hq => cases hq; exact hn3
      | 4, hq => cases hq; exact hn4
      | 5, hq => cases hq; exact hn5
      | 6, hq => cases hq; exact hn6
      | 7, hq => cases hq; exact hn7
      | k + 8, hq => simp [vwCl] at hq
    · match k, h with
      | 0, h => cases h; exact ⟨fun n z => ⟨fun k h => (by cases h), kA, a2, comp, a3⟩, a1⟩
      | k + 1, h => simp at h
/-- the contract of a method that reads the script alone -/
def kS (l : Launch) (y : MethodName) (ws : List Cond) (rm : Room) (As : List Value) (b L : Nat) (xs : Nat → Int32) (r : Int32) : Prop :=
  ∀ sz, Met l y ws rm (va_Pc As (fun U => U.heap.size = sz ∧ va_X b L xs U U.heap ∧ b < sz)) (va_Qi (fun r' (_ : Unit) => r' = r) (fun _ _ => True) (va_A [] sz)) 0 0 (va_A [] sz)
abbrev rm_L_cell : Room := { frames := 0, cells := 0, slots := 0, locals := 0 }
set_option maxHeartbeats 4000000 in
set_option maxRecDepth 100000 in
theorem c_L_cell (l : Launch) {b L : Nat} {xs : Nat → Int32} (hL : L ≤ 2051) (x1 : Int32) (k : Nat) (hk : k < 3) (hx1 : x1 = nI k) : kS l yL_cell wsL_cell rm_L_cell [.ref b, .int x1] b L xs (if k < L then xs k else 0) := by
  intro sz
  subst hx1
  refine Met.ofW (cc := cL_cell) (maxL := 2) (ret := (some .int)) (by decide) rfl ?_
  intro p e s m args below meth c s₁ B hml hv
  obtain ⟨rfl, hsz, hX, hbl⟩ := hv
  subst hsz
  have hx := B.exec
  have hb := B.bytes
  have hr := B.returns
  have hlocks := B.notSynchronized
  generalize hAe : va_A [] s.heap.size = A
  have hbA : ¬ A b := by
    rw [← hAe]
    intro h
    rcases h with ⟨k9, e9, h9⟩ | h9
    · simp at h9
    · omega
  have hS : va_S A s.heap s.heap [] := va_S.rf
  have hl := lv_entry ([.ref b, .int (nI k)]) (n := 2) (Nat.le_of_ble_eq_true rfl)
  rw [lg_entry_eq]
  generalize (lg_sl ([.ref b, .int (nI k)]) ++ List.replicate (2 - (lg_sl ([.ref b, .int (nI k)])).length) Slot.unset).toArray = ls at hl ⊢
  have hl : lv_has ls 2 [(0, .ref b), (1, .int (nI k))] := hl
  refine lv_iload_n hx hb dL_cell_0 rfl (lv_at hl 1 rfl) ?_
  refine lv_aload_n hx hb dL_cell_1 rfl (lv_at hl 0 rfl) ?_
  refine va_slen hx hb hX hbl hbA hS dL_cell_2 ?_
  refine lv_icmp_ge (tgt := 12) hx hb dL_cell_3 (by decide) (fun c1 => ?_) (fun c1 => ?_)
  · have hkL : ¬ k < L := fun h => nI_ge h (by omega) c1
    refine lv_iconst (v := 0) hx hb dL_cell_12 (by decide) ?_
    exact W.iret (v := 0) hx hb hr (fun t ht hW => ⟨⟨0, (), rfl, by rw [if_neg hkL], trivial⟩, hS.F ht⟩) hS.2.2 dL_cell_13
  · have hkL : k < L := by
      rcases Nat.lt_or_ge k L with h | h
      · exact h
      · exact absurd (nI_le h (by omega)) c1
    refine lv_aload_n hx hb dL_cell_6 rfl (lv_at hl 0 rfl) ?_
    refine lv_iload_n hx hb dL_cell_7 rfl (lv_at hl 1 rfl) ?_
    refine va_sld hx hb hX hbl hbA hS (vp_in_nI hkL (by omega)) dL_cell_8 ?_
    refine lv_goto (tgt := 13) hx hb dL_cell_9 (by decide) ?_
    rw [nI_clamp (by omega)]
    exact W.iret (v := xs k) hx hb hr (fun t ht hW => ⟨⟨xs k, (), rfl, by rw [if_pos hkL], trivial⟩, hS.F ht⟩) hS.2.2 dL_cell_13
section MK5
variable {p : Program} {l : Launch} {e : Env} {R : Room} {s : State} {m : MethodId} {args : Array Value} {below : List Frame} {meth : Method} {c : Code} {H : Heap} {locs : List Loc} {cells slots : Nat} {Q : State → Prop}
variable {D : va_G} {cI : ClassId} {A : Nat → Prop} {cc bytes : ByteArray} {pc maxL nL index n : Nat} {ls : Array Slot} {own : String} {y : MethodName} {ret ret' : Option FieldType} {ws wsy : List Cond} {rm : Room} {wo : va_W} {r : Int32} {As rest st : List Value} {b L : Nat} {xs : Nat → Int32}
theorem kS_call (S : kC p s m args meth c cc nL ws own ret D cI A) (hX : va_X b L xs s s.heap) (hbl : b < s.heap.size) (hbA : ¬ A b) (hP : va_P D vwCl wo H) (hD : va_D A wo) (hS : va_S A s.heap H locs)
    (hM : kS l y wsy rm As b L xs r) (cw : CallB R s args own index y bytes maxL ret' wsy rm 0 0 n ∧ (Cond.static y).before args s = true)
    (hn : As.length = n) (hsize : ls.size = nL) (hst : st = As.reverse ++ rest) (hroom : (rest.map fun v => v.category).sum ≤ 8) (hdg : decode cc pc = .ok (.invokestatic index, 3)) (hf : cells ≤ R.cells ∧ slots ≤ R.slots)
    (kk : ∀ (H1 : Heap) (locs1 : List Loc), va_P D vwCl wo H1 → va_D A wo → va_S A s.heap H1 locs1 → W p l e R s m args below meth c H1 locs1 cells slots Q (F0 m (pc + 3) ls (.int r :: rest))) :
    W p l e R s m args below meth c H locs cells slots Q (F0 m pc ls st) := by
  have hF : ∀ q, va_A [] H.size q → A q := fun q h => by
    rcases h with ⟨k9, e9, h9⟩ | h9
    · simp at h9
    · exact S.2.2.2.2.2 q (Nat.le_trans hS.1 h9)
  have hXH : va_X b L xs s H := hX.kept (hS.2.1 b hbl hbA)
  have hpre : PreS s H (va_Pc As (fun U => U.heap.size = H.size ∧ va_X b L xs U U.heap ∧ b < H.size)) As :=
    ⟨fun a U g mk h => ⟨h.1, h.2.1, va_X.moved (u := U) (U := U.calling g mk a) (Vm.Alike.refl U.vm) h.2.2.1, h.2.2.2⟩, fun U hU hW => ⟨rfl, by rw [hU], by rw [hU]; exact va_X.moved hW.alike hXH, Nat.lt_of_lt_of_le hbl hS.1⟩⟩
  refine va_calli (va_runS S.1 (hM H.size) cw hpre rfl hn hsize hst (lv_room hroom) hdg hf) hS (fun q _ h => hF q h) hF (fun r' u t H1 locs1 ht hvm hw hB hz1 hk1 hS1 => ?_)
  cases hw
  refine kk H1 locs1 (hP.kept (fun k q h => hk1 q.1 (hP k q h).lt (fun h9 => ?_))) hD hS1
  rcases h9 with ⟨k9, e9, h9⟩ | h9
  · simp at h9
  · exact absurd (hP k q h).lt (Nat.not_lt.mpr h9)
end MK5
set_option maxHeartbeats 8000000 in
set_option maxRecDepth 100000 in
theorem whole_start {p : Program} {e : Env} {s : State} {m : MethodId} {below : List Frame} {meth : Method} {c : Code} (l : Launch) (hlt : l.stackTraces = false) {b L : Nat} {xs : Nat → Int32} (hL : L ≤ 2051) (C0 : lw_At p s m meth c b L xs) : W p l e room_1 s m #[Value.ref b] below meth c s.heap [] 0 0 (lw_Z below #[Value.ref b] s) (entryFrame m ([Value.ref b] : List Value).toArray 7) := by
  obtain ⟨T, hNc, hnk, htw, D, cI, hK⟩ := start_words (l := l) hlt C0
  obtain ⟨hx, hb, hr, hml, hown, htl, hX, hbl, hlocks, hgv⟩ := id C0
  have hts := htw
  have hA : ∀ q : Nat, s.heap.size ≤ q → (fun q : Nat => s.heap.size ≤ q) q := fun _ h => h
  have hbA : ¬ (fun q : Nat => s.heap.size ≤ q) b := Nat.not_le.mpr hbl
  have S : kC p s m #[Value.ref b] meth c cL_law 7 wsL_law RL ret D cI (fun q : Nat => s.heap.size ≤ q) := ⟨⟨hx, hb, hml, hown, hts⟩, hr, hlocks, hK, hnk, hA⟩
  have hown : s.vm.findClass RL = some m.cls := hown
  have liX5 : ∀ w ∈ u_ws RX5 TX5 6, w ∈ wsL_law := by decide +kernel
  have liX6 : ∀ w ∈ u_ws RX6 TX6 23, w ∈ wsL_law := by decide +kernel
  have hS : va_S (fun q : Nat => s.heap.size ≤ q) s.heap s.heap [] := va_S.rf
  have hP : va_P D vwCl [] s.heap := fun k q h => by simp at h
  have hD : va_D (fun q : Nat => s.heap.size ≤ q) [] := ⟨fun i j p q h => by simp at h, fun k q h => by simp at h⟩
  have hl := lv_entry ([.ref b]) (n := 7) (Nat.le_of_ble_eq_true rfl)
  rw [lg_entry_eq]
  generalize (lg_sl ([.ref b]) ++ List.replicate (7 - (lg_sl ([.ref b])).length) Slot.unset).toArray = ls at hl ⊢
  have hl : lv_has ls 7 [(0, .ref b)] := hl
  obtain ⟨r, t, h5, h6, hs⟩ := P_init (if 0 < L then xs 0 else 0) (if 1 < L then xs 1 else 0) (if 2 < L then xs 2 else 0)
  suffices hgo : ∀ (H : Heap) (locs : List Loc), va_P D vwCl [] H → va_S (fun q : Nat => s.heap.size ≤ q) s.heap H locs → W p l e room_1 s m #[Value.ref b] below meth c H locs 0 0 (lw_Z below #[Value.ref b] s) (F0 m 0 ls []) from hgo _ _ hP hS
  clear hP hS
  intro H locs hP hS
  refine va_new (ci := 6) (fs := [.null, .null, .null, .null, .null, .null]) (C := RX5) (T := TX5) (N := 6) hx hb hts liX5 tyX5 tyX5_ok hown (hts (.classLink RL 8 RX5) (by decide +kernel)) (hts (.instantiable RX5 6) (by decide +kernel)) (hts (.initialized RX5) (by decide +kernel)) hK hP hD hS hA rfl (fun j hj => by rcases (show j = 0 ∨ j = 1 ∨ j = 2 ∨ j = 3 ∨ j = 4 ∨ j = 5 by omega) with rfl | rfl | rfl | rfl | rfl | rfl <;> rfl) (by decide) (by decide) dL_law_0 (fun b5 H hP hD hS => ?_)
  have hP : va_P D vwCl [(b5, .inr (6, [.null, .null, .null, .null, .null, .null]))] H := hP
  have hD : va_D (fun q : Nat => s.heap.size ≤ q) [(b5, .inr (6, [.null, .null, .null, .null, .null, .null]))] := hD
  refine lv_dup hx hb dL_law_3 rfl ?_
  refine lv_aload_n hx hb dL_law_4 rfl (lv_at hl 0 rfl) ?_
  refine lv_iconst (v := (0 : Int32)) hx hb dL_law_5 (by decide) ?_
  refine kS_call (As := [.ref b, .int (0 : Int32)]) (rest := [.ref b5, .ref b5]) S hX hbl hbA hP hD hS (c_L_cell l hL (0 : Int32) 0 (by decide) rfl) (va_cwS 2 hts gL_law_L_cell rfl rfl rfl (by decide +kernel) ⟨(Nat.le_of_ble_eq_true rfl), (Nat.le_of_ble_eq_true rfl)⟩) rfl hl.1 rfl (Nat.le_of_ble_eq_true rfl) dL_law_6 ⟨by decide, by decide⟩ (fun H locs hP hD hS => ?_)
  refine lv_aload_n hx hb dL_law_9 rfl (lv_at hl 0 rfl) ?_
  refine lv_iconst (v := (1 : Int32)) hx hb dL_law_10 (by decide) ?_
  refine kS_call (As := [.ref b, .int (1 : Int32)]) (rest := [.int (if 0 < L then xs 0 else 0), .ref b5, .ref b5]) S hX hbl hbA hP hD hS (c_L_cell l hL (1 : Int32) 1 (by decide) rfl) (va_cwS 2 hts gL_law_L_cell rfl rfl rfl (by decide +kernel) ⟨(Nat.le_of_ble_eq_true rfl), (Nat.le_of_ble_eq_true rfl)⟩) rfl hl.1 rfl (Nat.le_of_ble_eq_true rfl) dL_law_11 ⟨by decide, by decide⟩ (fun H locs hP hD hS => ?_)
  refine lv_aload_n hx hb dL_law_14 rfl (lv_at hl 0 rfl) ?_
  refine lv_iconst (v := (2 : Int32)) hx hb dL_law_15 (by decide) ?_
  refine kS_call (As := [.ref b, .int (2 : Int32)]) (rest := [.int (if 1 < L then xs 1 else 0), .int (if 0 < L then xs 0 else 0), .ref b5, .ref b5]) S hX hbl hbA hP hD hS (c_L_cell l hL (2 : Int32) 2 (by decide) rfl) (va_cwS 2 hts gL_law_L_cell rfl rfl rfl (by decide +kernel) ⟨(Nat.le_of_ble_eq_true rfl), (Nat.le_of_ble_eq_true rfl)⟩) rfl hl.1 rfl (Nat.le_of_ble_eq_true rfl) dL_law_16 ⟨by decide, by decide⟩ (fun H locs hP hD hS => ?_)
  refine kN_callI (As := [.int (if 0 < L then xs 0 else 0), .int (if 1 < L then xs 1 else 0), .int (if 2 < L then xs 2 else 0)]) (rest := [.ref b5]) (wr := []) S hP hD hS [0] [] rfl rfl rfl rfl (by decide) (c_X5_init l D cI FF b5 (if 0 < L then xs 0 else 0) (if 1 < L then xs 1 else 0) (if 2 < L then xs 2 else 0) r h5) (cwI 3 hts gL_law_X5_init rfl rfl rfl (hts (.initialized RX5) (by decide +kernel)) (hts (.methodLink RL 41 yX5_init) (by decide +kernel)) (hts (.instanceMethod yX5_init) (by decide +kernel)) rfl (by decide +kernel) ⟨(Nat.le_of_ble_eq_true rfl), (Nat.le_of_ble_eq_true rfl)⟩) rfl hl.1 rfl (Nat.le_of_ble_eq_true rfl) dL_law_19 ⟨by decide, by decide⟩ (fun a5 H locs hP hD hS => ?_)
  obtain ⟨α, hα⟩ : ∃ α : Nat → Nat, α = (fun k => match k with | 0 => b5 | k + 1 => a5 (k + 1)) := ⟨_, rfl⟩
  have hα0 : α 0 = b5 := by rw [hα]
  have hP : va_P D vwCl (wC cI α r.1 r.2.1 r.2.2.1 r.2.2.2.1 r.2.2.2.2.1 (0) (0) (0) (0) r.2.2.2.2.2 (fun _ => 0) (fun _ => 0) (fun _ => 0) (fun _ => 0) (fun _ => 0) (fun _ => 0) (fun _ => 0) (fun _ => 0) (fun _ => 0) (fun _ => 0) (fun _ => 0) (fun _ => 0)) H := by rw [hα]; exact hP
  have hD : va_D (fun q : Nat => s.heap.size ≤ q) (wC cI α r.1 r.2.1 r.2.2.1 r.2.2.2.1 r.2.2.2.2.1 (0) (0) (0) (0) r.2.2.2.2.2 (fun _ => 0) (fun _ => 0) (fun _ => 0) (fun _ => 0) (fun _ => 0) (fun _ => 0) (fun _ => 0) (fun _ => 0) (fun _ => 0) (fun _ => 0) (fun _ => 0) (fun _ => 0)) := by rw [hα]; exact hD
  rw [← hα0]
  refine lv_astore_n (lv' := [(1, .ref (α 0)), (0, .ref b)]) hx hb dL_law_22 rfl hl (by decide) rfl (fun ls hl => ?_)
  refine va_new (ci := 7) (fs := [.int 0, .int 0, .int 0, .int 0, .int 0, .null, .null, .null, .null, .null, .int 0, .null, .null, .null, .null, .null, .null, .int 0, .null, .null, .int 0, .int 0, .int 0]) (C := RX6) (T := TX6) (N := 23) hx hb hts liX6 tyX6 tyX6_ok hown (hts (.classLink RL 44 RX6) (by decide +kernel)) (hts (.instantiable RX6 23) (by decide +kernel)) (hts (.initialized RX6) (by decide +kernel)) hK hP hD hS hA rfl (fun j hj => by rcases (show j = 0 ∨ j = 1 ∨ j = 2 ∨ j = 3 ∨ j = 4 ∨ j = 5 ∨ j = 6 ∨ j = 7 ∨ j = 8 ∨ j = 9 ∨ j = 10 ∨ j = 11 ∨ j = 12 ∨ j = 13 ∨ j = 14 ∨ j = 15 ∨ j = 16 ∨ j = 17 ∨ j = 18 ∨ j = 19 ∨ j = 20 ∨ j = 21 ∨ j = 22 by omega) with rfl | rfl | rfl | rfl | rfl | rfl | rfl | rfl | rfl | rfl | rfl | rfl | rfl | rfl | rfl | rfl | rfl | rfl | rfl | rfl | rfl | rfl | rfl <;> rfl) (by decide) (by decide) dL_law_23 (fun b6 H hP hD hS => ?_)
  refine lv_dup hx hb dL_law_26 rfl ?_
  refine lv_aload_n hx hb dL_law_27 rfl (lv_at hl 1 rfl) ?_
  refine lv_iconst (v := (0 : Int32)) hx hb dL_law_28 (by decide) ?_
  refine kS_call (As := [.ref b, .int (0 : Int32)]) (rest := [.ref b6, .ref b6]) S hX hbl hbA hP hD hS (c_L_cell l hL (0 : Int32) 0 (by decide) rfl) (va_cwS 2 hts gL_law_L_cell rfl rfl rfl (by decide +kernel) ⟨(Nat.le_of_ble_eq_true rfl), (Nat.le_of_ble_eq_true rfl)⟩) rfl hl.1 rfl (Nat.le_of_ble_eq_true rfl) dL_law_29 ⟨by decide, by decide⟩ (fun H locs hP hD hS => ?_)
  refine lv_aload_n hx hb dL_law_32 rfl (lv_at hl 1 rfl) ?_
  refine lv_iconst (v := (1 : Int32)) hx hb dL_law_33 (by decide) ?_
  refine kS_call (As := [.ref b, .int (1 : Int32)]) (rest := [.int (if 0 < L then xs 0 else 0), .ref b6, .ref b6]) S hX hbl hbA hP hD hS (c_L_cell l hL (1 : Int32) 1 (by decide) rfl) (va_cwS 2 hts gL_law_L_cell rfl rfl rfl (by decide +kernel) ⟨(Nat.le_of_ble_eq_true rfl), (Nat.le_of_ble_eq_true rfl)⟩) rfl hl.1 rfl (Nat.le_of_ble_eq_true rfl) dL_law_34 ⟨by decide, by decide⟩ (fun H locs hP hD hS => ?_)
  refine lv_aload_n hx hb dL_law_37 rfl (lv_at hl 1 rfl) ?_
  refine lv_iconst (v := (2 : Int32)) hx hb dL_law_38 (by decide) ?_
  refine kS_call (As := [.ref b, .int (2 : Int32)]) (rest := [.int (if 1 < L then xs 1 else 0), .int (if 0 < L then xs 0 else 0), .ref b6, .ref b6]) S hX hbl hbA hP hD hS (c_L_cell l hL (2 : Int32) 2 (by decide) rfl) (va_cwS 2 hts gL_law_L_cell rfl rfl rfl (by decide +kernel) ⟨(Nat.le_of_ble_eq_true rfl), (Nat.le_of_ble_eq_true rfl)⟩) rfl hl.1 rfl (Nat.le_of_ble_eq_true rfl) dL_law_39 ⟨by decide, by decide⟩ (fun H locs hP hD hS => ?_)
  refine kN_callI (As := [.int (if 0 < L then xs 0 else 0), .int (if 1 < L then xs 1 else 0), .int (if 2 < L then xs 2 else 0)]) (rest := [.ref b6]) (wr := wC cI α r.1 r.2.1 r.2.2.1 r.2.2.2.1 r.2.2.2.2.1 (0) (0) (0) (0) r.2.2.2.2.2 (fun _ => 0) (fun _ => 0) (fun _ => 0) (fun _ => 0) (fun _ => 0) (fun _ => 0) (fun _ => 0) (fun _ => 0) (fun _ => 0) (fun _ => 0) (fun _ => 0) (fun _ => 0)) S hP hD hS [19] [0, 1, 2, 3, 4, 5, 6, 7, 8, 9, 10, 11, 12, 13, 14, 15, 16, 17, 18] rfl rfl rfl rfl (by decide) (c_X6_init l D cI FF b6 (if 0 < L then xs 0 else 0) (if 1 < L then xs 1 else 0) (if 2 < L then xs 2 else 0) t h6) (cwI 3 hts gL_law_X6_init rfl rfl rfl (hts (.initialized RX6) (by decide +kernel)) (hts (.methodLink RL 46 yX6_init) (by decide +kernel)) (hts (.instanceMethod yX6_init) (by decide +kernel)) rfl (by decide +kernel) ⟨(Nat.le_of_ble_eq_true rfl), (Nat.le_of_ble_eq_true rfl)⟩) rfl hl.1 rfl (Nat.le_of_ble_eq_true rfl) dL_law_42 ⟨by decide, by decide⟩ (fun a6 H locs hP hD hS => ?_)
  obtain ⟨β, hβ⟩ : ∃ β : Nat → Nat, β = (fun k => match k with | 0 => b6 | k + 1 => a6 (k + 1)) := ⟨_, rfl⟩
  have hβ0 : β 0 = b6 := by rw [hβ]
  have hP : va_P D vwCl (wC cI α r.1 r.2.1 r.2.2.1 r.2.2.2.1 r.2.2.2.2.1 (0) (0) (0) (0) r.2.2.2.2.2 (fun _ => 0) (fun _ => 0) (fun _ => 0) (fun _ => 0) (fun _ => 0) (fun _ => 0) (fun _ => 0) (fun _ => 0) (fun _ => 0) (fun _ => 0) (fun _ => 0) (fun _ => 0) ++ wM cI β (0) t.1 t.2.1 t.2.2.1 (0) (0) (0) (0) (0) (0) (fun _ => 0) (fun _ => 0) (fun _ => 0) (fun _ => 0) t.2.2.2 (fun _ => 0) (fun _ => 0) (fun _ => 0) (fun _ => 0) (fun _ => 0) (fun _ => 0) (fun _ => 0) (fun _ => 0)) H := by rw [hβ]; exact hP
  have hD : va_D (fun q : Nat => s.heap.size ≤ q) (wC cI α r.1 r.2.1 r.2.2.1 r.2.2.2.1 r.2.2.2.2.1 (0) (0) (0) (0) r.2.2.2.2.2 (fun _ => 0) (fun _ => 0) (fun _ => 0) (fun _ => 0) (fun _ => 0) (fun _ => 0) (fun _ => 0) (fun _ => 0) (fun _ => 0) (fun _ => 0) (fun _ => 0) (fun _ => 0) ++ wM cI β (0) t.1 t.2.1 t.2.2.1 (0) (0) (0) (0) (0) (0) (fun _ => 0) (fun _ => 0) (fun _ => 0) (fun _ => 0) t.2.2.2 (fun _ => 0) (fun _ => 0) (fun _ => 0) (fun _ => 0) (fun _ => 0) (fun _ => 0) (fun _ => 0) (fun _ => 0)) := by rw [hβ]; exact hD
  rw [← hβ0]
  refine lv_astore_n (lv' := [(2, .ref (β 0)), (1, .ref (α 0)), (0, .ref b)]) hx hb dL_law_45 rfl hl (by decide) rfl (fun ls hl => ?_)
  refine lv_iconst (v := (1 : Int32)) hx hb dL_law_46 (by decide) ?_
  refine va_newa (atype := .long) (ty := .long) (a0 := (1, .inr (.inl (fun _ => 0)))) hx hb (hts (.arrayClass .long) (by decide +kernel)) rfl hK hP hD hS hA (fun cA => rfl) (by decide) (by decide) (by decide) (by decide) (by decide) dL_law_47 (fun o cJ H hK2 hP hD hS => ?_)
  have hK2 : va_K D vwCl [(cI, .int), (cJ, .long)] s := hK2
  have hP : va_P D vwCl (wL cI cJ α β o (fun _ => 0) r.1 r.2.1 r.2.2.1 r.2.2.2.1 r.2.2.2.2.1 (0) (0) (0) (0) r.2.2.2.2.2 (fun _ => 0) (fun _ => 0) (fun _ => 0) (fun _ => 0) (fun _ => 0) (fun _ => 0) (fun _ => 0) (fun _ => 0) (fun _ => 0) (fun _ => 0) (fun _ => 0) (fun _ => 0) (0) t.1 t.2.1 t.2.2.1 (0) (0) (0) (0) (0) (0) (fun _ => 0) (fun _ => 0) (fun _ => 0) (fun _ => 0) t.2.2.2 (fun _ => 0) (fun _ => 0) (fun _ => 0) (fun _ => 0) (fun _ => 0) (fun _ => 0) (fun _ => 0) (fun _ => 0)) H := hP
  have hD : va_D (fun q : Nat => s.heap.size ≤ q) (wL cI cJ α β o (fun _ => 0) r.1 r.2.1 r.2.2.1 r.2.2.2.1 r.2.2.2.2.1 (0) (0) (0) (0) r.2.2.2.2.2 (fun _ => 0) (fun _ => 0) (fun _ => 0) (fun _ => 0) (fun _ => 0) (fun _ => 0) (fun _ => 0) (fun _ => 0) (fun _ => 0) (fun _ => 0) (fun _ => 0) (fun _ => 0) (0) t.1 t.2.1 t.2.2.1 (0) (0) (0) (0) (0) (0) (fun _ => 0) (fun _ => 0) (fun _ => 0) (fun _ => 0) t.2.2.2 (fun _ => 0) (fun _ => 0) (fun _ => 0) (fun _ => 0) (fun _ => 0) (fun _ => 0) (fun _ => 0) (fun _ => 0)) := hD
  refine lv_astore_n (lv' := [(3, .ref o), (2, .ref (β 0)), (1, .ref (α 0)), (0, .ref b)]) hx hb dL_law_49 rfl hl (by decide) rfl (fun ls hl => ?_)
  refine lv_iconst (v := (3 : Int32)) hx hb dL_law_50 (by decide) ?_
  refine lv_istore (lv' := [(4, .int (3 : Int32)), (3, .ref o), (2, .ref (β 0)), (1, .ref (α 0)), (0, .ref b)]) hx hb dL_law_51 hl (by decide) rfl (fun ls hl => ?_)
  refine W.widen (k := 34 + 0) (n := 4936 + 6 * 0) (by decide) (by decide) ?_
  exact law_loop hL hlt S T hNc hK2 hX hbl hbA (fun q h => h) (L + 8) 0 3 (by omega) (by omega) (by omega) (fun _ => 0) r.1 r.2.1 r.2.2.1 r.2.2.2.1 r.2.2.2.2.1 (0) (0) (0) (0) r.2.2.2.2.2 (fun _ => 0) (fun _ => 0) (fun _ => 0) (fun _ => 0) (fun _ => 0) (fun _ => 0) (fun _ => 0) (fun _ => 0) (fun _ => 0) (fun _ => 0) (fun _ => 0) (fun _ => 0) (0) t.1 t.2.1 t.2.2.1 (0) (0) (0) (0) (0) (0) (fun _ => 0) (fun _ => 0) (fun _ => 0) (fun _ => 0) t.2.2.2 (fun _ => 0) (fun _ => 0) (fun _ => 0) (fun _ => 0) (fun _ => 0) (fun _ => 0) (fun _ => 0) (fun _ => 0) hs H locs ls hP hD hS (lv_sub hl [4, 3, 2, 1, 0] rfl)
set_option maxHeartbeats 4000000 in
theorem lw_walk (l : Launch) (hlt : l.stackTraces = false) (b : Addr) (xs : List Int32) : MetFree l x (headSpec (Jvm.Cond.code x code maxLocals ret :: tables_1) room_1) (lw_P b xs) (fun _ _ _ _ _ => True) lw_Q := by
  refine MetFree.of_bodyS (code := code) (maxLocals := maxLocals) (ret := ret) (by decide) ?_ ?_
  · intro args s m h hn
    obtain ⟨meth, c, h1, h2, h3, h4, h5, h6, -, -⟩ := Cond.code_spec hn (atoms_spec (ws := Jvm.Cond.code x code maxLocals ret :: tables_1) h _ List.mem_cons_self)
    exact ⟨meth, c, h1, h2, h3, h4, h5, h6⟩
  · intro p e s m args below meth c s₁ B hml0 hP _
    obtain ⟨rfl, hx, hbd, hgv⟩ := hP
    obtain ⟨scr, harrAt, hlist, hof, hsmall⟩ := hx
    obtain ⟨hcb, hkn, -, -⟩ := State.arrayAt?_spec harrAt
    have hown : s.vm.findClass R_law = some m.cls := findClass_of_methodNamed B.named
    have hts0 : ∀ c ∈ (Jvm.Cond.code x code maxLocals ret :: tables_1), c.before #[Value.ref b] s = true := atoms_spec (ws := Jvm.Cond.code x code maxLocals ret :: tables_1) B.pre
    have hts : ∀ w ∈ lw_tbl, w.before #[Value.ref b] s = true := k2_hts_sels lw_privs (fun w hw => hts0 w (List.mem_cons_of_mem _ hw)) lw_privs_ok
    have hml : c.maxLocals = 7 := B.maxLocals_eq (hts0 _ List.mem_cons_self)
    have X₀ : Stand p l e room_1 s m #[Value.ref b] below meth c s₁ [] 0 0 := Stand.of_body B
    have hh0 : s₁.heap = s.heap := by rw [B.state]; rfl
    have hsz : scr.slots.size = xs.length := by rw [← Array.length_toList, hlist, List.length_map]
    have hval : ∀ j : Nat, j < xs.length → scr.slots[j]? = some (.int (xs.getD j 0)) := fun j hj => by
      rw [← Array.getElem?_toList, hlist]
      simp [hj]
    have hbl : b < s.heap.size := (Array.getElem?_eq_some_iff.mp hcb).1
    have hX : va_X b xs.length (fun j => xs.getD j 0) s s.heap := ⟨scr, hcb, hof, hkn, hsz, hval⟩
    have K : W p l e room_1 s m #[Value.ref b] below meth c s₁.heap [] 0 0 (lw_Z below #[Value.ref b] s) (entryFrame m ([Value.ref b] : List Value).toArray 7) := by
      rw [hh0]
      exact whole_start l hlt hbd ⟨B.exec, B.bytes, B.returns, hml, hown, hts, hX, hbl, B.notSynchronized, hgv⟩
    obtain ⟨t, a1, o, b1, b2, b3⟩ := K s₁ rfl X₀
    exact ⟨t, o, a1, b1, b2, b3⟩
theorem lw_pre_spec {args : Array Value} {s : State} (h : (Jvm.Cond.and given_1 narrow_1).before args s = true) (hr : rest_1_c.before args s = true) : ∃ (b : Addr) (xs : List Int32), lw_P b xs args s := by
  have hs := flat_of_before _ h
  have hq := flat_of_before _ hr
  have hc : (Cond.count 1).before args s = true := hs _ (by decide +kernel)
  have harr : (Cond.arrayOf (.arg 0) .int).before args s = true := hs _ (by decide +kernel)
  have hle : (Cond.le (.length (.arg 0)) (.int 2051)).before args s = true := hs _ (by decide +kernel)
  have hlen : (Cond.isInt (.length (.arg 0))).before args s = true := hq _ (by decide +kernel)
  have hall : (Cond.all (.arg 0) (.isInt (.elem (.arg 0) (.index 0)))).before args s = true := hq _ (by decide +kernel)
  obtain ⟨b, xs, hb, hx⟩ := State.ints_of_pre rfl harr hlen hall
  have hsm : xs.length < 2 ^ 31 := hx.choose_spec.2.2.2
  have hev : (Term.length (.arg 0)).eval args s none [] s = some (.int xs.length.toInt32) := hx.length_eval hb
  have hv := Cond.le_ints hev (show (Term.int 2051).eval args s none [] s = some (.int 2051) from rfl)
  have hd : xs.length.toInt32 ≤ 2051 := by
    simpa [Cond.before, Cond.holds, hv] using hle
  have hN : xs.length ≤ 2051 := (Int32.ofNat_le_ofNat hsm (by decide)).mp (show Int32.ofNat xs.length ≤ Int32.ofNat 2051 from hd)
  exact ⟨b, xs, Cond.one_arg hc (show args[0]? = some (.ref b) from hb), hx, hN, h⟩
theorem lw_comes (l : Launch) (hlt : l.stackTraces = false) : Comes l x (Jvm.Cond.code x code maxLocals ret :: tables_1) room_1 (fun tb e args s => Calls_1 tb e args s ∧ rest_1 tb e args s ∧ Pre_1 tb e args s)
    (fun _ _ args s o t => lw_Q args s o t) := by
  intro p e ha hc hk s m args below hf hfit hheap happ hpre
  obtain ⟨b, xs, hP⟩ := lw_pre_spec hpre.2.2 hpre.2.1
  obtain ⟨k, o, h1, h2, h3, hQ⟩ := lw_walk l hlt b xs p e ha hc hk s m args below hf ((Spec.applies_iff_loose hf).mp happ).1 hP trivial
  exact ⟨k, o, h1, h2, h3, hQ⟩
theorem lw_frame {s t : State} {o : Outcome} {args : Array Value} (h : Framed s o t [] 601024 7292999) :
    Framed s o t (fieldLocs frame_1_writes args s ++ arrayLocs frame_1_arrays args s ++ staticLocs frame_1_statics s) 601024 7292999 := h
theorem lw_limb (L : Cond) (hL : ∀ (args : Array Value) (s t : State), L.after args s (.returned (some (.int 1))) t = true) :
    ArmFor flags0 classFile x code maxLocals ret World_1 tables_1 room_1 Calls_1 rest_1 Pre_1
      (fun tb e a s o t => postC L tb e a s o t ∧ Framed s o t (fieldLocs frame_1_writes a s ++ arrayLocs frame_1_arrays a s ++ staticLocs frame_1_statics s) 601024 7292999) := by
  intro l hfl _ _ p e ha hc hk s m args below hf hfit hheap happ hpre
  have hlt : l.stackTraces = false := by unfold Launch.stackTraces; rw [hfl]; decide +kernel
  obtain ⟨k, o, h1, h2, h3, rfl, hF⟩ := lw_comes l hlt p e ha hc hk s m args below hf hfit hheap happ hpre
  exact ⟨k, _, h1, h2, h3, hL args s _, lw_frame hF⟩
theorem i_vc : Claimed_1_1 ∧ Claimed_1_2 := ⟨lw_limb limb_1_1 (fun args s t => by simp [limb_1_1, Cond.after, Cond.holds, Cond.value]), lw_limb limb_1_2 (fun args s t => Cond.after_iff.mpr (by
  first | (rw [show limb_1_2 = Cond.eq .result (.int 1) from rfl, Cond.eq_ints (x := 1) (y := 1) rfl rfl]; simp; done) | (simp [limb_1_2, Cond.value, Term.eval]; done)))⟩

