abbrev rm_X3_canBeMet (d : Nat) : Room := { frames := 3 + d, cells := 0, slots := 0, locals := 69 + 26 * d }
set_option maxHeartbeats 4000000 in
set_option maxRecDepth 100000 in
theorem c_X3_canBeMet (l : Launch) (D : va_G) (cI : ClassId) (α : Nat → Nat) (gw gc gs ge gf cR cL cB pB : Int32) (SD RK RN RS RC RT LK LN LS LL US UB BB : Nat → Int32) (F : Nat) : ∀ (d : Nat) (RT : Nat → Int32) (x1 : Int32) (x3 : Int32) (res : Int32 × (Nat → Int32)) (hf : f_X3_canBeMet gw gc gs ge gf RK RN RS RC US F d RT x1 x3 = some res), kI l yX3_canBeMet wsX3_canBeMet (rm_X3_canBeMet d) D cI [.ref (α 2), .int x1, .ref (α 4), .int x3] (wC cI α gw gc gs ge gf cR cL cB pB SD RK RN RS RC RT LK LN LS LL US UB BB) (wC cI α gw gc gs ge gf cR cL cB pB SD RK RN RS RC res.2 LK LN LS LL US UB BB) res.1 := by
  intro d
  induction d with
  | zero => intro RT x1 x3 res hf; cases hf
  | succ d ihd =>
    intro RT x1 x3 res hf
    rw [f_X3_canBeMet.eq_2] at hf
    refine kI_of (cc := cX3_canBeMet) (maxL := 7) (ret := (some .boolean)) (by decide +kernel) rfl (Nat.le_of_ble_eq_true rfl) ?_
    intro p e s m args below meth c A ls S hP hD hS hl
    have S : kC p s m args meth c cX3_canBeMet 7 wsX3_canBeMet RX3 (some .boolean) D cI A := S
    have hx := S.1.1
    have hb := S.1.2.1
    have hml := S.1.2.2.1
    have hown : s.vm.findClass RX3 = some m.cls := S.1.2.2.2.1
    have hts := S.1.2.2.2.2
    have hK := S.2.2.2.1
    have hnk := S.2.2.2.2.1.2
    have hiX3 : ∀ w ∈ u_ws RX3 TX3 7, w ∈ wsX3_canBeMet := by decide +kernel
    have fl18 := hts (.fieldLink RX3 18 "ProofChecker$Rules" "sizes" "[I") (by decide +kernel)
    have fl26 := hts (.fieldLink RX3 26 "ProofChecker$Rules" "tried" "[I") (by decide +kernel)
    have fl33 := hts (.fieldLink RX3 33 "ProofChecker$Rules" "grid" "LProofChecker$Grid;") (by decide +kernel)
    have hl : lv_has ls 7 [(0, .ref (α 2)), (1, .int x1), (2, .ref (α 4)), (3, .int x3)] := hl
    have w84 : ∀ (k39 : Int32 → Int32 → Int32 → Int32 → Int32 → (Nat → Int32) → Option (Int32 × (Nat → Int32))) (hk39 : ∀ (x1 : Int32) (x3 : Int32) (x4 : Int32) (x5 : Int32) (x6 : Int32) (RT : Nat → Int32) (H : Heap) (locs : List Loc) (ls : Array Slot), k39 x1 x3 x4 x5 x6 RT = some res → va_P D vwCl (wC cI α gw gc gs ge gf cR cL cB pB SD RK RN RS RC RT LK LN LS LL US UB BB) H → va_D A (wC cI α gw gc gs ge gf cR cL cB pB SD RK RN RS RC RT LK LN LS LL US UB BB) → va_S A s.heap H locs → lv_has ls 7 [(0, .ref (α 2)), (1, .int x1), (2, .ref (α 4)), (3, .int x3), (4, .int x4), (5, .int x5), (6, .int x6)] → W p l e (rm_X3_canBeMet (d + 1)) s m args below meth c H locs 0 0 (MQ below (kQi D A (wC cI α gw gc gs ge gf cR cL cB pB SD RK RN RS RC res.2 LK LN LS LL US UB BB) res.1) args s 0 0 A) (F0 m 39 ls [])), ∀ (x1 : Int32) (x3 : Int32) (x4 : Int32) (x5 : Int32) (x6 : Int32) (RT : Nat → Int32) (H : Heap) (locs : List Loc) (ls : Array Slot), f_X3_canBeMet_J84 gw gc gs ge gf RK RN RS RC US (f_X3_canBeMet gw gc gs ge gf RK RN RS RC US F d) k39 F x1 x3 x4 x5 x6 RT = some res → va_P D vwCl (wC cI α gw gc gs ge gf cR cL cB pB SD RK RN RS RC RT LK LN LS LL US UB BB) H → va_D A (wC cI α gw gc gs ge gf cR cL cB pB SD RK RN RS RC RT LK LN LS LL US UB BB) → va_S A s.heap H locs → lv_has ls 7 [(0, .ref (α 2)), (1, .int x1), (2, .ref (α 4)), (3, .int x3), (4, .int x4), (5, .int x5), (6, .int x6)] → W p l e (rm_X3_canBeMet (d + 1)) s m args below meth c H locs 0 0 (MQ below (kQi D A (wC cI α gw gc gs ge gf cR cL cB pB SD RK RN RS RC res.2 LK LN LS LL US UB BB) res.1) args s 0 0 A) (F0 m 84 ls []) := by
      intro k39 hk39 x1 x3 x4 x5 x6 RT H locs ls hf hP hD hS hl
      unfold f_X3_canBeMet_J84 at hf
      refine lv_iinc (v := (x6 + (1 : Int32))) (lv' := [(6, .int (x6 + (1 : Int32))), (0, .ref (α 2)), (1, .int x1), (2, .ref (α 4)), (3, .int x3), (4, .int x4), (5, .int x5)]) hx hb dX3_canBeMet_84 hl (k := 6) rfl rfl (by decide) rfl (fun ls hl => ?_)
      refine lv_goto (tgt := 39) hx hb dX3_canBeMet_87 (by decide) ?_
      exact hk39 _ _ _ _ _ _ H locs ls hf hP hD hS (lv_sub hl [1, 2, 3, 4, 5, 6, 0] rfl)
    have w39 : ∀ (n : Nat), ∀ (x1 : Int32) (x3 : Int32) (x4 : Int32) (x5 : Int32) (x6 : Int32) (RT : Nat → Int32) (H : Heap) (locs : List Loc) (ls : Array Slot), f_X3_canBeMet_L39 gw gc gs ge gf RK RN RS RC US (f_X3_canBeMet gw gc gs ge gf RK RN RS RC US F d) F n x1 x3 x4 x5 x6 RT = some res → va_P D vwCl (wC cI α gw gc gs ge gf cR cL cB pB SD RK RN RS RC RT LK LN LS LL US UB BB) H → va_D A (wC cI α gw gc gs ge gf cR cL cB pB SD RK RN RS RC RT LK LN LS LL US UB BB) → va_S A s.heap H locs → lv_has ls 7 [(0, .ref (α 2)), (1, .int x1), (2, .ref (α 4)), (3, .int x3), (4, .int x4), (5, .int x5), (6, .int x6)] → W p l e (rm_X3_canBeMet (d + 1)) s m args below meth c H locs 0 0 (MQ below (kQi D A (wC cI α gw gc gs ge gf cR cL cB pB SD RK RN RS RC res.2 LK LN LS LL US UB BB) res.1) args s 0 0 A) (F0 m 39 ls []) := by
      intro n
      induction n with
      | zero => intro x1 x3 x4 x5 x6 RT H locs ls hf; cases hf
      | succ n ih =>
        intro x1 x3 x4 x5 x6 RT H locs ls hf hP hD hS hl
        rw [f_X3_canBeMet_L39.eq_2] at hf
        refine lv_iload hx hb dX3_canBeMet_39 (lv_at hl 6 rfl) ?_
        refine lv_aload_n hx hb dX3_canBeMet_41 rfl (lv_at hl 0 rfl) ?_
        refine va_get (D := D) (ci := 4) (v := .ref (α 1)) (C := RX3) (T := TX3) (N := 7) hx hb hts hiX3 hown hK hP 2 rfl rfl 0 (by decide) fl33 (fun _ h9 => h9) rfl dX3_canBeMet_42 ?_
        obtain ⟨q7, hq7, hf⟩ := bnd hf
        refine kI_callV (As := []) (rest := [.int x6]) S hP hD hS (c_X0_symbols l D cI α gw gc gs ge gf cR cL cB pB SD RK RN RS RC RT LK LN LS LL US UB BB q7 hq7) (cwV 0 hts gX3_canBeMet_X0_symbols rfl rfl rfl (by decide +kernel) ⟨(by simp only [rm_X3_canBeMet, rm_X0_symbols]; omega), (by simp only [rm_X3_canBeMet, rm_X0_symbols]; omega)⟩) 1 rfl rfl rfl hl.1 rfl (Nat.le_of_ble_eq_true rfl) dX3_canBeMet_45 ⟨Nat.zero_le _, Nat.zero_le _⟩ (fun H locs hP hD hS => ?_)
        have hP : va_P D vwCl (wC cI α gw gc gs ge gf cR cL cB pB SD RK RN RS RC RT LK LN LS LL US UB BB) H := hP
        have hD : va_D A (wC cI α gw gc gs ge gf cR cL cB pB SD RK RN RS RC RT LK LN LS LL US UB BB) := hD
        refine lv_icmp_ge (tgt := 90) hx hb dX3_canBeMet_48 (by decide) (fun c8 => ?_) (fun c8 => ?_)
        · have hf := it_t c8 hf
          refine lv_iconst (v := (0 : Int32)) hx hb dX3_canBeMet_90 (by decide) ?_
          have e9 := Option.some.inj hf
          subst e9
          exact kI_ret S narrow_b0 hP hD hS dX3_canBeMet_91
        · have hf := it_f c8 hf
          refine lv_iload hx hb dX3_canBeMet_51 (lv_at hl 5 rfl) ?_
          refine lv_iconst (v := (1 : Int32)) hx hb dX3_canBeMet_53 (by decide) ?_
          refine lv_iload hx hb dX3_canBeMet_54 (lv_at hl 6 rfl) ?_
          refine lv_ishl hx hb dX3_canBeMet_56 ?_
          refine lv_iand hx hb dX3_canBeMet_57 ?_
          refine lv_if_eq (tgt := 84) hx hb dX3_canBeMet_58 (by decide) (fun c9 => ?_) (fun c9 => ?_)
          · have hf := it_t c9 hf
            exact w84 _ ih _ _ _ _ _ _ H locs ls hf hP hD hS (lv_sub hl [0, 1, 2, 3, 4, 5, 6] rfl)
          · have hf := it_f c9 hf
            refine lv_aload_n hx hb dX3_canBeMet_61 rfl (lv_at hl 0 rfl) ?_
            refine va_get (D := D) (ci := 4) (v := .ref (α 11)) (C := RX3) (T := TX3) (N := 7) hx hb hts hiX3 hown hK hP 2 rfl rfl 5 (by decide) fl26 (fun _ h9 => h9) rfl dX3_canBeMet_62 ?_
            refine lv_iload hx hb dX3_canBeMet_65 (lv_at hl 4 rfl) ?_
            refine lv_iload hx hb dX3_canBeMet_67 (lv_at hl 6 rfl) ?_
            obtain ⟨g10, hf⟩ := gin_some hf
            refine va_iast hx hb hK hP hD hS 11 0 rfl rfl g10 dX3_canBeMet_69 (fun H locs hP hD hS => ?_)
            have hP : va_P D vwCl (wC cI α gw gc gs ge gf cR cL cB pB SD RK RN RS RC (upd RT x4.toNatClampNeg x6) LK LN LS LL US UB BB) H := hP
            have hD : va_D A (wC cI α gw gc gs ge gf cR cL cB pB SD RK RN RS RC (upd RT x4.toNatClampNeg x6) LK LN LS LL US UB BB) := hD
            refine lv_aload_n hx hb dX3_canBeMet_70 rfl (lv_at hl 0 rfl) ?_
            refine lv_iload_n hx hb dX3_canBeMet_71 rfl (lv_at hl 1 rfl) ?_
            refine lv_aload_n hx hb dX3_canBeMet_72 rfl (lv_at hl 2 rfl) ?_
            refine lv_iload_n hx hb dX3_canBeMet_73 rfl (lv_at hl 3 rfl) ?_
            refine lv_iconst (v := (1 : Int32)) hx hb dX3_canBeMet_74 (by decide) ?_
            refine lv_iadd hx hb dX3_canBeMet_75 ?_
            obtain ⟨q11, hq11, hf⟩ := bnd hf
            refine kI_callV (As := [.int x1, .ref (α 4), .int (x3 + (1 : Int32))]) (rest := []) S hP hD hS (ihd _ _ _ _ hq11) (cwV 3 hts gX3_canBeMet_X3_canBeMet rfl rfl rfl (by decide +kernel) ⟨(by simp only [rm_X3_canBeMet, rm_X3_canBeMet]; omega), (by simp only [rm_X3_canBeMet, rm_X3_canBeMet]; omega)⟩) 2 rfl rfl rfl hl.1 rfl (Nat.le_of_ble_eq_true rfl) dX3_canBeMet_76 ⟨Nat.zero_le _, Nat.zero_le _⟩ (fun H locs hP hD hS => ?_)
            have hP : va_P D vwCl (wC cI α gw gc gs ge gf cR cL cB pB SD RK RN RS RC q11.2 LK LN LS LL US UB BB) H := hP
            have hD : va_D A (wC cI α gw gc gs ge gf cR cL cB pB SD RK RN RS RC q11.2 LK LN LS LL US UB BB) := hD
            refine lv_if_eq (tgt := 84) hx hb dX3_canBeMet_79 (by decide) (fun c12 => ?_) (fun c12 => ?_)
            · have hf := it_t c12 hf
              exact w84 _ ih _ _ _ _ _ _ H locs ls hf hP hD hS (lv_sub hl [0, 1, 2, 3, 4, 5, 6] rfl)
            · have hf := it_f c12 hf
              refine lv_iconst (v := (1 : Int32)) hx hb dX3_canBeMet_82 (by decide) ?_
              have e9 := Option.some.inj hf
              subst e9
              exact kI_ret S narrow_b1 hP hD hS dX3_canBeMet_83
    suffices hgo : ∀ (H : Heap) (locs : List Loc), va_P D vwCl (wC cI α gw gc gs ge gf cR cL cB pB SD RK RN RS RC RT LK LN LS LL US UB BB) H → va_D A (wC cI α gw gc gs ge gf cR cL cB pB SD RK RN RS RC RT LK LN LS LL US UB BB) → va_S A s.heap H locs → W p l e (rm_X3_canBeMet (d + 1)) s m args below meth c H locs 0 0 (MQ below (kQi D A (wC cI α gw gc gs ge gf cR cL cB pB SD RK RN RS RC res.2 LK LN LS LL US UB BB) res.1) args s 0 0 A) (F0 m 0 ls []) from hgo _ _ hP hD hS
    clear hP hD hS
    intro H locs hP hD hS
    refine lv_iload_n hx hb dX3_canBeMet_0 rfl (lv_at hl 3 rfl) ?_
    refine lv_aload_n hx hb dX3_canBeMet_1 rfl (lv_at hl 0 rfl) ?_
    refine va_get (D := D) (ci := 4) (v := .ref (α 9)) (C := RX3) (T := TX3) (N := 7) hx hb hts hiX3 hown hK hP 2 rfl rfl 3 (by decide) fl18 (fun _ h9 => h9) rfl dX3_canBeMet_2 ?_
    refine lv_iload_n hx hb dX3_canBeMet_5 rfl (lv_at hl 1 rfl) ?_
    obtain ⟨g1, hf⟩ := gin_some hf
    refine va_iald hx hb hK hP 9 0 rfl rfl g1 dX3_canBeMet_6 ?_
    refine lv_icmp_lt (tgt := 20) hx hb dX3_canBeMet_7 (by decide) (fun c2 => ?_) (fun c2 => ?_)
    · have hf := it_t c2 hf
      refine lv_aload_n hx hb dX3_canBeMet_20 rfl (lv_at hl 0 rfl) ?_
      refine lv_iload_n hx hb dX3_canBeMet_21 rfl (lv_at hl 1 rfl) ?_
      refine lv_iload_n hx hb dX3_canBeMet_22 rfl (lv_at hl 3 rfl) ?_
      obtain ⟨q3, hq3, hf⟩ := bnd hf
      refine kI_callV (As := [.int x1, .int x3]) (rest := []) S hP hD hS (c_X3_cellAt l D cI α gw gc gs ge gf cR cL cB pB SD RK RN RS RC RT LK LN LS LL US UB BB x1 x3 q3 hq3) (cwV 2 hts gX3_canBeMet_X3_cellAt rfl rfl rfl (by decide +kernel) ⟨(by simp only [rm_X3_canBeMet, rm_X3_cellAt]; omega), (by simp only [rm_X3_canBeMet, rm_X3_cellAt]; omega)⟩) 2 rfl rfl rfl hl.1 rfl (Nat.le_of_ble_eq_true rfl) dX3_canBeMet_23 ⟨Nat.zero_le _, Nat.zero_le _⟩ (fun H locs hP hD hS => ?_)
      have hP : va_P D vwCl (wC cI α gw gc gs ge gf cR cL cB pB SD RK RN RS RC RT LK LN LS LL US UB BB) H := hP
      have hD : va_D A (wC cI α gw gc gs ge gf cR cL cB pB SD RK RN RS RC RT LK LN LS LL US UB BB) := hD
      refine lv_istore (lv' := [(4, .int q3), (0, .ref (α 2)), (1, .int x1), (2, .ref (α 4)), (3, .int x3)]) hx hb dX3_canBeMet_26 hl (by decide) rfl (fun ls hl => ?_)
      refine lv_aload_n hx hb dX3_canBeMet_28 rfl (lv_at hl 3 rfl) ?_
      refine lv_iload hx hb dX3_canBeMet_29 (lv_at hl 0 rfl) ?_
      obtain ⟨q4, hq4, hf⟩ := bnd hf
      refine kI_callV (As := [.int q3]) (rest := []) S hP hD hS (c_X4_symbolsOf l D cI α gw gc gs ge gf cR cL cB pB SD RK RN RS RC RT LK LN LS LL US UB BB q3 q4 hq4) (cwV 1 hts gX3_canBeMet_X4_symbolsOf rfl rfl rfl (by decide +kernel) ⟨(by simp only [rm_X3_canBeMet, rm_X4_symbolsOf]; omega), (by simp only [rm_X3_canBeMet, rm_X4_symbolsOf]; omega)⟩) 4 rfl rfl rfl hl.1 rfl (Nat.le_of_ble_eq_true rfl) dX3_canBeMet_31 ⟨Nat.zero_le _, Nat.zero_le _⟩ (fun H locs hP hD hS => ?_)
      have hP : va_P D vwCl (wC cI α gw gc gs ge gf cR cL cB pB SD RK RN RS RC RT LK LN LS LL US UB BB) H := hP
      have hD : va_D A (wC cI α gw gc gs ge gf cR cL cB pB SD RK RN RS RC RT LK LN LS LL US UB BB) := hD
      refine lv_istore (lv' := [(5, .int q4), (4, .int q3), (0, .ref (α 2)), (1, .int x1), (2, .ref (α 4)), (3, .int x3)]) hx hb dX3_canBeMet_34 hl (by decide) rfl (fun ls hl => ?_)
      refine lv_iconst (v := (0 : Int32)) hx hb dX3_canBeMet_36 (by decide) ?_
      refine lv_istore (lv' := [(6, .int (0 : Int32)), (5, .int q4), (4, .int q3), (0, .ref (α 2)), (1, .int x1), (2, .ref (α 4)), (3, .int x3)]) hx hb dX3_canBeMet_37 hl (by decide) rfl (fun ls hl => ?_)
      exact w39 F _ _ _ _ _ _ H locs ls hf hP hD hS (lv_sub hl [3, 4, 5, 6, 2, 1, 0] rfl)
    · have hf := it_f c2 hf
      refine lv_aload_n hx hb dX3_canBeMet_10 rfl (lv_at hl 0 rfl) ?_
      refine lv_iload_n hx hb dX3_canBeMet_11 rfl (lv_at hl 1 rfl) ?_
      refine lv_aload_n hx hb dX3_canBeMet_12 rfl (lv_at hl 0 rfl) ?_
      refine va_get (D := D) (ci := 4) (v := .ref (α 11)) (C := RX3) (T := TX3) (N := 7) hx hb hts hiX3 hown hK hP 2 rfl rfl 5 (by decide) fl26 (fun _ h9 => h9) rfl dX3_canBeMet_13 ?_
      obtain ⟨q5, hq5, hf⟩ := bnd hf
      refine kI_callV (As := [.int x1, .ref (α 11)]) (rest := []) S hP hD hS (c_X3_meets l D cI α gw gc gs ge gf cR cL cB pB SD RK RN RS RC RT LK LN LS LL US UB BB (α 11) 11 RT rfl F x1 q5 hq5) (cwV 2 hts gX3_canBeMet_X3_meets rfl rfl rfl (by decide +kernel) ⟨(by simp only [rm_X3_canBeMet, rm_X3_meets]; omega), (by simp only [rm_X3_canBeMet, rm_X3_meets]; omega)⟩) 2 rfl rfl rfl hl.1 rfl (Nat.le_of_ble_eq_true rfl) dX3_canBeMet_16 ⟨Nat.zero_le _, Nat.zero_le _⟩ (fun H locs hP hD hS => ?_)
      have hP : va_P D vwCl (wC cI α gw gc gs ge gf cR cL cB pB SD RK RN RS RC RT LK LN LS LL US UB BB) H := hP
      have hD : va_D A (wC cI α gw gc gs ge gf cR cL cB pB SD RK RN RS RC RT LK LN LS LL US UB BB) := hD
      obtain ⟨g6, hf⟩ := gbl_some hf
      have e9 := Option.some.inj hf
      subst e9
      exact kI_ret S (nar_b g6) hP hD hS dX3_canBeMet_19
