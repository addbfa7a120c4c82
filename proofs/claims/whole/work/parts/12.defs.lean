/-! the worlds, and what each method computes: written by wip/gen out of the listing -/
def wC (cI : ClassId) (α : Nat → Nat) (gw gc gs ge gf cR cL cB pB : Int32) (SD RK RN RS RC RT LK LN LS LL US UB BB : Nat → Int32) : va_W :=
  [(α 0, .inr (6, [.ref (α 1), .ref (α 2), .ref (α 3), .ref (α 4), .ref (α 5), .ref (α 6)])),
   (α 1, .inr (1, [.int gw, .int gc, .int gs, .int ge, .int gf])),
   (α 2, .inr (4, [.ref (α 1), .ref (α 7), .ref (α 8), .ref (α 9), .ref (α 10), .ref (α 11), .int cR])),
   (α 3, .inr (2, [.ref (α 12), .ref (α 13), .ref (α 14), .ref (α 15), .int cL])),
   (α 4, .inr (5, [.ref (α 1), .ref (α 3), .ref (α 16), .ref (α 17)])),
   (α 5, .inr (3, [.ref (α 1), .ref (α 3), .ref (α 18), .int cB, .int pB])),
   (α 6, .inl (cI, 16, .inl SD)),
   (α 7, .inl (cI, 30, .inl RK)),
   (α 8, .inl (cI, 30, .inl RN)),
   (α 9, .inl (cI, 30, .inl RS)),
   (α 10, .inl (cI, 270, .inl RC)),
   (α 11, .inl (cI, 16, .inl RT)),
   (α 12, .inl (cI, 61, .inl LK)),
   (α 13, .inl (cI, 61, .inl LN)),
   (α 14, .inl (cI, 61, .inl LS)),
   (α 15, .inl (cI, 976, .inl LL)),
   (α 16, .inl (cI, 16, .inl US)),
   (α 17, .inl (cI, 16, .inl UB)),
   (α 18, .inl (cI, 300, .inl BB))]

def wM (cI : ClassId) (β : Nat → Nat) (mT mW mH mS mR mL mC mZ mA mB : Int32) (KK KN KS KC AN JK JN JS JL MY KP FI TX : Nat → Int32) : va_W :=
  [(β 0, .inr (7, [.int mT, .int mW, .int mH, .int mS, .int mR, .ref (β 1), .ref (β 2), .ref (β 3), .ref (β 4), .ref (β 5), .int mL, .ref (β 6), .ref (β 7), .ref (β 8), .ref (β 9), .ref (β 10), .ref (β 11), .int mC, .ref (β 12), .ref (β 13), .int mZ, .int mA, .int mB])),
   (β 1, .inl (cI, 30, .inl KK)),
   (β 2, .inl (cI, 30, .inl KN)),
   (β 3, .inl (cI, 30, .inl KS)),
   (β 4, .inl (cI, 270, .inl KC)),
   (β 5, .inl (cI, 16, .inl AN)),
   (β 6, .inl (cI, 120, .inl JK)),
   (β 7, .inl (cI, 120, .inl JN)),
   (β 8, .inl (cI, 120, .inl JS)),
   (β 9, .inl (cI, 1920, .inl JL)),
   (β 10, .inl (cI, 16, .inl MY)),
   (β 11, .inl (cI, 16, .inl KP)),
   (β 12, .inl (cI, 9, .inl FI)),
   (β 13, .inl (cI, 300, .inl TX))]

def f_X0_within   (x0 : Int32) (x1 : Int32) : Option (Int32) :=
  some ((if (1 : Int32) < (if x0 < x1 then x0 else x1) then (if x0 < x1 then x0 else x1) else (1 : Int32)))
def f_X0_cells (gc : Int32)   : Option (Int32) :=
  some (gc)
def f_X0_symbols (gs : Int32)   : Option (Int32) :=
  some (gs)
def f_X0_allSymbols (gs : Int32)   : Option (Int32) :=
  some ((((1 : Int32) <<< (gs &&& 31)) - (1 : Int32)))
def f_X0_hasCell (gc : Int32)  (x1 : Int32) : Option (Int32) :=
  if x1 < 0 then
    some ((0 : Int32))
  else
    if gc ≤ x1 then
      some ((0 : Int32))
    else
      some ((1 : Int32))
def f_X0_hasSymbol (gs : Int32)  (x1 : Int32) : Option (Int32) :=
  if x1 < 0 then
    some ((0 : Int32))
  else
    if gs ≤ x1 then
      some ((0 : Int32))
    else
      some ((1 : Int32))
def f_X0_nextTo (gw : Int32) (ge : Int32) (gf : Int32)  (x1 : Int32) : Option (Int32) :=
  some (((((((x1 >>> (gw &&& 31)) ||| (x1 <<< (gw &&& 31)))) ||| ((((x1 &&& (ge ^^^ (-1 : Int32)))) >>> ((1 : Int32) &&& 31))))) ||| ((((x1 &&& (gf ^^^ (-1 : Int32)))) <<< ((1 : Int32) &&& 31)))))
def f_X0_hangTogether_J36 (gw : Int32) (gc : Int32) (ge : Int32) (gf : Int32) (F : Nat) (x1 : Int32) (x2 : Int32)  : Option (Int32) :=
  if ¬ x2 = x1 then
    some ((0 : Int32))
  else
    some ((1 : Int32))
def f_X0_hangTogether_L7 (gw : Int32) (gc : Int32) (ge : Int32) (gf : Int32) (F : Nat) : Nat → Int32 → Int32 → Int32 → Option (Int32)
  | 0, _, _, _ => none
  | n + 1, x1, x2, x3 =>
    if gc ≤ x3 then
      f_X0_hangTogether_J36 gw gc ge gf F x1 x2
    else
      if x2 = x1 then
        f_X0_hangTogether_J36 gw gc ge gf F x1 x2
      else
        Option.bind (f_X0_nextTo gw ge gf x2) (fun q3 =>
          f_X0_hangTogether_L7 gw gc ge gf F n x1 (x2 ||| (q3 &&& x1)) (x3 + (1 : Int32)))
def f_X0_hangTogether (gw : Int32) (gc : Int32) (ge : Int32) (gf : Int32) (F : Nat)  (x1 : Int32) : Option (Int32) :=
  f_X0_hangTogether_L7 gw gc ge gf F F x1 (x1 &&& (-x1)) (0 : Int32)
def f_X1_literalOf   (x0 : Int32) (x1 : Int32) (x2 : Int32) : Option (Int32) :=
  if x2 = 0 then
    some ((((((x0 <<< ((4 : Int32) &&& 31))) ||| ((x1 <<< ((1 : Int32) &&& 31))))) ||| (0 : Int32)))
  else
    some ((((((x0 <<< ((4 : Int32) &&& 31))) ||| ((x1 <<< ((1 : Int32) &&& 31))))) ||| (1 : Int32)))
def f_X1_cellOf   (x0 : Int32) : Option (Int32) :=
  some ((x0 >>> ((4 : Int32) &&& 31)))
def f_X1_symbolOf   (x0 : Int32) : Option (Int32) :=
  some ((((x0 >>> ((1 : Int32) &&& 31))) &&& (7 : Int32)))
def f_X1_saysIs   (x0 : Int32) : Option (Int32) :=
  if ¬ (x0 &&& (1 : Int32)) = (1 : Int32) then
    some ((0 : Int32))
  else
    some ((1 : Int32))
def f_X1_count (cL : Int32)   : Option (Int32) :=
  some (cL)
def f_X1_isFull (cL : Int32)   : Option (Int32) :=
  if cL < (60 : Int32) then
    some ((0 : Int32))
  else
    some ((1 : Int32))
def f_X1_kindOf (LK : Nat → Int32)  (x1 : Int32) : Option (Int32) :=
  gin x1 61 (some ((LK x1.toNatClampNeg)))
def f_X1_numberOf (LN : Nat → Int32)  (x1 : Int32) : Option (Int32) :=
  gin x1 61 (some ((LN x1.toNatClampNeg)))
def f_X1_sizeOf (LS : Nat → Int32)  (x1 : Int32) : Option (Int32) :=
  gin x1 61 (some ((LS x1.toNatClampNeg)))
def f_X1_literalAt (LL : Nat → Int32)  (x1 : Int32) (x2 : Int32) : Option (Int32) :=
  gin ((((16 : Int32) * x1) + x2)) 976 (some ((LL ((((16 : Int32) * x1) + x2)).toNatClampNeg)))
def f_X1_startDraft (cL : Int32) (LK : Nat → Int32) (LN : Nat → Int32) (LS : Nat → Int32) (x1 : Int32) (x2 : Int32) : Option ((Nat → Int32) × (Nat → Int32) × (Nat → Int32)) :=
  gin cL 61 (gin cL 61 (gin cL 61 (some ((upd LK cL.toNatClampNeg x1), (upd LN cL.toNatClampNeg x2), (upd LS cL.toNatClampNeg (0 : Int32))))))
def f_X1_keepDraft  (cL : Int32)  : Option (Int32 × Int32) :=
  Option.bind (f_X1_isFull cL) (fun q1 =>
    if q1 = 0 then
    some ((1 : Int32), (cL + (1 : Int32)))
  else
    some ((0 : Int32), cL))
def f_X1_cutTo  (cL : Int32) (x1 : Int32) : Option (Int32) :=
  some (x1)
def f_X1_isFullOfLiterals (LS : Nat → Int32)  (x1 : Int32) : Option (Int32) :=
  gin x1 61 (if (LS x1.toNatClampNeg) < (16 : Int32) then
    some ((0 : Int32))
  else
    some ((1 : Int32)))
def f_X1_addLiteral_L20  (F : Nat) : Nat → Int32 → Int32 → Int32 → Int32 → (Nat → Int32) → (Nat → Int32) → Option (Int32 × (Nat → Int32) × (Nat → Int32))
  | 0, _, _, _, _, _, _ => none
  | n + 1, x1, x2, x3, x4, LS, LL =>
    if x3 ≤ x4 then
      gin ((((16 : Int32) * x1) + x3)) 976 (gin x1 61 (some ((1 : Int32), (upd LS x1.toNatClampNeg (x3 + (1 : Int32))), (upd LL ((((16 : Int32) * x1) + x3)).toNatClampNeg x2))))
    else
      Option.bind (f_X1_literalAt LL x1 x4) (fun q7 =>
        if ¬ q7 = x2 then
        f_X1_addLiteral_L20 F n x1 x2 x3 (x4 + (1 : Int32)) LS LL
      else
        some ((0 : Int32), LS, LL))
def f_X1_addLiteral  (F : Nat) (LS : Nat → Int32) (LL : Nat → Int32) (x1 : Int32) (x2 : Int32) : Option (Int32 × (Nat → Int32) × (Nat → Int32)) :=
  Option.bind (f_X1_isFullOfLiterals LS x1) (fun q1 =>
    if q1 = 0 then
    gin x1 61 (f_X1_addLiteral_L20 F F x1 x2 (LS x1.toNatClampNeg) (0 : Int32) LS LL)
  else
    some ((0 : Int32), LS, LL))
def f_X2_append  (cB : Int32) (BB : Nat → Int32) (x1 : Int32) : Option (Int32 × Int32 × (Nat → Int32)) :=
  if x1 < 0 then
    some ((0 : Int32), cB, BB)
  else
    if (255 : Int32) < x1 then
      some ((0 : Int32), cB, BB)
    else
      if cB < (300 : Int32) then
        gin cB 300 (some ((1 : Int32), (cB + (1 : Int32)), (upd BB cB.toNatClampNeg x1)))
      else
        some ((0 : Int32), cB, BB)
def f_X2_isHere (cB : Int32) (pB : Int32) (BB : Nat → Int32)  (x1 : Int32) : Option (Int32) :=
  if cB ≤ pB then
    some ((0 : Int32))
  else
    gin pB 300 (if ¬ (BB pB.toNatClampNeg) = x1 then
      some ((0 : Int32))
    else
      some ((1 : Int32)))
def f_X2_digitHere (cB : Int32) (pB : Int32) (BB : Nat → Int32)   : Option (Int32) :=
  if cB ≤ pB then
    some ((-1 : Int32))
  else
    gin pB 300 (if (BB pB.toNatClampNeg) < (48 : Int32) then
      some ((-1 : Int32))
    else
      gin pB 300 (if (BB pB.toNatClampNeg) ≤ (57 : Int32) then
        gin pB 300 (some (((BB pB.toNatClampNeg) - (48 : Int32))))
      else
        some ((-1 : Int32))))
def f_X2_readNumber_J34 (cB : Int32) (BB : Nat → Int32) (t0 : Int32) (x1 : Int32) (pB : Int32) : Option (Int32 × Int32) :=
  if ¬ t0 = (-1 : Int32) then
    some ((((10 : Int32) * x1) + t0), (pB + (1 : Int32)))
  else
    some (x1, pB)
def f_X2_readNumber (cB : Int32) (BB : Nat → Int32) (pB : Int32)  : Option (Int32 × Int32) :=
  Option.bind (f_X2_digitHere cB pB BB) (fun q1 =>
    if ¬ q1 = (-1 : Int32) then
    if ¬ q1 = 0 then
      Option.bind (f_X2_digitHere cB (pB + (1 : Int32)) BB) (fun q4 =>
        f_X2_readNumber_J34 cB BB q4 q1 (pB + (1 : Int32)))
    else
      f_X2_readNumber_J34 cB BB (-1 : Int32) q1 (pB + (1 : Int32))
  else
    some ((-1 : Int32), pB))
def f_X2_readHead_J36 (cL : Int32) (cB : Int32) (BB : Nat → Int32) (t1 : Int32) (pB : Int32) (LK : Nat → Int32) (LN : Nat → Int32) (LS : Nat → Int32) : Option (Int32 × Int32 × (Nat → Int32) × (Nat → Int32) × (Nat → Int32)) :=
  Option.bind (f_X1_startDraft cL LK LN LS t1 (0 : Int32)) (fun q11 =>
    some ((1 : Int32), (pB + (1 : Int32)), q11.1, q11.2.1, q11.2.2))
def f_X2_readHead_J18 (cL : Int32) (cB : Int32) (BB : Nat → Int32)  (pB : Int32) (LK : Nat → Int32) (LN : Nat → Int32) (LS : Nat → Int32) : Option (Int32 × Int32 × (Nat → Int32) × (Nat → Int32) × (Nat → Int32)) :=
  Option.bind (f_X2_isHere cB pB BB (117 : Int32)) (fun q9 =>
    if q9 = 0 then
    f_X2_readHead_J36 cL cB BB (3 : Int32) pB LK LN LS
  else
    f_X2_readHead_J36 cL cB BB (1 : Int32) pB LK LN LS)
def f_X2_readHead_J86 (cL : Int32) (cB : Int32) (BB : Nat → Int32) (t0 : Int32) (pB : Int32) (LK : Nat → Int32) (LN : Nat → Int32) (LS : Nat → Int32) : Option (Int32 × Int32 × (Nat → Int32) × (Nat → Int32) × (Nat → Int32)) :=
  Option.bind (f_X2_readNumber cB BB (pB + (1 : Int32))) (fun q14 =>
    Option.bind (f_X1_startDraft cL LK LN LS t0 q14.1) (fun q15 =>
    if q14.1 = (-1 : Int32) then
    some ((0 : Int32), q14.2, q15.1, q15.2.1, q15.2.2)
  else
    some ((1 : Int32), q14.2, q15.1, q15.2.1, q15.2.2)))
def f_X2_readHead_J72 (cL : Int32) (cB : Int32) (BB : Nat → Int32)  (pB : Int32) (LK : Nat → Int32) (LN : Nat → Int32) (LS : Nat → Int32) : Option (Int32 × Int32 × (Nat → Int32) × (Nat → Int32) × (Nat → Int32)) :=
  Option.bind (f_X2_isHere cB pB BB (114 : Int32)) (fun q12 =>
    if q12 = 0 then
    f_X2_readHead_J86 cL cB BB (2 : Int32) pB LK LN LS
  else
    f_X2_readHead_J86 cL cB BB (0 : Int32) pB LK LN LS)
def f_X2_readHead (cL : Int32) (cB : Int32) (BB : Nat → Int32) (pB : Int32) (LK : Nat → Int32) (LN : Nat → Int32) (LS : Nat → Int32)  : Option (Int32 × Int32 × (Nat → Int32) × (Nat → Int32) × (Nat → Int32)) :=
  Option.bind (f_X2_isHere cB pB BB (117 : Int32)) (fun q1 =>
    if ¬ q1 = 0 then
    f_X2_readHead_J18 cL cB BB pB LK LN LS
  else
    Option.bind (f_X2_isHere cB pB BB (98 : Int32)) (fun q3 =>
      if q3 = 0 then
      Option.bind (f_X2_isHere cB pB BB (114 : Int32)) (fun q5 =>
        if ¬ q5 = 0 then
        f_X2_readHead_J72 cL cB BB pB LK LN LS
      else
        Option.bind (f_X2_isHere cB pB BB (115 : Int32)) (fun q7 =>
          if ¬ q7 = 0 then
          f_X2_readHead_J72 cL cB BB pB LK LN LS
        else
          some ((0 : Int32), pB, LK, LN, LS)))
    else
      f_X2_readHead_J18 cL cB BB pB LK LN LS))
def f_X2_readNumberBelow (cB : Int32) (BB : Nat → Int32) (pB : Int32) (x1 : Int32) : Option (Int32 × Int32) :=
  Option.bind (f_X2_readNumber cB BB pB) (fun q1 =>
    if q1.1 < x1 then
    some (q1.1, q1.2)
  else
    some ((-1 : Int32), (q1.2 - (1 : Int32))))
def f_X2_readLiteral_J32 (gc : Int32) (gs : Int32) (cB : Int32) (BB : Nat → Int32) (F : Nat) (x1 : Int32) (x2 : Int32) (pB : Int32) (LS : Nat → Int32) (LL : Nat → Int32) : Option (Int32 × Int32 × (Nat → Int32) × (Nat → Int32)) :=
  Option.bind (f_X0_cells gc) (fun q5 =>
    Option.bind (f_X2_readNumberBelow cB BB (pB + (1 : Int32)) q5) (fun q6 =>
    if q6.1 = (-1 : Int32) then
    some ((0 : Int32), q6.2, LS, LL)
  else
    Option.bind (f_X2_isHere cB q6.2 BB (46 : Int32)) (fun q8 =>
      if ¬ q8 = 0 then
      Option.bind (f_X0_symbols gs) (fun q10 =>
        Option.bind (f_X2_readNumberBelow cB BB (q6.2 + (1 : Int32)) q10) (fun q11 =>
        if ¬ q11.1 = (-1 : Int32) then
        Option.bind (f_X1_literalOf q6.1 q11.1 x2) (fun q13 =>
          Option.bind (f_X1_addLiteral F LS LL x1 q13) (fun q14 =>
          if ¬ q14.1 = 0 then
          some ((1 : Int32), q11.2, q14.2.1, q14.2.2)
        else
          some ((0 : Int32), (q11.2 - (1 : Int32)), q14.2.1, q14.2.2)))
      else
        some ((0 : Int32), q11.2, LS, LL)))
    else
      some ((0 : Int32), q6.2, LS, LL))))
def f_X2_readLiteral (gc : Int32) (gs : Int32) (cB : Int32) (BB : Nat → Int32) (F : Nat) (pB : Int32) (LS : Nat → Int32) (LL : Nat → Int32) (x1 : Int32) : Option (Int32 × Int32 × (Nat → Int32) × (Nat → Int32)) :=
  Option.bind (f_X2_isHere cB (pB + (1 : Int32)) BB (43 : Int32)) (fun q1 =>
    if ¬ q1 = 0 then
    f_X2_readLiteral_J32 gc gs cB BB F x1 q1 (pB + (1 : Int32)) LS LL
  else
    Option.bind (f_X2_isHere cB (pB + (1 : Int32)) BB (45 : Int32)) (fun q3 =>
      if ¬ q3 = 0 then
      f_X2_readLiteral_J32 gc gs cB BB F x1 q1 (pB + (1 : Int32)) LS LL
    else
      some ((0 : Int32), (pB + (1 : Int32)), LS, LL)))
def f_X2_readLine_J62 (gc : Int32) (gs : Int32) (cB : Int32) (BB : Nat → Int32) (F : Nat)  (cL : Int32) (pB : Int32) (LK : Nat → Int32) (LN : Nat → Int32) (LS : Nat → Int32) (LL : Nat → Int32) : Option (Int32 × Int32 × Int32 × (Nat → Int32) × (Nat → Int32) × (Nat → Int32) × (Nat → Int32)) :=
  Option.bind (f_X2_isHere cB pB BB (59 : Int32)) (fun q11 =>
    if q11 = 0 then
    some ((0 : Int32), cL, pB, LK, LN, LS, LL)
  else
    Option.bind (f_X1_keepDraft cL) (fun q13 =>
      if ¬ q13.1 = 0 then
      some ((1 : Int32), q13.2, (pB + (1 : Int32)), LK, LN, LS, LL)
    else
      some ((0 : Int32), q13.2, pB, LK, LN, LS, LL)))
def f_X2_readLine_L19 (gc : Int32) (gs : Int32) (cB : Int32) (BB : Nat → Int32) (F : Nat) : Nat → Int32 → Int32 → Int32 → Int32 → (Nat → Int32) → (Nat → Int32) → (Nat → Int32) → (Nat → Int32) → Option (Int32 × Int32 × Int32 × (Nat → Int32) × (Nat → Int32) × (Nat → Int32) × (Nat → Int32))
  | 0, _, _, _, _, _, _, _, _ => none
  | n + 1, x1, x2, cL, pB, LK, LN, LS, LL =>
    if (300 : Int32) ≤ x2 then
      f_X2_readLine_J62 gc gs cB BB F cL pB LK LN LS LL
    else
      Option.bind (f_X2_isHere cB pB BB (32 : Int32)) (fun q5 =>
        if q5 = 0 then
        f_X2_readLine_J62 gc gs cB BB F cL pB LK LN LS LL
      else
        Option.bind (f_X1_isFullOfLiterals LS x1) (fun q7 =>
          if ¬ q7 = 0 then
          some ((0 : Int32), cL, pB, LK, LN, LS, LL)
        else
          Option.bind (f_X2_readLiteral gc gs cB BB F pB LS LL x1) (fun q9 =>
            if ¬ q9.1 = 0 then
            f_X2_readLine_L19 gc gs cB BB F n x1 (x2 + (1 : Int32)) cL q9.2.1 LK LN q9.2.2.1 q9.2.2.2
          else
            some ((0 : Int32), cL, q9.2.1, LK, LN, q9.2.2.1, q9.2.2.2))))
def f_X2_readLine (gc : Int32) (gs : Int32) (cB : Int32) (BB : Nat → Int32) (F : Nat) (cL : Int32) (pB : Int32) (LK : Nat → Int32) (LN : Nat → Int32) (LS : Nat → Int32) (LL : Nat → Int32)  : Option (Int32 × Int32 × Int32 × (Nat → Int32) × (Nat → Int32) × (Nat → Int32) × (Nat → Int32)) :=
  Option.bind (f_X2_readHead cL cB BB pB LK LN LS) (fun q1 =>
    if ¬ q1.1 = 0 then
    Option.bind (f_X1_count cL) (fun q3 =>
      f_X2_readLine_L19 gc gs cB BB F F q3 (0 : Int32) cL q1.2.1 q1.2.2.1 q1.2.2.2.1 q1.2.2.2.2 LL)
  else
    some ((0 : Int32), cL, q1.2.1, q1.2.2.1, q1.2.2.2.1, q1.2.2.2.2, LL))
def f_X2_readAll_J50 (gc : Int32) (gs : Int32) (BB : Nat → Int32) (F : Nat) (x1 : Int32) (x2 : Int32) (cL : Int32) (cB : Int32) (pB : Int32) (LK : Nat → Int32) (LN : Nat → Int32) (LS : Nat → Int32) (LL : Nat → Int32) : Option (Int32 × Int32 × Int32 × Int32 × (Nat → Int32) × (Nat → Int32) × (Nat → Int32) × (Nat → Int32)) :=
  if ¬ x2 = 0 then
    Option.bind (f_X1_count cL) (fun q7 =>
      some ((q7 - x1), cL, (0 : Int32), pB, LK, LN, LS, LL))
  else
    Option.bind (f_X1_cutTo cL x1) (fun q8 =>
      some (((-1 : Int32) - pB), q8, (0 : Int32), pB, LK, LN, LS, LL))
def f_X2_readAll_L17 (gc : Int32) (gs : Int32) (BB : Nat → Int32) (F : Nat) : Nat → Int32 → Int32 → Int32 → Int32 → Int32 → Int32 → (Nat → Int32) → (Nat → Int32) → (Nat → Int32) → (Nat → Int32) → Option (Int32 × Int32 × Int32 × Int32 × (Nat → Int32) × (Nat → Int32) × (Nat → Int32) × (Nat → Int32))
  | 0, _, _, _, _, _, _, _, _, _, _ => none
  | n + 1, x1, x2, x3, cL, cB, pB, LK, LN, LS, LL =>
    if (300 : Int32) ≤ x3 then
      f_X2_readAll_J50 gc gs BB F x1 x2 cL cB pB LK LN LS LL
    else
      if x2 = 0 then
        f_X2_readAll_J50 gc gs BB F x1 x2 cL cB pB LK LN LS LL
      else
        if cB ≤ pB then
          f_X2_readAll_J50 gc gs BB F x1 x2 cL cB pB LK LN LS LL
        else
          Option.bind (f_X2_readLine gc gs cB BB F cL pB LK LN LS LL) (fun q5 =>
            f_X2_readAll_L17 gc gs BB F n x1 q5.1 (x3 + (1 : Int32)) q5.2.1 cB q5.2.2.1 q5.2.2.2.1 q5.2.2.2.2.1 q5.2.2.2.2.2.1 q5.2.2.2.2.2.2)
def f_X2_readAll (gc : Int32) (gs : Int32) (BB : Nat → Int32) (F : Nat) (cL : Int32) (cB : Int32) (pB : Int32) (LK : Nat → Int32) (LN : Nat → Int32) (LS : Nat → Int32) (LL : Nat → Int32)  : Option (Int32 × Int32 × Int32 × Int32 × (Nat → Int32) × (Nat → Int32) × (Nat → Int32) × (Nat → Int32)) :=
  Option.bind (f_X1_count cL) (fun q1 =>
    f_X2_readAll_L17 gc gs BB F F q1 (1 : Int32) (0 : Int32) cL cB (0 : Int32) LK LN LS LL)
def f_X3_count (cR : Int32)   : Option (Int32) :=
  some (cR)
def f_X3_has (cR : Int32)  (x1 : Int32) : Option (Int32) :=
  if x1 < 0 then
    some ((0 : Int32))
  else
    if cR ≤ x1 then
      some ((0 : Int32))
    else
      some ((1 : Int32))
def f_X3_append  (cR : Int32) (RK : Nat → Int32) (RN : Nat → Int32) (x1 : Int32) (x2 : Int32) : Option (Int32 × Int32 × (Nat → Int32) × (Nat → Int32)) :=
  if cR < (30 : Int32) then
    gin cR 30 (gin cR 30 (some (((cR + (1 : Int32)) - (1 : Int32)), (cR + (1 : Int32)), (upd RK cR.toNatClampNeg x1), (upd RN cR.toNatClampNeg x2))))
  else
    some ((-1 : Int32), cR, RK, RN)
def f_X3_cellAt (RC : Nat → Int32)  (x1 : Int32) (x2 : Int32) : Option (Int32) :=
  gin ((((9 : Int32) * x1) + x2)) 270 (some ((RC ((((9 : Int32) * x1) + x2)).toNatClampNeg)))
def f_X3_addCell_L18  (F : Nat) : Nat → Int32 → Int32 → Int32 → Int32 → (Nat → Int32) → (Nat → Int32) → Option (Int32 × (Nat → Int32) × (Nat → Int32))
  | 0, _, _, _, _, _, _ => none
  | n + 1, x1, x2, x3, x4, RS, RC =>
    if x3 ≤ x4 then
      gin ((((9 : Int32) * x1) + x3)) 270 (gin x1 30 (some ((1 : Int32), (upd RS x1.toNatClampNeg (x3 + (1 : Int32))), (upd RC ((((9 : Int32) * x1) + x3)).toNatClampNeg x2))))
    else
      Option.bind (f_X3_cellAt RC x1 x4) (fun q6 =>
        if ¬ q6 = x2 then
        f_X3_addCell_L18 F n x1 x2 x3 (x4 + (1 : Int32)) RS RC
      else
        some ((0 : Int32), RS, RC))
def f_X3_addCell  (F : Nat) (RS : Nat → Int32) (RC : Nat → Int32) (x1 : Int32) (x2 : Int32) : Option (Int32 × (Nat → Int32) × (Nat → Int32)) :=
  gin x1 30 (if (RS x1.toNatClampNeg) < (9 : Int32) then
    f_X3_addCell_L18 F F x1 x2 (RS x1.toNatClampNeg) (0 : Int32) RS RC
  else
    some ((0 : Int32), RS, RC))
def f_X3_allSaid_L2 (RS : Nat → Int32) (RC : Nat → Int32) (SY : Nat → Int32) (F : Nat) : Nat → Int32 → Int32 → Option (Int32)
  | 0, _, _ => none
  | n + 1, x1, x3 =>
    gin x1 30 (if (RS x1.toNatClampNeg) ≤ x3 then
      some ((1 : Int32))
    else
      Option.bind (f_X3_cellAt RC x1 x3) (fun q3 =>
        gin q3 16 (if ¬ (SY q3.toNatClampNeg) = (-1 : Int32) then
        f_X3_allSaid_L2 RS RC SY F n x1 (x3 + (1 : Int32))
      else
        some ((0 : Int32)))))
def f_X3_allSaid (RS : Nat → Int32) (RC : Nat → Int32) (SY : Nat → Int32) (F : Nat)  (x1 : Int32) : Option (Int32) :=
  f_X3_allSaid_L2 RS RC SY F F x1 (0 : Int32)
def f_X3_likeTheFirst_J42 (RS : Nat → Int32) (RC : Nat → Int32) (SY : Nat → Int32) (k15 : Int32 → Int32 → Int32 → Int32 → Option (Int32)) (F : Nat) (x1 : Int32) (x3 : Int32) (x4 : Int32) (x5 : Int32)  : Option (Int32) :=
  k15 x1 x3 x4 (x5 + (1 : Int32))
def f_X3_likeTheFirst_L15 (RS : Nat → Int32) (RC : Nat → Int32) (SY : Nat → Int32) (F : Nat) : Nat → Int32 → Int32 → Int32 → Int32 → Option (Int32)
  | 0, _, _, _, _ => none
  | n + 1, x1, x3, x4, x5 =>
    gin x1 30 (if (RS x1.toNatClampNeg) ≤ x5 then
      some (x4)
    else
      Option.bind (f_X3_cellAt RC x1 x5) (fun q5 =>
        gin q5 16 (if ¬ (SY q5.toNatClampNeg) = x3 then
        f_X3_likeTheFirst_J42 RS RC SY (f_X3_likeTheFirst_L15 RS RC SY F n) F x1 x3 x4 x5
      else
        f_X3_likeTheFirst_J42 RS RC SY (f_X3_likeTheFirst_L15 RS RC SY F n) F x1 x3 (x4 + (1 : Int32)) x5)))
def f_X3_likeTheFirst (RS : Nat → Int32) (RC : Nat → Int32) (SY : Nat → Int32) (F : Nat)  (x1 : Int32) : Option (Int32) :=
  Option.bind (f_X3_cellAt RC x1 (0 : Int32)) (fun q1 =>
    gin q1 16 (f_X3_likeTheFirst_L15 RS RC SY F F x1 (SY q1.toNatClampNeg) (0 : Int32) (0 : Int32)))
def f_X3_rise_L2 (RS : Nat → Int32) (RC : Nat → Int32) (SY : Nat → Int32) (F : Nat) : Nat → Int32 → Int32 → Option (Int32)
  | 0, _, _ => none
  | n + 1, x1, x3 =>
    gin x1 30 (if (RS x1.toNatClampNeg) ≤ x3 then
      some ((1 : Int32))
    else
      Option.bind (f_X3_cellAt RC x1 x3) (fun q3 =>
        gin q3 16 (Option.bind (f_X3_cellAt RC x1 (x3 - (1 : Int32))) (fun q5 =>
        gin q5 16 (if (SY q5.toNatClampNeg) < (SY q3.toNatClampNeg) then
        f_X3_rise_L2 RS RC SY F n x1 (x3 + (1 : Int32))
      else
        some ((0 : Int32)))))))
def f_X3_rise (RS : Nat → Int32) (RC : Nat → Int32) (SY : Nat → Int32) (F : Nat)  (x1 : Int32) : Option (Int32) :=
  f_X3_rise_L2 RS RC SY F F x1 (1 : Int32)
def f_X3_sum_L5 (RS : Nat → Int32) (RC : Nat → Int32) (SY : Nat → Int32) (F : Nat) : Nat → Int32 → Int32 → Int32 → Option (Int32)
  | 0, _, _, _ => none
  | n + 1, x1, x3, x4 =>
    gin x1 30 (if (RS x1.toNatClampNeg) ≤ x4 then
      some (x3)
    else
      Option.bind (f_X3_cellAt RC x1 x4) (fun q3 =>
        gin q3 16 (f_X3_sum_L5 RS RC SY F n x1 (x3 + (SY q3.toNatClampNeg)) (x4 + (1 : Int32)))))
def f_X3_sum (RS : Nat → Int32) (RC : Nat → Int32) (SY : Nat → Int32) (F : Nat)  (x1 : Int32) : Option (Int32) :=
  f_X3_sum_L5 RS RC SY F F x1 (0 : Int32) (0 : Int32)
def f_X3_areUnlike_L5 (RS : Nat → Int32) (RC : Nat → Int32) (SY : Nat → Int32) (F : Nat) : Nat → Int32 → Int32 → Int32 → Option (Int32)
  | 0, _, _, _ => none
  | n + 1, x1, x3, x4 =>
    gin x1 30 (if (RS x1.toNatClampNeg) ≤ x4 then
      some ((1 : Int32))
    else
      Option.bind (f_X3_cellAt RC x1 x4) (fun q3 =>
        gin q3 16 (if ((x3 &&& (((1 : Int32) <<< ((SY q3.toNatClampNeg) &&& 31))))) = 0 then
        f_X3_areUnlike_L5 RS RC SY F n x1 ((x3 ||| (((1 : Int32) <<< ((SY q3.toNatClampNeg) &&& 31))))) (x4 + (1 : Int32))
      else
        some ((0 : Int32)))))
def f_X3_areUnlike (RS : Nat → Int32) (RC : Nat → Int32) (SY : Nat → Int32) (F : Nat)  (x1 : Int32) : Option (Int32) :=
  f_X3_areUnlike_L5 RS RC SY F F x1 (0 : Int32) (0 : Int32)
def f_X3_cellsWithOne_J40 (RS : Nat → Int32) (RC : Nat → Int32) (SY : Nat → Int32) (k5 : Int32 → Int32 → Int32 → Option (Int32)) (F : Nat) (x1 : Int32) (x3 : Int32) (x4 : Int32)  : Option (Int32) :=
  k5 x1 x3 (x4 + (1 : Int32))
def f_X3_cellsWithOne_L5 (RS : Nat → Int32) (RC : Nat → Int32) (SY : Nat → Int32) (F : Nat) : Nat → Int32 → Int32 → Int32 → Option (Int32)
  | 0, _, _, _ => none
  | n + 1, x1, x3, x4 =>
    gin x1 30 (if (RS x1.toNatClampNeg) ≤ x4 then
      some (x3)
    else
      Option.bind (f_X3_cellAt RC x1 x4) (fun q3 =>
        gin q3 16 (if ¬ (SY q3.toNatClampNeg) = (1 : Int32) then
        f_X3_cellsWithOne_J40 RS RC SY (f_X3_cellsWithOne_L5 RS RC SY F n) F x1 x3 x4
      else
        f_X3_cellsWithOne_J40 RS RC SY (f_X3_cellsWithOne_L5 RS RC SY F n) F x1 ((x3 ||| ((1 : Int32) <<< (q3 &&& 31)))) x4)))
def f_X3_cellsWithOne (RS : Nat → Int32) (RC : Nat → Int32) (SY : Nat → Int32) (F : Nat)  (x1 : Int32) : Option (Int32) :=
  f_X3_cellsWithOne_L5 RS RC SY F F x1 (0 : Int32) (0 : Int32)
def f_X3_meets (gw : Int32) (gc : Int32) (ge : Int32) (gf : Int32) (RK : Nat → Int32) (RN : Nat → Int32) (RS : Nat → Int32) (RC : Nat → Int32) (SY : Nat → Int32) (F : Nat)  (x1 : Int32) : Option (Int32) :=
  gin x1 30 (if (RK x1.toNatClampNeg) = (0 : Int32) then
    Option.bind (f_X3_areUnlike RS RC SY F x1) (fun q3 =>
      gbl q3 (some (q3)))
  else if (RK x1.toNatClampNeg) = (1 : Int32) then
    Option.bind (f_X3_sum RS RC SY F x1) (fun q6 =>
      gin x1 30 (if ¬ q6 = (RN x1.toNatClampNeg) then
      some ((0 : Int32))
    else
      some ((1 : Int32))))
  else if (RK x1.toNatClampNeg) = (2 : Int32) then
    Option.bind (f_X3_rise RS RC SY F x1) (fun q10 =>
      gbl q10 (some (q10)))
  else if (RK x1.toNatClampNeg) = (3 : Int32) then
    gin x1 30 (if (RS x1.toNatClampNeg) = 0 then
      some ((1 : Int32))
    else
      Option.bind (f_X3_likeTheFirst RS RC SY F x1) (fun q15 =>
        gin x1 30 (if ¬ q15 = (RN x1.toNatClampNeg) then
        some ((0 : Int32))
      else
        some ((1 : Int32)))))
  else 
    Option.bind (f_X3_cellsWithOne RS RC SY F x1) (fun q18 =>
      Option.bind (f_X0_hangTogether gw gc ge gf F q18) (fun q19 =>
      gbl q19 (some (q19)))))
def f_X3_canBeTried_L4 (gs : Int32) (RS : Nat → Int32) (F : Nat) : Nat → Int32 → Int32 → Int32 → Option (Int32)
  | 0, _, _, _ => none
  | n + 1, x1, x2, x3 =>
    gin x1 30 (if (RS x1.toNatClampNeg) ≤ x3 then
      if (4096 : Int32) < x2 then
        some ((0 : Int32))
      else
        some ((1 : Int32))
    else
      Option.bind (f_X0_symbols gs) (fun q4 =>
        f_X3_canBeTried_L4 gs RS F n x1 (x2 * q4) (x3 + (1 : Int32))))
def f_X3_canBeTried (gs : Int32) (RS : Nat → Int32) (F : Nat)  (x1 : Int32) : Option (Int32) :=
  f_X3_canBeTried_L4 gs RS F F x1 (1 : Int32) (0 : Int32)
def f_X4_symbolsOf (US : Nat → Int32)  (x1 : Int32) : Option (Int32) :=
  gin x1 16 (some ((US x1.toNatClampNeg)))
def f_X3_canBeMet_J84 (gw : Int32) (gc : Int32) (gs : Int32) (ge : Int32) (gf : Int32) (RK : Nat → Int32) (RN : Nat → Int32) (RS : Nat → Int32) (RC : Nat → Int32) (US : Nat → Int32) (rc : (Nat → Int32) → Int32 → Int32 → Option (Int32 × (Nat → Int32))) (k39 : Int32 → Int32 → Int32 → Int32 → Int32 → (Nat → Int32) → Option (Int32 × (Nat → Int32))) (F : Nat) (x1 : Int32) (x3 : Int32) (x4 : Int32) (x5 : Int32) (x6 : Int32) (RT : Nat → Int32) : Option (Int32 × (Nat → Int32)) :=
  k39 x1 x3 x4 x5 (x6 + (1 : Int32)) RT
def f_X3_canBeMet_L39 (gw : Int32) (gc : Int32) (gs : Int32) (ge : Int32) (gf : Int32) (RK : Nat → Int32) (RN : Nat → Int32) (RS : Nat → Int32) (RC : Nat → Int32) (US : Nat → Int32) (rc : (Nat → Int32) → Int32 → Int32 → Option (Int32 × (Nat → Int32))) (F : Nat) : Nat → Int32 → Int32 → Int32 → Int32 → Int32 → (Nat → Int32) → Option (Int32 × (Nat → Int32))
  | 0, _, _, _, _, _, _ => none
  | n + 1, x1, x3, x4, x5, x6, RT =>
    Option.bind (f_X0_symbols gs) (fun q7 =>
      if q7 ≤ x6 then
      some ((0 : Int32), RT)
    else
      if ((x5 &&& ((1 : Int32) <<< (x6 &&& 31)))) = 0 then
        f_X3_canBeMet_J84 gw gc gs ge gf RK RN RS RC US rc (f_X3_canBeMet_L39 gw gc gs ge gf RK RN RS RC US rc F n) F x1 x3 x4 x5 x6 RT
      else
        gin x4 16 (Option.bind (rc (upd RT x4.toNatClampNeg x6) x1 (x3 + (1 : Int32))) (fun q11 =>
          if q11.1 = 0 then
          f_X3_canBeMet_J84 gw gc gs ge gf RK RN RS RC US rc (f_X3_canBeMet_L39 gw gc gs ge gf RK RN RS RC US rc F n) F x1 x3 x4 x5 x6 q11.2
        else
          some ((1 : Int32), q11.2))))
def f_X3_canBeMet (gw : Int32) (gc : Int32) (gs : Int32) (ge : Int32) (gf : Int32) (RK : Nat → Int32) (RN : Nat → Int32) (RS : Nat → Int32) (RC : Nat → Int32) (US : Nat → Int32) (F : Nat) : Nat → (Nat → Int32) → Int32 → Int32 → Option (Int32 × (Nat → Int32))
  | 0, _, _, _ => none
  | d + 1, RT, x1, x3 =>
    gin x1 30 (if x3 < (RS x1.toNatClampNeg) then
      Option.bind (f_X3_cellAt RC x1 x3) (fun q3 =>
        Option.bind (f_X4_symbolsOf US q3) (fun q4 =>
        f_X3_canBeMet_L39 gw gc gs ge gf RK RN RS RC US (f_X3_canBeMet gw gc gs ge gf RK RN RS RC US F d) F F x1 x3 q3 q4 (0 : Int32) RT))
    else
      Option.bind (f_X3_meets gw gc ge gf RK RN RS RC RT F x1) (fun q5 =>
        gbl q5 (some (q5, RT))))
def f_X4_startWhole_L2 (gc : Int32) (gs : Int32) (F : Nat) : Nat → Int32 → (Nat → Int32) → Option ((Nat → Int32))
  | 0, _, _ => none
  | n + 1, x1, US =>
    Option.bind (f_X0_cells gc) (fun q1 =>
      if q1 ≤ x1 then
      some (US)
    else
      Option.bind (f_X0_allSymbols gs) (fun q3 =>
        gin x1 16 (f_X4_startWhole_L2 gc gs F n (x1 + (1 : Int32)) (upd US x1.toNatClampNeg q3))))
def f_X4_startWhole (gc : Int32) (gs : Int32) (F : Nat) (US : Nat → Int32)  : Option ((Nat → Int32)) :=
  f_X4_startWhole_L2 gc gs F F (0 : Int32) US
def f_X4_narrow  (US : Nat → Int32) (x1 : Int32) (x2 : Int32) : Option ((Nat → Int32)) :=
  Option.bind (f_X1_cellOf x1) (fun q1 =>
    Option.bind (f_X1_symbolOf x1) (fun q2 =>
    gin q1 16 (if x2 = 0 then
    gin q1 16 (some ((upd US q1.toNatClampNeg (((US q1.toNatClampNeg) &&& ((((1 : Int32) <<< (q2 &&& 31)) ^^^ (-1 : Int32))))))))
  else
    gin q1 16 (some ((upd US q1.toNatClampNeg (((US q1.toNatClampNeg) &&& ((1 : Int32) <<< (q2 &&& 31))))))))))
def f_X4_turnRound_J42 (gc : Int32) (gs : Int32) (LS : Nat → Int32) (LL : Nat → Int32) (k6 : Int32 → Int32 → (Nat → Int32) → Option ((Nat → Int32))) (F : Nat) (t1 : Int32) (t2 : Int32) (x1 : Int32) (x2 : Int32) (US : Nat → Int32) : Option ((Nat → Int32)) :=
  Option.bind (f_X4_narrow US t1 t2) (fun q7 =>
    k6 x1 (x2 + (1 : Int32)) q7)
def f_X4_turnRound_L6 (gc : Int32) (gs : Int32) (LS : Nat → Int32) (LL : Nat → Int32) (F : Nat) : Nat → Int32 → Int32 → (Nat → Int32) → Option ((Nat → Int32))
  | 0, _, _, _ => none
  | n + 1, x1, x2, US =>
    Option.bind (f_X1_sizeOf LS x1) (fun q2 =>
      if q2 ≤ x2 then
      some (US)
    else
      Option.bind (f_X1_literalAt LL x1 x2) (fun q4 =>
        Option.bind (f_X1_saysIs q4) (fun q5 =>
        if ¬ q5 = 0 then
        f_X4_turnRound_J42 gc gs LS LL (f_X4_turnRound_L6 gc gs LS LL F n) F q4 (0 : Int32) x1 x2 US
      else
        f_X4_turnRound_J42 gc gs LS LL (f_X4_turnRound_L6 gc gs LS LL F n) F q4 (1 : Int32) x1 x2 US)))
def f_X4_turnRound (gc : Int32) (gs : Int32) (LS : Nat → Int32) (LL : Nat → Int32) (F : Nat) (US : Nat → Int32) (x1 : Int32) : Option ((Nat → Int32)) :=
  Option.bind (f_X4_startWhole gc gs F US) (fun q1 =>
    f_X4_turnRound_L6 gc gs LS LL F F x1 (0 : Int32) q1)
def f_X4_someCellMayBeNothing_L2 (gc : Int32) (US : Nat → Int32) (F : Nat) : Nat → Int32 → Option (Int32)
  | 0, _ => none
  | n + 1, x1 =>
    Option.bind (f_X0_cells gc) (fun q1 =>
      if q1 ≤ x1 then
      some ((0 : Int32))
    else
      gin x1 16 (if ¬ (US x1.toNatClampNeg) = 0 then
        f_X4_someCellMayBeNothing_L2 gc US F n (x1 + (1 : Int32))
      else
        some ((1 : Int32))))
def f_X4_someCellMayBeNothing (gc : Int32) (US : Nat → Int32) (F : Nat)   : Option (Int32) :=
  f_X4_someCellMayBeNothing_L2 gc US F F (0 : Int32)
def f_X4_stateOf (US : Nat → Int32)  (x1 : Int32) : Option (Int32) :=
  Option.bind (f_X1_cellOf x1) (fun q1 =>
    gin q1 16 (Option.bind (f_X1_symbolOf x1) (fun q3 =>
    if ¬ (US q1.toNatClampNeg) = ((1 : Int32) <<< (q3 &&& 31)) then
    if ¬ (((US q1.toNatClampNeg) &&& ((1 : Int32) <<< (q3 &&& 31)))) = 0 then
      some ((5 : Int32))
    else
      Option.bind (f_X1_saysIs x1) (fun q6 =>
        if q6 = 0 then
        some ((3 : Int32))
      else
        some ((4 : Int32)))
  else
    Option.bind (f_X1_saysIs x1) (fun q8 =>
      if q8 = 0 then
      some ((4 : Int32))
    else
      some ((3 : Int32))))))
def f_X4_stepBy_J63 (LS : Nat → Int32) (LL : Nat → Int32) (k4 : Int32 → Int32 → Int32 → (Nat → Int32) → Option (Int32 × (Nat → Int32))) (F : Nat) (x1 : Int32) (x2 : Int32) (x3 : Int32) (US : Nat → Int32) : Option (Int32 × (Nat → Int32)) :=
  k4 x1 x2 (x3 + (1 : Int32)) US
def f_X4_stepBy_J54 (LS : Nat → Int32) (LL : Nat → Int32) (k4 : Int32 → Int32 → Int32 → (Nat → Int32) → Option (Int32 × (Nat → Int32))) (F : Nat) (x1 : Int32) (x2 : Int32) (x3 : Int32) (x4 : Int32) (x5 : Int32) (US : Nat → Int32) : Option (Int32 × (Nat → Int32)) :=
  if ¬ x5 = (5 : Int32) then
    f_X4_stepBy_J63 LS LL k4 F x1 x2 x3 US
  else
    f_X4_stepBy_J63 LS LL k4 F x1 x4 x3 US
def f_X4_stepBy_L4 (LS : Nat → Int32) (LL : Nat → Int32) (F : Nat) : Nat → Int32 → Int32 → Int32 → (Nat → Int32) → Option (Int32 × (Nat → Int32))
  | 0, _, _, _, _ => none
  | n + 1, x1, x2, x3, US =>
    Option.bind (f_X1_sizeOf LS x1) (fun q1 =>
      if q1 ≤ x3 then
      if ¬ x2 = (-1 : Int32) then
        Option.bind (f_X1_saysIs x2) (fun q4 =>
          Option.bind (f_X4_narrow US x2 q4) (fun q5 =>
          some ((1 : Int32), q5)))
      else
        some ((2 : Int32), US)
    else
      Option.bind (f_X1_literalAt LL x1 x3) (fun q6 =>
        Option.bind (f_X4_stateOf US q6) (fun q7 =>
        if q7 = (3 : Int32) then
        some ((0 : Int32), US)
      else
        if ¬ q7 = (5 : Int32) then
          f_X4_stepBy_J54 LS LL (f_X4_stepBy_L4 LS LL F n) F x1 x2 x3 q6 q7 US
        else
          if x2 = (-1 : Int32) then
            f_X4_stepBy_J54 LS LL (f_X4_stepBy_L4 LS LL F n) F x1 x2 x3 q6 q7 US
          else
            some ((0 : Int32), US))))
def f_X4_stepBy (LS : Nat → Int32) (LL : Nat → Int32) (F : Nat) (US : Nat → Int32) (x1 : Int32) : Option (Int32 × (Nat → Int32)) :=
  f_X4_stepBy_L4 LS LL F F x1 (-1 : Int32) (0 : Int32) US
def f_X4_comeToNothing_J73 (gc : Int32) (gs : Int32) (LS : Nat → Int32) (LL : Nat → Int32) (k30 : Int32 → Int32 → Int32 → Int32 → (Nat → Int32) → Option (Int32 × (Nat → Int32))) (F : Nat) (t0 : Int32) (x1 : Int32) (x2 : Int32) (x4 : Int32) (US : Nat → Int32) : Option (Int32 × (Nat → Int32)) :=
  k30 x1 x2 t0 (x4 + (1 : Int32)) US
def f_X4_comeToNothing_L30 (gc : Int32) (gs : Int32) (LS : Nat → Int32) (LL : Nat → Int32) (F : Nat) : Nat → Int32 → Int32 → Int32 → Int32 → (Nat → Int32) → Option (Int32 × (Nat → Int32))
  | 0, _, _, _, _, _ => none
  | n + 1, x1, x2, x3, x4, US =>
    if (((x2 + (1 : Int32)) * x1)) ≤ x4 then
      some ((0 : Int32), US)
    else
      if x1 ≤ x3 then
        some ((0 : Int32), US)
      else
        Option.bind (f_X4_stepBy LS LL F US x3) (fun q7 =>
          if ¬ q7.1 = (2 : Int32) then
          if ¬ q7.1 = (1 : Int32) then
            f_X4_comeToNothing_J73 gc gs LS LL (f_X4_comeToNothing_L30 gc gs LS LL F n) F (x3 + (1 : Int32)) x1 x2 x4 q7.2
          else
            f_X4_comeToNothing_J73 gc gs LS LL (f_X4_comeToNothing_L30 gc gs LS LL F n) F (0 : Int32) x1 x2 x4 q7.2
        else
          some ((1 : Int32), q7.2))
def f_X4_comeToNothing (gc : Int32) (gs : Int32) (LS : Nat → Int32) (LL : Nat → Int32) (F : Nat) (US : Nat → Int32) (x1 : Int32) : Option (Int32 × (Nat → Int32)) :=
  Option.bind (f_X4_someCellMayBeNothing gc US F) (fun q1 =>
    if q1 = 0 then
    Option.bind (f_X0_cells gc) (fun q3 =>
      Option.bind (f_X0_symbols gs) (fun q4 =>
      f_X4_comeToNothing_L30 gc gs LS LL F F x1 (q3 * q4) (0 : Int32) (0 : Int32) US))
  else
    some ((1 : Int32), US))
def f_X4_refute (gc : Int32) (gs : Int32) (LS : Nat → Int32) (LL : Nat → Int32) (F : Nat) (US : Nat → Int32) (x1 : Int32) : Option (Int32 × (Nat → Int32)) :=
  Option.bind (f_X4_turnRound gc gs LS LL F US x1) (fun q1 =>
    Option.bind (f_X4_comeToNothing gc gs LS LL F q1 x1) (fun q2 =>
    gbl q2.1 (some (q2.1, q2.2))))
def f_X4_refuteBySplit_J88 (gc : Int32) (gs : Int32) (LS : Nat → Int32) (LL : Nat → Int32) (k27 : Int32 → Int32 → Int32 → (Nat → Int32) → (Nat → Int32) → Option (Int32 × (Nat → Int32) × (Nat → Int32))) (F : Nat) (x1 : Int32) (x2 : Int32) (x3 : Int32) (US : Nat → Int32) (UB : Nat → Int32) : Option (Int32 × (Nat → Int32) × (Nat → Int32)) :=
  k27 x1 x2 (x3 + (1 : Int32)) US UB
def f_X4_refuteBySplit_L27 (gc : Int32) (gs : Int32) (LS : Nat → Int32) (LL : Nat → Int32) (F : Nat) : Nat → Int32 → Int32 → Int32 → (Nat → Int32) → (Nat → Int32) → Option (Int32 × (Nat → Int32) × (Nat → Int32))
  | 0, _, _, _, _, _ => none
  | n + 1, x1, x2, x3, US, UB =>
    Option.bind (f_X0_symbols gs) (fun q3 =>
      if q3 ≤ x3 then
      some ((1 : Int32), US, UB)
    else
      gin x2 16 (if (((UB x2.toNatClampNeg) &&& ((1 : Int32) <<< (x3 &&& 31)))) = 0 then
        f_X4_refuteBySplit_J88 gc gs LS LL (f_X4_refuteBySplit_L27 gc gs LS LL F n) F x1 x2 x3 US UB
      else
        gin x2 16 (Option.bind (f_X4_comeToNothing gc gs LS LL F ((upd (va_cpy UB US (0 : Int32).toNatClampNeg (0 : Int32).toNatClampNeg (16 : Int32).toNatClampNeg) x2.toNatClampNeg ((1 : Int32) <<< (x3 &&& 31)))) x1) (fun q8 =>
          if ¬ q8.1 = 0 then
          f_X4_refuteBySplit_J88 gc gs LS LL (f_X4_refuteBySplit_L27 gc gs LS LL F n) F x1 x2 x3 q8.2 UB
        else
          some ((0 : Int32), q8.2, UB)))))
def f_X4_refuteBySplit (gc : Int32) (gs : Int32) (LS : Nat → Int32) (LL : Nat → Int32) (F : Nat) (US : Nat → Int32) (UB : Nat → Int32) (x1 : Int32) (x2 : Int32) : Option (Int32 × (Nat → Int32) × (Nat → Int32)) :=
  Option.bind (f_X4_refute gc gs LS LL F US x1) (fun q1 =>
    if q1.1 = 0 then
    f_X4_refuteBySplit_L27 gc gs LS LL F F x1 x2 (0 : Int32) q1.2 (va_cpy q1.2 UB (0 : Int32).toNatClampNeg (0 : Int32).toNatClampNeg (16 : Int32).toNatClampNeg)
  else
    some ((1 : Int32), q1.2, UB))
def f_X5_rule  (cR : Int32) (RK : Nat → Int32) (RN : Nat → Int32) (x1 : Int32) (x2 : Int32) : Option (Int32 × Int32 × (Nat → Int32) × (Nat → Int32)) :=
  if x1 < 0 then
    some ((-1 : Int32), cR, RK, RN)
  else
    if (4 : Int32) < x1 then
      some ((-1 : Int32), cR, RK, RN)
    else
      if x2 < 0 then
        some ((-1 : Int32), cR, RK, RN)
      else
        if x2 ≤ (99 : Int32) then
          Option.bind (f_X3_append cR RK RN x1 x2) (fun q5 =>
            some (q5.1, q5.2.1, q5.2.2.1, q5.2.2.2))
        else
          some ((-1 : Int32), cR, RK, RN)
def f_X5_needRule (cR : Int32)  (x1 : Int32) : Option (Unit) :=
  Option.bind (f_X3_has cR x1) (fun q1 =>
    if ¬ q1 = 0 then
    some ()
  else
    none)
def f_X5_needCell (gc : Int32)  (x1 : Int32) : Option (Unit) :=
  Option.bind (f_X0_hasCell gc x1) (fun q1 =>
    if ¬ q1 = 0 then
    some ()
  else
    none)
def f_X5_into (gc : Int32) (cR : Int32) (F : Nat) (RS : Nat → Int32) (RC : Nat → Int32) (x1 : Int32) (x2 : Int32) : Option (Int32 × (Nat → Int32) × (Nat → Int32)) :=
  Option.bind (f_X5_needRule cR x1) (fun q1 =>
    Option.bind (f_X5_needCell gc x2) (fun q2 =>
    Option.bind (f_X3_addCell F RS RC x1 x2) (fun q3 =>
    gbl q3.1 (some (q3.1, q3.2.1, q3.2.2)))))
def f_X5_needSymbol (gs : Int32)  (x1 : Int32) : Option (Unit) :=
  Option.bind (f_X0_hasSymbol gs x1) (fun q1 =>
    if ¬ q1 = 0 then
    some ()
  else
    none)
def f_X5_answer_J15 (gc : Int32) (gs : Int32) (x1 : Int32) (x2 : Int32) (SD : Nat → Int32) : Option (Int32 × (Nat → Int32)) :=
  gin x1 16 (if ¬ (SD x1.toNatClampNeg) = x2 then
    gin x1 16 (some ((1 : Int32), (upd SD x1.toNatClampNeg x2)))
  else
    some ((0 : Int32), SD))
def f_X5_answer (gc : Int32) (gs : Int32) (SD : Nat → Int32) (x1 : Int32) (x2 : Int32) : Option (Int32 × (Nat → Int32)) :=
  Option.bind (f_X5_needCell gc x1) (fun q1 =>
    if x2 = (-1 : Int32) then
    f_X5_answer_J15 gc gs x1 x2 SD
  else
    Option.bind (f_X5_needSymbol gs x2) (fun q3 =>
      f_X5_answer_J15 gc gs x1 x2 SD))
def f_X5_test (gw : Int32) (gc : Int32) (ge : Int32) (gf : Int32) (cR : Int32) (SD : Nat → Int32) (RK : Nat → Int32) (RN : Nat → Int32) (RS : Nat → Int32) (RC : Nat → Int32) (F : Nat)  (x1 : Int32) : Option (Int32) :=
  Option.bind (f_X5_needRule cR x1) (fun q1 =>
    Option.bind (f_X3_allSaid RS RC SD F x1) (fun q2 =>
    if ¬ q2 = 0 then
    Option.bind (f_X3_meets gw gc ge gf RK RN RS RC SD F x1) (fun q4 =>
      if q4 = 0 then
      some ((0 : Int32))
    else
      some ((1 : Int32)))
  else
    some ((-1 : Int32))))
def f_X5_fails_L2 (gw : Int32) (gc : Int32) (ge : Int32) (gf : Int32) (cR : Int32) (SD : Nat → Int32) (RK : Nat → Int32) (RN : Nat → Int32) (RS : Nat → Int32) (RC : Nat → Int32) (F : Nat) : Nat → Int32 → Option (Int32)
  | 0, _ => none
  | n + 1, x1 =>
    Option.bind (f_X3_count cR) (fun q1 =>
      if q1 ≤ x1 then
      some ((-1 : Int32))
    else
      Option.bind (f_X3_allSaid RS RC SD F x1) (fun q3 =>
        if q3 = 0 then
        some (x1)
      else
        Option.bind (f_X3_meets gw gc ge gf RK RN RS RC SD F x1) (fun q5 =>
          if ¬ q5 = 0 then
          f_X5_fails_L2 gw gc ge gf cR SD RK RN RS RC F n (x1 + (1 : Int32))
        else
          some (x1))))
def f_X5_fails (gw : Int32) (gc : Int32) (ge : Int32) (gf : Int32) (cR : Int32) (SD : Nat → Int32) (RK : Nat → Int32) (RN : Nat → Int32) (RS : Nat → Int32) (RC : Nat → Int32) (F : Nat)   : Option (Int32) :=
  f_X5_fails_L2 gw gc ge gf cR SD RK RN RS RC F F (0 : Int32)
def f_X5_line  (cL : Int32) (LK : Nat → Int32) (LN : Nat → Int32) (LS : Nat → Int32) (x1 : Int32) (x2 : Int32) : Option (Int32 × Int32 × (Nat → Int32) × (Nat → Int32) × (Nat → Int32)) :=
  if x1 < 0 then
    some ((-1 : Int32), cL, LK, LN, LS)
  else
    if (3 : Int32) < x1 then
      some ((-1 : Int32), cL, LK, LN, LS)
    else
      Option.bind (f_X1_isFull cL) (fun q3 =>
        if q3 = 0 then
        Option.bind (f_X1_startDraft cL LK LN LS x1 x2) (fun q5 =>
          Option.bind (f_X1_keepDraft cL) (fun q6 =>
          Option.bind (f_X1_count q6.2) (fun q7 =>
          some ((q7 - (1 : Int32)), q6.2, q5.1, q5.2.1, q5.2.2))))
      else
        some ((-1 : Int32), cL, LK, LN, LS))
def f_X5_literal (gc : Int32) (gs : Int32) (cL : Int32) (F : Nat) (LS : Nat → Int32) (LL : Nat → Int32) (x1 : Int32) (x2 : Int32) (x3 : Int32) : Option (Int32 × (Nat → Int32) × (Nat → Int32)) :=
  Option.bind (f_X5_needCell gc x1) (fun q1 =>
    Option.bind (f_X5_needSymbol gs x2) (fun q2 =>
    Option.bind (f_X1_count cL) (fun q3 =>
    if ¬ q3 = 0 then
    Option.bind (f_X1_count cL) (fun q5 =>
      Option.bind (f_X1_literalOf x1 x2 x3) (fun q6 =>
      Option.bind (f_X1_addLiteral F LS LL (q5 - (1 : Int32)) q6) (fun q7 =>
      gbl q7.1 (some (q7.1, q7.2.1, q7.2.2)))))
  else
    some ((0 : Int32), LS, LL))))
def f_X5_drop  (cL : Int32)  : Option (Int32 × Int32) :=
  Option.bind (f_X1_count cL) (fun q1 =>
    if ¬ q1 = 0 then
    Option.bind (f_X1_count cL) (fun q3 =>
      Option.bind (f_X1_cutTo cL (q3 - (1 : Int32))) (fun q4 =>
      some ((1 : Int32), q4)))
  else
    some ((0 : Int32), cL))
def f_X5_isByRule (gw : Int32) (gc : Int32) (gs : Int32) (ge : Int32) (gf : Int32) (RK : Nat → Int32) (RN : Nat → Int32) (RS : Nat → Int32) (RC : Nat → Int32) (LS : Nat → Int32) (LL : Nat → Int32) (F : Nat) (RT : Nat → Int32) (US : Nat → Int32) (x1 : Int32) (x2 : Int32) : Option (Int32 × (Nat → Int32) × (Nat → Int32)) :=
  Option.bind (f_X3_canBeTried gs RS F x2) (fun q1 =>
    if ¬ q1 = 0 then
    Option.bind (f_X4_turnRound gc gs LS LL F US x1) (fun q3 =>
      Option.bind (f_X3_canBeMet gw gc gs ge gf RK RN RS RC q3 F 16 RT x2 (0 : Int32)) (fun q4 =>
      if ¬ q4.1 = 0 then
      some ((0 : Int32), q4.2, q3)
    else
      some ((1 : Int32), q4.2, q3)))
  else
    some ((0 : Int32), RT, US))
def f_X5_deniesOnlyWhatIsSaid_L2 (SD : Nat → Int32) (LS : Nat → Int32) (LL : Nat → Int32) (F : Nat) : Nat → Int32 → Int32 → Option (Int32)
  | 0, _, _ => none
  | n + 1, x1, x2 =>
    Option.bind (f_X1_sizeOf LS x1) (fun q1 =>
      if q1 ≤ x2 then
      some ((1 : Int32))
    else
      Option.bind (f_X1_literalAt LL x1 x2) (fun q3 =>
        Option.bind (f_X1_saysIs q3) (fun q4 =>
        if ¬ q4 = 0 then
        some ((0 : Int32))
      else
        Option.bind (f_X1_cellOf q3) (fun q6 =>
          gin q6 16 (Option.bind (f_X1_symbolOf q3) (fun q8 =>
          if (SD q6.toNatClampNeg) = q8 then
          f_X5_deniesOnlyWhatIsSaid_L2 SD LS LL F n x1 (x2 + (1 : Int32))
        else
          some ((0 : Int32))))))))
def f_X5_deniesOnlyWhatIsSaid (SD : Nat → Int32) (LS : Nat → Int32) (LL : Nat → Int32) (F : Nat)  (x1 : Int32) : Option (Int32) :=
  f_X5_deniesOnlyWhatIsSaid_L2 SD LS LL F F x1 (0 : Int32)
def f_X5_isBarred (gw : Int32) (gc : Int32) (ge : Int32) (gf : Int32) (cR : Int32) (SD : Nat → Int32) (RK : Nat → Int32) (RN : Nat → Int32) (RS : Nat → Int32) (RC : Nat → Int32) (LS : Nat → Int32) (LL : Nat → Int32) (F : Nat)  (x1 : Int32) : Option (Int32) :=
  Option.bind (f_X1_sizeOf LS x1) (fun q1 =>
    Option.bind (f_X0_cells gc) (fun q2 =>
    if ¬ q1 = q2 then
    some ((0 : Int32))
  else
    Option.bind (f_X5_deniesOnlyWhatIsSaid SD LS LL F x1) (fun q4 =>
      if q4 = 0 then
      some ((0 : Int32))
    else
      Option.bind (f_X5_fails gw gc ge gf cR SD RK RN RS RC F) (fun q6 =>
        if ¬ q6 = (-1 : Int32) then
        some ((0 : Int32))
      else
        some ((1 : Int32))))))
def f_X5_followsFromLinesAhead (gw : Int32) (gc : Int32) (gs : Int32) (ge : Int32) (gf : Int32) (cR : Int32) (SD : Nat → Int32) (RK : Nat → Int32) (RN : Nat → Int32) (RS : Nat → Int32) (RC : Nat → Int32) (LK : Nat → Int32) (LN : Nat → Int32) (LS : Nat → Int32) (LL : Nat → Int32) (F : Nat) (RT : Nat → Int32) (US : Nat → Int32) (UB : Nat → Int32) (x1 : Int32) : Option (Int32 × (Nat → Int32) × (Nat → Int32) × (Nat → Int32)) :=
  Option.bind (f_X1_numberOf LN x1) (fun q1 =>
    Option.bind (f_X1_kindOf LK x1) (fun q2 =>
    if q2 = (0 : Int32) then
    Option.bind (f_X3_has cR q1) (fun q4 =>
      if q4 = 0 then
      some ((0 : Int32), RT, US, UB)
    else
      Option.bind (f_X5_isByRule gw gc gs ge gf RK RN RS RC LS LL F RT US x1 q1) (fun q6 =>
        if q6.1 = 0 then
        some ((0 : Int32), q6.2.1, q6.2.2, UB)
      else
        some ((1 : Int32), q6.2.1, q6.2.2, UB)))
  else if q2 = (1 : Int32) then
    Option.bind (f_X4_refute gc gs LS LL F US x1) (fun q9 =>
      gbl q9.1 (some (q9.1, RT, q9.2, UB)))
  else if q2 = (2 : Int32) then
    Option.bind (f_X0_hasCell gc q1) (fun q12 =>
      if q12 = 0 then
      some ((0 : Int32), RT, US, UB)
    else
      Option.bind (f_X4_refuteBySplit gc gs LS LL F US UB x1 q1) (fun q14 =>
        if q14.1 = 0 then
        some ((0 : Int32), RT, q14.2.1, q14.2.2)
      else
        some ((1 : Int32), RT, q14.2.1, q14.2.2)))
  else 
    Option.bind (f_X5_isBarred gw gc ge gf cR SD RK RN RS RC LS LL F x1) (fun q16 =>
      gbl q16 (some (q16, RT, US, UB)))))
def f_X5_check_L2 (gw : Int32) (gc : Int32) (gs : Int32) (ge : Int32) (gf : Int32) (cR : Int32) (cL : Int32) (SD : Nat → Int32) (RK : Nat → Int32) (RN : Nat → Int32) (RS : Nat → Int32) (RC : Nat → Int32) (LK : Nat → Int32) (LN : Nat → Int32) (LS : Nat → Int32) (LL : Nat → Int32) (F : Nat) : Nat → Int32 → (Nat → Int32) → (Nat → Int32) → (Nat → Int32) → Option (Int32 × (Nat → Int32) × (Nat → Int32) × (Nat → Int32))
  | 0, _, _, _, _ => none
  | n + 1, x1, RT, US, UB =>
    Option.bind (f_X1_count cL) (fun q1 =>
      if q1 ≤ x1 then
      some (x1, RT, US, UB)
    else
      Option.bind (f_X5_followsFromLinesAhead gw gc gs ge gf cR SD RK RN RS RC LK LN LS LL F RT US UB x1) (fun q3 =>
        if q3.1 = 0 then
        some (x1, q3.2.1, q3.2.2.1, q3.2.2.2)
      else
        f_X5_check_L2 gw gc gs ge gf cR cL SD RK RN RS RC LK LN LS LL F n (x1 + (1 : Int32)) q3.2.1 q3.2.2.1 q3.2.2.2))
def f_X5_check (gw : Int32) (gc : Int32) (gs : Int32) (ge : Int32) (gf : Int32) (cR : Int32) (cL : Int32) (SD : Nat → Int32) (RK : Nat → Int32) (RN : Nat → Int32) (RS : Nat → Int32) (RC : Nat → Int32) (LK : Nat → Int32) (LN : Nat → Int32) (LS : Nat → Int32) (LL : Nat → Int32) (F : Nat) (RT : Nat → Int32) (US : Nat → Int32) (UB : Nat → Int32)  : Option (Int32 × (Nat → Int32) × (Nat → Int32) × (Nat → Int32)) :=
  f_X5_check_L2 gw gc gs ge gf cR cL SD RK RN RS RC LK LN LS LL F F (0 : Int32) RT US UB
def f_X5_proves_J60 (gw : Int32) (gc : Int32) (gs : Int32) (ge : Int32) (gf : Int32) (cR : Int32) (cL : Int32) (SD : Nat → Int32) (RK : Nat → Int32) (RN : Nat → Int32) (RS : Nat → Int32) (RC : Nat → Int32) (LK : Nat → Int32) (LN : Nat → Int32) (LS : Nat → Int32) (LL : Nat → Int32) (k31 : Int32 → Int32 → Int32 → (Nat → Int32) → (Nat → Int32) → (Nat → Int32) → Option (Int32 × (Nat → Int32) × (Nat → Int32) × (Nat → Int32))) (F : Nat) (x1 : Int32) (x2 : Int32) (x3 : Int32) (RT : Nat → Int32) (US : Nat → Int32) (UB : Nat → Int32) : Option (Int32 × (Nat → Int32) × (Nat → Int32) × (Nat → Int32)) :=
  k31 x1 x2 (x3 + (1 : Int32)) RT US UB
def f_X5_proves_L31 (gw : Int32) (gc : Int32) (gs : Int32) (ge : Int32) (gf : Int32) (cR : Int32) (cL : Int32) (SD : Nat → Int32) (RK : Nat → Int32) (RN : Nat → Int32) (RS : Nat → Int32) (RC : Nat → Int32) (LK : Nat → Int32) (LN : Nat → Int32) (LS : Nat → Int32) (LL : Nat → Int32) (F : Nat) : Nat → Int32 → Int32 → Int32 → (Nat → Int32) → (Nat → Int32) → (Nat → Int32) → Option (Int32 × (Nat → Int32) × (Nat → Int32) × (Nat → Int32))
  | 0, _, _, _, _, _, _ => none
  | n + 1, x1, x2, x3, RT, US, UB =>
    if x1 ≤ x3 then
      some (x2, RT, US, UB)
    else
      Option.bind (f_X5_followsFromLinesAhead gw gc gs ge gf cR SD RK RN RS RC LK LN LS LL F RT US UB x3) (fun q6 =>
        if ¬ q6.1 = 0 then
        Option.bind (f_X1_kindOf LK x3) (fun q8 =>
          if ¬ q8 = (3 : Int32) then
          f_X5_proves_J60 gw gc gs ge gf cR cL SD RK RN RS RC LK LN LS LL (f_X5_proves_L31 gw gc gs ge gf cR cL SD RK RN RS RC LK LN LS LL F n) F x1 x2 x3 q6.2.1 q6.2.2.1 q6.2.2.2
        else
          f_X5_proves_J60 gw gc gs ge gf cR cL SD RK RN RS RC LK LN LS LL (f_X5_proves_L31 gw gc gs ge gf cR cL SD RK RN RS RC LK LN LS LL F n) F x1 (2 : Int32) x3 q6.2.1 q6.2.2.1 q6.2.2.2)
      else
        some ((0 : Int32), q6.2.1, q6.2.2.1, q6.2.2.2))
def f_X5_proves (gw : Int32) (gc : Int32) (gs : Int32) (ge : Int32) (gf : Int32) (cR : Int32) (cL : Int32) (SD : Nat → Int32) (RK : Nat → Int32) (RN : Nat → Int32) (RS : Nat → Int32) (RC : Nat → Int32) (LK : Nat → Int32) (LN : Nat → Int32) (LS : Nat → Int32) (LL : Nat → Int32) (F : Nat) (RT : Nat → Int32) (US : Nat → Int32) (UB : Nat → Int32)  : Option (Int32 × (Nat → Int32) × (Nat → Int32) × (Nat → Int32)) :=
  Option.bind (f_X1_count cL) (fun q1 =>
    if q1 = 0 then
    some ((0 : Int32), RT, US, UB)
  else
    Option.bind (f_X1_sizeOf LS (q1 - (1 : Int32))) (fun q3 =>
      if q3 = 0 then
      f_X5_proves_L31 gw gc gs ge gf cR cL SD RK RN RS RC LK LN LS LL F F q1 (1 : Int32) (0 : Int32) RT US UB
    else
      some ((0 : Int32), RT, US, UB)))
def f_X5_toldLiteral (gs : Int32) (LS : Nat → Int32) (LL : Nat → Int32)  (x1 : Int32) (x2 : Int32) : Option (Int32) :=
  if x2 < (3 : Int32) then
    some ((-1 : Int32))
  else
    Option.bind (f_X1_sizeOf LS x1) (fun q2 =>
      if (x2 - (3 : Int32)) < q2 then
      Option.bind (f_X1_literalAt LL x1 (x2 - (3 : Int32))) (fun q4 =>
        Option.bind (f_X0_symbols gs) (fun q5 =>
        Option.bind (f_X1_cellOf q4) (fun q6 =>
        Option.bind (f_X1_symbolOf q4) (fun q7 =>
        Option.bind (f_X1_saysIs q4) (fun q8 =>
        if q8 = 0 then
        some (((((2 : Int32) * ((q5 * q6) + q7))) + (0 : Int32)))
      else
        some (((((2 : Int32) * ((q5 * q6) + q7))) + (1 : Int32))))))))
    else
      some ((-1 : Int32)))
def f_X5_tell (gs : Int32) (cL : Int32) (LK : Nat → Int32) (LN : Nat → Int32) (LS : Nat → Int32) (LL : Nat → Int32)  (x1 : Int32) (x2 : Int32) : Option (Int32) :=
  if x1 < 0 then
    none
  else
    Option.bind (f_X1_count cL) (fun q2 =>
      if x1 < q2 then
      if x2 = (0 : Int32) then
        Option.bind (f_X1_kindOf LK x1) (fun q5 =>
          some (q5))
      else if x2 = (1 : Int32) then
        Option.bind (f_X1_numberOf LN x1) (fun q7 =>
          some (q7))
      else if x2 = (2 : Int32) then
        Option.bind (f_X1_sizeOf LS x1) (fun q9 =>
          some (q9))
      else 
        Option.bind (f_X5_toldLiteral gs LS LL x1 x2) (fun q10 =>
          some (q10))
    else
      none)
def f_X5_may (gc : Int32) (gs : Int32) (cL : Int32) (LS : Nat → Int32) (LL : Nat → Int32) (F : Nat) (US : Nat → Int32) (x1 : Int32) : Option (Int32 × (Nat → Int32)) :=
  Option.bind (f_X5_needCell gc x1) (fun q1 =>
    Option.bind (f_X4_startWhole gc gs F US) (fun q2 =>
    Option.bind (f_X1_count cL) (fun q3 =>
    Option.bind (f_X4_comeToNothing gc gs LS LL F q2 q3) (fun q4 =>
    if q4.1 = 0 then
    Option.bind (f_X4_symbolsOf q4.2 x1) (fun q6 =>
      some (q6, q4.2))
  else
    some ((0 : Int32), q4.2)))))
def f_X5_unit  (cB : Int32) (BB : Nat → Int32) (x1 : Int32) : Option (Int32 × Int32 × (Nat → Int32)) :=
  Option.bind (f_X2_append cB BB x1) (fun q1 =>
    gbl q1.1 (some (q1.1, q1.2.1, q1.2.2)))
def f_X5_read (gc : Int32) (gs : Int32) (BB : Nat → Int32) (F : Nat) (cL : Int32) (cB : Int32) (pB : Int32) (LK : Nat → Int32) (LN : Nat → Int32) (LS : Nat → Int32) (LL : Nat → Int32)  : Option (Int32 × Int32 × Int32 × Int32 × (Nat → Int32) × (Nat → Int32) × (Nat → Int32) × (Nat → Int32)) :=
  Option.bind (f_X2_readAll gc gs BB F cL cB pB LK LN LS LL) (fun q1 =>
    some (q1.1, q1.2.1, q1.2.2.1, q1.2.2.2.1, q1.2.2.2.2.1, q1.2.2.2.2.2.1, q1.2.2.2.2.2.2.1, q1.2.2.2.2.2.2.2))
def f_X6_thrown (mT : Int32)   : Option (Int32) :=
  some (mT)
def f_X6_throwsIf  (mT : Int32) (x1 : Int32) (x2 : Int32) : Option (Int32 × Int32) :=
  if x2 = 0 then
    gbl x2 (some (x2, (0 : Int32)))
  else
    gbl x2 (some (x2, x1))
def f_X6_held   (x0 : Int32) (x1 : Int32) : Option (Int32) :=
  if (1 : Int32) ≤ x0 then
    if x0 ≤ x1 then
      some (x0)
    else
      some (x1)
  else
    some ((1 : Int32))
def f_X6_cells (mW : Int32) (mH : Int32)   : Option (Int32) :=
  some ((mW * mH))
def f_X6_isCell (mW : Int32) (mH : Int32)  (x1 : Int32) : Option (Int32) :=
  if x1 < 0 then
    some ((0 : Int32))
  else
    Option.bind (f_X6_cells mW mH) (fun q2 =>
      if q2 ≤ x1 then
      some ((0 : Int32))
    else
      some ((1 : Int32)))
def f_X6_isSymbol (mS : Int32)  (x1 : Int32) : Option (Int32) :=
  if x1 < 0 then
    some ((0 : Int32))
  else
    if mS ≤ x1 then
      some ((0 : Int32))
    else
      some ((1 : Int32))
def f_X6_rule  (mT : Int32) (mR : Int32) (KK : Nat → Int32) (KN : Nat → Int32) (KS : Nat → Int32) (x1 : Int32) (x2 : Int32) : Option (Int32 × Int32 × Int32 × (Nat → Int32) × (Nat → Int32) × (Nat → Int32)) :=
  if x1 < 0 then
    some ((-1 : Int32), (0 : Int32), mR, KK, KN, KS)
  else
    if (4 : Int32) < x1 then
      some ((-1 : Int32), (0 : Int32), mR, KK, KN, KS)
    else
      if x2 < 0 then
        some ((-1 : Int32), (0 : Int32), mR, KK, KN, KS)
      else
        if (99 : Int32) < x2 then
          some ((-1 : Int32), (0 : Int32), mR, KK, KN, KS)
        else
          if ¬ mR = (30 : Int32) then
            gin mR 30 (gin mR 30 (gin mR 30 (some (((mR + (1 : Int32)) - (1 : Int32)), (0 : Int32), (mR + (1 : Int32)), (upd KK mR.toNatClampNeg x1), (upd KN mR.toNatClampNeg x2), (upd KS mR.toNatClampNeg (0 : Int32))))))
          else
            some ((-1 : Int32), (0 : Int32), mR, KK, KN, KS)
def f_X6_member (KC : Nat → Int32)  (x1 : Int32) (x2 : Int32) : Option (Int32) :=
  gin ((((9 : Int32) * x1) + x2)) 270 (some ((KC ((((9 : Int32) * x1) + x2)).toNatClampNeg)))
def f_X6_seat_L2 (KS : Nat → Int32) (KC : Nat → Int32) (F : Nat) : Nat → Int32 → Int32 → Int32 → Option (Int32)
  | 0, _, _, _ => none
  | n + 1, x1, x2, x3 =>
    gin x1 30 (if (KS x1.toNatClampNeg) ≤ x3 then
      some ((-1 : Int32))
    else
      Option.bind (f_X6_member KC x1 x3) (fun q3 =>
        if ¬ q3 = x2 then
        f_X6_seat_L2 KS KC F n x1 x2 (x3 + (1 : Int32))
      else
        some (x3)))
def f_X6_seat (KS : Nat → Int32) (KC : Nat → Int32) (F : Nat)  (x1 : Int32) (x2 : Int32) : Option (Int32) :=
  f_X6_seat_L2 KS KC F F x1 x2 (0 : Int32)
def f_X6_into_J27 (mW : Int32) (mH : Int32) (mR : Int32) (F : Nat) (t1 : Int32) (t2 : Int32) (x1 : Int32) (x2 : Int32) (mT : Int32) (KS : Nat → Int32) (KC : Nat → Int32) : Option (Int32 × Int32 × (Nat → Int32) × (Nat → Int32)) :=
  Option.bind (f_X6_throwsIf mT t1 t2) (fun q5 =>
    if ¬ q5.1 = 0 then
    some ((0 : Int32), q5.2, KS, KC)
  else
    Option.bind (f_X6_seat KS KC F x1 x2) (fun q7 =>
      if 0 ≤ q7 then
      some ((0 : Int32), q5.2, KS, KC)
    else
      gin x1 30 (if ¬ (KS x1.toNatClampNeg) = (9 : Int32) then
        gin x1 30 (gin ((((9 : Int32) * x1) + (KS x1.toNatClampNeg))) 270 (gin x1 30 (gin x1 30 (some ((1 : Int32), q5.2, (upd KS x1.toNatClampNeg ((KS x1.toNatClampNeg) + (1 : Int32))), (upd KC ((((9 : Int32) * x1) + (KS x1.toNatClampNeg))).toNatClampNeg x2))))))
      else
        some ((0 : Int32), q5.2, KS, KC))))
def f_X6_into_J22 (mW : Int32) (mH : Int32) (mR : Int32) (F : Nat) (t1 : Int32) (x1 : Int32) (x2 : Int32) (mT : Int32) (KS : Nat → Int32) (KC : Nat → Int32) : Option (Int32 × Int32 × (Nat → Int32) × (Nat → Int32)) :=
  f_X6_into_J27 mW mH mR F t1 (1 : Int32) x1 x2 mT KS KC
def f_X6_into (mW : Int32) (mH : Int32) (mR : Int32) (F : Nat) (mT : Int32) (KS : Nat → Int32) (KC : Nat → Int32) (x1 : Int32) (x2 : Int32) : Option (Int32 × Int32 × (Nat → Int32) × (Nat → Int32)) :=
  if x1 < 0 then
    f_X6_into_J22 mW mH mR F (1 : Int32) x1 x2 mT KS KC
  else
    if mR ≤ x1 then
      f_X6_into_J22 mW mH mR F (1 : Int32) x1 x2 mT KS KC
    else
      Option.bind (f_X6_isCell mW mH x2) (fun q3 =>
        if ¬ q3 = 0 then
        f_X6_into_J27 mW mH mR F (1 : Int32) (0 : Int32) x1 x2 mT KS KC
      else
        f_X6_into_J22 mW mH mR F (1 : Int32) x1 x2 mT KS KC)
def f_X6_answer_J41 (mW : Int32) (mH : Int32) (mS : Int32) (t1 : Int32) (t2 : Int32) (x1 : Int32) (x2 : Int32) (mT : Int32) (AN : Nat → Int32) : Option (Int32 × Int32 × (Nat → Int32)) :=
  Option.bind (f_X6_throwsIf mT t1 t2) (fun q8 =>
    if ¬ q8.1 = 0 then
    some ((0 : Int32), q8.2, AN)
  else
    gin x1 16 (if ¬ (AN x1.toNatClampNeg) = x2 then
      gin x1 16 (some ((1 : Int32), q8.2, (upd AN x1.toNatClampNeg x2)))
    else
      some ((0 : Int32), q8.2, AN)))
def f_X6_answer_J40 (mW : Int32) (mH : Int32) (mS : Int32) (t1 : Int32) (x1 : Int32) (x2 : Int32) (mT : Int32) (AN : Nat → Int32) : Option (Int32 × Int32 × (Nat → Int32)) :=
  f_X6_answer_J41 mW mH mS t1 (0 : Int32) x1 x2 mT AN
def f_X6_answer_J15 (mW : Int32) (mH : Int32) (mS : Int32) (t1 : Int32) (t2 : Int32) (x1 : Int32) (x2 : Int32) (mT : Int32) (AN : Nat → Int32) : Option (Int32 × Int32 × (Nat → Int32)) :=
  Option.bind (f_X6_throwsIf mT t1 t2) (fun q3 =>
    if ¬ q3.1 = 0 then
    some ((0 : Int32), q3.2, AN)
  else
    if x2 = (-1 : Int32) then
      f_X6_answer_J40 mW mH mS (2 : Int32) x1 x2 q3.2 AN
    else
      Option.bind (f_X6_isSymbol mS x2) (fun q6 =>
        if ¬ q6 = 0 then
        f_X6_answer_J40 mW mH mS (2 : Int32) x1 x2 q3.2 AN
      else
        f_X6_answer_J41 mW mH mS (2 : Int32) (1 : Int32) x1 x2 q3.2 AN))
def f_X6_answer (mW : Int32) (mH : Int32) (mS : Int32) (mT : Int32) (AN : Nat → Int32) (x1 : Int32) (x2 : Int32) : Option (Int32 × Int32 × (Nat → Int32)) :=
  Option.bind (f_X6_isCell mW mH x1) (fun q1 =>
    if ¬ q1 = 0 then
    f_X6_answer_J15 mW mH mS (1 : Int32) (0 : Int32) x1 x2 mT AN
  else
    f_X6_answer_J15 mW mH mS (1 : Int32) (1 : Int32) x1 x2 mT AN)
def f_X6_isNext (mW : Int32)  (x1 : Int32) (x2 : Int32) : Option (Int32) :=
  gnz mW (gnz mW (gnz mW (gnz mW (if ¬ ((((((x1 - x1 / mW * mW) - (x2 - x2 / mW * mW)) * ((x1 - x1 / mW * mW) - (x2 - x2 / mW * mW)))) + ((((x1 / mW) - (x2 / mW)) * ((x1 / mW) - (x2 / mW)))))) = (1 : Int32) then
    some ((0 : Int32))
  else
    some ((1 : Int32))))))
def f_X6_hangs_J132 (mW : Int32) (KS : Nat → Int32) (KC : Nat → Int32) (FI : Nat → Int32) (k59 : Int32 → Int32 → Int32 → Int32 → Int32 → Option (Int32)) (k68 : Int32 → Int32 → Int32 → Int32 → Int32 → Int32 → Option (Int32)) (k77 : Int32 → Int32 → Int32 → Int32 → Int32 → Int32 → Int32 → Option (Int32)) (F : Nat) (x1 : Int32) (x2 : Int32) (x3 : Int32) (x4 : Int32) (x5 : Int32) (x6 : Int32) (x7 : Int32)  : Option (Int32) :=
  k77 x1 x2 x3 x4 x5 x6 (x7 + (1 : Int32))
def f_X6_hangs_L77 (mW : Int32) (KS : Nat → Int32) (KC : Nat → Int32) (FI : Nat → Int32) (k59 : Int32 → Int32 → Int32 → Int32 → Int32 → Option (Int32)) (k68 : Int32 → Int32 → Int32 → Int32 → Int32 → Int32 → Option (Int32)) (F : Nat) : Nat → Int32 → Int32 → Int32 → Int32 → Int32 → Int32 → Int32 → Option (Int32)
  | 0, _, _, _, _, _, _, _ => none
  | n + 1, x1, x2, x3, x4, x5, x6, x7 =>
    if x2 ≤ x7 then
      k68 x1 x2 x3 x4 x5 (x6 + (1 : Int32))
    else
      if ¬ (((x3 >>> (x6 &&& 31)) &&& (1 : Int32))) = (1 : Int32) then
        f_X6_hangs_J132 mW KS KC FI k59 k68 (f_X6_hangs_L77 mW KS KC FI k59 k68 F n) F x1 x2 x3 x4 x5 x6 x7
      else
        if ¬ (((x4 >>> (x7 &&& 31)) &&& (1 : Int32))) = (1 : Int32) then
          f_X6_hangs_J132 mW KS KC FI k59 k68 (f_X6_hangs_L77 mW KS KC FI k59 k68 F n) F x1 x2 x3 x4 x5 x6 x7
        else
          Option.bind (f_X6_member KC x1 x6) (fun q11 =>
            Option.bind (f_X6_member KC x1 x7) (fun q12 =>
            Option.bind (f_X6_isNext mW q11 q12) (fun q13 =>
            if q13 = 0 then
            f_X6_hangs_J132 mW KS KC FI k59 k68 (f_X6_hangs_L77 mW KS KC FI k59 k68 F n) F x1 x2 x3 x4 x5 x6 x7
          else
            f_X6_hangs_J132 mW KS KC FI k59 k68 (f_X6_hangs_L77 mW KS KC FI k59 k68 F n) F x1 x2 ((x3 ||| ((1 : Int32) <<< (x7 &&& 31)))) x4 x5 x6 x7)))
def f_X6_hangs_L68 (mW : Int32) (KS : Nat → Int32) (KC : Nat → Int32) (FI : Nat → Int32) (k59 : Int32 → Int32 → Int32 → Int32 → Int32 → Option (Int32)) (F : Nat) : Nat → Int32 → Int32 → Int32 → Int32 → Int32 → Int32 → Option (Int32)
  | 0, _, _, _, _, _, _ => none
  | n + 1, x1, x2, x3, x4, x5, x6 =>
    if x2 ≤ x6 then
      k59 x1 x2 x3 x4 (x5 + (1 : Int32))
    else
      f_X6_hangs_L77 mW KS KC FI k59 (f_X6_hangs_L68 mW KS KC FI k59 F n) F F x1 x2 x3 x4 x5 x6 (0 : Int32)
def f_X6_hangs_L59 (mW : Int32) (KS : Nat → Int32) (KC : Nat → Int32) (FI : Nat → Int32) (F : Nat) : Nat → Int32 → Int32 → Int32 → Int32 → Int32 → Option (Int32)
  | 0, _, _, _, _, _ => none
  | n + 1, x1, x2, x3, x4, x5 =>
    if x2 ≤ x5 then
      if ¬ x3 = x4 then
        some ((0 : Int32))
      else
        some ((1 : Int32))
    else
      f_X6_hangs_L68 mW KS KC FI (f_X6_hangs_L59 mW KS KC FI F n) F F x1 x2 x3 x4 x5 (0 : Int32)
def f_X6_hangs_J50 (mW : Int32) (KS : Nat → Int32) (KC : Nat → Int32) (FI : Nat → Int32) (k17 : Int32 → Int32 → Int32 → Int32 → Int32 → Option (Int32)) (F : Nat) (x1 : Int32) (x2 : Int32) (x3 : Int32) (x4 : Int32) (x5 : Int32)  : Option (Int32) :=
  k17 x1 x2 x3 x4 (x5 + (-1 : Int32))
def f_X6_hangs_L17 (mW : Int32) (KS : Nat → Int32) (KC : Nat → Int32) (FI : Nat → Int32) (F : Nat) : Nat → Int32 → Int32 → Int32 → Int32 → Int32 → Option (Int32)
  | 0, _, _, _, _, _ => none
  | n + 1, x1, x2, x3, x4, x5 =>
    if x5 < 0 then
      f_X6_hangs_L59 mW KS KC FI F F x1 x2 x3 x4 (0 : Int32)
    else
      gin x5 9 (if (FI x5.toNatClampNeg) = (1 : Int32) then
        f_X6_hangs_J50 mW KS KC FI (f_X6_hangs_L17 mW KS KC FI F n) F x1 x2 ((1 : Int32) <<< (x5 &&& 31)) ((x4 ||| ((1 : Int32) <<< (x5 &&& 31)))) x5
      else
        f_X6_hangs_J50 mW KS KC FI (f_X6_hangs_L17 mW KS KC FI F n) F x1 x2 x3 x4 x5)
def f_X6_hangs (mW : Int32) (KS : Nat → Int32) (KC : Nat → Int32) (FI : Nat → Int32) (F : Nat)  (x1 : Int32) : Option (Int32) :=
  gin x1 30 (f_X6_hangs_L17 mW KS KC FI F F x1 (KS x1.toNatClampNeg) (0 : Int32) (0 : Int32) ((KS x1.toNatClampNeg) - (1 : Int32)))
def f_X6_meets_J136 (mW : Int32) (KK : Nat → Int32) (KN : Nat → Int32) (KS : Nat → Int32) (KC : Nat → Int32) (FI : Nat → Int32) (k21 : Int32 → Int32 → Int32 → Int32 → Int32 → Int32 → Int32 → Option (Int32)) (k102 : Int32 → Int32 → Int32 → Int32 → Int32 → Int32 → Int32 → Int32 → Option (Int32)) (F : Nat) (t0 : Int32) (x1 : Int32) (x2 : Int32) (x3 : Int32) (x4 : Int32) (x6 : Int32) (x7 : Int32) (x8 : Int32)  : Option (Int32) :=
  k102 x1 x2 x3 x4 t0 x6 x7 (x8 + (1 : Int32))
def f_X6_meets_J135 (mW : Int32) (KK : Nat → Int32) (KN : Nat → Int32) (KS : Nat → Int32) (KC : Nat → Int32) (FI : Nat → Int32) (k21 : Int32 → Int32 → Int32 → Int32 → Int32 → Int32 → Int32 → Option (Int32)) (k102 : Int32 → Int32 → Int32 → Int32 → Int32 → Int32 → Int32 → Int32 → Option (Int32)) (F : Nat) (x1 : Int32) (x2 : Int32) (x3 : Int32) (x4 : Int32) (x6 : Int32) (x7 : Int32) (x8 : Int32)  : Option (Int32) :=
  f_X6_meets_J136 mW KK KN KS KC FI k21 k102 F (0 : Int32) x1 x2 x3 x4 x6 x7 x8
def f_X6_meets_L102 (mW : Int32) (KK : Nat → Int32) (KN : Nat → Int32) (KS : Nat → Int32) (KC : Nat → Int32) (FI : Nat → Int32) (k21 : Int32 → Int32 → Int32 → Int32 → Int32 → Int32 → Int32 → Option (Int32)) (F : Nat) : Nat → Int32 → Int32 → Int32 → Int32 → Int32 → Int32 → Int32 → Int32 → Option (Int32)
  | 0, _, _, _, _, _, _, _, _ => none
  | n + 1, x1, x2, x3, x4, x5, x6, x7, x8 =>
    if x7 ≤ x8 then
      k21 x1 x2 x3 x4 x5 x6 (x7 + (1 : Int32))
    else
      if x5 = 0 then
        f_X6_meets_J135 mW KK KN KS KC FI k21 (f_X6_meets_L102 mW KK KN KS KC FI k21 F n) F x1 x2 x3 x4 x6 x7 x8
      else
        gin x8 9 (gin x7 9 (if (FI x8.toNatClampNeg) = (FI x7.toNatClampNeg) then
          f_X6_meets_J135 mW KK KN KS KC FI k21 (f_X6_meets_L102 mW KK KN KS KC FI k21 F n) F x1 x2 x3 x4 x6 x7 x8
        else
          f_X6_meets_J136 mW KK KN KS KC FI k21 (f_X6_meets_L102 mW KK KN KS KC FI k21 F n) F (1 : Int32) x1 x2 x3 x4 x6 x7 x8))
def f_X6_meets_J97 (mW : Int32) (KK : Nat → Int32) (KN : Nat → Int32) (KS : Nat → Int32) (KC : Nat → Int32) (FI : Nat → Int32) (k21 : Int32 → Int32 → Int32 → Int32 → Int32 → Int32 → Int32 → Option (Int32)) (F : Nat) (t0 : Int32) (x1 : Int32) (x2 : Int32) (x3 : Int32) (x4 : Int32) (x5 : Int32) (x7 : Int32)  : Option (Int32) :=
  f_X6_meets_L102 mW KK KN KS KC FI k21 F F x1 x2 x3 x4 x5 t0 x7 (0 : Int32)
def f_X6_meets_J96 (mW : Int32) (KK : Nat → Int32) (KN : Nat → Int32) (KS : Nat → Int32) (KC : Nat → Int32) (FI : Nat → Int32) (k21 : Int32 → Int32 → Int32 → Int32 → Int32 → Int32 → Int32 → Option (Int32)) (F : Nat) (x1 : Int32) (x2 : Int32) (x3 : Int32) (x4 : Int32) (x5 : Int32) (x7 : Int32)  : Option (Int32) :=
  f_X6_meets_J97 mW KK KN KS KC FI k21 F (0 : Int32) x1 x2 x3 x4 x5 x7
def f_X6_meets_J92 (mW : Int32) (KK : Nat → Int32) (KN : Nat → Int32) (KS : Nat → Int32) (KC : Nat → Int32) (FI : Nat → Int32) (k21 : Int32 → Int32 → Int32 → Int32 → Int32 → Int32 → Int32 → Option (Int32)) (F : Nat) (x1 : Int32) (x2 : Int32) (x3 : Int32) (x4 : Int32) (x5 : Int32) (x7 : Int32)  : Option (Int32) :=
  f_X6_meets_J97 mW KK KN KS KC FI k21 F (1 : Int32) x1 x2 x3 x4 x5 x7
def f_X6_meets_J60 (mW : Int32) (KK : Nat → Int32) (KN : Nat → Int32) (KS : Nat → Int32) (KC : Nat → Int32) (FI : Nat → Int32) (k21 : Int32 → Int32 → Int32 → Int32 → Int32 → Int32 → Int32 → Option (Int32)) (F : Nat) (t0 : Int32) (t1 : Int32) (x1 : Int32) (x2 : Int32) (x3 : Int32) (x5 : Int32) (x6 : Int32) (x7 : Int32)  : Option (Int32) :=
  if x6 = 0 then
    f_X6_meets_J96 mW KK KN KS KC FI k21 F x1 x2 x3 (t0 + t1) x5 x7
  else
    if x7 = 0 then
      f_X6_meets_J92 mW KK KN KS KC FI k21 F x1 x2 x3 (t0 + t1) x5 x7
    else
      gin x7 9 (gin (x7 - (1 : Int32)) 9 (if (FI x7.toNatClampNeg) ≤ ((FI (x7 - (1 : Int32)).toNatClampNeg)) then
        f_X6_meets_J96 mW KK KN KS KC FI k21 F x1 x2 x3 (t0 + t1) x5 x7
      else
        f_X6_meets_J92 mW KK KN KS KC FI k21 F x1 x2 x3 (t0 + t1) x5 x7))
def f_X6_meets_L21 (mW : Int32) (KK : Nat → Int32) (KN : Nat → Int32) (KS : Nat → Int32) (KC : Nat → Int32) (FI : Nat → Int32) (F : Nat) : Nat → Int32 → Int32 → Int32 → Int32 → Int32 → Int32 → Int32 → Option (Int32)
  | 0, _, _, _, _, _, _, _ => none
  | n + 1, x1, x2, x3, x4, x5, x6, x7 =>
    if x2 ≤ x7 then
      gin x1 30 (if (KK x1.toNatClampNeg) = (0 : Int32) then
        gbl x5 (some (x5))
      else if (KK x1.toNatClampNeg) = (1 : Int32) then
        gin x1 30 (if ¬ x3 = (KN x1.toNatClampNeg) then
          some ((0 : Int32))
        else
          some ((1 : Int32)))
      else if (KK x1.toNatClampNeg) = (2 : Int32) then
        gbl x6 (some (x6))
      else if (KK x1.toNatClampNeg) = (3 : Int32) then
        if x2 = 0 then
          some ((1 : Int32))
        else
          gin x1 30 (if ¬ x4 = (KN x1.toNatClampNeg) then
            some ((0 : Int32))
          else
            some ((1 : Int32)))
      else 
        Option.bind (f_X6_hangs mW KS KC FI F x1) (fun q15 =>
          gbl q15 (some (q15))))
    else
      gin x7 9 (gin x7 9 (gin (0 : Int32) 9 (if ¬ (FI x7.toNatClampNeg) = (FI (0 : Int32).toNatClampNeg) then
        f_X6_meets_J60 mW KK KN KS KC FI (f_X6_meets_L21 mW KK KN KS KC FI F n) F x4 (0 : Int32) x1 x2 (x3 + (FI x7.toNatClampNeg)) x5 x6 x7
      else
        f_X6_meets_J60 mW KK KN KS KC FI (f_X6_meets_L21 mW KK KN KS KC FI F n) F x4 (1 : Int32) x1 x2 (x3 + (FI x7.toNatClampNeg)) x5 x6 x7)))
def f_X6_meets (mW : Int32) (KK : Nat → Int32) (KN : Nat → Int32) (KS : Nat → Int32) (KC : Nat → Int32) (FI : Nat → Int32) (F : Nat)  (x1 : Int32) : Option (Int32) :=
  gin x1 30 (f_X6_meets_L21 mW KK KN KS KC FI F F x1 (KS x1.toNatClampNeg) (0 : Int32) (0 : Int32) (1 : Int32) (1 : Int32) (0 : Int32))
def f_X6_testRule_L2 (mW : Int32) (KK : Nat → Int32) (KN : Nat → Int32) (KS : Nat → Int32) (KC : Nat → Int32) (AN : Nat → Int32) (F : Nat) : Nat → Int32 → Int32 → (Nat → Int32) → Option (Int32 × (Nat → Int32))
  | 0, _, _, _ => none
  | n + 1, x1, x2, FI =>
    gin x1 30 (if (KS x1.toNatClampNeg) ≤ x2 then
      Option.bind (f_X6_meets mW KK KN KS KC FI F x1) (fun q3 =>
        if q3 = 0 then
        some ((0 : Int32), FI)
      else
        some ((1 : Int32), FI))
    else
      Option.bind (f_X6_member KC x1 x2) (fun q5 =>
        gin q5 16 (gin x2 9 (gin x2 9 (if 0 ≤ (((upd FI x2.toNatClampNeg (AN q5.toNatClampNeg)) x2.toNatClampNeg)) then
        f_X6_testRule_L2 mW KK KN KS KC AN F n x1 (x2 + (1 : Int32)) (upd FI x2.toNatClampNeg (AN q5.toNatClampNeg))
      else
        some ((-1 : Int32), (upd FI x2.toNatClampNeg (AN q5.toNatClampNeg))))))))
def f_X6_testRule (mW : Int32) (KK : Nat → Int32) (KN : Nat → Int32) (KS : Nat → Int32) (KC : Nat → Int32) (AN : Nat → Int32) (F : Nat) (FI : Nat → Int32) (x1 : Int32) : Option (Int32 × (Nat → Int32)) :=
  f_X6_testRule_L2 mW KK KN KS KC AN F F x1 (0 : Int32) FI
def f_X6_test_J19 (mW : Int32) (mR : Int32) (KK : Nat → Int32) (KN : Nat → Int32) (KS : Nat → Int32) (KC : Nat → Int32) (AN : Nat → Int32) (F : Nat) (t1 : Int32) (t2 : Int32) (x1 : Int32) (mT : Int32) (FI : Nat → Int32) : Option (Int32 × Int32 × (Nat → Int32)) :=
  Option.bind (f_X6_throwsIf mT t1 t2) (fun q3 =>
    if q3.1 = 0 then
    Option.bind (f_X6_testRule mW KK KN KS KC AN F FI x1) (fun q5 =>
      some (q5.1, q3.2, q5.2))
  else
    some ((0 : Int32), q3.2, FI))
def f_X6_test_J14 (mW : Int32) (mR : Int32) (KK : Nat → Int32) (KN : Nat → Int32) (KS : Nat → Int32) (KC : Nat → Int32) (AN : Nat → Int32) (F : Nat) (t1 : Int32) (x1 : Int32) (mT : Int32) (FI : Nat → Int32) : Option (Int32 × Int32 × (Nat → Int32)) :=
  f_X6_test_J19 mW mR KK KN KS KC AN F t1 (1 : Int32) x1 mT FI
def f_X6_test (mW : Int32) (mR : Int32) (KK : Nat → Int32) (KN : Nat → Int32) (KS : Nat → Int32) (KC : Nat → Int32) (AN : Nat → Int32) (F : Nat) (mT : Int32) (FI : Nat → Int32) (x1 : Int32) : Option (Int32 × Int32 × (Nat → Int32)) :=
  if x1 < 0 then
    f_X6_test_J14 mW mR KK KN KS KC AN F (1 : Int32) x1 mT FI
  else
    if x1 < mR then
      f_X6_test_J19 mW mR KK KN KS KC AN F (1 : Int32) (0 : Int32) x1 mT FI
    else
      f_X6_test_J14 mW mR KK KN KS KC AN F (1 : Int32) x1 mT FI
def f_X6_firstFailing_L2 (mW : Int32) (mR : Int32) (KK : Nat → Int32) (KN : Nat → Int32) (KS : Nat → Int32) (KC : Nat → Int32) (AN : Nat → Int32) (F : Nat) : Nat → Int32 → (Nat → Int32) → Option (Int32 × (Nat → Int32))
  | 0, _, _ => none
  | n + 1, x1, FI =>
    if mR ≤ x1 then
      some ((-1 : Int32), FI)
    else
      Option.bind (f_X6_testRule mW KK KN KS KC AN F FI x1) (fun q2 =>
        if q2.1 = (1 : Int32) then
        f_X6_firstFailing_L2 mW mR KK KN KS KC AN F n (x1 + (1 : Int32)) q2.2
      else
        some (x1, q2.2))
def f_X6_firstFailing (mW : Int32) (mR : Int32) (KK : Nat → Int32) (KN : Nat → Int32) (KS : Nat → Int32) (KC : Nat → Int32) (AN : Nat → Int32) (F : Nat) (FI : Nat → Int32)  : Option (Int32 × (Nat → Int32)) :=
  f_X6_firstFailing_L2 mW mR KK KN KS KC AN F F (0 : Int32) FI
def f_X6_fails (mW : Int32) (mR : Int32) (KK : Nat → Int32) (KN : Nat → Int32) (KS : Nat → Int32) (KC : Nat → Int32) (AN : Nat → Int32) (F : Nat) (mT : Int32) (FI : Nat → Int32)  : Option (Int32 × Int32 × (Nat → Int32)) :=
  Option.bind (f_X6_firstFailing mW mR KK KN KS KC AN F FI) (fun q1 =>
    some (q1.1, (0 : Int32), q1.2))
def f_X6_begin  (JK : Nat → Int32) (JN : Nat → Int32) (JS : Nat → Int32) (x1 : Int32) (x2 : Int32) (x3 : Int32) : Option ((Nat → Int32) × (Nat → Int32) × (Nat → Int32)) :=
  gin x1 120 (gin x1 120 (gin x1 120 (some ((upd JK x1.toNatClampNeg x2), (upd JN x1.toNatClampNeg x3), (upd JS x1.toNatClampNeg (0 : Int32))))))
def f_X6_line  (mT : Int32) (mL : Int32) (JK : Nat → Int32) (JN : Nat → Int32) (JS : Nat → Int32) (x1 : Int32) (x2 : Int32) : Option (Int32 × Int32 × Int32 × (Nat → Int32) × (Nat → Int32) × (Nat → Int32)) :=
  if x1 < 0 then
    some ((-1 : Int32), (0 : Int32), mL, JK, JN, JS)
  else
    if (3 : Int32) < x1 then
      some ((-1 : Int32), (0 : Int32), mL, JK, JN, JS)
    else
      if ¬ mL = (60 : Int32) then
        Option.bind (f_X6_begin JK JN JS mL x1 x2) (fun q4 =>
          some (((mL + (1 : Int32)) - (1 : Int32)), (0 : Int32), (mL + (1 : Int32)), q4.1, q4.2.1, q4.2.2))
      else
        some ((-1 : Int32), (0 : Int32), mL, JK, JN, JS)
def f_X6_has_L2 (JS : Nat → Int32) (JL : Nat → Int32) (F : Nat) : Nat → Int32 → Int32 → Int32 → Option (Int32)
  | 0, _, _, _ => none
  | n + 1, x1, x2, x3 =>
    gin x1 120 (if (JS x1.toNatClampNeg) ≤ x3 then
      some ((0 : Int32))
    else
      gin ((((16 : Int32) * x1) + x3)) 1920 (if ¬ ((JL ((((16 : Int32) * x1) + x3)).toNatClampNeg)) = x2 then
        f_X6_has_L2 JS JL F n x1 x2 (x3 + (1 : Int32))
      else
        some ((1 : Int32))))
def f_X6_has (JS : Nat → Int32) (JL : Nat → Int32) (F : Nat)  (x1 : Int32) (x2 : Int32) : Option (Int32) :=
  f_X6_has_L2 JS JL F F x1 x2 (0 : Int32)
def f_X6_literalOf (mS : Int32)  (x1 : Int32) (x2 : Int32) (x3 : Int32) : Option (Int32) :=
  if x3 = 0 then
    some (((((2 : Int32) * ((mS * x1) + x2))) + (0 : Int32)))
  else
    some (((((2 : Int32) * ((mS * x1) + x2))) + (1 : Int32)))
def f_X6_add  (JS : Nat → Int32) (JL : Nat → Int32) (x1 : Int32) (x2 : Int32) : Option ((Nat → Int32) × (Nat → Int32)) :=
  gin x1 120 (gin ((((16 : Int32) * x1) + (JS x1.toNatClampNeg))) 1920 (gin x1 120 (gin x1 120 (some ((upd JS x1.toNatClampNeg ((JS x1.toNatClampNeg) + (1 : Int32))), (upd JL ((((16 : Int32) * x1) + (JS x1.toNatClampNeg))).toNatClampNeg x2))))))
def f_X6_literal_J36 (mW : Int32) (mH : Int32) (mS : Int32) (mL : Int32) (F : Nat) (t1 : Int32) (t2 : Int32) (x1 : Int32) (x2 : Int32) (x3 : Int32) (mT : Int32) (JS : Nat → Int32) (JL : Nat → Int32) : Option (Int32 × Int32 × (Nat → Int32) × (Nat → Int32)) :=
  Option.bind (f_X6_throwsIf mT t1 t2) (fun q7 =>
    if ¬ q7.1 = 0 then
    some ((0 : Int32), q7.2, JS, JL)
  else
    if ¬ mL = 0 then
      Option.bind (f_X6_literalOf mS x1 x2 x3) (fun q10 =>
        Option.bind (f_X6_has JS JL F (mL - (1 : Int32)) q10) (fun q11 =>
        if ¬ q11 = 0 then
        some ((0 : Int32), q7.2, JS, JL)
      else
        gin (mL - (1 : Int32)) 120 (if ¬ ((JS (mL - (1 : Int32)).toNatClampNeg)) = (16 : Int32) then
          Option.bind (f_X6_literalOf mS x1 x2 x3) (fun q15 =>
            Option.bind (f_X6_add JS JL (mL - (1 : Int32)) q15) (fun q16 =>
            some ((1 : Int32), q7.2, q16.1, q16.2)))
        else
          some ((0 : Int32), q7.2, JS, JL))))
    else
      some ((0 : Int32), q7.2, JS, JL))
def f_X6_literal_J15 (mW : Int32) (mH : Int32) (mS : Int32) (mL : Int32) (F : Nat) (t1 : Int32) (t2 : Int32) (x1 : Int32) (x2 : Int32) (x3 : Int32) (mT : Int32) (JS : Nat → Int32) (JL : Nat → Int32) : Option (Int32 × Int32 × (Nat → Int32) × (Nat → Int32)) :=
  Option.bind (f_X6_throwsIf mT t1 t2) (fun q3 =>
    if ¬ q3.1 = 0 then
    some ((0 : Int32), q3.2, JS, JL)
  else
    Option.bind (f_X6_isSymbol mS x2) (fun q5 =>
      if ¬ q5 = 0 then
      f_X6_literal_J36 mW mH mS mL F (2 : Int32) (0 : Int32) x1 x2 x3 q3.2 JS JL
    else
      f_X6_literal_J36 mW mH mS mL F (2 : Int32) (1 : Int32) x1 x2 x3 q3.2 JS JL))
def f_X6_literal (mW : Int32) (mH : Int32) (mS : Int32) (mL : Int32) (F : Nat) (mT : Int32) (JS : Nat → Int32) (JL : Nat → Int32) (x1 : Int32) (x2 : Int32) (x3 : Int32) : Option (Int32 × Int32 × (Nat → Int32) × (Nat → Int32)) :=
  Option.bind (f_X6_isCell mW mH x1) (fun q1 =>
    if ¬ q1 = 0 then
    f_X6_literal_J15 mW mH mS mL F (1 : Int32) (0 : Int32) x1 x2 x3 mT JS JL
  else
    f_X6_literal_J15 mW mH mS mL F (1 : Int32) (1 : Int32) x1 x2 x3 mT JS JL)
def f_X6_drop  (mT : Int32) (mL : Int32)  : Option (Int32 × Int32 × Int32) :=
  if ¬ mL = 0 then
    some ((1 : Int32), (0 : Int32), (mL - (1 : Int32)))
  else
    some ((0 : Int32), (0 : Int32), mL)
def f_X6_cellOf (mS : Int32)  (x1 : Int32) : Option (Int32) :=
  gnz (2 : Int32) (gnz mS (some (((x1 / (2 : Int32)) / mS))))
def f_X6_symbolOf (mS : Int32)  (x1 : Int32) : Option (Int32) :=
  gnz (2 : Int32) (gnz mS (some (((x1 / (2 : Int32)) - (x1 / (2 : Int32)) / mS * mS))))
def f_X6_isFilled_J34 (mS : Int32) (KS : Nat → Int32) (KC : Nat → Int32) (FI : Nat → Int32) (F : Nat) (t0 : Int32) (x2 : Int32)  : Option (Int32) :=
  gnz (2 : Int32) (if ¬ (x2 - x2 / (2 : Int32) * (2 : Int32)) = (1 : Int32) then
    if ¬ t0 = (0 : Int32) then
      some ((0 : Int32))
    else
      some ((1 : Int32))
  else
    if ¬ t0 = (1 : Int32) then
      some ((0 : Int32))
    else
      some ((1 : Int32)))
def f_X6_isFilled (mS : Int32) (KS : Nat → Int32) (KC : Nat → Int32) (FI : Nat → Int32) (F : Nat)  (x1 : Int32) (x2 : Int32) : Option (Int32) :=
  Option.bind (f_X6_cellOf mS x2) (fun q1 =>
    Option.bind (f_X6_seat KS KC F x1 q1) (fun q2 =>
    if q2 < 0 then
    some ((0 : Int32))
  else
    gin q2 9 (Option.bind (f_X6_symbolOf mS x2) (fun q5 =>
      if ¬ (FI q2.toNatClampNeg) = q5 then
      f_X6_isFilled_J34 mS KS KC FI F (0 : Int32) x2
    else
      f_X6_isFilled_J34 mS KS KC FI F (1 : Int32) x2))))
def f_X6_byRule_J185 (mW : Int32) (mS : Int32) (mR : Int32) (KK : Nat → Int32) (KN : Nat → Int32) (KS : Nat → Int32) (KC : Nat → Int32) (JN : Nat → Int32) (JS : Nat → Int32) (JL : Nat → Int32) (k73 : Int32 → Int32 → Int32 → Int32 → (Nat → Int32) → Option (Int32 × (Nat → Int32))) (k144 : Int32 → Int32 → Int32 → Int32 → Int32 → Int32 → (Nat → Int32) → Option (Int32 × (Nat → Int32))) (F : Nat) (t0 : Int32) (x1 : Int32) (x2 : Int32) (x3 : Int32) (x4 : Int32) (x7 : Int32) (FI : Nat → Int32) : Option (Int32 × (Nat → Int32)) :=
  k144 x1 x2 x3 x4 t0 (x7 + (1 : Int32)) FI
def f_X6_byRule_J180 (mW : Int32) (mS : Int32) (mR : Int32) (KK : Nat → Int32) (KN : Nat → Int32) (KS : Nat → Int32) (KC : Nat → Int32) (JN : Nat → Int32) (JS : Nat → Int32) (JL : Nat → Int32) (k73 : Int32 → Int32 → Int32 → Int32 → (Nat → Int32) → Option (Int32 × (Nat → Int32))) (k144 : Int32 → Int32 → Int32 → Int32 → Int32 → Int32 → (Nat → Int32) → Option (Int32 × (Nat → Int32))) (F : Nat) (x1 : Int32) (x2 : Int32) (x3 : Int32) (x4 : Int32) (x7 : Int32) (FI : Nat → Int32) : Option (Int32 × (Nat → Int32)) :=
  f_X6_byRule_J185 mW mS mR KK KN KS KC JN JS JL k73 k144 F (1 : Int32) x1 x2 x3 x4 x7 FI
def f_X6_byRule_L144 (mW : Int32) (mS : Int32) (mR : Int32) (KK : Nat → Int32) (KN : Nat → Int32) (KS : Nat → Int32) (KC : Nat → Int32) (JN : Nat → Int32) (JS : Nat → Int32) (JL : Nat → Int32) (k73 : Int32 → Int32 → Int32 → Int32 → (Nat → Int32) → Option (Int32 × (Nat → Int32))) (F : Nat) : Nat → Int32 → Int32 → Int32 → Int32 → Int32 → Int32 → (Nat → Int32) → Option (Int32 × (Nat → Int32))
  | 0, _, _, _, _, _, _, _ => none
  | n + 1, x1, x2, x3, x4, x6, x7, FI =>
    gin x1 120 (if (JS x1.toNatClampNeg) ≤ x7 then
      if ¬ x6 = 0 then
        k73 x1 x2 x3 (x4 + (1 : Int32)) FI
      else
        some ((0 : Int32), FI)
    else
      if ¬ x6 = 0 then
        f_X6_byRule_J180 mW mS mR KK KN KS KC JN JS JL k73 (f_X6_byRule_L144 mW mS mR KK KN KS KC JN JS JL k73 F n) F x1 x2 x3 x4 x7 FI
      else
        gin ((((16 : Int32) * x1) + x7)) 1920 (Option.bind (f_X6_isFilled mS KS KC FI F x2 ((JL ((((16 : Int32) * x1) + x7)).toNatClampNeg))) (fun q21 =>
          if q21 = 0 then
          f_X6_byRule_J185 mW mS mR KK KN KS KC JN JS JL k73 (f_X6_byRule_L144 mW mS mR KK KN KS KC JN JS JL k73 F n) F (0 : Int32) x1 x2 x3 x4 x7 FI
        else
          f_X6_byRule_J180 mW mS mR KK KN KS KC JN JS JL k73 (f_X6_byRule_L144 mW mS mR KK KN KS KC JN JS JL k73 F n) F x1 x2 x3 x4 x7 FI)))
def f_X6_byRule_J139 (mW : Int32) (mS : Int32) (mR : Int32) (KK : Nat → Int32) (KN : Nat → Int32) (KS : Nat → Int32) (KC : Nat → Int32) (JN : Nat → Int32) (JS : Nat → Int32) (JL : Nat → Int32) (k73 : Int32 → Int32 → Int32 → Int32 → (Nat → Int32) → Option (Int32 × (Nat → Int32))) (F : Nat) (t0 : Int32) (x1 : Int32) (x2 : Int32) (x3 : Int32) (x4 : Int32) (FI : Nat → Int32) : Option (Int32 × (Nat → Int32)) :=
  f_X6_byRule_L144 mW mS mR KK KN KS KC JN JS JL k73 F F x1 x2 x3 x4 t0 (0 : Int32) FI
def f_X6_byRule_L86 (mW : Int32) (mS : Int32) (mR : Int32) (KK : Nat → Int32) (KN : Nat → Int32) (KS : Nat → Int32) (KC : Nat → Int32) (JN : Nat → Int32) (JS : Nat → Int32) (JL : Nat → Int32) (k73 : Int32 → Int32 → Int32 → Int32 → (Nat → Int32) → Option (Int32 × (Nat → Int32))) (F : Nat) : Nat → Int32 → Int32 → Int32 → Int32 → Int32 → Int32 → (Nat → Int32) → Option (Int32 × (Nat → Int32))
  | 0, _, _, _, _, _, _, _ => none
  | n + 1, x1, x2, x3, x4, x5, x6, FI =>
    gin x2 30 (if (KS x2.toNatClampNeg) ≤ x6 then
      Option.bind (f_X6_meets mW KK KN KS KC FI F x2) (fun q11 =>
        if ¬ q11 = 0 then
        f_X6_byRule_J139 mW mS mR KK KN KS KC JN JS JL k73 F (0 : Int32) x1 x2 x3 x4 FI
      else
        f_X6_byRule_J139 mW mS mR KK KN KS KC JN JS JL k73 F (1 : Int32) x1 x2 x3 x4 FI)
    else
      gnz mS (gin x6 9 (gnz mS (f_X6_byRule_L86 mW mS mR KK KN KS KC JN JS JL k73 F n x1 x2 x3 x4 (x5 / mS) (x6 + (1 : Int32)) (upd FI x6.toNatClampNeg (x5 - x5 / mS * mS))))))
def f_X6_byRule_L73 (mW : Int32) (mS : Int32) (mR : Int32) (KK : Nat → Int32) (KN : Nat → Int32) (KS : Nat → Int32) (KC : Nat → Int32) (JN : Nat → Int32) (JS : Nat → Int32) (JL : Nat → Int32) (F : Nat) : Nat → Int32 → Int32 → Int32 → Int32 → (Nat → Int32) → Option (Int32 × (Nat → Int32))
  | 0, _, _, _, _, _ => none
  | n + 1, x1, x2, x3, x4, FI =>
    if x3 ≤ x4 then
      some ((1 : Int32), FI)
    else
      f_X6_byRule_L86 mW mS mR KK KN KS KC JN JS JL (f_X6_byRule_L73 mW mS mR KK KN KS KC JN JS JL F n) F F x1 x2 x3 x4 x4 (0 : Int32) FI
def f_X6_byRule_J54 (mW : Int32) (mS : Int32) (mR : Int32) (KK : Nat → Int32) (KN : Nat → Int32) (KS : Nat → Int32) (KC : Nat → Int32) (JN : Nat → Int32) (JS : Nat → Int32) (JL : Nat → Int32) (k26 : Int32 → Int32 → Int32 → Int32 → (Nat → Int32) → Option (Int32 × (Nat → Int32))) (F : Nat) (t0 : Int32) (x1 : Int32) (x2 : Int32) (x4 : Int32) (FI : Nat → Int32) : Option (Int32 × (Nat → Int32)) :=
  k26 x1 x2 t0 (x4 + (1 : Int32)) FI
def f_X6_byRule_L26 (mW : Int32) (mS : Int32) (mR : Int32) (KK : Nat → Int32) (KN : Nat → Int32) (KS : Nat → Int32) (KC : Nat → Int32) (JN : Nat → Int32) (JS : Nat → Int32) (JL : Nat → Int32) (F : Nat) : Nat → Int32 → Int32 → Int32 → Int32 → (Nat → Int32) → Option (Int32 × (Nat → Int32))
  | 0, _, _, _, _, _ => none
  | n + 1, x1, x2, x3, x4, FI =>
    gin x2 30 (if (KS x2.toNatClampNeg) ≤ x4 then
      if x3 ≤ (4096 : Int32) then
        f_X6_byRule_L73 mW mS mR KK KN KS KC JN JS JL F F x1 x2 x3 (0 : Int32) FI
      else
        some ((0 : Int32), FI)
    else
      if x3 ≤ (4096 : Int32) then
        f_X6_byRule_J54 mW mS mR KK KN KS KC JN JS JL (f_X6_byRule_L26 mW mS mR KK KN KS KC JN JS JL F n) F (x3 * mS) x1 x2 x4 FI
      else
        f_X6_byRule_J54 mW mS mR KK KN KS KC JN JS JL (f_X6_byRule_L26 mW mS mR KK KN KS KC JN JS JL F n) F x3 x1 x2 x4 FI)
def f_X6_byRule (mW : Int32) (mS : Int32) (mR : Int32) (KK : Nat → Int32) (KN : Nat → Int32) (KS : Nat → Int32) (KC : Nat → Int32) (JN : Nat → Int32) (JS : Nat → Int32) (JL : Nat → Int32) (F : Nat) (FI : Nat → Int32) (x1 : Int32) : Option (Int32 × (Nat → Int32)) :=
  gin x1 120 (if (JN x1.toNatClampNeg) < 0 then
    some ((0 : Int32), FI)
  else
    if (JN x1.toNatClampNeg) < mR then
      f_X6_byRule_L26 mW mS mR KK KN KS KC JN JS JL F F x1 (JN x1.toNatClampNeg) (1 : Int32) (0 : Int32) FI
    else
      some ((0 : Int32), FI))
def f_X6_all_L7 (mS : Int32) (F : Nat) : Nat → Int32 → Int32 → (Nat → Int32) → Option (Int32 × (Nat → Int32))
  | 0, _, _, _ => none
  | n + 1, x1, mC, MY =>
    if (16 : Int32) ≤ x1 then
      some (mC, MY)
    else
      gin x1 16 (f_X6_all_L7 mS F n (x1 + (1 : Int32)) mC ((upd MY x1.toNatClampNeg ((((1 : Int32) <<< (mS &&& 31)) - (1 : Int32))))))
def f_X6_all (mS : Int32) (F : Nat) (mC : Int32) (MY : Nat → Int32)  : Option (Int32 × (Nat → Int32)) :=
  f_X6_all_L7 mS F F (0 : Int32) (0 : Int32) MY
def f_X6_make_J47 (mS : Int32) (t1 : Int32) (t2 : Int32) (x2 : Int32) (mC : Int32) (MY : Nat → Int32) : Option (Int32 × (Nat → Int32)) :=
  gin t1 16 (if ¬ mC = 0 then
    some ((1 : Int32), (upd MY t1.toNatClampNeg t2))
  else
    gin x2 16 (if ¬ ((upd MY t1.toNatClampNeg t2) x2.toNatClampNeg) = 0 then
      some ((0 : Int32), (upd MY t1.toNatClampNeg t2))
    else
      some ((1 : Int32), (upd MY t1.toNatClampNeg t2))))
def f_X6_make (mS : Int32) (mC : Int32) (MY : Nat → Int32) (x1 : Int32) : Option (Int32 × (Nat → Int32)) :=
  Option.bind (f_X6_cellOf mS x1) (fun q1 =>
    Option.bind (f_X6_symbolOf mS x1) (fun q2 =>
    gnz (2 : Int32) (if ¬ (x1 - x1 / (2 : Int32) * (2 : Int32)) = (1 : Int32) then
    gin q1 16 (f_X6_make_J47 mS q1 (((MY q1.toNatClampNeg) &&& ((((1 : Int32) <<< (q2 &&& 31)) ^^^ (-1 : Int32))))) q1 mC MY)
  else
    gin q1 16 (f_X6_make_J47 mS q1 (((MY q1.toNatClampNeg) &&& ((1 : Int32) <<< (q2 &&& 31)))) q1 mC MY))))
def f_X6_how_J39 (mS : Int32) (MY : Nat → Int32) (t0 : Int32) (x1 : Int32)  : Option (Int32) :=
  gnz (2 : Int32) (if ¬ (x1 - x1 / (2 : Int32) * (2 : Int32)) = (1 : Int32) then
    some ((-t0))
  else
    some (t0))
def f_X6_how (mS : Int32) (MY : Nat → Int32)  (x1 : Int32) : Option (Int32) :=
  Option.bind (f_X6_symbolOf mS x1) (fun q1 =>
    Option.bind (f_X6_cellOf mS x1) (fun q2 =>
    gin q2 16 (if ¬ (MY q2.toNatClampNeg) = ((1 : Int32) <<< (q1 &&& 31)) then
    if ¬ (((MY q2.toNatClampNeg) &&& ((1 : Int32) <<< (q1 &&& 31)))) = 0 then
      f_X6_how_J39 mS MY (0 : Int32) x1
    else
      f_X6_how_J39 mS MY (-1 : Int32) x1
  else
    f_X6_how_J39 mS MY (1 : Int32) x1)))
def f_X6_units_J174 (mS : Int32) (JS : Nat → Int32) (JL : Nat → Int32) (k13 : Int32 → Int32 → Int32 → (Nat → Int32) → Option (Int32 × (Nat → Int32))) (F : Nat) (t0 : Int32) (x1 : Int32) (mC : Int32) (MY : Nat → Int32) : Option (Int32 × (Nat → Int32)) :=
  k13 x1 t0 mC MY
def f_X6_units_J173 (mS : Int32) (JS : Nat → Int32) (JL : Nat → Int32) (k13 : Int32 → Int32 → Int32 → (Nat → Int32) → Option (Int32 × (Nat → Int32))) (F : Nat) (x1 : Int32) (mC : Int32) (MY : Nat → Int32) : Option (Int32 × (Nat → Int32)) :=
  f_X6_units_J174 mS JS JL k13 F (0 : Int32) x1 mC MY
def f_X6_units_J158 (mS : Int32) (JS : Nat → Int32) (JL : Nat → Int32) (k13 : Int32 → Int32 → Int32 → (Nat → Int32) → Option (Int32 × (Nat → Int32))) (F : Nat) (x1 : Int32) (x2 : Int32) (mC : Int32) (MY : Nat → Int32) : Option (Int32 × (Nat → Int32)) :=
  if x2 = 0 then
    f_X6_units_J173 mS JS JL k13 F x1 mC MY
  else
    if ¬ mC = 0 then
      f_X6_units_J173 mS JS JL k13 F x1 mC MY
    else
      f_X6_units_J174 mS JS JL k13 F (1 : Int32) x1 mC MY
def f_X6_units_J152 (mS : Int32) (JS : Nat → Int32) (JL : Nat → Int32) (k13 : Int32 → Int32 → Int32 → (Nat → Int32) → Option (Int32 × (Nat → Int32))) (k21 : Int32 → Int32 → Int32 → Int32 → (Nat → Int32) → Option (Int32 × (Nat → Int32))) (F : Nat) (x1 : Int32) (x2 : Int32) (x3 : Int32) (mC : Int32) (MY : Nat → Int32) : Option (Int32 × (Nat → Int32)) :=
  k21 x1 x2 (x3 + (1 : Int32)) mC MY
def f_X6_units_J111 (mS : Int32) (JS : Nat → Int32) (JL : Nat → Int32) (k13 : Int32 → Int32 → Int32 → (Nat → Int32) → Option (Int32 × (Nat → Int32))) (k21 : Int32 → Int32 → Int32 → Int32 → (Nat → Int32) → Option (Int32 × (Nat → Int32))) (k45 : Int32 → Int32 → Int32 → Int32 → Int32 → Int32 → Int32 → Int32 → (Nat → Int32) → Option (Int32 × (Nat → Int32))) (F : Nat) (x1 : Int32) (x2 : Int32) (x3 : Int32) (x4 : Int32) (x5 : Int32) (x6 : Int32) (x7 : Int32) (mC : Int32) (MY : Nat → Int32) : Option (Int32 × (Nat → Int32)) :=
  k45 x1 x2 x3 x4 x5 x6 (x7 + (1 : Int32)) mC MY
def f_X6_units_J90 (mS : Int32) (JS : Nat → Int32) (JL : Nat → Int32) (k13 : Int32 → Int32 → Int32 → (Nat → Int32) → Option (Int32 × (Nat → Int32))) (k21 : Int32 → Int32 → Int32 → Int32 → (Nat → Int32) → Option (Int32 × (Nat → Int32))) (k45 : Int32 → Int32 → Int32 → Int32 → Int32 → Int32 → Int32 → Int32 → (Nat → Int32) → Option (Int32 × (Nat → Int32))) (F : Nat) (t0 : Int32) (x1 : Int32) (x2 : Int32) (x3 : Int32) (x4 : Int32) (x5 : Int32) (x7 : Int32) (x8 : Int32) (mC : Int32) (MY : Nat → Int32) : Option (Int32 × (Nat → Int32)) :=
  Option.bind (f_X6_how mS MY x8) (fun q17 =>
    if q17 = 0 then
    f_X6_units_J111 mS JS JL k13 k21 k45 F x1 x2 x3 x8 (x5 + (1 : Int32)) t0 x7 mC MY
  else
    f_X6_units_J111 mS JS JL k13 k21 k45 F x1 x2 x3 x4 x5 t0 x7 mC MY)
def f_X6_units_J85 (mS : Int32) (JS : Nat → Int32) (JL : Nat → Int32) (k13 : Int32 → Int32 → Int32 → (Nat → Int32) → Option (Int32 × (Nat → Int32))) (k21 : Int32 → Int32 → Int32 → Int32 → (Nat → Int32) → Option (Int32 × (Nat → Int32))) (k45 : Int32 → Int32 → Int32 → Int32 → Int32 → Int32 → Int32 → Int32 → (Nat → Int32) → Option (Int32 × (Nat → Int32))) (F : Nat) (x1 : Int32) (x2 : Int32) (x3 : Int32) (x4 : Int32) (x5 : Int32) (x7 : Int32) (x8 : Int32) (mC : Int32) (MY : Nat → Int32) : Option (Int32 × (Nat → Int32)) :=
  f_X6_units_J90 mS JS JL k13 k21 k45 F (1 : Int32) x1 x2 x3 x4 x5 x7 x8 mC MY
def f_X6_units_L45 (mS : Int32) (JS : Nat → Int32) (JL : Nat → Int32) (k13 : Int32 → Int32 → Int32 → (Nat → Int32) → Option (Int32 × (Nat → Int32))) (k21 : Int32 → Int32 → Int32 → Int32 → (Nat → Int32) → Option (Int32 × (Nat → Int32))) (F : Nat) : Nat → Int32 → Int32 → Int32 → Int32 → Int32 → Int32 → Int32 → Int32 → (Nat → Int32) → Option (Int32 × (Nat → Int32))
  | 0, _, _, _, _, _, _, _, _, _ => none
  | n + 1, x1, x2, x3, x4, x5, x6, x7, mC, MY =>
    gin x3 120 (if (JS x3.toNatClampNeg) ≤ x7 then
      if ¬ x6 = 0 then
        f_X6_units_J152 mS JS JL k13 k21 F x1 x2 x3 mC MY
      else
        if x5 ≤ (1 : Int32) then
          if ¬ x5 = 0 then
            Option.bind (f_X6_make mS mC MY x4) (fun q12 =>
              f_X6_units_J152 mS JS JL k13 k21 F x1 (1 : Int32) x3 q12.1 q12.2)
          else
            f_X6_units_J152 mS JS JL k13 k21 F x1 x2 x3 (1 : Int32) MY
        else
          f_X6_units_J152 mS JS JL k13 k21 F x1 x2 x3 mC MY
    else
      gin ((((16 : Int32) * x3) + x7)) 1920 (if ¬ x6 = 0 then
        f_X6_units_J85 mS JS JL k13 k21 (f_X6_units_L45 mS JS JL k13 k21 F n) F x1 x2 x3 x4 x5 x7 ((JL ((((16 : Int32) * x3) + x7)).toNatClampNeg)) mC MY
      else
        Option.bind (f_X6_how mS MY ((JL ((((16 : Int32) * x3) + x7)).toNatClampNeg))) (fun q15 =>
          if ¬ q15 = (1 : Int32) then
          f_X6_units_J90 mS JS JL k13 k21 (f_X6_units_L45 mS JS JL k13 k21 F n) F (0 : Int32) x1 x2 x3 x4 x5 x7 ((JL ((((16 : Int32) * x3) + x7)).toNatClampNeg)) mC MY
        else
          f_X6_units_J85 mS JS JL k13 k21 (f_X6_units_L45 mS JS JL k13 k21 F n) F x1 x2 x3 x4 x5 x7 ((JL ((((16 : Int32) * x3) + x7)).toNatClampNeg)) mC MY)))
def f_X6_units_L21 (mS : Int32) (JS : Nat → Int32) (JL : Nat → Int32) (k13 : Int32 → Int32 → Int32 → (Nat → Int32) → Option (Int32 × (Nat → Int32))) (F : Nat) : Nat → Int32 → Int32 → Int32 → Int32 → (Nat → Int32) → Option (Int32 × (Nat → Int32))
  | 0, _, _, _, _, _ => none
  | n + 1, x1, x2, x3, mC, MY =>
    if x1 ≤ x3 then
      f_X6_units_J158 mS JS JL k13 F x1 x2 mC MY
    else
      if ¬ mC = 0 then
        f_X6_units_J158 mS JS JL k13 F x1 x2 mC MY
      else
        f_X6_units_L45 mS JS JL k13 (f_X6_units_L21 mS JS JL k13 F n) F F x1 x2 x3 (-1 : Int32) (0 : Int32) (0 : Int32) (0 : Int32) mC MY
def f_X6_units_L13 (mS : Int32) (JS : Nat → Int32) (JL : Nat → Int32) (F : Nat) : Nat → Int32 → Int32 → Int32 → (Nat → Int32) → Option (Int32 × (Nat → Int32))
  | 0, _, _, _, _ => none
  | n + 1, x1, x2, mC, MY =>
    if x2 = 0 then
      some (mC, MY)
    else
      f_X6_units_L21 mS JS JL (f_X6_units_L13 mS JS JL F n) F F x1 (0 : Int32) (0 : Int32) mC MY
def f_X6_units_J12 (mS : Int32) (JS : Nat → Int32) (JL : Nat → Int32) (F : Nat) (t0 : Int32) (x1 : Int32) (mC : Int32) (MY : Nat → Int32) : Option (Int32 × (Nat → Int32)) :=
  f_X6_units_L13 mS JS JL F F x1 t0 mC MY
def f_X6_units (mS : Int32) (JS : Nat → Int32) (JL : Nat → Int32) (F : Nat) (mC : Int32) (MY : Nat → Int32) (x1 : Int32) : Option (Int32 × (Nat → Int32)) :=
  if ¬ mC = 0 then
    f_X6_units_J12 mS JS JL F (0 : Int32) x1 mC MY
  else
    f_X6_units_J12 mS JS JL F (1 : Int32) x1 mC MY
def f_X6_turned_L6 (mS : Int32) (JS : Nat → Int32) (JL : Nat → Int32) (F : Nat) : Nat → Int32 → Int32 → Int32 → (Nat → Int32) → Option (Int32 × (Nat → Int32))
  | 0, _, _, _, _ => none
  | n + 1, x1, x2, mC, MY =>
    gin x1 120 (if (JS x1.toNatClampNeg) ≤ x2 then
      Option.bind (f_X6_units mS JS JL F mC MY x1) (fun q4 =>
        some (q4.1, q4.2))
    else
      gin ((((16 : Int32) * x1) + x2)) 1920 (Option.bind (f_X6_make mS mC MY ((((JL ((((16 : Int32) * x1) + x2)).toNatClampNeg)) ^^^ (1 : Int32)))) (fun q6 =>
        f_X6_turned_L6 mS JS JL F n x1 (x2 + (1 : Int32)) q6.1 q6.2)))
def f_X6_turned (mS : Int32) (JS : Nat → Int32) (JL : Nat → Int32) (F : Nat) (mC : Int32) (MY : Nat → Int32) (x1 : Int32) : Option (Int32 × (Nat → Int32)) :=
  Option.bind (f_X6_all mS F mC MY) (fun q1 =>
    f_X6_turned_L6 mS JS JL F F x1 (0 : Int32) q1.1 q1.2)
def f_X6_bySplit_J141 (mW : Int32) (mH : Int32) (mS : Int32) (JN : Nat → Int32) (JS : Nat → Int32) (JL : Nat → Int32) (k59 : Int32 → Int32 → Int32 → Int32 → (Nat → Int32) → (Nat → Int32) → Option (Int32 × Int32 × (Nat → Int32) × (Nat → Int32))) (F : Nat) (x1 : Int32) (x2 : Int32) (x3 : Int32) (mC : Int32) (MY : Nat → Int32) (KP : Nat → Int32) : Option (Int32 × Int32 × (Nat → Int32) × (Nat → Int32)) :=
  k59 x1 x2 (x3 + (1 : Int32)) mC MY KP
def f_X6_bySplit_L86 (mW : Int32) (mH : Int32) (mS : Int32) (JN : Nat → Int32) (JS : Nat → Int32) (JL : Nat → Int32) (k59 : Int32 → Int32 → Int32 → Int32 → (Nat → Int32) → (Nat → Int32) → Option (Int32 × Int32 × (Nat → Int32) × (Nat → Int32))) (F : Nat) : Nat → Int32 → Int32 → Int32 → Int32 → Int32 → (Nat → Int32) → (Nat → Int32) → Option (Int32 × Int32 × (Nat → Int32) × (Nat → Int32))
  | 0, _, _, _, _, _, _, _ => none
  | n + 1, x1, x2, x3, x4, mC, MY, KP =>
    if (16 : Int32) ≤ x4 then
      gin x2 16 (Option.bind (f_X6_units mS JS JL F (0 : Int32) ((upd MY x2.toNatClampNeg ((1 : Int32) <<< (x3 &&& 31)))) x1) (fun q14 =>
        if ¬ q14.1 = 0 then
        f_X6_bySplit_J141 mW mH mS JN JS JL k59 F x1 x2 x3 q14.1 q14.2 KP
      else
        some ((0 : Int32), q14.1, q14.2, KP)))
    else
      gin x4 16 (gin x4 16 (f_X6_bySplit_L86 mW mH mS JN JS JL k59 F n x1 x2 x3 (x4 + (1 : Int32)) mC (upd MY x4.toNatClampNeg (KP x4.toNatClampNeg)) KP))
def f_X6_bySplit_L59 (mW : Int32) (mH : Int32) (mS : Int32) (JN : Nat → Int32) (JS : Nat → Int32) (JL : Nat → Int32) (F : Nat) : Nat → Int32 → Int32 → Int32 → Int32 → (Nat → Int32) → (Nat → Int32) → Option (Int32 × Int32 × (Nat → Int32) × (Nat → Int32))
  | 0, _, _, _, _, _, _ => none
  | n + 1, x1, x2, x3, mC, MY, KP =>
    if mS ≤ x3 then
      some ((1 : Int32), mC, MY, KP)
    else
      gin x2 16 (if ¬ ((((KP x2.toNatClampNeg) >>> (x3 &&& 31)) &&& (1 : Int32))) = 0 then
        f_X6_bySplit_L86 mW mH mS JN JS JL (f_X6_bySplit_L59 mW mH mS JN JS JL F n) F F x1 x2 x3 (0 : Int32) mC MY KP
      else
        f_X6_bySplit_J141 mW mH mS JN JS JL (f_X6_bySplit_L59 mW mH mS JN JS JL F n) F x1 x2 x3 mC MY KP)
def f_X6_bySplit_L33 (mW : Int32) (mH : Int32) (mS : Int32) (JN : Nat → Int32) (JS : Nat → Int32) (JL : Nat → Int32) (F : Nat) : Nat → Int32 → Int32 → Int32 → Int32 → (Nat → Int32) → (Nat → Int32) → Option (Int32 × Int32 × (Nat → Int32) × (Nat → Int32))
  | 0, _, _, _, _, _, _ => none
  | n + 1, x1, x2, x3, mC, MY, KP =>
    if (16 : Int32) ≤ x3 then
      f_X6_bySplit_L59 mW mH mS JN JS JL F F x1 x2 (0 : Int32) mC MY KP
    else
      gin x3 16 (gin x3 16 (f_X6_bySplit_L33 mW mH mS JN JS JL F n x1 x2 (x3 + (1 : Int32)) mC MY (upd KP x3.toNatClampNeg (MY x3.toNatClampNeg))))
def f_X6_bySplit (mW : Int32) (mH : Int32) (mS : Int32) (JN : Nat → Int32) (JS : Nat → Int32) (JL : Nat → Int32) (F : Nat) (mC : Int32) (MY : Nat → Int32) (KP : Nat → Int32) (x1 : Int32) : Option (Int32 × Int32 × (Nat → Int32) × (Nat → Int32)) :=
  gin x1 120 (Option.bind (f_X6_isCell mW mH (JN x1.toNatClampNeg)) (fun q2 =>
    if ¬ q2 = 0 then
    Option.bind (f_X6_turned mS JS JL F mC MY x1) (fun q4 =>
      if q4.1 = 0 then
      f_X6_bySplit_L33 mW mH mS JN JS JL F F x1 (JN x1.toNatClampNeg) (0 : Int32) q4.1 q4.2 KP
    else
      some ((1 : Int32), q4.1, q4.2, KP))
  else
    some ((0 : Int32), mC, MY, KP)))
def f_X6_isBarred_L24 (mW : Int32) (mH : Int32) (mS : Int32) (mR : Int32) (KK : Nat → Int32) (KN : Nat → Int32) (KS : Nat → Int32) (KC : Nat → Int32) (AN : Nat → Int32) (JS : Nat → Int32) (JL : Nat → Int32) (F : Nat) : Nat → Int32 → Int32 → (Nat → Int32) → Option (Int32 × (Nat → Int32))
  | 0, _, _, _ => none
  | n + 1, x1, x2, FI =>
    Option.bind (f_X6_cells mW mH) (fun q6 =>
      if q6 ≤ x2 then
      some ((1 : Int32), FI)
    else
      gin x2 16 (if (AN x2.toNatClampNeg) < 0 then
        some ((0 : Int32), FI)
      else
        gin x2 16 (Option.bind (f_X6_literalOf mS x2 (AN x2.toNatClampNeg) (0 : Int32)) (fun q11 =>
          Option.bind (f_X6_has JS JL F x1 q11) (fun q12 =>
          if ¬ q12 = 0 then
          f_X6_isBarred_L24 mW mH mS mR KK KN KS KC AN JS JL F n x1 (x2 + (1 : Int32)) FI
        else
          some ((0 : Int32), FI))))))
def f_X6_isBarred (mW : Int32) (mH : Int32) (mS : Int32) (mR : Int32) (KK : Nat → Int32) (KN : Nat → Int32) (KS : Nat → Int32) (KC : Nat → Int32) (AN : Nat → Int32) (JS : Nat → Int32) (JL : Nat → Int32) (F : Nat) (FI : Nat → Int32) (x1 : Int32) : Option (Int32 × (Nat → Int32)) :=
  Option.bind (f_X6_firstFailing mW mR KK KN KS KC AN F FI) (fun q1 =>
    if 0 ≤ q1.1 then
    some ((0 : Int32), q1.2)
  else
    gin x1 120 (Option.bind (f_X6_cells mW mH) (fun q4 =>
      if (JS x1.toNatClampNeg) = q4 then
      f_X6_isBarred_L24 mW mH mS mR KK KN KS KC AN JS JL F F x1 (0 : Int32) q1.2
    else
      some ((0 : Int32), q1.2))))
def f_X6_isRight (mW : Int32) (mH : Int32) (mS : Int32) (mR : Int32) (KK : Nat → Int32) (KN : Nat → Int32) (KS : Nat → Int32) (KC : Nat → Int32) (AN : Nat → Int32) (JK : Nat → Int32) (JN : Nat → Int32) (JS : Nat → Int32) (JL : Nat → Int32) (F : Nat) (mC : Int32) (MY : Nat → Int32) (KP : Nat → Int32) (FI : Nat → Int32) (x1 : Int32) : Option (Int32 × Int32 × (Nat → Int32) × (Nat → Int32) × (Nat → Int32)) :=
  gin x1 120 (if (JK x1.toNatClampNeg) = (0 : Int32) then
    Option.bind (f_X6_byRule mW mS mR KK KN KS KC JN JS JL F FI x1) (fun q3 =>
      gbl q3.1 (some (q3.1, mC, MY, KP, q3.2)))
  else if (JK x1.toNatClampNeg) = (1 : Int32) then
    Option.bind (f_X6_turned mS JS JL F mC MY x1) (fun q6 =>
      gbl q6.1 (some (q6.1, q6.1, q6.2, KP, FI)))
  else if (JK x1.toNatClampNeg) = (2 : Int32) then
    Option.bind (f_X6_bySplit mW mH mS JN JS JL F mC MY KP x1) (fun q9 =>
      gbl q9.1 (some (q9.1, q9.2.1, q9.2.2.1, q9.2.2.2, FI)))
  else 
    Option.bind (f_X6_isBarred mW mH mS mR KK KN KS KC AN JS JL F FI x1) (fun q11 =>
      gbl q11.1 (some (q11.1, mC, MY, KP, q11.2))))
def f_X6_right_L2 (mW : Int32) (mH : Int32) (mS : Int32) (mR : Int32) (mL : Int32) (KK : Nat → Int32) (KN : Nat → Int32) (KS : Nat → Int32) (KC : Nat → Int32) (AN : Nat → Int32) (JK : Nat → Int32) (JN : Nat → Int32) (JS : Nat → Int32) (JL : Nat → Int32) (F : Nat) : Nat → Int32 → Int32 → (Nat → Int32) → (Nat → Int32) → (Nat → Int32) → Option (Int32 × Int32 × (Nat → Int32) × (Nat → Int32) × (Nat → Int32))
  | 0, _, _, _, _, _ => none
  | n + 1, x1, mC, MY, KP, FI =>
    if mL ≤ x1 then
      some (x1, mC, MY, KP, FI)
    else
      Option.bind (f_X6_isRight mW mH mS mR KK KN KS KC AN JK JN JS JL F mC MY KP FI x1) (fun q2 =>
        if q2.1 = 0 then
        some (x1, q2.2.1, q2.2.2.1, q2.2.2.2.1, q2.2.2.2.2)
      else
        f_X6_right_L2 mW mH mS mR mL KK KN KS KC AN JK JN JS JL F n (x1 + (1 : Int32)) q2.2.1 q2.2.2.1 q2.2.2.2.1 q2.2.2.2.2)
def f_X6_right (mW : Int32) (mH : Int32) (mS : Int32) (mR : Int32) (mL : Int32) (KK : Nat → Int32) (KN : Nat → Int32) (KS : Nat → Int32) (KC : Nat → Int32) (AN : Nat → Int32) (JK : Nat → Int32) (JN : Nat → Int32) (JS : Nat → Int32) (JL : Nat → Int32) (F : Nat) (mC : Int32) (MY : Nat → Int32) (KP : Nat → Int32) (FI : Nat → Int32)  : Option (Int32 × Int32 × (Nat → Int32) × (Nat → Int32) × (Nat → Int32)) :=
  f_X6_right_L2 mW mH mS mR mL KK KN KS KC AN JK JN JS JL F F (0 : Int32) mC MY KP FI
def f_X6_check (mW : Int32) (mH : Int32) (mS : Int32) (mR : Int32) (mL : Int32) (KK : Nat → Int32) (KN : Nat → Int32) (KS : Nat → Int32) (KC : Nat → Int32) (AN : Nat → Int32) (JK : Nat → Int32) (JN : Nat → Int32) (JS : Nat → Int32) (JL : Nat → Int32) (F : Nat) (mT : Int32) (mC : Int32) (MY : Nat → Int32) (KP : Nat → Int32) (FI : Nat → Int32)  : Option (Int32 × Int32 × Int32 × (Nat → Int32) × (Nat → Int32) × (Nat → Int32)) :=
  Option.bind (f_X6_right mW mH mS mR mL KK KN KS KC AN JK JN JS JL F mC MY KP FI) (fun q1 =>
    some (q1.1, (0 : Int32), q1.2.1, q1.2.2.1, q1.2.2.2.1, q1.2.2.2.2))
def f_X6_proves_L41 (mW : Int32) (mH : Int32) (mS : Int32) (mR : Int32) (mL : Int32) (KK : Nat → Int32) (KN : Nat → Int32) (KS : Nat → Int32) (KC : Nat → Int32) (AN : Nat → Int32) (JK : Nat → Int32) (JN : Nat → Int32) (JS : Nat → Int32) (JL : Nat → Int32) (F : Nat) : Nat → Int32 → Int32 → Int32 → (Nat → Int32) → (Nat → Int32) → (Nat → Int32) → Option (Int32 × Int32 × Int32 × (Nat → Int32) × (Nat → Int32) × (Nat → Int32))
  | 0, _, _, _, _, _, _ => none
  | n + 1, x1, mT, mC, MY, KP, FI =>
    if mL ≤ x1 then
      some ((1 : Int32), mT, mC, MY, KP, FI)
    else
      gin x1 120 (if ¬ (JK x1.toNatClampNeg) = (3 : Int32) then
        f_X6_proves_L41 mW mH mS mR mL KK KN KS KC AN JK JN JS JL F n (x1 + (1 : Int32)) mT mC MY KP FI
      else
        some ((2 : Int32), mT, mC, MY, KP, FI))
def f_X6_proves (mW : Int32) (mH : Int32) (mS : Int32) (mR : Int32) (mL : Int32) (KK : Nat → Int32) (KN : Nat → Int32) (KS : Nat → Int32) (KC : Nat → Int32) (AN : Nat → Int32) (JK : Nat → Int32) (JN : Nat → Int32) (JS : Nat → Int32) (JL : Nat → Int32) (F : Nat) (mT : Int32) (mC : Int32) (MY : Nat → Int32) (KP : Nat → Int32) (FI : Nat → Int32)  : Option (Int32 × Int32 × Int32 × (Nat → Int32) × (Nat → Int32) × (Nat → Int32)) :=
  if mL = 0 then
    some ((0 : Int32), (0 : Int32), mC, MY, KP, FI)
  else
    gin (mL - (1 : Int32)) 120 (if 0 < ((JS (mL - (1 : Int32)).toNatClampNeg)) then
      some ((0 : Int32), (0 : Int32), mC, MY, KP, FI)
    else
      Option.bind (f_X6_right mW mH mS mR mL KK KN KS KC AN JK JN JS JL F mC MY KP FI) (fun q4 =>
        if mL ≤ q4.1 then
        f_X6_proves_L41 mW mH mS mR mL KK KN KS KC AN JK JN JS JL F F (0 : Int32) (0 : Int32) q4.2.1 q4.2.2.1 q4.2.2.2.1 q4.2.2.2.2
      else
        some ((0 : Int32), (0 : Int32), q4.2.1, q4.2.2.1, q4.2.2.2.1, q4.2.2.2.2)))
def f_X6_tell_J19 (mL : Int32) (JK : Nat → Int32) (JN : Nat → Int32) (JS : Nat → Int32) (JL : Nat → Int32) (t1 : Int32) (t2 : Int32) (x1 : Int32) (x2 : Int32) (mT : Int32) : Option (Int32 × Int32) :=
  Option.bind (f_X6_throwsIf mT t1 t2) (fun q3 =>
    if q3.1 = 0 then
    if (3 : Int32) ≤ x2 then
      gin x1 120 (if (JS x1.toNatClampNeg) ≤ (x2 - (3 : Int32)) then
        some ((-1 : Int32), q3.2)
      else
        gin ((((((16 : Int32) * x1) + x2)) - (3 : Int32))) 1920 (some ((JL ((((((16 : Int32) * x1) + x2)) - (3 : Int32))).toNatClampNeg), q3.2)))
    else
      if ¬ x2 = 0 then
        if ¬ x2 = (1 : Int32) then
          if ¬ x2 = (2 : Int32) then
            some ((-1 : Int32), q3.2)
          else
            gin x1 120 (some ((JS x1.toNatClampNeg), q3.2))
        else
          gin x1 120 (some ((JN x1.toNatClampNeg), q3.2))
      else
        gin x1 120 (some ((JK x1.toNatClampNeg), q3.2))
  else
    some ((0 : Int32), q3.2))
def f_X6_tell_J14 (mL : Int32) (JK : Nat → Int32) (JN : Nat → Int32) (JS : Nat → Int32) (JL : Nat → Int32) (t1 : Int32) (x1 : Int32) (x2 : Int32) (mT : Int32) : Option (Int32 × Int32) :=
  f_X6_tell_J19 mL JK JN JS JL t1 (1 : Int32) x1 x2 mT
def f_X6_tell (mL : Int32) (JK : Nat → Int32) (JN : Nat → Int32) (JS : Nat → Int32) (JL : Nat → Int32) (mT : Int32) (x1 : Int32) (x2 : Int32) : Option (Int32 × Int32) :=
  if x1 < 0 then
    f_X6_tell_J14 mL JK JN JS JL (1 : Int32) x1 x2 mT
  else
    if x1 < mL then
      f_X6_tell_J19 mL JK JN JS JL (1 : Int32) (0 : Int32) x1 x2 mT
    else
      f_X6_tell_J14 mL JK JN JS JL (1 : Int32) x1 x2 mT
def f_X6_may_J15 (mW : Int32) (mH : Int32) (mS : Int32) (mL : Int32) (JS : Nat → Int32) (JL : Nat → Int32) (F : Nat) (t1 : Int32) (t2 : Int32) (x1 : Int32) (mT : Int32) (mC : Int32) (MY : Nat → Int32) : Option (Int32 × Int32 × Int32 × (Nat → Int32)) :=
  Option.bind (f_X6_throwsIf mT t1 t2) (fun q3 =>
    if q3.1 = 0 then
    Option.bind (f_X6_all mS F mC MY) (fun q5 =>
      Option.bind (f_X6_units mS JS JL F q5.1 q5.2 mL) (fun q6 =>
      if q6.1 = 0 then
      gin x1 16 (some ((q6.2 x1.toNatClampNeg), q3.2, q6.1, q6.2))
    else
      some ((0 : Int32), q3.2, q6.1, q6.2)))
  else
    some ((0 : Int32), q3.2, mC, MY))
def f_X6_may (mW : Int32) (mH : Int32) (mS : Int32) (mL : Int32) (JS : Nat → Int32) (JL : Nat → Int32) (F : Nat) (mT : Int32) (mC : Int32) (MY : Nat → Int32) (x1 : Int32) : Option (Int32 × Int32 × Int32 × (Nat → Int32)) :=
  Option.bind (f_X6_isCell mW mH x1) (fun q1 =>
    if ¬ q1 = 0 then
    f_X6_may_J15 mW mH mS mL JS JL F (1 : Int32) (0 : Int32) x1 mT mC MY
  else
    f_X6_may_J15 mW mH mS mL JS JL F (1 : Int32) (1 : Int32) x1 mT mC MY)
def f_X6_unit  (mT : Int32) (mZ : Int32) (TX : Nat → Int32) (x1 : Int32) : Option (Int32 × Int32 × Int32 × (Nat → Int32)) :=
  if x1 < 0 then
    some ((0 : Int32), (0 : Int32), mZ, TX)
  else
    if (255 : Int32) < x1 then
      some ((0 : Int32), (0 : Int32), mZ, TX)
    else
      if ¬ mZ = (300 : Int32) then
        gin mZ 300 (some ((1 : Int32), (0 : Int32), (mZ + (1 : Int32)), (upd TX mZ.toNatClampNeg x1)))
      else
        some ((0 : Int32), (0 : Int32), mZ, TX)
def f_X6_look (mZ : Int32) (mA : Int32) (TX : Nat → Int32)   : Option (Int32) :=
  if mZ ≤ mA then
    some ((-1 : Int32))
  else
    gin mA 300 (some ((TX mA.toNatClampNeg)))
def f_X6_isDigit (mZ : Int32) (mA : Int32) (TX : Nat → Int32)   : Option (Int32) :=
  Option.bind (f_X6_look mZ mA TX) (fun q1 =>
    if q1 < (48 : Int32) then
    some ((0 : Int32))
  else
    Option.bind (f_X6_look mZ mA TX) (fun q3 =>
      if (57 : Int32) < q3 then
      some ((0 : Int32))
    else
      some ((1 : Int32))))
def f_X6_wrong  (mB : Int32) (x1 : Int32) : Option (Int32) :=
  if 0 ≤ mB then
    some (mB)
  else
    some (x1)
def f_X6_number (mZ : Int32) (TX : Nat → Int32) (mA : Int32) (mB : Int32)  : Option (Int32 × Int32 × Int32) :=
  Option.bind (f_X6_isDigit mZ mA TX) (fun q1 =>
    if ¬ q1 = 0 then
    Option.bind (f_X6_look mZ mA TX) (fun q3 =>
      if (q3 - (48 : Int32)) ≤ 0 then
      some ((q3 - (48 : Int32)), (mA + (1 : Int32)), mB)
    else
      Option.bind (f_X6_isDigit mZ (mA + (1 : Int32)) TX) (fun q5 =>
        if q5 = 0 then
        some ((q3 - (48 : Int32)), (mA + (1 : Int32)), mB)
      else
        Option.bind (f_X6_look mZ (mA + (1 : Int32)) TX) (fun q7 =>
          some (((((((10 : Int32) * (q3 - (48 : Int32)))) + q7)) - (48 : Int32)), ((mA + (1 : Int32)) + (1 : Int32)), mB))))
  else
    Option.bind (f_X6_wrong mB mA) (fun q8 =>
      some ((0 : Int32), mA, q8)))
def f_X6_expect_J24 (mZ : Int32) (TX : Nat → Int32)  (mA : Int32) (mB : Int32) : Option (Int32 × Int32) :=
  some ((mA + (1 : Int32)), mB)
def f_X6_expect (mZ : Int32) (TX : Nat → Int32) (mA : Int32) (mB : Int32) (x1 : Int32) : Option (Int32 × Int32) :=
  if mB < 0 then
    Option.bind (f_X6_look mZ mA TX) (fun q2 =>
      if q2 = x1 then
      f_X6_expect_J24 mZ TX mA mB
    else
      Option.bind (f_X6_wrong mB mA) (fun q4 =>
        f_X6_expect_J24 mZ TX mA q4))
  else
    some (mA, mB)
def f_X6_readLiteral_J182 (mW : Int32) (mH : Int32) (mS : Int32) (mZ : Int32) (TX : Nat → Int32) (F : Nat) (x1 : Int32) (x2 : Int32) (x3 : Int32) (x4 : Int32) (mA : Int32) (mB : Int32) (JS : Nat → Int32) (JL : Nat → Int32) : Option (Int32 × Int32 × (Nat → Int32) × (Nat → Int32)) :=
  if 0 ≤ mB then
    some (mA, mB, JS, JL)
  else
    Option.bind (f_X6_literalOf mS x3 x4 x2) (fun q26 =>
      Option.bind (f_X6_add JS JL x1 q26) (fun q27 =>
      some (mA, mB, q27.1, q27.2)))
def f_X6_readLiteral_J172 (mW : Int32) (mH : Int32) (mS : Int32) (mZ : Int32) (TX : Nat → Int32) (F : Nat) (x1 : Int32) (x2 : Int32) (x3 : Int32) (x4 : Int32) (mA : Int32) (mB : Int32) (JS : Nat → Int32) (JL : Nat → Int32) : Option (Int32 × Int32 × (Nat → Int32) × (Nat → Int32)) :=
  Option.bind (f_X6_wrong mB (mA - (1 : Int32))) (fun q28 =>
    f_X6_readLiteral_J182 mW mH mS mZ TX F x1 x2 x3 x4 mA q28 JS JL)
def f_X6_readLiteral_J138 (mW : Int32) (mH : Int32) (mS : Int32) (mZ : Int32) (TX : Nat → Int32) (F : Nat) (t0 : Int32) (x1 : Int32) (x2 : Int32) (x3 : Int32) (mA : Int32) (mB : Int32) (JS : Nat → Int32) (JL : Nat → Int32) : Option (Int32 × Int32 × (Nat → Int32) × (Nat → Int32)) :=
  if 0 ≤ mB then
    f_X6_readLiteral_J182 mW mH mS mZ TX F x1 x2 x3 t0 mA mB JS JL
  else
    Option.bind (f_X6_isSymbol mS t0) (fun q20 =>
      if q20 = 0 then
      f_X6_readLiteral_J172 mW mH mS mZ TX F x1 x2 x3 t0 mA mB JS JL
    else
      Option.bind (f_X6_literalOf mS x3 t0 x2) (fun q22 =>
        Option.bind (f_X6_has JS JL F x1 q22) (fun q23 =>
        if q23 = 0 then
        f_X6_readLiteral_J182 mW mH mS mZ TX F x1 x2 x3 t0 mA mB JS JL
      else
        f_X6_readLiteral_J172 mW mH mS mZ TX F x1 x2 x3 t0 mA mB JS JL)))
def f_X6_readLiteral_J117 (mW : Int32) (mH : Int32) (mS : Int32) (mZ : Int32) (TX : Nat → Int32) (F : Nat) (x1 : Int32) (x2 : Int32) (x3 : Int32) (mA : Int32) (mB : Int32) (JS : Nat → Int32) (JL : Nat → Int32) : Option (Int32 × Int32 × (Nat → Int32) × (Nat → Int32)) :=
  Option.bind (f_X6_expect mZ TX mA mB (46 : Int32)) (fun q16 =>
    if 0 ≤ q16.2 then
    f_X6_readLiteral_J138 mW mH mS mZ TX F (0 : Int32) x1 x2 x3 q16.1 q16.2 JS JL
  else
    Option.bind (f_X6_number mZ TX q16.1 q16.2) (fun q18 =>
      f_X6_readLiteral_J138 mW mH mS mZ TX F q18.1 x1 x2 x3 q18.2.1 q18.2.2 JS JL))
def f_X6_readLiteral_J91 (mW : Int32) (mH : Int32) (mS : Int32) (mZ : Int32) (TX : Nat → Int32) (F : Nat) (t0 : Int32) (x1 : Int32) (x2 : Int32) (mA : Int32) (mB : Int32) (JS : Nat → Int32) (JL : Nat → Int32) : Option (Int32 × Int32 × (Nat → Int32) × (Nat → Int32)) :=
  if 0 ≤ mB then
    f_X6_readLiteral_J117 mW mH mS mZ TX F x1 x2 t0 mA mB JS JL
  else
    Option.bind (f_X6_isCell mW mH t0) (fun q13 =>
      if ¬ q13 = 0 then
      f_X6_readLiteral_J117 mW mH mS mZ TX F x1 x2 t0 mA mB JS JL
    else
      Option.bind (f_X6_wrong mB (mA - (1 : Int32))) (fun q15 =>
        f_X6_readLiteral_J117 mW mH mS mZ TX F x1 x2 t0 mA q15 JS JL))
def f_X6_readLiteral_J66 (mW : Int32) (mH : Int32) (mS : Int32) (mZ : Int32) (TX : Nat → Int32) (F : Nat) (x1 : Int32) (x2 : Int32) (mA : Int32) (mB : Int32) (JS : Nat → Int32) (JL : Nat → Int32) : Option (Int32 × Int32 × (Nat → Int32) × (Nat → Int32)) :=
  if 0 ≤ mB then
    f_X6_readLiteral_J91 mW mH mS mZ TX F (0 : Int32) x1 x2 (mA + (1 : Int32)) mB JS JL
  else
    Option.bind (f_X6_number mZ TX (mA + (1 : Int32)) mB) (fun q11 =>
      f_X6_readLiteral_J91 mW mH mS mZ TX F q11.1 x1 x2 q11.2.1 q11.2.2 JS JL)
def f_X6_readLiteral_J44 (mW : Int32) (mH : Int32) (mS : Int32) (mZ : Int32) (TX : Nat → Int32) (F : Nat) (t0 : Int32) (x1 : Int32) (mA : Int32) (mB : Int32) (JS : Nat → Int32) (JL : Nat → Int32) : Option (Int32 × Int32 × (Nat → Int32) × (Nat → Int32)) :=
  if ¬ t0 = 0 then
    f_X6_readLiteral_J66 mW mH mS mZ TX F x1 t0 mA mB JS JL
  else
    Option.bind (f_X6_look mZ mA TX) (fun q7 =>
      if q7 = (45 : Int32) then
      f_X6_readLiteral_J66 mW mH mS mZ TX F x1 t0 mA mB JS JL
    else
      Option.bind (f_X6_wrong mB mA) (fun q9 =>
        f_X6_readLiteral_J66 mW mH mS mZ TX F x1 t0 mA q9 JS JL))
def f_X6_readLiteral (mW : Int32) (mH : Int32) (mS : Int32) (mZ : Int32) (TX : Nat → Int32) (F : Nat) (mA : Int32) (mB : Int32) (JS : Nat → Int32) (JL : Nat → Int32) (x1 : Int32) : Option (Int32 × Int32 × (Nat → Int32) × (Nat → Int32)) :=
  gin x1 120 (if ¬ (JS x1.toNatClampNeg) = (16 : Int32) then
    Option.bind (f_X6_look mZ (mA + (1 : Int32)) TX) (fun q3 =>
      if ¬ q3 = (43 : Int32) then
      f_X6_readLiteral_J44 mW mH mS mZ TX F (0 : Int32) x1 (mA + (1 : Int32)) mB JS JL
    else
      f_X6_readLiteral_J44 mW mH mS mZ TX F (1 : Int32) x1 (mA + (1 : Int32)) mB JS JL)
  else
    Option.bind (f_X6_wrong mB mA) (fun q5 =>
      some (mA, q5, JS, JL)))
def f_X6_readLine_J118 (mW : Int32) (mH : Int32) (mS : Int32) (mZ : Int32) (TX : Nat → Int32) (F : Nat) (x2 : Int32) (mA : Int32) (mB : Int32) (JK : Nat → Int32) (JN : Nat → Int32) (JS : Nat → Int32) (JL : Nat → Int32) : Option (Int32 × Int32 × (Nat → Int32) × (Nat → Int32) × (Nat → Int32) × (Nat → Int32)) :=
  if 0 ≤ mB then
    Option.bind (f_X6_expect mZ TX mA mB (59 : Int32)) (fun q17 =>
      some (q17.1, q17.2, JK, JN, JS, JL))
  else
    Option.bind (f_X6_look mZ mA TX) (fun q18 =>
      if ¬ q18 = (59 : Int32) then
      Option.bind (f_X6_expect mZ TX mA mB (59 : Int32)) (fun q20 =>
        some (q20.1, q20.2, JK, JN, JS, JL))
    else
      if ¬ x2 = (60 : Int32) then
        Option.bind (f_X6_expect mZ TX mA mB (59 : Int32)) (fun q22 =>
          some (q22.1, q22.2, JK, JN, JS, JL))
      else
        Option.bind (f_X6_wrong mB mA) (fun q23 =>
          Option.bind (f_X6_expect mZ TX mA q23 (59 : Int32)) (fun q24 =>
          some (q24.1, q24.2, JK, JN, JS, JL))))
def f_X6_readLine_L94 (mW : Int32) (mH : Int32) (mS : Int32) (mZ : Int32) (TX : Nat → Int32) (F : Nat) : Nat → Int32 → Int32 → Int32 → Int32 → (Nat → Int32) → (Nat → Int32) → (Nat → Int32) → (Nat → Int32) → Option (Int32 × Int32 × (Nat → Int32) × (Nat → Int32) × (Nat → Int32) × (Nat → Int32))
  | 0, _, _, _, _, _, _, _, _ => none
  | n + 1, x1, x2, mA, mB, JK, JN, JS, JL =>
    if 0 ≤ mB then
      f_X6_readLine_J118 mW mH mS mZ TX F x2 mA mB JK JN JS JL
    else
      Option.bind (f_X6_look mZ mA TX) (fun q13 =>
        if ¬ q13 = (32 : Int32) then
        f_X6_readLine_J118 mW mH mS mZ TX F x2 mA mB JK JN JS JL
      else
        Option.bind (f_X6_readLiteral mW mH mS mZ TX F mA mB JS JL x1) (fun q15 =>
          f_X6_readLine_L94 mW mH mS mZ TX F n x1 x2 q15.1 q15.2.1 JK JN q15.2.2.1 q15.2.2.2))
def f_X6_readLine_J91 (mW : Int32) (mH : Int32) (mS : Int32) (mZ : Int32) (TX : Nat → Int32) (F : Nat) (t1 : Int32) (t2 : Int32) (t3 : Int32) (x1 : Int32) (x2 : Int32) (mA : Int32) (mB : Int32) (JK : Nat → Int32) (JN : Nat → Int32) (JS : Nat → Int32) (JL : Nat → Int32) : Option (Int32 × Int32 × (Nat → Int32) × (Nat → Int32) × (Nat → Int32) × (Nat → Int32)) :=
  Option.bind (f_X6_begin JK JN JS t1 t2 t3) (fun q11 =>
    f_X6_readLine_L94 mW mH mS mZ TX F F x1 x2 mA mB q11.1 q11.2.1 q11.2.2 JL)
def f_X6_readLine_J46 (mW : Int32) (mH : Int32) (mS : Int32) (mZ : Int32) (TX : Nat → Int32) (F : Nat) (t0 : Int32) (x1 : Int32) (x2 : Int32) (mA : Int32) (mB : Int32) (JK : Nat → Int32) (JN : Nat → Int32) (JS : Nat → Int32) (JL : Nat → Int32) : Option (Int32 × Int32 × (Nat → Int32) × (Nat → Int32) × (Nat → Int32) × (Nat → Int32)) :=
  if 0 ≤ t0 then
    gnz (2 : Int32) (if ¬ (t0 - t0 / (2 : Int32) * (2 : Int32)) = 0 then
      f_X6_readLine_J91 mW mH mS mZ TX F x1 t0 (0 : Int32) x1 x2 (mA + (1 : Int32)) mB JK JN JS JL
    else
      Option.bind (f_X6_number mZ TX (mA + (1 : Int32)) mB) (fun q9 =>
        f_X6_readLine_J91 mW mH mS mZ TX F x1 t0 q9.1 x1 x2 q9.2.1 q9.2.2 JK JN JS JL))
  else
    Option.bind (f_X6_wrong mB mA) (fun q10 =>
      some (mA, q10, JK, JN, JS, JL))
def f_X6_readLine (mW : Int32) (mH : Int32) (mS : Int32) (mZ : Int32) (TX : Nat → Int32) (F : Nat) (mA : Int32) (mB : Int32) (JK : Nat → Int32) (JN : Nat → Int32) (JS : Nat → Int32) (JL : Nat → Int32) (x1 : Int32) (x2 : Int32) : Option (Int32 × Int32 × (Nat → Int32) × (Nat → Int32) × (Nat → Int32) × (Nat → Int32)) :=
  Option.bind (f_X6_look mZ mA TX) (fun q1 =>
    if ¬ q1 = (114 : Int32) then
    if ¬ q1 = (117 : Int32) then
      if ¬ q1 = (115 : Int32) then
        if ¬ q1 = (98 : Int32) then
          f_X6_readLine_J46 mW mH mS mZ TX F (-1 : Int32) x1 x2 mA mB JK JN JS JL
        else
          f_X6_readLine_J46 mW mH mS mZ TX F (3 : Int32) x1 x2 mA mB JK JN JS JL
      else
        f_X6_readLine_J46 mW mH mS mZ TX F (2 : Int32) x1 x2 mA mB JK JN JS JL
    else
      f_X6_readLine_J46 mW mH mS mZ TX F (1 : Int32) x1 x2 mA mB JK JN JS JL
  else
    f_X6_readLine_J46 mW mH mS mZ TX F (0 : Int32) x1 x2 mA mB JK JN JS JL)
def f_X6_read_L120 (mW : Int32) (mH : Int32) (mS : Int32) (TX : Nat → Int32) (k87 : Int32 → Int32 → Int32 → Int32 → Int32 → Int32 → Int32 → (Nat → Int32) → (Nat → Int32) → (Nat → Int32) → (Nat → Int32) → Option (Int32 × Int32 × Int32 × Int32 × Int32 × Int32 × (Nat → Int32) × (Nat → Int32) × (Nat → Int32) × (Nat → Int32))) (F : Nat) : Nat → Int32 → Int32 → Int32 → Int32 → Int32 → Int32 → Int32 → Int32 → (Nat → Int32) → (Nat → Int32) → (Nat → Int32) → (Nat → Int32) → Option (Int32 × Int32 × Int32 × Int32 × Int32 × Int32 × (Nat → Int32) × (Nat → Int32) × (Nat → Int32) × (Nat → Int32))
  | 0, _, _, _, _, _, _, _, _, _, _, _, _ => none
  | n + 1, x1, x2, x3, mT, mL, mZ, mA, mB, JK, JN, JS, JL =>
    gin ((60 : Int32) + x2) 120 (if ((JS ((60 : Int32) + x2).toNatClampNeg)) ≤ x3 then
      k87 x1 (x2 + (1 : Int32)) mT (mL + (1 : Int32)) mZ mA mB JK JN JS JL
    else
      gin (((((16 : Int32) * ((60 : Int32) + x2))) + x3)) 1920 (Option.bind (f_X6_add JS JL mL ((JL (((((16 : Int32) * ((60 : Int32) + x2))) + x3)).toNatClampNeg))) (fun q12 =>
        f_X6_read_L120 mW mH mS TX k87 F n x1 x2 (x3 + (1 : Int32)) mT mL mZ mA mB JK JN q12.1 q12.2)))
def f_X6_read_L87 (mW : Int32) (mH : Int32) (mS : Int32) (TX : Nat → Int32) (F : Nat) : Nat → Int32 → Int32 → Int32 → Int32 → Int32 → Int32 → Int32 → (Nat → Int32) → (Nat → Int32) → (Nat → Int32) → (Nat → Int32) → Option (Int32 × Int32 × Int32 × Int32 × Int32 × Int32 × (Nat → Int32) × (Nat → Int32) × (Nat → Int32) × (Nat → Int32))
  | 0, _, _, _, _, _, _, _, _, _, _, _ => none
  | n + 1, x1, x2, mT, mL, mZ, mA, mB, JK, JN, JS, JL =>
    if x1 ≤ x2 then
      some (x1, mT, mL, mZ, mA, mB, JK, JN, JS, JL)
    else
      gin ((60 : Int32) + x2) 120 (gin ((60 : Int32) + x2) 120 (Option.bind (f_X6_begin JK JN JS mL ((JK ((60 : Int32) + x2).toNatClampNeg)) ((JN ((60 : Int32) + x2).toNatClampNeg))) (fun q8 =>
        f_X6_read_L120 mW mH mS TX (f_X6_read_L87 mW mH mS TX F n) F F x1 x2 (0 : Int32) mT mL mZ mA mB q8.1 q8.2.1 q8.2.2 JL)))
def f_X6_read_J66 (mW : Int32) (mH : Int32) (mS : Int32) (TX : Nat → Int32) (F : Nat) (x1 : Int32) (mT : Int32) (mL : Int32) (mZ : Int32) (mA : Int32) (mB : Int32) (JK : Nat → Int32) (JN : Nat → Int32) (JS : Nat → Int32) (JL : Nat → Int32) : Option (Int32 × Int32 × Int32 × Int32 × Int32 × Int32 × (Nat → Int32) × (Nat → Int32) × (Nat → Int32) × (Nat → Int32)) :=
  if mB < 0 then
    f_X6_read_L87 mW mH mS TX F F x1 (0 : Int32) mT mL (0 : Int32) mA mB JK JN JS JL
  else
    some (((-1 : Int32) - mB), mT, mL, (0 : Int32), mA, mB, JK, JN, JS, JL)
def f_X6_read_J50 (mW : Int32) (mH : Int32) (mS : Int32) (TX : Nat → Int32) (k17 : Int32 → Int32 → Int32 → Int32 → Int32 → Int32 → (Nat → Int32) → (Nat → Int32) → (Nat → Int32) → (Nat → Int32) → Option (Int32 × Int32 × Int32 × Int32 × Int32 × Int32 × (Nat → Int32) × (Nat → Int32) × (Nat → Int32) × (Nat → Int32))) (F : Nat) (t1 : Int32) (t2 : Int32) (x1 : Int32) (mT : Int32) (mL : Int32) (mZ : Int32) (mA : Int32) (mB : Int32) (JK : Nat → Int32) (JN : Nat → Int32) (JS : Nat → Int32) (JL : Nat → Int32) : Option (Int32 × Int32 × Int32 × Int32 × Int32 × Int32 × (Nat → Int32) × (Nat → Int32) × (Nat → Int32) × (Nat → Int32)) :=
  Option.bind (f_X6_readLine mW mH mS mZ TX F mA mB JK JN JS JL (t1 + t2) (mL + x1)) (fun q13 =>
    k17 (x1 + (1 : Int32)) mT mL mZ q13.1 q13.2.1 q13.2.2.1 q13.2.2.2.1 q13.2.2.2.2.1 q13.2.2.2.2.2)
def f_X6_read_L17 (mW : Int32) (mH : Int32) (mS : Int32) (TX : Nat → Int32) (F : Nat) : Nat → Int32 → Int32 → Int32 → Int32 → Int32 → Int32 → (Nat → Int32) → (Nat → Int32) → (Nat → Int32) → (Nat → Int32) → Option (Int32 × Int32 × Int32 × Int32 × Int32 × Int32 × (Nat → Int32) × (Nat → Int32) × (Nat → Int32) × (Nat → Int32))
  | 0, _, _, _, _, _, _, _, _, _, _ => none
  | n + 1, x1, mT, mL, mZ, mA, mB, JK, JN, JS, JL =>
    if 0 ≤ mB then
      f_X6_read_J66 mW mH mS TX F x1 mT mL mZ mA mB JK JN JS JL
    else
      if mZ ≤ mA then
        f_X6_read_J66 mW mH mS TX F x1 mT mL mZ mA mB JK JN JS JL
      else
        if (60 : Int32) ≤ x1 then
          f_X6_read_J50 mW mH mS TX (f_X6_read_L17 mW mH mS TX F n) F (60 : Int32) (59 : Int32) x1 mT mL mZ mA mB JK JN JS JL
        else
          f_X6_read_J50 mW mH mS TX (f_X6_read_L17 mW mH mS TX F n) F (60 : Int32) x1 x1 mT mL mZ mA mB JK JN JS JL
def f_X6_read (mW : Int32) (mH : Int32) (mS : Int32) (TX : Nat → Int32) (F : Nat) (mT : Int32) (mL : Int32) (mZ : Int32) (mA : Int32) (mB : Int32) (JK : Nat → Int32) (JN : Nat → Int32) (JS : Nat → Int32) (JL : Nat → Int32)  : Option (Int32 × Int32 × Int32 × Int32 × Int32 × Int32 × (Nat → Int32) × (Nat → Int32) × (Nat → Int32) × (Nat → Int32)) :=
  f_X6_read_L17 mW mH mS TX F F (0 : Int32) (0 : Int32) mL mZ (0 : Int32) (-1 : Int32) JK JN JS JL
