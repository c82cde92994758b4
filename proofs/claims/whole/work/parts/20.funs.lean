/-! the methods as functions -/
/-- String.length(), charAt: of the reader's words -/
def m_J0_length_8abf5 (i : Nat) (h : aH) : Option (Int32 × aH) := if i < 11 then some (nI (rdb i).length, h) else none
def m_J0_charAt_5068e (i : Nat) (j : Int32) (h : aH) : Option (Int32 × aH) := if i < 11 ∧ 0 ≤ j.toInt ∧ j.toInt < (rdb i).length then some ((rdb i).getD j.toNatClampNeg 0, h) else none
def m_X0_init (x1 : Nat) (h0 : aH) : Option (Unit × aH) :=
  bN h0 1 16 fun x2 h1 =>
  bO (pr h1 0 x1 1 x2) fun h2 =>
  bN h2 1 16 fun x3 h3 =>
  bO (pr h3 0 x1 3 x3) fun h4 =>
  bN h4 1 16 fun x4 h5 =>
  bO (pr h5 0 x1 4 x4) fun h6 =>
  bN h6 1 80 fun x5 h7 =>
  bO (pr h7 0 x1 5 x5) fun h8 =>
  bN h8 1 80 fun x6 h9 =>
  bO (pr h9 0 x1 6 x6) fun h10 =>
  bN h10 1 80 fun x7 h11 =>
  bO (pr h11 0 x1 7 x7) fun h12 =>
  some ((), h12)
def m_X11_copyAll (x1 : Nat) (x2 : Nat) (h0 : aH) : Option (Unit × aH) :=
  bO (aln h0 x1) fun x3 =>
  bO (aln h0 x2) fun x4 =>
  bO (acp h0 x1 (0 : Int32) x2 (0 : Int32) (iMin x3 x4)) fun h1 =>
  some ((), h1)
def m_X0_copyFrom (x1 : Nat) (x2 : Nat) (h0 : aH) : Option (Unit × aH) :=
  bO (gi h0 0 x2 0) fun x3 =>
  bO (pi h0 0 x1 0 x3) fun h1 =>
  bO (gr h1 0 x2 1) fun x4 =>
  bO (gr h1 0 x1 1) fun x5 =>
  bR (m_X11_copyAll x4 x5 h1) fun _ h2 =>
  bO (gi h2 0 x2 2) fun x6 =>
  bO (pi h2 0 x1 2 x6) fun h3 =>
  bO (gr h3 0 x2 3) fun x7 =>
  bO (gr h3 0 x1 3) fun x8 =>
  bR (m_X11_copyAll x7 x8 h3) fun _ h4 =>
  bO (gr h4 0 x2 4) fun x9 =>
  bO (gr h4 0 x1 4) fun x10 =>
  bR (m_X11_copyAll x9 x10 h4) fun _ h5 =>
  bO (gr h5 0 x2 5) fun x11 =>
  bO (gr h5 0 x1 5) fun x12 =>
  bR (m_X11_copyAll x11 x12 h5) fun _ h6 =>
  bO (gr h6 0 x2 6) fun x13 =>
  bO (gr h6 0 x1 6) fun x14 =>
  bR (m_X11_copyAll x13 x14 h6) fun _ h7 =>
  bO (gr h7 0 x2 7) fun x15 =>
  bO (gr h7 0 x1 7) fun x16 =>
  bR (m_X11_copyAll x15 x16 h7) fun _ h8 =>
  some ((), h8)
def m_X0_open (x1 : Nat) (x2 : Int32) (h0 : aH) : Option (Unit × aH) :=
  bO (gr h0 0 x1 3) fun x3 =>
  bO (gi h0 0 x1 0) fun x4 =>
  bO (asi h0 x3 x4 x2) fun h1 =>
  bO (gr h1 0 x1 4) fun x5 =>
  bO (gi h1 0 x1 0) fun x6 =>
  bO (asi h1 x5 x6 (0 : Int32)) fun h2 =>
  some ((), h2)
def m_X0_addLeaver (x1 : Nat) (x2 : Int32) (x3 : Int32) (x4 : Int32) (h0 : aH) : Option (Unit × aH) :=
  bO (gi h0 0 x1 0) fun x5 =>
  bO (gr h0 0 x1 4) fun x6 =>
  bO (gi h0 0 x1 0) fun x7 =>
  bO (ali h0 1 x6 x7) fun x8 =>
  aLet ((x5 * (5 : Int32)) + x8) fun x9 =>
  bO (gr h0 0 x1 5) fun x10 =>
  bO (asi h0 x10 x9 x2) fun h1 =>
  bO (gr h1 0 x1 6) fun x11 =>
  bO (asi h1 x11 x9 x3) fun h2 =>
  bO (gr h2 0 x1 7) fun x12 =>
  bO (asi h2 x12 x9 x4) fun h3 =>
  bO (gr h3 0 x1 4) fun x13 =>
  bO (gi h3 0 x1 0) fun x14 =>
  bO (ali h3 1 x13 x14) fun x15 =>
  bO (asi h3 x13 x14 (x15 + (1 : Int32))) fun h4 =>
  some ((), h4)
def m_X0_close (x1 : Nat) (x2 : Int32) (x3 : Int32) (h0 : aH) : Option (Int32 × aH) :=
  bO (gr h0 0 x1 1) fun x4 =>
  bO (gi h0 0 x1 0) fun x5 =>
  bO (asi h0 x4 x5 x2) fun h1 =>
  aJ (fun (x6 : Int32) (h2 : aH) =>
  bO (pi h2 0 x1 2 x6) fun h3 =>
  bO (gi h3 0 x1 0) fun x7 =>
  bO (pi h3 0 x1 0 (x7 + (1 : Int32))) fun h4 =>
  bO (gi h4 0 x1 0) fun x8 =>
  some (x8 - (1 : Int32), h4)) fun k42 =>
  if x3 = 0 then
    bO (gi h1 0 x1 2) fun x9 =>
    bO (gi h1 0 x1 0) fun x10 =>
    k42 (x9 &&& (((1 : Int32) <<< (x10 &&& 31)) ^^^ (-1 : Int32))) h1
  else
  bO (gi h1 0 x1 2) fun x11 =>
  bO (gi h1 0 x1 0) fun x12 =>
  k42 (x11 ||| ((1 : Int32) <<< (x12 &&& 31))) h1
def m_X1_init (x1 : Nat) (h0 : aH) : Option (Unit × aH) :=
  bN h0 1 6 fun x2 h1 =>
  bO (pr h1 1 x1 3 x2) fun h2 =>
  bN h2 1 32 fun x3 h3 =>
  bO (pr h3 1 x1 4 x3) fun h4 =>
  some ((), h4)
def m_X1_addPost_L22 (x1 : Nat) (x2 : Int32) (k50 : aH → Option (Unit × aH)) (r22 : Int32 → aH → Option (Unit × aH)) (x6 : Int32) (h4 : aH) : Option (Unit × aH) :=
  if x6 < (32 : Int32) then
    aJ (fun (h5 : aH) =>
    aLet (x6 + (1 : Int32)) fun x7 =>
    r22 x7 h5) fun k44 =>
    if (x6 &&& x2) = 0 then
      k44 h4
    else
    bO (gr h4 1 x1 4) fun x8 =>
    bO (ali h4 1 x8 x6) fun x9 =>
    bO (asi h4 x8 x6 (x9 + (1 : Int32))) fun h6 =>
    k44 h6
  else
  k50 h4
def m_X1_addPost (x1 : Nat) (x2 : Int32) (h0 : aH) : Option (Unit × aH) :=
  bO (gr h0 1 x1 3) fun x3 =>
  bO (gi h0 1 x1 2) fun x4 =>
  bO (asi h0 x3 x4 x2) fun h1 =>
  bO (gi h1 1 x1 2) fun x5 =>
  bO (pi h1 1 x1 2 (x5 + (1 : Int32))) fun h2 =>
  aJ (fun (h3 : aH) =>
  some ((), h3)) fun k50 =>
  aL1 (m_X1_addPost_L22 x1 x2 k50) FU (0 : Int32) h2
def m_X10_init (x1 : Nat) (x2 : Nat) (h0 : aH) : Option (Unit × aH) :=
  bN h0 1 12 fun x3 h1 =>
  bO (pr h1 10 x1 2 x3) fun h2 =>
  bN h2 1 12 fun x4 h3 =>
  bO (pr h3 10 x1 3 x4) fun h4 =>
  bN h4 1 12 fun x5 h5 =>
  bO (pr h5 10 x1 4 x5) fun h6 =>
  bN h6 1 144 fun x6 h7 =>
  bO (pr h7 10 x1 6 x6) fun h8 =>
  bN h8 1 48 fun x7 h9 =>
  bO (pr h9 10 x1 7 x7) fun h10 =>
  bN h10 1 6 fun x8 h11 =>
  bO (pr h11 10 x1 8 x8) fun h12 =>
  bN h12 1 18 fun x9 h13 =>
  bO (pr h13 10 x1 9 x9) fun h14 =>
  bN h14 1 18 fun x10 h15 =>
  bO (pr h15 10 x1 10 x10) fun h16 =>
  bN h16 1 5 fun x11 h17 =>
  bO (pr h17 10 x1 11 x11) fun h18 =>
  bN h18 1 5 fun x12 h19 =>
  bO (pr h19 10 x1 12 x12) fun h20 =>
  bN h20 10 8 fun x13 h21 =>
  bR (m_X0_init x13 h21) fun _ h22 =>
  bO (pr h22 10 x1 14 x13) fun h23 =>
  bN h23 1 12 fun x14 h24 =>
  bO (pr h24 10 x1 15 x14) fun h25 =>
  bO (pr h25 10 x1 0 x2) fun h26 =>
  some ((), h26)
def m_X2_init_L58 (x1 : Nat) (x2 : Nat) (k83 : aH → Option (Unit × aH)) (r58 : Int32 → aH → Option (Unit × aH)) (x6 : Int32) (h9 : aH) : Option (Unit × aH) :=
  if x6 < (2 : Int32) then
    bO (gr h9 2 x1 2) fun x7 =>
    bN h9 20 16 fun x8 h10 =>
    bR (m_X10_init x8 x2 h10) fun _ h11 =>
    bO (asr h11 5 10 x7 x6 x8) fun h12 =>
    aLet (x6 + (1 : Int32)) fun x9 =>
    r58 x9 h12
  else
  k83 h9
def m_X2_init_L30 (x1 : Nat) (x2 : Nat) (k56 : aH → Option (Unit × aH)) (r30 : Int32 → aH → Option (Unit × aH)) (x10 : Int32) (h13 : aH) : Option (Unit × aH) :=
  if x10 < (10 : Int32) then
    bO (gr h13 2 x1 1) fun x11 =>
    bN h13 20 16 fun x12 h14 =>
    bR (m_X10_init x12 x2 h14) fun _ h15 =>
    bO (asr h15 5 10 x11 x10 x12) fun h16 =>
    aLet (x10 + (1 : Int32)) fun x13 =>
    r30 x13 h16
  else
  k56 h13
def m_X2_init (x1 : Nat) (x2 : Nat) (h0 : aH) : Option (Unit × aH) :=
  bN h0 5 10 fun x3 h1 =>
  bO (pr h1 2 x1 1 x3) fun h2 =>
  bN h2 5 2 fun x4 h3 =>
  bO (pr h3 2 x1 2 x4) fun h4 =>
  bN h4 3 2 fun x5 h5 =>
  bO (pr h5 2 x1 3 x5) fun h6 =>
  aJ (fun (h7 : aH) =>
  aJ (fun (h8 : aH) =>
  some ((), h8)) fun k83 =>
  aL1 (m_X2_init_L58 x1 x2 k83) FU (0 : Int32) h7) fun k56 =>
  aL1 (m_X2_init_L30 x1 x2 k56) FU (0 : Int32) h6
def m_X2_clear_L7 (x1 : Nat) (k25 : aH → Option (Unit × aH)) (r7 : Int32 → aH → Option (Unit × aH)) (x2 : Int32) (h3 : aH) : Option (Unit × aH) :=
  if x2 < (2 : Int32) then
    bO (gr h3 2 x1 3) fun x3 =>
    bO (asz h3 x3 x2 (0 : Int32)) fun h4 =>
    aLet (x2 + (1 : Int32)) fun x4 =>
    r7 x4 h4
  else
  k25 h3
def m_X2_clear (x1 : Nat) (h0 : aH) : Option (Unit × aH) :=
  bO (pi h0 2 x1 0 (0 : Int32)) fun h1 =>
  aJ (fun (h2 : aH) =>
  some ((), h2)) fun k25 =>
  aL1 (m_X2_clear_L7 x1 k25) FU (0 : Int32) h1
def m_X2_forgetOldest_L9 (x1 : Nat) (k35 : aH → Option (Unit × aH)) (r9 : Int32 → aH → Option (Unit × aH)) (x5 : Int32) (h4 : aH) : Option (Unit × aH) :=
  if x5 < (10 : Int32) then
    bO (gr h4 2 x1 1) fun x6 =>
    bO (gr h4 2 x1 1) fun x7 =>
    bO (alr h4 5 x7 x5) fun x8 =>
    bO (asr h4 5 10 x6 (x5 - (1 : Int32)) x8) fun h5 =>
    aLet (x5 + (1 : Int32)) fun x9 =>
    r9 x9 h5
  else
  k35 h4
def m_X2_forgetOldest (x1 : Nat) (h0 : aH) : Option (Unit × aH) :=
  bO (gr h0 2 x1 1) fun x2 =>
  bO (alr h0 5 x2 (0 : Int32)) fun x3 =>
  aJ (fun (h1 : aH) =>
  bO (gr h1 2 x1 1) fun x4 =>
  bO (asr h1 5 10 x4 (9 : Int32) x3) fun h2 =>
  bO (pi h2 2 x1 0 (9 : Int32)) fun h3 =>
  some ((), h3)) fun k35 =>
  aL1 (m_X2_forgetOldest_L9 x1 k35) FU (1 : Int32) h0
def m_X10_copyFrom (x1 : Nat) (x2 : Nat) (h0 : aH) : Option (Unit × aH) :=
  bO (gr h0 10 x2 0) fun x3 =>
  bO (pr h0 10 x1 0 x3) fun h1 =>
  bO (gi h1 10 x2 1) fun x4 =>
  bO (pi h1 10 x1 1 x4) fun h2 =>
  bO (gr h2 10 x2 2) fun x5 =>
  bO (gr h2 10 x1 2) fun x6 =>
  bR (m_X11_copyAll x5 x6 h2) fun _ h3 =>
  bO (gr h3 10 x2 3) fun x7 =>
  bO (gr h3 10 x1 3) fun x8 =>
  bR (m_X11_copyAll x7 x8 h3) fun _ h4 =>
  bO (gr h4 10 x2 4) fun x9 =>
  bO (gr h4 10 x1 4) fun x10 =>
  bR (m_X11_copyAll x9 x10 h4) fun _ h5 =>
  bO (gi h5 10 x2 5) fun x11 =>
  bO (pi h5 10 x1 5 x11) fun h6 =>
  bO (gr h6 10 x2 6) fun x12 =>
  bO (gr h6 10 x1 6) fun x13 =>
  bR (m_X11_copyAll x12 x13 h6) fun _ h7 =>
  bO (gr h7 10 x2 7) fun x14 =>
  bO (gr h7 10 x1 7) fun x15 =>
  bR (m_X11_copyAll x14 x15 h7) fun _ h8 =>
  bO (gr h8 10 x2 8) fun x16 =>
  bO (gr h8 10 x1 8) fun x17 =>
  bR (m_X11_copyAll x16 x17 h8) fun _ h9 =>
  bO (gr h9 10 x2 9) fun x18 =>
  bO (gr h9 10 x1 9) fun x19 =>
  bR (m_X11_copyAll x18 x19 h9) fun _ h10 =>
  bO (gr h10 10 x2 10) fun x20 =>
  bO (gr h10 10 x1 10) fun x21 =>
  bR (m_X11_copyAll x20 x21 h10) fun _ h11 =>
  bO (gr h11 10 x2 11) fun x22 =>
  bO (gr h11 10 x1 11) fun x23 =>
  bR (m_X11_copyAll x22 x23 h11) fun _ h12 =>
  bO (gr h12 10 x2 12) fun x24 =>
  bO (gr h12 10 x1 12) fun x25 =>
  bR (m_X11_copyAll x24 x25 h12) fun _ h13 =>
  bO (gi h13 10 x2 13) fun x26 =>
  bO (pi h13 10 x1 13 x26) fun h14 =>
  bO (gr h14 10 x1 14) fun x27 =>
  bO (gr h14 10 x2 14) fun x28 =>
  gS h14 0 x27 <|
  bR (m_X0_copyFrom x27 x28 h14) fun _ h15 =>
  some ((), h15)
def m_X2_keep (x1 : Nat) (x2 : Nat) (h0 : aH) : Option (Unit × aH) :=
  bO (gi h0 2 x1 0) fun x3 =>
  aJ (fun (h1 : aH) =>
  bO (gr h1 2 x1 1) fun x4 =>
  bO (gi h1 2 x1 0) fun x5 =>
  bO (alr h1 5 x4 x5) fun x6 =>
  gS h1 10 x6 <|
  bR (m_X10_copyFrom x6 x2 h1) fun _ h2 =>
  bO (gi h2 2 x1 0) fun x7 =>
  bO (pi h2 2 x1 0 (x7 + (1 : Int32))) fun h3 =>
  some ((), h3)) fun k13 =>
  if x3 < (10 : Int32) then
    k13 h0
  else
  gS h0 2 x1 <|
  bR (m_X2_forgetOldest x1 h0) fun _ h4 =>
  k13 h4
def m_X2_takeBack (x1 : Nat) (x2 : Nat) (h0 : aH) : Option (Unit × aH) :=
  bO (gi h0 2 x1 0) fun x3 =>
  aJ (fun (h1 : aH) =>
  some ((), h1)) fun k30 =>
  if x3 ≤ 0 then
    k30 h0
  else
  bO (gi h0 2 x1 0) fun x4 =>
  bO (pi h0 2 x1 0 (x4 - (1 : Int32))) fun h2 =>
  bO (gr h2 2 x1 1) fun x5 =>
  bO (gi h2 2 x1 0) fun x6 =>
  bO (alr h2 5 x5 x6) fun x7 =>
  gS h2 10 x2 <|
  bR (m_X10_copyFrom x2 x7 h2) fun _ h3 =>
  k30 h3
def m_X3_init (x1 : Nat) (h0 : aH) : Option (Unit × aH) :=
  bN h0 1 6 fun x2 h1 =>
  bO (pr h1 3 x1 5 x2) fun h2 =>
  bN h2 1 5 fun x3 h3 =>
  bO (pr h3 3 x1 7 x3) fun h4 =>
  some ((), h4)
def m_X4_init (x1 : Nat) (x2 : Nat) (h0 : aH) : Option (Unit × aH) :=
  bN h0 1 12 fun x3 h1 =>
  bO (pr h1 4 x1 2 x3) fun h2 =>
  bN h2 1 12 fun x4 h3 =>
  bO (pr h3 4 x1 3 x4) fun h4 =>
  bN h4 1 5 fun x5 h5 =>
  bO (pr h5 4 x1 6 x5) fun h6 =>
  bN h6 1 5 fun x6 h7 =>
  bO (pr h7 4 x1 7 x6) fun h8 =>
  bN h8 1 5 fun x7 h9 =>
  bO (pr h9 4 x1 8 x7) fun h10 =>
  bN h10 1 5 fun x8 h11 =>
  bO (pr h11 4 x1 9 x8) fun h12 =>
  bN h12 1 32 fun x9 h13 =>
  bO (pr h13 4 x1 10 x9) fun h14 =>
  bO (pr h14 4 x1 0 x2) fun h15 =>
  bO (gr h15 10 x2 0) fun x10 =>
  bO (pr h15 4 x1 1 x10) fun h16 =>
  some ((), h16)
def m_X10_handOnsAt_L5 (x1 : Nat) (x2 : Int32) (x3 : Int32) (k40 : Int32 → aH → Option (Int32 × aH)) (r5 : Int32 → Int32 → aH → Option (Int32 × aH)) (x5 : Int32) (x6 : Int32) (h2 : aH) : Option (Int32 × aH) :=
  bO (gr h2 10 x1 8) fun x7 =>
  bO (ali h2 1 x7 x2) fun x8 =>
  if x6 < x8 then
    bO (gr h2 10 x1 10) fun x9 =>
    bO (ali h2 1 x9 ((x2 * (3 : Int32)) + x6)) fun x10 =>
    aJ (fun (x11 : Int32) (h3 : aH) =>
    aLet (x6 + (1 : Int32)) fun x12 =>
    r5 x11 x12 h3) fun k34 =>
    if x10 ≤ x3 then
      k34 x5 h2
    else
    aLet (x5 + (1 : Int32)) fun x13 =>
    k34 x13 h2
  else
  k40 x5 h2
def m_X10_handOnsAt (x1 : Nat) (x2 : Int32) (x3 : Int32) (h0 : aH) : Option (Int32 × aH) :=
  aJ (fun (x4 : Int32) (h1 : aH) =>
  some (x4, h1)) fun k40 =>
  aL2 (m_X10_handOnsAt_L5 x1 x2 x3 k40) FU (0 : Int32) (0 : Int32) h0
def m_X10_placeAt (x1 : Nat) (x2 : Int32) (x3 : Int32) (h0 : aH) : Option (Int32 × aH) :=
  bO (gr h0 10 x1 0) fun x4 =>
  bO (gr h0 8 x4 6) fun x5 =>
  bO (alr h0 7 x5 x2) fun x6 =>
  bO (gi h0 6 x6 2) fun x7 =>
  bO (dvI x3 (iMax (1 : Int32) x7)) fun x8 =>
  bO (gr h0 10 x1 0) fun x9 =>
  bO (gr h0 8 x9 6) fun x10 =>
  bO (alr h0 7 x10 x2) fun x11 =>
  bO (gi h0 6 x11 3) fun x12 =>
  bO (rmI x8 (iMax (1 : Int32) x12)) fun x13 =>
  some (x13, h0)
def m_X10_holderThen (x1 : Nat) (x2 : Int32) (x3 : Int32) (h0 : aH) : Option (Int32 × aH) :=
  gS h0 10 x1 <|
  bR (m_X10_handOnsAt x1 x2 x3 h0) fun x4 h1 =>
  if x4 ≤ 0 then
    bO (gr h1 10 x1 7) fun x5 =>
    gS h1 10 x1 <|
    bR (m_X10_placeAt x1 x2 x3 h1) fun x6 h2 =>
    bO (ali h2 1 x5 ((x2 * (8 : Int32)) + x6)) fun x7 =>
    some (x7, h2)
  else
  bO (gr h1 10 x1 9) fun x8 =>
  bO (ali h1 1 x8 (((x2 * (3 : Int32)) + x4) - (1 : Int32))) fun x9 =>
  some (x9, h1)
def m_X5_covers (x1 : Nat) (x2 : Int32) (h0 : aH) : Option (Int32 × aH) :=
  bO (dvI x2 (60 : Int32)) fun x3 =>
  bO (rmI x3 (24 : Int32)) fun x4 =>
  bO (gi h0 5 x1 0) fun x5 =>
  bO (gi h0 5 x1 1) fun x6 =>
  if x5 < x6 then
    bO (gi h0 5 x1 0) fun x7 =>
    aJ (fun (x8 : Int32) (h1 : aH) =>
    bO (zO x8) fun x9 =>
    some (x9, h1)) fun k40 =>
    aJ (fun (h2 : aH) =>
    k40 (0 : Int32) h2) fun k39 =>
    if x7 ≤ x4 then
      bO (gi h0 5 x1 1) fun x10 =>
      if x4 < x10 then
        k40 (1 : Int32) h0
      else
      k39 h0
    else
    k39 h0
  else
  bO (gi h0 5 x1 0) fun x11 =>
  aJ (fun (x12 : Int32) (h3 : aH) =>
  bO (zO x12) fun x13 =>
  some (x13, h3)) fun k62 =>
  aJ (fun (h4 : aH) =>
  k62 (1 : Int32) h4) fun k57 =>
  if x11 ≤ x4 then
    k57 h0
  else
  bO (gi h0 5 x1 1) fun x14 =>
  if x4 < x14 then
    k57 h0
  else
  k62 (0 : Int32) h0
def m_X10_arrivalOf (x1 : Nat) (x2 : Int32) (h0 : aH) : Option (Int32 × aH) :=
  bO (gr h0 10 x1 0) fun x3 =>
  bO (gr h0 8 x3 2) fun x4 =>
  bO (alr h0 6 x4 x2) fun x5 =>
  bO (gi h0 7 x5 1) fun x6 =>
  bO (gr h0 10 x1 0) fun x7 =>
  bO (gr h0 8 x7 0) fun x8 =>
  bO (gi h0 10 x1 1) fun x9 =>
  gS h0 5 x8 <|
  bR (m_X5_covers x8 x9 h0) fun x10 h1 =>
  aJ (fun (x11 : Int32) (h2 : aH) =>
  some (x6 + x11, h2)) fun k43 =>
  if x10 = 0 then
    k43 (0 : Int32) h1
  else
  bO (gr h1 10 x1 0) fun x12 =>
  bO (gr h1 8 x12 0) fun x13 =>
  bO (gi h1 5 x13 2) fun x14 =>
  k43 x14 h1
def m_X11_has (x1 : Int32) (x2 : Int32) (h0 : aH) : Option (Int32 × aH) :=
  aJ (fun (x3 : Int32) (h1 : aH) =>
  bO (zO x3) fun x4 =>
  some (x4, h1)) fun k13 =>
  if ((x1 >>> (x2 &&& 31)) &&& (1 : Int32)) = 0 then
    k13 (0 : Int32) h0
  else
  k13 (1 : Int32) h0
def m_X10_isOut (x1 : Nat) (x2 : Int32) (h0 : aH) : Option (Int32 × aH) :=
  bO (gr h0 10 x1 3) fun x3 =>
  bO (ali h0 1 x3 x2) fun x4 =>
  bO (gi h0 10 x1 1) fun x5 =>
  aJ (fun (x6 : Int32) (h1 : aH) =>
  bO (zO x6) fun x7 =>
  some (x7, h1)) fun k18 =>
  if x4 ≤ x5 then
    k18 (0 : Int32) h0
  else
  k18 (1 : Int32) h0
def m_X10_isTired (x1 : Nat) (x2 : Int32) (h0 : aH) : Option (Int32 × aH) :=
  bO (gr h0 10 x1 2) fun x3 =>
  bO (ali h0 1 x3 x2) fun x4 =>
  bO (gr h0 10 x1 0) fun x5 =>
  bO (gr h0 8 x5 0) fun x6 =>
  bO (gi h0 5 x6 3) fun x7 =>
  aJ (fun (x8 : Int32) (h1 : aH) =>
  bO (zO x8) fun x9 =>
  some (x9, h1)) fun k24 =>
  if x4 < x7 then
    k24 (0 : Int32) h0
  else
  k24 (1 : Int32) h0
def m_X4_absenceOfHolder (x1 : Nat) (x2 : Int32) (x3 : Int32) (h0 : aH) : Option (Int32 × aH) :=
  bO (gr h0 4 x1 0) fun x4 =>
  bO (gi h0 10 x4 5) fun x5 =>
  bR (m_X11_has x5 x2 h0) fun x6 h1 =>
  if x6 = 0 then
    bO (gr h1 4 x1 0) fun x7 =>
    gS h1 10 x7 <|
    bR (m_X10_isOut x7 x2 h1) fun x8 h2 =>
    if x8 = 0 then
      bO (gr h2 4 x1 0) fun x9 =>
      gS h2 10 x9 <|
      bR (m_X10_isTired x9 x2 h2) fun x10 h3 =>
      if x10 = 0 then
        bO (gr h3 4 x1 3) fun x11 =>
        bO (ali h3 1 x11 x2) fun x12 =>
        aJ (fun (x13 : Int32) (h4 : aH) =>
        some (x13, h4)) fun k57 =>
        if x12 ≤ x3 then
          k57 (0 : Int32) h3
        else
        k57 (5 : Int32) h3
      else
      some ((4 : Int32), h3)
    else
    some ((3 : Int32), h2)
  else
  some ((2 : Int32), h1)
def m_X4_alert_L50 (x1 : Nat) (x2 : Nat) (x3 : Int32) (k129 : aH → Option (Unit × aH)) (r50 : Int32 → aH → Option (Unit × aH)) (x4 : Int32) (h4 : aH) : Option (Unit × aH) :=
  bO (gr h4 4 x1 1) fun x5 =>
  bO (gi h4 8 x5 1) fun x6 =>
  if x4 < x6 then
    bO (gr h4 4 x1 3) fun x7 =>
    bO (gr h4 4 x1 0) fun x8 =>
    gS h4 10 x8 <|
    bR (m_X10_arrivalOf x8 x4 h4) fun x9 h5 =>
    bO (asi h5 x7 x4 x9) fun h6 =>
    bO (gr h6 4 x1 2) fun x10 =>
    bR (m_X11_has x3 x4 h6) fun x11 h7 =>
    aJ (fun (x12 : Int32) (h8 : aH) =>
    bO (asi h8 x10 x4 x12) fun h9 =>
    bO (gr h9 4 x1 2) fun x13 =>
    bO (ali h9 1 x13 x4) fun x14 =>
    aJ (fun (h10 : aH) =>
    aLet (x4 + (1 : Int32)) fun x15 =>
    r50 x15 h10) fun k123 =>
    if x14 = 0 then
      bO (gi h9 4 x1 4) fun x16 =>
      bO (pi h9 4 x1 4 (x16 ||| ((1 : Int32) <<< (x4 &&& 31)))) fun h11 =>
      k123 h11
    else
    k123 h9) fun k101 =>
    if x11 = 0 then
      k101 (1 : Int32) h7
    else
    bO (gi h7 3 x2 2) fun x17 =>
    gS h7 4 x1 <|
    bR (m_X4_absenceOfHolder x1 x4 x17 h7) fun x18 h12 =>
    k101 x18 h12
  else
  k129 h4
def m_X4_alert_L4 (x1 : Nat) (x2 : Nat) (k43 : Int32 → aH → Option (Unit × aH)) (r4 : Int32 → Int32 → aH → Option (Unit × aH)) (x19 : Int32) (x20 : Int32) (h13 : aH) : Option (Unit × aH) :=
  bO (gi h13 3 x2 4) fun x21 =>
  if x20 < x21 then
    bO (gr h13 4 x1 0) fun x22 =>
    bO (gr h13 3 x2 5) fun x23 =>
    bO (ali h13 1 x23 x20) fun x24 =>
    bO (gr h13 4 x1 0) fun x25 =>
    bO (gi h13 10 x25 1) fun x26 =>
    gS h13 10 x22 <|
    bR (m_X10_holderThen x22 x24 x26 h13) fun x27 h14 =>
    aLet (x19 ||| ((1 : Int32) <<< (x27 &&& 31))) fun x28 =>
    aLet (x20 + (1 : Int32)) fun x29 =>
    r4 x28 x29 h14
  else
  k43 x19 h13
def m_X4_alert (x1 : Nat) (x2 : Nat) (h0 : aH) : Option (Unit × aH) :=
  aJ (fun (x3 : Int32) (h1 : aH) =>
  bO (pi h1 4 x1 4 (0 : Int32)) fun h2 =>
  aJ (fun (h3 : aH) =>
  some ((), h3)) fun k129 =>
  aL1 (m_X4_alert_L50 x1 x2 x3 k129) FU (0 : Int32) h2) fun k43 =>
  aL2 (m_X4_alert_L4 x1 x2 k43) FU (0 : Int32) (0 : Int32) h0
def m_J6_bitCount_0f7a4 (x1 : Int32) (h0 : aH) : Option (Int32 × aH) :=
  aLet (x1 - ((iUshr x1 (1 : Int32)) &&& (1431655765 : Int32))) fun x2 =>
  aLet ((x2 &&& (858993459 : Int32)) + ((iUshr x2 (2 : Int32)) &&& (858993459 : Int32))) fun x3 =>
  aLet ((x3 + (iUshr x3 (4 : Int32))) &&& (252645135 : Int32)) fun x4 =>
  aLet (x4 + (iUshr x4 (8 : Int32))) fun x5 =>
  aLet (x5 + (iUshr x5 (16 : Int32))) fun x6 =>
  some (x6 &&& (63 : Int32), h0)
def m_X8_mostManned_L8 (x1 : Nat) (x2 : Nat) (x3 : Int32) (k52 : Int32 → aH → Option (Int32 × aH)) (r8 : Int32 → Int32 → aH → Option (Int32 × aH)) (x6 : Int32) (x7 : Int32) (h2 : aH) : Option (Int32 × aH) :=
  if x7 < (32 : Int32) then
    bO (ali h2 1 x2 (31 : Int32)) fun x8 =>
    bO (ali h2 1 x2 x7) fun x9 =>
    aLet (x8 - x9) fun x10 =>
    bO (gr h2 8 x1 11) fun x11 =>
    bO (ali h2 1 x11 x7) fun x12 =>
    bR (m_J6_bitCount_0f7a4 (x12 &&& x3) h2) fun x13 h3 =>
    aLet (iMin x6 (x10 + x13)) fun x14 =>
    aLet (x7 + (1 : Int32)) fun x15 =>
    r8 x14 x15 h3
  else
  k52 x6 h2
def m_X8_mostManned (x1 : Nat) (x2 : Nat) (x3 : Int32) (h0 : aH) : Option (Int32 × aH) :=
  bO (ali h0 1 x2 (31 : Int32)) fun x4 =>
  aJ (fun (x5 : Int32) (h1 : aH) =>
  some (x5, h1)) fun k52 =>
  aL2 (m_X8_mostManned_L8 x1 x2 x3 k52) FU x4 (0 : Int32) h0
def m_X10_isEngineOut (x1 : Nat) (x2 : Int32) (h0 : aH) : Option (Int32 × aH) :=
  bO (gr h0 10 x1 11) fun x3 =>
  bO (ali h0 1 x3 x2) fun x4 =>
  bO (gi h0 10 x1 1) fun x5 =>
  aJ (fun (x6 : Int32) (h1 : aH) =>
  bO (zO x6) fun x7 =>
  some (x7, h1)) fun k18 =>
  if x4 ≤ x5 then
    k18 (0 : Int32) h0
  else
  k18 (1 : Int32) h0
def m_X4_freeWithin_L4 (x1 : Nat) (x2 : Int32) (k48 : Int32 → aH → Option (Int32 × aH)) (r4 : Int32 → Int32 → aH → Option (Int32 × aH)) (x4 : Int32) (x5 : Int32) (h2 : aH) : Option (Int32 × aH) :=
  bO (gr h2 4 x1 1) fun x6 =>
  bO (gi h2 8 x6 1) fun x7 =>
  if x5 < x7 then
    bO (gi h2 4 x1 5) fun x8 =>
    bR (m_X11_has x8 x5 h2) fun x9 h3 =>
    aJ (fun (x10 : Int32) (h4 : aH) =>
    aLet (x5 + (1 : Int32)) fun x11 =>
    r4 x10 x11 h4) fun k42 =>
    if x9 = 0 then
      k42 x4 h3
    else
    bO (gr h3 4 x1 3) fun x12 =>
    bO (ali h3 1 x12 x5) fun x13 =>
    if x13 ≤ x2 then
      aLet (x4 ||| ((1 : Int32) <<< (x5 &&& 31))) fun x14 =>
      k42 x14 h3
    else
    k42 x4 h3
  else
  k48 x4 h2
def m_X4_freeWithin (x1 : Nat) (x2 : Int32) (h0 : aH) : Option (Int32 × aH) :=
  aJ (fun (x3 : Int32) (h1 : aH) =>
  some (x3, h1)) fun k48 =>
  aL2 (m_X4_freeWithin_L4 x1 x2 k48) FU (0 : Int32) (0 : Int32) h0
def m_X4_earliestDeparture_L6 (x1 : Nat) (x2 : Nat) (k75 : Int32 → aH → Option (Int32 × aH)) (r6 : Int32 → Int32 → aH → Option (Int32 × aH)) (x4 : Int32) (x5 : Int32) (h2 : aH) : Option (Int32 × aH) :=
  bO (gr h2 4 x1 1) fun x6 =>
  bO (gi h2 8 x6 1) fun x7 =>
  if x5 < x7 then
    bO (gr h2 4 x1 3) fun x8 =>
    bO (ali h2 1 x8 x5) fun x9 =>
    bO (gi h2 4 x1 5) fun x10 =>
    bR (m_X11_has x10 x5 h2) fun x11 h3 =>
    aJ (fun (x12 : Int32) (h4 : aH) =>
    aLet (x5 + (1 : Int32)) fun x13 =>
    r6 x12 x13 h4) fun k69 =>
    if x11 = 0 then
      k69 x4 h3
    else
    if x9 < x4 then
      bO (gr h3 4 x1 1) fun x14 =>
      bO (gr h3 1 x2 4) fun x15 =>
      gS h3 4 x1 <|
      bR (m_X4_freeWithin x1 x9 h3) fun x16 h5 =>
      gS h5 8 x14 <|
      bR (m_X8_mostManned x14 x15 x16 h5) fun x17 h6 =>
      bO (gi h6 1 x2 2) fun x18 =>
      if x17 = x18 then
        k69 x9 h6
      else
      k69 x4 h6
    else
    k69 x4 h3
  else
  k75 x4 h2
def m_X4_earliestDeparture (x1 : Nat) (x2 : Nat) (h0 : aH) : Option (Int32 × aH) :=
  aJ (fun (x3 : Int32) (h1 : aH) =>
  some (x3, h1)) fun k75 =>
  aL2 (m_X4_earliestDeparture_L6 x1 x2 k75) FU (1440 : Int32) (0 : Int32) h0
def m_X4_firstCrew_L8 (x1 : Nat) (x2 : Nat) (x3 : Int32) (k67 : Int32 → aH → Option (Int32 × aH)) (r8 : Int32 → Int32 → Int32 → aH → Option (Int32 × aH)) (x5 : Int32) (x6 : Int32) (x7 : Int32) (h2 : aH) : Option (Int32 × aH) :=
  bO (gr h2 4 x1 1) fun x8 =>
  bO (gi h2 8 x8 1) fun x9 =>
  if x7 < x9 then
    aLet (x5 ||| ((1 : Int32) <<< (x7 &&& 31))) fun x10 =>
    bR (m_X11_has x3 x7 h2) fun x11 h3 =>
    aJ (fun (x12 : Int32) (x13 : Int32) (h4 : aH) =>
    aLet (x7 + (1 : Int32)) fun x14 =>
    r8 x12 x13 x14 h4) fun k61 =>
    if x11 = 0 then
      k61 x5 x6 h3
    else
    bO (gr h3 4 x1 1) fun x15 =>
    bO (gr h3 1 x2 4) fun x16 =>
    gS h3 8 x15 <|
    bR (m_X8_mostManned x15 x16 x10 h3) fun x17 h5 =>
    if x17 ≤ x6 then
      k61 x5 x6 h5
    else
    aLet (x6 + (1 : Int32)) fun x18 =>
    k61 x10 x18 h5
  else
  k67 x5 h2
def m_X4_firstCrew (x1 : Nat) (x2 : Nat) (x3 : Int32) (h0 : aH) : Option (Int32 × aH) :=
  aJ (fun (x4 : Int32) (h1 : aH) =>
  some (x4, h1)) fun k67 =>
  aL3 (m_X4_firstCrew_L8 x1 x2 x3 k67) FU (0 : Int32) (0 : Int32) (0 : Int32) h0
def m_X4_lookAtEngine (x1 : Nat) (x2 : Int32) (x3 : Int32) (h0 : aH) : Option (Unit × aH) :=
  bO (gr h0 4 x1 1) fun x4 =>
  bO (gr h0 8 x4 8) fun x5 =>
  bO (alr h0 8 x5 x3) fun x6 =>
  bO (gr h0 4 x1 7) fun x7 =>
  bO (gr h0 4 x1 1) fun x8 =>
  bO (gr h0 1 x6 4) fun x9 =>
  bO (gi h0 4 x1 5) fun x10 =>
  gS h0 8 x8 <|
  bR (m_X8_mostManned x8 x9 x10 h0) fun x11 h1 =>
  bO (asi h1 x7 x2 x11) fun h2 =>
  bO (gr h2 4 x1 8) fun x12 =>
  bO (asi h2 x12 x2 (0 : Int32)) fun h3 =>
  bO (gr h3 4 x1 9) fun x13 =>
  bO (asi h3 x13 x2 (0 : Int32)) fun h4 =>
  bO (gr h4 4 x1 0) fun x14 =>
  bO (gi h4 10 x14 13) fun x15 =>
  bR (m_X11_has x15 x3 h4) fun x16 h5 =>
  aJ (fun (h6 : aH) =>
  some ((), h6)) fun k169 =>
  if x16 = 0 then
    bO (gr h5 4 x1 6) fun x17 =>
    bO (asi h5 x17 x2 (1 : Int32)) fun h7 =>
    k169 h7
  else
  bO (gr h5 4 x1 0) fun x18 =>
  gS h5 10 x18 <|
  bR (m_X10_isEngineOut x18 x3 h5) fun x19 h8 =>
  if x19 = 0 then
    bO (gr h8 4 x1 7) fun x20 =>
    bO (ali h8 1 x20 x2) fun x21 =>
    bO (gi h8 1 x6 2) fun x22 =>
    if x21 < x22 then
      bO (gr h8 4 x1 6) fun x23 =>
      bO (asi h8 x23 x2 (3 : Int32)) fun h9 =>
      k169 h9
    else
    bO (gr h8 4 x1 6) fun x24 =>
    bO (asi h8 x24 x2 (0 : Int32)) fun h10 =>
    bO (gr h10 4 x1 9) fun x25 =>
    gS h10 4 x1 <|
    bR (m_X4_earliestDeparture x1 x6 h10) fun x26 h11 =>
    bO (asi h11 x25 x2 x26) fun h12 =>
    bO (gr h12 4 x1 8) fun x27 =>
    bO (gr h12 4 x1 9) fun x28 =>
    bO (ali h12 1 x28 x2) fun x29 =>
    gS h12 4 x1 <|
    bR (m_X4_freeWithin x1 x29 h12) fun x30 h13 =>
    gS h13 4 x1 <|
    bR (m_X4_firstCrew x1 x6 x30 h13) fun x31 h14 =>
    bO (asi h14 x27 x2 x31) fun h15 =>
    bO (gi h15 4 x1 5) fun x32 =>
    bO (gr h15 4 x1 8) fun x33 =>
    bO (ali h15 1 x33 x2) fun x34 =>
    bO (pi h15 4 x1 5 (x32 &&& (x34 ^^^ (-1 : Int32)))) fun h16 =>
    k169 h16
  else
  bO (gr h8 4 x1 6) fun x35 =>
  bO (asi h8 x35 x2 (2 : Int32)) fun h17 =>
  k169 h17
def m_X4_foresee_L31 (x1 : Nat) (x3 : Nat) (k72 : Int32 → aH → Option (Int32 × aH)) (r31 : Int32 → Int32 → aH → Option (Int32 × aH)) (x10 : Int32) (x11 : Int32) (h7 : aH) : Option (Int32 × aH) :=
  bO (gi h7 3 x3 6) fun x12 =>
  if x11 < x12 then
    bO (gr h7 3 x3 7) fun x13 =>
    bO (ali h7 1 x13 x11) fun x14 =>
    gS h7 4 x1 <|
    bR (m_X4_lookAtEngine x1 x11 x14 h7) fun _ h8 =>
    bO (gr h8 4 x1 6) fun x15 =>
    bO (ali h8 1 x15 x11) fun x16 =>
    aJ (fun (x17 : Int32) (h9 : aH) =>
    aLet (x11 + (1 : Int32)) fun x18 =>
    r31 x17 x18 h9) fun k66 =>
    if x16 = 0 then
      aLet (x10 + (1 : Int32)) fun x19 =>
      k66 x19 h8
    else
    k66 x10 h8
  else
  k72 x10 h7
def m_X4_foresee (x1 : Nat) (x2 : Nat) (x3 : Nat) (h0 : aH) : Option (Int32 × aH) :=
  bO (pr h0 4 x1 0 x2) fun h1 =>
  bO (gr h1 10 x2 0) fun x4 =>
  bO (pr h1 4 x1 1 x4) fun h2 =>
  gS h2 4 x1 <|
  bR (m_X4_alert x1 x3 h2) fun _ h3 =>
  bO (gi h3 4 x1 4) fun x5 =>
  bO (pi h3 4 x1 5 x5) fun h4 =>
  aJ (fun (x6 : Int32) (h5 : aH) =>
  bO (gi h5 3 x3 3) fun x7 =>
  aJ (fun (x8 : Int32) (h6 : aH) =>
  bO (zO x8) fun x9 =>
  some (x9, h6)) fun k85 =>
  if x6 < x7 then
    k85 (0 : Int32) h5
  else
  k85 (1 : Int32) h5) fun k72 =>
  aL2 (m_X4_foresee_L31 x1 x3 k72) FU (0 : Int32) (0 : Int32) h4
def m_X4_lowestFor_L11 (x1 : Nat) (x2 : Int32) (x3 : Int32) (x5 : Int32) (k74 : aH → Option (Int32 × aH)) (k65 : Int32 → aH → Option (Int32 × aH)) (r11 : Int32 → aH → Option (Int32 × aH)) (x7 : Int32) (h3 : aH) : Option (Int32 × aH) :=
  bO (gr h3 4 x1 1) fun x8 =>
  bO (gi h3 8 x8 1) fun x9 =>
  if x7 < x9 then
    bO (gr h3 4 x1 1) fun x10 =>
    bO (gr h3 8 x10 11) fun x11 =>
    bO (ali h3 1 x11 x2) fun x12 =>
    bR (m_X11_has (x3 &&& x12) x7 h3) fun x13 h4 =>
    aJ (fun (h5 : aH) =>
    aLet (x7 + (1 : Int32)) fun x14 =>
    r11 x14 h5) fun k68 =>
    if x13 = 0 then
      k68 h4
    else
    bO (gr h4 4 x1 1) fun x15 =>
    bO (gr h4 4 x1 10) fun x16 =>
    gS h4 8 x15 <|
    bR (m_X8_mostManned x15 x16 (x3 &&& (((1 : Int32) <<< (x7 &&& 31)) ^^^ (-1 : Int32))) h4) fun x17 h6 =>
    if x17 = x5 then
      k65 x7 h6
    else
    k68 h6
  else
  k74 h3
def m_X4_lowestFor (x1 : Nat) (x2 : Int32) (x3 : Int32) (h0 : aH) : Option (Int32 × aH) :=
  bO (gr h0 4 x1 10) fun x4 =>
  bO (ali h0 1 x4 (31 : Int32)) fun x5 =>
  aJ (fun (h1 : aH) =>
  some ((-1 : Int32), h1)) fun k74 =>
  aJ (fun (x6 : Int32) (h2 : aH) =>
  some (x6, h2)) fun k65 =>
  aL1 (m_X4_lowestFor_L11 x1 x2 x3 x5 k74 k65) FU (0 : Int32) h0
def m_X4_personAt_L47 (x1 : Nat) (x13 : Int32) (k83 : aH → Option (Int32 × aH)) (r47 : Int32 → aH → Option (Int32 × aH)) (x18 : Int32) (h7 : aH) : Option (Int32 × aH) :=
  if x18 < (32 : Int32) then
    bO (gr h7 4 x1 10) fun x19 =>
    bO (ali h7 1 x19 x18) fun x20 =>
    aJ (fun (x21 : Int32) (h8 : aH) =>
    bO (asi h8 x19 x18 (x20 - x21)) fun h9 =>
    aLet (x18 + (1 : Int32)) fun x22 =>
    r47 x22 h9) fun k75 =>
    if (x18 &&& x13) = 0 then
      k75 (0 : Int32) h7
    else
    k75 (1 : Int32) h7
  else
  k83 h7
def m_X4_personAt_L20 (x1 : Nat) (x2 : Nat) (x4 : Int32) (k116 : Int32 → aH → Option (Int32 × aH)) (r20 : Int32 → Int32 → Int32 → aH → Option (Int32 × aH)) (x8 : Int32) (x9 : Int32) (x10 : Int32) (h3 : aH) : Option (Int32 × aH) :=
  if x10 ≤ x4 then
    bO (gi h3 1 x2 2) fun x11 =>
    if x10 < x11 then
      bO (gr h3 1 x2 3) fun x12 =>
      bO (ali h3 1 x12 x10) fun x13 =>
      aJ (fun (h4 : aH) =>
      gS h4 4 x1 <|
      bR (m_X4_lowestFor x1 x13 x8 h4) fun x14 h5 =>
      aJ (fun (x15 : Int32) (h6 : aH) =>
      aLet (x10 + (1 : Int32)) fun x16 =>
      r20 x15 x14 x16 h6) fun k110 =>
      if x14 = (-1 : Int32) then
        k110 x8 h5
      else
      aLet (x8 &&& (((1 : Int32) <<< (x14 &&& 31)) ^^^ (-1 : Int32))) fun x17 =>
      k110 x17 h5) fun k83 =>
      aL1 (m_X4_personAt_L47 x1 x13 k83) FU (0 : Int32) h3
    else
    k116 x9 h3
  else
  k116 x9 h3
def m_X4_personAt (x1 : Nat) (x2 : Nat) (x3 : Int32) (x4 : Int32) (h0 : aH) : Option (Int32 × aH) :=
  bO (gr h0 1 x2 4) fun x5 =>
  bO (gr h0 4 x1 10) fun x6 =>
  bR (m_X11_copyAll x5 x6 h0) fun _ h1 =>
  aJ (fun (x7 : Int32) (h2 : aH) =>
  some (x7, h2)) fun k116 =>
  aL3 (m_X4_personAt_L20 x1 x2 x4 k116) FU x3 (-1 : Int32) (0 : Int32) h1
def m_J7_fill_53178_L5 (x1 : Nat) (x2 : Int32) (x3 : Int32) (k20 : aH → Option (Unit × aH)) (r5 : Int32 → aH → Option (Unit × aH)) (x4 : Int32) (h2 : aH) : Option (Unit × aH) :=
  if x4 < x3 then
    bO (asi h2 x1 x4 x2) fun h3 =>
    aLet (x4 + (1 : Int32)) fun x5 =>
    r5 x5 h3
  else
  k20 h2
def m_J7_fill_53178 (x1 : Nat) (x2 : Int32) (h0 : aH) : Option (Unit × aH) :=
  bO (aln h0 x1) fun x3 =>
  aJ (fun (h1 : aH) =>
  some ((), h1)) fun k20 =>
  aL1 (m_J7_fill_53178_L5 x1 x2 x3 k20) FU (0 : Int32) h0
def m_X4_couldLeaveTogether_L67 (x1 : Nat) (k98 : aH → Option (Int32 × aH)) (x25 : Nat) (r67 : Int32 → aH → Option (Int32 × aH)) (x26 : Int32) (h9 : aH) : Option (Int32 × aH) :=
  if x26 < (32 : Int32) then
    bO (gr h9 4 x1 10) fun x27 =>
    bO (ali h9 1 x27 x26) fun x28 =>
    bO (gr h9 1 x25 4) fun x29 =>
    bO (ali h9 1 x29 x26) fun x30 =>
    bO (asi h9 x27 x26 (x28 + x30)) fun h10 =>
    aLet (x26 + (1 : Int32)) fun x31 =>
    r67 x31 h10
  else
  k98 h9
def m_X4_couldLeaveTogether_L10 (x1 : Nat) (x2 : Nat) (x3 : Int32) (k104 : aH → Option (Int32 × aH)) (k46 : aH → Option (Int32 × aH)) (r10 : Int32 → aH → Option (Int32 × aH)) (x13 : Int32) (h6 : aH) : Option (Int32 × aH) :=
  bO (gi h6 3 x2 6) fun x14 =>
  if x13 < x14 then
    bR (m_X11_has x3 x13 h6) fun x15 h7 =>
    aJ (fun (h8 : aH) =>
    aLet (x13 + (1 : Int32)) fun x16 =>
    r10 x16 h8) fun k98 =>
    if x15 = 0 then
      k98 h7
    else
    bO (gr h7 4 x1 6) fun x17 =>
    bO (ali h7 1 x17 x13) fun x18 =>
    if x18 = (1 : Int32) then
      k46 h7
    else
    bO (gr h7 4 x1 6) fun x19 =>
    bO (ali h7 1 x19 x13) fun x20 =>
    if x20 = (2 : Int32) then
      k46 h7
    else
    bO (gr h7 4 x1 1) fun x21 =>
    bO (gr h7 8 x21 8) fun x22 =>
    bO (gr h7 3 x2 7) fun x23 =>
    bO (ali h7 1 x23 x13) fun x24 =>
    bO (alr h7 8 x22 x24) fun x25 =>
    aL1 (m_X4_couldLeaveTogether_L67 x1 k98 x25) FU (0 : Int32) h7
  else
  k104 h6
def m_X4_couldLeaveTogether (x1 : Nat) (x2 : Nat) (x3 : Int32) (h0 : aH) : Option (Int32 × aH) :=
  bO (gr h0 4 x1 10) fun x4 =>
  bR (m_J7_fill_53178 x4 (0 : Int32) h0) fun _ h1 =>
  aJ (fun (h2 : aH) =>
  bO (gr h2 4 x1 1) fun x5 =>
  bO (gr h2 4 x1 10) fun x6 =>
  bO (gi h2 4 x1 4) fun x7 =>
  gS h2 8 x5 <|
  bR (m_X8_mostManned x5 x6 x7 h2) fun x8 h3 =>
  bO (gr h3 4 x1 10) fun x9 =>
  bO (ali h3 1 x9 (31 : Int32)) fun x10 =>
  aJ (fun (x11 : Int32) (h4 : aH) =>
  bO (zO x11) fun x12 =>
  some (x12, h4)) fun k134 =>
  if x8 = x10 then
    k134 (1 : Int32) h3
  else
  k134 (0 : Int32) h3) fun k104 =>
  aJ (fun (h5 : aH) =>
  some ((0 : Int32), h5)) fun k46 =>
  aL1 (m_X4_couldLeaveTogether_L10 x1 x2 x3 k104 k46) FU (0 : Int32) h1
def m_X4_mostTogether_L4 (x1 : Nat) (x2 : Nat) (k42 : Int32 → aH → Option (Int32 × aH)) (r4 : Int32 → Int32 → aH → Option (Int32 × aH)) (x4 : Int32) (x5 : Int32) (h2 : aH) : Option (Int32 × aH) :=
  bO (gi h2 3 x2 6) fun x6 =>
  if x5 < ((1 : Int32) <<< (x6 &&& 31)) then
    bR (m_J6_bitCount_0f7a4 x5 h2) fun x7 h3 =>
    aJ (fun (x8 : Int32) (h4 : aH) =>
    aLet (x5 + (1 : Int32)) fun x9 =>
    r4 x8 x9 h4) fun k36 =>
    if x7 ≤ x4 then
      k36 x4 h3
    else
    gS h3 4 x1 <|
    bR (m_X4_couldLeaveTogether x1 x2 x5 h3) fun x10 h5 =>
    if x10 = 0 then
      k36 x4 h5
    else
    bR (m_J6_bitCount_0f7a4 x5 h5) fun x11 h6 =>
    k36 x11 h6
  else
  k42 x4 h2
def m_X4_mostTogether (x1 : Nat) (x2 : Nat) (h0 : aH) : Option (Int32 × aH) :=
  aJ (fun (x3 : Int32) (h1 : aH) =>
  some (x3, h1)) fun k42 =>
  aL2 (m_X4_mostTogether_L4 x1 x2 k42) FU (0 : Int32) (0 : Int32) h0
def m_X10_chainPerson (x1 : Nat) (x2 : Int32) (x3 : Int32) (h0 : aH) : Option (Int32 × aH) :=
  if x3 ≤ 0 then
    bO (gr h0 10 x1 7) fun x4 =>
    bO (gi h0 10 x1 1) fun x5 =>
    gS h0 10 x1 <|
    bR (m_X10_placeAt x1 x2 x5 h0) fun x6 h1 =>
    bO (ali h1 1 x4 ((x2 * (8 : Int32)) + x6)) fun x7 =>
    some (x7, h1)
  else
  bO (gr h0 10 x1 9) fun x8 =>
  bO (ali h0 1 x8 (((x2 * (3 : Int32)) + x3) - (1 : Int32))) fun x9 =>
  some (x9, h0)
def m_X11_pair (x1 : Int32) (x2 : Int32) (h0 : aH) : Option (Int32 × aH) :=
  some ((x1 * (12 : Int32)) + x2, h0)
def m_X10_shiftTrust (x1 : Nat) (x2 : Int32) (x3 : Int32) (x4 : Int32) (h0 : aH) : Option (Unit × aH) :=
  bO (gr h0 10 x1 6) fun x5 =>
  bR (m_X11_pair x2 x3 h0) fun x6 h1 =>
  bO (ali h1 1 x5 x6) fun x7 =>
  aLet (x7 + x4) fun x8 =>
  aJ (fun (h2 : aH) =>
  some ((), h2)) fun k38 =>
  if x8 < 0 then
    k38 h1
  else
  if x8 ≤ (9 : Int32) then
    bO (gr h1 10 x1 6) fun x9 =>
    bR (m_X11_pair x2 x3 h1) fun x10 h3 =>
    bO (asi h3 x9 x10 x8) fun h4 =>
    k38 h4
  else
  k38 h1
def m_X4_loseTrust_L2 (x1 : Nat) (x2 : Nat) (k83 : aH → Option (Unit × aH)) (r2 : Int32 → aH → Option (Unit × aH)) (x3 : Int32) (h2 : aH) : Option (Unit × aH) :=
  bO (gi h2 3 x2 4) fun x4 =>
  if x3 < x4 then
    bO (gr h2 3 x2 5) fun x5 =>
    bO (ali h2 1 x5 x3) fun x6 =>
    bO (gr h2 4 x1 0) fun x7 =>
    bO (gr h2 10 x7 8) fun x8 =>
    bO (ali h2 1 x8 x6) fun x9 =>
    aJ (fun (h3 : aH) =>
    aLet (x3 + (1 : Int32)) fun x10 =>
    r2 x10 h3) fun k77 =>
    if x9 ≤ 0 then
      k77 h2
    else
    bO (gr h2 4 x1 0) fun x11 =>
    gS h2 10 x11 <|
    bR (m_X10_chainPerson x11 x6 x9 h2) fun x12 h4 =>
    bO (gr h4 4 x1 2) fun x13 =>
    bO (ali h4 1 x13 x12) fun x14 =>
    if x14 = 0 then
      k77 h4
    else
    bO (gr h4 4 x1 0) fun x15 =>
    bO (gr h4 4 x1 0) fun x16 =>
    gS h4 10 x16 <|
    bR (m_X10_chainPerson x16 x6 (x9 - (1 : Int32)) h4) fun x17 h5 =>
    gS h5 10 x15 <|
    bR (m_X10_shiftTrust x15 x17 x12 (-1 : Int32) h5) fun _ h6 =>
    k77 h6
  else
  k83 h2
def m_X4_loseTrust (x1 : Nat) (x2 : Nat) (h0 : aH) : Option (Unit × aH) :=
  aJ (fun (h1 : aH) =>
  some ((), h1)) fun k83 =>
  aL1 (m_X4_loseTrust_L2 x1 x2 k83) FU (0 : Int32) h0
def m_X5_minutesBefore (x1 : Nat) (x2 : Int32) (h0 : aH) : Option (Int32 × aH) :=
  bO (rmI x2 (1440 : Int32)) fun x3 =>
  bO (gi h0 5 x1 0) fun x4 =>
  aLet (iMax (0 : Int32) (x3 - ((60 : Int32) * x4))) fun x5 =>
  bO (gi h0 5 x1 0) fun x6 =>
  bO (gi h0 5 x1 1) fun x7 =>
  if x6 < x7 then
    bO (gi h0 5 x1 1) fun x8 =>
    bO (gi h0 5 x1 0) fun x9 =>
    aLet ((60 : Int32) * (x8 - x9)) fun x10 =>
    bO (dvI x2 (1440 : Int32)) fun x11 =>
    some ((x11 * x10) + (iMin x5 x10), h0)
  else
  bO (gi h0 5 x1 0) fun x12 =>
  bO (gi h0 5 x1 1) fun x13 =>
  aLet ((60 : Int32) * (((24 : Int32) - x12) + x13)) fun x14 =>
  bO (dvI x2 (1440 : Int32)) fun x15 =>
  bO (gi h0 5 x1 1) fun x16 =>
  some (((x15 * x14) + (iMin x3 ((60 : Int32) * x16))) + x5, h0)
def m_X5_minutesIn (x1 : Nat) (x2 : Int32) (x3 : Int32) (h0 : aH) : Option (Int32 × aH) :=
  gS h0 5 x1 <|
  bR (m_X5_minutesBefore x1 x3 h0) fun x4 h1 =>
  gS h1 5 x1 <|
  bR (m_X5_minutesBefore x1 x2 h1) fun x5 h2 =>
  some (x4 - x5, h2)
def m_X10_sendAway (x1 : Nat) (x2 : Int32) (x3 : Int32) (h0 : aH) : Option (Int32 × aH) :=
  bO (gr h0 10 x1 3) fun x4 =>
  bO (asi h0 x4 x2 x3) fun h1 =>
  bO (gi h1 10 x1 1) fun x5 =>
  bO (gr h1 10 x1 0) fun x6 =>
  bO (gr h1 8 x6 0) fun x7 =>
  bO (gi h1 10 x1 1) fun x8 =>
  gS h1 5 x7 <|
  bR (m_X5_minutesIn x7 x8 x3 h1) fun x9 h2 =>
  aLet ((x3 - x5) + x9) fun x10 =>
  bO (gr h2 10 x1 4) fun x11 =>
  bO (ali h2 1 x11 x2) fun x12 =>
  bO (asi h2 x11 x2 (x12 + x10)) fun h3 =>
  some (x10, h3)
def m_X4_sendEngine_L98 (x1 : Nat) (x3 : Int32) (x16 : Int32) (k146 : Int32 → aH → Option (Int32 × aH)) (r98 : Int32 → Int32 → aH → Option (Int32 × aH)) (x28 : Int32) (x29 : Int32) (h5 : aH) : Option (Int32 × aH) :=
  bO (gr h5 4 x1 1) fun x30 =>
  bO (gi h5 8 x30 1) fun x31 =>
  if x29 < x31 then
    bO (gr h5 4 x1 8) fun x32 =>
    bO (ali h5 1 x32 x3) fun x33 =>
    bR (m_X11_has x33 x29 h5) fun x34 h6 =>
    aJ (fun (x35 : Int32) (h7 : aH) =>
    aLet (x29 + (1 : Int32)) fun x36 =>
    r98 x35 x36 h7) fun k140 =>
    if x34 = 0 then
      k140 x28 h6
    else
    bO (gr h6 4 x1 0) fun x37 =>
    gS h6 10 x37 <|
    bR (m_X10_sendAway x37 x29 x16 h6) fun x38 h8 =>
    aLet (x28 + x38) fun x39 =>
    k140 x39 h8
  else
  k146 x28 h5
def m_X4_sendEngine (x1 : Nat) (x2 : Nat) (x3 : Int32) (h0 : aH) : Option (Int32 × aH) :=
  bO (gr h0 3 x2 7) fun x4 =>
  bO (ali h0 1 x4 x3) fun x5 =>
  bO (gr h0 4 x1 0) fun x6 =>
  bO (gi h0 10 x6 1) fun x7 =>
  bO (gr h0 4 x1 9) fun x8 =>
  bO (ali h0 1 x8 x3) fun x9 =>
  aLet (x7 + x9) fun x10 =>
  bO (gr h0 4 x1 1) fun x11 =>
  bO (gr h0 8 x11 8) fun x12 =>
  bO (alr h0 8 x12 x5) fun x13 =>
  bO (gi h0 1 x13 1) fun x14 =>
  bO (gi h0 3 x2 1) fun x15 =>
  aLet ((x10 + ((2 : Int32) * x14)) + x15) fun x16 =>
  bO (gr h0 4 x1 0) fun x17 =>
  bO (gr h0 10 x17 11) fun x18 =>
  bO (asi h0 x18 x5 x16) fun h1 =>
  bO (gr h1 4 x1 0) fun x19 =>
  bO (gr h1 10 x19 12) fun x20 =>
  bO (gr h1 4 x1 8) fun x21 =>
  bO (ali h1 1 x21 x3) fun x22 =>
  bO (asi h1 x20 x5 x22) fun h2 =>
  bO (gr h2 4 x1 0) fun x23 =>
  bO (gr h2 10 x23 14) fun x24 =>
  bO (gr h2 4 x1 8) fun x25 =>
  bO (ali h2 1 x25 x3) fun x26 =>
  gS h2 0 x24 <|
  bR (m_X0_addLeaver x24 x5 x10 x26 h2) fun _ h3 =>
  aJ (fun (x27 : Int32) (h4 : aH) =>
  some (x27, h4)) fun k146 =>
  aL2 (m_X4_sendEngine_L98 x1 x3 x16 k146) FU (0 : Int32) (0 : Int32) h3
def m_X4_carryOut_L73 (x1 : Nat) (k148 : Int32 → aH → Option (Int32 × aH)) (r73 : Int32 → Int32 → aH → Option (Int32 × aH)) (x15 : Int32) (x16 : Int32) (h8 : aH) : Option (Int32 × aH) :=
  bO (gr h8 4 x1 1) fun x17 =>
  bO (gi h8 8 x17 1) fun x18 =>
  if x16 < x18 then
    bO (gi h8 4 x1 5) fun x19 =>
    bR (m_X11_has x19 x16 h8) fun x20 h9 =>
    aJ (fun (x21 : Int32) (h10 : aH) =>
    aLet (x16 + (1 : Int32)) fun x22 =>
    r73 x21 x22 h10) fun k142 =>
    if x20 = 0 then
      k142 x15 h9
    else
    bO (gr h9 4 x1 3) fun x23 =>
    bO (ali h9 1 x23 x16) fun x24 =>
    bO (gr h9 4 x1 1) fun x25 =>
    bO (gr h9 8 x25 2) fun x26 =>
    bO (alr h9 6 x26 x16) fun x27 =>
    bO (gi h9 7 x27 1) fun x28 =>
    aLet (x24 + x28) fun x29 =>
    bO (gr h9 4 x1 0) fun x30 =>
    bO (gr h9 4 x1 0) fun x31 =>
    bO (gi h9 10 x31 1) fun x32 =>
    gS h9 10 x30 <|
    bR (m_X10_sendAway x30 x16 (x32 + x29) h9) fun x33 h11 =>
    aLet (x15 + x33) fun x34 =>
    k142 x34 h11
  else
  k148 x15 h8
def m_X4_carryOut_L29 (x1 : Nat) (x2 : Nat) (k70 : Int32 → Int32 → aH → Option (Int32 × aH)) (r29 : Int32 → Int32 → Int32 → aH → Option (Int32 × aH)) (x35 : Int32) (x36 : Int32) (x37 : Int32) (h12 : aH) : Option (Int32 × aH) :=
  bO (gi h12 3 x2 6) fun x38 =>
  if x37 < x38 then
    bO (gr h12 4 x1 6) fun x39 =>
    bO (ali h12 1 x39 x37) fun x40 =>
    aJ (fun (x41 : Int32) (x42 : Int32) (h13 : aH) =>
    aLet (x37 + (1 : Int32)) fun x43 =>
    r29 x41 x42 x43 h13) fun k64 =>
    if x40 = 0 then
      gS h12 4 x1 <|
      bR (m_X4_sendEngine x1 x2 x37 h12) fun x44 h14 =>
      aLet (x35 + ((50 : Int32) + x44)) fun x45 =>
      aLet (x36 + (1 : Int32)) fun x46 =>
      k64 x45 x46 h14
    else
    k64 x35 x36 h12
  else
  k70 x35 x36 h12
def m_X4_carryOut (x1 : Nat) (x2 : Nat) (h0 : aH) : Option (Int32 × aH) :=
  gS h0 4 x1 <|
  bR (m_X4_loseTrust x1 x2 h0) fun _ h1 =>
  bO (gr h1 4 x1 0) fun x3 =>
  bO (gr h1 10 x3 14) fun x4 =>
  bO (gi h1 4 x1 4) fun x5 =>
  bR (m_J6_bitCount_0f7a4 x5 h1) fun x6 h2 =>
  gS h2 0 x4 <|
  bR (m_X0_open x4 x6 h2) fun _ h3 =>
  aJ (fun (x7 : Int32) (x8 : Int32) (h4 : aH) =>
  aJ (fun (x9 : Int32) (h5 : aH) =>
  bO (gr h5 4 x1 0) fun x10 =>
  bO (gr h5 10 x10 14) fun x11 =>
  bO (gi h5 3 x2 3) fun x12 =>
  aJ (fun (x13 : Int32) (h6 : aH) =>
  gS h6 0 x11 <|
  bR (m_X0_close x11 x9 x13 h6) fun x14 h7 =>
  some (x14, h7)) fun k169 =>
  if x8 < x12 then
    k169 (0 : Int32) h5
  else
  k169 (1 : Int32) h5) fun k148 =>
  aL2 (m_X4_carryOut_L73 x1 k148) FU x7 (0 : Int32) h4) fun k70 =>
  aL3 (m_X4_carryOut_L29 x1 x2 k70) FU (0 : Int32) (0 : Int32) (0 : Int32) h3
def m_X5_init (x1 : Nat) (h0 : aH) : Option (Unit × aH) :=
  some ((), h0)
def m_X5_set (x1 : Nat) (x2 : Int32) (x3 : Int32) (x4 : Int32) (x5 : Int32) (h0 : aH) : Option (Unit × aH) :=
  bO (pi h0 5 x1 0 x2) fun h1 =>
  bO (pi h1 5 x1 1 x3) fun h2 =>
  bO (pi h2 5 x1 2 x4) fun h3 =>
  bO (pi h3 5 x1 3 x5) fun h4 =>
  some ((), h4)
def m_X6_init (x1 : Nat) (h0 : aH) : Option (Unit × aH) :=
  bN h0 1 8 fun x2 h1 =>
  bO (pr h1 6 x1 4 x2) fun h2 =>
  some ((), h2)
def m_X7_init (x1 : Nat) (h0 : aH) : Option (Unit × aH) :=
  some ((), h0)
def m_X8_init_L149 (x1 : Nat) (k174 : aH → Option (Unit × aH)) (r149 : Int32 → aH → Option (Unit × aH)) (x9 : Int32) (h20 : aH) : Option (Unit × aH) :=
  if x9 < (6 : Int32) then
    bO (gr h20 8 x1 10) fun x10 =>
    bN h20 13 8 fun x11 h21 =>
    bR (m_X3_init x11 h21) fun _ h22 =>
    bO (asr h22 9 3 x10 x9 x11) fun h23 =>
    aLet (x9 + (1 : Int32)) fun x12 =>
    r149 x12 h23
  else
  k174 h20
def m_X8_init_L123 (x1 : Nat) (k147 : aH → Option (Unit × aH)) (r123 : Int32 → aH → Option (Unit × aH)) (x13 : Int32) (h24 : aH) : Option (Unit × aH) :=
  if x13 < (5 : Int32) then
    bO (gr h24 8 x1 8) fun x14 =>
    bN h24 11 5 fun x15 h25 =>
    bR (m_X1_init x15 h25) fun _ h26 =>
    bO (asr h26 8 1 x14 x13 x15) fun h27 =>
    aLet (x13 + (1 : Int32)) fun x16 =>
    r123 x16 h27
  else
  k147 h24
def m_X8_init_L96 (x1 : Nat) (k121 : aH → Option (Unit × aH)) (r96 : Int32 → aH → Option (Unit × aH)) (x17 : Int32) (h28 : aH) : Option (Unit × aH) :=
  if x17 < (6 : Int32) then
    bO (gr h28 8 x1 6) fun x18 =>
    bN h28 16 5 fun x19 h29 =>
    bR (m_X6_init x19 h29) fun _ h30 =>
    bO (asr h30 7 6 x18 x17 x19) fun h31 =>
    aLet (x17 + (1 : Int32)) fun x20 =>
    r96 x20 h31
  else
  k121 h28
def m_X8_init_L69 (x1 : Nat) (k94 : aH → Option (Unit × aH)) (r69 : Int32 → aH → Option (Unit × aH)) (x21 : Int32) (h32 : aH) : Option (Unit × aH) :=
  if x21 < (12 : Int32) then
    bO (gr h32 8 x1 2) fun x22 =>
    bN h32 17 3 fun x23 h33 =>
    bR (m_X7_init x23 h33) fun _ h34 =>
    bO (asr h34 6 7 x22 x21 x23) fun h35 =>
    aLet (x21 + (1 : Int32)) fun x24 =>
    r69 x24 h35
  else
  k94 h32
def m_X8_init (x1 : Nat) (h0 : aH) : Option (Unit × aH) :=
  bN h0 15 4 fun x2 h1 =>
  bR (m_X5_init x2 h1) fun _ h2 =>
  bO (pr h2 8 x1 0 x2) fun h3 =>
  bN h3 6 12 fun x3 h4 =>
  bO (pr h4 8 x1 2 x3) fun h5 =>
  bN h5 1 144 fun x4 h6 =>
  bO (pr h6 8 x1 4 x4) fun h7 =>
  bN h7 7 6 fun x5 h8 =>
  bO (pr h8 8 x1 6 x5) fun h9 =>
  bN h9 8 5 fun x6 h10 =>
  bO (pr h10 8 x1 8 x6) fun h11 =>
  bN h11 9 6 fun x7 h12 =>
  bO (pr h12 8 x1 10 x7) fun h13 =>
  bN h13 1 32 fun x8 h14 =>
  bO (pr h14 8 x1 11 x8) fun h15 =>
  aJ (fun (h16 : aH) =>
  aJ (fun (h17 : aH) =>
  aJ (fun (h18 : aH) =>
  aJ (fun (h19 : aH) =>
  some ((), h19)) fun k174 =>
  aL1 (m_X8_init_L149 x1 k174) FU (0 : Int32) h18) fun k147 =>
  aL1 (m_X8_init_L123 x1 k147) FU (0 : Int32) h17) fun k121 =>
  aL1 (m_X8_init_L96 x1 k121) FU (0 : Int32) h16) fun k94 =>
  aL1 (m_X8_init_L69 x1 k94) FU (0 : Int32) h15
def m_X8_clear (x1 : Nat) (h0 : aH) : Option (Unit × aH) :=
  bO (pi h0 8 x1 1 (0 : Int32)) fun h1 =>
  bO (pi h1 8 x1 3 (0 : Int32)) fun h2 =>
  bO (gr h2 8 x1 4) fun x2 =>
  bR (m_J7_fill_53178 x2 (-1 : Int32) h2) fun _ h3 =>
  bO (pi h3 8 x1 5 (0 : Int32)) fun h4 =>
  bO (pi h4 8 x1 7 (0 : Int32)) fun h5 =>
  bO (pi h5 8 x1 9 (0 : Int32)) fun h6 =>
  bO (gr h6 8 x1 11) fun x3 =>
  bR (m_J7_fill_53178 x3 (0 : Int32) h6) fun _ h7 =>
  some ((), h7)
def m_X8_sizeOf (x1 : Nat) (x2 : Int32) (h0 : aH) : Option (Int32 × aH) :=
  swO x2 0
    (bO (gi h0 8 x1 1) fun x3 =>
    some (x3, h0)) <|
  swO x2 1
    (bO (gi h0 8 x1 5) fun x4 =>
    some (x4, h0)) <|
  swO x2 2
    (bO (gi h0 8 x1 7) fun x5 =>
    some (x5, h0)) <|
  bO (gi h0 8 x1 9) fun x6 =>
  some (x6, h0)
def m_X8_nameOf (x1 : Nat) (x2 : Int32) (x3 : Int32) (h0 : aH) : Option (Int64 × aH) :=
  swO x2 0
    (bO (gr h0 8 x1 2) fun x4 =>
    bO (alr h0 6 x4 x3) fun x5 =>
    bO (gL h0 7 x5 0) fun x6 =>
    some (x6, h0)) <|
  swO x2 1
    (bO (gr h0 8 x1 6) fun x7 =>
    bO (alr h0 7 x7 x3) fun x8 =>
    bO (gL h0 6 x8 0) fun x9 =>
    some (x9, h0)) <|
  swO x2 2
    (bO (gr h0 8 x1 8) fun x10 =>
    bO (alr h0 8 x10 x3) fun x11 =>
    bO (gL h0 1 x11 0) fun x12 =>
    some (x12, h0)) <|
  bO (gr h0 8 x1 10) fun x13 =>
  bO (alr h0 9 x13 x3) fun x14 =>
  bO (gL h0 3 x14 0) fun x15 =>
  some (x15, h0)
def m_X8_numberOf_L3 (x1 : Nat) (x2 : Int32) (x3 : Int64) (k34 : aH → Option (Int32 × aH)) (k25 : Int32 → aH → Option (Int32 × aH)) (r3 : Int32 → aH → Option (Int32 × aH)) (x5 : Int32) (h3 : aH) : Option (Int32 × aH) :=
  gS h3 8 x1 <|
  bR (m_X8_sizeOf x1 x2 h3) fun x6 h4 =>
  if x5 < x6 then
    gS h4 8 x1 <|
    bR (m_X8_nameOf x1 x2 x5 h4) fun x7 h5 =>
    if (lg_cmp x7 x3) = 0 then
      k25 x5 h5
    else
    aLet (x5 + (1 : Int32)) fun x8 =>
    r3 x8 h5
  else
  k34 h4
def m_X8_numberOf (x1 : Nat) (x2 : Int32) (x3 : Int64) (h0 : aH) : Option (Int32 × aH) :=
  aJ (fun (h1 : aH) =>
  some ((-1 : Int32), h1)) fun k34 =>
  aJ (fun (x4 : Int32) (h2 : aH) =>
  some (x4, h2)) fun k25 =>
  aL1 (m_X8_numberOf_L3 x1 x2 x3 k34 k25) FU (0 : Int32) h0
def m_X8_addPerson_L2 (x1 : Nat) (k46 : aH → Option (Unit × aH)) (r2 : Int32 → aH → Option (Unit × aH)) (x3 : Int32) (h3 : aH) : Option (Unit × aH) :=
  if x3 < (32 : Int32) then
    bO (gr h3 8 x1 2) fun x4 =>
    bO (gi h3 8 x1 1) fun x5 =>
    bO (alr h3 6 x4 x5) fun x6 =>
    bO (gi h3 7 x6 2) fun x7 =>
    aJ (fun (h4 : aH) =>
    aLet (x3 + (1 : Int32)) fun x8 =>
    r2 x8 h4) fun k40 =>
    if (x3 &&& x7) = 0 then
      k40 h3
    else
    bO (gr h3 8 x1 11) fun x9 =>
    bO (ali h3 1 x9 x3) fun x10 =>
    bO (gi h3 8 x1 1) fun x11 =>
    bO (asi h3 x9 x3 (x10 ||| ((1 : Int32) <<< (x11 &&& 31)))) fun h5 =>
    k40 h5
  else
  k46 h3
def m_X8_addPerson (x1 : Nat) (h0 : aH) : Option (Unit × aH) :=
  aJ (fun (h1 : aH) =>
  bO (gi h1 8 x1 1) fun x2 =>
  bO (pi h1 8 x1 1 (x2 + (1 : Int32))) fun h2 =>
  some ((), h2)) fun k46 =>
  aL1 (m_X8_addPerson_L2 x1 k46) FU (0 : Int32) h0
def m_X9_init (x1 : Nat) (x2 : Nat) (h0 : aH) : Option (Unit × aH) :=
  bO (pi h0 9 x1 10 (-1 : Int32)) fun h1 =>
  bO (pr h1 9 x1 0 x2) fun h2 =>
  some ((), h2)
def m_X9_isLetter (x1 : Int32) (h0 : aH) : Option (Int32 × aH) :=
  aJ (fun (x2 : Int32) (h1 : aH) =>
  bO (zO x2) fun x3 =>
  some (x3, h1)) fun k17 =>
  aJ (fun (h2 : aH) =>
  k17 (0 : Int32) h2) fun k16 =>
  if x1 < (97 : Int32) then
    k16 h0
  else
  if x1 ≤ (122 : Int32) then
    k17 (1 : Int32) h0
  else
  k16 h0
def m_X9_isDigit (x1 : Int32) (h0 : aH) : Option (Int32 × aH) :=
  aJ (fun (x2 : Int32) (h1 : aH) =>
  bO (zO x2) fun x3 =>
  some (x3, h1)) fun k17 =>
  aJ (fun (h2 : aH) =>
  k17 (0 : Int32) h2) fun k16 =>
  if x1 < (48 : Int32) then
    k16 h0
  else
  if x1 ≤ (57 : Int32) then
    k17 (1 : Int32) h0
  else
  k16 h0
def m_X9_take_L169 (x1 : Nat) (k208 : aH → Option (Unit × aH)) (r169 : aH → Option (Unit × aH))  (h13 : aH) : Option (Unit × aH) :=
  bO (gi h13 9 x1 5) fun x25 =>
  bO (gi h13 9 x1 1) fun x26 =>
  if x25 < x26 then
    bO (gr h13 9 x1 0) fun x27 =>
    bO (gi h13 9 x1 5) fun x28 =>
    bO (ali h13 2 x27 x28) fun x29 =>
    bR (m_X9_isDigit x29 h13) fun x30 h14 =>
    if x30 = 0 then
      k208 h14
    else
    bO (gi h14 9 x1 5) fun x31 =>
    bO (pi h14 9 x1 5 (x31 + (1 : Int32))) fun h15 =>
    r169 h15
  else
  k208 h13
def m_X9_take_L115 (x1 : Nat) (k274 : aH → Option (Unit × aH)) (r115 : aH → Option (Unit × aH))  (h17 : aH) : Option (Unit × aH) :=
  bO (gi h17 9 x1 5) fun x32 =>
  bO (gi h17 9 x1 1) fun x33 =>
  if x32 < x33 then
    bO (gr h17 9 x1 0) fun x34 =>
    bO (gi h17 9 x1 5) fun x35 =>
    bO (ali h17 2 x34 x35) fun x36 =>
    bR (m_X9_isLetter x36 h17) fun x37 h18 =>
    if x37 = 0 then
      k274 h18
    else
    bO (gi h18 9 x1 5) fun x38 =>
    bO (pi h18 9 x1 5 (x38 + (1 : Int32))) fun h19 =>
    r115 h19
  else
  k274 h17
def m_X9_take_L8 (x1 : Nat) (k60 : aH → Option (Unit × aH)) (r8 : aH → Option (Unit × aH))  (h21 : aH) : Option (Unit × aH) :=
  bO (gi h21 9 x1 5) fun x39 =>
  bO (gi h21 9 x1 1) fun x40 =>
  if x39 < x40 then
    bO (gr h21 9 x1 0) fun x41 =>
    bO (gi h21 9 x1 5) fun x42 =>
    bO (ali h21 2 x41 x42) fun x43 =>
    aJ (fun (h22 : aH) =>
    bO (gi h22 9 x1 5) fun x44 =>
    bO (pi h22 9 x1 5 (x44 + (1 : Int32))) fun h23 =>
    r8 h23) fun k47 =>
    if x43 = (10 : Int32) then
      k47 h21
    else
    bO (gr h21 9 x1 0) fun x45 =>
    bO (gi h21 9 x1 5) fun x46 =>
    bO (ali h21 2 x45 x46) fun x47 =>
    if x47 = (32 : Int32) then
      k47 h21
    else
    k60 h21
  else
  k60 h21
def m_X9_take (x1 : Nat) (h0 : aH) : Option (Unit × aH) :=
  bO (gi h0 9 x1 4) fun x2 =>
  bO (pi h0 9 x1 6 x2) fun h1 =>
  aJ (fun (h2 : aH) =>
  bO (gi h2 9 x1 5) fun x3 =>
  bO (pi h2 9 x1 4 x3) fun h3 =>
  bO (gi h3 9 x1 5) fun x4 =>
  bO (gi h3 9 x1 1) fun x5 =>
  if x4 < x5 then
    bO (gi h3 9 x1 5) fun x6 =>
    bO (pi h3 9 x1 5 (x6 + (1 : Int32))) fun h4 =>
    bO (gr h4 9 x1 0) fun x7 =>
    bO (gi h4 9 x1 4) fun x8 =>
    bO (ali h4 2 x7 x8) fun x9 =>
    bR (m_X9_isLetter x9 h4) fun x10 h5 =>
    aJ (fun (h6 : aH) =>
    some ((), h6)) fun k274 =>
    if x10 = 0 then
      bO (gr h5 9 x1 0) fun x11 =>
      bO (gi h5 9 x1 4) fun x12 =>
      bO (ali h5 2 x11 x12) fun x13 =>
      bR (m_X9_isDigit x13 h5) fun x14 h7 =>
      if x14 = 0 then
        bO (gr h7 9 x1 0) fun x15 =>
        bO (gi h7 9 x1 4) fun x16 =>
        bO (ali h7 2 x15 x16) fun x17 =>
        aJ (fun (x18 : Int32) (h8 : aH) =>
        bO (pi h8 9 x1 3 x18) fun h9 =>
        k274 h9) fun k271 =>
        if x17 = (59 : Int32) then
          k271 (3 : Int32) h7
        else
        bO (gr h7 9 x1 0) fun x19 =>
        bO (gi h7 9 x1 4) fun x20 =>
        bO (ali h7 2 x19 x20) fun x21 =>
        if x21 = (58 : Int32) then
          k271 (4 : Int32) h7
        else
        k271 (0 : Int32) h7
      else
      aJ (fun (h10 : aH) =>
      bO (gi h10 9 x1 5) fun x22 =>
      bO (gi h10 9 x1 4) fun x23 =>
      aJ (fun (x24 : Int32) (h11 : aH) =>
      bO (pi h11 9 x1 3 x24) fun h12 =>
      k274 h12) fun k227 =>
      if (x22 - x23) ≤ (5 : Int32) then
        k227 (2 : Int32) h10
      else
      k227 (0 : Int32) h10) fun k208 =>
      aL0 (m_X9_take_L169 x1 k208) FU h7
    else
    bO (pi h5 9 x1 3 (1 : Int32)) fun h16 =>
    aL0 (m_X9_take_L115 x1 k274) FU h16
  else
  bO (pi h3 9 x1 3 (5 : Int32)) fun h20 =>
  some ((), h20)) fun k60 =>
  aL0 (m_X9_take_L8 x1 k60) FU h1
def m_X9_isWord_L28 (x1 : Nat) (x2 : Nat) (k63 : aH → Option (Int32 × aH)) (k55 : aH → Option (Int32 × aH)) (r28 : Int32 → aH → Option (Int32 × aH)) (x7 : Int32) (h5 : aH) : Option (Int32 × aH) :=
  gT x2 <|
  bR (m_J0_length_8abf5 x2 h5) fun x8 h6 =>
  if x7 < x8 then
    bO (gr h6 9 x1 0) fun x9 =>
    bO (gi h6 9 x1 4) fun x10 =>
    bO (ali h6 2 x9 (x10 + x7)) fun x11 =>
    gT x2 <|
    bR (m_J0_charAt_5068e x2 x7 h6) fun x12 h7 =>
    if x11 = x12 then
      aLet (x7 + (1 : Int32)) fun x13 =>
      r28 x13 h7
    else
    k55 h7
  else
  k63 h6
def m_X9_isWord (x1 : Nat) (x2 : Nat) (h0 : aH) : Option (Int32 × aH) :=
  bO (gi h0 9 x1 3) fun x3 =>
  aJ (fun (h1 : aH) =>
  some ((0 : Int32), h1)) fun k24 =>
  if x3 = (1 : Int32) then
    bO (gi h0 9 x1 5) fun x4 =>
    bO (gi h0 9 x1 4) fun x5 =>
    gT x2 <|
    bR (m_J0_length_8abf5 x2 h0) fun x6 h2 =>
    if (x4 - x5) = x6 then
      aJ (fun (h3 : aH) =>
      some ((1 : Int32), h3)) fun k63 =>
      aJ (fun (h4 : aH) =>
      some ((0 : Int32), h4)) fun k55 =>
      aL1 (m_X9_isWord_L28 x1 x2 k63 k55) FU (0 : Int32) h2
    else
    k24 h2
  else
  k24 h0
def m_X9_failsAt (x1 : Nat) (x2 : Int32) (x3 : Int32) (h0 : aH) : Option (Int32 × aH) :=
  bO (pi h0 9 x1 9 x2) fun h1 =>
  bO (pi h1 9 x1 10 x3) fun h2 =>
  some ((0 : Int32), h2)
def m_X9_fails (x1 : Nat) (x2 : Int32) (h0 : aH) : Option (Int32 × aH) :=
  bO (gi h0 9 x1 4) fun x3 =>
  gS h0 9 x1 <|
  bR (m_X9_failsAt x1 x2 x3 h0) fun x4 h1 =>
  bO (zO x4) fun x5 =>
  some (x5, h1)
def m_X9_takesNumber_L22 (x1 : Nat) (k53 : Int32 → aH → Option (Int32 × aH)) (r22 : Int32 → Int32 → aH → Option (Int32 × aH)) (x9 : Int32) (x10 : Int32) (h6 : aH) : Option (Int32 × aH) :=
  bO (gi h6 9 x1 5) fun x11 =>
  if x10 < x11 then
    bO (gr h6 9 x1 0) fun x12 =>
    bO (ali h6 2 x12 x10) fun x13 =>
    aLet (((x9 * (10 : Int32)) + x13) - (48 : Int32)) fun x14 =>
    aLet (x10 + (1 : Int32)) fun x15 =>
    r22 x14 x15 h6
  else
  k53 x9 h6
def m_X9_takesNumber (x1 : Nat) (x2 : Int32) (x3 : Int32) (h0 : aH) : Option (Int32 × aH) :=
  bO (gi h0 9 x1 3) fun x4 =>
  if x4 = (2 : Int32) then
    bO (gi h0 9 x1 4) fun x5 =>
    aJ (fun (x6 : Int32) (h1 : aH) =>
    aJ (fun (h2 : aH) =>
    gS h2 9 x1 <|
    bR (m_X9_fails x1 (2 : Int32) h2) fun x7 h3 =>
    bO (zO x7) fun x8 =>
    some (x8, h3)) fun k63 =>
    if x6 < x2 then
      k63 h1
    else
    if x6 ≤ x3 then
      bO (pi h1 9 x1 7 x6) fun h4 =>
      gS h4 9 x1 <|
      bR (m_X9_take x1 h4) fun _ h5 =>
      some ((1 : Int32), h5)
    else
    k63 h1) fun k53 =>
    aL2 (m_X9_takesNumber_L22 x1 k53) FU (0 : Int32) x5 h0
  else
  gS h0 9 x1 <|
  bR (m_X9_fails x1 (1 : Int32) h0) fun x16 h7 =>
  bO (zO x16) fun x17 =>
  some (x17, h7)
def m_X9_takesSymbol (x1 : Nat) (x2 : Int32) (h0 : aH) : Option (Int32 × aH) :=
  bO (gi h0 9 x1 3) fun x3 =>
  if x3 = x2 then
    gS h0 9 x1 <|
    bR (m_X9_take x1 h0) fun _ h1 =>
    some ((1 : Int32), h1)
  else
  gS h0 9 x1 <|
  bR (m_X9_fails x1 (1 : Int32) h0) fun x4 h2 =>
  bO (zO x4) fun x5 =>
  some (x5, h2)
def m_X9_readsNight (x1 : Nat) (h0 : aH) : Option (Int32 × aH) :=
  gS h0 9 x1 <|
  bR (m_X9_isWord x1 0 h0) fun x2 h1 =>
  if x2 = 0 then
    gS h1 9 x1 <|
    bR (m_X9_fails x1 (1 : Int32) h1) fun x3 h2 =>
    bO (zO x3) fun x4 =>
    some (x4, h2)
  else
  gS h1 9 x1 <|
  bR (m_X9_take x1 h1) fun _ h3 =>
  gS h3 9 x1 <|
  bR (m_X9_takesNumber x1 (0 : Int32) (23 : Int32) h3) fun x5 h4 =>
  if x5 = 0 then
    some ((0 : Int32), h4)
  else
  bO (gi h4 9 x1 7) fun x6 =>
  gS h4 9 x1 <|
  bR (m_X9_takesNumber x1 (0 : Int32) (23 : Int32) h4) fun x7 h5 =>
  if x7 = 0 then
    some ((0 : Int32), h5)
  else
  bO (gi h5 9 x1 7) fun x8 =>
  if x6 = x8 then
    bO (gi h5 9 x1 6) fun x9 =>
    gS h5 9 x1 <|
    bR (m_X9_failsAt x1 (2 : Int32) x9 h5) fun x10 h6 =>
    bO (zO x10) fun x11 =>
    some (x11, h6)
  else
  gS h5 9 x1 <|
  bR (m_X9_takesNumber x1 (0 : Int32) (30 : Int32) h5) fun x12 h7 =>
  if x12 = 0 then
    some ((0 : Int32), h7)
  else
  bO (gi h7 9 x1 7) fun x13 =>
  gS h7 9 x1 <|
  bR (m_X9_takesNumber x1 (1 : Int32) (999 : Int32) h7) fun x14 h8 =>
  if x14 = 0 then
    some ((0 : Int32), h8)
  else
  bO (gr h8 9 x1 2) fun x15 =>
  bO (gr h8 8 x15 0) fun x16 =>
  bO (gi h8 9 x1 7) fun x17 =>
  gS h8 5 x16 <|
  bR (m_X5_set x16 x6 x8 x13 x17 h8) fun _ h9 =>
  gS h9 9 x1 <|
  bR (m_X9_takesSymbol x1 (3 : Int32) h9) fun x18 h10 =>
  bO (zO x18) fun x19 =>
  some (x19, h10)
def m_X9_sectionWord (x1 : Int32) (h0 : aH) : Option (Nat × aH) :=
  swO x1 0
    (some (1, h0)) <|
  swO x1 1
    (some (2, h0)) <|
  swO x1 2
    (some (3, h0)) <|
  swO x1 3
    (some (4, h0)) <|
  some (5, h0)
def m_X9_sectionOfWord_L2 (x1 : Nat) (k26 : aH → Option (Int32 × aH)) (k18 : Int32 → aH → Option (Int32 × aH)) (r2 : Int32 → aH → Option (Int32 × aH)) (x3 : Int32) (h3 : aH) : Option (Int32 × aH) :=
  if x3 < (5 : Int32) then
    bR (m_X9_sectionWord x3 h3) fun x4 h4 =>
    gS h4 9 x1 <|
    bR (m_X9_isWord x1 x4 h4) fun x5 h5 =>
    if x5 = 0 then
      aLet (x3 + (1 : Int32)) fun x6 =>
      r2 x6 h5
    else
    k18 x3 h5
  else
  k26 h3
def m_X9_sectionOfWord (x1 : Nat) (h0 : aH) : Option (Int32 × aH) :=
  aJ (fun (h1 : aH) =>
  some ((-1 : Int32), h1)) fun k26 =>
  aJ (fun (x2 : Int32) (h2 : aH) =>
  some (x2, h2)) fun k18 =>
  aL1 (m_X9_sectionOfWord_L2 x1 k26 k18) FU (0 : Int32) h0
def m_X9_nameIn_L17 (x1 : Nat) (x3 : Int32) (k47 : Int64 → aH → Option (Int64 × aH)) (r17 : Int64 → Int32 → aH → Option (Int64 × aH)) (x5 : Int64) (x6 : Int32) (h2 : aH) : Option (Int64 × aH) :=
  if x6 < x3 then
    bO (gr h2 9 x1 0) fun x7 =>
    bO (ali h2 2 x7 x6) fun x8 =>
    aLet ((lShl x5 (5 : Int32)) ||| (((x8 - (97 : Int32)) + (1 : Int32)).toInt64)) fun x9 =>
    aLet (x6 + (1 : Int32)) fun x10 =>
    r17 x9 x10 h2
  else
  k47 x5 h2
def m_X9_nameIn (x1 : Nat) (x2 : Int32) (x3 : Int32) (h0 : aH) : Option (Int64 × aH) :=
  if (x3 - x2) ≤ (8 : Int32) then
    aJ (fun (x4 : Int64) (h1 : aH) =>
    some (x4, h1)) fun k47 =>
    aL2 (m_X9_nameIn_L17 x1 x3 k47) FU (0 : Int64) x2 h0
  else
  some ((-1 : Int64), h0)
def m_X9_takesName (x1 : Nat) (h0 : aH) : Option (Int32 × aH) :=
  bO (gi h0 9 x1 3) fun x2 =>
  aJ (fun (x3 : Int64) (h1 : aH) =>
  if (lg_cmp x3 (-1 : Int64)) = 0 then
    gS h1 9 x1 <|
    bR (m_X9_fails x1 (1 : Int32) h1) fun x4 h2 =>
    bO (zO x4) fun x5 =>
    some (x5, h2)
  else
  bO (pL h1 9 x1 8 x3) fun h3 =>
  gS h3 9 x1 <|
  bR (m_X9_take x1 h3) fun _ h4 =>
  some ((1 : Int32), h4)) fun k26 =>
  if x2 = (1 : Int32) then
    bO (gi h0 9 x1 4) fun x6 =>
    bO (gi h0 9 x1 5) fun x7 =>
    gS h0 9 x1 <|
    bR (m_X9_nameIn x1 x6 x7 h0) fun x8 h5 =>
    k26 x8 h5
  else
  k26 (-1 : Int64) h0
def m_X9_takesNewName (x1 : Nat) (x2 : Int32) (h0 : aH) : Option (Int32 × aH) :=
  gS h0 9 x1 <|
  bR (m_X9_takesName x1 h0) fun x3 h1 =>
  if x3 = 0 then
    some ((0 : Int32), h1)
  else
  bO (gr h1 9 x1 2) fun x4 =>
  bO (gL h1 9 x1 8) fun x5 =>
  gS h1 8 x4 <|
  bR (m_X8_numberOf x4 x2 x5 h1) fun x6 h2 =>
  aJ (fun (x7 : Int32) (h3 : aH) =>
  bO (zO x7) fun x8 =>
  some (x8, h3)) fun k42 =>
  aJ (fun (h4 : aH) =>
  k42 (1 : Int32) h4) fun k37 =>
  if x6 = (-1 : Int32) then
    k37 h2
  else
  bO (gi h2 9 x1 6) fun x9 =>
  gS h2 9 x1 <|
  bR (m_X9_failsAt x1 (3 : Int32) x9 h2) fun x10 h5 =>
  if x10 = 0 then
    k42 (0 : Int32) h5
  else
  k37 h5
def m_X9_skillOfWord (x1 : Nat) (h0 : aH) : Option (Int32 × aH) :=
  gS h0 9 x1 <|
  bR (m_X9_isWord x1 6 h0) fun x2 h1 =>
  if x2 = 0 then
    gS h1 9 x1 <|
    bR (m_X9_isWord x1 7 h1) fun x3 h2 =>
    if x3 = 0 then
      gS h2 9 x1 <|
      bR (m_X9_isWord x1 8 h2) fun x4 h3 =>
      if x4 = 0 then
        gS h3 9 x1 <|
        bR (m_X9_isWord x1 9 h3) fun x5 h4 =>
        aJ (fun (x6 : Int32) (h5 : aH) =>
        some (x6, h5)) fun k48 =>
        if x5 = 0 then
          k48 (0 : Int32) h4
        else
        k48 (8 : Int32) h4
      else
      some ((4 : Int32), h3)
    else
    some ((2 : Int32), h2)
  else
  some ((1 : Int32), h1)
def m_X9_readsPerson_L84 (x1 : Nat) (x8 : Nat) (k149 : aH → Option (Int32 × aH)) (k123 : aH → Option (Int32 × aH)) (k108 : aH → Option (Int32 × aH)) (r84 : Int32 → aH → Option (Int32 × aH)) (x18 : Int32) (h13 : aH) : Option (Int32 × aH) :=
  if x18 < (1200 : Int32) then
    bO (gi h13 9 x1 3) fun x19 =>
    if x19 = (1 : Int32) then
      gS h13 9 x1 <|
      bR (m_X9_skillOfWord x1 h13) fun x20 h14 =>
      if x20 = 0 then
        k108 h14
      else
      bO (gi h14 7 x8 2) fun x21 =>
      if (x21 &&& x20) = 0 then
        bO (gi h14 7 x8 2) fun x22 =>
        bO (pi h14 7 x8 2 (x22 ||| x20)) fun h15 =>
        gS h15 9 x1 <|
        bR (m_X9_take x1 h15) fun _ h16 =>
        aLet (x18 + (1 : Int32)) fun x23 =>
        r84 x23 h16
      else
      k123 h14
    else
    k149 h13
  else
  k149 h13
def m_X9_readsPerson (x1 : Nat) (h0 : aH) : Option (Int32 × aH) :=
  bO (gr h0 9 x1 2) fun x2 =>
  bO (gi h0 8 x2 1) fun x3 =>
  if x3 < (12 : Int32) then
    gS h0 9 x1 <|
    bR (m_X9_take x1 h0) fun _ h1 =>
    bO (gr h1 9 x1 2) fun x4 =>
    bO (gr h1 8 x4 2) fun x5 =>
    bO (gr h1 9 x1 2) fun x6 =>
    bO (gi h1 8 x6 1) fun x7 =>
    bO (alr h1 6 x5 x7) fun x8 =>
    gS h1 9 x1 <|
    bR (m_X9_takesNewName x1 (0 : Int32) h1) fun x9 h2 =>
    if x9 = 0 then
      some ((0 : Int32), h2)
    else
    bO (gL h2 9 x1 8) fun x10 =>
    bO (pL h2 7 x8 0 x10) fun h3 =>
    gS h3 9 x1 <|
    bR (m_X9_takesNumber x1 (0 : Int32) (120 : Int32) h3) fun x11 h4 =>
    if x11 = 0 then
      some ((0 : Int32), h4)
    else
    bO (gi h4 9 x1 7) fun x12 =>
    bO (pi h4 7 x8 1 x12) fun h5 =>
    bO (pi h5 7 x8 2 (16 : Int32)) fun h6 =>
    aJ (fun (h7 : aH) =>
    bO (gr h7 9 x1 2) fun x13 =>
    gS h7 8 x13 <|
    bR (m_X8_addPerson x13 h7) fun _ h8 =>
    some ((1 : Int32), h8)) fun k149 =>
    aJ (fun (h9 : aH) =>
    gS h9 9 x1 <|
    bR (m_X9_fails x1 (3 : Int32) h9) fun x14 h10 =>
    bO (zO x14) fun x15 =>
    some (x15, h10)) fun k123 =>
    aJ (fun (h11 : aH) =>
    gS h11 9 x1 <|
    bR (m_X9_fails x1 (1 : Int32) h11) fun x16 h12 =>
    bO (zO x16) fun x17 =>
    some (x17, h12)) fun k108 =>
    aL1 (m_X9_readsPerson_L84 x1 x8 k149 k123 k108) FU (0 : Int32) h6
  else
  gS h0 9 x1 <|
  bR (m_X9_fails x1 (5 : Int32) h0) fun x24 h17 =>
  bO (zO x24) fun x25 =>
  some (x25, h17)
def m_X9_takesNameOf (x1 : Nat) (x2 : Int32) (h0 : aH) : Option (Int32 × aH) :=
  gS h0 9 x1 <|
  bR (m_X9_takesName x1 h0) fun x3 h1 =>
  if x3 = 0 then
    some ((0 : Int32), h1)
  else
  bO (gr h1 9 x1 2) fun x4 =>
  bO (gL h1 9 x1 8) fun x5 =>
  gS h1 8 x4 <|
  bR (m_X8_numberOf x4 x2 x5 h1) fun x6 h2 =>
  bO (pi h2 9 x1 7 x6) fun h3 =>
  bO (gi h3 9 x1 7) fun x7 =>
  aJ (fun (x8 : Int32) (h4 : aH) =>
  bO (zO x8) fun x9 =>
  some (x9, h4)) fun k50 =>
  aJ (fun (h5 : aH) =>
  k50 (1 : Int32) h5) fun k45 =>
  if x7 = (-1 : Int32) then
    bO (gi h3 9 x1 6) fun x10 =>
    gS h3 9 x1 <|
    bR (m_X9_failsAt x1 (4 : Int32) x10 h3) fun x11 h6 =>
    if x11 = 0 then
      k50 (0 : Int32) h6
    else
    k45 h6
  else
  k45 h3
def m_X9_readsTrust (x1 : Nat) (h0 : aH) : Option (Int32 × aH) :=
  bO (gr h0 9 x1 2) fun x2 =>
  bO (gi h0 8 x2 3) fun x3 =>
  if x3 < (24 : Int32) then
    gS h0 9 x1 <|
    bR (m_X9_take x1 h0) fun _ h1 =>
    gS h1 9 x1 <|
    bR (m_X9_takesNameOf x1 (0 : Int32) h1) fun x4 h2 =>
    if x4 = 0 then
      some ((0 : Int32), h2)
    else
    bO (gi h2 9 x1 7) fun x5 =>
    gS h2 9 x1 <|
    bR (m_X9_takesNameOf x1 (0 : Int32) h2) fun x6 h3 =>
    if x6 = 0 then
      some ((0 : Int32), h3)
    else
    bO (gi h3 9 x1 7) fun x7 =>
    if x5 = x7 then
      bO (gi h3 9 x1 6) fun x8 =>
      gS h3 9 x1 <|
      bR (m_X9_failsAt x1 (6 : Int32) x8 h3) fun x9 h4 =>
      bO (zO x9) fun x10 =>
      some (x10, h4)
    else
    bO (gr h3 9 x1 2) fun x11 =>
    bO (gr h3 8 x11 4) fun x12 =>
    bR (m_X11_pair x5 x7 h3) fun x13 h5 =>
    bO (ali h5 1 x12 x13) fun x14 =>
    if x14 = (-1 : Int32) then
      gS h5 9 x1 <|
      bR (m_X9_takesNumber x1 (0 : Int32) (9 : Int32) h5) fun x15 h6 =>
      if x15 = 0 then
        some ((0 : Int32), h6)
      else
      bO (gr h6 9 x1 2) fun x16 =>
      bO (gr h6 8 x16 4) fun x17 =>
      bR (m_X11_pair x5 x7 h6) fun x18 h7 =>
      bO (gi h7 9 x1 7) fun x19 =>
      bO (asi h7 x17 x18 x19) fun h8 =>
      bO (gr h8 9 x1 2) fun x20 =>
      bO (gi h8 8 x20 3) fun x21 =>
      bO (pi h8 8 x20 3 (x21 + (1 : Int32))) fun h9 =>
      some ((1 : Int32), h9)
    else
    bO (gi h5 9 x1 6) fun x22 =>
    gS h5 9 x1 <|
    bR (m_X9_failsAt x1 (3 : Int32) x22 h5) fun x23 h10 =>
    bO (zO x23) fun x24 =>
    some (x24, h10)
  else
  gS h0 9 x1 <|
  bR (m_X9_fails x1 (5 : Int32) h0) fun x25 h11 =>
  bO (zO x25) fun x26 =>
  some (x26, h11)
def m_X9_readsPager_L107 (x1 : Nat) (x8 : Nat) (k184 : aH → Option (Int32 × aH)) (k145 : aH → Option (Int32 × aH)) (k134 : aH → Option (Int32 × aH)) (r107 : Int32 → aH → Option (Int32 × aH)) (x20 : Int32) (h14 : aH) : Option (Int32 × aH) :=
  if x20 < (1200 : Int32) then
    aJ (fun (h15 : aH) =>
    gS h15 9 x1 <|
    bR (m_X9_takesNameOf x1 (0 : Int32) h15) fun x21 h16 =>
    if x21 = 0 then
      k134 h16
    else
    bO (gi h16 6 x8 3) fun x22 =>
    if x22 < (8 : Int32) then
      bO (gr h16 6 x8 4) fun x23 =>
      bO (gi h16 6 x8 3) fun x24 =>
      bO (gi h16 9 x1 7) fun x25 =>
      bO (asi h16 x23 x24 x25) fun h17 =>
      bO (gi h17 6 x8 3) fun x26 =>
      bO (pi h17 6 x8 3 (x26 + (1 : Int32))) fun h18 =>
      aLet (x20 + (1 : Int32)) fun x27 =>
      r107 x27 h18
    else
    k145 h16) fun k126 =>
    if x20 = 0 then
      k126 h14
    else
    bO (gi h14 9 x1 3) fun x28 =>
    if x28 = (1 : Int32) then
      k126 h14
    else
    k184 h14
  else
  k184 h14
def m_X9_readsPager (x1 : Nat) (h0 : aH) : Option (Int32 × aH) :=
  bO (gr h0 9 x1 2) fun x2 =>
  bO (gi h0 8 x2 5) fun x3 =>
  if x3 < (6 : Int32) then
    gS h0 9 x1 <|
    bR (m_X9_take x1 h0) fun _ h1 =>
    bO (gr h1 9 x1 2) fun x4 =>
    bO (gr h1 8 x4 6) fun x5 =>
    bO (gr h1 9 x1 2) fun x6 =>
    bO (gi h1 8 x6 5) fun x7 =>
    bO (alr h1 7 x5 x7) fun x8 =>
    gS h1 9 x1 <|
    bR (m_X9_takesNewName x1 (1 : Int32) h1) fun x9 h2 =>
    if x9 = 0 then
      some ((0 : Int32), h2)
    else
    bO (gL h2 9 x1 8) fun x10 =>
    bO (pL h2 6 x8 0 x10) fun h3 =>
    gS h3 9 x1 <|
    bR (m_X9_takesNumber x1 (0 : Int32) (9 : Int32) h3) fun x11 h4 =>
    if x11 = 0 then
      some ((0 : Int32), h4)
    else
    bO (gi h4 9 x1 7) fun x12 =>
    bO (pi h4 6 x8 1 x12) fun h5 =>
    gS h5 9 x1 <|
    bR (m_X9_takesNumber x1 (1 : Int32) (168 : Int32) h5) fun x13 h6 =>
    if x13 = 0 then
      some ((0 : Int32), h6)
    else
    bO (gi h6 9 x1 7) fun x14 =>
    bO (pi h6 6 x8 2 ((60 : Int32) * x14)) fun h7 =>
    bO (pi h7 6 x8 3 (0 : Int32)) fun h8 =>
    aJ (fun (h9 : aH) =>
    bO (gr h9 9 x1 2) fun x15 =>
    bO (gi h9 8 x15 5) fun x16 =>
    bO (pi h9 8 x15 5 (x16 + (1 : Int32))) fun h10 =>
    some ((1 : Int32), h10)) fun k184 =>
    aJ (fun (h11 : aH) =>
    bO (gi h11 9 x1 6) fun x17 =>
    gS h11 9 x1 <|
    bR (m_X9_failsAt x1 (5 : Int32) x17 h11) fun x18 h12 =>
    bO (zO x18) fun x19 =>
    some (x19, h12)) fun k145 =>
    aJ (fun (h13 : aH) =>
    some ((0 : Int32), h13)) fun k134 =>
    aL1 (m_X9_readsPager_L107 x1 x8 k184 k145 k134) FU (0 : Int32) h8
  else
  gS h0 9 x1 <|
  bR (m_X9_fails x1 (5 : Int32) h0) fun x29 h19 =>
  bO (zO x29) fun x30 =>
  some (x30, h19)
def m_X9_readsEngine_L90 (x1 : Nat) (x8 : Nat) (k168 : aH → Option (Int32 × aH)) (k147 : aH → Option (Int32 × aH)) (k132 : aH → Option (Int32 × aH)) (r90 : Int32 → aH → Option (Int32 × aH)) (x20 : Int32) (h14 : aH) : Option (Int32 × aH) :=
  if x20 < (1200 : Int32) then
    aJ (fun (h15 : aH) =>
    gS h15 9 x1 <|
    bR (m_X9_isWord x1 10 h15) fun x21 h16 =>
    aJ (fun (x22 : Int32) (h17 : aH) =>
    if x22 = 0 then
      k132 h17
    else
    bO (gi h17 1 x8 2) fun x23 =>
    if x23 < (6 : Int32) then
      gS h17 1 x8 <|
      bR (m_X1_addPost x8 x22 h17) fun _ h18 =>
      gS h18 9 x1 <|
      bR (m_X9_take x1 h18) fun _ h19 =>
      aLet (x20 + (1 : Int32)) fun x24 =>
      r90 x24 h19
    else
    k147 h17) fun k127 =>
    if x21 = 0 then
      gS h16 9 x1 <|
      bR (m_X9_skillOfWord x1 h16) fun x25 h20 =>
      k127 x25 h20
    else
    k127 (16 : Int32) h16) fun k109 =>
    if x20 = 0 then
      k109 h14
    else
    bO (gi h14 9 x1 3) fun x26 =>
    if x26 = (1 : Int32) then
      k109 h14
    else
    k168 h14
  else
  k168 h14
def m_X9_readsEngine (x1 : Nat) (h0 : aH) : Option (Int32 × aH) :=
  bO (gr h0 9 x1 2) fun x2 =>
  bO (gi h0 8 x2 7) fun x3 =>
  if x3 < (5 : Int32) then
    gS h0 9 x1 <|
    bR (m_X9_take x1 h0) fun _ h1 =>
    bO (gr h1 9 x1 2) fun x4 =>
    bO (gr h1 8 x4 8) fun x5 =>
    bO (gr h1 9 x1 2) fun x6 =>
    bO (gi h1 8 x6 7) fun x7 =>
    bO (alr h1 8 x5 x7) fun x8 =>
    gS h1 9 x1 <|
    bR (m_X9_takesNewName x1 (2 : Int32) h1) fun x9 h2 =>
    if x9 = 0 then
      some ((0 : Int32), h2)
    else
    bO (gL h2 9 x1 8) fun x10 =>
    bO (pL h2 1 x8 0 x10) fun h3 =>
    gS h3 9 x1 <|
    bR (m_X9_takesNumber x1 (0 : Int32) (120 : Int32) h3) fun x11 h4 =>
    if x11 = 0 then
      some ((0 : Int32), h4)
    else
    bO (gi h4 9 x1 7) fun x12 =>
    bO (pi h4 1 x8 1 x12) fun h5 =>
    bO (pi h5 1 x8 2 (0 : Int32)) fun h6 =>
    bO (gr h6 1 x8 4) fun x13 =>
    bR (m_J7_fill_53178 x13 (0 : Int32) h6) fun _ h7 =>
    aJ (fun (h8 : aH) =>
    bO (gr h8 9 x1 2) fun x14 =>
    bO (gi h8 8 x14 7) fun x15 =>
    bO (pi h8 8 x14 7 (x15 + (1 : Int32))) fun h9 =>
    some ((1 : Int32), h9)) fun k168 =>
    aJ (fun (h10 : aH) =>
    gS h10 9 x1 <|
    bR (m_X9_fails x1 (5 : Int32) h10) fun x16 h11 =>
    bO (zO x16) fun x17 =>
    some (x17, h11)) fun k147 =>
    aJ (fun (h12 : aH) =>
    gS h12 9 x1 <|
    bR (m_X9_fails x1 (1 : Int32) h12) fun x18 h13 =>
    bO (zO x18) fun x19 =>
    some (x19, h13)) fun k132 =>
    aL1 (m_X9_readsEngine_L90 x1 x8 k168 k147 k132) FU (0 : Int32) h7
  else
  gS h0 9 x1 <|
  bR (m_X9_fails x1 (5 : Int32) h0) fun x27 h21 =>
  bO (zO x27) fun x28 =>
  some (x28, h21)
def m_X9_readDifferent_L39 (x1 : Nat) (x3 : Nat) (k56 : aH → Option (Int32 × aH)) (x7 : Int32) (k74 : aH → Option (Int32 × aH)) (r39 : Int32 → aH → Option (Int32 × aH)) (x15 : Int32) (h11 : aH) : Option (Int32 × aH) :=
  if x15 < x7 then
    bO (ali h11 1 x3 x15) fun x16 =>
    bO (gi h11 9 x1 7) fun x17 =>
    if x16 = x17 then
      k56 h11
    else
    aLet (x15 + (1 : Int32)) fun x18 =>
    r39 x18 h11
  else
  k74 h11
def m_X9_readDifferent_L5 (x1 : Nat) (x2 : Int32) (x3 : Nat) (k96 : Int32 → aH → Option (Int32 × aH)) (k56 : aH → Option (Int32 × aH)) (k34 : aH → Option (Int32 × aH)) (r5 : Int32 → Int32 → aH → Option (Int32 × aH)) (x7 : Int32) (x8 : Int32) (h5 : aH) : Option (Int32 × aH) :=
  if x8 < (1200 : Int32) then
    aJ (fun (h6 : aH) =>
    gS h6 9 x1 <|
    bR (m_X9_takesNameOf x1 x2 h6) fun x9 h7 =>
    if x9 = 0 then
      k34 h7
    else
    aJ (fun (h8 : aH) =>
    bO (aln h8 x3) fun x10 =>
    aJ (fun (x11 : Int32) (h9 : aH) =>
    aLet (x8 + (1 : Int32)) fun x12 =>
    r5 x11 x12 h9) fun k90 =>
    if x7 < x10 then
      bO (gi h8 9 x1 7) fun x13 =>
      bO (asi h8 x3 x7 x13) fun h10 =>
      aLet (x7 + (1 : Int32)) fun x14 =>
      k90 x14 h10
    else
    k90 x7 h8) fun k74 =>
    aL1 (m_X9_readDifferent_L39 x1 x3 k56 x7 k74) FU (0 : Int32) h7) fun k26 =>
    if x8 = 0 then
      k26 h5
    else
    bO (gi h5 9 x1 3) fun x19 =>
    if x19 = (1 : Int32) then
      k26 h5
    else
    k96 x7 h5
  else
  k96 x7 h5
def m_X9_readDifferent (x1 : Nat) (x2 : Int32) (x3 : Nat) (h0 : aH) : Option (Int32 × aH) :=
  aJ (fun (x4 : Int32) (h1 : aH) =>
  some (x4, h1)) fun k96 =>
  aJ (fun (h2 : aH) =>
  bO (gi h2 9 x1 6) fun x5 =>
  gS h2 9 x1 <|
  bR (m_X9_failsAt x1 (3 : Int32) x5 h2) fun x6 h3 =>
  some ((-1 : Int32), h3)) fun k56 =>
  aJ (fun (h4 : aH) =>
  some ((-1 : Int32), h4)) fun k34 =>
  aL2 (m_X9_readDifferent_L5 x1 x2 x3 k96 k56 k34) FU (0 : Int32) (0 : Int32) h0
def m_X9_readsKind (x1 : Nat) (h0 : aH) : Option (Int32 × aH) :=
  bO (gr h0 9 x1 2) fun x2 =>
  bO (gi h0 8 x2 9) fun x3 =>
  if x3 < (6 : Int32) then
    gS h0 9 x1 <|
    bR (m_X9_take x1 h0) fun _ h1 =>
    bO (gr h1 9 x1 2) fun x4 =>
    bO (gr h1 8 x4 10) fun x5 =>
    bO (gr h1 9 x1 2) fun x6 =>
    bO (gi h1 8 x6 9) fun x7 =>
    bO (alr h1 9 x5 x7) fun x8 =>
    gS h1 9 x1 <|
    bR (m_X9_takesNewName x1 (3 : Int32) h1) fun x9 h2 =>
    if x9 = 0 then
      some ((0 : Int32), h2)
    else
    bO (gL h2 9 x1 8) fun x10 =>
    bO (pL h2 3 x8 0 x10) fun h3 =>
    gS h3 9 x1 <|
    bR (m_X9_takesNumber x1 (1 : Int32) (999 : Int32) h3) fun x11 h4 =>
    if x11 = 0 then
      some ((0 : Int32), h4)
    else
    bO (gi h4 9 x1 7) fun x12 =>
    bO (pi h4 3 x8 1 x12) fun h5 =>
    gS h5 9 x1 <|
    bR (m_X9_takesNumber x1 (0 : Int32) (240 : Int32) h5) fun x13 h6 =>
    if x13 = 0 then
      some ((0 : Int32), h6)
    else
    bO (gi h6 9 x1 7) fun x14 =>
    bO (pi h6 3 x8 2 x14) fun h7 =>
    gS h7 9 x1 <|
    bR (m_X9_takesNumber x1 (1 : Int32) (5 : Int32) h7) fun x15 h8 =>
    if x15 = 0 then
      some ((0 : Int32), h8)
    else
    bO (gi h8 9 x1 7) fun x16 =>
    bO (pi h8 3 x8 3 x16) fun h9 =>
    gS h9 9 x1 <|
    bR (m_X9_takesSymbol x1 (4 : Int32) h9) fun x17 h10 =>
    if x17 = 0 then
      some ((0 : Int32), h10)
    else
    bO (gr h10 3 x8 5) fun x18 =>
    gS h10 9 x1 <|
    bR (m_X9_readDifferent x1 (1 : Int32) x18 h10) fun x19 h11 =>
    bO (pi h11 3 x8 4 x19) fun h12 =>
    bO (gi h12 3 x8 4) fun x20 =>
    aJ (fun (h13 : aH) =>
    some ((0 : Int32), h13)) fun k156 =>
    if x20 = (-1 : Int32) then
      k156 h12
    else
    gS h12 9 x1 <|
    bR (m_X9_takesSymbol x1 (4 : Int32) h12) fun x21 h14 =>
    if x21 = 0 then
      k156 h14
    else
    bO (gr h14 3 x8 7) fun x22 =>
    gS h14 9 x1 <|
    bR (m_X9_readDifferent x1 (2 : Int32) x22 h14) fun x23 h15 =>
    bO (pi h15 3 x8 6 x23) fun h16 =>
    bO (gi h16 3 x8 6) fun x24 =>
    if x24 = (-1 : Int32) then
      some ((0 : Int32), h16)
    else
    bO (gr h16 9 x1 2) fun x25 =>
    bO (gi h16 8 x25 9) fun x26 =>
    bO (pi h16 8 x25 9 (x26 + (1 : Int32))) fun h17 =>
    some ((1 : Int32), h17)
  else
  gS h0 9 x1 <|
  bR (m_X9_fails x1 (5 : Int32) h0) fun x27 h18 =>
  bO (zO x27) fun x28 =>
  some (x28, h18)
def m_X9_reads_L55 (x1 : Nat) (k191 : aH → Option (Int32 × aH)) (k183 : aH → Option (Int32 × aH)) (k83 : aH → Option (Int32 × aH)) (r55 : Int32 → Int32 → aH → Option (Int32 × aH)) (x9 : Int32) (x10 : Int32) (h13 : aH) : Option (Int32 × aH) :=
  if x10 < (1200 : Int32) then
    bO (gi h13 9 x1 3) fun x11 =>
    if x11 = (5 : Int32) then
      k191 h13
    else
    gS h13 9 x1 <|
    bR (m_X9_sectionOfWord x1 h13) fun x12 h14 =>
    if x12 < x9 then
      k83 h14
    else
    aJ (fun (x13 : Int32) (h15 : aH) =>
    if x13 = 0 then
      k183 h15
    else
    gS h15 9 x1 <|
    bR (m_X9_takesSymbol x1 (3 : Int32) h15) fun x14 h16 =>
    if x14 = 0 then
      k183 h16
    else
    aLet (x10 + (1 : Int32)) fun x15 =>
    r55 x12 x15 h16) fun k170 =>
    swO x12 0
      (gS h14 9 x1 <|
      bR (m_X9_readsPerson x1 h14) fun x16 h17 =>
      k170 x16 h17) <|
    swO x12 1
      (gS h14 9 x1 <|
      bR (m_X9_readsTrust x1 h14) fun x17 h18 =>
      k170 x17 h18) <|
    swO x12 2
      (gS h14 9 x1 <|
      bR (m_X9_readsPager x1 h14) fun x18 h19 =>
      k170 x18 h19) <|
    swO x12 3
      (gS h14 9 x1 <|
      bR (m_X9_readsEngine x1 h14) fun x19 h20 =>
      k170 x19 h20) <|
    gS h14 9 x1 <|
    bR (m_X9_readsKind x1 h14) fun x20 h21 =>
    k170 x20 h21
  else
  k191 h13
def m_X9_reads (x1 : Nat) (x2 : Int32) (x3 : Nat) (h0 : aH) : Option (Int32 × aH) :=
  bO (gr h0 9 x1 0) fun x4 =>
  bO (aln h0 x4) fun x5 =>
  bO (pi h0 9 x1 1 (iMin x2 x5)) fun h1 =>
  bO (pr h1 9 x1 2 x3) fun h2 =>
  bO (pi h2 9 x1 5 (0 : Int32)) fun h3 =>
  bO (pi h3 9 x1 9 (0 : Int32)) fun h4 =>
  bO (pi h4 9 x1 10 (-1 : Int32)) fun h5 =>
  gS h5 8 x3 <|
  bR (m_X8_clear x3 h5) fun _ h6 =>
  gS h6 9 x1 <|
  bR (m_X9_take x1 h6) fun _ h7 =>
  gS h7 9 x1 <|
  bR (m_X9_readsNight x1 h7) fun x6 h8 =>
  if x6 = 0 then
    some ((0 : Int32), h8)
  else
  aJ (fun (h9 : aH) =>
  some ((1 : Int32), h9)) fun k191 =>
  aJ (fun (h10 : aH) =>
  some ((0 : Int32), h10)) fun k183 =>
  aJ (fun (h11 : aH) =>
  gS h11 9 x1 <|
  bR (m_X9_fails x1 (1 : Int32) h11) fun x7 h12 =>
  bO (zO x7) fun x8 =>
  some (x8, h12)) fun k83 =>
  aL2 (m_X9_reads_L55 x1 k191 k183 k83) FU (0 : Int32) (0 : Int32) h8
def m_X9_wholeAsName_L2 (x1 : Nat) (x2 : Int32) (k38 : aH → Option (Int64 × aH)) (k28 : aH → Option (Int64 × aH)) (r2 : Int32 → aH → Option (Int64 × aH)) (x5 : Int32) (h5 : aH) : Option (Int64 × aH) :=
  if x5 < x2 then
    bO (gr h5 9 x1 0) fun x6 =>
    bO (aln h5 x6) fun x7 =>
    if x5 < x7 then
      bO (gr h5 9 x1 0) fun x8 =>
      bO (ali h5 2 x8 x5) fun x9 =>
      bR (m_X9_isLetter x9 h5) fun x10 h6 =>
      if x10 = 0 then
        k28 h6
      else
      aLet (x5 + (1 : Int32)) fun x11 =>
      r2 x11 h6
    else
    k28 h5
  else
  k38 h5
def m_X9_wholeAsName (x1 : Nat) (x2 : Int32) (h0 : aH) : Option (Int64 × aH) :=
  aJ (fun (h1 : aH) =>
  aJ (fun (x3 : Int64) (h2 : aH) =>
  some (x3, h2)) fun k54 =>
  if x2 = 0 then
    k54 (-1 : Int64) h1
  else
  gS h1 9 x1 <|
  bR (m_X9_nameIn x1 (0 : Int32) x2 h1) fun x4 h3 =>
  k54 x4 h3) fun k38 =>
  aJ (fun (h4 : aH) =>
  some ((-1 : Int64), h4)) fun k28 =>
  aL1 (m_X9_wholeAsName_L2 x1 x2 k38 k28) FU (0 : Int32) h0
def m_X10_begin_L77 (x1 : Nat) (k120 : aH → Option (Unit × aH)) (r77 : Int32 → aH → Option (Unit × aH)) (x11 : Int32) (h13 : aH) : Option (Unit × aH) :=
  bO (gr h13 10 x1 0) fun x12 =>
  bO (gi h13 8 x12 5) fun x13 =>
  if x11 < x13 then
    bO (gr h13 10 x1 0) fun x14 =>
    bO (gr h13 8 x14 6) fun x15 =>
    bO (alr h13 7 x15 x11) fun x16 =>
    bO (gr h13 6 x16 4) fun x17 =>
    bO (gr h13 10 x1 7) fun x18 =>
    bO (acp h13 x17 (0 : Int32) x18 (x11 * (8 : Int32)) (8 : Int32)) fun h14 =>
    aLet (x11 + (1 : Int32)) fun x19 =>
    r77 x19 h14
  else
  k120 h13
def m_X10_begin_L41 (x1 : Nat) (k75 : aH → Option (Unit × aH)) (r41 : Int32 → aH → Option (Unit × aH)) (x20 : Int32) (h15 : aH) : Option (Unit × aH) :=
  bO (gr h15 10 x1 6) fun x21 =>
  bO (aln h15 x21) fun x22 =>
  if x20 < x22 then
    bO (gr h15 10 x1 6) fun x23 =>
    bO (gr h15 10 x1 0) fun x24 =>
    bO (gr h15 8 x24 4) fun x25 =>
    bO (ali h15 1 x25 x20) fun x26 =>
    bO (asi h15 x23 x20 (iMax (0 : Int32) x26)) fun h16 =>
    aLet (x20 + (1 : Int32)) fun x27 =>
    r41 x27 h16
  else
  k75 h15
def m_X10_begin (x1 : Nat) (x2 : Nat) (h0 : aH) : Option (Unit × aH) :=
  bO (pr h0 10 x1 0 x2) fun h1 =>
  bO (pi h1 10 x1 1 (0 : Int32)) fun h2 =>
  bO (gr h2 10 x1 2) fun x3 =>
  bR (m_J7_fill_53178 x3 (0 : Int32) h2) fun _ h3 =>
  bO (gr h3 10 x1 3) fun x4 =>
  bR (m_J7_fill_53178 x4 (0 : Int32) h3) fun _ h4 =>
  bO (gr h4 10 x1 4) fun x5 =>
  bR (m_J7_fill_53178 x5 (0 : Int32) h4) fun _ h5 =>
  bO (pi h5 10 x1 5 (0 : Int32)) fun h6 =>
  aJ (fun (h7 : aH) =>
  aJ (fun (h8 : aH) =>
  bO (gr h8 10 x1 8) fun x6 =>
  bR (m_J7_fill_53178 x6 (0 : Int32) h8) fun _ h9 =>
  bO (gr h9 10 x1 11) fun x7 =>
  bR (m_J7_fill_53178 x7 (0 : Int32) h9) fun _ h10 =>
  bO (gr h10 10 x1 0) fun x8 =>
  bO (gi h10 8 x8 7) fun x9 =>
  bO (pi h10 10 x1 13 (((1 : Int32) <<< (x9 &&& 31)) - (1 : Int32))) fun h11 =>
  bO (gr h11 10 x1 14) fun x10 =>
  bO (pi h11 0 x10 0 (0 : Int32)) fun h12 =>
  some ((), h12)) fun k120 =>
  aL1 (m_X10_begin_L77 x1 k120) FU (0 : Int32) h7) fun k75 =>
  aL1 (m_X10_begin_L41 x1 k75) FU (0 : Int32) h6
def m_X10_lostAt (x1 : Nat) (x2 : Int32) (x3 : Int32) (h0 : aH) : Option (Int32 × aH) :=
  bO (gr h0 10 x1 3) fun x4 =>
  bO (ali h0 1 x4 x2) fun x5 =>
  bO (gi h0 10 x1 1) fun x6 =>
  aLet (iMin (iMax x5 x6) x3) fun x7 =>
  bO (gr h0 10 x1 0) fun x8 =>
  bO (gr h0 8 x8 0) fun x9 =>
  bO (gi h0 10 x1 1) fun x10 =>
  gS h0 5 x9 <|
  bR (m_X5_minutesIn x9 x10 x7 h0) fun x11 h1 =>
  bO (gr h1 10 x1 0) fun x12 =>
  bO (gr h1 8 x12 0) fun x13 =>
  gS h1 5 x13 <|
  bR (m_X5_minutesIn x13 x7 x3 h1) fun x14 h2 =>
  bO (gr h2 10 x1 2) fun x15 =>
  bO (ali h2 1 x15 x2) fun x16 =>
  some (iMax (0 : Int32) ((x16 + x11) - x14), h2)
def m_X10_firstRested_L22 (x1 : Nat) (x2 : Int32) (k69 : Int32 → aH → Option (Int32 × aH)) (r22 : Int32 → Int32 → aH → Option (Int32 × aH)) (x7 : Int32) (x8 : Int32) (h3 : aH) : Option (Int32 × aH) :=
  if x8 ≤ 0 then
    k69 x7 h3
  else
  aLet (x7 + x8) fun x9 =>
  aJ (fun (x10 : Int32) (h4 : aH) =>
  bO (dvI x8 (2 : Int32)) fun x11 =>
  r22 x10 x11 h4) fun k62 =>
  if x9 ≤ (20160 : Int32) then
    gS h3 10 x1 <|
    bR (m_X10_lostAt x1 x2 x9 h3) fun x12 h5 =>
    bO (gr h5 10 x1 0) fun x13 =>
    bO (gr h5 8 x13 0) fun x14 =>
    bO (gi h5 5 x14 3) fun x15 =>
    if x12 < x15 then
      k62 x7 h5
    else
    k62 x9 h5
  else
  k62 x7 h3
def m_X10_firstRested (x1 : Nat) (x2 : Int32) (h0 : aH) : Option (Int32 × aH) :=
  gS h0 10 x1 <|
  bR (m_X10_isTired x1 x2 h0) fun x3 h1 =>
  if x3 = 0 then
    bO (gi h1 10 x1 1) fun x4 =>
    some (x4, h1)
  else
  bO (gi h1 10 x1 1) fun x5 =>
  aJ (fun (x6 : Int32) (h2 : aH) =>
  some (x6 + (1 : Int32), h2)) fun k69 =>
  aL2 (m_X10_firstRested_L22 x1 x2 k69) FU x5 (16384 : Int32) h1
def m_X10_bestRow_L76 (x1 : Nat) (x10 : Int32) (k148 : aH → Option (Int32 × aH)) (r76 : Int32 → aH → Option (Int32 × aH)) (x14 : Int32) (h7 : aH) : Option (Int32 × aH) :=
  bO (gr h7 10 x1 0) fun x15 =>
  bO (gi h7 8 x15 1) fun x16 =>
  if x14 < x16 then
    aJ (fun (x17 : Int32) (h8 : aH) =>
    bO (gr h8 10 x1 15) fun x18 =>
    bO (gr h8 10 x1 15) fun x19 =>
    bO (ali h8 1 x19 x14) fun x20 =>
    bO (asi h8 x18 x14 (iMax x20 x17)) fun h9 =>
    aLet (x14 + (1 : Int32)) fun x21 =>
    r76 x21 h9) fun k121 =>
    if x10 = x14 then
      k121 (0 : Int32) h7
    else
    bO (gr h7 10 x1 15) fun x22 =>
    bO (ali h7 1 x22 x10) fun x23 =>
    bO (gr h7 10 x1 6) fun x24 =>
    bR (m_X11_pair x10 x14 h7) fun x25 h10 =>
    bO (ali h10 1 x24 x25) fun x26 =>
    k121 (iMin x23 x26) h10
  else
  k148 h7
def m_X10_bestRow_L61 (x1 : Nat) (k154 : aH → Option (Int32 × aH)) (r61 : Int32 → aH → Option (Int32 × aH)) (x10 : Int32) (h5 : aH) : Option (Int32 × aH) :=
  bO (gr h5 10 x1 0) fun x11 =>
  bO (gi h5 8 x11 1) fun x12 =>
  if x10 < x12 then
    aJ (fun (h6 : aH) =>
    aLet (x10 + (1 : Int32)) fun x13 =>
    r61 x13 h6) fun k148 =>
    aL1 (m_X10_bestRow_L76 x1 x10 k148) FU (0 : Int32) h5
  else
  k154 h5
def m_X10_bestRow_L47 (x1 : Nat) (k160 : aH → Option (Int32 × aH)) (r47 : Int32 → aH → Option (Int32 × aH)) (x6 : Int32) (h3 : aH) : Option (Int32 × aH) :=
  bO (gr h3 10 x1 0) fun x7 =>
  bO (gi h3 8 x7 1) fun x8 =>
  if x6 < x8 then
    aJ (fun (h4 : aH) =>
    aLet (x6 + (1 : Int32)) fun x9 =>
    r47 x9 h4) fun k154 =>
    aL1 (m_X10_bestRow_L61 x1 k154) FU (0 : Int32) h3
  else
  k160 h3
def m_X10_bestRow_L2 (x1 : Nat) (x2 : Int32) (k45 : aH → Option (Int32 × aH)) (r2 : Int32 → aH → Option (Int32 × aH)) (x27 : Int32) (h11 : aH) : Option (Int32 × aH) :=
  bO (gr h11 10 x1 0) fun x28 =>
  bO (gi h11 8 x28 1) fun x29 =>
  if x27 < x29 then
    bO (gr h11 10 x1 15) fun x30 =>
    aJ (fun (x31 : Int32) (h12 : aH) =>
    bO (asi h12 x30 x27 x31) fun h13 =>
    aLet (x27 + (1 : Int32)) fun x32 =>
    r2 x32 h13) fun k38 =>
    if x27 = x2 then
      k38 (9 : Int32) h11
    else
    bO (gr h11 10 x1 6) fun x33 =>
    bR (m_X11_pair x2 x27 h11) fun x34 h14 =>
    bO (ali h14 1 x33 x34) fun x35 =>
    k38 x35 h14
  else
  k45 h11
def m_X10_bestRow (x1 : Nat) (x2 : Int32) (x3 : Int32) (h0 : aH) : Option (Int32 × aH) :=
  aJ (fun (h1 : aH) =>
  aJ (fun (h2 : aH) =>
  bO (gr h2 10 x1 15) fun x4 =>
  bO (ali h2 1 x4 x3) fun x5 =>
  some (x5, h2)) fun k160 =>
  aL1 (m_X10_bestRow_L47 x1 k160) FU (0 : Int32) h1) fun k45 =>
  aL1 (m_X10_bestRow_L2 x1 x2 k45) FU (0 : Int32) h0
def m_X10_endAt (x1 : Nat) (x2 : Int32) (x3 : Int32) (h0 : aH) : Option (Int32 × aH) :=
  gS h0 10 x1 <|
  bR (m_X10_handOnsAt x1 x2 x3 h0) fun x4 h1 =>
  if x4 ≤ 0 then
    bO (gr h1 10 x1 0) fun x5 =>
    bO (gr h1 8 x5 6) fun x6 =>
    bO (alr h1 7 x6 x2) fun x7 =>
    bO (gi h1 6 x7 2) fun x8 =>
    aLet (iMax (1 : Int32) x8) fun x9 =>
    bO (dvI x3 x9) fun x10 =>
    some ((x10 + (1 : Int32)) * x9, h1)
  else
  bO (gr h1 10 x1 10) fun x11 =>
  bO (ali h1 1 x11 (((x2 * (3 : Int32)) + x4) - (1 : Int32))) fun x12 =>
  some (x12, h1)
def m_X10_isInChain_L2 (x1 : Nat) (x2 : Int32) (x3 : Int32) (k30 : aH → Option (Int32 × aH)) (k22 : aH → Option (Int32 × aH)) (r2 : Int32 → aH → Option (Int32 × aH)) (x4 : Int32) (h3 : aH) : Option (Int32 × aH) :=
  bO (gr h3 10 x1 8) fun x5 =>
  bO (ali h3 1 x5 x2) fun x6 =>
  if x4 ≤ x6 then
    gS h3 10 x1 <|
    bR (m_X10_chainPerson x1 x2 x4 h3) fun x7 h4 =>
    if x7 = x3 then
      k22 h4
    else
    aLet (x4 + (1 : Int32)) fun x8 =>
    r2 x8 h4
  else
  k30 h3
def m_X10_isInChain (x1 : Nat) (x2 : Int32) (x3 : Int32) (h0 : aH) : Option (Int32 × aH) :=
  aJ (fun (h1 : aH) =>
  some ((0 : Int32), h1)) fun k30 =>
  aJ (fun (h2 : aH) =>
  some ((1 : Int32), h2)) fun k22 =>
  aL1 (m_X10_isInChain_L2 x1 x2 x3 k30 k22) FU (0 : Int32) h0
def m_X10_isTrustedByChain_L2 (x1 : Nat) (x2 : Int32) (x3 : Int32) (k50 : aH → Option (Int32 × aH)) (k42 : aH → Option (Int32 × aH)) (r2 : Int32 → aH → Option (Int32 × aH)) (x4 : Int32) (h3 : aH) : Option (Int32 × aH) :=
  bO (gr h3 10 x1 8) fun x5 =>
  bO (ali h3 1 x5 x2) fun x6 =>
  if x4 ≤ x6 then
    bO (gr h3 10 x1 6) fun x7 =>
    gS h3 10 x1 <|
    bR (m_X10_chainPerson x1 x2 x4 h3) fun x8 h4 =>
    bR (m_X11_pair x8 x3 h4) fun x9 h5 =>
    bO (ali h5 1 x7 x9) fun x10 =>
    bO (gr h5 10 x1 0) fun x11 =>
    bO (gr h5 8 x11 6) fun x12 =>
    bO (alr h5 7 x12 x2) fun x13 =>
    bO (gi h5 6 x13 1) fun x14 =>
    if x10 < x14 then
      k42 h5
    else
    aLet (x4 + (1 : Int32)) fun x15 =>
    r2 x15 h5
  else
  k50 h3
def m_X10_isTrustedByChain (x1 : Nat) (x2 : Int32) (x3 : Int32) (h0 : aH) : Option (Int32 × aH) :=
  aJ (fun (h1 : aH) =>
  some ((1 : Int32), h1)) fun k50 =>
  aJ (fun (h2 : aH) =>
  some ((0 : Int32), h2)) fun k42 =>
  aL1 (m_X10_isTrustedByChain_L2 x1 x2 x3 k50 k42) FU (0 : Int32) h0
def m_X10_reasonAgainst (x1 : Nat) (x2 : Int32) (x3 : Int32) (x4 : Int32) (h0 : aH) : Option (Int32 × aH) :=
  bO (gr h0 10 x1 8) fun x5 =>
  bO (ali h0 1 x5 x2) fun x6 =>
  gS h0 10 x1 <|
  bR (m_X10_chainPerson x1 x2 x6 h0) fun x7 h1 =>
  gS h1 10 x1 <|
  bR (m_X10_isOut x1 x7 h1) fun x8 h2 =>
  if x8 = 0 then
    gS h2 10 x1 <|
    bR (m_X10_isInChain x1 x2 x3 h2) fun x9 h3 =>
    if x9 = 0 then
      bO (gi h3 10 x1 5) fun x10 =>
      bR (m_X11_has x10 x3 h3) fun x11 h4 =>
      if x11 = 0 then
        gS h4 10 x1 <|
        bR (m_X10_isOut x1 x3 h4) fun x12 h5 =>
        if x12 = 0 then
          gS h5 10 x1 <|
          bR (m_X10_isTired x1 x3 h5) fun x13 h6 =>
          if x13 = 0 then
            gS h6 10 x1 <|
            bR (m_X10_isTrustedByChain x1 x2 x3 h6) fun x14 h7 =>
            if x14 = 0 then
              some ((6 : Int32), h7)
            else
            bO (gr h7 10 x1 8) fun x15 =>
            bO (ali h7 1 x15 x2) fun x16 =>
            if x16 < (3 : Int32) then
              bO (gi h7 10 x1 1) fun x17 =>
              aJ (fun (x18 : Int32) (h8 : aH) =>
              some (x18, h8)) fun k116 =>
              aJ (fun (h9 : aH) =>
              k116 (8 : Int32) h9) fun k110 =>
              if x4 ≤ x17 then
                k110 h7
              else
              bO (gi h7 10 x1 1) fun x19 =>
              gS h7 10 x1 <|
              bR (m_X10_endAt x1 x2 x19 h7) fun x20 h10 =>
              if x4 ≤ x20 then
                k116 (0 : Int32) h10
              else
              k110 h10
            else
            some ((7 : Int32), h7)
          else
          some ((5 : Int32), h6)
        else
        some ((4 : Int32), h5)
      else
      some ((3 : Int32), h4)
    else
    some ((2 : Int32), h3)
  else
  some ((1 : Int32), h2)
def m_X10_addHandOn (x1 : Nat) (x2 : Int32) (x3 : Int32) (x4 : Int32) (h0 : aH) : Option (Unit × aH) :=
  bO (gr h0 10 x1 8) fun x5 =>
  bO (ali h0 1 x5 x2) fun x6 =>
  aJ (fun (h1 : aH) =>
  some ((), h1)) fun k52 =>
  if x6 < (3 : Int32) then
    bO (gr h0 10 x1 9) fun x7 =>
    bO (gr h0 10 x1 8) fun x8 =>
    bO (ali h0 1 x8 x2) fun x9 =>
    bO (asi h0 x7 ((x2 * (3 : Int32)) + x9) x3) fun h2 =>
    bO (gr h2 10 x1 10) fun x10 =>
    bO (gr h2 10 x1 8) fun x11 =>
    bO (ali h2 1 x11 x2) fun x12 =>
    bO (asi h2 x10 ((x2 * (3 : Int32)) + x12) x4) fun h3 =>
    bO (gr h3 10 x1 8) fun x13 =>
    bO (ali h3 1 x13 x2) fun x14 =>
    bO (asi h3 x13 x2 (x14 + (1 : Int32))) fun h4 =>
    k52 h4
  else
  k52 h0
def m_X10_dropHandOn (x1 : Nat) (x2 : Int32) (h0 : aH) : Option (Unit × aH) :=
  bO (gr h0 10 x1 8) fun x3 =>
  bO (gr h0 10 x1 8) fun x4 =>
  bO (ali h0 1 x4 x2) fun x5 =>
  bO (asi h0 x3 x2 (iMax (0 : Int32) (x5 - (1 : Int32)))) fun h1 =>
  some ((), h1)
def m_X10_dutyUpTo_L34 (x1 : Nat) (x2 : Int32) (x7 : Int32) (k91 : Int32 → Int32 → aH → Option (Int32 × aH)) (r34 : Int32 → Int32 → Int32 → aH → Option (Int32 × aH)) (x14 : Int32) (x15 : Int32) (x16 : Int32) (h5 : aH) : Option (Int32 × aH) :=
  bO (gr h5 10 x1 0) fun x17 =>
  bO (gi h5 8 x17 5) fun x18 =>
  if x16 < x18 then
    gS h5 10 x1 <|
    bR (m_X10_endAt x1 x16 x7 h5) fun x19 h6 =>
    aLet (iMin x14 x19) fun x20 =>
    aJ (fun (x21 : Int32) (h7 : aH) =>
    aLet (x16 + (1 : Int32)) fun x22 =>
    r34 x20 x21 x22 h7) fun k83 =>
    aJ (fun (h8 : aH) =>
    k83 (1 : Int32) h8) fun k78 =>
    if x15 = 0 then
      gS h6 10 x1 <|
      bR (m_X10_holderThen x1 x16 x7 h6) fun x23 h9 =>
      if x23 = x2 then
        k78 h9
      else
      k83 (0 : Int32) h9
    else
    k78 h6
  else
  k91 x14 x15 h5
def m_X10_dutyUpTo_L11 (x1 : Nat) (x2 : Int32) (x3 : Int32) (k118 : Int32 → aH → Option (Int32 × aH)) (r11 : Int32 → Int32 → Int32 → aH → Option (Int32 × aH)) (x6 : Int32) (x7 : Int32) (x8 : Int32) (h2 : aH) : Option (Int32 × aH) :=
  if x8 < (1440 : Int32) then
    if x7 < x3 then
      aJ (fun (x9 : Int32) (x10 : Int32) (h3 : aH) =>
      aJ (fun (x11 : Int32) (h4 : aH) =>
      aLet (x6 + x11) fun x12 =>
      aLet (x8 + (1 : Int32)) fun x13 =>
      r11 x12 x9 x13 h4) fun k106 =>
      if x10 = 0 then
        k106 (0 : Int32) h3
      else
      k106 (x9 - x7) h3) fun k91 =>
      aL3 (m_X10_dutyUpTo_L34 x1 x2 x7 k91) FU x3 (0 : Int32) (0 : Int32) h2
    else
    k118 x6 h2
  else
  k118 x6 h2
def m_X10_dutyUpTo (x1 : Nat) (x2 : Int32) (x3 : Int32) (h0 : aH) : Option (Int32 × aH) :=
  bO (gi h0 10 x1 1) fun x4 =>
  aJ (fun (x5 : Int32) (h1 : aH) =>
  some (x5, h1)) fun k118 =>
  aL3 (m_X10_dutyUpTo_L11 x1 x2 x3 k118) FU (0 : Int32) x4 (0 : Int32) h0
def m_X10_growTrustIn_L10 (x1 : Nat) (x2 : Int32) (x3 : Int32) (k50 : aH → Option (Unit × aH)) (r10 : Int32 → aH → Option (Unit × aH)) (x5 : Int32) (h4 : aH) : Option (Unit × aH) :=
  if x5 < (12 : Int32) then
    aJ (fun (h5 : aH) =>
    aLet (x5 + (1 : Int32)) fun x6 =>
    r10 x6 h5) fun k44 =>
    if x3 = x5 then
      k44 h4
    else
    bR (m_X11_has x2 x3 h4) fun x7 h6 =>
    if x7 = 0 then
      k44 h6
    else
    bR (m_X11_has x2 x5 h6) fun x8 h7 =>
    if x8 = 0 then
      k44 h7
    else
    gS h7 10 x1 <|
    bR (m_X10_shiftTrust x1 x3 x5 (1 : Int32) h7) fun _ h8 =>
    k44 h8
  else
  k50 h4
def m_X10_growTrustIn_L2 (x1 : Nat) (x2 : Int32) (k56 : aH → Option (Unit × aH)) (r2 : Int32 → aH → Option (Unit × aH)) (x3 : Int32) (h2 : aH) : Option (Unit × aH) :=
  if x3 < (12 : Int32) then
    aJ (fun (h3 : aH) =>
    aLet (x3 + (1 : Int32)) fun x4 =>
    r2 x4 h3) fun k50 =>
    aL1 (m_X10_growTrustIn_L10 x1 x2 x3 k50) FU (0 : Int32) h2
  else
  k56 h2
def m_X10_growTrustIn (x1 : Nat) (x2 : Int32) (h0 : aH) : Option (Unit × aH) :=
  aJ (fun (h1 : aH) =>
  some ((), h1)) fun k56 =>
  aL1 (m_X10_growTrustIn_L2 x1 x2 k56) FU (0 : Int32) h0
def m_X10_advance_L74 (x1 : Nat) (x4 : Int32) (k126 : Int32 → aH → Option (Int32 × aH)) (r74 : Int32 → Int32 → aH → Option (Int32 × aH)) (x6 : Int32) (x7 : Int32) (h5 : aH) : Option (Int32 × aH) :=
  bO (gr h5 10 x1 0) fun x8 =>
  bO (gi h5 8 x8 7) fun x9 =>
  if x7 < x9 then
    gS h5 10 x1 <|
    bR (m_X10_isEngineOut x1 x7 h5) fun x10 h6 =>
    aJ (fun (x11 : Int32) (h7 : aH) =>
    aLet (x7 + (1 : Int32)) fun x12 =>
    r74 x11 x12 h7) fun k120 =>
    if x10 = 0 then
      k120 x6 h6
    else
    bO (gr h6 10 x1 11) fun x13 =>
    bO (ali h6 1 x13 x7) fun x14 =>
    if x14 ≤ x4 then
      bO (gr h6 10 x1 12) fun x15 =>
      bO (ali h6 1 x15 x7) fun x16 =>
      gS h6 10 x1 <|
      bR (m_X10_growTrustIn x1 x16 h6) fun _ h8 =>
      aLet (x6 + (1 : Int32)) fun x17 =>
      k120 x17 h8
    else
    k120 x6 h6
  else
  k126 x6 h5
def m_X10_advance_L40 (x1 : Nat) (x4 : Int32) (k69 : aH → Option (Int32 × aH)) (r40 : Int32 → aH → Option (Int32 × aH)) (x18 : Int32) (h9 : aH) : Option (Int32 × aH) :=
  bO (gr h9 10 x1 0) fun x19 =>
  bO (gi h9 8 x19 5) fun x20 =>
  if x18 < x20 then
    bO (gr h9 10 x1 8) fun x21 =>
    gS h9 10 x1 <|
    bR (m_X10_handOnsAt x1 x18 x4 h9) fun x22 h10 =>
    bO (asi h10 x21 x18 x22) fun h11 =>
    aLet (x18 + (1 : Int32)) fun x23 =>
    r40 x23 h11
  else
  k69 h9
def m_X10_advance_L9 (x1 : Nat) (x4 : Int32) (k38 : aH → Option (Int32 × aH)) (r9 : Int32 → aH → Option (Int32 × aH)) (x24 : Int32) (h12 : aH) : Option (Int32 × aH) :=
  bO (gr h12 10 x1 0) fun x25 =>
  bO (gi h12 8 x25 1) fun x26 =>
  if x24 < x26 then
    bO (gr h12 10 x1 2) fun x27 =>
    gS h12 10 x1 <|
    bR (m_X10_lostAt x1 x24 x4 h12) fun x28 h13 =>
    bO (asi h13 x27 x24 x28) fun h14 =>
    aLet (x24 + (1 : Int32)) fun x29 =>
    r9 x29 h14
  else
  k38 h12
def m_X10_advance (x1 : Nat) (x2 : Int32) (h0 : aH) : Option (Int32 × aH) :=
  bO (gi h0 10 x1 1) fun x3 =>
  aLet (x3 + x2) fun x4 =>
  aJ (fun (h1 : aH) =>
  aJ (fun (h2 : aH) =>
  aJ (fun (x5 : Int32) (h3 : aH) =>
  bO (pi h3 10 x1 1 x4) fun h4 =>
  some (x5, h4)) fun k126 =>
  aL2 (m_X10_advance_L74 x1 x4 k126) FU (0 : Int32) (0 : Int32) h2) fun k69 =>
  aL1 (m_X10_advance_L40 x1 x4 k69) FU (0 : Int32) h1) fun k38 =>
  aL1 (m_X10_advance_L9 x1 x4 k38) FU (0 : Int32) h0
def m_X11_init (x1 : Nat) (h0 : aH) : Option (Unit × aH) :=
  bN h0 2 1200 fun x2 h1 =>
  bO (pr h1 11 x1 0 x2) fun h2 =>
  bN h2 19 11 fun x3 h3 =>
  bO (gr h3 11 x1 0) fun x4 =>
  bR (m_X9_init x3 x4 h3) fun _ h4 =>
  bO (pr h4 11 x1 2 x3) fun h5 =>
  bN h5 18 12 fun x5 h6 =>
  bR (m_X8_init x5 h6) fun _ h7 =>
  bO (pr h7 11 x1 3 x5) fun h8 =>
  bN h8 18 12 fun x6 h9 =>
  bR (m_X8_init x6 h9) fun _ h10 =>
  bO (pr h10 11 x1 4 x6) fun h11 =>
  bN h11 20 16 fun x7 h12 =>
  bO (gr h12 11 x1 3) fun x8 =>
  bR (m_X10_init x7 x8 h12) fun _ h13 =>
  bO (pr h13 11 x1 5 x7) fun h14 =>
  bN h14 20 16 fun x9 h15 =>
  bO (gr h15 11 x1 3) fun x10 =>
  bR (m_X10_init x9 x10 h15) fun _ h16 =>
  bO (pr h16 11 x1 6 x9) fun h17 =>
  bN h17 14 11 fun x11 h18 =>
  bO (gr h18 11 x1 5) fun x12 =>
  bR (m_X4_init x11 x12 h18) fun _ h19 =>
  bO (pr h19 11 x1 7 x11) fun h20 =>
  bN h20 12 4 fun x13 h21 =>
  bO (gr h21 11 x1 3) fun x14 =>
  bR (m_X2_init x13 x14 h21) fun _ h22 =>
  bO (pr h22 11 x1 8 x13) fun h23 =>
  bO (gr h23 11 x1 3) fun x15 =>
  bO (gr h23 8 x15 0) fun x16 =>
  gS h23 5 x16 <|
  bR (m_X5_set x16 (22 : Int32) (6 : Int32) (5 : Int32) (240 : Int32) h23) fun _ h24 =>
  some ((), h24)
def m_X11_putFourBytes_L3 (x1 : Nat) (x2 : Int32) (k46 : aH → Option (Unit × aH)) (r3 : Int32 → aH → Option (Unit × aH)) (x3 : Int32) (h2 : aH) : Option (Unit × aH) :=
  if x3 < 0 then
    k46 h2
  else
  bO (gi h2 11 x1 1) fun x4 =>
  aJ (fun (h3 : aH) =>
  aLet (x3 + (-8 : Int32)) fun x5 =>
  r3 x5 h3) fun k40 =>
  if x4 < (1200 : Int32) then
    bO (gr h2 11 x1 0) fun x6 =>
    bO (gi h2 11 x1 1) fun x7 =>
    bO (asb h2 x6 x7 ((x2 >>> (x3 &&& 31)).toInt8.toInt32)) fun h4 =>
    bO (gi h4 11 x1 1) fun x8 =>
    bO (pi h4 11 x1 1 (x8 + (1 : Int32))) fun h5 =>
    k40 h5
  else
  k40 h2
def m_X11_putFourBytes (x1 : Nat) (x2 : Int32) (h0 : aH) : Option (Unit × aH) :=
  aJ (fun (h1 : aH) =>
  some ((), h1)) fun k46 =>
  aL1 (m_X11_putFourBytes_L3 x1 x2 k46) FU (24 : Int32) h0
def m_X11_append (x1 : Nat) (x2 : Int32) (x3 : Int32) (x4 : Int32) (x5 : Int32) (x6 : Int32) (h0 : aH) : Option ((Int32 ⊕ String) × aH) :=
  bO (gi h0 11 x1 1) fun x7 =>
  if (x7 + (20 : Int32)) ≤ (1200 : Int32) then
    gS h0 11 x1 <|
    bR (m_X11_putFourBytes x1 x2 h0) fun _ h1 =>
    gS h1 11 x1 <|
    bR (m_X11_putFourBytes x1 x3 h1) fun _ h2 =>
    gS h2 11 x1 <|
    bR (m_X11_putFourBytes x1 x4 h2) fun _ h3 =>
    gS h3 11 x1 <|
    bR (m_X11_putFourBytes x1 x5 h3) fun _ h4 =>
    gS h4 11 x1 <|
    bR (m_X11_putFourBytes x1 x6 h4) fun _ h5 =>
    bO (gi h5 11 x1 1) fun x8 =>
    some (.inl x8, h5)
  else
  some (.inr "java/lang/IllegalStateException", h_exc h0)
def m_X11_truncate (x1 : Nat) (x2 : Int32) (h0 : aH) : Option ((Int32 ⊕ String) × aH) :=
  aJ (fun (h1 : aH) =>
  some (.inr "java/lang/IndexOutOfBoundsException", h_exc h1)) fun k12 =>
  if x2 < 0 then
    k12 h0
  else
  bO (gi h0 11 x1 1) fun x3 =>
  if x2 ≤ x3 then
    bO (pi h0 11 x1 1 x2) fun h2 =>
    bO (gi h2 11 x1 1) fun x4 =>
    some (.inl x4, h2)
  else
  k12 h0
def m_X11_load (x1 : Nat) (h0 : aH) : Option ((Int32 ⊕ String) × aH) :=
  bO (gr h0 11 x1 2) fun x2 =>
  bO (gi h0 11 x1 1) fun x3 =>
  bO (gr h0 11 x1 4) fun x4 =>
  gS h0 9 x2 <|
  bR (m_X9_reads x2 x3 x4 h0) fun x5 h1 =>
  bO (pi h1 11 x1 1 (0 : Int32)) fun h2 =>
  if x5 = 0 then
    some (.inr "java/lang/IllegalArgumentException", h_exc h2)
  else
  bO (gr h2 11 x1 3) fun x6 =>
  bO (gr h2 11 x1 4) fun x7 =>
  bO (pr h2 11 x1 3 x7) fun h3 =>
  bO (pr h3 11 x1 4 x6) fun h4 =>
  bO (gr h4 11 x1 5) fun x8 =>
  bO (gr h4 11 x1 3) fun x9 =>
  gS h4 10 x8 <|
  bR (m_X10_begin x8 x9 h4) fun _ h5 =>
  bO (gr h5 11 x1 8) fun x10 =>
  gS h5 2 x10 <|
  bR (m_X2_clear x10 h5) fun _ h6 =>
  bO (gr h6 11 x1 3) fun x11 =>
  bO (gi h6 8 x11 1) fun x12 =>
  some (.inl x12, h6)
def m_X11_errorCode (x1 : Nat) (h0 : aH) : Option (Int32 × aH) :=
  bO (gr h0 11 x1 2) fun x2 =>
  bO (gi h0 9 x2 9) fun x3 =>
  some (x3, h0)
def m_X11_errorPosition (x1 : Nat) (h0 : aH) : Option (Int32 × aH) :=
  bO (gr h0 11 x1 2) fun x2 =>
  bO (gi h0 9 x2 10) fun x3 =>
  some (x3, h0)
def m_X11_find (x1 : Nat) (x2 : Int32) (h0 : aH) : Option ((Int32 ⊕ String) × aH) :=
  bO (gr h0 11 x1 2) fun x3 =>
  bO (gi h0 11 x1 1) fun x4 =>
  gS h0 9 x3 <|
  bR (m_X9_wholeAsName x3 x4 h0) fun x5 h1 =>
  bO (pi h1 11 x1 1 (0 : Int32)) fun h2 =>
  aJ (fun (h3 : aH) =>
  some (.inr "java/lang/IllegalArgumentException", h_exc h3)) fun k26 =>
  if x2 < 0 then
    k26 h2
  else
  if x2 ≤ (3 : Int32) then
    aJ (fun (x6 : Int32) (h4 : aH) =>
    if x6 = (-1 : Int32) then
      some (.inr "java/util/NoSuchElementException", h_exc h4)
    else
    some (.inl x6, h4)) fun k57 =>
    if (lg_cmp x5 (-1 : Int64)) = 0 then
      k57 (-1 : Int32) h2
    else
    bO (gr h2 11 x1 3) fun x7 =>
    gS h2 8 x7 <|
    bR (m_X8_numberOf x7 x2 x5 h2) fun x8 h5 =>
    k57 x8 h5
  else
  k26 h2
def m_X11_count (x1 : Nat) (x2 : Int32) (h0 : aH) : Option ((Int32 ⊕ String) × aH) :=
  aJ (fun (h1 : aH) =>
  some (.inr "java/lang/IllegalArgumentException", h_exc h1)) fun k9 =>
  if x2 < 0 then
    k9 h0
  else
  if x2 ≤ (4 : Int32) then
    aJ (fun (x3 : Int32) (h2 : aH) =>
    some (.inl x3, h2)) fun k45 =>
    if x2 = (4 : Int32) then
      bO (gr h0 11 x1 5) fun x4 =>
      bO (gr h0 10 x4 14) fun x5 =>
      bO (gi h0 0 x5 0) fun x6 =>
      k45 x6 h0
    else
    bO (gr h0 11 x1 3) fun x7 =>
    gS h0 8 x7 <|
    bR (m_X8_sizeOf x7 x2 h0) fun x8 h3 =>
    k45 x8 h3
  else
  k9 h0
def m_X11_time (x1 : Nat) (h0 : aH) : Option (Int32 × aH) :=
  bO (gr h0 11 x1 5) fun x2 =>
  bO (gi h0 10 x2 1) fun x3 =>
  some (x3, h0)
def m_X11_nightMinutes (x1 : Nat) (x2 : Int32) (x3 : Int32) (h0 : aH) : Option ((Int32 ⊕ String) × aH) :=
  aJ (fun (h1 : aH) =>
  some (.inr "java/lang/IllegalArgumentException", h_exc h1)) fun k16 =>
  if x2 < 0 then
    k16 h0
  else
  if x3 ≤ (20160 : Int32) then
    if x2 ≤ x3 then
      bO (gr h0 11 x1 3) fun x4 =>
      bO (gr h0 8 x4 0) fun x5 =>
      gS h0 5 x5 <|
      bR (m_X5_minutesIn x5 x2 x3 h0) fun x6 h2 =>
      some (.inl x6, h2)
    else
    k16 h0
  else
  k16 h0
def m_X11_needPerson (x1 : Nat) (x2 : Int32) (h0 : aH) : Option ((Unit ⊕ String) × aH) :=
  aJ (fun (h1 : aH) =>
  some (.inr "java/lang/IndexOutOfBoundsException", h_exc h1)) fun k15 =>
  if x2 < 0 then
    k15 h0
  else
  bO (gr h0 11 x1 3) fun x3 =>
  bO (gi h0 8 x3 1) fun x4 =>
  if x2 < x4 then
    some (.inl (), h0)
  else
  k15 h0
def m_X11_outUntil (x1 : Nat) (x2 : Int32) (h0 : aH) : Option ((Int32 ⊕ String) × aH) :=
  gS h0 11 x1 <|
  bX (m_X11_needPerson x1 x2 h0) fun _ h1 =>
  bO (gr h1 11 x1 5) fun x3 =>
  gS h1 10 x3 <|
  bR (m_X10_isOut x3 x2 h1) fun x4 h2 =>
  aJ (fun (x5 : Int32) (h3 : aH) =>
  some (.inl x5, h3)) fun k29 =>
  if x4 = 0 then
    k29 (-1 : Int32) h2
  else
  bO (gr h2 11 x1 5) fun x6 =>
  bO (gr h2 10 x6 3) fun x7 =>
  bO (ali h2 1 x7 x2) fun x8 =>
  k29 x8 h2
def m_X11_lostSleep (x1 : Nat) (x2 : Int32) (h0 : aH) : Option ((Int32 ⊕ String) × aH) :=
  gS h0 11 x1 <|
  bX (m_X11_needPerson x1 x2 h0) fun _ h1 =>
  bO (gr h1 11 x1 5) fun x3 =>
  bO (gr h1 10 x3 2) fun x4 =>
  bO (ali h1 1 x4 x2) fun x5 =>
  some (.inl x5, h1)
def m_X11_lostSleepAfter (x1 : Nat) (x2 : Int32) (x3 : Int32) (h0 : aH) : Option ((Int32 ⊕ String) × aH) :=
  gS h0 11 x1 <|
  bX (m_X11_needPerson x1 x2 h0) fun _ h1 =>
  aJ (fun (h2 : aH) =>
  some (.inr "java/lang/IllegalArgumentException", h_exc h2)) fun k16 =>
  if x3 < 0 then
    k16 h1
  else
  if x3 ≤ (1440 : Int32) then
    bO (gr h1 11 x1 5) fun x4 =>
    bO (gr h1 11 x1 5) fun x5 =>
    bO (gi h1 10 x5 1) fun x6 =>
    gS h1 10 x4 <|
    bR (m_X10_lostAt x4 x2 (x6 + x3) h1) fun x7 h3 =>
    some (.inl x7, h3)
  else
  k16 h1
def m_X11_restedAt (x1 : Nat) (x2 : Int32) (h0 : aH) : Option ((Int32 ⊕ String) × aH) :=
  gS h0 11 x1 <|
  bX (m_X11_needPerson x1 x2 h0) fun _ h1 =>
  bO (gr h1 11 x1 5) fun x3 =>
  gS h1 10 x3 <|
  bR (m_X10_firstRested x3 x2 h1) fun x4 h2 =>
  if x4 ≤ (20160 : Int32) then
    some (.inl x4, h2)
  else
  some (.inr "java/util/NoSuchElementException", h_exc h2)
def m_X11_arrival (x1 : Nat) (x2 : Int32) (h0 : aH) : Option ((Int32 ⊕ String) × aH) :=
  gS h0 11 x1 <|
  bX (m_X11_needPerson x1 x2 h0) fun _ h1 =>
  bO (gr h1 11 x1 5) fun x3 =>
  gS h1 10 x3 <|
  bR (m_X10_arrivalOf x3 x2 h1) fun x4 h2 =>
  some (.inl x4, h2)
def m_X11_pay (x1 : Nat) (x2 : Int32) (h0 : aH) : Option ((Int32 ⊕ String) × aH) :=
  gS h0 11 x1 <|
  bX (m_X11_needPerson x1 x2 h0) fun _ h1 =>
  bO (gr h1 11 x1 5) fun x3 =>
  bO (gr h1 10 x3 4) fun x4 =>
  bO (ali h1 1 x4 x2) fun x5 =>
  some (.inl x5, h1)
def m_X11_needTwoPersons (x1 : Nat) (x2 : Int32) (x3 : Int32) (h0 : aH) : Option ((Unit ⊕ String) × aH) :=
  gS h0 11 x1 <|
  bX (m_X11_needPerson x1 x2 h0) fun _ h1 =>
  gS h1 11 x1 <|
  bX (m_X11_needPerson x1 x3 h1) fun _ h2 =>
  if x2 = x3 then
    some (.inr "java/lang/IllegalArgumentException", h_exc h2)
  else
  some (.inl (), h2)
def m_X11_trust (x1 : Nat) (x2 : Int32) (x3 : Int32) (h0 : aH) : Option ((Int32 ⊕ String) × aH) :=
  gS h0 11 x1 <|
  bX (m_X11_needTwoPersons x1 x2 x3 h0) fun _ h1 =>
  bO (gr h1 11 x1 5) fun x4 =>
  bO (gr h1 10 x4 6) fun x5 =>
  bR (m_X11_pair x2 x3 h1) fun x6 h2 =>
  bO (ali h2 1 x5 x6) fun x7 =>
  some (.inl x7, h2)
def m_X11_trustPath (x1 : Nat) (x2 : Int32) (x3 : Int32) (h0 : aH) : Option ((Int32 ⊕ String) × aH) :=
  gS h0 11 x1 <|
  bX (m_X11_needTwoPersons x1 x2 x3 h0) fun _ h1 =>
  bO (gr h1 11 x1 5) fun x4 =>
  gS h1 10 x4 <|
  bR (m_X10_bestRow x4 x2 x3 h1) fun x5 h2 =>
  some (.inl x5, h2)
def m_X11_needPager (x1 : Nat) (x2 : Int32) (h0 : aH) : Option ((Unit ⊕ String) × aH) :=
  aJ (fun (h1 : aH) =>
  some (.inr "java/lang/IndexOutOfBoundsException", h_exc h1)) fun k15 =>
  if x2 < 0 then
    k15 h0
  else
  bO (gr h0 11 x1 3) fun x3 =>
  bO (gi h0 8 x3 5) fun x4 =>
  if x2 < x4 then
    some (.inl (), h0)
  else
  k15 h0
def m_X11_chain (x1 : Nat) (x2 : Int32) (x3 : Int32) (h0 : aH) : Option ((Int32 ⊕ String) × aH) :=
  gS h0 11 x1 <|
  bX (m_X11_needPager x1 x2 h0) fun _ h1 =>
  aJ (fun (h2 : aH) =>
  some (.inr "java/lang/IndexOutOfBoundsException", h_exc h2)) fun k22 =>
  if x3 < 0 then
    k22 h1
  else
  bO (gr h1 11 x1 5) fun x4 =>
  bO (gr h1 10 x4 8) fun x5 =>
  bO (ali h1 1 x5 x2) fun x6 =>
  if x3 ≤ x6 then
    bO (gr h1 11 x1 5) fun x7 =>
    gS h1 10 x7 <|
    bR (m_X10_chainPerson x7 x2 x3 h1) fun x8 h3 =>
    some (.inl x8, h3)
  else
  k22 h1
def m_X11_handOns (x1 : Nat) (x2 : Int32) (h0 : aH) : Option ((Int32 ⊕ String) × aH) :=
  gS h0 11 x1 <|
  bX (m_X11_needPager x1 x2 h0) fun _ h1 =>
  bO (gr h1 11 x1 5) fun x3 =>
  bO (gr h1 10 x3 8) fun x4 =>
  bO (ali h1 1 x4 x2) fun x5 =>
  some (.inl x5, h1)
def m_X11_holdingEnd (x1 : Nat) (x2 : Int32) (h0 : aH) : Option ((Int32 ⊕ String) × aH) :=
  gS h0 11 x1 <|
  bX (m_X11_needPager x1 x2 h0) fun _ h1 =>
  bO (gr h1 11 x1 5) fun x3 =>
  bO (gr h1 11 x1 5) fun x4 =>
  bO (gi h1 10 x4 1) fun x5 =>
  gS h1 10 x3 <|
  bR (m_X10_endAt x3 x2 x5 h1) fun x6 h2 =>
  some (.inl x6, h2)
def m_X11_needPlace (x1 : Nat) (x2 : Int32) (x3 : Int32) (h0 : aH) : Option ((Unit ⊕ String) × aH) :=
  aJ (fun (h1 : aH) =>
  some (.inr "java/lang/IndexOutOfBoundsException", h_exc h1)) fun k20 =>
  if x3 < 0 then
    k20 h0
  else
  bO (gr h0 11 x1 3) fun x4 =>
  bO (gr h0 8 x4 6) fun x5 =>
  bO (alr h0 7 x5 x2) fun x6 =>
  bO (gi h0 6 x6 3) fun x7 =>
  if x3 < x7 then
    some (.inl (), h0)
  else
  k20 h0
def m_X11_rotation (x1 : Nat) (x2 : Int32) (x3 : Int32) (h0 : aH) : Option ((Int32 ⊕ String) × aH) :=
  gS h0 11 x1 <|
  bX (m_X11_needPager x1 x2 h0) fun _ h1 =>
  gS h1 11 x1 <|
  bX (m_X11_needPlace x1 x2 x3 h1) fun _ h2 =>
  bO (gr h2 11 x1 5) fun x4 =>
  bO (gr h2 10 x4 7) fun x5 =>
  bO (ali h2 1 x5 ((x2 * (8 : Int32)) + x3)) fun x6 =>
  some (.inl x6, h2)
def m_X11_holderAt (x1 : Nat) (x2 : Int32) (x3 : Int32) (h0 : aH) : Option ((Int32 ⊕ String) × aH) :=
  gS h0 11 x1 <|
  bX (m_X11_needPager x1 x2 h0) fun _ h1 =>
  bO (gr h1 11 x1 5) fun x4 =>
  bO (gi h1 10 x4 1) fun x5 =>
  aJ (fun (h2 : aH) =>
  some (.inr "java/lang/IllegalArgumentException", h_exc h2)) fun k23 =>
  if x3 < x5 then
    k23 h1
  else
  if x3 ≤ (20160 : Int32) then
    bO (gr h1 11 x1 5) fun x6 =>
    gS h1 10 x6 <|
    bR (m_X10_holderThen x6 x2 x3 h1) fun x7 h3 =>
    some (.inl x7, h3)
  else
  k23 h1
def m_X11_dutyMinutes (x1 : Nat) (x2 : Int32) (x3 : Int32) (h0 : aH) : Option ((Int32 ⊕ String) × aH) :=
  gS h0 11 x1 <|
  bX (m_X11_needPerson x1 x2 h0) fun _ h1 =>
  aJ (fun (h2 : aH) =>
  some (.inr "java/lang/IllegalArgumentException", h_exc h2)) fun k17 =>
  if x3 < (1 : Int32) then
    k17 h1
  else
  if x3 ≤ (1440 : Int32) then
    bO (gr h1 11 x1 5) fun x4 =>
    bO (gr h1 11 x1 5) fun x5 =>
    bO (gi h1 10 x5 1) fun x6 =>
    gS h1 10 x4 <|
    bR (m_X10_dutyUpTo x4 x2 (x6 + x3) h1) fun x7 h3 =>
    some (.inl x7, h3)
  else
  k17 h1
def m_X11_whyNotHandOn (x1 : Nat) (x2 : Int32) (x3 : Int32) (x4 : Int32) (h0 : aH) : Option ((Int32 ⊕ String) × aH) :=
  gS h0 11 x1 <|
  bX (m_X11_needPager x1 x2 h0) fun _ h1 =>
  gS h1 11 x1 <|
  bX (m_X11_needPerson x1 x3 h1) fun _ h2 =>
  bO (gr h2 11 x1 5) fun x5 =>
  gS h2 10 x5 <|
  bR (m_X10_reasonAgainst x5 x2 x3 x4 h2) fun x6 h3 =>
  some (.inl x6, h3)
def m_X11_steps (x1 : Nat) (x2 : Int32) (x3 : Int32) (h0 : aH) : Option ((Int32 ⊕ String) × aH) :=
  gS h0 11 x1 <|
  bX (m_X11_needPager x1 x2 h0) fun _ h1 =>
  gS h1 11 x1 <|
  bX (m_X11_needPerson x1 x3 h1) fun _ h2 =>
  bO (gr h2 11 x1 5) fun x4 =>
  bO (gr h2 11 x1 5) fun x5 =>
  bO (gi h2 10 x5 1) fun x6 =>
  gS h2 10 x4 <|
  bR (m_X10_holderThen x4 x2 x6 h2) fun x7 h3 =>
  if x7 = x3 then
    some (.inl (0 : Int32), h3)
  else
  bO (gr h3 11 x1 5) fun x8 =>
  bO (gr h3 11 x1 5) fun x9 =>
  bO (gr h3 11 x1 5) fun x10 =>
  bO (gi h3 10 x10 1) fun x11 =>
  gS h3 10 x9 <|
  bR (m_X10_endAt x9 x2 x11 h3) fun x12 h4 =>
  gS h4 10 x8 <|
  bR (m_X10_reasonAgainst x8 x2 x3 x12 h4) fun x13 h5 =>
  if x13 = 0 then
    some (.inl (1 : Int32), h5)
  else
  some (.inr "java/util/NoSuchElementException", h_exc h5)
def m_X11_needEngine (x1 : Nat) (x2 : Int32) (h0 : aH) : Option ((Unit ⊕ String) × aH) :=
  aJ (fun (h1 : aH) =>
  some (.inr "java/lang/IndexOutOfBoundsException", h_exc h1)) fun k15 =>
  if x2 < 0 then
    k15 h0
  else
  bO (gr h0 11 x1 3) fun x3 =>
  bO (gi h0 8 x3 7) fun x4 =>
  if x2 < x4 then
    some (.inl (), h0)
  else
  k15 h0
def m_X11_returnsAt (x1 : Nat) (x2 : Int32) (h0 : aH) : Option ((Int32 ⊕ String) × aH) :=
  gS h0 11 x1 <|
  bX (m_X11_needEngine x1 x2 h0) fun _ h1 =>
  bO (gr h1 11 x1 5) fun x3 =>
  gS h1 10 x3 <|
  bR (m_X10_isEngineOut x3 x2 h1) fun x4 h2 =>
  aJ (fun (x5 : Int32) (h3 : aH) =>
  some (.inl x5, h3)) fun k29 =>
  if x4 = 0 then
    k29 (-1 : Int32) h2
  else
  bO (gr h2 11 x1 5) fun x6 =>
  bO (gr h2 10 x6 11) fun x7 =>
  bO (ali h2 1 x7 x2) fun x8 =>
  k29 x8 h2
def m_X11_needCall (x1 : Nat) (x2 : Int32) (h0 : aH) : Option ((Unit ⊕ String) × aH) :=
  aJ (fun (h1 : aH) =>
  some (.inr "java/lang/IndexOutOfBoundsException", h_exc h1)) fun k18 =>
  if x2 < 0 then
    k18 h0
  else
  bO (gr h0 11 x1 5) fun x3 =>
  bO (gr h0 10 x3 14) fun x4 =>
  bO (gi h0 0 x4 0) fun x5 =>
  if x2 < x5 then
    some (.inl (), h0)
  else
  k18 h0
def m_X11_cost (x1 : Nat) (x2 : Int32) (h0 : aH) : Option ((Int32 ⊕ String) × aH) :=
  gS h0 11 x1 <|
  bX (m_X11_needCall x1 x2 h0) fun _ h1 =>
  bO (gr h1 11 x1 5) fun x3 =>
  bO (gr h1 10 x3 14) fun x4 =>
  bO (gr h1 0 x4 1) fun x5 =>
  bO (ali h1 1 x5 x2) fun x6 =>
  some (.inl x6, h1)
def m_X11_isAnswered (x1 : Nat) (x2 : Int32) (h0 : aH) : Option ((Int32 ⊕ String) × aH) :=
  gS h0 11 x1 <|
  bX (m_X11_needCall x1 x2 h0) fun _ h1 =>
  bO (gr h1 11 x1 5) fun x3 =>
  bO (gr h1 10 x3 14) fun x4 =>
  bO (gi h1 0 x4 2) fun x5 =>
  bR (m_X11_has x5 x2 h1) fun x6 h2 =>
  bO (zO x6) fun x7 =>
  some (.inl x7, h2)
def m_X11_came (x1 : Nat) (x2 : Int32) (h0 : aH) : Option ((Int32 ⊕ String) × aH) :=
  gS h0 11 x1 <|
  bX (m_X11_needCall x1 x2 h0) fun _ h1 =>
  bO (gr h1 11 x1 5) fun x3 =>
  bO (gr h1 10 x3 14) fun x4 =>
  bO (gr h1 0 x4 3) fun x5 =>
  bO (ali h1 1 x5 x2) fun x6 =>
  some (.inl x6, h1)
def m_X11_left (x1 : Nat) (x2 : Int32) (h0 : aH) : Option ((Int32 ⊕ String) × aH) :=
  gS h0 11 x1 <|
  bX (m_X11_needCall x1 x2 h0) fun _ h1 =>
  bO (gr h1 11 x1 5) fun x3 =>
  bO (gr h1 10 x3 14) fun x4 =>
  bO (gr h1 0 x4 4) fun x5 =>
  bO (ali h1 1 x5 x2) fun x6 =>
  some (.inl x6, h1)
def m_X11_needLeaver (x1 : Nat) (x2 : Int32) (x3 : Int32) (h0 : aH) : Option ((Unit ⊕ String) × aH) :=
  gS h0 11 x1 <|
  bX (m_X11_needCall x1 x2 h0) fun _ h1 =>
  aJ (fun (h2 : aH) =>
  some (.inr "java/lang/IndexOutOfBoundsException", h_exc h2)) fun k25 =>
  if x3 < 0 then
    k25 h1
  else
  bO (gr h1 11 x1 5) fun x4 =>
  bO (gr h1 10 x4 14) fun x5 =>
  bO (gr h1 0 x5 4) fun x6 =>
  bO (ali h1 1 x6 x2) fun x7 =>
  if x3 < x7 then
    some (.inl (), h1)
  else
  k25 h1
def m_X11_engine (x1 : Nat) (x2 : Int32) (x3 : Int32) (h0 : aH) : Option ((Int32 ⊕ String) × aH) :=
  gS h0 11 x1 <|
  bX (m_X11_needLeaver x1 x2 x3 h0) fun _ h1 =>
  bO (gr h1 11 x1 5) fun x4 =>
  bO (gr h1 10 x4 14) fun x5 =>
  bO (gr h1 0 x5 5) fun x6 =>
  bO (ali h1 1 x6 ((x2 * (5 : Int32)) + x3)) fun x7 =>
  some (.inl x7, h1)
def m_X11_leftAt (x1 : Nat) (x2 : Int32) (x3 : Int32) (h0 : aH) : Option ((Int32 ⊕ String) × aH) :=
  gS h0 11 x1 <|
  bX (m_X11_needLeaver x1 x2 x3 h0) fun _ h1 =>
  bO (gr h1 11 x1 5) fun x4 =>
  bO (gr h1 10 x4 14) fun x5 =>
  bO (gr h1 0 x5 6) fun x6 =>
  bO (ali h1 1 x6 ((x2 * (5 : Int32)) + x3)) fun x7 =>
  some (.inl x7, h1)
def m_X11_nthOf_L4 (x1 : Int32) (x2 : Int32) (k34 : aH → Option (Int32 × aH)) (k23 : Int32 → aH → Option (Int32 × aH)) (r4 : Int32 → Int32 → aH → Option (Int32 × aH)) (x4 : Int32) (x5 : Int32) (h3 : aH) : Option (Int32 × aH) :=
  if x5 < (12 : Int32) then
    bR (m_X11_has x1 x5 h3) fun x6 h4 =>
    aJ (fun (x7 : Int32) (h5 : aH) =>
    aLet (x5 + (1 : Int32)) fun x8 =>
    r4 x7 x8 h5) fun k28 =>
    if x6 = 0 then
      k28 x4 h4
    else
    if x4 = x2 then
      k23 x5 h4
    else
    aLet (x4 + (1 : Int32)) fun x9 =>
    k28 x9 h4
  else
  k34 h3
def m_X11_nthOf (x1 : Int32) (x2 : Int32) (h0 : aH) : Option (Int32 × aH) :=
  aJ (fun (h1 : aH) =>
  some ((-1 : Int32), h1)) fun k34 =>
  aJ (fun (x3 : Int32) (h2 : aH) =>
  some (x3, h2)) fun k23 =>
  aL2 (m_X11_nthOf_L4 x1 x2 k34 k23) FU (0 : Int32) (0 : Int32) h0
def m_X11_member (x1 : Nat) (x2 : Int32) (x3 : Int32) (x4 : Int32) (h0 : aH) : Option ((Int32 ⊕ String) × aH) :=
  gS h0 11 x1 <|
  bX (m_X11_needLeaver x1 x2 x3 h0) fun _ h1 =>
  bO (gr h1 11 x1 5) fun x5 =>
  bO (gr h1 10 x5 14) fun x6 =>
  bO (gr h1 0 x6 7) fun x7 =>
  bO (ali h1 1 x7 ((x2 * (5 : Int32)) + x3)) fun x8 =>
  bR (m_X11_nthOf x8 x4 h1) fun x9 h2 =>
  if x9 = (-1 : Int32) then
    some (.inr "java/lang/IndexOutOfBoundsException", h_exc h2)
  else
  some (.inl x9, h2)
def m_X11_totalCost_L4 (x1 : Nat) (k39 : Int32 → aH → Option (Int32 × aH)) (r4 : Int32 → Int32 → aH → Option (Int32 × aH)) (x3 : Int32) (x4 : Int32) (h2 : aH) : Option (Int32 × aH) :=
  bO (gr h2 11 x1 5) fun x5 =>
  bO (gr h2 10 x5 14) fun x6 =>
  bO (gi h2 0 x6 0) fun x7 =>
  if x4 < x7 then
    bO (gr h2 11 x1 5) fun x8 =>
    bO (gr h2 10 x8 14) fun x9 =>
    bO (gr h2 0 x9 1) fun x10 =>
    bO (ali h2 1 x10 x4) fun x11 =>
    aLet (x3 + x11) fun x12 =>
    aLet (x4 + (1 : Int32)) fun x13 =>
    r4 x12 x13 h2
  else
  k39 x3 h2
def m_X11_totalCost (x1 : Nat) (h0 : aH) : Option (Int32 × aH) :=
  aJ (fun (x2 : Int32) (h1 : aH) =>
  some (x2, h1)) fun k39 =>
  aL2 (m_X11_totalCost_L4 x1 k39) FU (0 : Int32) (0 : Int32) h0
def m_X11_needKind (x1 : Nat) (x2 : Int32) (h0 : aH) : Option ((Unit ⊕ String) × aH) :=
  aJ (fun (h1 : aH) =>
  some (.inr "java/lang/IndexOutOfBoundsException", h_exc h1)) fun k15 =>
  if x2 < 0 then
    k15 h0
  else
  bO (gr h0 11 x1 3) fun x3 =>
  bO (gi h0 8 x3 9) fun x4 =>
  if x2 < x4 then
    some (.inl (), h0)
  else
  k15 h0
def m_X11_whyAbsent (x1 : Nat) (x2 : Int32) (x3 : Int32) (h0 : aH) : Option ((Int32 ⊕ String) × aH) :=
  gS h0 11 x1 <|
  bX (m_X11_needKind x1 x2 h0) fun _ h1 =>
  gS h1 11 x1 <|
  bX (m_X11_needPerson x1 x3 h1) fun _ h2 =>
  bO (gr h2 11 x1 7) fun x4 =>
  bO (gr h2 11 x1 5) fun x5 =>
  bO (gr h2 11 x1 3) fun x6 =>
  bO (gr h2 8 x6 10) fun x7 =>
  bO (alr h2 9 x7 x2) fun x8 =>
  gS h2 4 x4 <|
  bR (m_X4_foresee x4 x5 x8 h2) fun x9 h3 =>
  bO (gr h3 11 x1 7) fun x10 =>
  bO (gr h3 4 x10 2) fun x11 =>
  bO (ali h3 1 x11 x3) fun x12 =>
  some (.inl x12, h3)
def m_X11_needKindEngine (x1 : Nat) (x2 : Int32) (x3 : Int32) (h0 : aH) : Option ((Unit ⊕ String) × aH) :=
  gS h0 11 x1 <|
  bX (m_X11_needKind x1 x2 h0) fun _ h1 =>
  aJ (fun (h2 : aH) =>
  some (.inr "java/lang/IndexOutOfBoundsException", h_exc h2)) fun k25 =>
  if x3 < 0 then
    k25 h1
  else
  bO (gr h1 11 x1 3) fun x4 =>
  bO (gr h1 8 x4 10) fun x5 =>
  bO (alr h1 9 x5 x2) fun x6 =>
  bO (gi h1 3 x6 6) fun x7 =>
  if x3 < x7 then
    some (.inl (), h1)
  else
  k25 h1
def m_X11_whyStays (x1 : Nat) (x2 : Int32) (x3 : Int32) (h0 : aH) : Option ((Int32 ⊕ String) × aH) :=
  gS h0 11 x1 <|
  bX (m_X11_needKindEngine x1 x2 x3 h0) fun _ h1 =>
  bO (gr h1 11 x1 7) fun x4 =>
  bO (gr h1 11 x1 5) fun x5 =>
  bO (gr h1 11 x1 3) fun x6 =>
  bO (gr h1 8 x6 10) fun x7 =>
  bO (alr h1 9 x7 x2) fun x8 =>
  gS h1 4 x4 <|
  bR (m_X4_foresee x4 x5 x8 h1) fun x9 h2 =>
  bO (gr h2 11 x1 7) fun x10 =>
  bO (gr h2 4 x10 6) fun x11 =>
  bO (ali h2 1 x11 x3) fun x12 =>
  some (.inl x12, h2)
def m_X11_needLeaving (x1 : Nat) (x2 : Int32) (h0 : aH) : Option ((Unit ⊕ String) × aH) :=
  bO (gr h0 11 x1 7) fun x3 =>
  bO (gr h0 4 x3 6) fun x4 =>
  bO (ali h0 1 x4 x2) fun x5 =>
  if x5 = 0 then
    some (.inl (), h0)
  else
  some (.inr "java/lang/IllegalStateException", h_exc h0)
def m_X11_departure (x1 : Nat) (x2 : Int32) (x3 : Int32) (h0 : aH) : Option ((Int32 ⊕ String) × aH) :=
  gS h0 11 x1 <|
  bX (m_X11_needKindEngine x1 x2 x3 h0) fun _ h1 =>
  bO (gr h1 11 x1 7) fun x4 =>
  bO (gr h1 11 x1 5) fun x5 =>
  bO (gr h1 11 x1 3) fun x6 =>
  bO (gr h1 8 x6 10) fun x7 =>
  bO (alr h1 9 x7 x2) fun x8 =>
  gS h1 4 x4 <|
  bR (m_X4_foresee x4 x5 x8 h1) fun x9 h2 =>
  gS h2 11 x1 <|
  bX (m_X11_needLeaving x1 x3 h2) fun _ h3 =>
  bO (gr h3 11 x1 7) fun x10 =>
  bO (gr h3 4 x10 9) fun x11 =>
  bO (ali h3 1 x11 x3) fun x12 =>
  some (.inl x12, h3)
def m_X11_mans (x1 : Nat) (x2 : Int32) (x3 : Int32) (x4 : Int32) (h0 : aH) : Option ((Int32 ⊕ String) × aH) :=
  gS h0 11 x1 <|
  bX (m_X11_needKindEngine x1 x2 x3 h0) fun _ h1 =>
  bO (gr h1 11 x1 3) fun x5 =>
  bO (gr h1 8 x5 8) fun x6 =>
  bO (gr h1 11 x1 3) fun x7 =>
  bO (gr h1 8 x7 10) fun x8 =>
  bO (alr h1 9 x8 x2) fun x9 =>
  bO (gr h1 3 x9 7) fun x10 =>
  bO (ali h1 1 x10 x3) fun x11 =>
  bO (alr h1 8 x6 x11) fun x12 =>
  aJ (fun (h2 : aH) =>
  some (.inr "java/lang/IndexOutOfBoundsException", h_exc h2)) fun k43 =>
  if x4 < 0 then
    k43 h1
  else
  bO (gi h1 1 x12 2) fun x13 =>
  if x4 < x13 then
    bO (gr h1 11 x1 7) fun x14 =>
    bO (gr h1 11 x1 5) fun x15 =>
    bO (gr h1 11 x1 3) fun x16 =>
    bO (gr h1 8 x16 10) fun x17 =>
    bO (alr h1 9 x17 x2) fun x18 =>
    gS h1 4 x14 <|
    bR (m_X4_foresee x14 x15 x18 h1) fun x19 h3 =>
    gS h3 11 x1 <|
    bX (m_X11_needLeaving x1 x3 h3) fun _ h4 =>
    bO (gr h4 11 x1 7) fun x20 =>
    bO (gr h4 11 x1 7) fun x21 =>
    bO (gr h4 4 x21 8) fun x22 =>
    bO (ali h4 1 x22 x3) fun x23 =>
    gS h4 4 x20 <|
    bR (m_X4_personAt x20 x12 x23 x4 h4) fun x24 h5 =>
    some (.inl x24, h5)
  else
  k43 h1
def m_X11_manned (x1 : Nat) (x2 : Int32) (x3 : Int32) (h0 : aH) : Option ((Int32 ⊕ String) × aH) :=
  gS h0 11 x1 <|
  bX (m_X11_needKindEngine x1 x2 x3 h0) fun _ h1 =>
  bO (gr h1 11 x1 7) fun x4 =>
  bO (gr h1 11 x1 5) fun x5 =>
  bO (gr h1 11 x1 3) fun x6 =>
  bO (gr h1 8 x6 10) fun x7 =>
  bO (alr h1 9 x7 x2) fun x8 =>
  gS h1 4 x4 <|
  bR (m_X4_foresee x4 x5 x8 h1) fun x9 h2 =>
  bO (gr h2 11 x1 7) fun x10 =>
  bO (gr h2 4 x10 7) fun x11 =>
  bO (ali h2 1 x11 x3) fun x12 =>
  some (.inl x12, h2)
def m_X11_wouldAnswer (x1 : Nat) (x2 : Int32) (h0 : aH) : Option ((Int32 ⊕ String) × aH) :=
  gS h0 11 x1 <|
  bX (m_X11_needKind x1 x2 h0) fun _ h1 =>
  bO (gr h1 11 x1 7) fun x3 =>
  bO (gr h1 11 x1 5) fun x4 =>
  bO (gr h1 11 x1 3) fun x5 =>
  bO (gr h1 8 x5 10) fun x6 =>
  bO (alr h1 9 x6 x2) fun x7 =>
  gS h1 4 x3 <|
  bR (m_X4_foresee x3 x4 x7 h1) fun x8 h2 =>
  bO (zO x8) fun x9 =>
  some (.inl x9, h2)
def m_X11_mostEngines (x1 : Nat) (x2 : Int32) (h0 : aH) : Option ((Int32 ⊕ String) × aH) :=
  gS h0 11 x1 <|
  bX (m_X11_needKind x1 x2 h0) fun _ h1 =>
  bO (gr h1 11 x1 7) fun x3 =>
  bO (gr h1 11 x1 5) fun x4 =>
  bO (gr h1 11 x1 3) fun x5 =>
  bO (gr h1 8 x5 10) fun x6 =>
  bO (alr h1 9 x6 x2) fun x7 =>
  gS h1 4 x3 <|
  bR (m_X4_foresee x3 x4 x7 h1) fun x8 h2 =>
  bO (gr h2 11 x1 7) fun x9 =>
  bO (gr h2 11 x1 3) fun x10 =>
  bO (gr h2 8 x10 10) fun x11 =>
  bO (alr h2 9 x11 x2) fun x12 =>
  gS h2 4 x9 <|
  bR (m_X4_mostTogether x9 x12 h2) fun x13 h3 =>
  some (.inl x13, h3)
def m_X11_hoursUntilAnswered_L18 (x1 : Nat) (x2 : Int32) (k65 : aH → Option ((Int32 ⊕ String) × aH)) (k47 : Int32 → aH → Option ((Int32 ⊕ String) × aH)) (r18 : Int32 → aH → Option ((Int32 ⊕ String) × aH)) (x6 : Int32) (h5 : aH) : Option ((Int32 ⊕ String) × aH) :=
  if x6 ≤ (48 : Int32) then
    bO (gr h5 11 x1 7) fun x7 =>
    bO (gr h5 11 x1 6) fun x8 =>
    bO (gr h5 11 x1 3) fun x9 =>
    bO (gr h5 8 x9 10) fun x10 =>
    bO (alr h5 9 x10 x2) fun x11 =>
    gS h5 4 x7 <|
    bR (m_X4_foresee x7 x8 x11 h5) fun x12 h6 =>
    if x12 = 0 then
      bO (gr h6 11 x1 6) fun x13 =>
      gS h6 10 x13 <|
      bR (m_X10_advance x13 (60 : Int32) h6) fun x14 h7 =>
      aLet (x6 + (1 : Int32)) fun x15 =>
      r18 x15 h7
    else
    k47 x6 h6
  else
  k65 h5
def m_X11_hoursUntilAnswered (x1 : Nat) (x2 : Int32) (h0 : aH) : Option ((Int32 ⊕ String) × aH) :=
  gS h0 11 x1 <|
  bX (m_X11_needKind x1 x2 h0) fun _ h1 =>
  bO (gr h1 11 x1 6) fun x3 =>
  bO (gr h1 11 x1 5) fun x4 =>
  gS h1 10 x3 <|
  bR (m_X10_copyFrom x3 x4 h1) fun _ h2 =>
  aJ (fun (h3 : aH) =>
  some (.inr "java/util/NoSuchElementException", h_exc h3)) fun k65 =>
  aJ (fun (x5 : Int32) (h4 : aH) =>
  some (.inl x5, h4)) fun k47 =>
  aL1 (m_X11_hoursUntilAnswered_L18 x1 x2 k65 k47) FU (0 : Int32) h2
def m_X11_helpfulHandOn_L82 (x1 : Nat) (x2 : Int32) (k154 : Int32 → Int32 → aH → Option ((Int32 ⊕ String) × aH)) (x13 : Int32) (x19 : Int32) (k168 : aH → Option ((Int32 ⊕ String) × aH)) (r82 : Int32 → aH → Option ((Int32 ⊕ String) × aH)) (x21 : Int32) (h9 : aH) : Option ((Int32 ⊕ String) × aH) :=
  bO (gr h9 11 x1 3) fun x22 =>
  bO (gi h9 8 x22 1) fun x23 =>
  if x21 < x23 then
    bO (gr h9 11 x1 6) fun x24 =>
    gS h9 10 x24 <|
    bR (m_X10_reasonAgainst x24 x13 x21 x19 h9) fun x25 h10 =>
    aJ (fun (h11 : aH) =>
    aLet (x21 + (1 : Int32)) fun x26 =>
    r82 x26 h11) fun k162 =>
    if x25 = 0 then
      bO (gr h10 11 x1 6) fun x27 =>
      gS h10 10 x27 <|
      bR (m_X10_addHandOn x27 x13 x21 x19 h10) fun _ h12 =>
      bO (gr h12 11 x1 7) fun x28 =>
      bO (gr h12 11 x1 6) fun x29 =>
      bO (gr h12 11 x1 3) fun x30 =>
      bO (gr h12 8 x30 10) fun x31 =>
      bO (alr h12 9 x31 x2) fun x32 =>
      gS h12 4 x28 <|
      bR (m_X4_foresee x28 x29 x32 h12) fun x33 h13 =>
      bO (gr h13 11 x1 6) fun x34 =>
      gS h13 10 x34 <|
      bR (m_X10_dropHandOn x34 x13 h13) fun _ h14 =>
      if x33 = 0 then
        k162 h14
      else
      k154 x13 x21 h14
    else
    k162 h10
  else
  k168 h9
def m_X11_helpfulHandOn_L52 (x1 : Nat) (x2 : Int32) (k174 : aH → Option ((Int32 ⊕ String) × aH)) (k154 : Int32 → Int32 → aH → Option ((Int32 ⊕ String) × aH)) (r52 : Int32 → aH → Option ((Int32 ⊕ String) × aH)) (x13 : Int32) (h6 : aH) : Option ((Int32 ⊕ String) × aH) :=
  bO (gr h6 11 x1 3) fun x14 =>
  bO (gi h6 8 x14 5) fun x15 =>
  if x13 < x15 then
    bO (gr h6 11 x1 6) fun x16 =>
    bO (gr h6 11 x1 6) fun x17 =>
    bO (gi h6 10 x17 1) fun x18 =>
    gS h6 10 x16 <|
    bR (m_X10_endAt x16 x13 x18 h6) fun x19 h7 =>
    aJ (fun (h8 : aH) =>
    aLet (x13 + (1 : Int32)) fun x20 =>
    r52 x20 h8) fun k168 =>
    aL1 (m_X11_helpfulHandOn_L82 x1 x2 k154 x13 x19 k168) FU (0 : Int32) h7
  else
  k174 h6
def m_X11_helpfulHandOn (x1 : Nat) (x2 : Int32) (h0 : aH) : Option ((Int32 ⊕ String) × aH) :=
  gS h0 11 x1 <|
  bX (m_X11_needKind x1 x2 h0) fun _ h1 =>
  bO (gr h1 11 x1 7) fun x3 =>
  bO (gr h1 11 x1 5) fun x4 =>
  bO (gr h1 11 x1 3) fun x5 =>
  bO (gr h1 8 x5 10) fun x6 =>
  bO (alr h1 9 x6 x2) fun x7 =>
  gS h1 4 x3 <|
  bR (m_X4_foresee x3 x4 x7 h1) fun x8 h2 =>
  if x8 = 0 then
    bO (gr h2 11 x1 6) fun x9 =>
    bO (gr h2 11 x1 5) fun x10 =>
    gS h2 10 x9 <|
    bR (m_X10_copyFrom x9 x10 h2) fun _ h3 =>
    aJ (fun (h4 : aH) =>
    some (.inr "java/util/NoSuchElementException", h_exc h4)) fun k174 =>
    aJ (fun (x11 : Int32) (x12 : Int32) (h5 : aH) =>
    some (.inl ((x11 * (12 : Int32)) + x12), h5)) fun k154 =>
    aL1 (m_X11_helpfulHandOn_L52 x1 x2 k174 k154) FU (0 : Int32) h3
  else
  some (.inr "java/lang/IllegalStateException", h_exc h2)
def m_X11_helpfulPager (x1 : Nat) (x2 : Int32) (h0 : aH) : Option ((Int32 ⊕ String) × aH) :=
  gS h0 11 x1 <|
  bX (m_X11_helpfulHandOn x1 x2 h0) fun x3 h1 =>
  bO (dvI x3 (12 : Int32)) fun x4 =>
  some (.inl x4, h1)
def m_X11_helpfulPerson (x1 : Nat) (x2 : Int32) (h0 : aH) : Option ((Int32 ⊕ String) × aH) :=
  gS h0 11 x1 <|
  bX (m_X11_helpfulHandOn x1 x2 h0) fun x3 h1 =>
  bO (rmI x3 (12 : Int32)) fun x4 =>
  some (.inl x4, h1)
def m_X11_call (x1 : Nat) (x2 : Int32) (h0 : aH) : Option ((Int32 ⊕ String) × aH) :=
  gS h0 11 x1 <|
  bX (m_X11_needKind x1 x2 h0) fun _ h1 =>
  bO (gr h1 11 x1 5) fun x3 =>
  bO (gr h1 10 x3 14) fun x4 =>
  bO (gi h1 0 x4 0) fun x5 =>
  if x5 < (16 : Int32) then
    bO (gr h1 11 x1 8) fun x6 =>
    bO (gr h1 11 x1 5) fun x7 =>
    gS h1 2 x6 <|
    bR (m_X2_keep x6 x7 h1) fun _ h2 =>
    bO (gr h2 11 x1 7) fun x8 =>
    bO (gr h2 11 x1 5) fun x9 =>
    bO (gr h2 11 x1 3) fun x10 =>
    bO (gr h2 8 x10 10) fun x11 =>
    bO (alr h2 9 x11 x2) fun x12 =>
    gS h2 4 x8 <|
    bR (m_X4_foresee x8 x9 x12 h2) fun x13 h3 =>
    bO (gr h3 11 x1 7) fun x14 =>
    bO (gr h3 11 x1 3) fun x15 =>
    bO (gr h3 8 x15 10) fun x16 =>
    bO (alr h3 9 x16 x2) fun x17 =>
    gS h3 4 x14 <|
    bR (m_X4_carryOut x14 x17 h3) fun x18 h4 =>
    some (.inl x18, h4)
  else
  some (.inr "java/lang/IllegalStateException", h_exc h1)
def m_X11_handOn (x1 : Nat) (x2 : Int32) (x3 : Int32) (x4 : Int32) (h0 : aH) : Option ((Int32 ⊕ String) × aH) :=
  gS h0 11 x1 <|
  bX (m_X11_needPager x1 x2 h0) fun _ h1 =>
  gS h1 11 x1 <|
  bX (m_X11_needPerson x1 x3 h1) fun _ h2 =>
  bO (gr h2 11 x1 5) fun x5 =>
  gS h2 10 x5 <|
  bR (m_X10_reasonAgainst x5 x2 x3 x4 h2) fun x6 h3 =>
  if x6 = 0 then
    bO (gr h3 11 x1 8) fun x7 =>
    bO (gr h3 11 x1 5) fun x8 =>
    gS h3 2 x7 <|
    bR (m_X2_keep x7 x8 h3) fun _ h4 =>
    bO (gr h4 11 x1 5) fun x9 =>
    gS h4 10 x9 <|
    bR (m_X10_addHandOn x9 x2 x3 x4 h4) fun _ h5 =>
    bO (gr h5 11 x1 5) fun x10 =>
    bO (gr h5 10 x10 8) fun x11 =>
    bO (ali h5 1 x11 x2) fun x12 =>
    some (.inl x12, h5)
  else
  some (.inr "java/lang/IllegalStateException", h_exc h3)
def m_X11_giveBack (x1 : Nat) (x2 : Int32) (h0 : aH) : Option ((Int32 ⊕ String) × aH) :=
  gS h0 11 x1 <|
  bX (m_X11_needPager x1 x2 h0) fun _ h1 =>
  bO (gr h1 11 x1 5) fun x3 =>
  bO (gr h1 10 x3 8) fun x4 =>
  bO (ali h1 1 x4 x2) fun x5 =>
  if x5 = 0 then
    some (.inr "java/lang/IllegalStateException", h_exc h1)
  else
  bO (gr h1 11 x1 8) fun x6 =>
  bO (gr h1 11 x1 5) fun x7 =>
  gS h1 2 x6 <|
  bR (m_X2_keep x6 x7 h1) fun _ h2 =>
  bO (gr h2 11 x1 5) fun x8 =>
  gS h2 10 x8 <|
  bR (m_X10_dropHandOn x8 x2 h2) fun _ h3 =>
  bO (gr h3 11 x1 5) fun x9 =>
  bO (gr h3 11 x1 5) fun x10 =>
  bO (gi h3 10 x10 1) fun x11 =>
  gS h3 10 x9 <|
  bR (m_X10_holderThen x9 x2 x11 h3) fun x12 h4 =>
  some (.inl x12, h4)
def m_X11_pass (x1 : Nat) (x2 : Int32) (h0 : aH) : Option ((Int32 ⊕ String) × aH) :=
  aJ (fun (h1 : aH) =>
  some (.inr "java/lang/IllegalArgumentException", h_exc h1)) fun k12 =>
  if x2 < (1 : Int32) then
    k12 h0
  else
  if x2 ≤ (1440 : Int32) then
    bO (gr h0 11 x1 5) fun x3 =>
    bO (gi h0 10 x3 1) fun x4 =>
    if (x4 + x2) ≤ (20160 : Int32) then
      bO (gr h0 11 x1 8) fun x5 =>
      bO (gr h0 11 x1 5) fun x6 =>
      gS h0 2 x5 <|
      bR (m_X2_keep x5 x6 h0) fun _ h2 =>
      bO (gr h2 11 x1 5) fun x7 =>
      gS h2 10 x7 <|
      bR (m_X10_advance x7 x2 h2) fun x8 h3 =>
      some (.inl x8, h3)
    else
    some (.inr "java/lang/IllegalStateException", h_exc h0)
  else
  k12 h0
def m_X11_swapPlaces (x1 : Nat) (x2 : Int32) (x3 : Int32) (x4 : Int32) (h0 : aH) : Option ((Int32 ⊕ String) × aH) :=
  gS h0 11 x1 <|
  bX (m_X11_needPager x1 x2 h0) fun _ h1 =>
  gS h1 11 x1 <|
  bX (m_X11_needPlace x1 x2 x3 h1) fun _ h2 =>
  gS h2 11 x1 <|
  bX (m_X11_needPlace x1 x2 x4 h2) fun _ h3 =>
  if x3 = x4 then
    some (.inr "java/lang/IllegalArgumentException", h_exc h3)
  else
  bO (gr h3 11 x1 5) fun x5 =>
  bO (gr h3 11 x1 5) fun x6 =>
  bO (gi h3 10 x6 1) fun x7 =>
  gS h3 10 x5 <|
  bR (m_X10_placeAt x5 x2 x7 h3) fun x8 h4 =>
  aJ (fun (h5 : aH) =>
  some (.inr "java/lang/IllegalStateException", h_exc h5)) fun k62 =>
  if x3 = x8 then
    k62 h4
  else
  if x4 = x8 then
    k62 h4
  else
  bO (gr h4 11 x1 8) fun x9 =>
  bO (gr h4 11 x1 5) fun x10 =>
  gS h4 2 x9 <|
  bR (m_X2_keep x9 x10 h4) fun _ h6 =>
  aLet ((x2 * (8 : Int32)) + x3) fun x11 =>
  aLet ((x2 * (8 : Int32)) + x4) fun x12 =>
  bO (gr h6 11 x1 5) fun x13 =>
  bO (gr h6 10 x13 7) fun x14 =>
  bO (ali h6 1 x14 x11) fun x15 =>
  bO (gr h6 11 x1 5) fun x16 =>
  bO (gr h6 10 x16 7) fun x17 =>
  bO (gr h6 11 x1 5) fun x18 =>
  bO (gr h6 10 x18 7) fun x19 =>
  bO (ali h6 1 x19 x12) fun x20 =>
  bO (asi h6 x17 x11 x20) fun h7 =>
  bO (gr h7 11 x1 5) fun x21 =>
  bO (gr h7 10 x21 7) fun x22 =>
  bO (asi h7 x22 x12 x15) fun h8 =>
  bO (gr h8 11 x1 5) fun x23 =>
  bO (gr h8 10 x23 7) fun x24 =>
  bO (ali h8 1 x24 x11) fun x25 =>
  some (.inl x25, h8)
def m_X11_excuse (x1 : Nat) (x2 : Int32) (x3 : Int32) (h0 : aH) : Option ((Int32 ⊕ String) × aH) :=
  gS h0 11 x1 <|
  bX (m_X11_needPerson x1 x2 h0) fun _ h1 =>
  bO (gr h1 11 x1 8) fun x4 =>
  bO (gr h1 11 x1 5) fun x5 =>
  gS h1 2 x4 <|
  bR (m_X2_keep x4 x5 h1) fun _ h2 =>
  bO (gr h2 11 x1 5) fun x6 =>
  aJ (fun (x7 : Int32) (h3 : aH) =>
  bO (pi h3 10 x6 5 x7) fun h4 =>
  bO (gr h4 11 x1 5) fun x8 =>
  bO (gi h4 10 x8 5) fun x9 =>
  bR (m_J6_bitCount_0f7a4 x9 h4) fun x10 h5 =>
  some (.inl x10, h5)) fun k51 =>
  if x3 = 0 then
    bO (gr h2 11 x1 5) fun x11 =>
    bO (gi h2 10 x11 5) fun x12 =>
    k51 (x12 &&& (((1 : Int32) <<< (x2 &&& 31)) ^^^ (-1 : Int32))) h2
  else
  bO (gr h2 11 x1 5) fun x13 =>
  bO (gi h2 10 x13 5) fun x14 =>
  k51 (x14 ||| ((1 : Int32) <<< (x2 &&& 31))) h2
def m_X11_setService (x1 : Nat) (x2 : Int32) (x3 : Int32) (h0 : aH) : Option ((Int32 ⊕ String) × aH) :=
  gS h0 11 x1 <|
  bX (m_X11_needEngine x1 x2 h0) fun _ h1 =>
  bO (gr h1 11 x1 5) fun x4 =>
  gS h1 10 x4 <|
  bR (m_X10_isEngineOut x4 x2 h1) fun x5 h2 =>
  if x5 = 0 then
    bO (gr h2 11 x1 8) fun x6 =>
    bO (gr h2 11 x1 5) fun x7 =>
    gS h2 2 x6 <|
    bR (m_X2_keep x6 x7 h2) fun _ h3 =>
    bO (gr h3 11 x1 5) fun x8 =>
    aJ (fun (x9 : Int32) (h4 : aH) =>
    bO (pi h4 10 x8 13 x9) fun h5 =>
    bO (gr h5 11 x1 5) fun x10 =>
    bO (gi h5 10 x10 13) fun x11 =>
    bR (m_J6_bitCount_0f7a4 x11 h5) fun x12 h6 =>
    some (.inl x12, h6)) fun k73 =>
    if x3 = 0 then
      bO (gr h3 11 x1 5) fun x13 =>
      bO (gi h3 10 x13 13) fun x14 =>
      k73 (x14 &&& (((1 : Int32) <<< (x2 &&& 31)) ^^^ (-1 : Int32))) h3
    else
    bO (gr h3 11 x1 5) fun x15 =>
    bO (gi h3 10 x15 13) fun x16 =>
    k73 (x16 ||| ((1 : Int32) <<< (x2 &&& 31))) h3
  else
  some (.inr "java/lang/IllegalStateException", h_exc h2)
def m_X11_setTrust (x1 : Nat) (x2 : Int32) (x3 : Int32) (x4 : Int32) (h0 : aH) : Option ((Int32 ⊕ String) × aH) :=
  gS h0 11 x1 <|
  bX (m_X11_needTwoPersons x1 x2 x3 h0) fun _ h1 =>
  aJ (fun (h2 : aH) =>
  some (.inr "java/lang/IllegalArgumentException", h_exc h2)) fun k16 =>
  if x4 < 0 then
    k16 h1
  else
  if x4 ≤ (9 : Int32) then
    bO (gr h1 11 x1 8) fun x5 =>
    bO (gr h1 11 x1 5) fun x6 =>
    gS h1 2 x5 <|
    bR (m_X2_keep x5 x6 h1) fun _ h3 =>
    bO (gr h3 11 x1 5) fun x7 =>
    bO (gr h3 10 x7 6) fun x8 =>
    bR (m_X11_pair x2 x3 h3) fun x9 h4 =>
    bO (ali h4 1 x8 x9) fun x10 =>
    bO (gr h4 11 x1 5) fun x11 =>
    bO (gr h4 10 x11 6) fun x12 =>
    bR (m_X11_pair x2 x3 h4) fun x13 h5 =>
    bO (asi h5 x12 x13 x4) fun h6 =>
    some (.inl x10, h6)
  else
  k16 h1
def m_X11_undo (x1 : Nat) (h0 : aH) : Option ((Int32 ⊕ String) × aH) :=
  bO (gr h0 11 x1 8) fun x2 =>
  bO (gi h0 2 x2 0) fun x3 =>
  if x3 = 0 then
    some (.inr "java/lang/IllegalStateException", h_exc h0)
  else
  bO (gr h0 11 x1 8) fun x4 =>
  bO (gr h0 11 x1 5) fun x5 =>
  gS h0 2 x4 <|
  bR (m_X2_takeBack x4 x5 h0) fun _ h1 =>
  bO (gr h1 11 x1 8) fun x6 =>
  bO (gi h1 2 x6 0) fun x7 =>
  some (.inl x7, h1)
def m_X11_needSlot (x1 : Nat) (x2 : Int32) (h0 : aH) : Option ((Unit ⊕ String) × aH) :=
  aJ (fun (h1 : aH) =>
  some (.inr "java/lang/IndexOutOfBoundsException", h_exc h1)) fun k9 =>
  if x2 < 0 then
    k9 h0
  else
  if x2 < (2 : Int32) then
    some (.inl (), h0)
  else
  k9 h0
def m_X11_save (x1 : Nat) (x2 : Int32) (h0 : aH) : Option ((Unit ⊕ String) × aH) :=
  gS h0 11 x1 <|
  bX (m_X11_needSlot x1 x2 h0) fun _ h1 =>
  bO (gr h1 11 x1 8) fun x3 =>
  bO (gr h1 2 x3 2) fun x4 =>
  bO (alr h1 5 x4 x2) fun x5 =>
  bO (gr h1 11 x1 5) fun x6 =>
  gS h1 10 x5 <|
  bR (m_X10_copyFrom x5 x6 h1) fun _ h2 =>
  bO (gr h2 11 x1 8) fun x7 =>
  bO (gr h2 2 x7 3) fun x8 =>
  bO (asz h2 x8 x2 (1 : Int32)) fun h3 =>
  some (.inl (), h3)
def m_X11_restore (x1 : Nat) (x2 : Int32) (h0 : aH) : Option ((Unit ⊕ String) × aH) :=
  gS h0 11 x1 <|
  bX (m_X11_needSlot x1 x2 h0) fun _ h1 =>
  bO (gr h1 11 x1 8) fun x3 =>
  bO (gr h1 2 x3 3) fun x4 =>
  bO (ali h1 3 x4 x2) fun x5 =>
  if x5 = 0 then
    some (.inr "java/util/NoSuchElementException", h_exc h1)
  else
  bO (gr h1 11 x1 5) fun x6 =>
  bO (gr h1 11 x1 8) fun x7 =>
  bO (gr h1 2 x7 2) fun x8 =>
  bO (alr h1 5 x8 x2) fun x9 =>
  gS h1 10 x6 <|
  bR (m_X10_copyFrom x6 x9 h1) fun _ h2 =>
  bO (gr h2 11 x1 8) fun x10 =>
  bO (pi h2 2 x10 0 (0 : Int32)) fun h3 =>
  some (.inl (), h3)
def m_X12_takesText_L388 (x1 : Nat) (k424 : aH → Option (Unit × aH)) (r388 : Int32 → aH → Option (Unit × aH)) (x8 : Int32) (h17 : aH) : Option (Unit × aH) :=
  if x8 < (30 : Int32) then
    bO (gr h17 12 x1 20) fun x9 =>
    bO (gr h17 12 x1 55) fun x10 =>
    bO (ali h17 1 x10 x8) fun x11 =>
    bO (asi h17 x9 x8 x11) fun h18 =>
    bO (gr h18 12 x1 27) fun x12 =>
    bO (gr h18 12 x1 62) fun x13 =>
    bO (ali h18 1 x13 x8) fun x14 =>
    bO (asi h18 x12 x8 x14) fun h19 =>
    aLet (x8 + (1 : Int32)) fun x15 =>
    r388 x15 h19
  else
  k424 h17
def m_X12_takesText_L362 (x1 : Nat) (k386 : aH → Option (Unit × aH)) (r362 : Int32 → aH → Option (Unit × aH)) (x16 : Int32) (h20 : aH) : Option (Unit × aH) :=
  if x16 < (36 : Int32) then
    bO (gr h20 12 x1 25) fun x17 =>
    bO (gr h20 12 x1 60) fun x18 =>
    bO (ali h20 1 x18 x16) fun x19 =>
    bO (asi h20 x17 x16 x19) fun h21 =>
    aLet (x16 + (1 : Int32)) fun x20 =>
    r362 x20 h21
  else
  k386 h20
def m_X12_takesText_L325 (x1 : Nat) (k360 : aH → Option (Unit × aH)) (r325 : Int32 → aH → Option (Unit × aH)) (x21 : Int32) (h22 : aH) : Option (Unit × aH) :=
  if x21 < (5 : Int32) then
    bO (gr h22 12 x1 18) fun x22 =>
    bO (gr h22 12 x1 53) fun x23 =>
    bO (ali h22 1 x23 x21) fun x24 =>
    bO (asi h22 x22 x21 x24) fun h23 =>
    bO (gr h23 12 x1 19) fun x25 =>
    bO (gr h23 12 x1 54) fun x26 =>
    bO (ali h23 1 x26 x21) fun x27 =>
    bO (asi h23 x25 x21 x27) fun h24 =>
    aLet (x21 + (1 : Int32)) fun x28 =>
    r325 x28 h24
  else
  k360 h22
def m_X12_takesText_L279 (x1 : Nat) (x29 : Int32) (k317 : aH → Option (Unit × aH)) (r279 : Int32 → aH → Option (Unit × aH)) (x55 : Int32) (h35 : aH) : Option (Unit × aH) :=
  if x55 < (8 : Int32) then
    bO (gr h35 12 x1 1) fun x56 =>
    bO (gr h35 12 x1 52) fun x57 =>
    bO (ali h35 1 x57 (((8 : Int32) * x29) + x55)) fun x58 =>
    bO (asi h35 x56 (((194 : Int32) + ((15 : Int32) * x29)) + x55) x58) fun h36 =>
    aLet (x55 + (1 : Int32)) fun x59 =>
    r279 x59 h36
  else
  k317 h35
def m_X12_takesText_L175 (x1 : Nat) (k323 : aH → Option (Unit × aH)) (r175 : Int32 → aH → Option (Unit × aH)) (x29 : Int32) (h25 : aH) : Option (Unit × aH) :=
  if x29 < (6 : Int32) then
    bO (gr h25 12 x1 15) fun x30 =>
    bO (gr h25 12 x1 49) fun x31 =>
    bO (ali h25 1 x31 x29) fun x32 =>
    bO (asi h25 x30 x29 x32) fun h26 =>
    bO (gr h26 12 x1 16) fun x33 =>
    bO (gr h26 12 x1 50) fun x34 =>
    bO (ali h26 1 x34 x29) fun x35 =>
    bO (asi h26 x33 x29 x35) fun h27 =>
    bO (gr h27 12 x1 17) fun x36 =>
    bO (gr h27 12 x1 51) fun x37 =>
    bO (ali h27 1 x37 x29) fun x38 =>
    bO (asi h27 x36 x29 x38) fun h28 =>
    bO (gr h28 12 x1 21) fun x39 =>
    bO (gr h28 12 x1 56) fun x40 =>
    bO (ali h28 1 x40 x29) fun x41 =>
    bO (asi h28 x39 x29 x41) fun h29 =>
    bO (gr h29 12 x1 22) fun x42 =>
    bO (gr h29 12 x1 57) fun x43 =>
    bO (ali h29 1 x43 x29) fun x44 =>
    bO (asi h29 x42 x29 x44) fun h30 =>
    bO (gr h30 12 x1 23) fun x45 =>
    bO (gr h30 12 x1 58) fun x46 =>
    bO (ali h30 1 x46 x29) fun x47 =>
    bO (asi h30 x45 x29 x47) fun h31 =>
    bO (gr h31 12 x1 24) fun x48 =>
    bO (gr h31 12 x1 59) fun x49 =>
    bO (ali h31 1 x49 x29) fun x50 =>
    bO (asi h31 x48 x29 x50) fun h32 =>
    bO (gr h32 12 x1 26) fun x51 =>
    bO (gr h32 12 x1 61) fun x52 =>
    bO (ali h32 1 x52 x29) fun x53 =>
    bO (asi h32 x51 x29 x53) fun h33 =>
    aJ (fun (h34 : aH) =>
    aLet (x29 + (1 : Int32)) fun x54 =>
    r175 x54 h34) fun k317 =>
    aL1 (m_X12_takesText_L279 x1 x29 k317) FU (0 : Int32) h33
  else
  k323 h25
def m_X12_takesText_L145 (x1 : Nat) (k173 : aH → Option (Unit × aH)) (r145 : Int32 → aH → Option (Unit × aH)) (x60 : Int32) (h37 : aH) : Option (Unit × aH) :=
  if x60 < (144 : Int32) then
    bO (gr h37 12 x1 1) fun x61 =>
    bO (gr h37 12 x1 47) fun x62 =>
    bO (ali h37 1 x62 x60) fun x63 =>
    bO (asi h37 x61 ((50 : Int32) + x60) x63) fun h38 =>
    aLet (x60 + (1 : Int32)) fun x64 =>
    r145 x64 h38
  else
  k173 h37
def m_X12_takesText_L123 (x1 : Nat) (k143 : aH → Option (Unit × aH)) (r123 : Int32 → aH → Option (Unit × aH)) (x65 : Int32) (h39 : aH) : Option (Unit × aH) :=
  if x65 < (603 : Int32) then
    bO (gr h39 12 x1 1) fun x66 =>
    bO (asi h39 x66 x65 (0 : Int32)) fun h40 =>
    aLet (x65 + (1 : Int32)) fun x67 =>
    r123 x67 h40
  else
  k143 h39
def m_X12_takesText_L85 (x1 : Nat) (k121 : aH → Option (Unit × aH)) (r85 : Int32 → aH → Option (Unit × aH)) (x68 : Int32) (h41 : aH) : Option (Unit × aH) :=
  if x68 < (12 : Int32) then
    bO (gr h41 12 x1 13) fun x69 =>
    bO (gr h41 12 x1 45) fun x70 =>
    bO (ali h41 1 x70 x68) fun x71 =>
    bO (asi h41 x69 x68 x71) fun h42 =>
    bO (gr h42 12 x1 14) fun x72 =>
    bO (gr h42 12 x1 46) fun x73 =>
    bO (ali h42 1 x73 x68) fun x74 =>
    bO (asi h42 x72 x68 x74) fun h43 =>
    aLet (x68 + (1 : Int32)) fun x75 =>
    r85 x75 h43
  else
  k121 h41
def m_X12_takesText_L60 (x1 : Nat) (k83 : aH → Option (Unit × aH)) (r60 : Int32 → aH → Option (Unit × aH)) (x76 : Int32) (h44 : aH) : Option (Unit × aH) :=
  if x76 < (4 : Int32) then
    bO (gr h44 12 x1 7) fun x77 =>
    bO (gr h44 12 x1 38) fun x78 =>
    bO (ali h44 1 x78 x76) fun x79 =>
    bO (asi h44 x77 x76 x79) fun h45 =>
    aLet (x76 + (1 : Int32)) fun x80 =>
    r60 x80 h45
  else
  k83 h44
def m_X12_takesText_L34 (x1 : Nat) (k58 : aH → Option (Unit × aH)) (r34 : Int32 → aH → Option (Unit × aH)) (x81 : Int32) (h46 : aH) : Option (Unit × aH) :=
  if x81 < (29 : Int32) then
    bO (gr h46 12 x1 12) fun x82 =>
    bO (gr h46 12 x1 44) fun x83 =>
    bO (alL h46 x83 x81) fun x84 =>
    bO (asL h46 x82 x81 x84) fun h47 =>
    aLet (x81 + (1 : Int32)) fun x85 =>
    r34 x85 h47
  else
  k58 h46
def m_X12_takesText (x1 : Nat) (h0 : aH) : Option (Unit × aH) :=
  bO (gi h0 12 x1 39) fun x2 =>
  bO (pi h0 12 x1 8 x2) fun h1 =>
  bO (gi h1 12 x1 41) fun x3 =>
  bO (pi h1 12 x1 9 x3) fun h2 =>
  bO (gi h2 12 x1 42) fun x4 =>
  bO (pi h2 12 x1 10 x4) fun h3 =>
  bO (gi h3 12 x1 43) fun x5 =>
  bO (pi h3 12 x1 11 x5) fun h4 =>
  aJ (fun (h5 : aH) =>
  aJ (fun (h6 : aH) =>
  aJ (fun (h7 : aH) =>
  aJ (fun (h8 : aH) =>
  aJ (fun (h9 : aH) =>
  aJ (fun (h10 : aH) =>
  aJ (fun (h11 : aH) =>
  aJ (fun (h12 : aH) =>
  aJ (fun (h13 : aH) =>
  bO (pi h13 12 x1 6 (0 : Int32)) fun h14 =>
  bO (gr h14 12 x1 5) fun x6 =>
  bO (asz h14 x6 (0 : Int32) (0 : Int32)) fun h15 =>
  bO (gr h15 12 x1 5) fun x7 =>
  bO (asz h15 x7 (1 : Int32) (0 : Int32)) fun h16 =>
  some ((), h16)) fun k424 =>
  aL1 (m_X12_takesText_L388 x1 k424) FU (0 : Int32) h12) fun k386 =>
  aL1 (m_X12_takesText_L362 x1 k386) FU (0 : Int32) h11) fun k360 =>
  aL1 (m_X12_takesText_L325 x1 k360) FU (0 : Int32) h10) fun k323 =>
  aL1 (m_X12_takesText_L175 x1 k323) FU (0 : Int32) h9) fun k173 =>
  aL1 (m_X12_takesText_L145 x1 k173) FU (0 : Int32) h8) fun k143 =>
  aL1 (m_X12_takesText_L123 x1 k143) FU (0 : Int32) h7) fun k121 =>
  aL1 (m_X12_takesText_L85 x1 k121) FU (0 : Int32) h6) fun k83 =>
  aL1 (m_X12_takesText_L60 x1 k83) FU (0 : Int32) h5) fun k58 =>
  aL1 (m_X12_takesText_L34 x1 k58) FU (0 : Int32) h4
def m_X12_init (x1 : Nat) (h0 : aH) : Option (Unit × aH) :=
  bN h0 1 603 fun x2 h1 =>
  bO (pr h1 12 x1 1 x2) fun h2 =>
  bN h2 1 6030 fun x3 h3 =>
  bO (pr h3 12 x1 2 x3) fun h4 =>
  bN h4 1 1206 fun x4 h5 =>
  bO (pr h5 12 x1 3 x4) fun h6 =>
  bN h6 1 603 fun x5 h7 =>
  bO (pr h7 12 x1 4 x5) fun h8 =>
  bN h8 3 2 fun x6 h9 =>
  bO (pr h9 12 x1 5 x6) fun h10 =>
  bN h10 1 4 fun x7 h11 =>
  bO (pr h11 12 x1 7 x7) fun h12 =>
  bN h12 4 29 fun x8 h13 =>
  bO (pr h13 12 x1 12 x8) fun h14 =>
  bN h14 1 12 fun x9 h15 =>
  bO (pr h15 12 x1 13 x9) fun h16 =>
  bN h16 1 12 fun x10 h17 =>
  bO (pr h17 12 x1 14 x10) fun h18 =>
  bN h18 1 6 fun x11 h19 =>
  bO (pr h19 12 x1 15 x11) fun h20 =>
  bN h20 1 6 fun x12 h21 =>
  bO (pr h21 12 x1 16 x12) fun h22 =>
  bN h22 1 6 fun x13 h23 =>
  bO (pr h23 12 x1 17 x13) fun h24 =>
  bN h24 1 5 fun x14 h25 =>
  bO (pr h25 12 x1 18 x14) fun h26 =>
  bN h26 1 5 fun x15 h27 =>
  bO (pr h27 12 x1 19 x15) fun h28 =>
  bN h28 1 30 fun x16 h29 =>
  bO (pr h29 12 x1 20 x16) fun h30 =>
  bN h30 1 6 fun x17 h31 =>
  bO (pr h31 12 x1 21 x17) fun h32 =>
  bN h32 1 6 fun x18 h33 =>
  bO (pr h33 12 x1 22 x18) fun h34 =>
  bN h34 1 6 fun x19 h35 =>
  bO (pr h35 12 x1 23 x19) fun h36 =>
  bN h36 1 6 fun x20 h37 =>
  bO (pr h37 12 x1 24 x20) fun h38 =>
  bN h38 1 36 fun x21 h39 =>
  bO (pr h39 12 x1 25 x21) fun h40 =>
  bN h40 1 6 fun x22 h41 =>
  bO (pr h41 12 x1 26 x22) fun h42 =>
  bN h42 1 30 fun x23 h43 =>
  bO (pr h43 12 x1 27 x23) fun h44 =>
  bN h44 1 1200 fun x24 h45 =>
  bO (pr h45 12 x1 28 x24) fun h46 =>
  bO (pi h46 12 x1 32 (-1 : Int32)) fun h47 =>
  bN h47 1 4 fun x25 h48 =>
  bO (pr h48 12 x1 38 x25) fun h49 =>
  bN h49 4 29 fun x26 h50 =>
  bO (pr h50 12 x1 44 x26) fun h51 =>
  bN h51 1 12 fun x27 h52 =>
  bO (pr h52 12 x1 45 x27) fun h53 =>
  bN h53 1 12 fun x28 h54 =>
  bO (pr h54 12 x1 46 x28) fun h55 =>
  bN h55 1 144 fun x29 h56 =>
  bO (pr h56 12 x1 47 x29) fun h57 =>
  bN h57 3 144 fun x30 h58 =>
  bO (pr h58 12 x1 48 x30) fun h59 =>
  bN h59 1 6 fun x31 h60 =>
  bO (pr h60 12 x1 49 x31) fun h61 =>
  bN h61 1 6 fun x32 h62 =>
  bO (pr h62 12 x1 50 x32) fun h63 =>
  bN h63 1 6 fun x33 h64 =>
  bO (pr h64 12 x1 51 x33) fun h65 =>
  bN h65 1 48 fun x34 h66 =>
  bO (pr h66 12 x1 52 x34) fun h67 =>
  bN h67 1 5 fun x35 h68 =>
  bO (pr h68 12 x1 53 x35) fun h69 =>
  bN h69 1 5 fun x36 h70 =>
  bO (pr h70 12 x1 54 x36) fun h71 =>
  bN h71 1 30 fun x37 h72 =>
  bO (pr h72 12 x1 55 x37) fun h73 =>
  bN h73 1 6 fun x38 h74 =>
  bO (pr h74 12 x1 56 x38) fun h75 =>
  bN h75 1 6 fun x39 h76 =>
  bO (pr h76 12 x1 57 x39) fun h77 =>
  bN h77 1 6 fun x40 h78 =>
  bO (pr h78 12 x1 58 x40) fun h79 =>
  bN h79 1 6 fun x41 h80 =>
  bO (pr h80 12 x1 59 x41) fun h81 =>
  bN h81 1 36 fun x42 h82 =>
  bO (pr h82 12 x1 60 x42) fun h83 =>
  bN h83 1 6 fun x43 h84 =>
  bO (pr h84 12 x1 61 x43) fun h85 =>
  bN h85 1 30 fun x44 h86 =>
  bO (pr h86 12 x1 62 x44) fun h87 =>
  bN h87 1 5 fun x45 h88 =>
  bO (pr h88 12 x1 64 x45) fun h89 =>
  bN h89 1 5 fun x46 h90 =>
  bO (pr h90 12 x1 65 x46) fun h91 =>
  bN h91 1 5 fun x47 h92 =>
  bO (pr h92 12 x1 66 x47) fun h93 =>
  bN h93 1 5 fun x48 h94 =>
  bO (pr h94 12 x1 67 x48) fun h95 =>
  bN h95 3 4096 fun x49 h96 =>
  bO (pr h96 12 x1 69 x49) fun h97 =>
  bN h97 3 4096 fun x50 h98 =>
  bO (pr h98 12 x1 70 x50) fun h99 =>
  bO (gr h99 12 x1 38) fun x51 =>
  bO (asi h99 x51 (0 : Int32) (22 : Int32)) fun h100 =>
  bO (gr h100 12 x1 38) fun x52 =>
  bO (asi h100 x52 (1 : Int32) (6 : Int32)) fun h101 =>
  bO (gr h101 12 x1 38) fun x53 =>
  bO (asi h101 x53 (2 : Int32) (5 : Int32)) fun h102 =>
  bO (gr h102 12 x1 38) fun x54 =>
  bO (asi h102 x54 (3 : Int32) (240 : Int32)) fun h103 =>
  gS h103 12 x1 <|
  bR (m_X12_takesText x1 h103) fun _ h104 =>
  some ((), h104)
def m_X12_thrown (x1 : Nat) (h0 : aH) : Option (Int32 × aH) :=
  bO (gi h0 12 x1 0) fun x2 =>
  some (x2, h0)
def m_X12_in (x1 : Int64) (x2 : Int64) (x3 : Int64) (h0 : aH) : Option (Int32 × aH) :=
  aJ (fun (x4 : Int32) (h1 : aH) =>
  bO (zO x4) fun x5 =>
  some (x5, h1)) fun k18 =>
  aJ (fun (h2 : aH) =>
  k18 (0 : Int32) h2) fun k17 =>
  if (lg_cmp x1 x2) < 0 then
    k17 h0
  else
  if (lg_cmp x1 x3) ≤ 0 then
    k18 (1 : Int32) h0
  else
  k17 h0
def m_X12_bytes_L3 (x1 : Nat) (x2 : Int32) (k39 : aH → Option (Unit × aH)) (r3 : Int32 → aH → Option (Unit × aH)) (x3 : Int32) (h2 : aH) : Option (Unit × aH) :=
  if x3 < 0 then
    k39 h2
  else
  bO (gr h2 12 x1 28) fun x4 =>
  bO (gi h2 12 x1 29) fun x5 =>
  bO (asi h2 x4 x5 ((x2 >>> (x3 &&& 31)) &&& (255 : Int32))) fun h3 =>
  bO (gi h3 12 x1 29) fun x6 =>
  bO (pi h3 12 x1 29 (x6 + (1 : Int32))) fun h4 =>
  aLet (x3 + (-8 : Int32)) fun x7 =>
  r3 x7 h4
def m_X12_bytes (x1 : Nat) (x2 : Int32) (h0 : aH) : Option (Unit × aH) :=
  aJ (fun (h1 : aH) =>
  some ((), h1)) fun k39 =>
  aL1 (m_X12_bytes_L3 x1 x2 k39) FU (24 : Int32) h0
def m_X12_append (x1 : Nat) (x2 : Int32) (x3 : Int32) (x4 : Int32) (x5 : Int32) (x6 : Int32) (h0 : aH) : Option (Int32 × aH) :=
  bO (gi h0 12 x1 29) fun x7 =>
  aJ (fun (x8 : Int32) (h1 : aH) =>
  bO (pi h1 12 x1 0 x8) fun h2 =>
  bO (gi h2 12 x1 0) fun x9 =>
  if x9 ≤ 0 then
    gS h2 12 x1 <|
    bR (m_X12_bytes x1 x2 h2) fun _ h3 =>
    gS h3 12 x1 <|
    bR (m_X12_bytes x1 x3 h3) fun _ h4 =>
    gS h4 12 x1 <|
    bR (m_X12_bytes x1 x4 h4) fun _ h5 =>
    gS h5 12 x1 <|
    bR (m_X12_bytes x1 x5 h5) fun _ h6 =>
    gS h6 12 x1 <|
    bR (m_X12_bytes x1 x6 h6) fun _ h7 =>
    bO (gi h7 12 x1 29) fun x10 =>
    some (x10, h7)
  else
  some ((0 : Int32), h2)) fun k19 =>
  if (x7 + (20 : Int32)) ≤ (1200 : Int32) then
    k19 (0 : Int32) h0
  else
  k19 (1 : Int32) h0
def m_X12_truncate (x1 : Nat) (x2 : Int32) (h0 : aH) : Option (Int32 × aH) :=
  bO (gi h0 12 x1 29) fun x3 =>
  bR (m_X12_in (x2.toInt64) (0 : Int64) (x3.toInt64) h0) fun x4 h1 =>
  aJ (fun (x5 : Int32) (h2 : aH) =>
  bO (pi h2 12 x1 0 x5) fun h3 =>
  bO (gi h3 12 x1 0) fun x6 =>
  if x6 ≤ 0 then
    bO (pi h3 12 x1 29 x2) fun h4 =>
    some (x2, h4)
  else
  some ((0 : Int32), h3)) fun k20 =>
  if x4 = 0 then
    k20 (1 : Int32) h1
  else
  k20 (0 : Int32) h1
def m_X12_fault (x1 : Nat) (x2 : Int32) (x3 : Int32) (h0 : aH) : Option (Unit × aH) :=
  bO (gi h0 12 x1 33) fun x4 =>
  aJ (fun (h1 : aH) =>
  some ((), h1)) fun k22 =>
  if x4 = 0 then
    bO (pz h0 12 x1 33 (1 : Int32)) fun h2 =>
    bO (pi h2 12 x1 31 x2) fun h3 =>
    bO (pi h3 12 x1 32 x3) fun h4 =>
    k22 h4
  else
  k22 h0
def m_X12_blanks_L0 (x1 : Nat) (k52 : aH → Option (Unit × aH)) (r0 : aH → Option (Unit × aH))  (h2 : aH) : Option (Unit × aH) :=
  bO (gi h2 12 x1 30) fun x2 =>
  bO (gi h2 12 x1 29) fun x3 =>
  if x2 < x3 then
    bO (gr h2 12 x1 28) fun x4 =>
    bO (gi h2 12 x1 30) fun x5 =>
    bO (ali h2 1 x4 x5) fun x6 =>
    aJ (fun (h3 : aH) =>
    bO (gi h3 12 x1 30) fun x7 =>
    bO (pi h3 12 x1 30 (x7 + (1 : Int32))) fun h4 =>
    r0 h4) fun k39 =>
    if x6 = (10 : Int32) then
      k39 h2
    else
    bO (gr h2 12 x1 28) fun x8 =>
    bO (gi h2 12 x1 30) fun x9 =>
    bO (ali h2 1 x8 x9) fun x10 =>
    if x10 = (32 : Int32) then
      k39 h2
    else
    k52 h2
  else
  k52 h2
def m_X12_blanks (x1 : Nat) (h0 : aH) : Option (Unit × aH) :=
  aJ (fun (h1 : aH) =>
  some ((), h1)) fun k52 =>
  aL0 (m_X12_blanks_L0 x1 k52) FU h0
def m_X12_isLetter (x1 : Nat) (x2 : Int32) (h0 : aH) : Option (Int32 × aH) :=
  bO (gi h0 12 x1 29) fun x3 =>
  aJ (fun (x4 : Int32) (h1 : aH) =>
  bO (zO x4) fun x5 =>
  some (x5, h1)) fun k32 =>
  aJ (fun (h2 : aH) =>
  k32 (0 : Int32) h2) fun k31 =>
  if x2 < x3 then
    bO (gr h0 12 x1 28) fun x6 =>
    bO (ali h0 1 x6 x2) fun x7 =>
    bR (m_X12_in (x7.toInt64) (97 : Int64) (122 : Int64) h0) fun x8 h3 =>
    if x8 = 0 then
      k31 h3
    else
    k32 (1 : Int32) h3
  else
  k31 h0
def m_X12_isDigit (x1 : Nat) (x2 : Int32) (h0 : aH) : Option (Int32 × aH) :=
  bO (gi h0 12 x1 29) fun x3 =>
  aJ (fun (x4 : Int32) (h1 : aH) =>
  bO (zO x4) fun x5 =>
  some (x5, h1)) fun k32 =>
  aJ (fun (h2 : aH) =>
  k32 (0 : Int32) h2) fun k31 =>
  if x2 < x3 then
    bO (gr h0 12 x1 28) fun x6 =>
    bO (ali h0 1 x6 x2) fun x7 =>
    bR (m_X12_in (x7.toInt64) (48 : Int64) (57 : Int64) h0) fun x8 h3 =>
    if x8 = 0 then
      k31 h3
    else
    k32 (1 : Int32) h3
  else
  k31 h0
def m_X12_takesWord_L16 (x1 : Nat) (k78 : Int64 → aH → Option (Int64 × aH)) (r16 : Int64 → Int32 → aH → Option (Int64 × aH)) (x4 : Int64) (x5 : Int32) (h4 : aH) : Option (Int64 × aH) :=
  bO (gi h4 12 x1 30) fun x6 =>
  gS h4 12 x1 <|
  bR (m_X12_isLetter x1 x6 h4) fun x7 h5 =>
  if x7 = 0 then
    k78 x4 h5
  else
  aJ (fun (x8 : Int64) (h6 : aH) =>
  aLet (x5 + (1 : Int32)) fun x9 =>
  bO (gi h6 12 x1 30) fun x10 =>
  bO (pi h6 12 x1 30 (x10 + (1 : Int32))) fun h7 =>
  r16 x8 x9 h7) fun k61 =>
  if x5 < (8 : Int32) then
    bO (gr h5 12 x1 28) fun x11 =>
    bO (gi h5 12 x1 30) fun x12 =>
    bO (ali h5 1 x11 x12) fun x13 =>
    k61 (((((27 : Int64) * x4) + (x13.toInt64)) - (97 : Int64)) + (1 : Int64)) h5
  else
  k61 (-1 : Int64) h5
def m_X12_takesWord (x1 : Nat) (h0 : aH) : Option (Int64 × aH) :=
  gS h0 12 x1 <|
  bR (m_X12_blanks x1 h0) fun _ h1 =>
  bO (gi h1 12 x1 30) fun x2 =>
  bO (pi h1 12 x1 37 x2) fun h2 =>
  aJ (fun (x3 : Int64) (h3 : aH) =>
  some (x3, h3)) fun k78 =>
  aL2 (m_X12_takesWord_L16 x1 k78) FU (0 : Int64) (0 : Int32) h2
def m_X12_says (x1 : Nat) (x2 : Int64) (h0 : aH) : Option (Int32 × aH) :=
  bO (gi h0 12 x1 30) fun x3 =>
  gS h0 12 x1 <|
  bR (m_X12_takesWord x1 h0) fun x4 h1 =>
  aJ (fun (x5 : Int32) (h2 : aH) =>
  aJ (fun (h3 : aH) =>
  aJ (fun (x6 : Int32) (h4 : aH) =>
  bO (zO x6) fun x7 =>
  some (x7, h4)) fun k59 =>
  aJ (fun (h5 : aH) =>
  k59 (0 : Int32) h5) fun k58 =>
  if x5 = 0 then
    k58 h3
  else
  bO (gi h3 12 x1 33) fun x8 =>
  if x8 = 0 then
    k59 (1 : Int32) h3
  else
  k58 h3) fun k42 =>
  aJ (fun (h6 : aH) =>
  bO (pi h6 12 x1 30 x3) fun h7 =>
  gS h7 12 x1 <|
  bR (m_X12_blanks x1 h7) fun _ h8 =>
  k42 h8) fun k33 =>
  if x5 = 0 then
    k33 h2
  else
  bO (gi h2 12 x1 33) fun x9 =>
  if x9 = 0 then
    k42 h2
  else
  k33 h2) fun k19 =>
  if (lg_cmp x4 x2) = 0 then
    k19 (1 : Int32) h1
  else
  k19 (0 : Int32) h1
def m_X12_isNext (x1 : Nat) (x2 : Int32) (h0 : aH) : Option (Int32 × aH) :=
  gS h0 12 x1 <|
  bR (m_X12_blanks x1 h0) fun _ h1 =>
  bO (gi h1 12 x1 30) fun x3 =>
  bO (gi h1 12 x1 29) fun x4 =>
  aJ (fun (x5 : Int32) (h2 : aH) =>
  bO (zO x5) fun x6 =>
  some (x6, h2)) fun k33 =>
  aJ (fun (h3 : aH) =>
  k33 (0 : Int32) h3) fun k32 =>
  if x3 < x4 then
    bO (gr h1 12 x1 28) fun x7 =>
    bO (gi h1 12 x1 30) fun x8 =>
    bO (ali h1 1 x7 x8) fun x9 =>
    if x9 = x2 then
      k33 (1 : Int32) h1
    else
    k32 h1
  else
  k32 h1
def m_X12_sign (x1 : Nat) (x2 : Int32) (h0 : aH) : Option (Unit × aH) :=
  gS h0 12 x1 <|
  bR (m_X12_isNext x1 x2 h0) fun x3 h1 =>
  aJ (fun (h2 : aH) =>
  some ((), h2)) fun k30 =>
  if x3 = 0 then
    bO (gi h1 12 x1 30) fun x4 =>
    gS h1 12 x1 <|
    bR (m_X12_fault x1 (1 : Int32) x4 h1) fun _ h3 =>
    k30 h3
  else
  bO (gi h1 12 x1 30) fun x5 =>
  bO (pi h1 12 x1 30 (x5 + (1 : Int32))) fun h4 =>
  k30 h4
def m_X12_number_L19 (x1 : Nat) (k82 : Int32 → aH → Option (Int32 × aH)) (r19 : Int32 → aH → Option (Int32 × aH)) (x11 : Int32) (h10 : aH) : Option (Int32 × aH) :=
  bO (gi h10 12 x1 30) fun x12 =>
  gS h10 12 x1 <|
  bR (m_X12_isDigit x1 x12 h10) fun x13 h11 =>
  if x13 = 0 then
    k82 x11 h11
  else
  aJ (fun (x14 : Int32) (h12 : aH) =>
  bO (pi h12 12 x1 34 x14) fun h13 =>
  aLet (x11 + (1 : Int32)) fun x15 =>
  bO (gi h13 12 x1 30) fun x16 =>
  bO (pi h13 12 x1 30 (x16 + (1 : Int32))) fun h14 =>
  r19 x15 h14) fun k63 =>
  if x11 < (5 : Int32) then
    bO (gi h11 12 x1 34) fun x17 =>
    bO (gr h11 12 x1 28) fun x18 =>
    bO (gi h11 12 x1 30) fun x19 =>
    bO (ali h11 1 x18 x19) fun x20 =>
    k63 ((((10 : Int32) * x17) + x20) - (48 : Int32)) h11
  else
  bO (gi h11 12 x1 34) fun x21 =>
  k63 x21 h11
def m_X12_number (x1 : Nat) (x2 : Int32) (x3 : Int32) (h0 : aH) : Option (Int32 × aH) :=
  gS h0 12 x1 <|
  bR (m_X12_blanks x1 h0) fun _ h1 =>
  bO (gi h1 12 x1 30) fun x4 =>
  bO (pi h1 12 x1 35 x4) fun h2 =>
  bO (pi h2 12 x1 34 (0 : Int32)) fun h3 =>
  aJ (fun (x5 : Int32) (h4 : aH) =>
  aJ (fun (h5 : aH) =>
  bO (gi h5 12 x1 34) fun x6 =>
  some (x6, h5)) fun k127 =>
  aJ (fun (h6 : aH) =>
  bO (gi h6 12 x1 35) fun x7 =>
  gS h6 12 x1 <|
  bR (m_X12_fault x1 (1 : Int32) x7 h6) fun _ h7 =>
  k127 h7) fun k91 =>
  if x5 = 0 then
    k91 h4
  else
  if x5 ≤ (5 : Int32) then
    bO (gi h4 12 x1 34) fun x8 =>
    bR (m_X12_in (x8.toInt64) (x2.toInt64) (x3.toInt64) h4) fun x9 h8 =>
    if x9 = 0 then
      bO (gi h8 12 x1 35) fun x10 =>
      gS h8 12 x1 <|
      bR (m_X12_fault x1 (2 : Int32) x10 h8) fun _ h9 =>
      k127 h9
    else
    k127 h8
  else
  k91 h4) fun k82 =>
  aL1 (m_X12_number_L19 x1 k82) FU (0 : Int32) h3
def m_X12_name (x1 : Nat) (h0 : aH) : Option (Int64 × aH) :=
  gS h0 12 x1 <|
  bR (m_X12_takesWord x1 h0) fun x2 h1 =>
  bO (pL h1 12 x1 36 x2) fun h2 =>
  bO (gL h2 12 x1 36) fun x3 =>
  if (lg_cmp x3 (0 : Int64)) ≤ 0 then
    bO (gi h2 12 x1 37) fun x4 =>
    gS h2 12 x1 <|
    bR (m_X12_fault x1 (1 : Int32) x4 h2) fun _ h3 =>
    some ((0 : Int64), h3)
  else
  bO (gL h2 12 x1 36) fun x5 =>
  some (x5, h2)
def m_X12_place_L3 (x1 : Nat) (x2 : Int32) (x3 : Int32) (x4 : Int64) (k32 : aH → Option (Int32 × aH)) (k23 : Int32 → aH → Option (Int32 × aH)) (r3 : Int32 → aH → Option (Int32 × aH)) (x6 : Int32) (h3 : aH) : Option (Int32 × aH) :=
  if x6 < x3 then
    bO (gr h3 12 x1 44) fun x7 =>
    bO (alL h3 x7 (x2 + x6)) fun x8 =>
    if (lg_cmp x8 x4) = 0 then
      k23 x6 h3
    else
    aLet (x6 + (1 : Int32)) fun x9 =>
    r3 x9 h3
  else
  k32 h3
def m_X12_place (x1 : Nat) (x2 : Int32) (x3 : Int32) (x4 : Int64) (h0 : aH) : Option (Int32 × aH) :=
  aJ (fun (h1 : aH) =>
  some ((-1 : Int32), h1)) fun k32 =>
  aJ (fun (x5 : Int32) (h2 : aH) =>
  some (x5, h2)) fun k23 =>
  aL1 (m_X12_place_L3 x1 x2 x3 x4 k32 k23) FU (0 : Int32) h0
def m_X12_newName (x1 : Nat) (x2 : Int32) (x3 : Int32) (h0 : aH) : Option (Unit × aH) :=
  gS h0 12 x1 <|
  bR (m_X12_name x1 h0) fun x4 h1 =>
  bO (gi h1 12 x1 33) fun x5 =>
  aJ (fun (h2 : aH) =>
  bO (gi h2 12 x1 33) fun x6 =>
  aJ (fun (h3 : aH) =>
  some ((), h3)) fun k47 =>
  if x6 = 0 then
    bO (gr h2 12 x1 44) fun x7 =>
    bO (asL h2 x7 (x2 + x3) x4) fun h4 =>
    k47 h4
  else
  k47 h2) fun k31 =>
  if x5 = 0 then
    gS h1 12 x1 <|
    bR (m_X12_place x1 x2 x3 x4 h1) fun x8 h5 =>
    if x8 < 0 then
      k31 h5
    else
    bO (gi h5 12 x1 37) fun x9 =>
    gS h5 12 x1 <|
    bR (m_X12_fault x1 (3 : Int32) x9 h5) fun _ h6 =>
    k31 h6
  else
  k31 h1
def m_X12_named (x1 : Nat) (x2 : Int32) (x3 : Int32) (h0 : aH) : Option (Int32 × aH) :=
  gS h0 12 x1 <|
  bR (m_X12_name x1 h0) fun x4 h1 =>
  gS h1 12 x1 <|
  bR (m_X12_place x1 x2 x3 x4 h1) fun x5 h2 =>
  bO (gi h2 12 x1 33) fun x6 =>
  aJ (fun (h3 : aH) =>
  bO (gi h3 12 x1 33) fun x7 =>
  aJ (fun (x8 : Int32) (h4 : aH) =>
  some (x8, h4)) fun k48 =>
  if x7 = 0 then
    k48 x5 h3
  else
  k48 (0 : Int32) h3) fun k35 =>
  if x6 = 0 then
    if x5 < 0 then
      bO (gi h2 12 x1 37) fun x9 =>
      gS h2 12 x1 <|
      bR (m_X12_fault x1 (4 : Int32) x9 h2) fun _ h5 =>
      k35 h5
    else
    k35 h2
  else
  k35 h2
def m_X12_skillOf (x1 : Int64) (h0 : aH) : Option (Int32 × aH) :=
  aJ (fun (x2 : Int32) (h1 : aH) =>
  some (x2, h1)) fun k50 =>
  if (lg_cmp x1 (1758489 : Int64)) = 0 then
    k50 (1 : Int32) h0
  else
  if (lg_cmp x1 (67154904 : Int64)) = 0 then
    k50 (2 : Int32) h0
  else
  if (lg_cmp x1 (7010310 : Int64)) = 0 then
    k50 (4 : Int32) h0
  else
  if (lg_cmp x1 (10364495 : Int64)) = 0 then
    k50 (8 : Int32) h0
  else
  k50 (0 : Int32) h0
def m_X12_begins (x1 : Nat) (x2 : Int64) (x3 : Int32) (x4 : Int32) (h0 : aH) : Option (Int32 × aH) :=
  gS h0 12 x1 <|
  bR (m_X12_blanks x1 h0) fun _ h1 =>
  bO (gi h1 12 x1 30) fun x5 =>
  bO (gi h1 12 x1 33) fun x6 =>
  aJ (fun (h2 : aH) =>
  some ((0 : Int32), h2)) fun k25 =>
  if x6 = 0 then
    gS h1 12 x1 <|
    bR (m_X12_says x1 x2 h1) fun x7 h3 =>
    if x7 = 0 then
      k25 h3
    else
    aJ (fun (h4 : aH) =>
    bO (gi h4 12 x1 33) fun x8 =>
    aJ (fun (x9 : Int32) (h5 : aH) =>
    bO (zO x9) fun x10 =>
    some (x10, h5)) fun k52 =>
    if x8 = 0 then
      k52 (1 : Int32) h4
    else
    k52 (0 : Int32) h4) fun k40 =>
    if x3 = x4 then
      gS h3 12 x1 <|
      bR (m_X12_fault x1 (5 : Int32) x5 h3) fun _ h6 =>
      k40 h6
    else
    k40 h3
  else
  k25 h1
def m_X12_person_L42 (x1 : Nat) (k121 : aH → Option (Unit × aH)) (r42 : aH → Option (Unit × aH))  (h6 : aH) : Option (Unit × aH) :=
  bO (gi h6 12 x1 33) fun x7 =>
  if x7 = 0 then
    gS h6 12 x1 <|
    bR (m_X12_isNext x1 (59 : Int32) h6) fun x8 h7 =>
    if x8 = 0 then
      gS h7 12 x1 <|
      bR (m_X12_name x1 h7) fun x9 h8 =>
      bR (m_X12_skillOf x9 h8) fun x10 h9 =>
      aJ (fun (h10 : aH) =>
      bO (gr h10 12 x1 46) fun x11 =>
      bO (gi h10 12 x1 39) fun x12 =>
      bO (ali h10 1 x11 x12) fun x13 =>
      bO (asi h10 x11 x12 (x13 ||| x10)) fun h11 =>
      r42 h11) fun k105 =>
      if x10 = 0 then
        bO (gi h9 12 x1 37) fun x14 =>
        gS h9 12 x1 <|
        bR (m_X12_fault x1 (1 : Int32) x14 h9) fun _ h12 =>
        k105 h12
      else
      bO (gr h9 12 x1 46) fun x15 =>
      bO (gi h9 12 x1 39) fun x16 =>
      bO (ali h9 1 x15 x16) fun x17 =>
      if (x17 &&& x10) = 0 then
        k105 h9
      else
      bO (gi h9 12 x1 37) fun x18 =>
      gS h9 12 x1 <|
      bR (m_X12_fault x1 (3 : Int32) x18 h9) fun _ h13 =>
      k105 h13
    else
    k121 h7
  else
  k121 h6
def m_X12_person (x1 : Nat) (h0 : aH) : Option (Unit × aH) :=
  bO (gi h0 12 x1 39) fun x2 =>
  gS h0 12 x1 <|
  bR (m_X12_newName x1 (0 : Int32) x2 h0) fun _ h1 =>
  bO (gi h1 12 x1 33) fun x3 =>
  aJ (fun (h2 : aH) =>
  bO (gr h2 12 x1 46) fun x4 =>
  bO (gi h2 12 x1 39) fun x5 =>
  bO (asi h2 x4 x5 (0 : Int32)) fun h3 =>
  aJ (fun (h4 : aH) =>
  bO (gi h4 12 x1 39) fun x6 =>
  bO (pi h4 12 x1 39 (x6 + (1 : Int32))) fun h5 =>
  some ((), h5)) fun k121 =>
  aL0 (m_X12_person_L42 x1 k121) FU h3) fun k32 =>
  if x3 = 0 then
    bO (gr h1 12 x1 45) fun x19 =>
    bO (gi h1 12 x1 39) fun x20 =>
    gS h1 12 x1 <|
    bR (m_X12_number x1 (0 : Int32) (120 : Int32) h1) fun x21 h14 =>
    bO (asi h14 x19 x20 x21) fun h15 =>
    k32 h15
  else
  k32 h1
def m_X12_trust (x1 : Nat) (h0 : aH) : Option (Unit × aH) :=
  bO (gi h0 12 x1 39) fun x2 =>
  gS h0 12 x1 <|
  bR (m_X12_named x1 (0 : Int32) x2 h0) fun x3 h1 =>
  bO (gi h1 12 x1 33) fun x4 =>
  if x4 = 0 then
    bO (gi h1 12 x1 39) fun x5 =>
    gS h1 12 x1 <|
    bR (m_X12_named x1 (0 : Int32) x5 h1) fun x6 h2 =>
    bO (gi h2 12 x1 33) fun x7 =>
    if x7 = 0 then
      bO (gr h2 12 x1 48) fun x8 =>
      bO (ali h2 3 x8 (((12 : Int32) * x3) + x6)) fun x9 =>
      aJ (fun (h3 : aH) =>
      some ((), h3)) fun k120 =>
      if x9 = 0 then
        if x3 = x6 then
          bO (gi h2 12 x1 37) fun x10 =>
          gS h2 12 x1 <|
          bR (m_X12_fault x1 (6 : Int32) x10 h2) fun _ h4 =>
          k120 h4
        else
        bO (gr h2 12 x1 48) fun x11 =>
        bO (asz h2 x11 (((12 : Int32) * x3) + x6) (1 : Int32)) fun h5 =>
        bO (gr h5 12 x1 47) fun x12 =>
        gS h5 12 x1 <|
        bR (m_X12_number x1 (0 : Int32) (9 : Int32) h5) fun x13 h6 =>
        bO (asi h6 x12 (((12 : Int32) * x3) + x6) x13) fun h7 =>
        bO (gi h7 12 x1 40) fun x14 =>
        bO (pi h7 12 x1 40 (x14 + (1 : Int32))) fun h8 =>
        k120 h8
      else
      bO (gi h2 12 x1 37) fun x15 =>
      gS h2 12 x1 <|
      bR (m_X12_fault x1 (3 : Int32) x15 h2) fun _ h9 =>
      k120 h9
    else
    some ((), h2)
  else
  some ((), h1)
def m_X12_pager_L62 (x1 : Nat) (k142 : Int32 → aH → Option (Unit × aH)) (r62 : Int32 → aH → Option (Unit × aH)) (x9 : Int32) (h7 : aH) : Option (Unit × aH) :=
  bO (gi h7 12 x1 33) fun x10 =>
  if x10 = 0 then
    aJ (fun (h8 : aH) =>
    bO (gi h8 12 x1 39) fun x11 =>
    gS h8 12 x1 <|
    bR (m_X12_named x1 (0 : Int32) x11 h8) fun x12 h9 =>
    bO (gi h9 12 x1 33) fun x13 =>
    aJ (fun (h10 : aH) =>
    bO (gi h10 12 x1 33) fun x14 =>
    aJ (fun (x15 : Int32) (h11 : aH) =>
    r62 x15 h11) fun k139 =>
    if x14 = 0 then
      bO (gr h10 12 x1 52) fun x16 =>
      bO (gi h10 12 x1 41) fun x17 =>
      bO (asi h10 x16 (((8 : Int32) * x17) + x9) x12) fun h12 =>
      aLet (x9 + (1 : Int32)) fun x18 =>
      k139 x18 h12
    else
    k139 x9 h10) fun k114 =>
    if x13 = 0 then
      if x9 = (8 : Int32) then
        bO (gi h9 12 x1 37) fun x19 =>
        gS h9 12 x1 <|
        bR (m_X12_fault x1 (5 : Int32) x19 h9) fun _ h13 =>
        k114 h13
      else
      k114 h9
    else
    k114 h9) fun k82 =>
    if x9 = 0 then
      k82 h7
    else
    gS h7 12 x1 <|
    bR (m_X12_isNext x1 (59 : Int32) h7) fun x20 h14 =>
    if x20 = 0 then
      k82 h14
    else
    k142 x9 h14
  else
  k142 x9 h7
def m_X12_pager (x1 : Nat) (h0 : aH) : Option (Unit × aH) :=
  bO (gi h0 12 x1 41) fun x2 =>
  gS h0 12 x1 <|
  bR (m_X12_newName x1 (12 : Int32) x2 h0) fun _ h1 =>
  bO (gi h1 12 x1 33) fun x3 =>
  aJ (fun (h2 : aH) =>
  bO (gi h2 12 x1 33) fun x4 =>
  aJ (fun (h3 : aH) =>
  aJ (fun (x5 : Int32) (h4 : aH) =>
  bO (gr h4 12 x1 51) fun x6 =>
  bO (gi h4 12 x1 41) fun x7 =>
  bO (asi h4 x6 x7 x5) fun h5 =>
  bO (gi h5 12 x1 41) fun x8 =>
  bO (pi h5 12 x1 41 (x8 + (1 : Int32))) fun h6 =>
  some ((), h6)) fun k142 =>
  aL1 (m_X12_pager_L62 x1 k142) FU (0 : Int32) h3) fun k60 =>
  if x4 = 0 then
    bO (gr h2 12 x1 50) fun x21 =>
    bO (gi h2 12 x1 41) fun x22 =>
    gS h2 12 x1 <|
    bR (m_X12_number x1 (1 : Int32) (168 : Int32) h2) fun x23 h15 =>
    bO (asi h15 x21 x22 ((60 : Int32) * x23)) fun h16 =>
    k60 h16
  else
  k60 h2) fun k33 =>
  if x3 = 0 then
    bO (gr h1 12 x1 49) fun x24 =>
    bO (gi h1 12 x1 41) fun x25 =>
    gS h1 12 x1 <|
    bR (m_X12_number x1 (0 : Int32) (9 : Int32) h1) fun x26 h17 =>
    bO (asi h17 x24 x25 x26) fun h18 =>
    k33 h18
  else
  k33 h1
def m_X12_engine_L35 (x1 : Nat) (k144 : Int32 → aH → Option (Unit × aH)) (r35 : Int32 → aH → Option (Unit × aH)) (x8 : Int32) (h6 : aH) : Option (Unit × aH) :=
  bO (gi h6 12 x1 33) fun x9 =>
  if x9 = 0 then
    aJ (fun (h7 : aH) =>
    gS h7 12 x1 <|
    bR (m_X12_name x1 h7) fun x10 h8 =>
    bO (gi h8 12 x1 33) fun x11 =>
    aJ (fun (h9 : aH) =>
    bO (gi h9 12 x1 33) fun x12 =>
    aJ (fun (h10 : aH) =>
    bO (gi h10 12 x1 33) fun x13 =>
    aJ (fun (x14 : Int32) (h11 : aH) =>
    r35 x14 h11) fun k141 =>
    if x13 = 0 then
      bO (gr h10 12 x1 55) fun x15 =>
      bO (gi h10 12 x1 42) fun x16 =>
      bR (m_X12_skillOf x10 h10) fun x17 h12 =>
      bO (asi h12 x15 (((6 : Int32) * x16) + x8) x17) fun h13 =>
      aLet (x8 + (1 : Int32)) fun x18 =>
      k141 x18 h13
    else
    k141 x8 h10) fun k113 =>
    if x12 = 0 then
      if x8 = (6 : Int32) then
        bO (gi h9 12 x1 37) fun x19 =>
        gS h9 12 x1 <|
        bR (m_X12_fault x1 (5 : Int32) x19 h9) fun _ h14 =>
        k113 h14
      else
      k113 h9
    else
    k113 h9) fun k91 =>
    if x11 = 0 then
      if (lg_cmp x10 (1132 : Int64)) = 0 then
        k91 h8
      else
      bR (m_X12_skillOf x10 h8) fun x20 h15 =>
      if x20 = 0 then
        bO (gi h15 12 x1 37) fun x21 =>
        gS h15 12 x1 <|
        bR (m_X12_fault x1 (1 : Int32) x21 h15) fun _ h16 =>
        k91 h16
      else
      k91 h15
    else
    k91 h8) fun k55 =>
    if x8 = 0 then
      k55 h6
    else
    gS h6 12 x1 <|
    bR (m_X12_isNext x1 (59 : Int32) h6) fun x22 h17 =>
    if x22 = 0 then
      k55 h17
    else
    k144 x8 h17
  else
  k144 x8 h6
def m_X12_engine (x1 : Nat) (h0 : aH) : Option (Unit × aH) :=
  bO (gi h0 12 x1 42) fun x2 =>
  gS h0 12 x1 <|
  bR (m_X12_newName x1 (18 : Int32) x2 h0) fun _ h1 =>
  bO (gi h1 12 x1 33) fun x3 =>
  aJ (fun (h2 : aH) =>
  aJ (fun (x4 : Int32) (h3 : aH) =>
  bO (gr h3 12 x1 54) fun x5 =>
  bO (gi h3 12 x1 42) fun x6 =>
  bO (asi h3 x5 x6 x4) fun h4 =>
  bO (gi h4 12 x1 42) fun x7 =>
  bO (pi h4 12 x1 42 (x7 + (1 : Int32))) fun h5 =>
  some ((), h5)) fun k144 =>
  aL1 (m_X12_engine_L35 x1 k144) FU (0 : Int32) h2) fun k33 =>
  if x3 = 0 then
    bO (gr h1 12 x1 53) fun x23 =>
    bO (gi h1 12 x1 42) fun x24 =>
    gS h1 12 x1 <|
    bR (m_X12_number x1 (0 : Int32) (120 : Int32) h1) fun x25 h18 =>
    bO (asi h18 x23 x24 x25) fun h19 =>
    k33 h19
  else
  k33 h1
def m_X12_kind_L252 (x1 : Nat) (x15 : Int32) (x18 : Int32) (k289 : aH → Option (Unit × aH)) (r252 : Int32 → aH → Option (Unit × aH)) (x24 : Int32) (h18 : aH) : Option (Unit × aH) :=
  if x24 < x15 then
    bO (gr h18 12 x1 62) fun x25 =>
    bO (gi h18 12 x1 43) fun x26 =>
    bO (ali h18 1 x25 (((5 : Int32) * x26) + x24)) fun x27 =>
    aJ (fun (h19 : aH) =>
    aLet (x24 + (1 : Int32)) fun x28 =>
    r252 x28 h19) fun k283 =>
    if x27 = x18 then
      bO (gi h18 12 x1 37) fun x29 =>
      gS h18 12 x1 <|
      bR (m_X12_fault x1 (3 : Int32) x29 h18) fun _ h20 =>
      k283 h20
    else
    k283 h18
  else
  k289 h18
def m_X12_kind_L219 (x1 : Nat) (k316 : Int32 → aH → Option (Unit × aH)) (r219 : Int32 → aH → Option (Unit × aH)) (x15 : Int32) (h12 : aH) : Option (Unit × aH) :=
  bO (gi h12 12 x1 33) fun x16 =>
  if x16 = 0 then
    aJ (fun (h13 : aH) =>
    bO (gi h13 12 x1 42) fun x17 =>
    gS h13 12 x1 <|
    bR (m_X12_named x1 (18 : Int32) x17 h13) fun x18 h14 =>
    aJ (fun (h15 : aH) =>
    bO (gi h15 12 x1 33) fun x19 =>
    aJ (fun (x20 : Int32) (h16 : aH) =>
    r219 x20 h16) fun k313 =>
    if x19 = 0 then
      bO (gr h15 12 x1 62) fun x21 =>
      bO (gi h15 12 x1 43) fun x22 =>
      bO (asi h15 x21 (((5 : Int32) * x22) + x15) x18) fun h17 =>
      aLet (x15 + (1 : Int32)) fun x23 =>
      k313 x23 h17
    else
    k313 x15 h15) fun k289 =>
    aL1 (m_X12_kind_L252 x1 x15 x18 k289) FU (0 : Int32) h14) fun k239 =>
    if x15 = 0 then
      k239 h12
    else
    gS h12 12 x1 <|
    bR (m_X12_isNext x1 (59 : Int32) h12) fun x30 h21 =>
    if x30 = 0 then
      k239 h21
    else
    k316 x15 h21
  else
  k316 x15 h12
def m_X12_kind_L128 (x1 : Nat) (x31 : Int32) (x34 : Int32) (k166 : aH → Option (Unit × aH)) (r128 : Int32 → aH → Option (Unit × aH)) (x40 : Int32) (h29 : aH) : Option (Unit × aH) :=
  if x40 < x31 then
    bO (gr h29 12 x1 60) fun x41 =>
    bO (gi h29 12 x1 43) fun x42 =>
    bO (ali h29 1 x41 (((6 : Int32) * x42) + x40)) fun x43 =>
    aJ (fun (h30 : aH) =>
    aLet (x40 + (1 : Int32)) fun x44 =>
    r128 x44 h30) fun k160 =>
    if x43 = x34 then
      bO (gi h29 12 x1 37) fun x45 =>
      gS h29 12 x1 <|
      bR (m_X12_fault x1 (3 : Int32) x45 h29) fun _ h31 =>
      k160 h31
    else
    k160 h29
  else
  k166 h29
def m_X12_kind_L95 (x1 : Nat) (k194 : Int32 → aH → Option (Unit × aH)) (r95 : Int32 → aH → Option (Unit × aH)) (x31 : Int32) (h23 : aH) : Option (Unit × aH) :=
  bO (gi h23 12 x1 33) fun x32 =>
  if x32 = 0 then
    aJ (fun (h24 : aH) =>
    bO (gi h24 12 x1 41) fun x33 =>
    gS h24 12 x1 <|
    bR (m_X12_named x1 (12 : Int32) x33 h24) fun x34 h25 =>
    aJ (fun (h26 : aH) =>
    bO (gi h26 12 x1 33) fun x35 =>
    aJ (fun (x36 : Int32) (h27 : aH) =>
    r95 x36 h27) fun k191 =>
    if x35 = 0 then
      bO (gr h26 12 x1 60) fun x37 =>
      bO (gi h26 12 x1 43) fun x38 =>
      bO (asi h26 x37 (((6 : Int32) * x38) + x31) x34) fun h28 =>
      aLet (x31 + (1 : Int32)) fun x39 =>
      k191 x39 h28
    else
    k191 x31 h26) fun k166 =>
    aL1 (m_X12_kind_L128 x1 x31 x34 k166) FU (0 : Int32) h25) fun k115 =>
    if x31 = 0 then
      k115 h23
    else
    gS h23 12 x1 <|
    bR (m_X12_isNext x1 (58 : Int32) h23) fun x46 h32 =>
    if x46 = 0 then
      k115 h32
    else
    k194 x31 h32
  else
  k194 x31 h23
def m_X12_kind (x1 : Nat) (h0 : aH) : Option (Unit × aH) :=
  bO (gi h0 12 x1 43) fun x2 =>
  gS h0 12 x1 <|
  bR (m_X12_newName x1 (23 : Int32) x2 h0) fun _ h1 =>
  bO (gi h1 12 x1 33) fun x3 =>
  aJ (fun (h2 : aH) =>
  bO (gi h2 12 x1 33) fun x4 =>
  aJ (fun (h3 : aH) =>
  bO (gi h3 12 x1 33) fun x5 =>
  aJ (fun (h4 : aH) =>
  bO (gi h4 12 x1 33) fun x6 =>
  aJ (fun (h5 : aH) =>
  aJ (fun (x7 : Int32) (h6 : aH) =>
  bO (gr h6 12 x1 59) fun x8 =>
  bO (gi h6 12 x1 43) fun x9 =>
  bO (asi h6 x8 x9 x7) fun h7 =>
  bO (gi h7 12 x1 33) fun x10 =>
  aJ (fun (h8 : aH) =>
  aJ (fun (x11 : Int32) (h9 : aH) =>
  bO (gr h9 12 x1 61) fun x12 =>
  bO (gi h9 12 x1 43) fun x13 =>
  bO (asi h9 x12 x13 x11) fun h10 =>
  bO (gi h10 12 x1 43) fun x14 =>
  bO (pi h10 12 x1 43 (x14 + (1 : Int32))) fun h11 =>
  some ((), h11)) fun k316 =>
  aL1 (m_X12_kind_L219 x1 k316) FU (0 : Int32) h8) fun k217 =>
  if x10 = 0 then
    gS h7 12 x1 <|
    bR (m_X12_sign x1 (58 : Int32) h7) fun _ h22 =>
    k217 h22
  else
  k217 h7) fun k194 =>
  aL1 (m_X12_kind_L95 x1 k194) FU (0 : Int32) h5) fun k93 =>
  if x6 = 0 then
    gS h4 12 x1 <|
    bR (m_X12_sign x1 (58 : Int32) h4) fun _ h33 =>
    k93 h33
  else
  k93 h4) fun k80 =>
  if x5 = 0 then
    bO (gr h3 12 x1 58) fun x47 =>
    bO (gi h3 12 x1 43) fun x48 =>
    gS h3 12 x1 <|
    bR (m_X12_number x1 (1 : Int32) (5 : Int32) h3) fun x49 h34 =>
    bO (asi h34 x47 x48 x49) fun h35 =>
    k80 h35
  else
  k80 h3) fun k58 =>
  if x4 = 0 then
    bO (gr h2 12 x1 57) fun x50 =>
    bO (gi h2 12 x1 43) fun x51 =>
    gS h2 12 x1 <|
    bR (m_X12_number x1 (0 : Int32) (240 : Int32) h2) fun x52 h36 =>
    bO (asi h36 x50 x51 x52) fun h37 =>
    k58 h37
  else
  k58 h2) fun k34 =>
  if x3 = 0 then
    bO (gr h1 12 x1 56) fun x53 =>
    bO (gi h1 12 x1 43) fun x54 =>
    gS h1 12 x1 <|
    bR (m_X12_number x1 (1 : Int32) (999 : Int32) h1) fun x55 h38 =>
    bO (asi h38 x53 x54 x55) fun h39 =>
    k34 h39
  else
  k34 h1
def m_X12_semicolon (x1 : Nat) (h0 : aH) : Option (Unit × aH) :=
  bO (gi h0 12 x1 33) fun x2 =>
  aJ (fun (h1 : aH) =>
  some ((), h1)) fun k13 =>
  if x2 = 0 then
    gS h0 12 x1 <|
    bR (m_X12_sign x1 (59 : Int32) h0) fun _ h2 =>
    k13 h2
  else
  k13 h0
def m_X12_readsText_L290 (x1 : Nat) (k317 : aH → Option (Unit × aH)) (r290 : aH → Option (Unit × aH))  (h22 : aH) : Option (Unit × aH) :=
  bO (gi h22 12 x1 43) fun x7 =>
  gS h22 12 x1 <|
  bR (m_X12_begins x1 (223456 : Int64) x7 (6 : Int32) h22) fun x8 h23 =>
  if x8 = 0 then
    k317 h23
  else
  gS h23 12 x1 <|
  bR (m_X12_kind x1 h23) fun _ h24 =>
  gS h24 12 x1 <|
  bR (m_X12_semicolon x1 h24) fun _ h25 =>
  r290 h25
def m_X12_readsText_L264 (x1 : Nat) (k290 : aH → Option (Unit × aH)) (r264 : aH → Option (Unit × aH))  (h26 : aH) : Option (Unit × aH) :=
  bO (gi h26 12 x1 42) fun x9 =>
  gS h26 12 x1 <|
  bR (m_X12_begins x1 (79329434 : Int64) x9 (5 : Int32) h26) fun x10 h27 =>
  if x10 = 0 then
    k290 h27
  else
  gS h27 12 x1 <|
  bR (m_X12_engine x1 h27) fun _ h28 =>
  gS h28 12 x1 <|
  bR (m_X12_semicolon x1 h28) fun _ h29 =>
  r264 h29
def m_X12_readsText_L237 (x1 : Nat) (k264 : aH → Option (Unit × aH)) (r237 : aH → Option (Unit × aH))  (h30 : aH) : Option (Unit × aH) :=
  bO (gi h30 12 x1 41) fun x11 =>
  gS h30 12 x1 <|
  bR (m_X12_begins x1 (8527995 : Int64) x11 (6 : Int32) h30) fun x12 h31 =>
  if x12 = 0 then
    k264 h31
  else
  gS h31 12 x1 <|
  bR (m_X12_pager x1 h31) fun _ h32 =>
  gS h32 12 x1 <|
  bR (m_X12_semicolon x1 h32) fun _ h33 =>
  r237 h33
def m_X12_readsText_L210 (x1 : Nat) (k237 : aH → Option (Unit × aH)) (r210 : aH → Option (Unit × aH))  (h34 : aH) : Option (Unit × aH) :=
  bO (gi h34 12 x1 40) fun x13 =>
  gS h34 12 x1 <|
  bR (m_X12_begins x1 (10998956 : Int64) x13 (24 : Int32) h34) fun x14 h35 =>
  if x14 = 0 then
    k237 h35
  else
  gS h35 12 x1 <|
  bR (m_X12_trust x1 h35) fun _ h36 =>
  gS h36 12 x1 <|
  bR (m_X12_semicolon x1 h36) fun _ h37 =>
  r210 h37
def m_X12_readsText_L183 (x1 : Nat) (k210 : aH → Option (Unit × aH)) (r183 : aH → Option (Unit × aH))  (h38 : aH) : Option (Unit × aH) :=
  bO (gi h38 12 x1 39) fun x15 =>
  gS h38 12 x1 <|
  bR (m_X12_begins x1 (232608281 : Int64) x15 (12 : Int32) h38) fun x16 h39 =>
  if x16 = 0 then
    k210 h39
  else
  gS h39 12 x1 <|
  bR (m_X12_person x1 h39) fun _ h40 =>
  gS h40 12 x1 <|
  bR (m_X12_semicolon x1 h40) fun _ h41 =>
  r183 h41
def m_X12_readsText_L89 (x1 : Nat) (k179 : aH → Option (Unit × aH)) (r89 : Int32 → aH → Option (Unit × aH)) (x17 : Int32) (h42 : aH) : Option (Unit × aH) :=
  if x17 < (4 : Int32) then
    bO (gi h42 12 x1 33) fun x18 =>
    if x18 = 0 then
      bO (gr h42 12 x1 38) fun x19 =>
      aJ (fun (x20 : Int32) (h43 : aH) =>
      aJ (fun (x21 : Int32) (h44 : aH) =>
      gS h44 12 x1 <|
      bR (m_X12_number x1 x20 x21 h44) fun x22 h45 =>
      bO (asi h45 x19 x17 x22) fun h46 =>
      aJ (fun (h47 : aH) =>
      aLet (x17 + (1 : Int32)) fun x23 =>
      r89 x23 h47) fun k173 =>
      if x17 = (1 : Int32) then
        bO (gr h46 12 x1 38) fun x24 =>
        bO (ali h46 1 x24 (1 : Int32)) fun x25 =>
        bO (gr h46 12 x1 38) fun x26 =>
        bO (ali h46 1 x26 (0 : Int32)) fun x27 =>
        if x25 = x27 then
          bO (gi h46 12 x1 35) fun x28 =>
          gS h46 12 x1 <|
          bR (m_X12_fault x1 (2 : Int32) x28 h46) fun _ h48 =>
          k173 h48
        else
        k173 h46
      else
      k173 h46) fun k140 =>
      if x17 < (2 : Int32) then
        k140 (23 : Int32) h43
      else
      if x17 = (2 : Int32) then
        k140 (30 : Int32) h43
      else
      k140 (999 : Int32) h43) fun k117 =>
      if x17 = (3 : Int32) then
        k117 (1 : Int32) h42
      else
      k117 (0 : Int32) h42
    else
    k179 h42
  else
  k179 h42
def m_X12_readsText_L37 (x1 : Nat) (k64 : aH → Option (Unit × aH)) (r37 : Int32 → aH → Option (Unit × aH)) (x30 : Int32) (h50 : aH) : Option (Unit × aH) :=
  if x30 < (144 : Int32) then
    bO (gr h50 12 x1 47) fun x31 =>
    bO (asi h50 x31 x30 (0 : Int32)) fun h51 =>
    bO (gr h51 12 x1 48) fun x32 =>
    bO (asz h51 x32 x30 (0 : Int32)) fun h52 =>
    aLet (x30 + (1 : Int32)) fun x33 =>
    r37 x33 h52
  else
  k64 h50
def m_X12_readsText (x1 : Nat) (h0 : aH) : Option (Unit × aH) :=
  bO (pi h0 12 x1 30 (0 : Int32)) fun h1 =>
  bO (pz h1 12 x1 33 (0 : Int32)) fun h2 =>
  bO (pi h2 12 x1 39 (0 : Int32)) fun h3 =>
  bO (pi h3 12 x1 40 (0 : Int32)) fun h4 =>
  bO (pi h4 12 x1 41 (0 : Int32)) fun h5 =>
  bO (pi h5 12 x1 42 (0 : Int32)) fun h6 =>
  bO (pi h6 12 x1 43 (0 : Int32)) fun h7 =>
  aJ (fun (h8 : aH) =>
  gS h8 12 x1 <|
  bR (m_X12_blanks x1 h8) fun _ h9 =>
  gS h9 12 x1 <|
  bR (m_X12_says x1 (7622660 : Int64) h9) fun x2 h10 =>
  aJ (fun (h11 : aH) =>
  aJ (fun (h12 : aH) =>
  gS h12 12 x1 <|
  bR (m_X12_semicolon x1 h12) fun _ h13 =>
  aJ (fun (h14 : aH) =>
  aJ (fun (h15 : aH) =>
  aJ (fun (h16 : aH) =>
  aJ (fun (h17 : aH) =>
  aJ (fun (h18 : aH) =>
  bO (gi h18 12 x1 33) fun x3 =>
  aJ (fun (h19 : aH) =>
  some ((), h19)) fun k348 =>
  if x3 = 0 then
    gS h18 12 x1 <|
    bR (m_X12_blanks x1 h18) fun _ h20 =>
    bO (gi h20 12 x1 30) fun x4 =>
    bO (gi h20 12 x1 29) fun x5 =>
    if x4 < x5 then
      bO (gi h20 12 x1 30) fun x6 =>
      gS h20 12 x1 <|
      bR (m_X12_fault x1 (1 : Int32) x6 h20) fun _ h21 =>
      k348 h21
    else
    k348 h20
  else
  k348 h18) fun k317 =>
  aL0 (m_X12_readsText_L290 x1 k317) FU h17) fun k290 =>
  aL0 (m_X12_readsText_L264 x1 k290) FU h16) fun k264 =>
  aL0 (m_X12_readsText_L237 x1 k264) FU h15) fun k237 =>
  aL0 (m_X12_readsText_L210 x1 k237) FU h14) fun k210 =>
  aL0 (m_X12_readsText_L183 x1 k210) FU h13) fun k179 =>
  aL1 (m_X12_readsText_L89 x1 k179) FU (0 : Int32) h11) fun k87 =>
  if x2 = 0 then
    bO (gi h10 12 x1 30) fun x29 =>
    gS h10 12 x1 <|
    bR (m_X12_fault x1 (1 : Int32) x29 h10) fun _ h49 =>
    k87 h49
  else
  k87 h10) fun k64 =>
  aL1 (m_X12_readsText_L37 x1 k64) FU (0 : Int32) h7
def m_X12_load (x1 : Nat) (h0 : aH) : Option (Int32 × aH) :=
  bO (pi h0 12 x1 31 (0 : Int32)) fun h1 =>
  bO (pi h1 12 x1 32 (-1 : Int32)) fun h2 =>
  gS h2 12 x1 <|
  bR (m_X12_readsText x1 h2) fun _ h3 =>
  bO (pi h3 12 x1 29 (0 : Int32)) fun h4 =>
  bO (gi h4 12 x1 33) fun x2 =>
  aJ (fun (x3 : Int32) (h5 : aH) =>
  bO (pi h5 12 x1 0 x3) fun h6 =>
  bO (gi h6 12 x1 0) fun x4 =>
  if x4 ≤ 0 then
    gS h6 12 x1 <|
    bR (m_X12_takesText x1 h6) fun _ h7 =>
    bO (gi h7 12 x1 8) fun x5 =>
    some (x5, h7)
  else
  some ((0 : Int32), h6)) fun k32 =>
  if x2 = 0 then
    k32 (0 : Int32) h4
  else
  k32 (1 : Int32) h4
def m_X12_errorCode (x1 : Nat) (h0 : aH) : Option (Int32 × aH) :=
  bO (pi h0 12 x1 0 (0 : Int32)) fun h1 =>
  bO (gi h1 12 x1 31) fun x2 =>
  some (x2, h1)
def m_X12_errorPosition (x1 : Nat) (h0 : aH) : Option (Int32 × aH) :=
  bO (pi h0 12 x1 0 (0 : Int32)) fun h1 =>
  bO (gi h1 12 x1 32) fun x2 =>
  some (x2, h1)
def m_X12_find_L180 (x1 : Nat) (x5 : Int64) (x7 : Int32) (x8 : Int32) (k211 : aH → Option (Int32 × aH)) (k202 : Int32 → aH → Option (Int32 × aH)) (r180 : Int32 → aH → Option (Int32 × aH)) (x10 : Int32) (h11 : aH) : Option (Int32 × aH) :=
  if x10 < x8 then
    bO (gr h11 12 x1 12) fun x11 =>
    bO (alL h11 x11 (x7 + x10)) fun x12 =>
    if (lg_cmp x12 x5) = 0 then
      k202 x10 h11
    else
    aLet (x10 + (1 : Int32)) fun x13 =>
    r180 x13 h11
  else
  k211 h11
def m_X12_find_L26 (x1 : Nat) (k90 : Int64 → aH → Option (Int32 × aH)) (r26 : Int64 → Int32 → aH → Option (Int32 × aH)) (x18 : Int64) (x19 : Int32) (h12 : aH) : Option (Int32 × aH) :=
  bO (gi h12 12 x1 29) fun x20 =>
  if x19 < x20 then
    gS h12 12 x1 <|
    bR (m_X12_isLetter x1 x19 h12) fun x21 h13 =>
    aJ (fun (x22 : Int64) (h14 : aH) =>
    aLet (x19 + (1 : Int32)) fun x23 =>
    r26 x22 x23 h14) fun k83 =>
    aJ (fun (h15 : aH) =>
    k83 (-1 : Int64) h15) fun k80 =>
    if x21 = 0 then
      k80 h13
    else
    if x19 < (8 : Int32) then
      if (lg_cmp x18 (0 : Int64)) < 0 then
        k80 h13
      else
      bO (gr h13 12 x1 28) fun x24 =>
      bO (ali h13 1 x24 x19) fun x25 =>
      k83 (((((27 : Int64) * x18) + (x25.toInt64)) - (97 : Int64)) + (1 : Int64)) h13
    else
    k80 h13
  else
  k90 x18 h12
def m_X12_find (x1 : Nat) (x2 : Int32) (h0 : aH) : Option (Int32 × aH) :=
  bR (m_X12_in (x2.toInt64) (0 : Int64) (3 : Int64) h0) fun x3 h1 =>
  aJ (fun (x4 : Int32) (h2 : aH) =>
  bO (pi h2 12 x1 0 x4) fun h3 =>
  aJ (fun (x5 : Int64) (h4 : aH) =>
  bO (pi h4 12 x1 29 (0 : Int32)) fun h5 =>
  bO (gi h5 12 x1 0) fun x6 =>
  if x6 ≤ 0 then
    aJ (fun (x7 : Int32) (h6 : aH) =>
    aJ (fun (x8 : Int32) (h7 : aH) =>
    aJ (fun (h8 : aH) =>
    bO (pi h8 12 x1 0 (2 : Int32)) fun h9 =>
    some ((0 : Int32), h9)) fun k211 =>
    aJ (fun (x9 : Int32) (h10 : aH) =>
    some (x9, h10)) fun k202 =>
    aL1 (m_X12_find_L180 x1 x5 x7 x8 k211 k202) FU (0 : Int32) h7) fun k175 =>
    if x2 = 0 then
      bO (gi h6 12 x1 8) fun x14 =>
      k175 x14 h6
    else
    if x2 = (1 : Int32) then
      bO (gi h6 12 x1 9) fun x15 =>
      k175 x15 h6
    else
    if x2 = (2 : Int32) then
      bO (gi h6 12 x1 10) fun x16 =>
      k175 x16 h6
    else
    bO (gi h6 12 x1 11) fun x17 =>
    k175 x17 h6) fun k134 =>
    if x2 = 0 then
      k134 (0 : Int32) h5
    else
    if x2 = (1 : Int32) then
      k134 (12 : Int32) h5
    else
    if x2 = (2 : Int32) then
      k134 (18 : Int32) h5
    else
    k134 (23 : Int32) h5
  else
  some ((0 : Int32), h5)) fun k90 =>
  aL2 (m_X12_find_L26 x1 k90) FU (0 : Int64) (0 : Int32) h3) fun k18 =>
  if x3 = 0 then
    k18 (1 : Int32) h1
  else
  k18 (0 : Int32) h1
def m_X12_count (x1 : Nat) (x2 : Int32) (h0 : aH) : Option (Int32 × aH) :=
  bR (m_X12_in (x2.toInt64) (0 : Int64) (4 : Int64) h0) fun x3 h1 =>
  aJ (fun (x4 : Int32) (h2 : aH) =>
  bO (pi h2 12 x1 0 x4) fun h3 =>
  bO (gi h3 12 x1 0) fun x5 =>
  if x5 ≤ 0 then
    aJ (fun (x6 : Int32) (h4 : aH) =>
    some (x6, h4)) fun k83 =>
    if x2 = 0 then
      bO (gi h3 12 x1 8) fun x7 =>
      k83 x7 h3
    else
    if x2 = (1 : Int32) then
      bO (gi h3 12 x1 9) fun x8 =>
      k83 x8 h3
    else
    if x2 = (2 : Int32) then
      bO (gi h3 12 x1 10) fun x9 =>
      k83 x9 h3
    else
    if x2 = (3 : Int32) then
      bO (gi h3 12 x1 11) fun x10 =>
      k83 x10 h3
    else
    bO (gr h3 12 x1 1) fun x11 =>
    bO (ali h3 1 x11 (1 : Int32)) fun x12 =>
    k83 x12 h3
  else
  some ((0 : Int32), h3)) fun k18 =>
  if x3 = 0 then
    k18 (1 : Int32) h1
  else
  k18 (0 : Int32) h1
def m_X12_isNight (x1 : Nat) (x2 : Int32) (h0 : aH) : Option (Int32 × aH) :=
  bO (dvI x2 (60 : Int32)) fun x3 =>
  bO (rmI x3 (24 : Int32)) fun x4 =>
  bO (gr h0 12 x1 7) fun x5 =>
  bO (ali h0 1 x5 (0 : Int32)) fun x6 =>
  bO (rmI ((x4 - x6) + (24 : Int32)) (24 : Int32)) fun x7 =>
  bO (gr h0 12 x1 7) fun x8 =>
  bO (ali h0 1 x8 (1 : Int32)) fun x9 =>
  bO (gr h0 12 x1 7) fun x10 =>
  bO (ali h0 1 x10 (0 : Int32)) fun x11 =>
  bO (rmI ((x9 - x11) + (24 : Int32)) (24 : Int32)) fun x12 =>
  aJ (fun (x13 : Int32) (h1 : aH) =>
  bO (zO x13) fun x14 =>
  some (x14, h1)) fun k49 =>
  if x7 < x12 then
    k49 (1 : Int32) h0
  else
  k49 (0 : Int32) h0
def m_X12_isOut (x1 : Nat) (x2 : Int32) (h0 : aH) : Option (Int32 × aH) :=
  bO (gr h0 12 x1 1) fun x3 =>
  bO (ali h0 1 x3 ((14 : Int32) + x2)) fun x4 =>
  bO (gr h0 12 x1 1) fun x5 =>
  bO (ali h0 1 x5 (0 : Int32)) fun x6 =>
  aJ (fun (x7 : Int32) (h1 : aH) =>
  bO (zO x7) fun x8 =>
  some (x8, h1)) fun k23 =>
  if x4 ≤ x6 then
    k23 (0 : Int32) h0
  else
  k23 (1 : Int32) h0
def m_X12_isTired (x1 : Nat) (x2 : Int32) (h0 : aH) : Option (Int32 × aH) :=
  bO (gr h0 12 x1 1) fun x3 =>
  bO (ali h0 1 x3 ((2 : Int32) + x2)) fun x4 =>
  bO (gr h0 12 x1 7) fun x5 =>
  bO (ali h0 1 x5 (3 : Int32)) fun x6 =>
  aJ (fun (x7 : Int32) (h1 : aH) =>
  bO (zO x7) fun x8 =>
  some (x8, h1)) fun k22 =>
  if x4 < x6 then
    k22 (0 : Int32) h0
  else
  k22 (1 : Int32) h0
def m_X12_arrivalOf (x1 : Nat) (x2 : Int32) (h0 : aH) : Option (Int32 × aH) :=
  bO (gr h0 12 x1 13) fun x3 =>
  bO (ali h0 1 x3 x2) fun x4 =>
  bO (gr h0 12 x1 1) fun x5 =>
  bO (ali h0 1 x5 (0 : Int32)) fun x6 =>
  gS h0 12 x1 <|
  bR (m_X12_isNight x1 x6 h0) fun x7 h1 =>
  aJ (fun (x8 : Int32) (h2 : aH) =>
  some (x4 + x8, h2)) fun k29 =>
  if x7 = 0 then
    k29 (0 : Int32) h1
  else
  bO (gr h1 12 x1 7) fun x9 =>
  bO (ali h1 1 x9 (2 : Int32)) fun x10 =>
  k29 x10 h1
def m_X12_grows_L12 (x1 : Nat) (x2 : Int32) (x3 : Int32) (k96 : aH → Option (Unit × aH)) (r12 : Int32 → aH → Option (Unit × aH)) (x6 : Int32) (h4 : aH) : Option (Unit × aH) :=
  bO (gi h4 12 x1 8) fun x7 =>
  if x6 < x7 then
    aJ (fun (x8 : Int32) (h5 : aH) =>
    aJ (fun (h6 : aH) =>
    aLet (x6 + (1 : Int32)) fun x9 =>
    r12 x9 h6) fun k90 =>
    if x8 = 0 then
      k90 h5
    else
    bO (gr h5 12 x1 1) fun x10 =>
    bO (ali h5 1 x10 (((50 : Int32) + ((12 : Int32) * x3)) + x6)) fun x11 =>
    if x11 < (9 : Int32) then
      bO (gr h5 12 x1 1) fun x12 =>
      aLet (((50 : Int32) + ((12 : Int32) * x3)) + x6) fun x13 =>
      bO (ali h5 1 x12 x13) fun x14 =>
      bO (asi h5 x12 x13 (x14 + (1 : Int32))) fun h7 =>
      k90 h7
    else
    k90 h5) fun k46 =>
    aJ (fun (h8 : aH) =>
    k46 (0 : Int32) h8) fun k45 =>
    if x3 = x6 then
      k45 h4
    else
    if ((x2 >>> (x3 &&& 31)) &&& (1 : Int32)) = 0 then
      k45 h4
    else
    if ((x2 >>> (x6 &&& 31)) &&& (1 : Int32)) = 0 then
      k45 h4
    else
    k46 (1 : Int32) h4
  else
  k96 h4
def m_X12_grows_L2 (x1 : Nat) (x2 : Int32) (k102 : aH → Option (Unit × aH)) (r2 : Int32 → aH → Option (Unit × aH)) (x3 : Int32) (h2 : aH) : Option (Unit × aH) :=
  bO (gi h2 12 x1 8) fun x4 =>
  if x3 < x4 then
    aJ (fun (h3 : aH) =>
    aLet (x3 + (1 : Int32)) fun x5 =>
    r2 x5 h3) fun k96 =>
    aL1 (m_X12_grows_L12 x1 x2 x3 k96) FU (0 : Int32) h2
  else
  k102 h2
def m_X12_grows (x1 : Nat) (x2 : Int32) (h0 : aH) : Option (Unit × aH) :=
  aJ (fun (h1 : aH) =>
  some ((), h1)) fun k102 =>
  aL1 (m_X12_grows_L2 x1 x2 k102) FU (0 : Int32) h0
def m_X12_minute_L197 (x1 : Nat) (x8 : Int32) (k259 : aH → Option (Int32 × aH)) (r197 : aH → Option (Int32 × aH))  (h7 : aH) : Option (Int32 × aH) :=
  bO (gr h7 12 x1 1) fun x10 =>
  bO (ali h7 1 x10 (x8 + (8 : Int32))) fun x11 =>
  if x11 ≤ 0 then
    k259 h7
  else
  bO (gr h7 12 x1 1) fun x12 =>
  bO (gr h7 12 x1 1) fun x13 =>
  bO (ali h7 1 x13 (x8 + (8 : Int32))) fun x14 =>
  bO (ali h7 1 x12 (((x8 + (12 : Int32)) + x14) - (1 : Int32))) fun x15 =>
  bO (gr h7 12 x1 1) fun x16 =>
  bO (ali h7 1 x16 (0 : Int32)) fun x17 =>
  if x15 ≤ x17 then
    bO (gr h7 12 x1 1) fun x18 =>
    aLet (x8 + (8 : Int32)) fun x19 =>
    bO (ali h7 1 x18 x19) fun x20 =>
    bO (asi h7 x18 x19 (x20 - (1 : Int32))) fun h8 =>
    r197 h8
  else
  k259 h7
def m_X12_minute_L179 (x1 : Nat) (k265 : aH → Option (Int32 × aH)) (r179 : Int32 → aH → Option (Int32 × aH)) (x6 : Int32) (h5 : aH) : Option (Int32 × aH) :=
  bO (gi h5 12 x1 9) fun x7 =>
  if x6 < x7 then
    aLet ((194 : Int32) + ((15 : Int32) * x6)) fun x8 =>
    aJ (fun (h6 : aH) =>
    aLet (x6 + (1 : Int32)) fun x9 =>
    r179 x9 h6) fun k259 =>
    aL0 (m_X12_minute_L197 x1 x8 k259) FU h5
  else
  k265 h5
def m_X12_minute_L98 (x1 : Nat) (k177 : Int32 → aH → Option (Int32 × aH)) (r98 : Int32 → Int32 → aH → Option (Int32 × aH)) (x21 : Int32) (x22 : Int32) (h9 : aH) : Option (Int32 × aH) :=
  bO (gi h9 12 x1 10) fun x23 =>
  if x22 < x23 then
    aLet ((284 : Int32) + ((3 : Int32) * x22)) fun x24 =>
    bO (gr h9 12 x1 1) fun x25 =>
    bO (ali h9 1 x25 (x24 + (2 : Int32))) fun x26 =>
    aJ (fun (x27 : Int32) (h10 : aH) =>
    aLet (x22 + (1 : Int32)) fun x28 =>
    r98 x27 x28 h10) fun k171 =>
    if x26 = 0 then
      k171 x21 h9
    else
    bO (gr h9 12 x1 1) fun x29 =>
    bO (ali h9 1 x29 (x24 + (0 : Int32))) fun x30 =>
    bO (gr h9 12 x1 1) fun x31 =>
    bO (ali h9 1 x31 (0 : Int32)) fun x32 =>
    if x30 = x32 then
      aLet (x21 + (1 : Int32)) fun x33 =>
      bO (gr h9 12 x1 1) fun x34 =>
      bO (ali h9 1 x34 (x24 + (2 : Int32))) fun x35 =>
      gS h9 12 x1 <|
      bR (m_X12_grows x1 x35 h9) fun _ h11 =>
      bO (gr h11 12 x1 1) fun x36 =>
      bO (asi h11 x36 (x24 + (2 : Int32)) (0 : Int32)) fun h12 =>
      k171 x33 h12
    else
    k171 x21 h9
  else
  k177 x21 h9
def m_X12_minute_L9 (x1 : Nat) (x3 : Int32) (k85 : aH → Option (Int32 × aH)) (r9 : Int32 → aH → Option (Int32 × aH)) (x37 : Int32) (h13 : aH) : Option (Int32 × aH) :=
  bO (gi h13 12 x1 8) fun x38 =>
  if x37 < x38 then
    gS h13 12 x1 <|
    bR (m_X12_isNight x1 x3 h13) fun x39 h14 =>
    if x39 = 0 then
      k85 h14
    else
    bO (gr h14 12 x1 1) fun x40 =>
    bO (ali h14 1 x40 ((14 : Int32) + x37)) fun x41 =>
    aJ (fun (x42 : Int32) (h15 : aH) =>
    bO (gr h15 12 x1 1) fun x43 =>
    aLet ((2 : Int32) + x37) fun x44 =>
    bO (ali h15 1 x43 x44) fun x45 =>
    aJ (fun (x46 : Int32) (h16 : aH) =>
    bO (asi h16 x43 x44 (x45 + x46)) fun h17 =>
    aLet (x37 + (1 : Int32)) fun x47 =>
    r9 x47 h17) fun k77 =>
    if x42 = 0 then
      bO (gr h15 12 x1 1) fun x48 =>
      bO (ali h15 1 x48 ((2 : Int32) + x37)) fun x49 =>
      if x49 ≤ 0 then
        k77 (0 : Int32) h15
      else
      k77 (-1 : Int32) h15
    else
    k77 (1 : Int32) h15) fun k43 =>
    if x41 ≤ x3 then
      k43 (0 : Int32) h14
    else
    k43 (1 : Int32) h14
  else
  k85 h13
def m_X12_minute (x1 : Nat) (h0 : aH) : Option (Int32 × aH) :=
  bO (gr h0 12 x1 1) fun x2 =>
  bO (ali h0 1 x2 (0 : Int32)) fun x3 =>
  aJ (fun (h1 : aH) =>
  bO (gr h1 12 x1 1) fun x4 =>
  bO (asi h1 x4 (0 : Int32) (x3 + (1 : Int32))) fun h2 =>
  aJ (fun (x5 : Int32) (h3 : aH) =>
  aJ (fun (h4 : aH) =>
  some (x5, h4)) fun k265 =>
  aL1 (m_X12_minute_L179 x1 k265) FU (0 : Int32) h3) fun k177 =>
  aL2 (m_X12_minute_L98 x1 k177) FU (0 : Int32) (0 : Int32) h2) fun k85 =>
  aL1 (m_X12_minute_L9 x1 x3 k85) FU (0 : Int32) h0
def m_X12_lays_L2 (x1 : Nat) (k27 : aH → Option (Unit × aH)) (r2 : Int32 → aH → Option (Unit × aH)) (x2 : Int32) (h2 : aH) : Option (Unit × aH) :=
  if x2 < (603 : Int32) then
    bO (gr h2 12 x1 4) fun x3 =>
    bO (gr h2 12 x1 1) fun x4 =>
    bO (ali h2 1 x4 x2) fun x5 =>
    bO (asi h2 x3 x2 x5) fun h3 =>
    aLet (x2 + (1 : Int32)) fun x6 =>
    r2 x6 h3
  else
  k27 h2
def m_X12_lays (x1 : Nat) (h0 : aH) : Option (Unit × aH) :=
  aJ (fun (h1 : aH) =>
  some ((), h1)) fun k27 =>
  aL1 (m_X12_lays_L2 x1 k27) FU (0 : Int32) h0
def m_X12_takes_L2 (x1 : Nat) (k27 : aH → Option (Unit × aH)) (r2 : Int32 → aH → Option (Unit × aH)) (x2 : Int32) (h2 : aH) : Option (Unit × aH) :=
  if x2 < (603 : Int32) then
    bO (gr h2 12 x1 1) fun x3 =>
    bO (gr h2 12 x1 4) fun x4 =>
    bO (ali h2 1 x4 x2) fun x5 =>
    bO (asi h2 x3 x2 x5) fun h3 =>
    aLet (x2 + (1 : Int32)) fun x6 =>
    r2 x6 h3
  else
  k27 h2
def m_X12_takes (x1 : Nat) (h0 : aH) : Option (Unit × aH) :=
  aJ (fun (h1 : aH) =>
  some ((), h1)) fun k27 =>
  aL1 (m_X12_takes_L2 x1 k27) FU (0 : Int32) h0
def m_X12_time (x1 : Nat) (h0 : aH) : Option (Int32 × aH) :=
  bO (pi h0 12 x1 0 (0 : Int32)) fun h1 =>
  bO (gr h1 12 x1 1) fun x2 =>
  bO (ali h1 1 x2 (0 : Int32)) fun x3 =>
  some (x3, h1)
def m_X12_nightMinutes_L30 (x1 : Nat) (x3 : Int32) (k66 : Int32 → aH → Option (Int32 × aH)) (r30 : Int32 → Int32 → aH → Option (Int32 × aH)) (x6 : Int32) (x7 : Int32) (h4 : aH) : Option (Int32 × aH) :=
  if x7 < x3 then
    bO (gi h4 12 x1 0) fun x8 =>
    if x8 = 0 then
      gS h4 12 x1 <|
      bR (m_X12_isNight x1 x7 h4) fun x9 h5 =>
      aJ (fun (x10 : Int32) (h6 : aH) =>
      aLet (x6 + x10) fun x11 =>
      aLet (x7 + (1 : Int32)) fun x12 =>
      r30 x11 x12 h6) fun k58 =>
      if x9 = 0 then
        k58 (0 : Int32) h5
      else
      k58 (1 : Int32) h5
    else
    k66 x6 h4
  else
  k66 x6 h4
def m_X12_nightMinutes (x1 : Nat) (x2 : Int32) (x3 : Int32) (h0 : aH) : Option (Int32 × aH) :=
  aJ (fun (x4 : Int32) (h1 : aH) =>
  bO (pi h1 12 x1 0 x4) fun h2 =>
  aJ (fun (x5 : Int32) (h3 : aH) =>
  some (x5, h3)) fun k66 =>
  aL2 (m_X12_nightMinutes_L30 x1 x3 k66) FU (0 : Int32) x2 h2) fun k22 =>
  aJ (fun (h7 : aH) =>
  k22 (1 : Int32) h7) fun k17 =>
  if x2 < 0 then
    k17 h0
  else
  if x3 ≤ (20160 : Int32) then
    if x2 ≤ x3 then
      k22 (0 : Int32) h0
    else
    k17 h0
  else
  k17 h0
def m_X12_isPerson (x1 : Nat) (x2 : Int32) (h0 : aH) : Option (Int32 × aH) :=
  bO (gi h0 12 x1 8) fun x3 =>
  bR (m_X12_in (x2.toInt64) (0 : Int64) ((x3 - (1 : Int32)).toInt64) h0) fun x4 h1 =>
  bO (zO x4) fun x5 =>
  some (x5, h1)
def m_X12_outUntil (x1 : Nat) (x2 : Int32) (h0 : aH) : Option (Int32 × aH) :=
  gS h0 12 x1 <|
  bR (m_X12_isPerson x1 x2 h0) fun x3 h1 =>
  aJ (fun (x4 : Int32) (h2 : aH) =>
  bO (pi h2 12 x1 0 x4) fun h3 =>
  bO (gi h3 12 x1 0) fun x5 =>
  aJ (fun (x6 : Int32) (h4 : aH) =>
  some (x6, h4)) fun k49 =>
  if x5 ≤ 0 then
    gS h3 12 x1 <|
    bR (m_X12_isOut x1 x2 h3) fun x7 h5 =>
    if x7 = 0 then
      k49 (-1 : Int32) h5
    else
    bO (gr h5 12 x1 1) fun x8 =>
    bO (ali h5 1 x8 ((14 : Int32) + x2)) fun x9 =>
    k49 x9 h5
  else
  k49 (0 : Int32) h3) fun k14 =>
  if x3 = 0 then
    k14 (1 : Int32) h1
  else
  k14 (0 : Int32) h1
def m_X12_lostSleep (x1 : Nat) (x2 : Int32) (h0 : aH) : Option (Int32 × aH) :=
  gS h0 12 x1 <|
  bR (m_X12_isPerson x1 x2 h0) fun x3 h1 =>
  aJ (fun (x4 : Int32) (h2 : aH) =>
  bO (pi h2 12 x1 0 x4) fun h3 =>
  bO (gi h3 12 x1 0) fun x5 =>
  aJ (fun (x6 : Int32) (h4 : aH) =>
  some (x6, h4)) fun k36 =>
  if x5 ≤ 0 then
    bO (gr h3 12 x1 1) fun x7 =>
    bO (ali h3 1 x7 ((2 : Int32) + x2)) fun x8 =>
    k36 x8 h3
  else
  k36 (0 : Int32) h3) fun k14 =>
  if x3 = 0 then
    k14 (1 : Int32) h1
  else
  k14 (0 : Int32) h1
def m_X12_lostSleepAfter_L48 (x1 : Nat) (x3 : Int32) (k64 : aH → Option (Int32 × aH)) (r48 : Int32 → aH → Option (Int32 × aH)) (x9 : Int32) (h7 : aH) : Option (Int32 × aH) :=
  if x9 < x3 then
    gS h7 12 x1 <|
    bR (m_X12_minute x1 h7) fun x10 h8 =>
    aLet (x9 + (1 : Int32)) fun x11 =>
    r48 x11 h8
  else
  k64 h7
def m_X12_lostSleepAfter (x1 : Nat) (x2 : Int32) (x3 : Int32) (h0 : aH) : Option (Int32 × aH) :=
  gS h0 12 x1 <|
  bR (m_X12_isPerson x1 x2 h0) fun x4 h1 =>
  aJ (fun (x5 : Int32) (h2 : aH) =>
  bO (pi h2 12 x1 0 x5) fun h3 =>
  bO (gi h3 12 x1 0) fun x6 =>
  if x6 ≤ 0 then
    gS h3 12 x1 <|
    bR (m_X12_lays x1 h3) fun _ h4 =>
    aJ (fun (h5 : aH) =>
    bO (gr h5 12 x1 1) fun x7 =>
    bO (ali h5 1 x7 ((2 : Int32) + x2)) fun x8 =>
    gS h5 12 x1 <|
    bR (m_X12_takes x1 h5) fun _ h6 =>
    some (x8, h6)) fun k64 =>
    aL1 (m_X12_lostSleepAfter_L48 x1 x3 k64) FU (0 : Int32) h4
  else
  some ((0 : Int32), h3)) fun k30 =>
  if x4 = 0 then
    k30 (1 : Int32) h1
  else
  bR (m_X12_in (x3.toInt64) (0 : Int64) (1440 : Int64) h1) fun x12 h9 =>
  if x12 = 0 then
    k30 (2 : Int32) h9
  else
  k30 (0 : Int32) h9
def m_X12_restedAt_L30 (x1 : Nat) (x2 : Int32) (k58 : aH → Option (Int32 × aH)) (r30 : aH → Option (Int32 × aH))  (h11 : aH) : Option (Int32 × aH) :=
  gS h11 12 x1 <|
  bR (m_X12_isTired x1 x2 h11) fun x12 h12 =>
  if x12 = 0 then
    k58 h12
  else
  bO (gr h12 12 x1 1) fun x13 =>
  bO (ali h12 1 x13 (0 : Int32)) fun x14 =>
  if x14 < (20160 : Int32) then
    gS h12 12 x1 <|
    bR (m_X12_minute x1 h12) fun x15 h13 =>
    r30 h13
  else
  k58 h12
def m_X12_restedAt (x1 : Nat) (x2 : Int32) (h0 : aH) : Option (Int32 × aH) :=
  gS h0 12 x1 <|
  bR (m_X12_isPerson x1 x2 h0) fun x3 h1 =>
  aJ (fun (x4 : Int32) (h2 : aH) =>
  bO (pi h2 12 x1 0 x4) fun h3 =>
  bO (gi h3 12 x1 0) fun x5 =>
  if x5 ≤ 0 then
    gS h3 12 x1 <|
    bR (m_X12_lays x1 h3) fun _ h4 =>
    aJ (fun (h5 : aH) =>
    bO (gr h5 12 x1 1) fun x6 =>
    bO (ali h5 1 x6 (0 : Int32)) fun x7 =>
    gS h5 12 x1 <|
    bR (m_X12_isTired x1 x2 h5) fun x8 h6 =>
    aJ (fun (x9 : Int32) (h7 : aH) =>
    bO (pi h7 12 x1 0 x9) fun h8 =>
    gS h8 12 x1 <|
    bR (m_X12_takes x1 h8) fun _ h9 =>
    bO (gi h9 12 x1 0) fun x10 =>
    aJ (fun (x11 : Int32) (h10 : aH) =>
    some (x11, h10)) fun k98 =>
    if x10 ≤ 0 then
      k98 x7 h9
    else
    k98 (0 : Int32) h9) fun k79 =>
    if x8 = 0 then
      k79 (0 : Int32) h6
    else
    k79 (2 : Int32) h6) fun k58 =>
    aL0 (m_X12_restedAt_L30 x1 x2 k58) FU h4
  else
  some ((0 : Int32), h3)) fun k14 =>
  if x3 = 0 then
    k14 (1 : Int32) h1
  else
  k14 (0 : Int32) h1
def m_X12_arrival (x1 : Nat) (x2 : Int32) (h0 : aH) : Option (Int32 × aH) :=
  gS h0 12 x1 <|
  bR (m_X12_isPerson x1 x2 h0) fun x3 h1 =>
  aJ (fun (x4 : Int32) (h2 : aH) =>
  bO (pi h2 12 x1 0 x4) fun h3 =>
  bO (gi h3 12 x1 0) fun x5 =>
  aJ (fun (x6 : Int32) (h4 : aH) =>
  some (x6, h4)) fun k33 =>
  if x5 ≤ 0 then
    gS h3 12 x1 <|
    bR (m_X12_arrivalOf x1 x2 h3) fun x7 h5 =>
    k33 x7 h5
  else
  k33 (0 : Int32) h3) fun k14 =>
  if x3 = 0 then
    k14 (1 : Int32) h1
  else
  k14 (0 : Int32) h1
def m_X12_pay (x1 : Nat) (x2 : Int32) (h0 : aH) : Option (Int32 × aH) :=
  gS h0 12 x1 <|
  bR (m_X12_isPerson x1 x2 h0) fun x3 h1 =>
  aJ (fun (x4 : Int32) (h2 : aH) =>
  bO (pi h2 12 x1 0 x4) fun h3 =>
  bO (gi h3 12 x1 0) fun x5 =>
  aJ (fun (x6 : Int32) (h4 : aH) =>
  some (x6, h4)) fun k37 =>
  if x5 ≤ 0 then
    bO (gr h3 12 x1 1) fun x7 =>
    bO (ali h3 1 x7 ((38 : Int32) + x2)) fun x8 =>
    k37 x8 h3
  else
  k37 (0 : Int32) h3) fun k14 =>
  if x3 = 0 then
    k14 (1 : Int32) h1
  else
  k14 (0 : Int32) h1
def m_X12_isCouple (x1 : Nat) (x2 : Int32) (x3 : Int32) (h0 : aH) : Option (Int32 × aH) :=
  gS h0 12 x1 <|
  bR (m_X12_isPerson x1 x2 h0) fun x4 h1 =>
  aJ (fun (x5 : Int32) (h2 : aH) =>
  bO (pi h2 12 x1 0 x5) fun h3 =>
  bO (gi h3 12 x1 0) fun x6 =>
  aJ (fun (x7 : Int32) (h4 : aH) =>
  bO (zO x7) fun x8 =>
  some (x8, h4)) fun k46 =>
  if x6 = 0 then
    k46 (1 : Int32) h3
  else
  k46 (0 : Int32) h3) fun k31 =>
  aJ (fun (h5 : aH) =>
  k31 (1 : Int32) h5) fun k17 =>
  if x4 = 0 then
    k17 h1
  else
  gS h1 12 x1 <|
  bR (m_X12_isPerson x1 x3 h1) fun x9 h6 =>
  if x9 = 0 then
    k17 h6
  else
  if x2 = x3 then
    k31 (2 : Int32) h6
  else
  k31 (0 : Int32) h6
def m_X12_trust_ (x1 : Nat) (x2 : Int32) (x3 : Int32) (h0 : aH) : Option (Int32 × aH) :=
  gS h0 12 x1 <|
  bR (m_X12_isCouple x1 x2 x3 h0) fun x4 h1 =>
  aJ (fun (x5 : Int32) (h2 : aH) =>
  some (x5, h2)) fun k27 =>
  if x4 = 0 then
    k27 (0 : Int32) h1
  else
  bO (gr h1 12 x1 1) fun x6 =>
  bO (ali h1 1 x6 (((50 : Int32) + ((12 : Int32) * x2)) + x3)) fun x7 =>
  k27 x7 h1
def m_X12_trustPath_L52 (x1 : Nat) (x6 : Int32) (x10 : Int32) (x14 : Int32) (k129 : Int32 → aH → Option (Int32 × aH)) (r52 : Int32 → Int32 → aH → Option (Int32 × aH)) (x18 : Int32) (x19 : Int32) (h10 : aH) : Option (Int32 × aH) :=
  bO (gi h10 12 x1 8) fun x20 =>
  if x19 < x20 then
    aJ (fun (x21 : Int32) (h11 : aH) =>
    aJ (fun (x22 : Int32) (h12 : aH) =>
    aLet (x18 ||| x22) fun x23 =>
    aLet (x19 + (1 : Int32)) fun x24 =>
    r52 x23 x24 h12) fun k120 =>
    if x21 = 0 then
      k120 (0 : Int32) h11
    else
    k120 ((1 : Int32) <<< (x19 &&& 31)) h11) fun k103 =>
    aJ (fun (h13 : aH) =>
    k103 (0 : Int32) h13) fun k102 =>
    if ((x10 >>> (x14 &&& 31)) &&& (1 : Int32)) = 0 then
      k102 h10
    else
    if x14 = x19 then
      k102 h10
    else
    bO (gr h10 12 x1 1) fun x25 =>
    bO (ali h10 1 x25 (((50 : Int32) + ((12 : Int32) * x14)) + x19)) fun x26 =>
    if x26 < x6 then
      k102 h10
    else
    k103 (1 : Int32) h10
  else
  k129 x18 h10
def m_X12_trustPath_L40 (x1 : Nat) (x6 : Int32) (x10 : Int32) (k135 : Int32 → aH → Option (Int32 × aH)) (r40 : Int32 → Int32 → aH → Option (Int32 × aH)) (x13 : Int32) (x14 : Int32) (h8 : aH) : Option (Int32 × aH) :=
  bO (gi h8 12 x1 8) fun x15 =>
  if x14 < x15 then
    aJ (fun (x16 : Int32) (h9 : aH) =>
    aLet (x14 + (1 : Int32)) fun x17 =>
    r40 x16 x17 h9) fun k129 =>
    aL2 (m_X12_trustPath_L52 x1 x6 x10 x14 k129) FU x13 (0 : Int32) h8
  else
  k135 x13 h8
def m_X12_trustPath_L26 (x1 : Nat) (x6 : Int32) (k138 : Int32 → aH → Option (Int32 × aH)) (r26 : Int32 → Int32 → aH → Option (Int32 × aH)) (x10 : Int32) (x11 : Int32) (h6 : aH) : Option (Int32 × aH) :=
  if x11 = x10 then
    k138 x10 h6
  else
  aJ (fun (x12 : Int32) (h7 : aH) =>
  r26 x12 x10 h7) fun k135 =>
  aL2 (m_X12_trustPath_L40 x1 x6 x10 k135) FU x10 (0 : Int32) h6
def m_X12_trustPath_L14 (x1 : Nat) (x2 : Int32) (x3 : Int32) (k155 : aH → Option (Int32 × aH)) (k147 : Int32 → aH → Option (Int32 × aH)) (r14 : Int32 → aH → Option (Int32 × aH)) (x6 : Int32) (h4 : aH) : Option (Int32 × aH) :=
  if x6 ≤ 0 then
    k155 h4
  else
  aLet ((1 : Int32) <<< (x2 &&& 31)) fun x7 =>
  aJ (fun (x8 : Int32) (h5 : aH) =>
  if ((x8 >>> (x3 &&& 31)) &&& (1 : Int32)) = 0 then
    aLet (x6 + (-1 : Int32)) fun x9 =>
    r14 x9 h5
  else
  k147 x6 h5) fun k138 =>
  aL2 (m_X12_trustPath_L26 x1 x6 k138) FU x7 (0 : Int32) h4
def m_X12_trustPath (x1 : Nat) (x2 : Int32) (x3 : Int32) (h0 : aH) : Option (Int32 × aH) :=
  gS h0 12 x1 <|
  bR (m_X12_isCouple x1 x2 x3 h0) fun x4 h1 =>
  if x4 = 0 then
    some ((0 : Int32), h1)
  else
  aJ (fun (h2 : aH) =>
  some ((0 : Int32), h2)) fun k155 =>
  aJ (fun (x5 : Int32) (h3 : aH) =>
  some (x5, h3)) fun k147 =>
  aL1 (m_X12_trustPath_L14 x1 x2 x3 k155 k147) FU (9 : Int32) h1
def m_X12_isPager (x1 : Nat) (x2 : Int32) (h0 : aH) : Option (Int32 × aH) :=
  bO (gi h0 12 x1 9) fun x3 =>
  bR (m_X12_in (x2.toInt64) (0 : Int64) ((x3 - (1 : Int32)).toInt64) h0) fun x4 h1 =>
  bO (zO x4) fun x5 =>
  some (x5, h1)
def m_X12_turnAt (x1 : Nat) (x2 : Int32) (x3 : Int32) (h0 : aH) : Option (Int32 × aH) :=
  bO (gr h0 12 x1 16) fun x4 =>
  bO (ali h0 1 x4 x2) fun x5 =>
  bO (dvI x3 x5) fun x6 =>
  some (x6, h0)
def m_X12_ownerAt (x1 : Nat) (x2 : Int32) (x3 : Int32) (h0 : aH) : Option (Int32 × aH) :=
  bO (gr h0 12 x1 1) fun x4 =>
  gS h0 12 x1 <|
  bR (m_X12_turnAt x1 x2 x3 h0) fun x5 h1 =>
  bO (gr h1 12 x1 17) fun x6 =>
  bO (ali h1 1 x6 x2) fun x7 =>
  bO (rmI x5 x7) fun x8 =>
  bO (ali h1 1 x4 (((194 : Int32) + ((15 : Int32) * x2)) + x8)) fun x9 =>
  some (x9, h1)
def m_X12_link (x1 : Nat) (x2 : Int32) (x3 : Int32) (h0 : aH) : Option (Int32 × aH) :=
  aJ (fun (x4 : Int32) (h1 : aH) =>
  some (x4, h1)) fun k38 =>
  if x3 = 0 then
    bO (gr h0 12 x1 1) fun x5 =>
    bO (ali h0 1 x5 (0 : Int32)) fun x6 =>
    gS h0 12 x1 <|
    bR (m_X12_ownerAt x1 x2 x6 h0) fun x7 h2 =>
    k38 x7 h2
  else
  bO (gr h0 12 x1 1) fun x8 =>
  bO (ali h0 1 x8 (((((194 : Int32) + ((15 : Int32) * x2)) + (9 : Int32)) + x3) - (1 : Int32))) fun x9 =>
  k38 x9 h0
def m_X12_hands (x1 : Nat) (x2 : Int32) (h0 : aH) : Option (Int32 × aH) :=
  bO (gr h0 12 x1 1) fun x3 =>
  bO (ali h0 1 x3 (((194 : Int32) + ((15 : Int32) * x2)) + (8 : Int32))) fun x4 =>
  some (x4, h0)
def m_X12_holder (x1 : Nat) (x2 : Int32) (h0 : aH) : Option (Int32 × aH) :=
  gS h0 12 x1 <|
  bR (m_X12_hands x1 x2 h0) fun x3 h1 =>
  gS h1 12 x1 <|
  bR (m_X12_link x1 x2 x3 h1) fun x4 h2 =>
  some (x4, h2)
def m_X12_endOf (x1 : Nat) (x2 : Int32) (h0 : aH) : Option (Int32 × aH) :=
  gS h0 12 x1 <|
  bR (m_X12_hands x1 x2 h0) fun x3 h1 =>
  aJ (fun (x4 : Int32) (h2 : aH) =>
  some (x4, h2)) fun k53 =>
  if x3 ≤ 0 then
    bO (gr h1 12 x1 16) fun x5 =>
    bO (ali h1 1 x5 x2) fun x6 =>
    bO (gr h1 12 x1 1) fun x7 =>
    bO (ali h1 1 x7 (0 : Int32)) fun x8 =>
    gS h1 12 x1 <|
    bR (m_X12_turnAt x1 x2 x8 h1) fun x9 h3 =>
    k53 (x6 * (x9 + (1 : Int32))) h3
  else
  bO (gr h1 12 x1 1) fun x10 =>
  bO (ali h1 1 x10 (((((194 : Int32) + ((15 : Int32) * x2)) + (12 : Int32)) + x3) - (1 : Int32))) fun x11 =>
  k53 x11 h1
def m_X12_against_L9 (x1 : Nat) (x2 : Int32) (x3 : Int32) (k90 : Int32 → Int32 → aH → Option (Int32 × aH)) (r9 : Int32 → Int32 → Int32 → aH → Option (Int32 × aH)) (x18 : Int32) (x19 : Int32) (x20 : Int32) (h10 : aH) : Option (Int32 × aH) :=
  gS h10 12 x1 <|
  bR (m_X12_hands x1 x2 h10) fun x21 h11 =>
  if x20 ≤ x21 then
    gS h11 12 x1 <|
    bR (m_X12_link x1 x2 x20 h11) fun x22 h12 =>
    aJ (fun (x23 : Int32) (h13 : aH) =>
    aLet (x18 ||| x23) fun x24 =>
    aJ (fun (x25 : Int32) (h14 : aH) =>
    aLet (x19 ||| x25) fun x26 =>
    aLet (x20 + (1 : Int32)) fun x27 =>
    r9 x24 x26 x27 h14) fun k81 =>
    aJ (fun (h15 : aH) =>
    k81 (0 : Int32) h15) fun k80 =>
    if x22 = x3 then
      k80 h13
    else
    bO (gr h13 12 x1 1) fun x28 =>
    bO (ali h13 1 x28 (((50 : Int32) + ((12 : Int32) * x22)) + x3)) fun x29 =>
    bO (gr h13 12 x1 15) fun x30 =>
    bO (ali h13 1 x30 x2) fun x31 =>
    if x29 < x31 then
      k81 (1 : Int32) h13
    else
    k80 h13) fun k41 =>
    if x22 = x3 then
      k41 (1 : Int32) h12
    else
    k41 (0 : Int32) h12
  else
  k90 x18 x19 h11
def m_X12_against (x1 : Nat) (x2 : Int32) (x3 : Int32) (x4 : Int32) (h0 : aH) : Option (Int32 × aH) :=
  aJ (fun (x5 : Int32) (x6 : Int32) (h1 : aH) =>
  gS h1 12 x1 <|
  bR (m_X12_holder x1 x2 h1) fun x7 h2 =>
  gS h2 12 x1 <|
  bR (m_X12_isOut x1 x7 h2) fun x8 h3 =>
  if x8 = 0 then
    if x5 = 0 then
      bO (gr h3 12 x1 1) fun x9 =>
      bO (ali h3 1 x9 ((26 : Int32) + x3)) fun x10 =>
      if x10 = 0 then
        gS h3 12 x1 <|
        bR (m_X12_isOut x1 x3 h3) fun x11 h4 =>
        if x11 = 0 then
          gS h4 12 x1 <|
          bR (m_X12_isTired x1 x3 h4) fun x12 h5 =>
          if x12 = 0 then
            if x6 = 0 then
              gS h5 12 x1 <|
              bR (m_X12_hands x1 x2 h5) fun x13 h6 =>
              if x13 = (3 : Int32) then
                some ((7 : Int32), h6)
              else
              bO (gr h6 12 x1 1) fun x14 =>
              bO (ali h6 1 x14 (0 : Int32)) fun x15 =>
              aJ (fun (x16 : Int32) (h7 : aH) =>
              some (x16, h7)) fun k190 =>
              aJ (fun (h8 : aH) =>
              k190 (8 : Int32) h8) fun k184 =>
              if x4 ≤ x15 then
                k184 h6
              else
              gS h6 12 x1 <|
              bR (m_X12_endOf x1 x2 h6) fun x17 h9 =>
              if x4 ≤ x17 then
                k190 (0 : Int32) h9
              else
              k184 h9
            else
            some ((6 : Int32), h5)
          else
          some ((5 : Int32), h5)
        else
        some ((4 : Int32), h4)
      else
      some ((3 : Int32), h3)
    else
    some ((2 : Int32), h3)
  else
  some ((1 : Int32), h3)) fun k90 =>
  aL3 (m_X12_against_L9 x1 x2 x3 k90) FU (0 : Int32) (0 : Int32) (0 : Int32) h0
def m_X12_hands_ (x1 : Nat) (x2 : Int32) (x3 : Int32) (x4 : Int32) (h0 : aH) : Option (Unit × aH) :=
  aLet ((194 : Int32) + ((15 : Int32) * x2)) fun x5 =>
  bO (gr h0 12 x1 1) fun x6 =>
  bO (gr h0 12 x1 1) fun x7 =>
  bO (ali h0 1 x7 (x5 + (8 : Int32))) fun x8 =>
  bO (asi h0 x6 ((x5 + (9 : Int32)) + x8) x3) fun h1 =>
  bO (gr h1 12 x1 1) fun x9 =>
  bO (gr h1 12 x1 1) fun x10 =>
  bO (ali h1 1 x10 (x5 + (8 : Int32))) fun x11 =>
  bO (asi h1 x9 ((x5 + (12 : Int32)) + x11) x4) fun h2 =>
  bO (gr h2 12 x1 1) fun x12 =>
  aLet (x5 + (8 : Int32)) fun x13 =>
  bO (ali h2 1 x12 x13) fun x14 =>
  bO (asi h2 x12 x13 (x14 + (1 : Int32))) fun h3 =>
  some ((), h3)
def m_X12_chain (x1 : Nat) (x2 : Int32) (x3 : Int32) (h0 : aH) : Option (Int32 × aH) :=
  gS h0 12 x1 <|
  bR (m_X12_isPager x1 x2 h0) fun x4 h1 =>
  aJ (fun (x5 : Int32) (h2 : aH) =>
  bO (pi h2 12 x1 0 x5) fun h3 =>
  bO (gi h3 12 x1 0) fun x6 =>
  aJ (fun (x7 : Int32) (h4 : aH) =>
  some (x7, h4)) fun k49 =>
  if x6 ≤ 0 then
    gS h3 12 x1 <|
    bR (m_X12_link x1 x2 x3 h3) fun x8 h5 =>
    k49 x8 h5
  else
  k49 (0 : Int32) h3) fun k29 =>
  aJ (fun (h6 : aH) =>
  k29 (1 : Int32) h6) fun k28 =>
  if x4 = 0 then
    k28 h1
  else
  gS h1 12 x1 <|
  bR (m_X12_hands x1 x2 h1) fun x9 h7 =>
  bR (m_X12_in (x3.toInt64) (0 : Int64) (x9.toInt64) h7) fun x10 h8 =>
  if x10 = 0 then
    k28 h8
  else
  k29 (0 : Int32) h8
def m_X12_handOns (x1 : Nat) (x2 : Int32) (h0 : aH) : Option (Int32 × aH) :=
  gS h0 12 x1 <|
  bR (m_X12_isPager x1 x2 h0) fun x3 h1 =>
  aJ (fun (x4 : Int32) (h2 : aH) =>
  bO (pi h2 12 x1 0 x4) fun h3 =>
  bO (gi h3 12 x1 0) fun x5 =>
  aJ (fun (x6 : Int32) (h4 : aH) =>
  some (x6, h4)) fun k33 =>
  if x5 ≤ 0 then
    gS h3 12 x1 <|
    bR (m_X12_hands x1 x2 h3) fun x7 h5 =>
    k33 x7 h5
  else
  k33 (0 : Int32) h3) fun k14 =>
  if x3 = 0 then
    k14 (1 : Int32) h1
  else
  k14 (0 : Int32) h1
def m_X12_holdingEnd (x1 : Nat) (x2 : Int32) (h0 : aH) : Option (Int32 × aH) :=
  gS h0 12 x1 <|
  bR (m_X12_isPager x1 x2 h0) fun x3 h1 =>
  aJ (fun (x4 : Int32) (h2 : aH) =>
  bO (pi h2 12 x1 0 x4) fun h3 =>
  bO (gi h3 12 x1 0) fun x5 =>
  aJ (fun (x6 : Int32) (h4 : aH) =>
  some (x6, h4)) fun k33 =>
  if x5 ≤ 0 then
    gS h3 12 x1 <|
    bR (m_X12_endOf x1 x2 h3) fun x7 h5 =>
    k33 x7 h5
  else
  k33 (0 : Int32) h3) fun k14 =>
  if x3 = 0 then
    k14 (1 : Int32) h1
  else
  k14 (0 : Int32) h1
def m_X12_rotation (x1 : Nat) (x2 : Int32) (x3 : Int32) (h0 : aH) : Option (Int32 × aH) :=
  gS h0 12 x1 <|
  bR (m_X12_isPager x1 x2 h0) fun x4 h1 =>
  aJ (fun (x5 : Int32) (h2 : aH) =>
  bO (pi h2 12 x1 0 x5) fun h3 =>
  bO (gi h3 12 x1 0) fun x6 =>
  aJ (fun (x7 : Int32) (h4 : aH) =>
  some (x7, h4)) fun k61 =>
  if x6 ≤ 0 then
    bO (gr h3 12 x1 1) fun x8 =>
    bO (ali h3 1 x8 (((194 : Int32) + ((15 : Int32) * x2)) + x3)) fun x9 =>
    k61 x9 h3
  else
  k61 (0 : Int32) h3) fun k32 =>
  aJ (fun (h5 : aH) =>
  k32 (1 : Int32) h5) fun k31 =>
  if x4 = 0 then
    k31 h1
  else
  bO (gr h1 12 x1 17) fun x10 =>
  bO (ali h1 1 x10 x2) fun x11 =>
  bR (m_X12_in (x3.toInt64) (0 : Int64) ((x11 - (1 : Int32)).toInt64) h1) fun x12 h6 =>
  if x12 = 0 then
    k31 h6
  else
  k32 (0 : Int32) h6
def m_X12_holderThen_L33 (x1 : Nat) (x2 : Int32) (x3 : Int32) (k67 : Int32 → aH → Option (Int32 × aH)) (r33 : Int32 → aH → Option (Int32 × aH)) (x11 : Int32) (h6 : aH) : Option (Int32 × aH) :=
  if x11 ≤ 0 then
    k67 x11 h6
  else
  bO (gr h6 12 x1 1) fun x12 =>
  bO (ali h6 1 x12 (((((194 : Int32) + ((15 : Int32) * x2)) + (12 : Int32)) + x11) - (1 : Int32))) fun x13 =>
  if x13 ≤ x3 then
    aLet (x11 + (-1 : Int32)) fun x14 =>
    r33 x14 h6
  else
  k67 x11 h6
def m_X12_holderThen (x1 : Nat) (x2 : Int32) (x3 : Int32) (h0 : aH) : Option (Int32 × aH) :=
  gS h0 12 x1 <|
  bR (m_X12_turnAt x1 x2 x3 h0) fun x4 h1 =>
  bO (gr h1 12 x1 1) fun x5 =>
  bO (ali h1 1 x5 (0 : Int32)) fun x6 =>
  gS h1 12 x1 <|
  bR (m_X12_turnAt x1 x2 x6 h1) fun x7 h2 =>
  if x4 = x7 then
    gS h2 12 x1 <|
    bR (m_X12_hands x1 x2 h2) fun x8 h3 =>
    aJ (fun (x9 : Int32) (h4 : aH) =>
    gS h4 12 x1 <|
    bR (m_X12_link x1 x2 x9 h4) fun x10 h5 =>
    some (x10, h5)) fun k67 =>
    aL1 (m_X12_holderThen_L33 x1 x2 x3 k67) FU x8 h3
  else
  gS h2 12 x1 <|
  bR (m_X12_ownerAt x1 x2 x3 h2) fun x15 h7 =>
  some (x15, h7)
def m_X12_holderAt (x1 : Nat) (x2 : Int32) (x3 : Int32) (h0 : aH) : Option (Int32 × aH) :=
  gS h0 12 x1 <|
  bR (m_X12_isPager x1 x2 h0) fun x4 h1 =>
  aJ (fun (x5 : Int32) (h2 : aH) =>
  bO (pi h2 12 x1 0 x5) fun h3 =>
  bO (gi h3 12 x1 0) fun x6 =>
  aJ (fun (x7 : Int32) (h4 : aH) =>
  some (x7, h4)) fun k56 =>
  if x6 ≤ 0 then
    gS h3 12 x1 <|
    bR (m_X12_holderThen x1 x2 x3 h3) fun x8 h5 =>
    k56 x8 h5
  else
  k56 (0 : Int32) h3) fun k36 =>
  if x4 = 0 then
    k36 (1 : Int32) h1
  else
  bO (gr h1 12 x1 1) fun x9 =>
  bO (ali h1 1 x9 (0 : Int32)) fun x10 =>
  bR (m_X12_in (x3.toInt64) (x10.toInt64) (20160 : Int64) h1) fun x11 h6 =>
  if x11 = 0 then
    k36 (2 : Int32) h6
  else
  k36 (0 : Int32) h6
def m_X12_dutyMinutes_L69 (x1 : Nat) (x2 : Int32) (x10 : Int32) (k106 : Int32 → aH → Option (Int32 × aH)) (r69 : Int32 → Int32 → aH → Option (Int32 × aH)) (x18 : Int32) (x19 : Int32) (h8 : aH) : Option (Int32 × aH) :=
  bO (gi h8 12 x1 9) fun x20 =>
  if x19 < x20 then
    gS h8 12 x1 <|
    bR (m_X12_holderThen x1 x19 x10 h8) fun x21 h9 =>
    aJ (fun (x22 : Int32) (h10 : aH) =>
    aLet (x18 ||| x22) fun x23 =>
    aLet (x19 + (1 : Int32)) fun x24 =>
    r69 x23 x24 h10) fun k97 =>
    if x21 = x2 then
      k97 (1 : Int32) h9
    else
    k97 (0 : Int32) h9
  else
  k106 x18 h8
def m_X12_dutyMinutes_L43 (x1 : Nat) (x2 : Int32) (x3 : Int32) (k125 : Int32 → aH → Option (Int32 × aH)) (r43 : Int32 → Int32 → aH → Option (Int32 × aH)) (x9 : Int32) (x10 : Int32) (h5 : aH) : Option (Int32 × aH) :=
  bO (gi h5 12 x1 0) fun x11 =>
  if x11 = 0 then
    bO (gr h5 12 x1 1) fun x12 =>
    bO (ali h5 1 x12 (0 : Int32)) fun x13 =>
    if x10 < (x13 + x3) then
      aJ (fun (x14 : Int32) (h6 : aH) =>
      aJ (fun (x15 : Int32) (h7 : aH) =>
      aLet (x9 + x15) fun x16 =>
      aLet (x10 + (1 : Int32)) fun x17 =>
      r43 x16 x17 h7) fun k117 =>
      if x14 = 0 then
        k117 (0 : Int32) h6
      else
      k117 (1 : Int32) h6) fun k106 =>
      aL2 (m_X12_dutyMinutes_L69 x1 x2 x10 k106) FU (0 : Int32) (0 : Int32) h5
    else
    k125 x9 h5
  else
  k125 x9 h5
def m_X12_dutyMinutes (x1 : Nat) (x2 : Int32) (x3 : Int32) (h0 : aH) : Option (Int32 × aH) :=
  gS h0 12 x1 <|
  bR (m_X12_isPerson x1 x2 h0) fun x4 h1 =>
  aJ (fun (x5 : Int32) (h2 : aH) =>
  bO (pi h2 12 x1 0 x5) fun h3 =>
  bO (gr h3 12 x1 1) fun x6 =>
  bO (ali h3 1 x6 (0 : Int32)) fun x7 =>
  aJ (fun (x8 : Int32) (h4 : aH) =>
  some (x8, h4)) fun k125 =>
  aL2 (m_X12_dutyMinutes_L43 x1 x2 x3 k125) FU (0 : Int32) x7 h3) fun k30 =>
  if x4 = 0 then
    k30 (1 : Int32) h1
  else
  bR (m_X12_in (x3.toInt64) (1 : Int64) (1440 : Int64) h1) fun x25 h11 =>
  if x25 = 0 then
    k30 (2 : Int32) h11
  else
  k30 (0 : Int32) h11
def m_X12_whyNotHandOn (x1 : Nat) (x2 : Int32) (x3 : Int32) (x4 : Int32) (h0 : aH) : Option (Int32 × aH) :=
  gS h0 12 x1 <|
  bR (m_X12_isPager x1 x2 h0) fun x5 h1 =>
  aJ (fun (x6 : Int32) (h2 : aH) =>
  bO (pi h2 12 x1 0 x6) fun h3 =>
  bO (gi h3 12 x1 0) fun x7 =>
  aJ (fun (x8 : Int32) (h4 : aH) =>
  some (x8, h4)) fun k43 =>
  if x7 ≤ 0 then
    gS h3 12 x1 <|
    bR (m_X12_against x1 x2 x3 x4 h3) fun x9 h5 =>
    k43 x9 h5
  else
  k43 (0 : Int32) h3) fun k22 =>
  aJ (fun (h6 : aH) =>
  k22 (1 : Int32) h6) fun k21 =>
  if x5 = 0 then
    k21 h1
  else
  gS h1 12 x1 <|
  bR (m_X12_isPerson x1 x3 h1) fun x10 h7 =>
  if x10 = 0 then
    k21 h7
  else
  k22 (0 : Int32) h7
def m_X12_steps_L154 (x1 : Nat) (x2 : Int32) (x3 : Int32) (x8 : Int32) (x11 : Int32) (k232 : Int32 → aH → Option (Int32 × aH)) (r154 : Int32 → Int32 → aH → Option (Int32 × aH)) (x27 : Int32) (x28 : Int32) (h20 : aH) : Option (Int32 × aH) :=
  bO (gi h20 12 x1 8) fun x29 =>
  if x28 < x29 then
    if x27 ≤ (2 : Int32) then
      k232 x27 h20
    else
    gS h20 12 x1 <|
    bR (m_X12_against x1 x2 x28 x11 h20) fun x30 h21 =>
    aJ (fun (x31 : Int32) (h22 : aH) =>
    aLet (x28 + (1 : Int32)) fun x32 =>
    r154 x31 x32 h22) fun k226 =>
    if x30 = 0 then
      gS h21 12 x1 <|
      bR (m_X12_hands_ x1 x2 x28 x11 h21) fun _ h23 =>
      aJ (fun (x33 : Int32) (h24 : aH) =>
      bO (gr h24 12 x1 1) fun x34 =>
      aLet (x8 + (8 : Int32)) fun x35 =>
      bO (ali h24 1 x34 x35) fun x36 =>
      bO (asi h24 x34 x35 (x36 - (1 : Int32))) fun h25 =>
      k226 x33 h25) fun k213 =>
      if x27 ≤ (3 : Int32) then
        k213 x27 h23
      else
      gS h23 12 x1 <|
      bR (m_X12_against x1 x2 x3 x11 h23) fun x37 h26 =>
      if x37 = 0 then
        k213 (3 : Int32) h26
      else
      k213 x27 h26
    else
    k226 x27 h21
  else
  k232 x27 h20
def m_X12_steps_L92 (x1 : Nat) (x2 : Int32) (x3 : Int32) (x8 : Int32) (x10 : Int32) (x11 : Int32) (k249 : Int32 → aH → Option (Int32 × aH)) (r92 : Int32 → Int32 → aH → Option (Int32 × aH)) (x18 : Int32) (x19 : Int32) (h13 : aH) : Option (Int32 × aH) :=
  bO (gi h13 12 x1 8) fun x20 =>
  if x19 < x20 then
    if x18 ≤ (1 : Int32) then
      k249 x18 h13
    else
    gS h13 12 x1 <|
    bR (m_X12_against x1 x2 x19 x11 h13) fun x21 h14 =>
    aJ (fun (x22 : Int32) (h15 : aH) =>
    aLet (x19 + (1 : Int32)) fun x23 =>
    r92 x22 x23 h15) fun k243 =>
    if x21 = 0 then
      gS h14 12 x1 <|
      bR (m_X12_hands_ x1 x2 x19 x11 h14) fun _ h16 =>
      aJ (fun (x24 : Int32) (h17 : aH) =>
      aJ (fun (x25 : Int32) (h18 : aH) =>
      bO (gr h18 12 x1 1) fun x26 =>
      bO (asi h18 x26 (x8 + (8 : Int32)) x10) fun h19 =>
      k243 x25 h19) fun k232 =>
      aL2 (m_X12_steps_L154 x1 x2 x3 x8 x11 k232) FU x24 (0 : Int32) h17) fun k151 =>
      if x18 ≤ (2 : Int32) then
        k151 x18 h16
      else
      gS h16 12 x1 <|
      bR (m_X12_against x1 x2 x3 x11 h16) fun x38 h27 =>
      if x38 = 0 then
        k151 (2 : Int32) h27
      else
      k151 x18 h27
    else
    k243 x18 h14
  else
  k249 x18 h13
def m_X12_steps (x1 : Nat) (x2 : Int32) (x3 : Int32) (h0 : aH) : Option (Int32 × aH) :=
  gS h0 12 x1 <|
  bR (m_X12_isPager x1 x2 h0) fun x4 h1 =>
  aJ (fun (x5 : Int32) (h2 : aH) =>
  bO (pi h2 12 x1 0 x5) fun h3 =>
  bO (gi h3 12 x1 0) fun x6 =>
  aJ (fun (h4 : aH) =>
  some ((0 : Int32), h4)) fun k41 =>
  if x6 ≤ 0 then
    gS h3 12 x1 <|
    bR (m_X12_holder x1 x2 h3) fun x7 h5 =>
    if x7 = x3 then
      k41 h5
    else
    aLet ((194 : Int32) + ((15 : Int32) * x2)) fun x8 =>
    bO (gr h5 12 x1 1) fun x9 =>
    bO (ali h5 1 x9 (x8 + (8 : Int32))) fun x10 =>
    gS h5 12 x1 <|
    bR (m_X12_endOf x1 x2 h5) fun x11 h6 =>
    gS h6 12 x1 <|
    bR (m_X12_against x1 x2 x3 x11 h6) fun x12 h7 =>
    aJ (fun (x13 : Int32) (h8 : aH) =>
    aJ (fun (x14 : Int32) (h9 : aH) =>
    aJ (fun (x15 : Int32) (h10 : aH) =>
    bO (pi h10 12 x1 0 x15) fun h11 =>
    bO (gi h11 12 x1 0) fun x16 =>
    aJ (fun (x17 : Int32) (h12 : aH) =>
    some (x17, h12)) fun k278 =>
    if x16 ≤ 0 then
      k278 x14 h11
    else
    k278 (0 : Int32) h11) fun k262 =>
    if x14 = (9 : Int32) then
      k262 (2 : Int32) h9
    else
    k262 (0 : Int32) h9) fun k249 =>
    aL2 (m_X12_steps_L92 x1 x2 x3 x8 x10 x11 k249) FU x13 (0 : Int32) h8) fun k87 =>
    if x12 = 0 then
      k87 (1 : Int32) h7
    else
    k87 (9 : Int32) h7
  else
  k41 h3) fun k22 =>
  aJ (fun (h28 : aH) =>
  k22 (1 : Int32) h28) fun k21 =>
  if x4 = 0 then
    k21 h1
  else
  gS h1 12 x1 <|
  bR (m_X12_isPerson x1 x3 h1) fun x39 h29 =>
  if x39 = 0 then
    k21 h29
  else
  k22 (0 : Int32) h29
def m_X12_many_L4 (x1 : Int32) (k24 : Int32 → aH → Option (Int32 × aH)) (r4 : Int32 → Int32 → aH → Option (Int32 × aH)) (x3 : Int32) (x4 : Int32) (h2 : aH) : Option (Int32 × aH) :=
  if x4 < (12 : Int32) then
    aLet (x3 + ((x1 >>> (x4 &&& 31)) &&& (1 : Int32))) fun x5 =>
    aLet (x4 + (1 : Int32)) fun x6 =>
    r4 x5 x6 h2
  else
  k24 x3 h2
def m_X12_many (x1 : Int32) (h0 : aH) : Option (Int32 × aH) :=
  aJ (fun (x2 : Int32) (h1 : aH) =>
  some (x2, h1)) fun k24 =>
  aL2 (m_X12_many_L4 x1 k24) FU (0 : Int32) (0 : Int32) h0
def m_X12_fits (x1 : Nat) (x2 : Int32) (x3 : Int32) (x4 : Int32) (h0 : aH) : Option (Int32 × aH) :=
  bO (gr h0 12 x1 20) fun x5 =>
  bO (ali h0 1 x5 (((6 : Int32) * x3) + x4)) fun x6 =>
  aJ (fun (x7 : Int32) (h1 : aH) =>
  bO (zO x7) fun x8 =>
  some (x8, h1)) fun k35 =>
  aJ (fun (h2 : aH) =>
  k35 (1 : Int32) h2) fun k30 =>
  if x6 = 0 then
    k30 h0
  else
  bO (gr h0 12 x1 14) fun x9 =>
  bO (ali h0 1 x9 x2) fun x10 =>
  if (x10 &&& x6) = 0 then
    k35 (0 : Int32) h0
  else
  k30 h0
def m_X12_absent_L5 (x1 : Nat) (x2 : Int32) (x3 : Int32) (k50 : Int32 → aH → Option (Int32 × aH)) (r5 : Int32 → Int32 → aH → Option (Int32 × aH)) (x13 : Int32) (x14 : Int32) (h6 : aH) : Option (Int32 × aH) :=
  bO (gr h6 12 x1 24) fun x15 =>
  bO (ali h6 1 x15 x2) fun x16 =>
  if x14 < x16 then
    bO (gr h6 12 x1 25) fun x17 =>
    bO (ali h6 1 x17 (((6 : Int32) * x2) + x14)) fun x18 =>
    gS h6 12 x1 <|
    bR (m_X12_holder x1 x18 h6) fun x19 h7 =>
    aJ (fun (x20 : Int32) (h8 : aH) =>
    aLet (x13 ||| x20) fun x21 =>
    aLet (x14 + (1 : Int32)) fun x22 =>
    r5 x21 x22 h8) fun k42 =>
    if x19 = x3 then
      k42 (1 : Int32) h7
    else
    k42 (0 : Int32) h7
  else
  k50 x13 h6
def m_X12_absent (x1 : Nat) (x2 : Int32) (x3 : Int32) (h0 : aH) : Option (Int32 × aH) :=
  aJ (fun (x4 : Int32) (h1 : aH) =>
  aJ (fun (x5 : Int32) (h2 : aH) =>
  some (x5, h2)) fun k117 =>
  if x4 = 0 then
    k117 (1 : Int32) h1
  else
  bO (gr h1 12 x1 1) fun x6 =>
  bO (ali h1 1 x6 ((26 : Int32) + x3)) fun x7 =>
  if x7 = 0 then
    gS h1 12 x1 <|
    bR (m_X12_isOut x1 x3 h1) fun x8 h3 =>
    if x8 = 0 then
      gS h3 12 x1 <|
      bR (m_X12_isTired x1 x3 h3) fun x9 h4 =>
      if x9 = 0 then
        gS h4 12 x1 <|
        bR (m_X12_arrivalOf x1 x3 h4) fun x10 h5 =>
        bO (gr h5 12 x1 22) fun x11 =>
        bO (ali h5 1 x11 x2) fun x12 =>
        if x10 ≤ x12 then
          k117 (0 : Int32) h5
        else
        k117 (5 : Int32) h5
      else
      k117 (4 : Int32) h4
    else
    k117 (3 : Int32) h3
  else
  k117 (2 : Int32) h1) fun k50 =>
  aL2 (m_X12_absent_L5 x1 x2 x3 k50) FU (0 : Int32) (0 : Int32) h0
def m_X12_latest_L4 (x1 : Nat) (x2 : Int32) (k57 : Int32 → aH → Option (Int32 × aH)) (r4 : Int32 → Int32 → aH → Option (Int32 × aH)) (x4 : Int32) (x5 : Int32) (h2 : aH) : Option (Int32 × aH) :=
  bO (gi h2 12 x1 8) fun x6 =>
  if x5 < x6 then
    aJ (fun (x7 : Int32) (h3 : aH) =>
    aJ (fun (x8 : Int32) (h4 : aH) =>
    aLet (x5 + (1 : Int32)) fun x9 =>
    r4 x8 x9 h4) fun k50 =>
    if x7 = 0 then
      k50 x4 h3
    else
    gS h3 12 x1 <|
    bR (m_X12_arrivalOf x1 x5 h3) fun x10 h5 =>
    k50 x10 h5) fun k34 =>
    aJ (fun (h6 : aH) =>
    k34 (0 : Int32) h6) fun k33 =>
    if ((x2 >>> (x5 &&& 31)) &&& (1 : Int32)) = 0 then
      k33 h2
    else
    gS h2 12 x1 <|
    bR (m_X12_arrivalOf x1 x5 h2) fun x11 h7 =>
    if x11 ≤ x4 then
      k33 h7
    else
    k34 (1 : Int32) h7
  else
  k57 x4 h2
def m_X12_latest (x1 : Nat) (x2 : Int32) (h0 : aH) : Option (Int32 × aH) :=
  aJ (fun (x3 : Int32) (h1 : aH) =>
  some (x3, h1)) fun k57 =>
  aL2 (m_X12_latest_L4 x1 x2 k57) FU (0 : Int32) (0 : Int32) h0
def m_X12_crewOf_L52 (x1 : Nat) (x2 : Int32) (x7 : Int32) (x9 : Int32) (k132 : aH → Option (Int32 × aH)) (r52 : Int32 → aH → Option (Int32 × aH)) (x24 : Int32) (h17 : aH) : Option (Int32 × aH) :=
  bO (gi h17 12 x1 8) fun x25 =>
  if x24 < x25 then
    bO (gr h17 12 x1 19) fun x26 =>
    bO (ali h17 1 x26 x2) fun x27 =>
    if x9 ≤ x27 then
      bO (gr h17 12 x1 69) fun x28 =>
      bO (ali h17 3 x28 x7) fun x29 =>
      aJ (fun (x30 : Int32) (h18 : aH) =>
      bO (asz h18 x28 x7 (x29 ||| x30)) fun h19 =>
      aLet (x24 + (1 : Int32)) fun x31 =>
      r52 x31 h19) fun k124 =>
      aJ (fun (h20 : aH) =>
      k124 (0 : Int32) h20) fun k123 =>
      if ((x7 >>> (x24 &&& 31)) &&& (1 : Int32)) = 0 then
        k123 h17
      else
      bO (gr h17 12 x1 69) fun x32 =>
      bO (ali h17 3 x32 (x7 ^^^ ((1 : Int32) <<< (x24 &&& 31)))) fun x33 =>
      if x33 = 0 then
        k123 h17
      else
      gS h17 12 x1 <|
      bR (m_X12_fits x1 x24 x2 (x9 - (1 : Int32)) h17) fun x34 h21 =>
      if x34 = 0 then
        k123 h21
      else
      k124 (1 : Int32) h21
    else
    k132 h17
  else
  k132 h17
def m_X12_crewOf_L12 (x1 : Nat) (x2 : Int32) (x3 : Int32) (k240 : Int32 → aH → Option (Int32 × aH)) (r12 : Int32 → Int32 → aH → Option (Int32 × aH)) (x6 : Int32) (x7 : Int32) (h3 : aH) : Option (Int32 × aH) :=
  if x7 < (4096 : Int32) then
    bO (gr h3 12 x1 69) fun x8 =>
    bO (asz h3 x8 x7 (0 : Int32)) fun h4 =>
    aJ (fun (x9 : Int32) (h5 : aH) =>
    aJ (fun (h6 : aH) =>
    bO (gr h6 12 x1 69) fun x10 =>
    bO (ali h6 3 x10 x7) fun x11 =>
    aJ (fun (x12 : Int32) (h7 : aH) =>
    aLet (x7 + (1 : Int32)) fun x13 =>
    r12 x12 x13 h7) fun k234 =>
    if x11 = 0 then
      k234 x6 h6
    else
    bO (gr h6 12 x1 19) fun x14 =>
    bO (ali h6 1 x14 x2) fun x15 =>
    if x9 = x15 then
      aLet (x7 ^^^ x6) fun x16 =>
      aJ (fun (x17 : Int32) (h8 : aH) =>
      aJ (fun (x18 : Int32) (h9 : aH) =>
      aJ (fun (x19 : Int32) (h10 : aH) =>
      k234 x19 h10) fun k233 =>
      if x18 = 0 then
        k233 x6 h9
      else
      k233 x7 h9) fun k220 =>
      aJ (fun (h11 : aH) =>
      k220 (1 : Int32) h11) fun k215 =>
      if x6 = 0 then
        k215 h8
      else
      gS h8 12 x1 <|
      bR (m_X12_latest x1 x7 h8) fun x20 h12 =>
      gS h12 12 x1 <|
      bR (m_X12_latest x1 x6 h12) fun x21 h13 =>
      if x20 < x21 then
        k215 h13
      else
      gS h13 12 x1 <|
      bR (m_X12_latest x1 x7 h13) fun x22 h14 =>
      gS h14 12 x1 <|
      bR (m_X12_latest x1 x6 h14) fun x23 h15 =>
      aJ (fun (h16 : aH) =>
      k220 (0 : Int32) h16) fun k219 =>
      if x22 = x23 then
        if x17 = 0 then
          k219 h15
        else
        k215 h15
      else
      k219 h15) fun k176 =>
      if ((x7 &&& x16) &&& (-x16)) = 0 then
        k176 (0 : Int32) h6
      else
      k176 (1 : Int32) h6
    else
    k234 x6 h6) fun k132 =>
    aL1 (m_X12_crewOf_L52 x1 x2 x7 x9 k132) FU (0 : Int32) h5) fun k47 =>
    if (x7 &&& x3) = x7 then
      bR (m_X12_many x7 h4) fun x35 h22 =>
      k47 x35 h22
    else
    k47 (99 : Int32) h4
  else
  k240 x6 h3
def m_X12_crewOf (x1 : Nat) (x2 : Int32) (x3 : Int32) (h0 : aH) : Option (Int32 × aH) :=
  bO (gr h0 12 x1 69) fun x4 =>
  bO (asz h0 x4 (0 : Int32) (1 : Int32)) fun h1 =>
  aJ (fun (x5 : Int32) (h2 : aH) =>
  some (x5, h2)) fun k240 =>
  aL2 (m_X12_crewOf_L12 x1 x2 x3 k240) FU (0 : Int32) (1 : Int32) h1
def m_X12_isEngineOut (x1 : Nat) (x2 : Int32) (h0 : aH) : Option (Int32 × aH) :=
  bO (gr h0 12 x1 1) fun x3 =>
  bO (ali h0 1 x3 (((284 : Int32) + ((3 : Int32) * x2)) + (0 : Int32))) fun x4 =>
  bO (gr h0 12 x1 1) fun x5 =>
  bO (ali h0 1 x5 (0 : Int32)) fun x6 =>
  aJ (fun (x7 : Int32) (h1 : aH) =>
  bO (zO x7) fun x8 =>
  some (x8, h1)) fun k28 =>
  if x4 ≤ x6 then
    k28 (0 : Int32) h0
  else
  k28 (1 : Int32) h0
def m_X12_isRested (x1 : Nat) (x2 : Int32) (h0 : aH) : Option (Int32 × aH) :=
  bO (gr h0 12 x1 1) fun x3 =>
  bO (ali h0 1 x3 (((284 : Int32) + ((3 : Int32) * x2)) + (1 : Int32))) fun x4 =>
  aJ (fun (x5 : Int32) (h1 : aH) =>
  bO (zO x5) fun x6 =>
  some (x6, h1)) fun k22 =>
  if x4 = 0 then
    k22 (0 : Int32) h0
  else
  k22 (1 : Int32) h0
def m_X12_plans_L58 (x1 : Nat) (x2 : Int32) (k224 : aH → Option (Unit × aH)) (r58 : Int32 → Int32 → aH → Option (Unit × aH)) (x4 : Int32) (x5 : Int32) (h5 : aH) : Option (Unit × aH) :=
  bO (gr h5 12 x1 26) fun x6 =>
  bO (ali h5 1 x6 x2) fun x7 =>
  if x5 < x7 then
    bO (gr h5 12 x1 27) fun x8 =>
    bO (ali h5 1 x8 (((5 : Int32) * x2) + x5)) fun x9 =>
    bO (gr h5 12 x1 66) fun x10 =>
    bO (asi h5 x10 x5 x4) fun h6 =>
    bO (gr h6 12 x1 64) fun x11 =>
    gS h6 12 x1 <|
    bR (m_X12_isRested x1 x9 h6) fun x12 h7 =>
    aJ (fun (x13 : Int32) (h8 : aH) =>
    bO (asi h8 x11 x5 x13) fun h9 =>
    bO (gr h9 12 x1 65) fun x14 =>
    gS h9 12 x1 <|
    bR (m_X12_isRested x1 x9 h9) fun x15 h10 =>
    aJ (fun (x16 : Int32) (h11 : aH) =>
    bO (asi h11 x14 x5 x16) fun h12 =>
    bO (gr h12 12 x1 67) fun x17 =>
    bO (gr h12 12 x1 64) fun x18 =>
    bO (ali h12 1 x18 x5) fun x19 =>
    gS h12 12 x1 <|
    bR (m_X12_latest x1 x19 h12) fun x20 h13 =>
    bO (asi h13 x17 x5 x20) fun h14 =>
    bO (gr h14 12 x1 64) fun x21 =>
    bO (ali h14 1 x21 x5) fun x22 =>
    aLet (x4 &&& (x22 ^^^ (-1 : Int32))) fun x23 =>
    bO (gi h14 12 x1 68) fun x24 =>
    bO (gr h14 12 x1 64) fun x25 =>
    bO (ali h14 1 x25 x5) fun x26 =>
    aJ (fun (x27 : Int32) (h15 : aH) =>
    bO (pi h15 12 x1 68 (x24 + x27)) fun h16 =>
    aLet (x5 + (1 : Int32)) fun x28 =>
    r58 x23 x28 h16) fun k214 =>
    if x26 = 0 then
      k214 (0 : Int32) h14
    else
    k214 (1 : Int32) h14) fun k167 =>
    if x15 = 0 then
      gS h10 12 x1 <|
      bR (m_X12_isEngineOut x1 x9 h10) fun x29 h17 =>
      if x29 = 0 then
        bO (gr h17 12 x1 64) fun x30 =>
        bO (ali h17 1 x30 x5) fun x31 =>
        if x31 = 0 then
          k167 (3 : Int32) h17
        else
        k167 (0 : Int32) h17
      else
      k167 (2 : Int32) h17
    else
    k167 (1 : Int32) h10) fun k121 =>
    aJ (fun (h18 : aH) =>
    k121 (0 : Int32) h18) fun k110 =>
    if x12 = 0 then
      gS h7 12 x1 <|
      bR (m_X12_isEngineOut x1 x9 h7) fun x32 h19 =>
      if x32 = 0 then
        gS h19 12 x1 <|
        bR (m_X12_crewOf x1 x9 x4 h19) fun x33 h20 =>
        k121 x33 h20
      else
      k110 h19
    else
    k110 h7
  else
  k224 h5
def m_X12_plans_L7 (x1 : Nat) (x2 : Int32) (k46 : aH → Option (Unit × aH)) (r7 : Int32 → aH → Option (Unit × aH)) (x34 : Int32) (h21 : aH) : Option (Unit × aH) :=
  bO (gi h21 12 x1 8) fun x35 =>
  if x34 < x35 then
    bO (gi h21 12 x1 63) fun x36 =>
    gS h21 12 x1 <|
    bR (m_X12_absent x1 x2 x34 h21) fun x37 h22 =>
    aJ (fun (x38 : Int32) (h23 : aH) =>
    bO (pi h23 12 x1 63 (x36 ||| x38)) fun h24 =>
    aLet (x34 + (1 : Int32)) fun x39 =>
    r7 x39 h24) fun k36 =>
    if x37 = 0 then
      k36 ((1 : Int32) <<< (x34 &&& 31)) h22
    else
    k36 (0 : Int32) h22
  else
  k46 h21
def m_X12_plans (x1 : Nat) (x2 : Int32) (h0 : aH) : Option (Unit × aH) :=
  bO (pi h0 12 x1 63 (0 : Int32)) fun h1 =>
  aJ (fun (h2 : aH) =>
  bO (pi h2 12 x1 68 (0 : Int32)) fun h3 =>
  bO (gi h3 12 x1 63) fun x3 =>
  aJ (fun (h4 : aH) =>
  some ((), h4)) fun k224 =>
  aL2 (m_X12_plans_L58 x1 x2 k224) FU x3 (0 : Int32) h3) fun k46 =>
  aL1 (m_X12_plans_L7 x1 x2 k46) FU (0 : Int32) h1
def m_X12_isKind (x1 : Nat) (x2 : Int32) (h0 : aH) : Option (Int32 × aH) :=
  bO (gi h0 12 x1 11) fun x3 =>
  bR (m_X12_in (x2.toInt64) (0 : Int64) ((x3 - (1 : Int32)).toInt64) h0) fun x4 h1 =>
  bO (zO x4) fun x5 =>
  some (x5, h1)
def m_X12_isEngine (x1 : Nat) (x2 : Int32) (x3 : Int32) (h0 : aH) : Option (Int32 × aH) :=
  gS h0 12 x1 <|
  bR (m_X12_isKind x1 x2 h0) fun x4 h1 =>
  aJ (fun (x5 : Int32) (h2 : aH) =>
  bO (zO x5) fun x6 =>
  some (x6, h2)) fun k31 =>
  aJ (fun (h3 : aH) =>
  k31 (0 : Int32) h3) fun k30 =>
  if x4 = 0 then
    k30 h1
  else
  bO (gr h1 12 x1 26) fun x7 =>
  bO (ali h1 1 x7 x2) fun x8 =>
  bR (m_X12_in (x3.toInt64) (0 : Int64) ((x8 - (1 : Int32)).toInt64) h1) fun x9 h4 =>
  if x9 = 0 then
    k30 h4
  else
  k31 (1 : Int32) h4
def m_X12_answers (x1 : Nat) (x2 : Int32) (h0 : aH) : Option (Int32 × aH) :=
  gS h0 12 x1 <|
  bR (m_X12_plans x1 x2 h0) fun _ h1 =>
  bO (gi h1 12 x1 68) fun x3 =>
  bO (gr h1 12 x1 23) fun x4 =>
  bO (ali h1 1 x4 x2) fun x5 =>
  aJ (fun (x6 : Int32) (h2 : aH) =>
  bO (zO x6) fun x7 =>
  some (x7, h2)) fun k23 =>
  if x3 < x5 then
    k23 (0 : Int32) h1
  else
  k23 (1 : Int32) h1
def m_X12_whyAbsent (x1 : Nat) (x2 : Int32) (x3 : Int32) (h0 : aH) : Option (Int32 × aH) :=
  gS h0 12 x1 <|
  bR (m_X12_isKind x1 x2 h0) fun x4 h1 =>
  aJ (fun (x5 : Int32) (h2 : aH) =>
  bO (pi h2 12 x1 0 x5) fun h3 =>
  bO (gi h3 12 x1 0) fun x6 =>
  aJ (fun (x7 : Int32) (h4 : aH) =>
  some (x7, h4)) fun k42 =>
  if x6 ≤ 0 then
    gS h3 12 x1 <|
    bR (m_X12_absent x1 x2 x3 h3) fun x8 h5 =>
    k42 x8 h5
  else
  k42 (0 : Int32) h3) fun k22 =>
  aJ (fun (h6 : aH) =>
  k22 (1 : Int32) h6) fun k21 =>
  if x4 = 0 then
    k21 h1
  else
  gS h1 12 x1 <|
  bR (m_X12_isPerson x1 x3 h1) fun x9 h7 =>
  if x9 = 0 then
    k21 h7
  else
  k22 (0 : Int32) h7
def m_X12_whyStays (x1 : Nat) (x2 : Int32) (x3 : Int32) (h0 : aH) : Option (Int32 × aH) :=
  gS h0 12 x1 <|
  bR (m_X12_isEngine x1 x2 x3 h0) fun x4 h1 =>
  aJ (fun (x5 : Int32) (h2 : aH) =>
  bO (pi h2 12 x1 0 x5) fun h3 =>
  bO (gi h3 12 x1 0) fun x6 =>
  if x6 ≤ 0 then
    gS h3 12 x1 <|
    bR (m_X12_plans x1 x2 h3) fun _ h4 =>
    bO (gr h4 12 x1 65) fun x7 =>
    bO (ali h4 1 x7 x3) fun x8 =>
    some (x8, h4)
  else
  some ((0 : Int32), h3)) fun k15 =>
  if x4 = 0 then
    k15 (1 : Int32) h1
  else
  k15 (0 : Int32) h1
def m_X12_departure (x1 : Nat) (x2 : Int32) (x3 : Int32) (h0 : aH) : Option (Int32 × aH) :=
  gS h0 12 x1 <|
  bR (m_X12_isEngine x1 x2 x3 h0) fun x4 h1 =>
  aJ (fun (x5 : Int32) (h2 : aH) =>
  bO (pi h2 12 x1 0 x5) fun h3 =>
  bO (gi h3 12 x1 0) fun x6 =>
  if x6 ≤ 0 then
    gS h3 12 x1 <|
    bR (m_X12_plans x1 x2 h3) fun _ h4 =>
    bO (gr h4 12 x1 65) fun x7 =>
    bO (ali h4 1 x7 x3) fun x8 =>
    aJ (fun (x9 : Int32) (h5 : aH) =>
    bO (pi h5 12 x1 0 x9) fun h6 =>
    bO (gi h6 12 x1 0) fun x10 =>
    aJ (fun (x11 : Int32) (h7 : aH) =>
    some (x11, h7)) fun k67 =>
    if x10 ≤ 0 then
      bO (gr h6 12 x1 67) fun x12 =>
      bO (ali h6 1 x12 x3) fun x13 =>
      k67 x13 h6
    else
    k67 (0 : Int32) h6) fun k47 =>
    if x8 = 0 then
      k47 (0 : Int32) h4
    else
    k47 (2 : Int32) h4
  else
  some ((0 : Int32), h3)) fun k15 =>
  if x4 = 0 then
    k15 (1 : Int32) h1
  else
  k15 (0 : Int32) h1
def m_X12_mans_L257 (x1 : Nat) (x13 : Int32) (x18 : Int32) (x20 : Int32) (k327 : Int32 → aH → Option (Int32 × aH)) (r257 : Int32 → Int32 → aH → Option (Int32 × aH)) (x26 : Int32) (x27 : Int32) (h12 : aH) : Option (Int32 × aH) :=
  if x27 < 0 then
    k327 x26 h12
  else
  aJ (fun (x28 : Int32) (h13 : aH) =>
  aJ (fun (x29 : Int32) (h14 : aH) =>
  aLet (x27 + (-1 : Int32)) fun x30 =>
  r257 x29 x30 h14) fun k319 =>
  if x28 = 0 then
    k319 x26 h13
  else
  k319 x27 h13) fun k305 =>
  aJ (fun (h15 : aH) =>
  k305 (0 : Int32) h15) fun k304 =>
  if ((x18 >>> (x27 &&& 31)) &&& (1 : Int32)) = 0 then
    k304 h12
  else
  gS h12 12 x1 <|
  bR (m_X12_fits x1 x27 x13 x20 h12) fun x31 h16 =>
  if x31 = 0 then
    k304 h16
  else
  bO (gr h16 12 x1 69) fun x32 =>
  bO (ali h16 3 x32 (x18 ^^^ ((1 : Int32) <<< (x27 &&& 31)))) fun x33 =>
  if x33 = 0 then
    k304 h16
  else
  k305 (1 : Int32) h16
def m_X12_mans_L240 (x1 : Nat) (x4 : Int32) (x13 : Int32) (k342 : Int32 → aH → Option (Int32 × aH)) (r240 : Int32 → Int32 → Int32 → aH → Option (Int32 × aH)) (x18 : Int32) (x19 : Int32) (x20 : Int32) (h10 : aH) : Option (Int32 × aH) :=
  if x20 ≤ x4 then
    bO (gi h10 12 x1 8) fun x21 =>
    aLet (x21 - (1 : Int32)) fun x22 =>
    aJ (fun (x23 : Int32) (h11 : aH) =>
    aLet (x18 ^^^ ((1 : Int32) <<< (x23 &&& 31))) fun x24 =>
    aLet (x20 + (1 : Int32)) fun x25 =>
    r240 x24 x23 x25 h11) fun k327 =>
    aL2 (m_X12_mans_L257 x1 x13 x18 x20 k327) FU (-1 : Int32) x22 h10
  else
  k342 x19 h10
def m_X12_mans_L135 (x1 : Nat) (x13 : Int32) (x15 : Int32) (x34 : Int32) (k224 : aH → Option (Int32 × aH)) (r135 : Int32 → aH → Option (Int32 × aH)) (x37 : Int32) (h20 : aH) : Option (Int32 × aH) :=
  bO (gi h20 12 x1 8) fun x38 =>
  if x37 < x38 then
    if (x34 &&& x15) = x34 then
      bO (gr h20 12 x1 69) fun x39 =>
      bO (ali h20 3 x39 x34) fun x40 =>
      aJ (fun (x41 : Int32) (h21 : aH) =>
      bO (asz h21 x39 x34 (x40 ||| x41)) fun h22 =>
      aLet (x37 + (1 : Int32)) fun x42 =>
      r135 x42 h22) fun k216 =>
      aJ (fun (h23 : aH) =>
      k216 (0 : Int32) h23) fun k215 =>
      if ((x34 >>> (x37 &&& 31)) &&& (1 : Int32)) = 0 then
        k215 h20
      else
      bO (gr h20 12 x1 69) fun x43 =>
      bO (ali h20 3 x43 (x34 ^^^ ((1 : Int32) <<< (x37 &&& 31)))) fun x44 =>
      if x44 = 0 then
        k215 h20
      else
      bO (gr h20 12 x1 19) fun x45 =>
      bO (ali h20 1 x45 x13) fun x46 =>
      bR (m_X12_many x34 h20) fun x47 h24 =>
      gS h24 12 x1 <|
      bR (m_X12_fits x1 x37 x13 (x46 - x47) h24) fun x48 h25 =>
      if x48 = 0 then
        k215 h25
      else
      k216 (1 : Int32) h25
    else
    k224 h20
  else
  k224 h20
def m_X12_mans_L116 (x1 : Nat) (x13 : Int32) (x15 : Int32) (k230 : aH → Option (Int32 × aH)) (r116 : Int32 → aH → Option (Int32 × aH)) (x34 : Int32) (h17 : aH) : Option (Int32 × aH) :=
  if x34 < (4096 : Int32) then
    bO (gr h17 12 x1 69) fun x35 =>
    bO (asz h17 x35 x34 (0 : Int32)) fun h18 =>
    aJ (fun (h19 : aH) =>
    aLet (x34 + (1 : Int32)) fun x36 =>
    r116 x36 h19) fun k224 =>
    aL1 (m_X12_mans_L135 x1 x13 x15 x34 k224) FU (0 : Int32) h18
  else
  k230 h17
def m_X12_mans (x1 : Nat) (x2 : Int32) (x3 : Int32) (x4 : Int32) (h0 : aH) : Option (Int32 × aH) :=
  gS h0 12 x1 <|
  bR (m_X12_isEngine x1 x2 x3 h0) fun x5 h1 =>
  aJ (fun (x6 : Int32) (h2 : aH) =>
  bO (pi h2 12 x1 0 x6) fun h3 =>
  bO (gi h3 12 x1 0) fun x7 =>
  if x7 ≤ 0 then
    gS h3 12 x1 <|
    bR (m_X12_plans x1 x2 h3) fun _ h4 =>
    bO (gr h4 12 x1 65) fun x8 =>
    bO (ali h4 1 x8 x3) fun x9 =>
    aJ (fun (x10 : Int32) (h5 : aH) =>
    bO (pi h5 12 x1 0 x10) fun h6 =>
    bO (gi h6 12 x1 0) fun x11 =>
    if x11 ≤ 0 then
      bO (gr h6 12 x1 27) fun x12 =>
      bO (ali h6 1 x12 (((5 : Int32) * x2) + x3)) fun x13 =>
      bO (gr h6 12 x1 64) fun x14 =>
      bO (ali h6 1 x14 x3) fun x15 =>
      bO (gr h6 12 x1 69) fun x16 =>
      bO (asz h6 x16 (0 : Int32) (1 : Int32)) fun h7 =>
      aJ (fun (h8 : aH) =>
      aJ (fun (x17 : Int32) (h9 : aH) =>
      some (x17, h9)) fun k342 =>
      aL3 (m_X12_mans_L240 x1 x4 x13 k342) FU x15 (-1 : Int32) (0 : Int32) h8) fun k230 =>
      aL1 (m_X12_mans_L116 x1 x13 x15 k230) FU (1 : Int32) h7
    else
    some ((0 : Int32), h6)) fun k74 =>
    if x9 = 0 then
      k74 (0 : Int32) h4
    else
    k74 (2 : Int32) h4
  else
  some ((0 : Int32), h3)) fun k42 =>
  aJ (fun (h26 : aH) =>
  k42 (1 : Int32) h26) fun k41 =>
  if x5 = 0 then
    k41 h1
  else
  bO (gr h1 12 x1 19) fun x49 =>
  bO (gr h1 12 x1 27) fun x50 =>
  bO (ali h1 1 x50 (((5 : Int32) * x2) + x3)) fun x51 =>
  bO (ali h1 1 x49 x51) fun x52 =>
  bR (m_X12_in (x4.toInt64) (0 : Int64) ((x52 - (1 : Int32)).toInt64) h1) fun x53 h27 =>
  if x53 = 0 then
    k41 h27
  else
  k42 (0 : Int32) h27
def m_X12_joins_L136 (x1 : Nat) (k164 : aH → Option (Unit × aH)) (r136 : Int32 → aH → Option (Unit × aH)) (x6 : Int32) (h3 : aH) : Option (Unit × aH) :=
  if x6 < (4096 : Int32) then
    bO (gr h3 12 x1 70) fun x7 =>
    bO (gr h3 12 x1 69) fun x8 =>
    bO (ali h3 3 x8 x6) fun x9 =>
    bO (asz h3 x7 x6 x9) fun h4 =>
    aLet (x6 + (1 : Int32)) fun x10 =>
    r136 x10 h4
  else
  k164 h3
def m_X12_joins_L40 (x1 : Nat) (x2 : Int32) (x3 : Int32) (x4 : Int32) (x11 : Int32) (k127 : aH → Option (Unit × aH)) (r40 : Int32 → aH → Option (Unit × aH)) (x17 : Int32) (h9 : aH) : Option (Unit × aH) :=
  bO (gi h9 12 x1 8) fun x18 =>
  if x17 < x18 then
    aJ (fun (x19 : Int32) (h10 : aH) =>
    bO (gr h10 12 x1 69) fun x20 =>
    bO (ali h10 3 x20 x11) fun x21 =>
    aJ (fun (x22 : Int32) (h11 : aH) =>
    bO (asz h11 x20 x11 (x21 ||| x22)) fun h12 =>
    aLet (x17 + (1 : Int32)) fun x23 =>
    r40 x23 h12) fun k119 =>
    aJ (fun (h13 : aH) =>
    k119 (0 : Int32) h13) fun k118 =>
    if x19 = 0 then
      k118 h10
    else
    bO (gr h10 12 x1 70) fun x24 =>
    bO (ali h10 3 x24 (x11 ^^^ ((1 : Int32) <<< (x17 &&& 31)))) fun x25 =>
    if x25 = 0 then
      k118 h10
    else
    k119 (1 : Int32) h10) fun k84 =>
    aJ (fun (h14 : aH) =>
    k84 (0 : Int32) h14) fun k83 =>
    if ((x11 >>> (x17 &&& 31)) &&& (1 : Int32)) = 0 then
      k83 h9
    else
    if ((x4 >>> (x17 &&& 31)) &&& (1 : Int32)) = 0 then
      k83 h9
    else
    gS h9 12 x1 <|
    bR (m_X12_fits x1 x17 x2 x3 h9) fun x26 h15 =>
    if x26 = 0 then
      k83 h15
    else
    k84 (1 : Int32) h15
  else
  k127 h9
def m_X12_joins_L5 (x1 : Nat) (x2 : Int32) (x3 : Int32) (x4 : Int32) (x5 : Int32) (k133 : aH → Option (Unit × aH)) (r5 : Int32 → aH → Option (Unit × aH)) (x11 : Int32) (h5 : aH) : Option (Unit × aH) :=
  if x11 < 0 then
    k133 h5
  else
  bO (gr h5 12 x1 69) fun x12 =>
  bO (gr h5 12 x1 70) fun x13 =>
  bO (ali h5 3 x13 x11) fun x14 =>
  aJ (fun (x15 : Int32) (h6 : aH) =>
  bO (asz h6 x12 x11 x15) fun h7 =>
  aJ (fun (h8 : aH) =>
  aLet (x11 + (-1 : Int32)) fun x16 =>
  r5 x16 h8) fun k127 =>
  aL1 (m_X12_joins_L40 x1 x2 x3 x4 x11 k127) FU (0 : Int32) h7) fun k36 =>
  aJ (fun (h16 : aH) =>
  k36 (0 : Int32) h16) fun k35 =>
  if x14 = 0 then
    k35 h5
  else
  if x5 = 0 then
    k36 (1 : Int32) h5
  else
  k35 h5
def m_X12_joins (x1 : Nat) (x2 : Int32) (x3 : Int32) (x4 : Int32) (x5 : Int32) (h0 : aH) : Option (Unit × aH) :=
  aJ (fun (h1 : aH) =>
  aJ (fun (h2 : aH) =>
  some ((), h2)) fun k164 =>
  aL1 (m_X12_joins_L136 x1 k164) FU (0 : Int32) h1) fun k133 =>
  aL1 (m_X12_joins_L5 x1 x2 x3 x4 x5 k133) FU (4095 : Int32) h0
def m_X12_begins__L2 (x1 : Nat) (k30 : aH → Option (Unit × aH)) (r2 : Int32 → aH → Option (Unit × aH)) (x2 : Int32) (h2 : aH) : Option (Unit × aH) :=
  if x2 < (4096 : Int32) then
    bO (gr h2 12 x1 70) fun x3 =>
    aJ (fun (x4 : Int32) (h3 : aH) =>
    bO (asz h3 x3 x2 x4) fun h4 =>
    aLet (x2 + (1 : Int32)) fun x5 =>
    r2 x5 h4) fun k23 =>
    if x2 = 0 then
      k23 (1 : Int32) h2
    else
    k23 (0 : Int32) h2
  else
  k30 h2
def m_X12_begins_ (x1 : Nat) (h0 : aH) : Option (Unit × aH) :=
  aJ (fun (h1 : aH) =>
  some ((), h1)) fun k30 =>
  aL1 (m_X12_begins__L2 x1 k30) FU (0 : Int32) h0
def m_X12_manned_L91 (x1 : Nat) (k137 : Int32 → aH → Option (Int32 × aH)) (r91 : Int32 → Int32 → aH → Option (Int32 × aH)) (x12 : Int32) (x13 : Int32) (h8 : aH) : Option (Int32 × aH) :=
  if x13 < (4096 : Int32) then
    bO (gr h8 12 x1 70) fun x14 =>
    bO (ali h8 3 x14 x13) fun x15 =>
    aJ (fun (x16 : Int32) (h9 : aH) =>
    aLet (x13 + (1 : Int32)) fun x17 =>
    r91 x16 x17 h9) fun k129 =>
    aJ (fun (h10 : aH) =>
    k129 x12 h10) fun k127 =>
    if x15 = 0 then
      k127 h8
    else
    bR (m_X12_many x13 h8) fun x18 h11 =>
    if x18 ≤ x12 then
      k127 h11
    else
    bR (m_X12_many x13 h11) fun x19 h12 =>
    k129 x19 h12
  else
  k137 x12 h8
def m_X12_manned_L58 (x1 : Nat) (x8 : Int32) (x10 : Int32) (k85 : aH → Option (Int32 × aH)) (r58 : Int32 → aH → Option (Int32 × aH)) (x20 : Int32) (h13 : aH) : Option (Int32 × aH) :=
  bO (gr h13 12 x1 19) fun x21 =>
  bO (ali h13 1 x21 x8) fun x22 =>
  if x20 < x22 then
    gS h13 12 x1 <|
    bR (m_X12_joins x1 x8 x20 x10 (0 : Int32) h13) fun _ h14 =>
    aLet (x20 + (1 : Int32)) fun x23 =>
    r58 x23 h14
  else
  k85 h13
def m_X12_manned (x1 : Nat) (x2 : Int32) (x3 : Int32) (h0 : aH) : Option (Int32 × aH) :=
  gS h0 12 x1 <|
  bR (m_X12_isEngine x1 x2 x3 h0) fun x4 h1 =>
  aJ (fun (x5 : Int32) (h2 : aH) =>
  bO (pi h2 12 x1 0 x5) fun h3 =>
  bO (gi h3 12 x1 0) fun x6 =>
  if x6 ≤ 0 then
    gS h3 12 x1 <|
    bR (m_X12_plans x1 x2 h3) fun _ h4 =>
    bO (gr h4 12 x1 27) fun x7 =>
    bO (ali h4 1 x7 (((5 : Int32) * x2) + x3)) fun x8 =>
    bO (gr h4 12 x1 66) fun x9 =>
    bO (ali h4 1 x9 x3) fun x10 =>
    gS h4 12 x1 <|
    bR (m_X12_begins_ x1 h4) fun _ h5 =>
    aJ (fun (h6 : aH) =>
    aJ (fun (x11 : Int32) (h7 : aH) =>
    some (x11, h7)) fun k137 =>
    aL2 (m_X12_manned_L91 x1 k137) FU (0 : Int32) (0 : Int32) h6) fun k85 =>
    aL1 (m_X12_manned_L58 x1 x8 x10 k85) FU (0 : Int32) h5
  else
  some ((0 : Int32), h3)) fun k15 =>
  if x4 = 0 then
    k15 (1 : Int32) h1
  else
  k15 (0 : Int32) h1
def m_X12_wouldAnswer (x1 : Nat) (x2 : Int32) (h0 : aH) : Option (Int32 × aH) :=
  gS h0 12 x1 <|
  bR (m_X12_isKind x1 x2 h0) fun x3 h1 =>
  aJ (fun (x4 : Int32) (h2 : aH) =>
  bO (pi h2 12 x1 0 x4) fun h3 =>
  bO (gi h3 12 x1 0) fun x5 =>
  aJ (fun (x6 : Int32) (h4 : aH) =>
  bO (zO x6) fun x7 =>
  some (x7, h4)) fun k37 =>
  aJ (fun (h5 : aH) =>
  k37 (0 : Int32) h5) fun k36 =>
  if x5 = 0 then
    gS h3 12 x1 <|
    bR (m_X12_answers x1 x2 h3) fun x8 h6 =>
    if x8 = 0 then
      k36 h6
    else
    k37 (1 : Int32) h6
  else
  k36 h3) fun k14 =>
  if x3 = 0 then
    k14 (1 : Int32) h1
  else
  k14 (0 : Int32) h1
def m_X12_mostEngines_L252 (x1 : Nat) (k278 : Int32 → aH → Option (Int32 × aH)) (r252 : Int32 → Int32 → aH → Option (Int32 × aH)) (x21 : Int32) (x22 : Int32) (h16 : aH) : Option (Int32 × aH) :=
  if x22 < (4096 : Int32) then
    bO (gr h16 12 x1 70) fun x23 =>
    bO (ali h16 3 x23 x22) fun x24 =>
    aLet (x21 ||| x24) fun x25 =>
    aLet (x22 + (1 : Int32)) fun x26 =>
    r252 x25 x26 h16
  else
  k278 x21 h16
def m_X12_mostEngines_L200 (x1 : Nat) (x8 : Int32) (x27 : Int32) (x31 : Int32) (k240 : aH → Option (Int32 × aH)) (r200 : Int32 → aH → Option (Int32 × aH)) (x33 : Int32) (h19 : aH) : Option (Int32 × aH) :=
  bO (gr h19 12 x1 19) fun x34 =>
  bO (ali h19 1 x34 x31) fun x35 =>
  if x33 < x35 then
    if ((x8 >>> (x27 &&& 31)) &&& (1 : Int32)) = 0 then
      k240 h19
    else
    bO (gi h19 12 x1 63) fun x36 =>
    gS h19 12 x1 <|
    bR (m_X12_joins x1 x31 x33 x36 (1 : Int32) h19) fun _ h20 =>
    aLet (x33 + (1 : Int32)) fun x37 =>
    r200 x37 h20
  else
  k240 h19
def m_X12_mostEngines_L173 (x1 : Nat) (x2 : Int32) (x8 : Int32) (k246 : aH → Option (Int32 × aH)) (r173 : Int32 → aH → Option (Int32 × aH)) (x27 : Int32) (h17 : aH) : Option (Int32 × aH) :=
  bO (gr h17 12 x1 26) fun x28 =>
  bO (ali h17 1 x28 x2) fun x29 =>
  if x27 < x29 then
    bO (gr h17 12 x1 27) fun x30 =>
    bO (ali h17 1 x30 (((5 : Int32) * x2) + x27)) fun x31 =>
    aJ (fun (h18 : aH) =>
    aLet (x27 + (1 : Int32)) fun x32 =>
    r173 x32 h18) fun k240 =>
    aL1 (m_X12_mostEngines_L200 x1 x8 x27 x31 k240) FU (0 : Int32) h17
  else
  k246 h17
def m_X12_mostEngines_L67 (x1 : Nat) (x2 : Int32) (x8 : Int32) (k146 : Int32 → Int32 → aH → Option (Int32 × aH)) (r67 : Int32 → Int32 → Int32 → aH → Option (Int32 × aH)) (x38 : Int32) (x39 : Int32) (x40 : Int32) (h21 : aH) : Option (Int32 × aH) :=
  bO (gr h21 12 x1 26) fun x41 =>
  bO (ali h21 1 x41 x2) fun x42 =>
  if x40 < x42 then
    bO (gr h21 12 x1 27) fun x43 =>
    bO (ali h21 1 x43 (((5 : Int32) * x2) + x40)) fun x44 =>
    aJ (fun (x45 : Int32) (x46 : Int32) (h22 : aH) =>
    aLet (x40 + (1 : Int32)) fun x47 =>
    r67 x45 x46 x47 h22) fun k140 =>
    if ((x8 >>> (x40 &&& 31)) &&& (1 : Int32)) = 0 then
      k140 x38 x39 h21
    else
    bO (gr h21 12 x1 19) fun x48 =>
    bO (ali h21 1 x48 x44) fun x49 =>
    aLet (x38 + x49) fun x50 =>
    gS h21 12 x1 <|
    bR (m_X12_isRested x1 x44 h21) fun x51 h23 =>
    aJ (fun (x52 : Int32) (h24 : aH) =>
    aLet (x39 &&& x52) fun x53 =>
    k140 x50 x53 h24) fun k137 =>
    aJ (fun (h25 : aH) =>
    k137 (0 : Int32) h25) fun k136 =>
    if x51 = 0 then
      gS h23 12 x1 <|
      bR (m_X12_isEngineOut x1 x44 h23) fun x54 h26 =>
      if x54 = 0 then
        k137 (1 : Int32) h26
      else
      k136 h26
    else
    k136 h23
  else
  k146 x38 x39 h21
def m_X12_mostEngines_L35 (x1 : Nat) (x2 : Int32) (k298 : Int32 → aH → Option (Int32 × aH)) (r35 : Int32 → Int32 → aH → Option (Int32 × aH)) (x7 : Int32) (x8 : Int32) (h6 : aH) : Option (Int32 × aH) :=
  bO (gr h6 12 x1 26) fun x9 =>
  bO (ali h6 1 x9 x2) fun x10 =>
  if x8 < ((1 : Int32) <<< (x10 &&& 31)) then
    bR (m_X12_many x8 h6) fun x11 h7 =>
    aJ (fun (x12 : Int32) (h8 : aH) =>
    aLet (x8 + (1 : Int32)) fun x13 =>
    r35 x12 x13 h8) fun k292 =>
    if x11 ≤ x7 then
      k292 x7 h7
    else
    aJ (fun (x14 : Int32) (x15 : Int32) (h9 : aH) =>
    if x15 = 0 then
      k292 x7 h9
    else
    bO (gi h9 12 x1 63) fun x16 =>
    bR (m_X12_many x16 h9) fun x17 h10 =>
    if x14 ≤ x17 then
      gS h10 12 x1 <|
      bR (m_X12_begins_ x1 h10) fun _ h11 =>
      aJ (fun (h12 : aH) =>
      aJ (fun (x18 : Int32) (h13 : aH) =>
      aJ (fun (x19 : Int32) (h14 : aH) =>
      k292 x19 h14) fun k291 =>
      if x18 = 0 then
        k291 x7 h13
      else
      bR (m_X12_many x8 h13) fun x20 h15 =>
      k291 x20 h15) fun k278 =>
      aL2 (m_X12_mostEngines_L252 x1 k278) FU (0 : Int32) (0 : Int32) h12) fun k246 =>
      aL1 (m_X12_mostEngines_L173 x1 x2 x8 k246) FU (0 : Int32) h11
    else
    k292 x7 h10) fun k146 =>
    aL3 (m_X12_mostEngines_L67 x1 x2 x8 k146) FU (0 : Int32) (1 : Int32) (0 : Int32) h7
  else
  k298 x7 h6
def m_X12_mostEngines (x1 : Nat) (x2 : Int32) (h0 : aH) : Option (Int32 × aH) :=
  gS h0 12 x1 <|
  bR (m_X12_isKind x1 x2 h0) fun x3 h1 =>
  aJ (fun (x4 : Int32) (h2 : aH) =>
  bO (pi h2 12 x1 0 x4) fun h3 =>
  bO (gi h3 12 x1 0) fun x5 =>
  if x5 ≤ 0 then
    gS h3 12 x1 <|
    bR (m_X12_plans x1 x2 h3) fun _ h4 =>
    aJ (fun (x6 : Int32) (h5 : aH) =>
    some (x6, h5)) fun k298 =>
    aL2 (m_X12_mostEngines_L35 x1 x2 k298) FU (0 : Int32) (1 : Int32) h4
  else
  some ((0 : Int32), h3)) fun k14 =>
  if x3 = 0 then
    k14 (1 : Int32) h1
  else
  k14 (0 : Int32) h1
def m_X12_hoursUntilAnswered_L51 (x1 : Nat) (k69 : aH → Option (Int32 × aH)) (r51 : Int32 → aH → Option (Int32 × aH)) (x15 : Int32) (h14 : aH) : Option (Int32 × aH) :=
  if x15 < (60 : Int32) then
    gS h14 12 x1 <|
    bR (m_X12_minute x1 h14) fun x16 h15 =>
    aLet (x15 + (1 : Int32)) fun x17 =>
    r51 x17 h15
  else
  k69 h14
def m_X12_hoursUntilAnswered_L38 (x1 : Nat) (x2 : Int32) (k81 : Int32 → Int32 → aH → Option (Int32 × aH)) (r38 : Int32 → Int32 → aH → Option (Int32 × aH)) (x11 : Int32) (x12 : Int32) (h11 : aH) : Option (Int32 × aH) :=
  if x12 = 0 then
    if x11 < (48 : Int32) then
      aJ (fun (h12 : aH) =>
      aLet (x11 + (1 : Int32)) fun x13 =>
      gS h12 12 x1 <|
      bR (m_X12_answers x1 x2 h12) fun x14 h13 =>
      r38 x13 x14 h13) fun k69 =>
      aL1 (m_X12_hoursUntilAnswered_L51 x1 k69) FU (0 : Int32) h11
    else
    k81 x11 x12 h11
  else
  k81 x11 x12 h11
def m_X12_hoursUntilAnswered (x1 : Nat) (x2 : Int32) (h0 : aH) : Option (Int32 × aH) :=
  gS h0 12 x1 <|
  bR (m_X12_isKind x1 x2 h0) fun x3 h1 =>
  aJ (fun (x4 : Int32) (h2 : aH) =>
  bO (pi h2 12 x1 0 x4) fun h3 =>
  bO (gi h3 12 x1 0) fun x5 =>
  if x5 ≤ 0 then
    gS h3 12 x1 <|
    bR (m_X12_lays x1 h3) fun _ h4 =>
    gS h4 12 x1 <|
    bR (m_X12_answers x1 x2 h4) fun x6 h5 =>
    aJ (fun (x7 : Int32) (x8 : Int32) (h6 : aH) =>
    gS h6 12 x1 <|
    bR (m_X12_takes x1 h6) fun _ h7 =>
    aJ (fun (x9 : Int32) (h8 : aH) =>
    bO (pi h8 12 x1 0 x9) fun h9 =>
    aJ (fun (x10 : Int32) (h10 : aH) =>
    some (x10, h10)) fun k107 =>
    if x8 = 0 then
      k107 (0 : Int32) h9
    else
    k107 x7 h9) fun k95 =>
    if x8 = 0 then
      k95 (2 : Int32) h7
    else
    k95 (0 : Int32) h7) fun k81 =>
    aL2 (m_X12_hoursUntilAnswered_L38 x1 x2 k81) FU (0 : Int32) x6 h5
  else
  some ((0 : Int32), h3)) fun k14 =>
  if x3 = 0 then
    k14 (1 : Int32) h1
  else
  k14 (0 : Int32) h1
def m_X12_helpful_L12 (x1 : Nat) (x2 : Int32) (k78 : Int32 → Int32 → aH → Option (Int32 × aH)) (x5 : Int32) (k91 : aH → Option (Int32 × aH)) (r12 : Int32 → aH → Option (Int32 × aH)) (x8 : Int32) (h5 : aH) : Option (Int32 × aH) :=
  bO (gi h5 12 x1 8) fun x9 =>
  if x8 < x9 then
    gS h5 12 x1 <|
    bR (m_X12_endOf x1 x5 h5) fun x10 h6 =>
    gS h6 12 x1 <|
    bR (m_X12_against x1 x5 x8 x10 h6) fun x11 h7 =>
    aJ (fun (h8 : aH) =>
    aLet (x8 + (1 : Int32)) fun x12 =>
    r12 x12 h8) fun k85 =>
    if x11 = 0 then
      gS h7 12 x1 <|
      bR (m_X12_hands_ x1 x5 x8 x10 h7) fun _ h9 =>
      gS h9 12 x1 <|
      bR (m_X12_answers x1 x2 h9) fun x13 h10 =>
      bO (gr h10 12 x1 1) fun x14 =>
      aLet (((194 : Int32) + ((15 : Int32) * x5)) + (8 : Int32)) fun x15 =>
      bO (ali h10 1 x14 x15) fun x16 =>
      bO (asi h10 x14 x15 (x16 - (1 : Int32))) fun h11 =>
      if x13 = 0 then
        k85 h11
      else
      k78 x5 x8 h11
    else
    k85 h7
  else
  k91 h5
def m_X12_helpful_L2 (x1 : Nat) (x2 : Int32) (k97 : aH → Option (Int32 × aH)) (k78 : Int32 → Int32 → aH → Option (Int32 × aH)) (r2 : Int32 → aH → Option (Int32 × aH)) (x5 : Int32) (h3 : aH) : Option (Int32 × aH) :=
  bO (gi h3 12 x1 9) fun x6 =>
  if x5 < x6 then
    aJ (fun (h4 : aH) =>
    aLet (x5 + (1 : Int32)) fun x7 =>
    r2 x7 h4) fun k91 =>
    aL1 (m_X12_helpful_L12 x1 x2 k78 x5 k91) FU (0 : Int32) h3
  else
  k97 h3
def m_X12_helpful (x1 : Nat) (x2 : Int32) (h0 : aH) : Option (Int32 × aH) :=
  aJ (fun (h1 : aH) =>
  some ((-1 : Int32), h1)) fun k97 =>
  aJ (fun (x3 : Int32) (x4 : Int32) (h2 : aH) =>
  some (((16 : Int32) * x3) + x4, h2)) fun k78 =>
  aL1 (m_X12_helpful_L2 x1 x2 k97 k78) FU (0 : Int32) h0
def m_X12_helps (x1 : Nat) (x2 : Int32) (h0 : aH) : Option (Int32 × aH) :=
  gS h0 12 x1 <|
  bR (m_X12_isKind x1 x2 h0) fun x3 h1 =>
  aJ (fun (x4 : Int32) (h2 : aH) =>
  bO (pi h2 12 x1 0 x4) fun h3 =>
  bO (gi h3 12 x1 0) fun x5 =>
  if x5 ≤ 0 then
    gS h3 12 x1 <|
    bR (m_X12_answers x1 x2 h3) fun x6 h4 =>
    aJ (fun (x7 : Int32) (h5 : aH) =>
    bO (pi h5 12 x1 0 x7) fun h6 =>
    bO (gi h6 12 x1 0) fun x8 =>
    if x8 ≤ 0 then
      gS h6 12 x1 <|
      bR (m_X12_helpful x1 x2 h6) fun x9 h7 =>
      aJ (fun (x10 : Int32) (h8 : aH) =>
      bO (pi h8 12 x1 0 x10) fun h9 =>
      bO (gi h9 12 x1 0) fun x11 =>
      aJ (fun (x12 : Int32) (h10 : aH) =>
      some (x12, h10)) fun k84 =>
      if x11 ≤ 0 then
        k84 x9 h9
      else
      k84 (0 : Int32) h9) fun k69 =>
      if x9 = (-1 : Int32) then
        k69 (3 : Int32) h7
      else
      k69 (0 : Int32) h7
    else
    some ((0 : Int32), h6)) fun k40 =>
    if x6 = 0 then
      k40 (0 : Int32) h4
    else
    k40 (2 : Int32) h4
  else
  some ((0 : Int32), h3)) fun k14 =>
  if x3 = 0 then
    k14 (1 : Int32) h1
  else
  k14 (0 : Int32) h1
def m_X12_helpfulPager (x1 : Nat) (x2 : Int32) (h0 : aH) : Option (Int32 × aH) :=
  gS h0 12 x1 <|
  bR (m_X12_helps x1 x2 h0) fun x3 h1 =>
  bO (dvI x3 (16 : Int32)) fun x4 =>
  some (x4, h1)
def m_X12_helpfulPerson (x1 : Nat) (x2 : Int32) (h0 : aH) : Option (Int32 × aH) :=
  gS h0 12 x1 <|
  bR (m_X12_helps x1 x2 h0) fun x3 h1 =>
  bO (rmI x3 (16 : Int32)) fun x4 =>
  some (x4, h1)
def m_X12_isCall (x1 : Nat) (x2 : Int32) (h0 : aH) : Option (Int32 × aH) :=
  bO (gr h0 12 x1 1) fun x3 =>
  bO (ali h0 1 x3 (1 : Int32)) fun x4 =>
  bR (m_X12_in (x2.toInt64) (0 : Int64) ((x4 - (1 : Int32)).toInt64) h0) fun x5 h1 =>
  bO (zO x5) fun x6 =>
  some (x6, h1)
def m_X12_callAt (x1 : Nat) (x2 : Int32) (x3 : Int32) (h0 : aH) : Option (Int32 × aH) :=
  bO (gr h0 12 x1 1) fun x4 =>
  bO (ali h0 1 x4 (((299 : Int32) + ((19 : Int32) * x2)) + x3)) fun x5 =>
  some (x5, h0)
def m_X12_returnsAt (x1 : Nat) (x2 : Int32) (h0 : aH) : Option (Int32 × aH) :=
  bO (gi h0 12 x1 10) fun x3 =>
  bR (m_X12_in (x2.toInt64) (0 : Int64) ((x3 - (1 : Int32)).toInt64) h0) fun x4 h1 =>
  aJ (fun (x5 : Int32) (h2 : aH) =>
  bO (pi h2 12 x1 0 x5) fun h3 =>
  bO (gi h3 12 x1 0) fun x6 =>
  aJ (fun (x7 : Int32) (h4 : aH) =>
  some (x7, h4)) fun k62 =>
  if x6 ≤ 0 then
    gS h3 12 x1 <|
    bR (m_X12_isEngineOut x1 x2 h3) fun x8 h5 =>
    if x8 = 0 then
      k62 (-1 : Int32) h5
    else
    bO (gr h5 12 x1 1) fun x9 =>
    bO (ali h5 1 x9 (((284 : Int32) + ((3 : Int32) * x2)) + (0 : Int32))) fun x10 =>
    k62 x10 h5
  else
  k62 (0 : Int32) h3) fun k22 =>
  if x4 = 0 then
    k22 (1 : Int32) h1
  else
  k22 (0 : Int32) h1
def m_X12_cost (x1 : Nat) (x2 : Int32) (h0 : aH) : Option (Int32 × aH) :=
  gS h0 12 x1 <|
  bR (m_X12_isCall x1 x2 h0) fun x3 h1 =>
  aJ (fun (x4 : Int32) (h2 : aH) =>
  bO (pi h2 12 x1 0 x4) fun h3 =>
  bO (gi h3 12 x1 0) fun x5 =>
  aJ (fun (x6 : Int32) (h4 : aH) =>
  some (x6, h4)) fun k34 =>
  if x5 ≤ 0 then
    gS h3 12 x1 <|
    bR (m_X12_callAt x1 x2 (0 : Int32) h3) fun x7 h5 =>
    k34 x7 h5
  else
  k34 (0 : Int32) h3) fun k14 =>
  if x3 = 0 then
    k14 (1 : Int32) h1
  else
  k14 (0 : Int32) h1
def m_X12_isAnswered (x1 : Nat) (x2 : Int32) (h0 : aH) : Option (Int32 × aH) :=
  gS h0 12 x1 <|
  bR (m_X12_isCall x1 x2 h0) fun x3 h1 =>
  aJ (fun (x4 : Int32) (h2 : aH) =>
  bO (pi h2 12 x1 0 x4) fun h3 =>
  bO (gi h3 12 x1 0) fun x5 =>
  aJ (fun (x6 : Int32) (h4 : aH) =>
  bO (zO x6) fun x7 =>
  some (x7, h4)) fun k38 =>
  aJ (fun (h5 : aH) =>
  k38 (0 : Int32) h5) fun k37 =>
  if x5 = 0 then
    gS h3 12 x1 <|
    bR (m_X12_callAt x1 x2 (1 : Int32) h3) fun x8 h6 =>
    if x8 = 0 then
      k37 h6
    else
    k38 (1 : Int32) h6
  else
  k37 h3) fun k14 =>
  if x3 = 0 then
    k14 (1 : Int32) h1
  else
  k14 (0 : Int32) h1
def m_X12_came (x1 : Nat) (x2 : Int32) (h0 : aH) : Option (Int32 × aH) :=
  gS h0 12 x1 <|
  bR (m_X12_isCall x1 x2 h0) fun x3 h1 =>
  aJ (fun (x4 : Int32) (h2 : aH) =>
  bO (pi h2 12 x1 0 x4) fun h3 =>
  bO (gi h3 12 x1 0) fun x5 =>
  aJ (fun (x6 : Int32) (h4 : aH) =>
  some (x6, h4)) fun k34 =>
  if x5 ≤ 0 then
    gS h3 12 x1 <|
    bR (m_X12_callAt x1 x2 (2 : Int32) h3) fun x7 h5 =>
    k34 x7 h5
  else
  k34 (0 : Int32) h3) fun k14 =>
  if x3 = 0 then
    k14 (1 : Int32) h1
  else
  k14 (0 : Int32) h1
def m_X12_left (x1 : Nat) (x2 : Int32) (h0 : aH) : Option (Int32 × aH) :=
  gS h0 12 x1 <|
  bR (m_X12_isCall x1 x2 h0) fun x3 h1 =>
  aJ (fun (x4 : Int32) (h2 : aH) =>
  bO (pi h2 12 x1 0 x4) fun h3 =>
  bO (gi h3 12 x1 0) fun x5 =>
  aJ (fun (x6 : Int32) (h4 : aH) =>
  some (x6, h4)) fun k34 =>
  if x5 ≤ 0 then
    gS h3 12 x1 <|
    bR (m_X12_callAt x1 x2 (3 : Int32) h3) fun x7 h5 =>
    k34 x7 h5
  else
  k34 (0 : Int32) h3) fun k14 =>
  if x3 = 0 then
    k14 (1 : Int32) h1
  else
  k14 (0 : Int32) h1
def m_X12_leavingAt (x1 : Nat) (x2 : Int32) (x3 : Int32) (x4 : Int32) (h0 : aH) : Option (Int32 × aH) :=
  gS h0 12 x1 <|
  bR (m_X12_isCall x1 x2 h0) fun x5 h1 =>
  aJ (fun (x6 : Int32) (h2 : aH) =>
  bO (pi h2 12 x1 0 x6) fun h3 =>
  bO (gi h3 12 x1 0) fun x7 =>
  aJ (fun (x8 : Int32) (h4 : aH) =>
  some (x8, h4)) fun k58 =>
  if x7 ≤ 0 then
    gS h3 12 x1 <|
    bR (m_X12_callAt x1 x2 (((4 : Int32) + ((3 : Int32) * x3)) + x4) h3) fun x9 h5 =>
    k58 x9 h5
  else
  k58 (0 : Int32) h3) fun k32 =>
  aJ (fun (h6 : aH) =>
  k32 (1 : Int32) h6) fun k31 =>
  if x5 = 0 then
    k31 h1
  else
  gS h1 12 x1 <|
  bR (m_X12_callAt x1 x2 (3 : Int32) h1) fun x10 h7 =>
  bR (m_X12_in (x3.toInt64) (0 : Int64) ((x10 - (1 : Int32)).toInt64) h7) fun x11 h8 =>
  if x11 = 0 then
    k31 h8
  else
  k32 (0 : Int32) h8
def m_X12_engine_ (x1 : Nat) (x2 : Int32) (x3 : Int32) (h0 : aH) : Option (Int32 × aH) :=
  gS h0 12 x1 <|
  bR (m_X12_leavingAt x1 x2 x3 (0 : Int32) h0) fun x4 h1 =>
  some (x4, h1)
def m_X12_leftAt (x1 : Nat) (x2 : Int32) (x3 : Int32) (h0 : aH) : Option (Int32 × aH) :=
  gS h0 12 x1 <|
  bR (m_X12_leavingAt x1 x2 x3 (1 : Int32) h0) fun x4 h1 =>
  some (x4, h1)
def m_X12_member_L44 (x1 : Nat) (x4 : Int32) (x5 : Int32) (k88 : aH → Option (Int32 × aH)) (k76 : Int32 → aH → Option (Int32 × aH)) (r44 : Int32 → Int32 → aH → Option (Int32 × aH)) (x8 : Int32) (x9 : Int32) (h5 : aH) : Option (Int32 × aH) :=
  bO (gi h5 12 x1 8) fun x10 =>
  if x9 < x10 then
    bO (gi h5 12 x1 0) fun x11 =>
    if x11 = 0 then
      aJ (fun (x12 : Int32) (h6 : aH) =>
      aLet (x9 + (1 : Int32)) fun x13 =>
      r44 x12 x13 h6) fun k82 =>
      if ((x5 >>> (x9 &&& 31)) &&& (1 : Int32)) = 0 then
        k82 x8 h5
      else
      if x8 = x4 then
        k76 x9 h5
      else
      aLet (x8 + (1 : Int32)) fun x14 =>
      k82 x14 h5
    else
    k88 h5
  else
  k88 h5
def m_X12_member (x1 : Nat) (x2 : Int32) (x3 : Int32) (x4 : Int32) (h0 : aH) : Option (Int32 × aH) :=
  gS h0 12 x1 <|
  bR (m_X12_leavingAt x1 x2 x3 (2 : Int32) h0) fun x5 h1 =>
  bO (gi h1 12 x1 0) fun x6 =>
  aJ (fun (h2 : aH) =>
  aJ (fun (h3 : aH) =>
  some ((0 : Int32), h3)) fun k88 =>
  aJ (fun (x7 : Int32) (h4 : aH) =>
  some (x7, h4)) fun k76 =>
  aL2 (m_X12_member_L44 x1 x4 x5 k88 k76) FU (0 : Int32) (0 : Int32) h2) fun k38 =>
  if x6 = 0 then
    bR (m_X12_many x5 h1) fun x15 h7 =>
    bR (m_X12_in (x4.toInt64) (0 : Int64) ((x15 - (1 : Int32)).toInt64) h7) fun x16 h8 =>
    if x16 = 0 then
      bO (pi h8 12 x1 0 (1 : Int32)) fun h9 =>
      k38 h9
    else
    k38 h8
  else
  k38 h1
def m_X12_totalCost_L9 (x1 : Nat) (k34 : Int32 → aH → Option (Int32 × aH)) (r9 : Int32 → Int32 → aH → Option (Int32 × aH)) (x3 : Int32) (x4 : Int32) (h3 : aH) : Option (Int32 × aH) :=
  bO (gr h3 12 x1 1) fun x5 =>
  bO (ali h3 1 x5 (1 : Int32)) fun x6 =>
  if x4 < x6 then
    gS h3 12 x1 <|
    bR (m_X12_callAt x1 x4 (0 : Int32) h3) fun x7 h4 =>
    aLet (x3 + x7) fun x8 =>
    aLet (x4 + (1 : Int32)) fun x9 =>
    r9 x8 x9 h4
  else
  k34 x3 h3
def m_X12_totalCost (x1 : Nat) (h0 : aH) : Option (Int32 × aH) :=
  bO (pi h0 12 x1 0 (0 : Int32)) fun h1 =>
  aJ (fun (x2 : Int32) (h2 : aH) =>
  some (x2, h2)) fun k34 =>
  aL2 (m_X12_totalCost_L9 x1 k34) FU (0 : Int32) (0 : Int32) h1
def m_X12_keeps_L54 (x1 : Nat) (k88 : aH → Option (Unit × aH)) (r54 : Int32 → aH → Option (Unit × aH)) (x4 : Int32) (h4 : aH) : Option (Unit × aH) :=
  if x4 < (603 : Int32) then
    bO (gr h4 12 x1 2) fun x5 =>
    bO (gi h4 12 x1 6) fun x6 =>
    bO (gr h4 12 x1 1) fun x7 =>
    bO (ali h4 1 x7 x4) fun x8 =>
    bO (asi h4 x5 (((603 : Int32) * x6) + x4) x8) fun h5 =>
    aLet (x4 + (1 : Int32)) fun x9 =>
    r54 x9 h5
  else
  k88 h4
def m_X12_keeps_L13 (x1 : Nat) (k42 : aH → Option (Unit × aH)) (r13 : Int32 → aH → Option (Unit × aH)) (x11 : Int32) (h8 : aH) : Option (Unit × aH) :=
  if x11 < (6030 : Int32) then
    bO (gr h8 12 x1 2) fun x12 =>
    bO (gr h8 12 x1 2) fun x13 =>
    bO (ali h8 1 x13 x11) fun x14 =>
    bO (asi h8 x12 (x11 - (603 : Int32)) x14) fun h9 =>
    aLet (x11 + (1 : Int32)) fun x15 =>
    r13 x15 h9
  else
  k42 h8
def m_X12_keeps (x1 : Nat) (h0 : aH) : Option (Unit × aH) :=
  bO (gi h0 12 x1 6) fun x2 =>
  aJ (fun (h1 : aH) =>
  aJ (fun (h2 : aH) =>
  bO (gi h2 12 x1 6) fun x3 =>
  bO (pi h2 12 x1 6 (x3 + (1 : Int32))) fun h3 =>
  some ((), h3)) fun k88 =>
  aL1 (m_X12_keeps_L54 x1 k88) FU (0 : Int32) h1) fun k52 =>
  if x2 = (10 : Int32) then
    aJ (fun (h6 : aH) =>
    bO (gi h6 12 x1 6) fun x10 =>
    bO (pi h6 12 x1 6 (x10 - (1 : Int32))) fun h7 =>
    k52 h7) fun k42 =>
    aL1 (m_X12_keeps_L13 x1 k42) FU (603 : Int32) h0
  else
  k52 h0
def m_X12_sends_L10 (x1 : Nat) (x3 : Int32) (k39 : Int32 → aH → Option (Int32 × aH)) (r10 : Int32 → Int32 → aH → Option (Int32 × aH)) (x11 : Int32) (x12 : Int32) (h4 : aH) : Option (Int32 × aH) :=
  if x12 < x3 then
    gS h4 12 x1 <|
    bR (m_X12_isNight x1 x12 h4) fun x13 h5 =>
    aJ (fun (x14 : Int32) (h6 : aH) =>
    aLet (x11 + x14) fun x15 =>
    aLet (x12 + (1 : Int32)) fun x16 =>
    r10 x15 x16 h6) fun k31 =>
    if x13 = 0 then
      k31 (1 : Int32) h5
    else
    k31 (2 : Int32) h5
  else
  k39 x11 h4
def m_X12_sends (x1 : Nat) (x2 : Int32) (x3 : Int32) (h0 : aH) : Option (Int32 × aH) :=
  bO (gr h0 12 x1 1) fun x4 =>
  bO (ali h0 1 x4 (0 : Int32)) fun x5 =>
  aJ (fun (x6 : Int32) (h1 : aH) =>
  bO (gr h1 12 x1 1) fun x7 =>
  bO (asi h1 x7 ((14 : Int32) + x2) x3) fun h2 =>
  bO (gr h2 12 x1 1) fun x8 =>
  aLet ((38 : Int32) + x2) fun x9 =>
  bO (ali h2 1 x8 x9) fun x10 =>
  bO (asi h2 x8 x9 (x10 + x6)) fun h3 =>
  some (x6, h3)) fun k39 =>
  aL2 (m_X12_sends_L10 x1 x3 k39) FU (0 : Int32) x5 h0
def m_X12_call_L497 (x1 : Nat) (x23 : Int32) (k582 : Int32 → aH → Option (Int32 × aH)) (r497 : Int32 → Int32 → aH → Option (Int32 × aH)) (x28 : Int32) (x29 : Int32) (h17 : aH) : Option (Int32 × aH) :=
  bO (gi h17 12 x1 8) fun x30 =>
  if x29 < x30 then
    bO (gi h17 12 x1 63) fun x31 =>
    aJ (fun (x32 : Int32) (h18 : aH) =>
    aJ (fun (x33 : Int32) (h19 : aH) =>
    aLet (x28 + x33) fun x34 =>
    aLet (x29 + (1 : Int32)) fun x35 =>
    r497 x34 x35 h19) fun k573 =>
    if x32 = 0 then
      k573 (0 : Int32) h18
    else
    bO (gr h18 12 x1 1) fun x36 =>
    bO (ali h18 1 x36 (0 : Int32)) fun x37 =>
    gS h18 12 x1 <|
    bR (m_X12_arrivalOf x1 x29 h18) fun x38 h20 =>
    bO (gr h20 12 x1 13) fun x39 =>
    bO (ali h20 1 x39 x29) fun x40 =>
    gS h20 12 x1 <|
    bR (m_X12_sends x1 x29 ((x37 + x38) + x40) h20) fun x41 h21 =>
    k573 x41 h21) fun k533 =>
    aJ (fun (h22 : aH) =>
    k533 (0 : Int32) h22) fun k532 =>
    if ((x31 >>> (x29 &&& 31)) &&& (1 : Int32)) = 0 then
      k532 h17
    else
    if ((x23 >>> (x29 &&& 31)) &&& (1 : Int32)) = 0 then
      k533 (1 : Int32) h17
    else
    k532 h17
  else
  k582 x28 h17
def m_X12_call_L441 (x1 : Nat) (x45 : Int32) (k488 : Int32 → Int32 → Int32 → aH → Option (Int32 × aH)) (x64 : Int32) (x74 : Int32) (x77 : Int32) (r441 : Int32 → Int32 → aH → Option (Int32 × aH)) (x82 : Int32) (x83 : Int32) (h30 : aH) : Option (Int32 × aH) :=
  bO (gi h30 12 x1 8) fun x84 =>
  if x83 < x84 then
    bO (gr h30 12 x1 64) fun x85 =>
    bO (ali h30 1 x85 x45) fun x86 =>
    aJ (fun (x87 : Int32) (h31 : aH) =>
    aLet (x82 + x87) fun x88 =>
    aLet (x83 + (1 : Int32)) fun x89 =>
    r441 x88 x89 h31) fun k479 =>
    if ((x86 >>> (x83 &&& 31)) &&& (1 : Int32)) = 0 then
      k479 (0 : Int32) h30
    else
    gS h30 12 x1 <|
    bR (m_X12_sends x1 x83 x64 h30) fun x90 h32 =>
    k479 x90 h32
  else
  k488 x82 x77 x74 h30
def m_X12_call_L269 (x1 : Nat) (x2 : Int32) (k494 : Int32 → Int32 → aH → Option (Int32 × aH)) (r269 : Int32 → Int32 → Int32 → Int32 → aH → Option (Int32 × aH)) (x42 : Int32) (x43 : Int32) (x44 : Int32) (x45 : Int32) (h23 : aH) : Option (Int32 × aH) :=
  bO (gr h23 12 x1 26) fun x46 =>
  bO (ali h23 1 x46 x2) fun x47 =>
  if x45 < x47 then
    bO (gr h23 12 x1 64) fun x48 =>
    bO (ali h23 1 x48 x45) fun x49 =>
    aJ (fun (x50 : Int32) (x51 : Int32) (x52 : Int32) (h24 : aH) =>
    aLet (x45 + (1 : Int32)) fun x53 =>
    r269 x50 x51 x52 x53 h24) fun k488 =>
    if x49 = 0 then
      k488 x42 x43 x44 h23
    else
    bO (gr h23 12 x1 27) fun x54 =>
    bO (ali h23 1 x54 (((5 : Int32) * x2) + x45)) fun x55 =>
    bO (gr h23 12 x1 1) fun x56 =>
    bO (ali h23 1 x56 (0 : Int32)) fun x57 =>
    bO (gr h23 12 x1 67) fun x58 =>
    bO (ali h23 1 x58 x45) fun x59 =>
    bO (gr h23 12 x1 18) fun x60 =>
    bO (ali h23 1 x60 x55) fun x61 =>
    bO (gr h23 12 x1 21) fun x62 =>
    bO (ali h23 1 x62 x2) fun x63 =>
    aLet (((x57 + x59) + ((2 : Int32) * x61)) + x63) fun x64 =>
    bO (gr h23 12 x1 1) fun x65 =>
    bO (asi h23 x65 x44 x55) fun h25 =>
    bO (gr h25 12 x1 1) fun x66 =>
    bO (gr h25 12 x1 1) fun x67 =>
    bO (ali h25 1 x67 (0 : Int32)) fun x68 =>
    bO (gr h25 12 x1 67) fun x69 =>
    bO (ali h25 1 x69 x45) fun x70 =>
    bO (asi h25 x66 (x44 + (1 : Int32)) (x68 + x70)) fun h26 =>
    bO (gr h26 12 x1 1) fun x71 =>
    bO (gr h26 12 x1 64) fun x72 =>
    bO (ali h26 1 x72 x45) fun x73 =>
    bO (asi h26 x71 (x44 + (2 : Int32)) x73) fun h27 =>
    aLet (x44 + (3 : Int32)) fun x74 =>
    bO (gr h27 12 x1 64) fun x75 =>
    bO (ali h27 1 x75 x45) fun x76 =>
    aLet (x43 ||| x76) fun x77 =>
    bO (gr h27 12 x1 1) fun x78 =>
    bO (asi h27 x78 (((284 : Int32) + ((3 : Int32) * x55)) + (0 : Int32)) x64) fun h28 =>
    bO (gr h28 12 x1 1) fun x79 =>
    bO (gr h28 12 x1 64) fun x80 =>
    bO (ali h28 1 x80 x45) fun x81 =>
    bO (asi h28 x79 (((284 : Int32) + ((3 : Int32) * x55)) + (2 : Int32)) x81) fun h29 =>
    aL2 (m_X12_call_L441 x1 x45 k488 x64 x74 x77) FU x42 (0 : Int32) h29
  else
  k494 x42 x43 h23
def m_X12_call_L226 (x1 : Nat) (x8 : Int32) (k249 : aH → Option (Int32 × aH)) (r226 : Int32 → aH → Option (Int32 × aH)) (x91 : Int32) (h33 : aH) : Option (Int32 × aH) :=
  if x91 < (19 : Int32) then
    bO (gr h33 12 x1 1) fun x92 =>
    bO (asi h33 x92 (x8 + x91) (0 : Int32)) fun h34 =>
    aLet (x91 + (1 : Int32)) fun x93 =>
    r226 x93 h34
  else
  k249 h33
def m_X12_call_L52 (x1 : Nat) (x2 : Int32) (k154 : aH → Option (Int32 × aH)) (r52 : Int32 → aH → Option (Int32 × aH)) (x94 : Int32) (h35 : aH) : Option (Int32 × aH) :=
  bO (gr h35 12 x1 24) fun x95 =>
  bO (ali h35 1 x95 x2) fun x96 =>
  if x94 < x96 then
    bO (gr h35 12 x1 25) fun x97 =>
    bO (ali h35 1 x97 (((6 : Int32) * x2) + x94)) fun x98 =>
    gS h35 12 x1 <|
    bR (m_X12_hands x1 x98 h35) fun x99 h36 =>
    aJ (fun (h37 : aH) =>
    aLet (x94 + (1 : Int32)) fun x100 =>
    r52 x100 h37) fun k148 =>
    if x99 ≤ 0 then
      k148 h36
    else
    bO (gi h36 12 x1 63) fun x101 =>
    gS h36 12 x1 <|
    bR (m_X12_holder x1 x98 h36) fun x102 h38 =>
    if ((x101 >>> (x102 &&& 31)) &&& (1 : Int32)) = 0 then
      gS h38 12 x1 <|
      bR (m_X12_hands x1 x98 h38) fun x103 h39 =>
      gS h39 12 x1 <|
      bR (m_X12_link x1 x98 (x103 - (1 : Int32)) h39) fun x104 h40 =>
      gS h40 12 x1 <|
      bR (m_X12_holder x1 x98 h40) fun x105 h41 =>
      aLet (((50 : Int32) + ((12 : Int32) * x104)) + x105) fun x106 =>
      bO (gr h41 12 x1 1) fun x107 =>
      bO (ali h41 1 x107 x106) fun x108 =>
      bO (gr h41 12 x1 1) fun x109 =>
      bO (ali h41 1 x109 x106) fun x110 =>
      aJ (fun (x111 : Int32) (h42 : aH) =>
      bO (asi h42 x107 x106 (x108 - x111)) fun h43 =>
      k148 h43) fun k146 =>
      if x110 ≤ 0 then
        k146 (0 : Int32) h41
      else
      k146 (1 : Int32) h41
    else
    k148 h38
  else
  k154 h35
def m_X12_call (x1 : Nat) (x2 : Int32) (h0 : aH) : Option (Int32 × aH) :=
  gS h0 12 x1 <|
  bR (m_X12_isKind x1 x2 h0) fun x3 h1 =>
  aJ (fun (x4 : Int32) (h2 : aH) =>
  bO (pi h2 12 x1 0 x4) fun h3 =>
  bO (gi h3 12 x1 0) fun x5 =>
  if x5 ≤ 0 then
    gS h3 12 x1 <|
    bR (m_X12_keeps x1 h3) fun _ h4 =>
    gS h4 12 x1 <|
    bR (m_X12_plans x1 x2 h4) fun _ h5 =>
    aJ (fun (h6 : aH) =>
    bO (gr h6 12 x1 1) fun x6 =>
    bO (ali h6 1 x6 (1 : Int32)) fun x7 =>
    aLet ((299 : Int32) + ((19 : Int32) * x7)) fun x8 =>
    bO (gr h6 12 x1 1) fun x9 =>
    bO (gi h6 12 x1 68) fun x10 =>
    bO (gr h6 12 x1 23) fun x11 =>
    bO (ali h6 1 x11 x2) fun x12 =>
    aJ (fun (x13 : Int32) (h7 : aH) =>
    bO (asi h7 x9 (x8 + (1 : Int32)) x13) fun h8 =>
    bO (gr h8 12 x1 1) fun x14 =>
    bO (gi h8 12 x1 63) fun x15 =>
    bR (m_X12_many x15 h8) fun x16 h9 =>
    bO (asi h9 x14 (x8 + (2 : Int32)) x16) fun h10 =>
    bO (gr h10 12 x1 1) fun x17 =>
    bO (gi h10 12 x1 68) fun x18 =>
    bO (asi h10 x17 (x8 + (3 : Int32)) x18) fun h11 =>
    aJ (fun (h12 : aH) =>
    bO (gi h12 12 x1 68) fun x19 =>
    aLet ((50 : Int32) * x19) fun x20 =>
    aLet (x8 + (4 : Int32)) fun x21 =>
    aJ (fun (x22 : Int32) (x23 : Int32) (h13 : aH) =>
    aJ (fun (x24 : Int32) (h14 : aH) =>
    bO (gr h14 12 x1 1) fun x25 =>
    bO (asi h14 x25 (x8 + (0 : Int32)) x24) fun h15 =>
    bO (gr h15 12 x1 1) fun x26 =>
    bO (ali h15 1 x26 (1 : Int32)) fun x27 =>
    bO (asi h15 x26 (1 : Int32) (x27 + (1 : Int32))) fun h16 =>
    some (x7, h16)) fun k582 =>
    aL2 (m_X12_call_L497 x1 x23 k582) FU x22 (0 : Int32) h13) fun k494 =>
    aL4 (m_X12_call_L269 x1 x2 k494) FU x20 (0 : Int32) x21 (0 : Int32) h12) fun k249 =>
    aL1 (m_X12_call_L226 x1 x8 k249) FU (4 : Int32) h11) fun k195 =>
    if x10 < x12 then
      k195 (0 : Int32) h6
    else
    k195 (1 : Int32) h6) fun k154 =>
    aL1 (m_X12_call_L52 x1 x2 k154) FU (0 : Int32) h5
  else
  some ((0 : Int32), h3)) fun k29 =>
  if x3 = 0 then
    k29 (1 : Int32) h1
  else
  bO (gr h1 12 x1 1) fun x112 =>
  bO (ali h1 1 x112 (1 : Int32)) fun x113 =>
  if x113 = (16 : Int32) then
    k29 (2 : Int32) h1
  else
  k29 (0 : Int32) h1
def m_X12_handOn (x1 : Nat) (x2 : Int32) (x3 : Int32) (x4 : Int32) (h0 : aH) : Option (Int32 × aH) :=
  gS h0 12 x1 <|
  bR (m_X12_isPager x1 x2 h0) fun x5 h1 =>
  aJ (fun (x6 : Int32) (h2 : aH) =>
  bO (pi h2 12 x1 0 x6) fun h3 =>
  bO (gi h3 12 x1 0) fun x7 =>
  if x7 ≤ 0 then
    gS h3 12 x1 <|
    bR (m_X12_keeps x1 h3) fun _ h4 =>
    gS h4 12 x1 <|
    bR (m_X12_hands_ x1 x2 x3 x4 h4) fun _ h5 =>
    gS h5 12 x1 <|
    bR (m_X12_hands x1 x2 h5) fun x8 h6 =>
    some (x8, h6)
  else
  some ((0 : Int32), h3)) fun k36 =>
  aJ (fun (h7 : aH) =>
  k36 (1 : Int32) h7) fun k17 =>
  if x5 = 0 then
    k17 h1
  else
  gS h1 12 x1 <|
  bR (m_X12_isPerson x1 x3 h1) fun x9 h8 =>
  if x9 = 0 then
    k17 h8
  else
  gS h8 12 x1 <|
  bR (m_X12_against x1 x2 x3 x4 h8) fun x10 h9 =>
  if x10 = 0 then
    k36 (0 : Int32) h9
  else
  k36 (2 : Int32) h9
def m_X12_giveBack (x1 : Nat) (x2 : Int32) (h0 : aH) : Option (Int32 × aH) :=
  gS h0 12 x1 <|
  bR (m_X12_isPager x1 x2 h0) fun x3 h1 =>
  aJ (fun (x4 : Int32) (h2 : aH) =>
  bO (pi h2 12 x1 0 x4) fun h3 =>
  bO (gi h3 12 x1 0) fun x5 =>
  if x5 ≤ 0 then
    gS h3 12 x1 <|
    bR (m_X12_keeps x1 h3) fun _ h4 =>
    bO (gr h4 12 x1 1) fun x6 =>
    aLet (((194 : Int32) + ((15 : Int32) * x2)) + (8 : Int32)) fun x7 =>
    bO (ali h4 1 x6 x7) fun x8 =>
    bO (asi h4 x6 x7 (x8 - (1 : Int32))) fun h5 =>
    gS h5 12 x1 <|
    bR (m_X12_holder x1 x2 h5) fun x9 h6 =>
    some (x9, h6)
  else
  some ((0 : Int32), h3)) fun k26 =>
  if x3 = 0 then
    k26 (1 : Int32) h1
  else
  gS h1 12 x1 <|
  bR (m_X12_hands x1 x2 h1) fun x10 h7 =>
  if x10 = 0 then
    k26 (2 : Int32) h7
  else
  k26 (0 : Int32) h7
def m_X12_pass_L56 (x1 : Nat) (x2 : Int32) (k74 : Int32 → aH → Option (Int32 × aH)) (r56 : Int32 → Int32 → aH → Option (Int32 × aH)) (x7 : Int32) (x8 : Int32) (h6 : aH) : Option (Int32 × aH) :=
  if x8 < x2 then
    gS h6 12 x1 <|
    bR (m_X12_minute x1 h6) fun x9 h7 =>
    aLet (x7 + x9) fun x10 =>
    aLet (x8 + (1 : Int32)) fun x11 =>
    r56 x10 x11 h7
  else
  k74 x7 h6
def m_X12_pass (x1 : Nat) (x2 : Int32) (h0 : aH) : Option (Int32 × aH) :=
  bR (m_X12_in (x2.toInt64) (1 : Int64) (1440 : Int64) h0) fun x3 h1 =>
  aJ (fun (x4 : Int32) (h2 : aH) =>
  bO (pi h2 12 x1 0 x4) fun h3 =>
  bO (gi h3 12 x1 0) fun x5 =>
  if x5 ≤ 0 then
    gS h3 12 x1 <|
    bR (m_X12_keeps x1 h3) fun _ h4 =>
    aJ (fun (x6 : Int32) (h5 : aH) =>
    some (x6, h5)) fun k74 =>
    aL2 (m_X12_pass_L56 x1 x2 k74) FU (0 : Int32) (0 : Int32) h4
  else
  some ((0 : Int32), h3)) fun k36 =>
  if x3 = 0 then
    k36 (1 : Int32) h1
  else
  bO (gr h1 12 x1 1) fun x12 =>
  bO (ali h1 1 x12 (0 : Int32)) fun x13 =>
  if (x13 + x2) ≤ (20160 : Int32) then
    k36 (0 : Int32) h1
  else
  k36 (2 : Int32) h1
def m_X12_swapPlaces (x1 : Nat) (x2 : Int32) (x3 : Int32) (x4 : Int32) (h0 : aH) : Option (Int32 × aH) :=
  gS h0 12 x1 <|
  bR (m_X12_isPager x1 x2 h0) fun x5 h1 =>
  aJ (fun (x6 : Int32) (h2 : aH) =>
  aJ (fun (x7 : Int32) (h3 : aH) =>
  bO (pi h3 12 x1 0 x7) fun h4 =>
  bO (gi h4 12 x1 0) fun x8 =>
  if x8 ≤ 0 then
    bO (gr h4 12 x1 1) fun x9 =>
    bO (ali h4 1 x9 (0 : Int32)) fun x10 =>
    gS h4 12 x1 <|
    bR (m_X12_turnAt x1 x2 x10 h4) fun x11 h5 =>
    bO (gr h5 12 x1 17) fun x12 =>
    bO (ali h5 1 x12 x2) fun x13 =>
    bO (rmI x11 x13) fun x14 =>
    aJ (fun (x15 : Int32) (h6 : aH) =>
    bO (pi h6 12 x1 0 x15) fun h7 =>
    bO (gi h7 12 x1 0) fun x16 =>
    if x16 ≤ 0 then
      gS h7 12 x1 <|
      bR (m_X12_keeps x1 h7) fun _ h8 =>
      aLet ((194 : Int32) + ((15 : Int32) * x2)) fun x17 =>
      bO (gr h8 12 x1 1) fun x18 =>
      bO (ali h8 1 x18 (x17 + x3)) fun x19 =>
      bO (gr h8 12 x1 1) fun x20 =>
      bO (gr h8 12 x1 1) fun x21 =>
      bO (ali h8 1 x21 (x17 + x4)) fun x22 =>
      bO (asi h8 x20 (x17 + x3) x22) fun h9 =>
      bO (gr h9 12 x1 1) fun x23 =>
      bO (asi h9 x23 (x17 + x4) x19) fun h10 =>
      bO (gr h10 12 x1 1) fun x24 =>
      bO (ali h10 1 x24 (x17 + x3)) fun x25 =>
      some (x25, h10)
    else
    some ((0 : Int32), h7)) fun k121 =>
    aJ (fun (h11 : aH) =>
    k121 (3 : Int32) h11) fun k116 =>
    if x3 = x14 then
      k116 h5
    else
    if x4 = x14 then
      k116 h5
    else
    k121 (0 : Int32) h5
  else
  some ((0 : Int32), h4)) fun k71 =>
  if x6 = 0 then
    k71 (1 : Int32) h2
  else
  if x3 = x4 then
    k71 (2 : Int32) h2
  else
  k71 (0 : Int32) h2) fun k49 =>
  aJ (fun (h12 : aH) =>
  k49 (0 : Int32) h12) fun k48 =>
  if x5 = 0 then
    k48 h1
  else
  bO (gr h1 12 x1 17) fun x26 =>
  bO (ali h1 1 x26 x2) fun x27 =>
  bR (m_X12_in (x3.toInt64) (0 : Int64) ((x27 - (1 : Int32)).toInt64) h1) fun x28 h13 =>
  if x28 = 0 then
    k48 h13
  else
  bO (gr h13 12 x1 17) fun x29 =>
  bO (ali h13 1 x29 x2) fun x30 =>
  bR (m_X12_in (x4.toInt64) (0 : Int64) ((x30 - (1 : Int32)).toInt64) h13) fun x31 h14 =>
  if x31 = 0 then
    k48 h14
  else
  k49 (1 : Int32) h14
def m_X12_excuse_L53 (x1 : Nat) (k81 : Int32 → aH → Option (Int32 × aH)) (r53 : Int32 → Int32 → aH → Option (Int32 × aH)) (x10 : Int32) (x11 : Int32) (h8 : aH) : Option (Int32 × aH) :=
  bO (gi h8 12 x1 8) fun x12 =>
  if x11 < x12 then
    bO (gr h8 12 x1 1) fun x13 =>
    bO (ali h8 1 x13 ((26 : Int32) + x11)) fun x14 =>
    aLet (x10 + x14) fun x15 =>
    aLet (x11 + (1 : Int32)) fun x16 =>
    r53 x15 x16 h8
  else
  k81 x10 h8
def m_X12_excuse (x1 : Nat) (x2 : Int32) (x3 : Int32) (h0 : aH) : Option (Int32 × aH) :=
  gS h0 12 x1 <|
  bR (m_X12_isPerson x1 x2 h0) fun x4 h1 =>
  aJ (fun (x5 : Int32) (h2 : aH) =>
  bO (pi h2 12 x1 0 x5) fun h3 =>
  bO (gi h3 12 x1 0) fun x6 =>
  if x6 ≤ 0 then
    gS h3 12 x1 <|
    bR (m_X12_keeps x1 h3) fun _ h4 =>
    bO (gr h4 12 x1 1) fun x7 =>
    aJ (fun (x8 : Int32) (h5 : aH) =>
    bO (asi h5 x7 ((26 : Int32) + x2) x8) fun h6 =>
    aJ (fun (x9 : Int32) (h7 : aH) =>
    some (x9, h7)) fun k81 =>
    aL2 (m_X12_excuse_L53 x1 k81) FU (0 : Int32) (0 : Int32) h6) fun k47 =>
    if x3 = 0 then
      k47 (0 : Int32) h4
    else
    k47 (1 : Int32) h4
  else
  some ((0 : Int32), h3)) fun k14 =>
  if x4 = 0 then
    k14 (1 : Int32) h1
  else
  k14 (0 : Int32) h1
def m_X12_setService_L78 (x1 : Nat) (k110 : Int32 → aH → Option (Int32 × aH)) (r78 : Int32 → Int32 → aH → Option (Int32 × aH)) (x11 : Int32) (x12 : Int32) (h8 : aH) : Option (Int32 × aH) :=
  bO (gi h8 12 x1 10) fun x13 =>
  if x12 < x13 then
    gS h8 12 x1 <|
    bR (m_X12_isRested x1 x12 h8) fun x14 h9 =>
    aJ (fun (x15 : Int32) (h10 : aH) =>
    aLet (x11 + x15) fun x16 =>
    aLet (x12 + (1 : Int32)) fun x17 =>
    r78 x16 x17 h10) fun k102 =>
    if x14 = 0 then
      k102 (1 : Int32) h9
    else
    k102 (0 : Int32) h9
  else
  k110 x11 h8
def m_X12_setService (x1 : Nat) (x2 : Int32) (x3 : Int32) (h0 : aH) : Option (Int32 × aH) :=
  bO (gi h0 12 x1 10) fun x4 =>
  bR (m_X12_in (x2.toInt64) (0 : Int64) ((x4 - (1 : Int32)).toInt64) h0) fun x5 h1 =>
  aJ (fun (x6 : Int32) (h2 : aH) =>
  bO (pi h2 12 x1 0 x6) fun h3 =>
  bO (gi h3 12 x1 0) fun x7 =>
  if x7 ≤ 0 then
    gS h3 12 x1 <|
    bR (m_X12_keeps x1 h3) fun _ h4 =>
    bO (gr h4 12 x1 1) fun x8 =>
    aJ (fun (x9 : Int32) (h5 : aH) =>
    bO (asi h5 x8 (((284 : Int32) + ((3 : Int32) * x2)) + (1 : Int32)) x9) fun h6 =>
    aJ (fun (x10 : Int32) (h7 : aH) =>
    some (x10, h7)) fun k110 =>
    aL2 (m_X12_setService_L78 x1 k110) FU (0 : Int32) (0 : Int32) h6) fun k72 =>
    if x3 = 0 then
      k72 (1 : Int32) h4
    else
    k72 (0 : Int32) h4
  else
  some ((0 : Int32), h3)) fun k34 =>
  if x5 = 0 then
    k34 (1 : Int32) h1
  else
  gS h1 12 x1 <|
  bR (m_X12_isEngineOut x1 x2 h1) fun x18 h11 =>
  if x18 = 0 then
    k34 (0 : Int32) h11
  else
  k34 (2 : Int32) h11
def m_X12_setTrust (x1 : Nat) (x2 : Int32) (x3 : Int32) (x4 : Int32) (h0 : aH) : Option (Int32 × aH) :=
  gS h0 12 x1 <|
  bR (m_X12_isPerson x1 x2 h0) fun x5 h1 =>
  aJ (fun (x6 : Int32) (h2 : aH) =>
  bO (pi h2 12 x1 0 x6) fun h3 =>
  bO (gi h3 12 x1 0) fun x7 =>
  if x7 ≤ 0 then
    gS h3 12 x1 <|
    bR (m_X12_keeps x1 h3) fun _ h4 =>
    bO (gr h4 12 x1 1) fun x8 =>
    bO (ali h4 1 x8 (((50 : Int32) + ((12 : Int32) * x2)) + x3)) fun x9 =>
    bO (gr h4 12 x1 1) fun x10 =>
    bO (asi h4 x10 (((50 : Int32) + ((12 : Int32) * x2)) + x3) x4) fun h5 =>
    some (x9, h5)
  else
  some ((0 : Int32), h3)) fun k43 =>
  aJ (fun (h6 : aH) =>
  k43 (1 : Int32) h6) fun k17 =>
  if x5 = 0 then
    k17 h1
  else
  gS h1 12 x1 <|
  bR (m_X12_isPerson x1 x3 h1) fun x11 h7 =>
  if x11 = 0 then
    k17 h7
  else
  aJ (fun (h8 : aH) =>
  k43 (2 : Int32) h8) fun k38 =>
  if x2 = x3 then
    k38 h7
  else
  bR (m_X12_in (x4.toInt64) (0 : Int64) (9 : Int64) h7) fun x12 h9 =>
  if x12 = 0 then
    k38 h9
  else
  k43 (0 : Int32) h9
def m_X12_undo_L37 (x1 : Nat) (k71 : aH → Option (Int32 × aH)) (r37 : Int32 → aH → Option (Int32 × aH)) (x7 : Int32) (h5 : aH) : Option (Int32 × aH) :=
  if x7 < (603 : Int32) then
    bO (gr h5 12 x1 1) fun x8 =>
    bO (gr h5 12 x1 2) fun x9 =>
    bO (gi h5 12 x1 6) fun x10 =>
    bO (ali h5 1 x9 (((603 : Int32) * x10) + x7)) fun x11 =>
    bO (asi h5 x8 x7 x11) fun h6 =>
    aLet (x7 + (1 : Int32)) fun x12 =>
    r37 x12 h6
  else
  k71 h5
def m_X12_undo (x1 : Nat) (h0 : aH) : Option (Int32 × aH) :=
  bO (gi h0 12 x1 6) fun x2 =>
  aJ (fun (x3 : Int32) (h1 : aH) =>
  bO (pi h1 12 x1 0 x3) fun h2 =>
  bO (gi h2 12 x1 0) fun x4 =>
  if x4 ≤ 0 then
    bO (gi h2 12 x1 6) fun x5 =>
    bO (pi h2 12 x1 6 (x5 - (1 : Int32))) fun h3 =>
    aJ (fun (h4 : aH) =>
    bO (gi h4 12 x1 6) fun x6 =>
    some (x6, h4)) fun k71 =>
    aL1 (m_X12_undo_L37 x1 k71) FU (0 : Int32) h3
  else
  some ((0 : Int32), h2)) fun k13 =>
  if x2 ≤ 0 then
    k13 (1 : Int32) h0
  else
  k13 (0 : Int32) h0
def m_X12_save_L21 (x1 : Nat) (x2 : Int32) (k66 : aH → Option (Unit × aH)) (r21 : Int32 → aH → Option (Unit × aH)) (x5 : Int32) (h5 : aH) : Option (Unit × aH) :=
  if x5 < (603 : Int32) then
    bO (gi h5 12 x1 0) fun x6 =>
    if x6 = 0 then
      bO (gr h5 12 x1 3) fun x7 =>
      bO (gr h5 12 x1 1) fun x8 =>
      bO (ali h5 1 x8 x5) fun x9 =>
      bO (asi h5 x7 (((603 : Int32) * x2) + x5) x9) fun h6 =>
      bO (gr h6 12 x1 5) fun x10 =>
      bO (asz h6 x10 x2 (1 : Int32)) fun h7 =>
      aLet (x5 + (1 : Int32)) fun x11 =>
      r21 x11 h7
    else
    k66 h5
  else
  k66 h5
def m_X12_save (x1 : Nat) (x2 : Int32) (h0 : aH) : Option (Unit × aH) :=
  bR (m_X12_in (x2.toInt64) (0 : Int64) (1 : Int64) h0) fun x3 h1 =>
  aJ (fun (x4 : Int32) (h2 : aH) =>
  bO (pi h2 12 x1 0 x4) fun h3 =>
  aJ (fun (h4 : aH) =>
  some ((), h4)) fun k66 =>
  aL1 (m_X12_save_L21 x1 x2 k66) FU (0 : Int32) h3) fun k16 =>
  if x3 = 0 then
    k16 (1 : Int32) h1
  else
  k16 (0 : Int32) h1
def m_X12_restore_L34 (x1 : Nat) (x2 : Int32) (k77 : aH → Option (Unit × aH)) (r34 : Int32 → aH → Option (Unit × aH)) (x5 : Int32) (h5 : aH) : Option (Unit × aH) :=
  if x5 < (603 : Int32) then
    bO (gi h5 12 x1 0) fun x6 =>
    if x6 = 0 then
      bO (gr h5 12 x1 1) fun x7 =>
      bO (gr h5 12 x1 3) fun x8 =>
      bO (ali h5 1 x8 (((603 : Int32) * x2) + x5)) fun x9 =>
      bO (asi h5 x7 x5 x9) fun h6 =>
      bO (pi h6 12 x1 6 (0 : Int32)) fun h7 =>
      aLet (x5 + (1 : Int32)) fun x10 =>
      r34 x10 h7
    else
    k77 h5
  else
  k77 h5
def m_X12_restore (x1 : Nat) (x2 : Int32) (h0 : aH) : Option (Unit × aH) :=
  bR (m_X12_in (x2.toInt64) (0 : Int64) (1 : Int64) h0) fun x3 h1 =>
  aJ (fun (x4 : Int32) (h2 : aH) =>
  bO (pi h2 12 x1 0 x4) fun h3 =>
  aJ (fun (h4 : aH) =>
  some ((), h4)) fun k77 =>
  aL1 (m_X12_restore_L34 x1 x2 k77) FU (0 : Int32) h3) fun k29 =>
  if x3 = 0 then
    k29 (1 : Int32) h1
  else
  bO (gr h1 12 x1 5) fun x11 =>
  bO (ali h1 3 x11 x2) fun x12 =>
  if x12 = 0 then
    k29 (2 : Int32) h1
  else
  k29 (0 : Int32) h1
def m_L_append (x1 : Nat) (x2 : Int32) (x3 : Int32) (x4 : Int32) (x5 : Int32) (x6 : Int32) (x7 : Nat) (h0 : aH) : Option (Int32 × aH) :=
  gS h0 11 x1 <|
  bC (m_X11_append x1 x2 x3 x4 x5 x6 h0) (fun x8 h1 =>
    bO (asL h1 x7 (0 : Int32) (x8.toInt64)) fun h3 =>
    some ((0 : Int32), h3)) fun X11 h2 =>
  if X11 = "java/lang/IllegalStateException" then
    some ((1 : Int32), h2)
  else
  none
def m_L_truncate (x1 : Nat) (x2 : Int32) (x3 : Nat) (h0 : aH) : Option (Int32 × aH) :=
  gS h0 11 x1 <|
  bC (m_X11_truncate x1 x2 h0) (fun x4 h1 =>
    bO (asL h1 x3 (0 : Int32) (x4.toInt64)) fun h3 =>
    some ((0 : Int32), h3)) fun X4 h2 =>
  if X4 = "java/lang/IndexOutOfBoundsException" then
    some ((1 : Int32), h2)
  else
  none
def m_L_load (x1 : Nat) (x2 : Nat) (h0 : aH) : Option (Int32 × aH) :=
  gS h0 11 x1 <|
  bC (m_X11_load x1 h0) (fun x3 h1 =>
    bO (asL h1 x2 (0 : Int32) (x3.toInt64)) fun h3 =>
    some ((0 : Int32), h3)) fun X3 h2 =>
  if X3 = "java/lang/IllegalArgumentException" then
    some ((1 : Int32), h2)
  else
  none
def m_L_find (x1 : Nat) (x2 : Int32) (x3 : Nat) (h0 : aH) : Option (Int32 × aH) :=
  gS h0 11 x1 <|
  bC (m_X11_find x1 x2 h0) (fun x4 h1 =>
    bO (asL h1 x3 (0 : Int32) (x4.toInt64)) fun h3 =>
    some ((0 : Int32), h3)) fun X4 h2 =>
  if X4 = "java/lang/IllegalArgumentException" then
    some ((1 : Int32), h2)
  else
  if X4 = "java/util/NoSuchElementException" then
    some ((2 : Int32), h2)
  else
  none
def m_L_count (x1 : Nat) (x2 : Int32) (x3 : Nat) (h0 : aH) : Option (Int32 × aH) :=
  gS h0 11 x1 <|
  bC (m_X11_count x1 x2 h0) (fun x4 h1 =>
    bO (asL h1 x3 (0 : Int32) (x4.toInt64)) fun h3 =>
    some ((0 : Int32), h3)) fun X4 h2 =>
  if X4 = "java/lang/IllegalArgumentException" then
    some ((1 : Int32), h2)
  else
  none
def m_L_nightMinutes (x1 : Nat) (x2 : Int32) (x3 : Int32) (x4 : Nat) (h0 : aH) : Option (Int32 × aH) :=
  gS h0 11 x1 <|
  bC (m_X11_nightMinutes x1 x2 x3 h0) (fun x5 h1 =>
    bO (asL h1 x4 (0 : Int32) (x5.toInt64)) fun h3 =>
    some ((0 : Int32), h3)) fun X5 h2 =>
  if X5 = "java/lang/IllegalArgumentException" then
    some ((1 : Int32), h2)
  else
  none
def m_L_outUntil (x1 : Nat) (x2 : Int32) (x3 : Nat) (h0 : aH) : Option (Int32 × aH) :=
  gS h0 11 x1 <|
  bC (m_X11_outUntil x1 x2 h0) (fun x4 h1 =>
    bO (asL h1 x3 (0 : Int32) (x4.toInt64)) fun h3 =>
    some ((0 : Int32), h3)) fun X4 h2 =>
  if X4 = "java/lang/IndexOutOfBoundsException" then
    some ((1 : Int32), h2)
  else
  none
def m_L_lostSleep (x1 : Nat) (x2 : Int32) (x3 : Nat) (h0 : aH) : Option (Int32 × aH) :=
  gS h0 11 x1 <|
  bC (m_X11_lostSleep x1 x2 h0) (fun x4 h1 =>
    bO (asL h1 x3 (0 : Int32) (x4.toInt64)) fun h3 =>
    some ((0 : Int32), h3)) fun X4 h2 =>
  if X4 = "java/lang/IndexOutOfBoundsException" then
    some ((1 : Int32), h2)
  else
  none
def m_L_lostSleepAfter (x1 : Nat) (x2 : Int32) (x3 : Int32) (x4 : Nat) (h0 : aH) : Option (Int32 × aH) :=
  gS h0 11 x1 <|
  bC (m_X11_lostSleepAfter x1 x2 x3 h0) (fun x5 h1 =>
    bO (asL h1 x4 (0 : Int32) (x5.toInt64)) fun h3 =>
    some ((0 : Int32), h3)) fun X5 h2 =>
  if X5 = "java/lang/IndexOutOfBoundsException" then
    some ((1 : Int32), h2)
  else
  if X5 = "java/lang/IllegalArgumentException" then
    some ((2 : Int32), h2)
  else
  none
def m_L_restedAt (x1 : Nat) (x2 : Int32) (x3 : Nat) (h0 : aH) : Option (Int32 × aH) :=
  gS h0 11 x1 <|
  bC (m_X11_restedAt x1 x2 h0) (fun x4 h1 =>
    bO (asL h1 x3 (0 : Int32) (x4.toInt64)) fun h3 =>
    some ((0 : Int32), h3)) fun X4 h2 =>
  if X4 = "java/lang/IndexOutOfBoundsException" then
    some ((1 : Int32), h2)
  else
  if X4 = "java/util/NoSuchElementException" then
    some ((2 : Int32), h2)
  else
  none
def m_L_arrival (x1 : Nat) (x2 : Int32) (x3 : Nat) (h0 : aH) : Option (Int32 × aH) :=
  gS h0 11 x1 <|
  bC (m_X11_arrival x1 x2 h0) (fun x4 h1 =>
    bO (asL h1 x3 (0 : Int32) (x4.toInt64)) fun h3 =>
    some ((0 : Int32), h3)) fun X4 h2 =>
  if X4 = "java/lang/IndexOutOfBoundsException" then
    some ((1 : Int32), h2)
  else
  none
def m_L_pay (x1 : Nat) (x2 : Int32) (x3 : Nat) (h0 : aH) : Option (Int32 × aH) :=
  gS h0 11 x1 <|
  bC (m_X11_pay x1 x2 h0) (fun x4 h1 =>
    bO (asL h1 x3 (0 : Int32) (x4.toInt64)) fun h3 =>
    some ((0 : Int32), h3)) fun X4 h2 =>
  if X4 = "java/lang/IndexOutOfBoundsException" then
    some ((1 : Int32), h2)
  else
  none
def m_L_trust (x1 : Nat) (x2 : Int32) (x3 : Int32) (x4 : Nat) (h0 : aH) : Option (Int32 × aH) :=
  gS h0 11 x1 <|
  bC (m_X11_trust x1 x2 x3 h0) (fun x5 h1 =>
    bO (asL h1 x4 (0 : Int32) (x5.toInt64)) fun h3 =>
    some ((0 : Int32), h3)) fun X5 h2 =>
  if X5 = "java/lang/IndexOutOfBoundsException" then
    some ((1 : Int32), h2)
  else
  if X5 = "java/lang/IllegalArgumentException" then
    some ((2 : Int32), h2)
  else
  none
def m_L_trustPath (x1 : Nat) (x2 : Int32) (x3 : Int32) (x4 : Nat) (h0 : aH) : Option (Int32 × aH) :=
  gS h0 11 x1 <|
  bC (m_X11_trustPath x1 x2 x3 h0) (fun x5 h1 =>
    bO (asL h1 x4 (0 : Int32) (x5.toInt64)) fun h3 =>
    some ((0 : Int32), h3)) fun X5 h2 =>
  if X5 = "java/lang/IndexOutOfBoundsException" then
    some ((1 : Int32), h2)
  else
  if X5 = "java/lang/IllegalArgumentException" then
    some ((2 : Int32), h2)
  else
  none
def m_L_chain (x1 : Nat) (x2 : Int32) (x3 : Int32) (x4 : Nat) (h0 : aH) : Option (Int32 × aH) :=
  gS h0 11 x1 <|
  bC (m_X11_chain x1 x2 x3 h0) (fun x5 h1 =>
    bO (asL h1 x4 (0 : Int32) (x5.toInt64)) fun h3 =>
    some ((0 : Int32), h3)) fun X5 h2 =>
  if X5 = "java/lang/IndexOutOfBoundsException" then
    some ((1 : Int32), h2)
  else
  none
def m_L_handOns (x1 : Nat) (x2 : Int32) (x3 : Nat) (h0 : aH) : Option (Int32 × aH) :=
  gS h0 11 x1 <|
  bC (m_X11_handOns x1 x2 h0) (fun x4 h1 =>
    bO (asL h1 x3 (0 : Int32) (x4.toInt64)) fun h3 =>
    some ((0 : Int32), h3)) fun X4 h2 =>
  if X4 = "java/lang/IndexOutOfBoundsException" then
    some ((1 : Int32), h2)
  else
  none
def m_L_holdingEnd (x1 : Nat) (x2 : Int32) (x3 : Nat) (h0 : aH) : Option (Int32 × aH) :=
  gS h0 11 x1 <|
  bC (m_X11_holdingEnd x1 x2 h0) (fun x4 h1 =>
    bO (asL h1 x3 (0 : Int32) (x4.toInt64)) fun h3 =>
    some ((0 : Int32), h3)) fun X4 h2 =>
  if X4 = "java/lang/IndexOutOfBoundsException" then
    some ((1 : Int32), h2)
  else
  none
def m_L_rotation (x1 : Nat) (x2 : Int32) (x3 : Int32) (x4 : Nat) (h0 : aH) : Option (Int32 × aH) :=
  gS h0 11 x1 <|
  bC (m_X11_rotation x1 x2 x3 h0) (fun x5 h1 =>
    bO (asL h1 x4 (0 : Int32) (x5.toInt64)) fun h3 =>
    some ((0 : Int32), h3)) fun X5 h2 =>
  if X5 = "java/lang/IndexOutOfBoundsException" then
    some ((1 : Int32), h2)
  else
  none
def m_L_holderAt (x1 : Nat) (x2 : Int32) (x3 : Int32) (x4 : Nat) (h0 : aH) : Option (Int32 × aH) :=
  gS h0 11 x1 <|
  bC (m_X11_holderAt x1 x2 x3 h0) (fun x5 h1 =>
    bO (asL h1 x4 (0 : Int32) (x5.toInt64)) fun h3 =>
    some ((0 : Int32), h3)) fun X5 h2 =>
  if X5 = "java/lang/IndexOutOfBoundsException" then
    some ((1 : Int32), h2)
  else
  if X5 = "java/lang/IllegalArgumentException" then
    some ((2 : Int32), h2)
  else
  none
def m_L_dutyMinutes (x1 : Nat) (x2 : Int32) (x3 : Int32) (x4 : Nat) (h0 : aH) : Option (Int32 × aH) :=
  gS h0 11 x1 <|
  bC (m_X11_dutyMinutes x1 x2 x3 h0) (fun x5 h1 =>
    bO (asL h1 x4 (0 : Int32) (x5.toInt64)) fun h3 =>
    some ((0 : Int32), h3)) fun X5 h2 =>
  if X5 = "java/lang/IndexOutOfBoundsException" then
    some ((1 : Int32), h2)
  else
  if X5 = "java/lang/IllegalArgumentException" then
    some ((2 : Int32), h2)
  else
  none
def m_L_whyNotHandOn (x1 : Nat) (x2 : Int32) (x3 : Int32) (x4 : Int32) (x5 : Nat) (h0 : aH) : Option (Int32 × aH) :=
  gS h0 11 x1 <|
  bC (m_X11_whyNotHandOn x1 x2 x3 x4 h0) (fun x6 h1 =>
    bO (asL h1 x5 (0 : Int32) (x6.toInt64)) fun h3 =>
    some ((0 : Int32), h3)) fun X7 h2 =>
  if X7 = "java/lang/IndexOutOfBoundsException" then
    some ((1 : Int32), h2)
  else
  none
def m_L_steps (x1 : Nat) (x2 : Int32) (x3 : Int32) (x4 : Nat) (h0 : aH) : Option (Int32 × aH) :=
  gS h0 11 x1 <|
  bC (m_X11_steps x1 x2 x3 h0) (fun x5 h1 =>
    bO (asL h1 x4 (0 : Int32) (x5.toInt64)) fun h3 =>
    some ((0 : Int32), h3)) fun X5 h2 =>
  if X5 = "java/lang/IndexOutOfBoundsException" then
    some ((1 : Int32), h2)
  else
  if X5 = "java/util/NoSuchElementException" then
    some ((2 : Int32), h2)
  else
  none
def m_L_returnsAt (x1 : Nat) (x2 : Int32) (x3 : Nat) (h0 : aH) : Option (Int32 × aH) :=
  gS h0 11 x1 <|
  bC (m_X11_returnsAt x1 x2 h0) (fun x4 h1 =>
    bO (asL h1 x3 (0 : Int32) (x4.toInt64)) fun h3 =>
    some ((0 : Int32), h3)) fun X4 h2 =>
  if X4 = "java/lang/IndexOutOfBoundsException" then
    some ((1 : Int32), h2)
  else
  none
def m_L_cost (x1 : Nat) (x2 : Int32) (x3 : Nat) (h0 : aH) : Option (Int32 × aH) :=
  gS h0 11 x1 <|
  bC (m_X11_cost x1 x2 h0) (fun x4 h1 =>
    bO (asL h1 x3 (0 : Int32) (x4.toInt64)) fun h3 =>
    some ((0 : Int32), h3)) fun X4 h2 =>
  if X4 = "java/lang/IndexOutOfBoundsException" then
    some ((1 : Int32), h2)
  else
  none
def m_L_isAnswered (x1 : Nat) (x2 : Int32) (x3 : Nat) (h0 : aH) : Option (Int32 × aH) :=
  gS h0 11 x1 <|
  bC (m_X11_isAnswered x1 x2 h0) (fun x4 h1 =>
    aJ (fun (x6 : Int64) (h3 : aH) =>
    bO (asL h3 x3 (0 : Int32) x6) fun h4 =>
    some ((0 : Int32), h4)) fun k15 =>
    if x4 = 0 then
      k15 (0 : Int64) h1
    else
    k15 (1 : Int64) h1) fun X4 h2 =>
  if X4 = "java/lang/IndexOutOfBoundsException" then
    some ((1 : Int32), h2)
  else
  none
def m_L_came (x1 : Nat) (x2 : Int32) (x3 : Nat) (h0 : aH) : Option (Int32 × aH) :=
  gS h0 11 x1 <|
  bC (m_X11_came x1 x2 h0) (fun x4 h1 =>
    bO (asL h1 x3 (0 : Int32) (x4.toInt64)) fun h3 =>
    some ((0 : Int32), h3)) fun X4 h2 =>
  if X4 = "java/lang/IndexOutOfBoundsException" then
    some ((1 : Int32), h2)
  else
  none
def m_L_left (x1 : Nat) (x2 : Int32) (x3 : Nat) (h0 : aH) : Option (Int32 × aH) :=
  gS h0 11 x1 <|
  bC (m_X11_left x1 x2 h0) (fun x4 h1 =>
    bO (asL h1 x3 (0 : Int32) (x4.toInt64)) fun h3 =>
    some ((0 : Int32), h3)) fun X4 h2 =>
  if X4 = "java/lang/IndexOutOfBoundsException" then
    some ((1 : Int32), h2)
  else
  none
def m_L_engine (x1 : Nat) (x2 : Int32) (x3 : Int32) (x4 : Nat) (h0 : aH) : Option (Int32 × aH) :=
  gS h0 11 x1 <|
  bC (m_X11_engine x1 x2 x3 h0) (fun x5 h1 =>
    bO (asL h1 x4 (0 : Int32) (x5.toInt64)) fun h3 =>
    some ((0 : Int32), h3)) fun X5 h2 =>
  if X5 = "java/lang/IndexOutOfBoundsException" then
    some ((1 : Int32), h2)
  else
  none
def m_L_leftAt (x1 : Nat) (x2 : Int32) (x3 : Int32) (x4 : Nat) (h0 : aH) : Option (Int32 × aH) :=
  gS h0 11 x1 <|
  bC (m_X11_leftAt x1 x2 x3 h0) (fun x5 h1 =>
    bO (asL h1 x4 (0 : Int32) (x5.toInt64)) fun h3 =>
    some ((0 : Int32), h3)) fun X5 h2 =>
  if X5 = "java/lang/IndexOutOfBoundsException" then
    some ((1 : Int32), h2)
  else
  none
def m_L_member (x1 : Nat) (x2 : Int32) (x3 : Int32) (x4 : Int32) (x5 : Nat) (h0 : aH) : Option (Int32 × aH) :=
  gS h0 11 x1 <|
  bC (m_X11_member x1 x2 x3 x4 h0) (fun x6 h1 =>
    bO (asL h1 x5 (0 : Int32) (x6.toInt64)) fun h3 =>
    some ((0 : Int32), h3)) fun X7 h2 =>
  if X7 = "java/lang/IndexOutOfBoundsException" then
    some ((1 : Int32), h2)
  else
  none
def m_L_whyAbsent (x1 : Nat) (x2 : Int32) (x3 : Int32) (x4 : Nat) (h0 : aH) : Option (Int32 × aH) :=
  gS h0 11 x1 <|
  bC (m_X11_whyAbsent x1 x2 x3 h0) (fun x5 h1 =>
    bO (asL h1 x4 (0 : Int32) (x5.toInt64)) fun h3 =>
    some ((0 : Int32), h3)) fun X5 h2 =>
  if X5 = "java/lang/IndexOutOfBoundsException" then
    some ((1 : Int32), h2)
  else
  none
def m_L_whyStays (x1 : Nat) (x2 : Int32) (x3 : Int32) (x4 : Nat) (h0 : aH) : Option (Int32 × aH) :=
  gS h0 11 x1 <|
  bC (m_X11_whyStays x1 x2 x3 h0) (fun x5 h1 =>
    bO (asL h1 x4 (0 : Int32) (x5.toInt64)) fun h3 =>
    some ((0 : Int32), h3)) fun X5 h2 =>
  if X5 = "java/lang/IndexOutOfBoundsException" then
    some ((1 : Int32), h2)
  else
  none
def m_L_departure (x1 : Nat) (x2 : Int32) (x3 : Int32) (x4 : Nat) (h0 : aH) : Option (Int32 × aH) :=
  gS h0 11 x1 <|
  bC (m_X11_departure x1 x2 x3 h0) (fun x5 h1 =>
    bO (asL h1 x4 (0 : Int32) (x5.toInt64)) fun h3 =>
    some ((0 : Int32), h3)) fun X5 h2 =>
  if X5 = "java/lang/IndexOutOfBoundsException" then
    some ((1 : Int32), h2)
  else
  if X5 = "java/lang/IllegalStateException" then
    some ((2 : Int32), h2)
  else
  none
def m_L_mans (x1 : Nat) (x2 : Int32) (x3 : Int32) (x4 : Int32) (x5 : Nat) (h0 : aH) : Option (Int32 × aH) :=
  gS h0 11 x1 <|
  bC (m_X11_mans x1 x2 x3 x4 h0) (fun x6 h1 =>
    bO (asL h1 x5 (0 : Int32) (x6.toInt64)) fun h3 =>
    some ((0 : Int32), h3)) fun X7 h2 =>
  if X7 = "java/lang/IndexOutOfBoundsException" then
    some ((1 : Int32), h2)
  else
  if X7 = "java/lang/IllegalStateException" then
    some ((2 : Int32), h2)
  else
  none
def m_L_manned (x1 : Nat) (x2 : Int32) (x3 : Int32) (x4 : Nat) (h0 : aH) : Option (Int32 × aH) :=
  gS h0 11 x1 <|
  bC (m_X11_manned x1 x2 x3 h0) (fun x5 h1 =>
    bO (asL h1 x4 (0 : Int32) (x5.toInt64)) fun h3 =>
    some ((0 : Int32), h3)) fun X5 h2 =>
  if X5 = "java/lang/IndexOutOfBoundsException" then
    some ((1 : Int32), h2)
  else
  none
def m_L_wouldAnswer (x1 : Nat) (x2 : Int32) (x3 : Nat) (h0 : aH) : Option (Int32 × aH) :=
  gS h0 11 x1 <|
  bC (m_X11_wouldAnswer x1 x2 h0) (fun x4 h1 =>
    aJ (fun (x6 : Int64) (h3 : aH) =>
    bO (asL h3 x3 (0 : Int32) x6) fun h4 =>
    some ((0 : Int32), h4)) fun k15 =>
    if x4 = 0 then
      k15 (0 : Int64) h1
    else
    k15 (1 : Int64) h1) fun X4 h2 =>
  if X4 = "java/lang/IndexOutOfBoundsException" then
    some ((1 : Int32), h2)
  else
  none
def m_L_mostEngines (x1 : Nat) (x2 : Int32) (x3 : Nat) (h0 : aH) : Option (Int32 × aH) :=
  gS h0 11 x1 <|
  bC (m_X11_mostEngines x1 x2 h0) (fun x4 h1 =>
    bO (asL h1 x3 (0 : Int32) (x4.toInt64)) fun h3 =>
    some ((0 : Int32), h3)) fun X4 h2 =>
  if X4 = "java/lang/IndexOutOfBoundsException" then
    some ((1 : Int32), h2)
  else
  none
def m_L_hoursUntilAnswered (x1 : Nat) (x2 : Int32) (x3 : Nat) (h0 : aH) : Option (Int32 × aH) :=
  gS h0 11 x1 <|
  bC (m_X11_hoursUntilAnswered x1 x2 h0) (fun x4 h1 =>
    bO (asL h1 x3 (0 : Int32) (x4.toInt64)) fun h3 =>
    some ((0 : Int32), h3)) fun X4 h2 =>
  if X4 = "java/lang/IndexOutOfBoundsException" then
    some ((1 : Int32), h2)
  else
  if X4 = "java/util/NoSuchElementException" then
    some ((2 : Int32), h2)
  else
  none
def m_L_helpfulPager (x1 : Nat) (x2 : Int32) (x3 : Nat) (h0 : aH) : Option (Int32 × aH) :=
  gS h0 11 x1 <|
  bC (m_X11_helpfulPager x1 x2 h0) (fun x4 h1 =>
    bO (asL h1 x3 (0 : Int32) (x4.toInt64)) fun h3 =>
    some ((0 : Int32), h3)) fun X4 h2 =>
  if X4 = "java/lang/IndexOutOfBoundsException" then
    some ((1 : Int32), h2)
  else
  if X4 = "java/lang/IllegalStateException" then
    some ((2 : Int32), h2)
  else
  if X4 = "java/util/NoSuchElementException" then
    some ((3 : Int32), h2)
  else
  none
def m_L_helpfulPerson (x1 : Nat) (x2 : Int32) (x3 : Nat) (h0 : aH) : Option (Int32 × aH) :=
  gS h0 11 x1 <|
  bC (m_X11_helpfulPerson x1 x2 h0) (fun x4 h1 =>
    bO (asL h1 x3 (0 : Int32) (x4.toInt64)) fun h3 =>
    some ((0 : Int32), h3)) fun X4 h2 =>
  if X4 = "java/lang/IndexOutOfBoundsException" then
    some ((1 : Int32), h2)
  else
  if X4 = "java/lang/IllegalStateException" then
    some ((2 : Int32), h2)
  else
  if X4 = "java/util/NoSuchElementException" then
    some ((3 : Int32), h2)
  else
  none
def m_L_call (x1 : Nat) (x2 : Int32) (x3 : Nat) (h0 : aH) : Option (Int32 × aH) :=
  gS h0 11 x1 <|
  bC (m_X11_call x1 x2 h0) (fun x4 h1 =>
    bO (asL h1 x3 (0 : Int32) (x4.toInt64)) fun h3 =>
    some ((0 : Int32), h3)) fun X4 h2 =>
  if X4 = "java/lang/IndexOutOfBoundsException" then
    some ((1 : Int32), h2)
  else
  if X4 = "java/lang/IllegalStateException" then
    some ((2 : Int32), h2)
  else
  none
def m_L_handOn (x1 : Nat) (x2 : Int32) (x3 : Int32) (x4 : Int32) (x5 : Nat) (h0 : aH) : Option (Int32 × aH) :=
  gS h0 11 x1 <|
  bC (m_X11_handOn x1 x2 x3 x4 h0) (fun x6 h1 =>
    bO (asL h1 x5 (0 : Int32) (x6.toInt64)) fun h3 =>
    some ((0 : Int32), h3)) fun X7 h2 =>
  if X7 = "java/lang/IndexOutOfBoundsException" then
    some ((1 : Int32), h2)
  else
  if X7 = "java/lang/IllegalStateException" then
    some ((2 : Int32), h2)
  else
  none
def m_L_giveBack (x1 : Nat) (x2 : Int32) (x3 : Nat) (h0 : aH) : Option (Int32 × aH) :=
  gS h0 11 x1 <|
  bC (m_X11_giveBack x1 x2 h0) (fun x4 h1 =>
    bO (asL h1 x3 (0 : Int32) (x4.toInt64)) fun h3 =>
    some ((0 : Int32), h3)) fun X4 h2 =>
  if X4 = "java/lang/IndexOutOfBoundsException" then
    some ((1 : Int32), h2)
  else
  if X4 = "java/lang/IllegalStateException" then
    some ((2 : Int32), h2)
  else
  none
def m_L_pass (x1 : Nat) (x2 : Int32) (x3 : Nat) (h0 : aH) : Option (Int32 × aH) :=
  gS h0 11 x1 <|
  bC (m_X11_pass x1 x2 h0) (fun x4 h1 =>
    bO (asL h1 x3 (0 : Int32) (x4.toInt64)) fun h3 =>
    some ((0 : Int32), h3)) fun X4 h2 =>
  if X4 = "java/lang/IllegalArgumentException" then
    some ((1 : Int32), h2)
  else
  if X4 = "java/lang/IllegalStateException" then
    some ((2 : Int32), h2)
  else
  none
def m_L_swapPlaces (x1 : Nat) (x2 : Int32) (x3 : Int32) (x4 : Int32) (x5 : Nat) (h0 : aH) : Option (Int32 × aH) :=
  gS h0 11 x1 <|
  bC (m_X11_swapPlaces x1 x2 x3 x4 h0) (fun x6 h1 =>
    bO (asL h1 x5 (0 : Int32) (x6.toInt64)) fun h3 =>
    some ((0 : Int32), h3)) fun X7 h2 =>
  if X7 = "java/lang/IndexOutOfBoundsException" then
    some ((1 : Int32), h2)
  else
  if X7 = "java/lang/IllegalArgumentException" then
    some ((2 : Int32), h2)
  else
  if X7 = "java/lang/IllegalStateException" then
    some ((3 : Int32), h2)
  else
  none
def m_L_excuse (x1 : Nat) (x2 : Int32) (x3 : Int32) (x4 : Nat) (h0 : aH) : Option (Int32 × aH) :=
  gS h0 11 x1 <|
  bC (m_X11_excuse x1 x2 x3 h0) (fun x5 h1 =>
    bO (asL h1 x4 (0 : Int32) (x5.toInt64)) fun h3 =>
    some ((0 : Int32), h3)) fun X5 h2 =>
  if X5 = "java/lang/IndexOutOfBoundsException" then
    some ((1 : Int32), h2)
  else
  none
def m_L_setService (x1 : Nat) (x2 : Int32) (x3 : Int32) (x4 : Nat) (h0 : aH) : Option (Int32 × aH) :=
  gS h0 11 x1 <|
  bC (m_X11_setService x1 x2 x3 h0) (fun x5 h1 =>
    bO (asL h1 x4 (0 : Int32) (x5.toInt64)) fun h3 =>
    some ((0 : Int32), h3)) fun X5 h2 =>
  if X5 = "java/lang/IndexOutOfBoundsException" then
    some ((1 : Int32), h2)
  else
  if X5 = "java/lang/IllegalStateException" then
    some ((2 : Int32), h2)
  else
  none
def m_L_setTrust (x1 : Nat) (x2 : Int32) (x3 : Int32) (x4 : Int32) (x5 : Nat) (h0 : aH) : Option (Int32 × aH) :=
  gS h0 11 x1 <|
  bC (m_X11_setTrust x1 x2 x3 x4 h0) (fun x6 h1 =>
    bO (asL h1 x5 (0 : Int32) (x6.toInt64)) fun h3 =>
    some ((0 : Int32), h3)) fun X7 h2 =>
  if X7 = "java/lang/IndexOutOfBoundsException" then
    some ((1 : Int32), h2)
  else
  if X7 = "java/lang/IllegalArgumentException" then
    some ((2 : Int32), h2)
  else
  none
def m_L_undo (x1 : Nat) (x2 : Nat) (h0 : aH) : Option (Int32 × aH) :=
  gS h0 11 x1 <|
  bC (m_X11_undo x1 h0) (fun x3 h1 =>
    bO (asL h1 x2 (0 : Int32) (x3.toInt64)) fun h3 =>
    some ((0 : Int32), h3)) fun X3 h2 =>
  if X3 = "java/lang/IllegalStateException" then
    some ((1 : Int32), h2)
  else
  none
def m_L_save (x1 : Nat) (x2 : Int32) (h0 : aH) : Option (Int32 × aH) :=
  gS h0 11 x1 <|
  bC (m_X11_save x1 x2 h0) (fun _ h1 =>
    some ((0 : Int32), h1)) fun X2 h2 =>
  if X2 = "java/lang/IndexOutOfBoundsException" then
    some ((1 : Int32), h2)
  else
  none
def m_L_restore (x1 : Nat) (x2 : Int32) (h0 : aH) : Option (Int32 × aH) :=
  gS h0 11 x1 <|
  bC (m_X11_restore x1 x2 h0) (fun _ h1 =>
    some ((0 : Int32), h1)) fun X2 h2 =>
  if X2 = "java/lang/IndexOutOfBoundsException" then
    some ((1 : Int32), h2)
  else
  if X2 = "java/util/NoSuchElementException" then
    some ((2 : Int32), h2)
  else
  none
def m_L_law_L23 (sc : List Int32) (x1 : Nat) (x2 : Nat) (x3 : Nat) (k3568 : aH → Option (Int32 × aH)) (k375 : aH → Option (Int32 × aH)) (k358 : aH → Option (Int32 × aH)) (k431 : aH → Option (Int32 × aH)) (k414 : aH → Option (Int32 × aH)) (k475 : aH → Option (Int32 × aH)) (k458 : aH → Option (Int32 × aH)) (k491 : aH → Option (Int32 × aH)) (k504 : aH → Option (Int32 × aH)) (k557 : aH → Option (Int32 × aH)) (k540 : aH → Option (Int32 × aH)) (k613 : aH → Option (Int32 × aH)) (k596 : aH → Option (Int32 × aH)) (k629 : aH → Option (Int32 × aH)) (k694 : aH → Option (Int32 × aH)) (k677 : aH → Option (Int32 × aH)) (k750 : aH → Option (Int32 × aH)) (k733 : aH → Option (Int32 × aH)) (k806 : aH → Option (Int32 × aH)) (k789 : aH → Option (Int32 × aH)) (k874 : aH → Option (Int32 × aH)) (k857 : aH → Option (Int32 × aH)) (k930 : aH → Option (Int32 × aH)) (k913 : aH → Option (Int32 × aH)) (k986 : aH → Option (Int32 × aH)) (k969 : aH → Option (Int32 × aH)) (k1042 : aH → Option (Int32 × aH)) (k1025 : aH → Option (Int32 × aH)) (k1110 : aH → Option (Int32 × aH)) (k1093 : aH → Option (Int32 × aH)) (k1178 : aH → Option (Int32 × aH)) (k1161 : aH → Option (Int32 × aH)) (k1246 : aH → Option (Int32 × aH)) (k1229 : aH → Option (Int32 × aH)) (k1302 : aH → Option (Int32 × aH)) (k1285 : aH → Option (Int32 × aH)) (k1358 : aH → Option (Int32 × aH)) (k1341 : aH → Option (Int32 × aH)) (k1426 : aH → Option (Int32 × aH)) (k1409 : aH → Option (Int32 × aH)) (k1494 : aH → Option (Int32 × aH)) (k1477 : aH → Option (Int32 × aH)) (k1562 : aH → Option (Int32 × aH)) (k1545 : aH → Option (Int32 × aH)) (k1642 : aH → Option (Int32 × aH)) (k1625 : aH → Option (Int32 × aH)) (k1710 : aH → Option (Int32 × aH)) (k1693 : aH → Option (Int32 × aH)) (k1766 : aH → Option (Int32 × aH)) (k1749 : aH → Option (Int32 × aH)) (k1822 : aH → Option (Int32 × aH)) (k1805 : aH → Option (Int32 × aH)) (k1885 : aH → Option (Int32 × aH)) (k1861 : aH → Option (Int32 × aH)) (k1941 : aH → Option (Int32 × aH)) (k1924 : aH → Option (Int32 × aH)) (k1997 : aH → Option (Int32 × aH)) (k1980 : aH → Option (Int32 × aH)) (k2065 : aH → Option (Int32 × aH)) (k2048 : aH → Option (Int32 × aH)) (k2133 : aH → Option (Int32 × aH)) (k2116 : aH → Option (Int32 × aH)) (k2213 : aH → Option (Int32 × aH)) (k2196 : aH → Option (Int32 × aH)) (k2229 : aH → Option (Int32 × aH)) (k2294 : aH → Option (Int32 × aH)) (k2277 : aH → Option (Int32 × aH)) (k2362 : aH → Option (Int32 × aH)) (k2345 : aH → Option (Int32 × aH)) (k2430 : aH → Option (Int32 × aH)) (k2413 : aH → Option (Int32 × aH)) (k2510 : aH → Option (Int32 × aH)) (k2493 : aH → Option (Int32 × aH)) (k2578 : aH → Option (Int32 × aH)) (k2561 : aH → Option (Int32 × aH)) (k2641 : aH → Option (Int32 × aH)) (k2617 : aH → Option (Int32 × aH)) (k2697 : aH → Option (Int32 × aH)) (k2680 : aH → Option (Int32 × aH)) (k2753 : aH → Option (Int32 × aH)) (k2736 : aH → Option (Int32 × aH)) (k2809 : aH → Option (Int32 × aH)) (k2792 : aH → Option (Int32 × aH)) (k2865 : aH → Option (Int32 × aH)) (k2848 : aH → Option (Int32 × aH)) (k2921 : aH → Option (Int32 × aH)) (k2904 : aH → Option (Int32 × aH)) (k3001 : aH → Option (Int32 × aH)) (k2984 : aH → Option (Int32 × aH)) (k3057 : aH → Option (Int32 × aH)) (k3040 : aH → Option (Int32 × aH)) (k3113 : aH → Option (Int32 × aH)) (k3096 : aH → Option (Int32 × aH)) (k3193 : aH → Option (Int32 × aH)) (k3176 : aH → Option (Int32 × aH)) (k3277 : aH → Option (Int32 × aH)) (k3260 : aH → Option (Int32 × aH)) (k3361 : aH → Option (Int32 × aH)) (k3344 : aH → Option (Int32 × aH)) (k3441 : aH → Option (Int32 × aH)) (k3424 : aH → Option (Int32 × aH)) (k3485 : aH → Option (Int32 × aH)) (k3468 : aH → Option (Int32 × aH)) (k3521 : aH → Option (Int32 × aH)) (k3557 : aH → Option (Int32 × aH)) (r23 : Int32 → aH → Option (Int32 × aH)) (x4 : Int32) (h111 : aH) : Option (Int32 × aH) :=
  if x4 ≤ ((nI sc.length) - (6 : Int32)) then
    bO (scI sc x4) fun x5 =>
    aLet (x5 &&& (63 : Int32)) fun x6 =>
    aJ (fun (h112 : aH) =>
    aLet (x4 + (6 : Int32)) fun x7 =>
    r23 x7 h112) fun k3562 =>
    swO x6 0
      (bO (scI sc (x4 + (1 : Int32))) fun x8 =>
      bO (scI sc (x4 + (2 : Int32))) fun x9 =>
      bO (scI sc (x4 + (3 : Int32))) fun x10 =>
      bO (scI sc (x4 + (4 : Int32))) fun x11 =>
      bO (scI sc (x4 + (5 : Int32))) fun x12 =>
      bR (m_L_append x1 x8 x9 x10 x11 x12 x3 h111) fun x13 h113 =>
      bO (scI sc (x4 + (1 : Int32))) fun x14 =>
      bO (scI sc (x4 + (2 : Int32))) fun x15 =>
      bO (scI sc (x4 + (3 : Int32))) fun x16 =>
      bO (scI sc (x4 + (4 : Int32))) fun x17 =>
      bO (scI sc (x4 + (5 : Int32))) fun x18 =>
      gS h113 12 x2 <|
      bR (m_X12_append x2 x14 x15 x16 x17 x18 h113) fun x19 h114 =>
      gS h114 12 x2 <|
      bR (m_X12_thrown x2 h114) fun x20 h115 =>
      if x20 = x13 then
        aJ (fun (h116 : aH) =>
        k3562 h116) fun k377 =>
        if x13 = 0 then
          bO (alL h115 x3 (0 : Int32)) fun x21 =>
          if (lg_cmp x21 (x19.toInt64)) = 0 then
            k377 h115
          else
          k375 h115
        else
        k377 h115
      else
      k358 h115) <|
    swO x6 1
      (bO (scI sc (x4 + (1 : Int32))) fun x22 =>
      bR (m_L_truncate x1 x22 x3 h111) fun x23 h117 =>
      bO (scI sc (x4 + (1 : Int32))) fun x24 =>
      gS h117 12 x2 <|
      bR (m_X12_truncate x2 x24 h117) fun x25 h118 =>
      gS h118 12 x2 <|
      bR (m_X12_thrown x2 h118) fun x26 h119 =>
      if x26 = x23 then
        aJ (fun (h120 : aH) =>
        k3562 h120) fun k433 =>
        if x23 = 0 then
          bO (alL h119 x3 (0 : Int32)) fun x27 =>
          if (lg_cmp x27 (x25.toInt64)) = 0 then
            k433 h119
          else
          k431 h119
        else
        k433 h119
      else
      k414 h119) <|
    swO x6 2
      (bR (m_L_load x1 x3 h111) fun x28 h121 =>
      gS h121 12 x2 <|
      bR (m_X12_load x2 h121) fun x29 h122 =>
      gS h122 12 x2 <|
      bR (m_X12_thrown x2 h122) fun x30 h123 =>
      if x30 = x28 then
        aJ (fun (h124 : aH) =>
        k3562 h124) fun k477 =>
        if x28 = 0 then
          bO (alL h123 x3 (0 : Int32)) fun x31 =>
          if (lg_cmp x31 (x29.toInt64)) = 0 then
            k477 h123
          else
          k475 h123
        else
        k477 h123
      else
      k458 h123) <|
    swO x6 3
      (gS h111 11 x1 <|
      bR (m_X11_errorCode x1 h111) fun x32 h125 =>
      gS h125 12 x2 <|
      bR (m_X12_errorCode x2 h125) fun x33 h126 =>
      if x32 = x33 then
        k3562 h126
      else
      k491 h126) <|
    swO x6 4
      (gS h111 11 x1 <|
      bR (m_X11_errorPosition x1 h111) fun x34 h127 =>
      gS h127 12 x2 <|
      bR (m_X12_errorPosition x2 h127) fun x35 h128 =>
      if x34 = x35 then
        k3562 h128
      else
      k504 h128) <|
    swO x6 5
      (bO (scI sc (x4 + (1 : Int32))) fun x36 =>
      bR (m_L_find x1 x36 x3 h111) fun x37 h129 =>
      bO (scI sc (x4 + (1 : Int32))) fun x38 =>
      gS h129 12 x2 <|
      bR (m_X12_find x2 x38 h129) fun x39 h130 =>
      gS h130 12 x2 <|
      bR (m_X12_thrown x2 h130) fun x40 h131 =>
      if x40 = x37 then
        aJ (fun (h132 : aH) =>
        k3562 h132) fun k559 =>
        if x37 = 0 then
          bO (alL h131 x3 (0 : Int32)) fun x41 =>
          if (lg_cmp x41 (x39.toInt64)) = 0 then
            k559 h131
          else
          k557 h131
        else
        k559 h131
      else
      k540 h131) <|
    swO x6 6
      (bO (scI sc (x4 + (1 : Int32))) fun x42 =>
      bR (m_L_count x1 x42 x3 h111) fun x43 h133 =>
      bO (scI sc (x4 + (1 : Int32))) fun x44 =>
      gS h133 12 x2 <|
      bR (m_X12_count x2 x44 h133) fun x45 h134 =>
      gS h134 12 x2 <|
      bR (m_X12_thrown x2 h134) fun x46 h135 =>
      if x46 = x43 then
        aJ (fun (h136 : aH) =>
        k3562 h136) fun k615 =>
        if x43 = 0 then
          bO (alL h135 x3 (0 : Int32)) fun x47 =>
          if (lg_cmp x47 (x45.toInt64)) = 0 then
            k615 h135
          else
          k613 h135
        else
        k615 h135
      else
      k596 h135) <|
    swO x6 7
      (gS h111 11 x1 <|
      bR (m_X11_time x1 h111) fun x48 h137 =>
      gS h137 12 x2 <|
      bR (m_X12_time x2 h137) fun x49 h138 =>
      if x48 = x49 then
        k3562 h138
      else
      k629 h138) <|
    swO x6 8
      (bO (scI sc (x4 + (1 : Int32))) fun x50 =>
      bO (scI sc (x4 + (2 : Int32))) fun x51 =>
      bR (m_L_nightMinutes x1 x50 x51 x3 h111) fun x52 h139 =>
      bO (scI sc (x4 + (1 : Int32))) fun x53 =>
      bO (scI sc (x4 + (2 : Int32))) fun x54 =>
      gS h139 12 x2 <|
      bR (m_X12_nightMinutes x2 x53 x54 h139) fun x55 h140 =>
      gS h140 12 x2 <|
      bR (m_X12_thrown x2 h140) fun x56 h141 =>
      if x56 = x52 then
        aJ (fun (h142 : aH) =>
        k3562 h142) fun k696 =>
        if x52 = 0 then
          bO (alL h141 x3 (0 : Int32)) fun x57 =>
          if (lg_cmp x57 (x55.toInt64)) = 0 then
            k696 h141
          else
          k694 h141
        else
        k696 h141
      else
      k677 h141) <|
    swO x6 9
      (bO (scI sc (x4 + (1 : Int32))) fun x58 =>
      bR (m_L_outUntil x1 x58 x3 h111) fun x59 h143 =>
      bO (scI sc (x4 + (1 : Int32))) fun x60 =>
      gS h143 12 x2 <|
      bR (m_X12_outUntil x2 x60 h143) fun x61 h144 =>
      gS h144 12 x2 <|
      bR (m_X12_thrown x2 h144) fun x62 h145 =>
      if x62 = x59 then
        aJ (fun (h146 : aH) =>
        k3562 h146) fun k752 =>
        if x59 = 0 then
          bO (alL h145 x3 (0 : Int32)) fun x63 =>
          if (lg_cmp x63 (x61.toInt64)) = 0 then
            k752 h145
          else
          k750 h145
        else
        k752 h145
      else
      k733 h145) <|
    swO x6 10
      (bO (scI sc (x4 + (1 : Int32))) fun x64 =>
      bR (m_L_lostSleep x1 x64 x3 h111) fun x65 h147 =>
      bO (scI sc (x4 + (1 : Int32))) fun x66 =>
      gS h147 12 x2 <|
      bR (m_X12_lostSleep x2 x66 h147) fun x67 h148 =>
      gS h148 12 x2 <|
      bR (m_X12_thrown x2 h148) fun x68 h149 =>
      if x68 = x65 then
        aJ (fun (h150 : aH) =>
        k3562 h150) fun k808 =>
        if x65 = 0 then
          bO (alL h149 x3 (0 : Int32)) fun x69 =>
          if (lg_cmp x69 (x67.toInt64)) = 0 then
            k808 h149
          else
          k806 h149
        else
        k808 h149
      else
      k789 h149) <|
    swO x6 11
      (bO (scI sc (x4 + (1 : Int32))) fun x70 =>
      bO (scI sc (x4 + (2 : Int32))) fun x71 =>
      bR (m_L_lostSleepAfter x1 x70 x71 x3 h111) fun x72 h151 =>
      bO (scI sc (x4 + (1 : Int32))) fun x73 =>
      bO (scI sc (x4 + (2 : Int32))) fun x74 =>
      gS h151 12 x2 <|
      bR (m_X12_lostSleepAfter x2 x73 x74 h151) fun x75 h152 =>
      gS h152 12 x2 <|
      bR (m_X12_thrown x2 h152) fun x76 h153 =>
      if x76 = x72 then
        aJ (fun (h154 : aH) =>
        k3562 h154) fun k876 =>
        if x72 = 0 then
          bO (alL h153 x3 (0 : Int32)) fun x77 =>
          if (lg_cmp x77 (x75.toInt64)) = 0 then
            k876 h153
          else
          k874 h153
        else
        k876 h153
      else
      k857 h153) <|
    swO x6 12
      (bO (scI sc (x4 + (1 : Int32))) fun x78 =>
      bR (m_L_restedAt x1 x78 x3 h111) fun x79 h155 =>
      bO (scI sc (x4 + (1 : Int32))) fun x80 =>
      gS h155 12 x2 <|
      bR (m_X12_restedAt x2 x80 h155) fun x81 h156 =>
      gS h156 12 x2 <|
      bR (m_X12_thrown x2 h156) fun x82 h157 =>
      if x82 = x79 then
        aJ (fun (h158 : aH) =>
        k3562 h158) fun k932 =>
        if x79 = 0 then
          bO (alL h157 x3 (0 : Int32)) fun x83 =>
          if (lg_cmp x83 (x81.toInt64)) = 0 then
            k932 h157
          else
          k930 h157
        else
        k932 h157
      else
      k913 h157) <|
    swO x6 13
      (bO (scI sc (x4 + (1 : Int32))) fun x84 =>
      bR (m_L_arrival x1 x84 x3 h111) fun x85 h159 =>
      bO (scI sc (x4 + (1 : Int32))) fun x86 =>
      gS h159 12 x2 <|
      bR (m_X12_arrival x2 x86 h159) fun x87 h160 =>
      gS h160 12 x2 <|
      bR (m_X12_thrown x2 h160) fun x88 h161 =>
      if x88 = x85 then
        aJ (fun (h162 : aH) =>
        k3562 h162) fun k988 =>
        if x85 = 0 then
          bO (alL h161 x3 (0 : Int32)) fun x89 =>
          if (lg_cmp x89 (x87.toInt64)) = 0 then
            k988 h161
          else
          k986 h161
        else
        k988 h161
      else
      k969 h161) <|
    swO x6 14
      (bO (scI sc (x4 + (1 : Int32))) fun x90 =>
      bR (m_L_pay x1 x90 x3 h111) fun x91 h163 =>
      bO (scI sc (x4 + (1 : Int32))) fun x92 =>
      gS h163 12 x2 <|
      bR (m_X12_pay x2 x92 h163) fun x93 h164 =>
      gS h164 12 x2 <|
      bR (m_X12_thrown x2 h164) fun x94 h165 =>
      if x94 = x91 then
        aJ (fun (h166 : aH) =>
        k3562 h166) fun k1044 =>
        if x91 = 0 then
          bO (alL h165 x3 (0 : Int32)) fun x95 =>
          if (lg_cmp x95 (x93.toInt64)) = 0 then
            k1044 h165
          else
          k1042 h165
        else
        k1044 h165
      else
      k1025 h165) <|
    swO x6 15
      (bO (scI sc (x4 + (1 : Int32))) fun x96 =>
      bO (scI sc (x4 + (2 : Int32))) fun x97 =>
      bR (m_L_trust x1 x96 x97 x3 h111) fun x98 h167 =>
      bO (scI sc (x4 + (1 : Int32))) fun x99 =>
      bO (scI sc (x4 + (2 : Int32))) fun x100 =>
      gS h167 12 x2 <|
      bR (m_X12_trust_ x2 x99 x100 h167) fun x101 h168 =>
      gS h168 12 x2 <|
      bR (m_X12_thrown x2 h168) fun x102 h169 =>
      if x102 = x98 then
        aJ (fun (h170 : aH) =>
        k3562 h170) fun k1112 =>
        if x98 = 0 then
          bO (alL h169 x3 (0 : Int32)) fun x103 =>
          if (lg_cmp x103 (x101.toInt64)) = 0 then
            k1112 h169
          else
          k1110 h169
        else
        k1112 h169
      else
      k1093 h169) <|
    swO x6 16
      (bO (scI sc (x4 + (1 : Int32))) fun x104 =>
      bO (scI sc (x4 + (2 : Int32))) fun x105 =>
      bR (m_L_trustPath x1 x104 x105 x3 h111) fun x106 h171 =>
      bO (scI sc (x4 + (1 : Int32))) fun x107 =>
      bO (scI sc (x4 + (2 : Int32))) fun x108 =>
      gS h171 12 x2 <|
      bR (m_X12_trustPath x2 x107 x108 h171) fun x109 h172 =>
      gS h172 12 x2 <|
      bR (m_X12_thrown x2 h172) fun x110 h173 =>
      if x110 = x106 then
        aJ (fun (h174 : aH) =>
        k3562 h174) fun k1180 =>
        if x106 = 0 then
          bO (alL h173 x3 (0 : Int32)) fun x111 =>
          if (lg_cmp x111 (x109.toInt64)) = 0 then
            k1180 h173
          else
          k1178 h173
        else
        k1180 h173
      else
      k1161 h173) <|
    swO x6 17
      (bO (scI sc (x4 + (1 : Int32))) fun x112 =>
      bO (scI sc (x4 + (2 : Int32))) fun x113 =>
      bR (m_L_chain x1 x112 x113 x3 h111) fun x114 h175 =>
      bO (scI sc (x4 + (1 : Int32))) fun x115 =>
      bO (scI sc (x4 + (2 : Int32))) fun x116 =>
      gS h175 12 x2 <|
      bR (m_X12_chain x2 x115 x116 h175) fun x117 h176 =>
      gS h176 12 x2 <|
      bR (m_X12_thrown x2 h176) fun x118 h177 =>
      if x118 = x114 then
        aJ (fun (h178 : aH) =>
        k3562 h178) fun k1248 =>
        if x114 = 0 then
          bO (alL h177 x3 (0 : Int32)) fun x119 =>
          if (lg_cmp x119 (x117.toInt64)) = 0 then
            k1248 h177
          else
          k1246 h177
        else
        k1248 h177
      else
      k1229 h177) <|
    swO x6 18
      (bO (scI sc (x4 + (1 : Int32))) fun x120 =>
      bR (m_L_handOns x1 x120 x3 h111) fun x121 h179 =>
      bO (scI sc (x4 + (1 : Int32))) fun x122 =>
      gS h179 12 x2 <|
      bR (m_X12_handOns x2 x122 h179) fun x123 h180 =>
      gS h180 12 x2 <|
      bR (m_X12_thrown x2 h180) fun x124 h181 =>
      if x124 = x121 then
        aJ (fun (h182 : aH) =>
        k3562 h182) fun k1304 =>
        if x121 = 0 then
          bO (alL h181 x3 (0 : Int32)) fun x125 =>
          if (lg_cmp x125 (x123.toInt64)) = 0 then
            k1304 h181
          else
          k1302 h181
        else
        k1304 h181
      else
      k1285 h181) <|
    swO x6 19
      (bO (scI sc (x4 + (1 : Int32))) fun x126 =>
      bR (m_L_holdingEnd x1 x126 x3 h111) fun x127 h183 =>
      bO (scI sc (x4 + (1 : Int32))) fun x128 =>
      gS h183 12 x2 <|
      bR (m_X12_holdingEnd x2 x128 h183) fun x129 h184 =>
      gS h184 12 x2 <|
      bR (m_X12_thrown x2 h184) fun x130 h185 =>
      if x130 = x127 then
        aJ (fun (h186 : aH) =>
        k3562 h186) fun k1360 =>
        if x127 = 0 then
          bO (alL h185 x3 (0 : Int32)) fun x131 =>
          if (lg_cmp x131 (x129.toInt64)) = 0 then
            k1360 h185
          else
          k1358 h185
        else
        k1360 h185
      else
      k1341 h185) <|
    swO x6 20
      (bO (scI sc (x4 + (1 : Int32))) fun x132 =>
      bO (scI sc (x4 + (2 : Int32))) fun x133 =>
      bR (m_L_rotation x1 x132 x133 x3 h111) fun x134 h187 =>
      bO (scI sc (x4 + (1 : Int32))) fun x135 =>
      bO (scI sc (x4 + (2 : Int32))) fun x136 =>
      gS h187 12 x2 <|
      bR (m_X12_rotation x2 x135 x136 h187) fun x137 h188 =>
      gS h188 12 x2 <|
      bR (m_X12_thrown x2 h188) fun x138 h189 =>
      if x138 = x134 then
        aJ (fun (h190 : aH) =>
        k3562 h190) fun k1428 =>
        if x134 = 0 then
          bO (alL h189 x3 (0 : Int32)) fun x139 =>
          if (lg_cmp x139 (x137.toInt64)) = 0 then
            k1428 h189
          else
          k1426 h189
        else
        k1428 h189
      else
      k1409 h189) <|
    swO x6 21
      (bO (scI sc (x4 + (1 : Int32))) fun x140 =>
      bO (scI sc (x4 + (2 : Int32))) fun x141 =>
      bR (m_L_holderAt x1 x140 x141 x3 h111) fun x142 h191 =>
      bO (scI sc (x4 + (1 : Int32))) fun x143 =>
      bO (scI sc (x4 + (2 : Int32))) fun x144 =>
      gS h191 12 x2 <|
      bR (m_X12_holderAt x2 x143 x144 h191) fun x145 h192 =>
      gS h192 12 x2 <|
      bR (m_X12_thrown x2 h192) fun x146 h193 =>
      if x146 = x142 then
        aJ (fun (h194 : aH) =>
        k3562 h194) fun k1496 =>
        if x142 = 0 then
          bO (alL h193 x3 (0 : Int32)) fun x147 =>
          if (lg_cmp x147 (x145.toInt64)) = 0 then
            k1496 h193
          else
          k1494 h193
        else
        k1496 h193
      else
      k1477 h193) <|
    swO x6 22
      (bO (scI sc (x4 + (1 : Int32))) fun x148 =>
      bO (scI sc (x4 + (2 : Int32))) fun x149 =>
      bR (m_L_dutyMinutes x1 x148 x149 x3 h111) fun x150 h195 =>
      bO (scI sc (x4 + (1 : Int32))) fun x151 =>
      bO (scI sc (x4 + (2 : Int32))) fun x152 =>
      gS h195 12 x2 <|
      bR (m_X12_dutyMinutes x2 x151 x152 h195) fun x153 h196 =>
      gS h196 12 x2 <|
      bR (m_X12_thrown x2 h196) fun x154 h197 =>
      if x154 = x150 then
        aJ (fun (h198 : aH) =>
        k3562 h198) fun k1564 =>
        if x150 = 0 then
          bO (alL h197 x3 (0 : Int32)) fun x155 =>
          if (lg_cmp x155 (x153.toInt64)) = 0 then
            k1564 h197
          else
          k1562 h197
        else
        k1564 h197
      else
      k1545 h197) <|
    swO x6 23
      (bO (scI sc (x4 + (1 : Int32))) fun x156 =>
      bO (scI sc (x4 + (2 : Int32))) fun x157 =>
      bO (scI sc (x4 + (3 : Int32))) fun x158 =>
      bR (m_L_whyNotHandOn x1 x156 x157 x158 x3 h111) fun x159 h199 =>
      bO (scI sc (x4 + (1 : Int32))) fun x160 =>
      bO (scI sc (x4 + (2 : Int32))) fun x161 =>
      bO (scI sc (x4 + (3 : Int32))) fun x162 =>
      gS h199 12 x2 <|
      bR (m_X12_whyNotHandOn x2 x160 x161 x162 h199) fun x163 h200 =>
      gS h200 12 x2 <|
      bR (m_X12_thrown x2 h200) fun x164 h201 =>
      if x164 = x159 then
        aJ (fun (h202 : aH) =>
        k3562 h202) fun k1644 =>
        if x159 = 0 then
          bO (alL h201 x3 (0 : Int32)) fun x165 =>
          if (lg_cmp x165 (x163.toInt64)) = 0 then
            k1644 h201
          else
          k1642 h201
        else
        k1644 h201
      else
      k1625 h201) <|
    swO x6 24
      (bO (scI sc (x4 + (1 : Int32))) fun x166 =>
      bO (scI sc (x4 + (2 : Int32))) fun x167 =>
      bR (m_L_steps x1 x166 x167 x3 h111) fun x168 h203 =>
      bO (scI sc (x4 + (1 : Int32))) fun x169 =>
      bO (scI sc (x4 + (2 : Int32))) fun x170 =>
      gS h203 12 x2 <|
      bR (m_X12_steps x2 x169 x170 h203) fun x171 h204 =>
      gS h204 12 x2 <|
      bR (m_X12_thrown x2 h204) fun x172 h205 =>
      if x172 = x168 then
        aJ (fun (h206 : aH) =>
        k3562 h206) fun k1712 =>
        if x168 = 0 then
          bO (alL h205 x3 (0 : Int32)) fun x173 =>
          if (lg_cmp x173 (x171.toInt64)) = 0 then
            k1712 h205
          else
          k1710 h205
        else
        k1712 h205
      else
      k1693 h205) <|
    swO x6 25
      (bO (scI sc (x4 + (1 : Int32))) fun x174 =>
      bR (m_L_returnsAt x1 x174 x3 h111) fun x175 h207 =>
      bO (scI sc (x4 + (1 : Int32))) fun x176 =>
      gS h207 12 x2 <|
      bR (m_X12_returnsAt x2 x176 h207) fun x177 h208 =>
      gS h208 12 x2 <|
      bR (m_X12_thrown x2 h208) fun x178 h209 =>
      if x178 = x175 then
        aJ (fun (h210 : aH) =>
        k3562 h210) fun k1768 =>
        if x175 = 0 then
          bO (alL h209 x3 (0 : Int32)) fun x179 =>
          if (lg_cmp x179 (x177.toInt64)) = 0 then
            k1768 h209
          else
          k1766 h209
        else
        k1768 h209
      else
      k1749 h209) <|
    swO x6 26
      (bO (scI sc (x4 + (1 : Int32))) fun x180 =>
      bR (m_L_cost x1 x180 x3 h111) fun x181 h211 =>
      bO (scI sc (x4 + (1 : Int32))) fun x182 =>
      gS h211 12 x2 <|
      bR (m_X12_cost x2 x182 h211) fun x183 h212 =>
      gS h212 12 x2 <|
      bR (m_X12_thrown x2 h212) fun x184 h213 =>
      if x184 = x181 then
        aJ (fun (h214 : aH) =>
        k3562 h214) fun k1824 =>
        if x181 = 0 then
          bO (alL h213 x3 (0 : Int32)) fun x185 =>
          if (lg_cmp x185 (x183.toInt64)) = 0 then
            k1824 h213
          else
          k1822 h213
        else
        k1824 h213
      else
      k1805 h213) <|
    swO x6 27
      (bO (scI sc (x4 + (1 : Int32))) fun x186 =>
      bR (m_L_isAnswered x1 x186 x3 h111) fun x187 h215 =>
      bO (scI sc (x4 + (1 : Int32))) fun x188 =>
      gS h215 12 x2 <|
      bR (m_X12_isAnswered x2 x188 h215) fun x189 h216 =>
      gS h216 12 x2 <|
      bR (m_X12_thrown x2 h216) fun x190 h217 =>
      if x190 = x187 then
        aJ (fun (h218 : aH) =>
        k3562 h218) fun k1887 =>
        if x187 = 0 then
          bO (alL h217 x3 (0 : Int32)) fun x191 =>
          aJ (fun (x192 : Int64) (h219 : aH) =>
          if (lg_cmp x191 x192) = 0 then
            k1887 h219
          else
          k1885 h219) fun k1881 =>
          if x189 = 0 then
            k1881 (0 : Int64) h217
          else
          k1881 (1 : Int64) h217
        else
        k1887 h217
      else
      k1861 h217) <|
    swO x6 28
      (bO (scI sc (x4 + (1 : Int32))) fun x193 =>
      bR (m_L_came x1 x193 x3 h111) fun x194 h220 =>
      bO (scI sc (x4 + (1 : Int32))) fun x195 =>
      gS h220 12 x2 <|
      bR (m_X12_came x2 x195 h220) fun x196 h221 =>
      gS h221 12 x2 <|
      bR (m_X12_thrown x2 h221) fun x197 h222 =>
      if x197 = x194 then
        aJ (fun (h223 : aH) =>
        k3562 h223) fun k1943 =>
        if x194 = 0 then
          bO (alL h222 x3 (0 : Int32)) fun x198 =>
          if (lg_cmp x198 (x196.toInt64)) = 0 then
            k1943 h222
          else
          k1941 h222
        else
        k1943 h222
      else
      k1924 h222) <|
    swO x6 29
      (bO (scI sc (x4 + (1 : Int32))) fun x199 =>
      bR (m_L_left x1 x199 x3 h111) fun x200 h224 =>
      bO (scI sc (x4 + (1 : Int32))) fun x201 =>
      gS h224 12 x2 <|
      bR (m_X12_left x2 x201 h224) fun x202 h225 =>
      gS h225 12 x2 <|
      bR (m_X12_thrown x2 h225) fun x203 h226 =>
      if x203 = x200 then
        aJ (fun (h227 : aH) =>
        k3562 h227) fun k1999 =>
        if x200 = 0 then
          bO (alL h226 x3 (0 : Int32)) fun x204 =>
          if (lg_cmp x204 (x202.toInt64)) = 0 then
            k1999 h226
          else
          k1997 h226
        else
        k1999 h226
      else
      k1980 h226) <|
    swO x6 30
      (bO (scI sc (x4 + (1 : Int32))) fun x205 =>
      bO (scI sc (x4 + (2 : Int32))) fun x206 =>
      bR (m_L_engine x1 x205 x206 x3 h111) fun x207 h228 =>
      bO (scI sc (x4 + (1 : Int32))) fun x208 =>
      bO (scI sc (x4 + (2 : Int32))) fun x209 =>
      gS h228 12 x2 <|
      bR (m_X12_engine_ x2 x208 x209 h228) fun x210 h229 =>
      gS h229 12 x2 <|
      bR (m_X12_thrown x2 h229) fun x211 h230 =>
      if x211 = x207 then
        aJ (fun (h231 : aH) =>
        k3562 h231) fun k2067 =>
        if x207 = 0 then
          bO (alL h230 x3 (0 : Int32)) fun x212 =>
          if (lg_cmp x212 (x210.toInt64)) = 0 then
            k2067 h230
          else
          k2065 h230
        else
        k2067 h230
      else
      k2048 h230) <|
    swO x6 31
      (bO (scI sc (x4 + (1 : Int32))) fun x213 =>
      bO (scI sc (x4 + (2 : Int32))) fun x214 =>
      bR (m_L_leftAt x1 x213 x214 x3 h111) fun x215 h232 =>
      bO (scI sc (x4 + (1 : Int32))) fun x216 =>
      bO (scI sc (x4 + (2 : Int32))) fun x217 =>
      gS h232 12 x2 <|
      bR (m_X12_leftAt x2 x216 x217 h232) fun x218 h233 =>
      gS h233 12 x2 <|
      bR (m_X12_thrown x2 h233) fun x219 h234 =>
      if x219 = x215 then
        aJ (fun (h235 : aH) =>
        k3562 h235) fun k2135 =>
        if x215 = 0 then
          bO (alL h234 x3 (0 : Int32)) fun x220 =>
          if (lg_cmp x220 (x218.toInt64)) = 0 then
            k2135 h234
          else
          k2133 h234
        else
        k2135 h234
      else
      k2116 h234) <|
    swO x6 32
      (bO (scI sc (x4 + (1 : Int32))) fun x221 =>
      bO (scI sc (x4 + (2 : Int32))) fun x222 =>
      bO (scI sc (x4 + (3 : Int32))) fun x223 =>
      bR (m_L_member x1 x221 x222 x223 x3 h111) fun x224 h236 =>
      bO (scI sc (x4 + (1 : Int32))) fun x225 =>
      bO (scI sc (x4 + (2 : Int32))) fun x226 =>
      bO (scI sc (x4 + (3 : Int32))) fun x227 =>
      gS h236 12 x2 <|
      bR (m_X12_member x2 x225 x226 x227 h236) fun x228 h237 =>
      gS h237 12 x2 <|
      bR (m_X12_thrown x2 h237) fun x229 h238 =>
      if x229 = x224 then
        aJ (fun (h239 : aH) =>
        k3562 h239) fun k2215 =>
        if x224 = 0 then
          bO (alL h238 x3 (0 : Int32)) fun x230 =>
          if (lg_cmp x230 (x228.toInt64)) = 0 then
            k2215 h238
          else
          k2213 h238
        else
        k2215 h238
      else
      k2196 h238) <|
    swO x6 33
      (gS h111 11 x1 <|
      bR (m_X11_totalCost x1 h111) fun x231 h240 =>
      gS h240 12 x2 <|
      bR (m_X12_totalCost x2 h240) fun x232 h241 =>
      if x231 = x232 then
        k3562 h241
      else
      k2229 h241) <|
    swO x6 34
      (bO (scI sc (x4 + (1 : Int32))) fun x233 =>
      bO (scI sc (x4 + (2 : Int32))) fun x234 =>
      bR (m_L_whyAbsent x1 x233 x234 x3 h111) fun x235 h242 =>
      bO (scI sc (x4 + (1 : Int32))) fun x236 =>
      bO (scI sc (x4 + (2 : Int32))) fun x237 =>
      gS h242 12 x2 <|
      bR (m_X12_whyAbsent x2 x236 x237 h242) fun x238 h243 =>
      gS h243 12 x2 <|
      bR (m_X12_thrown x2 h243) fun x239 h244 =>
      if x239 = x235 then
        aJ (fun (h245 : aH) =>
        k3562 h245) fun k2296 =>
        if x235 = 0 then
          bO (alL h244 x3 (0 : Int32)) fun x240 =>
          if (lg_cmp x240 (x238.toInt64)) = 0 then
            k2296 h244
          else
          k2294 h244
        else
        k2296 h244
      else
      k2277 h244) <|
    swO x6 35
      (bO (scI sc (x4 + (1 : Int32))) fun x241 =>
      bO (scI sc (x4 + (2 : Int32))) fun x242 =>
      bR (m_L_whyStays x1 x241 x242 x3 h111) fun x243 h246 =>
      bO (scI sc (x4 + (1 : Int32))) fun x244 =>
      bO (scI sc (x4 + (2 : Int32))) fun x245 =>
      gS h246 12 x2 <|
      bR (m_X12_whyStays x2 x244 x245 h246) fun x246 h247 =>
      gS h247 12 x2 <|
      bR (m_X12_thrown x2 h247) fun x247 h248 =>
      if x247 = x243 then
        aJ (fun (h249 : aH) =>
        k3562 h249) fun k2364 =>
        if x243 = 0 then
          bO (alL h248 x3 (0 : Int32)) fun x248 =>
          if (lg_cmp x248 (x246.toInt64)) = 0 then
            k2364 h248
          else
          k2362 h248
        else
        k2364 h248
      else
      k2345 h248) <|
    swO x6 36
      (bO (scI sc (x4 + (1 : Int32))) fun x249 =>
      bO (scI sc (x4 + (2 : Int32))) fun x250 =>
      bR (m_L_departure x1 x249 x250 x3 h111) fun x251 h250 =>
      bO (scI sc (x4 + (1 : Int32))) fun x252 =>
      bO (scI sc (x4 + (2 : Int32))) fun x253 =>
      gS h250 12 x2 <|
      bR (m_X12_departure x2 x252 x253 h250) fun x254 h251 =>
      gS h251 12 x2 <|
      bR (m_X12_thrown x2 h251) fun x255 h252 =>
      if x255 = x251 then
        aJ (fun (h253 : aH) =>
        k3562 h253) fun k2432 =>
        if x251 = 0 then
          bO (alL h252 x3 (0 : Int32)) fun x256 =>
          if (lg_cmp x256 (x254.toInt64)) = 0 then
            k2432 h252
          else
          k2430 h252
        else
        k2432 h252
      else
      k2413 h252) <|
    swO x6 37
      (bO (scI sc (x4 + (1 : Int32))) fun x257 =>
      bO (scI sc (x4 + (2 : Int32))) fun x258 =>
      bO (scI sc (x4 + (3 : Int32))) fun x259 =>
      bR (m_L_mans x1 x257 x258 x259 x3 h111) fun x260 h254 =>
      bO (scI sc (x4 + (1 : Int32))) fun x261 =>
      bO (scI sc (x4 + (2 : Int32))) fun x262 =>
      bO (scI sc (x4 + (3 : Int32))) fun x263 =>
      gS h254 12 x2 <|
      bR (m_X12_mans x2 x261 x262 x263 h254) fun x264 h255 =>
      gS h255 12 x2 <|
      bR (m_X12_thrown x2 h255) fun x265 h256 =>
      if x265 = x260 then
        aJ (fun (h257 : aH) =>
        k3562 h257) fun k2512 =>
        if x260 = 0 then
          bO (alL h256 x3 (0 : Int32)) fun x266 =>
          if (lg_cmp x266 (x264.toInt64)) = 0 then
            k2512 h256
          else
          k2510 h256
        else
        k2512 h256
      else
      k2493 h256) <|
    swO x6 38
      (bO (scI sc (x4 + (1 : Int32))) fun x267 =>
      bO (scI sc (x4 + (2 : Int32))) fun x268 =>
      bR (m_L_manned x1 x267 x268 x3 h111) fun x269 h258 =>
      bO (scI sc (x4 + (1 : Int32))) fun x270 =>
      bO (scI sc (x4 + (2 : Int32))) fun x271 =>
      gS h258 12 x2 <|
      bR (m_X12_manned x2 x270 x271 h258) fun x272 h259 =>
      gS h259 12 x2 <|
      bR (m_X12_thrown x2 h259) fun x273 h260 =>
      if x273 = x269 then
        aJ (fun (h261 : aH) =>
        k3562 h261) fun k2580 =>
        if x269 = 0 then
          bO (alL h260 x3 (0 : Int32)) fun x274 =>
          if (lg_cmp x274 (x272.toInt64)) = 0 then
            k2580 h260
          else
          k2578 h260
        else
        k2580 h260
      else
      k2561 h260) <|
    swO x6 39
      (bO (scI sc (x4 + (1 : Int32))) fun x275 =>
      bR (m_L_wouldAnswer x1 x275 x3 h111) fun x276 h262 =>
      bO (scI sc (x4 + (1 : Int32))) fun x277 =>
      gS h262 12 x2 <|
      bR (m_X12_wouldAnswer x2 x277 h262) fun x278 h263 =>
      gS h263 12 x2 <|
      bR (m_X12_thrown x2 h263) fun x279 h264 =>
      if x279 = x276 then
        aJ (fun (h265 : aH) =>
        k3562 h265) fun k2643 =>
        if x276 = 0 then
          bO (alL h264 x3 (0 : Int32)) fun x280 =>
          aJ (fun (x281 : Int64) (h266 : aH) =>
          if (lg_cmp x280 x281) = 0 then
            k2643 h266
          else
          k2641 h266) fun k2637 =>
          if x278 = 0 then
            k2637 (0 : Int64) h264
          else
          k2637 (1 : Int64) h264
        else
        k2643 h264
      else
      k2617 h264) <|
    swO x6 40
      (bO (scI sc (x4 + (1 : Int32))) fun x282 =>
      bR (m_L_mostEngines x1 x282 x3 h111) fun x283 h267 =>
      bO (scI sc (x4 + (1 : Int32))) fun x284 =>
      gS h267 12 x2 <|
      bR (m_X12_mostEngines x2 x284 h267) fun x285 h268 =>
      gS h268 12 x2 <|
      bR (m_X12_thrown x2 h268) fun x286 h269 =>
      if x286 = x283 then
        aJ (fun (h270 : aH) =>
        k3562 h270) fun k2699 =>
        if x283 = 0 then
          bO (alL h269 x3 (0 : Int32)) fun x287 =>
          if (lg_cmp x287 (x285.toInt64)) = 0 then
            k2699 h269
          else
          k2697 h269
        else
        k2699 h269
      else
      k2680 h269) <|
    swO x6 41
      (bO (scI sc (x4 + (1 : Int32))) fun x288 =>
      bR (m_L_hoursUntilAnswered x1 x288 x3 h111) fun x289 h271 =>
      bO (scI sc (x4 + (1 : Int32))) fun x290 =>
      gS h271 12 x2 <|
      bR (m_X12_hoursUntilAnswered x2 x290 h271) fun x291 h272 =>
      gS h272 12 x2 <|
      bR (m_X12_thrown x2 h272) fun x292 h273 =>
      if x292 = x289 then
        aJ (fun (h274 : aH) =>
        k3562 h274) fun k2755 =>
        if x289 = 0 then
          bO (alL h273 x3 (0 : Int32)) fun x293 =>
          if (lg_cmp x293 (x291.toInt64)) = 0 then
            k2755 h273
          else
          k2753 h273
        else
        k2755 h273
      else
      k2736 h273) <|
    swO x6 42
      (bO (scI sc (x4 + (1 : Int32))) fun x294 =>
      bR (m_L_helpfulPager x1 x294 x3 h111) fun x295 h275 =>
      bO (scI sc (x4 + (1 : Int32))) fun x296 =>
      gS h275 12 x2 <|
      bR (m_X12_helpfulPager x2 x296 h275) fun x297 h276 =>
      gS h276 12 x2 <|
      bR (m_X12_thrown x2 h276) fun x298 h277 =>
      if x298 = x295 then
        aJ (fun (h278 : aH) =>
        k3562 h278) fun k2811 =>
        if x295 = 0 then
          bO (alL h277 x3 (0 : Int32)) fun x299 =>
          if (lg_cmp x299 (x297.toInt64)) = 0 then
            k2811 h277
          else
          k2809 h277
        else
        k2811 h277
      else
      k2792 h277) <|
    swO x6 43
      (bO (scI sc (x4 + (1 : Int32))) fun x300 =>
      bR (m_L_helpfulPerson x1 x300 x3 h111) fun x301 h279 =>
      bO (scI sc (x4 + (1 : Int32))) fun x302 =>
      gS h279 12 x2 <|
      bR (m_X12_helpfulPerson x2 x302 h279) fun x303 h280 =>
      gS h280 12 x2 <|
      bR (m_X12_thrown x2 h280) fun x304 h281 =>
      if x304 = x301 then
        aJ (fun (h282 : aH) =>
        k3562 h282) fun k2867 =>
        if x301 = 0 then
          bO (alL h281 x3 (0 : Int32)) fun x305 =>
          if (lg_cmp x305 (x303.toInt64)) = 0 then
            k2867 h281
          else
          k2865 h281
        else
        k2867 h281
      else
      k2848 h281) <|
    swO x6 44
      (bO (scI sc (x4 + (1 : Int32))) fun x306 =>
      bR (m_L_call x1 x306 x3 h111) fun x307 h283 =>
      bO (scI sc (x4 + (1 : Int32))) fun x308 =>
      gS h283 12 x2 <|
      bR (m_X12_call x2 x308 h283) fun x309 h284 =>
      gS h284 12 x2 <|
      bR (m_X12_thrown x2 h284) fun x310 h285 =>
      if x310 = x307 then
        aJ (fun (h286 : aH) =>
        k3562 h286) fun k2923 =>
        if x307 = 0 then
          bO (alL h285 x3 (0 : Int32)) fun x311 =>
          if (lg_cmp x311 (x309.toInt64)) = 0 then
            k2923 h285
          else
          k2921 h285
        else
        k2923 h285
      else
      k2904 h285) <|
    swO x6 45
      (bO (scI sc (x4 + (1 : Int32))) fun x312 =>
      bO (scI sc (x4 + (2 : Int32))) fun x313 =>
      bO (scI sc (x4 + (3 : Int32))) fun x314 =>
      bR (m_L_handOn x1 x312 x313 x314 x3 h111) fun x315 h287 =>
      bO (scI sc (x4 + (1 : Int32))) fun x316 =>
      bO (scI sc (x4 + (2 : Int32))) fun x317 =>
      bO (scI sc (x4 + (3 : Int32))) fun x318 =>
      gS h287 12 x2 <|
      bR (m_X12_handOn x2 x316 x317 x318 h287) fun x319 h288 =>
      gS h288 12 x2 <|
      bR (m_X12_thrown x2 h288) fun x320 h289 =>
      if x320 = x315 then
        aJ (fun (h290 : aH) =>
        k3562 h290) fun k3003 =>
        if x315 = 0 then
          bO (alL h289 x3 (0 : Int32)) fun x321 =>
          if (lg_cmp x321 (x319.toInt64)) = 0 then
            k3003 h289
          else
          k3001 h289
        else
        k3003 h289
      else
      k2984 h289) <|
    swO x6 46
      (bO (scI sc (x4 + (1 : Int32))) fun x322 =>
      bR (m_L_giveBack x1 x322 x3 h111) fun x323 h291 =>
      bO (scI sc (x4 + (1 : Int32))) fun x324 =>
      gS h291 12 x2 <|
      bR (m_X12_giveBack x2 x324 h291) fun x325 h292 =>
      gS h292 12 x2 <|
      bR (m_X12_thrown x2 h292) fun x326 h293 =>
      if x326 = x323 then
        aJ (fun (h294 : aH) =>
        k3562 h294) fun k3059 =>
        if x323 = 0 then
          bO (alL h293 x3 (0 : Int32)) fun x327 =>
          if (lg_cmp x327 (x325.toInt64)) = 0 then
            k3059 h293
          else
          k3057 h293
        else
        k3059 h293
      else
      k3040 h293) <|
    swO x6 47
      (bO (scI sc (x4 + (1 : Int32))) fun x328 =>
      bR (m_L_pass x1 x328 x3 h111) fun x329 h295 =>
      bO (scI sc (x4 + (1 : Int32))) fun x330 =>
      gS h295 12 x2 <|
      bR (m_X12_pass x2 x330 h295) fun x331 h296 =>
      gS h296 12 x2 <|
      bR (m_X12_thrown x2 h296) fun x332 h297 =>
      if x332 = x329 then
        aJ (fun (h298 : aH) =>
        k3562 h298) fun k3115 =>
        if x329 = 0 then
          bO (alL h297 x3 (0 : Int32)) fun x333 =>
          if (lg_cmp x333 (x331.toInt64)) = 0 then
            k3115 h297
          else
          k3113 h297
        else
        k3115 h297
      else
      k3096 h297) <|
    swO x6 48
      (bO (scI sc (x4 + (1 : Int32))) fun x334 =>
      bO (scI sc (x4 + (2 : Int32))) fun x335 =>
      bO (scI sc (x4 + (3 : Int32))) fun x336 =>
      bR (m_L_swapPlaces x1 x334 x335 x336 x3 h111) fun x337 h299 =>
      bO (scI sc (x4 + (1 : Int32))) fun x338 =>
      bO (scI sc (x4 + (2 : Int32))) fun x339 =>
      bO (scI sc (x4 + (3 : Int32))) fun x340 =>
      gS h299 12 x2 <|
      bR (m_X12_swapPlaces x2 x338 x339 x340 h299) fun x341 h300 =>
      gS h300 12 x2 <|
      bR (m_X12_thrown x2 h300) fun x342 h301 =>
      if x342 = x337 then
        aJ (fun (h302 : aH) =>
        k3562 h302) fun k3195 =>
        if x337 = 0 then
          bO (alL h301 x3 (0 : Int32)) fun x343 =>
          if (lg_cmp x343 (x341.toInt64)) = 0 then
            k3195 h301
          else
          k3193 h301
        else
        k3195 h301
      else
      k3176 h301) <|
    swO x6 49
      (bO (scI sc (x4 + (1 : Int32))) fun x344 =>
      bO (scI sc (x4 + (2 : Int32))) fun x345 =>
      aJ (fun (x346 : Int32) (h303 : aH) =>
      bR (m_L_excuse x1 x344 x346 x3 h303) fun x347 h304 =>
      bO (scI sc (x4 + (1 : Int32))) fun x348 =>
      bO (scI sc (x4 + (2 : Int32))) fun x349 =>
      aJ (fun (x350 : Int32) (h305 : aH) =>
      gS h305 12 x2 <|
      bR (m_X12_excuse x2 x348 x350 h305) fun x351 h306 =>
      gS h306 12 x2 <|
      bR (m_X12_thrown x2 h306) fun x352 h307 =>
      if x352 = x347 then
        aJ (fun (h308 : aH) =>
        k3562 h308) fun k3279 =>
        if x347 = 0 then
          bO (alL h307 x3 (0 : Int32)) fun x353 =>
          if (lg_cmp x353 (x351.toInt64)) = 0 then
            k3279 h307
          else
          k3277 h307
        else
        k3279 h307
      else
      k3260 h307) fun k3246 =>
      if x349 = 0 then
        k3246 (0 : Int32) h304
      else
      k3246 (1 : Int32) h304) fun k3219 =>
      if x345 = 0 then
        k3219 (0 : Int32) h111
      else
      k3219 (1 : Int32) h111) <|
    swO x6 50
      (bO (scI sc (x4 + (1 : Int32))) fun x354 =>
      bO (scI sc (x4 + (2 : Int32))) fun x355 =>
      aJ (fun (x356 : Int32) (h309 : aH) =>
      bR (m_L_setService x1 x354 x356 x3 h309) fun x357 h310 =>
      bO (scI sc (x4 + (1 : Int32))) fun x358 =>
      bO (scI sc (x4 + (2 : Int32))) fun x359 =>
      aJ (fun (x360 : Int32) (h311 : aH) =>
      gS h311 12 x2 <|
      bR (m_X12_setService x2 x358 x360 h311) fun x361 h312 =>
      gS h312 12 x2 <|
      bR (m_X12_thrown x2 h312) fun x362 h313 =>
      if x362 = x357 then
        aJ (fun (h314 : aH) =>
        k3562 h314) fun k3363 =>
        if x357 = 0 then
          bO (alL h313 x3 (0 : Int32)) fun x363 =>
          if (lg_cmp x363 (x361.toInt64)) = 0 then
            k3363 h313
          else
          k3361 h313
        else
        k3363 h313
      else
      k3344 h313) fun k3330 =>
      if x359 = 0 then
        k3330 (0 : Int32) h310
      else
      k3330 (1 : Int32) h310) fun k3303 =>
      if x355 = 0 then
        k3303 (0 : Int32) h111
      else
      k3303 (1 : Int32) h111) <|
    swO x6 51
      (bO (scI sc (x4 + (1 : Int32))) fun x364 =>
      bO (scI sc (x4 + (2 : Int32))) fun x365 =>
      bO (scI sc (x4 + (3 : Int32))) fun x366 =>
      bR (m_L_setTrust x1 x364 x365 x366 x3 h111) fun x367 h315 =>
      bO (scI sc (x4 + (1 : Int32))) fun x368 =>
      bO (scI sc (x4 + (2 : Int32))) fun x369 =>
      bO (scI sc (x4 + (3 : Int32))) fun x370 =>
      gS h315 12 x2 <|
      bR (m_X12_setTrust x2 x368 x369 x370 h315) fun x371 h316 =>
      gS h316 12 x2 <|
      bR (m_X12_thrown x2 h316) fun x372 h317 =>
      if x372 = x367 then
        aJ (fun (h318 : aH) =>
        k3562 h318) fun k3443 =>
        if x367 = 0 then
          bO (alL h317 x3 (0 : Int32)) fun x373 =>
          if (lg_cmp x373 (x371.toInt64)) = 0 then
            k3443 h317
          else
          k3441 h317
        else
        k3443 h317
      else
      k3424 h317) <|
    swO x6 52
      (bR (m_L_undo x1 x3 h111) fun x374 h319 =>
      gS h319 12 x2 <|
      bR (m_X12_undo x2 h319) fun x375 h320 =>
      gS h320 12 x2 <|
      bR (m_X12_thrown x2 h320) fun x376 h321 =>
      if x376 = x374 then
        aJ (fun (h322 : aH) =>
        k3562 h322) fun k3487 =>
        if x374 = 0 then
          bO (alL h321 x3 (0 : Int32)) fun x377 =>
          if (lg_cmp x377 (x375.toInt64)) = 0 then
            k3487 h321
          else
          k3485 h321
        else
        k3487 h321
      else
      k3468 h321) <|
    swO x6 53
      (bO (scI sc (x4 + (1 : Int32))) fun x378 =>
      bR (m_L_save x1 x378 h111) fun x379 h323 =>
      bO (scI sc (x4 + (1 : Int32))) fun x380 =>
      gS h323 12 x2 <|
      bR (m_X12_save x2 x380 h323) fun _ h324 =>
      gS h324 12 x2 <|
      bR (m_X12_thrown x2 h324) fun x381 h325 =>
      if x381 = x379 then
        k3562 h325
      else
      k3521 h325) <|
    swO x6 54
      (bO (scI sc (x4 + (1 : Int32))) fun x382 =>
      bR (m_L_restore x1 x382 h111) fun x383 h326 =>
      bO (scI sc (x4 + (1 : Int32))) fun x384 =>
      gS h326 12 x2 <|
      bR (m_X12_restore x2 x384 h326) fun _ h327 =>
      gS h327 12 x2 <|
      bR (m_X12_thrown x2 h327) fun x385 h328 =>
      if x385 = x383 then
        k3562 h328
      else
      k3557 h328) <|
    k3562 h111
  else
  k3568 h111
def m_L_law (sc : List Int32) (h0 : aH) : Option (Int32 × aH) :=
  bN h0 21 9 fun x1 h1 =>
  bR (m_X11_init x1 h1) fun _ h2 =>
  bN h2 22 71 fun x2 h3 =>
  bR (m_X12_init x2 h3) fun _ h4 =>
  bN h4 4 1 fun x3 h5 =>
  aJ (fun (h6 : aH) =>
  some ((1 : Int32), h6)) fun k3568 =>
  aJ (fun (h7 : aH) =>
  some ((0 : Int32), h7)) fun k375 =>
  aJ (fun (h8 : aH) =>
  some ((0 : Int32), h8)) fun k358 =>
  aJ (fun (h9 : aH) =>
  some ((0 : Int32), h9)) fun k431 =>
  aJ (fun (h10 : aH) =>
  some ((0 : Int32), h10)) fun k414 =>
  aJ (fun (h11 : aH) =>
  some ((0 : Int32), h11)) fun k475 =>
  aJ (fun (h12 : aH) =>
  some ((0 : Int32), h12)) fun k458 =>
  aJ (fun (h13 : aH) =>
  some ((0 : Int32), h13)) fun k491 =>
  aJ (fun (h14 : aH) =>
  some ((0 : Int32), h14)) fun k504 =>
  aJ (fun (h15 : aH) =>
  some ((0 : Int32), h15)) fun k557 =>
  aJ (fun (h16 : aH) =>
  some ((0 : Int32), h16)) fun k540 =>
  aJ (fun (h17 : aH) =>
  some ((0 : Int32), h17)) fun k613 =>
  aJ (fun (h18 : aH) =>
  some ((0 : Int32), h18)) fun k596 =>
  aJ (fun (h19 : aH) =>
  some ((0 : Int32), h19)) fun k629 =>
  aJ (fun (h20 : aH) =>
  some ((0 : Int32), h20)) fun k694 =>
  aJ (fun (h21 : aH) =>
  some ((0 : Int32), h21)) fun k677 =>
  aJ (fun (h22 : aH) =>
  some ((0 : Int32), h22)) fun k750 =>
  aJ (fun (h23 : aH) =>
  some ((0 : Int32), h23)) fun k733 =>
  aJ (fun (h24 : aH) =>
  some ((0 : Int32), h24)) fun k806 =>
  aJ (fun (h25 : aH) =>
  some ((0 : Int32), h25)) fun k789 =>
  aJ (fun (h26 : aH) =>
  some ((0 : Int32), h26)) fun k874 =>
  aJ (fun (h27 : aH) =>
  some ((0 : Int32), h27)) fun k857 =>
  aJ (fun (h28 : aH) =>
  some ((0 : Int32), h28)) fun k930 =>
  aJ (fun (h29 : aH) =>
  some ((0 : Int32), h29)) fun k913 =>
  aJ (fun (h30 : aH) =>
  some ((0 : Int32), h30)) fun k986 =>
  aJ (fun (h31 : aH) =>
  some ((0 : Int32), h31)) fun k969 =>
  aJ (fun (h32 : aH) =>
  some ((0 : Int32), h32)) fun k1042 =>
  aJ (fun (h33 : aH) =>
  some ((0 : Int32), h33)) fun k1025 =>
  aJ (fun (h34 : aH) =>
  some ((0 : Int32), h34)) fun k1110 =>
  aJ (fun (h35 : aH) =>
  some ((0 : Int32), h35)) fun k1093 =>
  aJ (fun (h36 : aH) =>
  some ((0 : Int32), h36)) fun k1178 =>
  aJ (fun (h37 : aH) =>
  some ((0 : Int32), h37)) fun k1161 =>
  aJ (fun (h38 : aH) =>
  some ((0 : Int32), h38)) fun k1246 =>
  aJ (fun (h39 : aH) =>
  some ((0 : Int32), h39)) fun k1229 =>
  aJ (fun (h40 : aH) =>
  some ((0 : Int32), h40)) fun k1302 =>
  aJ (fun (h41 : aH) =>
  some ((0 : Int32), h41)) fun k1285 =>
  aJ (fun (h42 : aH) =>
  some ((0 : Int32), h42)) fun k1358 =>
  aJ (fun (h43 : aH) =>
  some ((0 : Int32), h43)) fun k1341 =>
  aJ (fun (h44 : aH) =>
  some ((0 : Int32), h44)) fun k1426 =>
  aJ (fun (h45 : aH) =>
  some ((0 : Int32), h45)) fun k1409 =>
  aJ (fun (h46 : aH) =>
  some ((0 : Int32), h46)) fun k1494 =>
  aJ (fun (h47 : aH) =>
  some ((0 : Int32), h47)) fun k1477 =>
  aJ (fun (h48 : aH) =>
  some ((0 : Int32), h48)) fun k1562 =>
  aJ (fun (h49 : aH) =>
  some ((0 : Int32), h49)) fun k1545 =>
  aJ (fun (h50 : aH) =>
  some ((0 : Int32), h50)) fun k1642 =>
  aJ (fun (h51 : aH) =>
  some ((0 : Int32), h51)) fun k1625 =>
  aJ (fun (h52 : aH) =>
  some ((0 : Int32), h52)) fun k1710 =>
  aJ (fun (h53 : aH) =>
  some ((0 : Int32), h53)) fun k1693 =>
  aJ (fun (h54 : aH) =>
  some ((0 : Int32), h54)) fun k1766 =>
  aJ (fun (h55 : aH) =>
  some ((0 : Int32), h55)) fun k1749 =>
  aJ (fun (h56 : aH) =>
  some ((0 : Int32), h56)) fun k1822 =>
  aJ (fun (h57 : aH) =>
  some ((0 : Int32), h57)) fun k1805 =>
  aJ (fun (h58 : aH) =>
  some ((0 : Int32), h58)) fun k1885 =>
  aJ (fun (h59 : aH) =>
  some ((0 : Int32), h59)) fun k1861 =>
  aJ (fun (h60 : aH) =>
  some ((0 : Int32), h60)) fun k1941 =>
  aJ (fun (h61 : aH) =>
  some ((0 : Int32), h61)) fun k1924 =>
  aJ (fun (h62 : aH) =>
  some ((0 : Int32), h62)) fun k1997 =>
  aJ (fun (h63 : aH) =>
  some ((0 : Int32), h63)) fun k1980 =>
  aJ (fun (h64 : aH) =>
  some ((0 : Int32), h64)) fun k2065 =>
  aJ (fun (h65 : aH) =>
  some ((0 : Int32), h65)) fun k2048 =>
  aJ (fun (h66 : aH) =>
  some ((0 : Int32), h66)) fun k2133 =>
  aJ (fun (h67 : aH) =>
  some ((0 : Int32), h67)) fun k2116 =>
  aJ (fun (h68 : aH) =>
  some ((0 : Int32), h68)) fun k2213 =>
  aJ (fun (h69 : aH) =>
  some ((0 : Int32), h69)) fun k2196 =>
  aJ (fun (h70 : aH) =>
  some ((0 : Int32), h70)) fun k2229 =>
  aJ (fun (h71 : aH) =>
  some ((0 : Int32), h71)) fun k2294 =>
  aJ (fun (h72 : aH) =>
  some ((0 : Int32), h72)) fun k2277 =>
  aJ (fun (h73 : aH) =>
  some ((0 : Int32), h73)) fun k2362 =>
  aJ (fun (h74 : aH) =>
  some ((0 : Int32), h74)) fun k2345 =>
  aJ (fun (h75 : aH) =>
  some ((0 : Int32), h75)) fun k2430 =>
  aJ (fun (h76 : aH) =>
  some ((0 : Int32), h76)) fun k2413 =>
  aJ (fun (h77 : aH) =>
  some ((0 : Int32), h77)) fun k2510 =>
  aJ (fun (h78 : aH) =>
  some ((0 : Int32), h78)) fun k2493 =>
  aJ (fun (h79 : aH) =>
  some ((0 : Int32), h79)) fun k2578 =>
  aJ (fun (h80 : aH) =>
  some ((0 : Int32), h80)) fun k2561 =>
  aJ (fun (h81 : aH) =>
  some ((0 : Int32), h81)) fun k2641 =>
  aJ (fun (h82 : aH) =>
  some ((0 : Int32), h82)) fun k2617 =>
  aJ (fun (h83 : aH) =>
  some ((0 : Int32), h83)) fun k2697 =>
  aJ (fun (h84 : aH) =>
  some ((0 : Int32), h84)) fun k2680 =>
  aJ (fun (h85 : aH) =>
  some ((0 : Int32), h85)) fun k2753 =>
  aJ (fun (h86 : aH) =>
  some ((0 : Int32), h86)) fun k2736 =>
  aJ (fun (h87 : aH) =>
  some ((0 : Int32), h87)) fun k2809 =>
  aJ (fun (h88 : aH) =>
  some ((0 : Int32), h88)) fun k2792 =>
  aJ (fun (h89 : aH) =>
  some ((0 : Int32), h89)) fun k2865 =>
  aJ (fun (h90 : aH) =>
  some ((0 : Int32), h90)) fun k2848 =>
  aJ (fun (h91 : aH) =>
  some ((0 : Int32), h91)) fun k2921 =>
  aJ (fun (h92 : aH) =>
  some ((0 : Int32), h92)) fun k2904 =>
  aJ (fun (h93 : aH) =>
  some ((0 : Int32), h93)) fun k3001 =>
  aJ (fun (h94 : aH) =>
  some ((0 : Int32), h94)) fun k2984 =>
  aJ (fun (h95 : aH) =>
  some ((0 : Int32), h95)) fun k3057 =>
  aJ (fun (h96 : aH) =>
  some ((0 : Int32), h96)) fun k3040 =>
  aJ (fun (h97 : aH) =>
  some ((0 : Int32), h97)) fun k3113 =>
  aJ (fun (h98 : aH) =>
  some ((0 : Int32), h98)) fun k3096 =>
  aJ (fun (h99 : aH) =>
  some ((0 : Int32), h99)) fun k3193 =>
  aJ (fun (h100 : aH) =>
  some ((0 : Int32), h100)) fun k3176 =>
  aJ (fun (h101 : aH) =>
  some ((0 : Int32), h101)) fun k3277 =>
  aJ (fun (h102 : aH) =>
  some ((0 : Int32), h102)) fun k3260 =>
  aJ (fun (h103 : aH) =>
  some ((0 : Int32), h103)) fun k3361 =>
  aJ (fun (h104 : aH) =>
  some ((0 : Int32), h104)) fun k3344 =>
  aJ (fun (h105 : aH) =>
  some ((0 : Int32), h105)) fun k3441 =>
  aJ (fun (h106 : aH) =>
  some ((0 : Int32), h106)) fun k3424 =>
  aJ (fun (h107 : aH) =>
  some ((0 : Int32), h107)) fun k3485 =>
  aJ (fun (h108 : aH) =>
  some ((0 : Int32), h108)) fun k3468 =>
  aJ (fun (h109 : aH) =>
  some ((0 : Int32), h109)) fun k3521 =>
  aJ (fun (h110 : aH) =>
  some ((0 : Int32), h110)) fun k3557 =>
  aL1 (m_L_law_L23 sc x1 x2 x3 k3568 k375 k358 k431 k414 k475 k458 k491 k504 k557 k540 k613 k596 k629 k694 k677 k750 k733 k806 k789 k874 k857 k930 k913 k986 k969 k1042 k1025 k1110 k1093 k1178 k1161 k1246 k1229 k1302 k1285 k1358 k1341 k1426 k1409 k1494 k1477 k1562 k1545 k1642 k1625 k1710 k1693 k1766 k1749 k1822 k1805 k1885 k1861 k1941 k1924 k1997 k1980 k2065 k2048 k2133 k2116 k2213 k2196 k2229 k2294 k2277 k2362 k2345 k2430 k2413 k2510 k2493 k2578 k2561 k2641 k2617 k2697 k2680 k2753 k2736 k2809 k2792 k2865 k2848 k2921 k2904 k3001 k2984 k3057 k3040 k3113 k3096 k3193 k3176 k3277 k3260 k3361 k3344 k3441 k3424 k3485 k3468 k3521 k3557) FU (0 : Int32) h5
