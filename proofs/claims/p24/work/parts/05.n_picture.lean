/-! a picture of what a train is in numbers alone: pure functions -/
def f_X7_thrown (o0 : ObS) : Int32 :=
  o0.1 0 0
def f_X7_holds (o0 : ObS) (x1 : Int32) : Option (Int32 × ObS) :=
  (some (oi o0 0 0 x1)).bind fun s2 =>
  if x1 = (0 : Int32) then
    some ((1 : Int32), s2)
  else
    some ((0 : Int32), s2)
def f_X7_in (x1 : Int32) (x2 : Int32) (x3 : Int32) : Int32 :=
  if x1 < x2 then
    (0 : Int32)
  else
    if x3 < x1 then
      (0 : Int32)
    else
      (1 : Int32)
def f_X7_isUnit (o0 : ObS) (x1 : Int32) : Option (Int32) :=
  if isb (f_X7_in x1 0 ((o0.1 2 0) - 1)) then
  some ((f_X7_in x1 0 ((o0.1 2 0) - 1)))
  else none
def f_X7_isStream (o0 : ObS) (x1 : Int32) : Option (Int32) :=
  if isb (f_X7_in x1 0 ((2 * (o0.1 2 0)) - 1)) then
  some ((f_X7_in x1 0 ((2 * (o0.1 2 0)) - 1)))
  else none
def f_X7_isController (o0 : ObS) (x1 : Int32) : Option (Int32) :=
  if isb (f_X7_in x1 0 ((o0.1 22 0) - 1)) then
  some ((f_X7_in x1 0 ((o0.1 22 0) - 1)))
  else none
def f_X7_mostOf (x1 : Int32) : Int32 :=
  if x1 = (0 : Int32) then
    (999 : Int32)
  else
    if x1 = 1 then
      (100 : Int32)
    else
      if x1 = 3 then
        (9999 : Int32)
      else
        (99999 : Int32)
def f_X7_held (x1 : Int64) (x2 : Int64) (x3 : Int64) : Int64 :=
  if (0 : Int32) ≤ (lg_cmp x1 x2) then
    if (lg_cmp x1 x3) ≤ (0 : Int32) then
      x1
    else
      x3
  else
    x2
def f_X7_takesTwo (x1 : Int32) : Int32 :=
  if x1 = 2 then
    (1 : Int32)
  else
    if x1 = 3 then
      (1 : Int32)
    else
      (0 : Int32)
def f_X7_isTaken_b4 (o0 : ObS) (x1 : Int32) : Nat → Int32 → Int32 → Option (Int32)
  | 0, _, _ => none
  | n + 1, v4_3, v4_2 =>
  if (o0.1 2 0) ≤ v4_3 then
    if isb v4_2 then
    some (v4_2)
    else none
  else
    if v4_2 = (0 : Int32) then
      if inb v4_3 12 then
      if (o0.1 6 (v4_3).toNatClampNeg) = x1 then
        f_X7_isTaken_b4 o0 x1 n (v4_3 + 1) 1
      else
        if inb v4_3 12 then
        if (o0.1 7 (v4_3).toNatClampNeg) = x1 then
          f_X7_isTaken_b4 o0 x1 n (v4_3 + 1) 1
        else
          f_X7_isTaken_b4 o0 x1 n (v4_3 + 1) 0
        else none
      else none
    else
      f_X7_isTaken_b4 o0 x1 n (v4_3 + 1) 1
def f_X7_isTaken (o0 : ObS) (x1 : Int32) : Option (Int32) :=
  f_X7_isTaken_b4 o0 x1 64 0 0
def f_X7_makes (o0 : ObS) (x1 : Int32) (x2 : Int32) (x3 : Int32) (x4 : Int32) (x5 : Int32) : Option (Int32 × ObS) :=
  if inb (o0.1 2 0) 12 then
  (some (oi o0 3 (o0.1 2 0).toNatClampNeg x1)).bind fun s9 =>
  if inb (s9.1 2 0) 12 then
  (some (oi s9 6 (s9.1 2 0).toNatClampNeg x2)).bind fun s19 =>
  if inb (s19.1 2 0) 12 then
  (some (oi s19 7 (s19.1 2 0).toNatClampNeg x3)).bind fun s29 =>
  if inb (s29.1 2 0) 12 then
  (some (oi s29 4 (s29.1 2 0).toNatClampNeg x4)).bind fun s40 =>
  if inb (s40.1 2 0) 12 then
  (some (oi s40 5 (s40.1 2 0).toNatClampNeg x5)).bind fun s51 =>
  (some (oi s51 2 0 ((s51.1 2 0) + 1))).bind fun s59 =>
  some ((s59.1 2 0) - 1, s59)
  else none
  else none
  else none
  else none
  else none
def f_X7_source_b58 (o0 : ObS) (x1 : Int32) (x2 : Int32) (k58_0 : Int32) : Option (Int32 × ObS) :=
  (f_X7_holds o0 k58_0).bind fun r58 =>
  if r58.1 = (0 : Int32) then
    some ((0 : Int32), r58.2)
  else
    (f_X7_makes r58.2 0 (-1) (-1) x1 x2).bind fun r72 =>
    some (r72.1, r72.2)
def f_X7_source_b53 (o0 : ObS) (x1 : Int32) (x2 : Int32)  : Option (Int32 × ObS) :=
  f_X7_source_b58 o0 x1 x2 2
def f_X7_source_b27 (o0 : ObS) (x1 : Int32) (x2 : Int32) (k27_0 : Int32) : Option (Int32 × ObS) :=
  if k27_0 = (0 : Int32) then
    f_X7_source_b58 o0 x1 x2 1
  else
    if (o0.1 2 0) = 12 then
      f_X7_source_b53 o0 x1 x2
    else
      if (o0.1 1 0) ≤ (0 : Int32) then
        f_X7_source_b58 o0 x1 x2 0
      else
        f_X7_source_b53 o0 x1 x2
def f_X7_source_b26 (o0 : ObS) (x1 : Int32) (x2 : Int32)  : Option (Int32 × ObS) :=
  f_X7_source_b27 o0 x1 x2 0
def f_X7_source (o0 : ObS) (x1 : Int32) (x2 : Int32) : Option (Int32 × ObS) :=
  if (f_X7_in x1 0 999) = (0 : Int32) then
    f_X7_source_b26 o0 x1 x2
  else
    if (f_X7_in x2 0 300) = (0 : Int32) then
      f_X7_source_b26 o0 x1 x2
    else
      f_X7_source_b27 o0 x1 x2 1
def f_X7_unit_b152 (o0 : ObS) (x1 : Int32) (x2 : Int32) (x3 : Int32) (x4 : Int32) (k152_0 : Int32) : Option (Int32 × ObS) :=
  (f_X7_holds o0 k152_0).bind fun r152 =>
  if r152.1 = (0 : Int32) then
    some ((0 : Int32), r152.2)
  else
    if (f_X7_takesTwo x1) = (0 : Int32) then
      (f_X7_makes r152.2 x1 x2 (-1) x4 0).bind fun r176 =>
      some (r176.1, r176.2)
    else
      (f_X7_makes r152.2 x1 x2 x3 x4 0).bind fun r176 =>
      some (r176.1, r176.2)
def f_X7_unit_b147 (o0 : ObS) (x1 : Int32) (x2 : Int32) (x3 : Int32) (x4 : Int32)  : Option (Int32 × ObS) :=
  f_X7_unit_b152 o0 x1 x2 x3 x4 3
def f_X7_unit_b105 (o0 : ObS) (x1 : Int32) (x2 : Int32) (x3 : Int32) (x4 : Int32) (k54_0 : Int32) (k105_0 : Int32) : Option (Int32 × ObS) :=
  if (f_X7_in x1 1 4) = (0 : Int32) then
    f_X7_unit_b152 o0 x1 x2 x3 x4 1
  else
    if k54_0 = (0 : Int32) then
      f_X7_unit_b152 o0 x1 x2 x3 x4 2
    else
      if k105_0 = (0 : Int32) then
        if (o0.1 2 0) = 12 then
          f_X7_unit_b147 o0 x1 x2 x3 x4
        else
          if (o0.1 1 0) ≤ (0 : Int32) then
            f_X7_unit_b152 o0 x1 x2 x3 x4 0
          else
            f_X7_unit_b147 o0 x1 x2 x3 x4
      else
        f_X7_unit_b147 o0 x1 x2 x3 x4
def f_X7_unit_b104 (o0 : ObS) (x1 : Int32) (x2 : Int32) (x3 : Int32) (x4 : Int32) (k54_0 : Int32)  : Option (Int32 × ObS) :=
  f_X7_unit_b105 o0 x1 x2 x3 x4 k54_0 0
def f_X7_unit_b100 (o0 : ObS) (x1 : Int32) (x2 : Int32) (x3 : Int32) (x4 : Int32) (k54_0 : Int32)  : Option (Int32 × ObS) :=
  f_X7_unit_b105 o0 x1 x2 x3 x4 k54_0 1
def f_X7_unit_b74 (o0 : ObS) (x1 : Int32) (x2 : Int32) (x3 : Int32) (x4 : Int32) (k54_0 : Int32)  : Option (Int32 × ObS) :=
  (f_X7_isTaken o0 x2).bind fun r76 =>
  if r76 = (0 : Int32) then
    if (f_X7_takesTwo x1) = (0 : Int32) then
      f_X7_unit_b104 o0 x1 x2 x3 x4 k54_0
    else
      (f_X7_isTaken o0 x3).bind fun r89 =>
      if r89 = (0 : Int32) then
        if x2 = x3 then
          f_X7_unit_b100 o0 x1 x2 x3 x4 k54_0
        else
          f_X7_unit_b104 o0 x1 x2 x3 x4 k54_0
      else
        f_X7_unit_b100 o0 x1 x2 x3 x4 k54_0
  else
    f_X7_unit_b100 o0 x1 x2 x3 x4 k54_0
def f_X7_unit_b54 (o0 : ObS) (x1 : Int32) (x2 : Int32) (x3 : Int32) (x4 : Int32) (k54_0 : Int32) : Option (Int32 × ObS) :=
  if x1 = 2 then
    f_X7_unit_b74 o0 x1 x2 x3 x4 k54_0
  else
    if (f_X7_in x4 0 (f_X7_mostOf x1)) = (0 : Int32) then
      f_X7_unit_b100 o0 x1 x2 x3 x4 k54_0
    else
      f_X7_unit_b74 o0 x1 x2 x3 x4 k54_0
def f_X7_unit_b53 (o0 : ObS) (x1 : Int32) (x2 : Int32) (x3 : Int32) (x4 : Int32)  : Option (Int32 × ObS) :=
  f_X7_unit_b54 o0 x1 x2 x3 x4 0
def f_X7_unit_b49 (o0 : ObS) (x1 : Int32) (x2 : Int32) (x3 : Int32) (x4 : Int32)  : Option (Int32 × ObS) :=
  f_X7_unit_b54 o0 x1 x2 x3 x4 1
def f_X7_unit (o0 : ObS) (x1 : Int32) (x2 : Int32) (x3 : Int32) (x4 : Int32) : Option (Int32 × ObS) :=
  if (f_X7_in x2 0 ((2 * (o0.1 2 0)) + 1)) = (0 : Int32) then
    f_X7_unit_b53 o0 x1 x2 x3 x4
  else
    if (f_X7_takesTwo x1) = (0 : Int32) then
      f_X7_unit_b49 o0 x1 x2 x3 x4
    else
      if (f_X7_in x3 0 ((2 * (o0.1 2 0)) + 1)) = (0 : Int32) then
        f_X7_unit_b53 o0 x1 x2 x3 x4
      else
        f_X7_unit_b49 o0 x1 x2 x3 x4
def f_X7_back_b60 (o0 : ObS) (x1 : Int32) (x2 : Int32) (k60_0 : Int32) : Option (Int32 × ObS) :=
  (f_X7_holds o0 k60_0).bind fun r60 =>
  if r60.1 = (0 : Int32) then
    some ((0 : Int32), r60.2)
  else
    if inb x1 12 then
    if inb x1 12 then
    (some (oi r60.2 6 (x1).toNatClampNeg x2)).bind fun s82 =>
    some (r60.2.1 6 (x1).toNatClampNeg, s82)
    else none
    else none
def f_X7_back_b55 (o0 : ObS) (x1 : Int32) (x2 : Int32)  : Option (Int32 × ObS) :=
  f_X7_back_b60 o0 x1 x2 2
def f_X7_back_b21 (o0 : ObS) (x1 : Int32) (x2 : Int32) (k21_0 : Int32) : Option (Int32 × ObS) :=
  if k21_0 = (0 : Int32) then
    f_X7_back_b60 o0 x1 x2 1
  else
    if inb x1 12 then
    if (o0.1 3 (x1).toNatClampNeg) = (0 : Int32) then
      f_X7_back_b55 o0 x1 x2
    else
      (f_X7_isTaken o0 x2).bind fun r42 =>
      if r42 = (0 : Int32) then
        if (o0.1 1 0) ≤ (0 : Int32) then
          f_X7_back_b60 o0 x1 x2 0
        else
          f_X7_back_b55 o0 x1 x2
      else
        f_X7_back_b55 o0 x1 x2
    else none
def f_X7_back_b20 (o0 : ObS) (x1 : Int32) (x2 : Int32)  : Option (Int32 × ObS) :=
  f_X7_back_b21 o0 x1 x2 0
def f_X7_back (o0 : ObS) (x1 : Int32) (x2 : Int32) : Option (Int32 × ObS) :=
  (f_X7_isUnit o0 x1).bind fun r2 =>
  if r2 = (0 : Int32) then
    f_X7_back_b20 o0 x1 x2
  else
    (f_X7_isStream o0 x2).bind fun r10 =>
    if r10 = (0 : Int32) then
      f_X7_back_b20 o0 x1 x2
    else
      f_X7_back_b21 o0 x1 x2 1
def f_X7_canBe (o0 : ObS) (x1 : Int32) (x2 : Int32) : Option (Int32) :=
  if inb x1 12 then
  if (o0.1 3 (x1).toNatClampNeg) = 2 then
    some ((0 : Int32))
  else
    if inb x1 12 then
    if (f_X7_in x2 0 (f_X7_mostOf (o0.1 3 (x1).toNatClampNeg))) = (0 : Int32) then
      some ((0 : Int32))
    else
      some ((1 : Int32))
    else none
  else none
def f_X7_set_b29 (o0 : ObS) (x1 : Int32) (x2 : Int32) (k29_0 : Int32) : Option (Int32 × ObS) :=
  (f_X7_holds o0 k29_0).bind fun r29 =>
  if r29.1 = (0 : Int32) then
    some ((0 : Int32), r29.2)
  else
    if inb x1 12 then
    if inb x1 12 then
    (some (oi r29.2 4 (x1).toNatClampNeg x2)).bind fun s51 =>
    some (r29.2.1 4 (x1).toNatClampNeg, s51)
    else none
    else none
def f_X7_set (o0 : ObS) (x1 : Int32) (x2 : Int32) : Option (Int32 × ObS) :=
  (f_X7_isUnit o0 x1).bind fun r2 =>
  if r2 = (0 : Int32) then
    f_X7_set_b29 o0 x1 x2 1
  else
    (f_X7_canBe o0 x1 x2).bind fun r18 =>
    if r18 = (0 : Int32) then
      f_X7_set_b29 o0 x1 x2 2
    else
      f_X7_set_b29 o0 x1 x2 0
def f_X7_disturb_b60 (o0 : ObS) (x1 : Int32) (x2 : Int32) (x3 : Int32) (k60_0 : Int32) : Option (Int32 × ObS) :=
  (f_X7_holds o0 k60_0).bind fun r60 =>
  if r60.1 = (0 : Int32) then
    some ((0 : Int32), r60.2)
  else
    if inb (r60.2.1 18 0) 40 then
    (some (oi r60.2 19 (r60.2.1 18 0).toNatClampNeg x1)).bind fun s77 =>
    if inb (s77.1 18 0) 40 then
    (some (oi s77 20 (s77.1 18 0).toNatClampNeg x2)).bind fun s87 =>
    if inb (s87.1 18 0) 40 then
    (some (oi s87 21 (s87.1 18 0).toNatClampNeg x3)).bind fun s97 =>
    (some (oi s97 18 0 ((s97.1 18 0) + 1))).bind fun s105 =>
    some (s105.1 18 0, s105)
    else none
    else none
    else none
def f_X7_disturb_b42 (o0 : ObS) (x1 : Int32) (x2 : Int32) (x3 : Int32)  : Option (Int32 × ObS) :=
  f_X7_disturb_b60 o0 x1 x2 x3 2
def f_X7_disturb (o0 : ObS) (x1 : Int32) (x2 : Int32) (x3 : Int32) : Option (Int32 × ObS) :=
  (f_X7_isUnit o0 x2).bind fun r2 =>
  if r2 = (0 : Int32) then
    f_X7_disturb_b60 o0 x1 x2 x3 1
  else
    if (f_X7_in x1 ((o0.1 1 0) + 1) 300) = (0 : Int32) then
      f_X7_disturb_b42 o0 x1 x2 x3
    else
      (f_X7_canBe o0 x2 x3).bind fun r36 =>
      if r36 = (0 : Int32) then
        f_X7_disturb_b42 o0 x1 x2 x3
      else
        if (o0.1 18 0) = 40 then
          f_X7_disturb_b60 o0 x1 x2 x3 3
        else
          f_X7_disturb_b60 o0 x1 x2 x3 0
def f_X7_canDrive (o0 : ObS) (x1 : Int32) : Option (Int32) :=
  (f_X7_isUnit o0 x1).bind fun r2 =>
  if r2 = (0 : Int32) then
    if (f_X7_in x1 (101 + (o0.1 22 0)) 105) = (0 : Int32) then
      some ((0 : Int32))
    else
      some ((1 : Int32))
  else
    some ((1 : Int32))
def f_X7_adds (o0 : ObS) (x1 : Int32) (x2 : Int32) (x3 : Int32) (x4 : Int32) (x5 : Int32) (x6 : Int32) : Option (Int32 × ObS) :=
  if inb (o0.1 22 0) 6 then
  (some (oi o0 23 (o0.1 22 0).toNatClampNeg x1)).bind fun s13 =>
  if inb (o0.1 22 0) 6 then
  (some (oi s13 24 (o0.1 22 0).toNatClampNeg x2)).bind fun s21 =>
  if inb (o0.1 22 0) 6 then
  (some (oi s21 25 (o0.1 22 0).toNatClampNeg x3)).bind fun s29 =>
  if inb (o0.1 22 0) 6 then
  (some (oi s29 26 (o0.1 22 0).toNatClampNeg x4)).bind fun s38 =>
  if inb (o0.1 22 0) 6 then
  (some (oi s38 28 (o0.1 22 0).toNatClampNeg x5)).bind fun s47 =>
  if inb (o0.1 22 0) 6 then
  (some (oi s47 27 (o0.1 22 0).toNatClampNeg x6)).bind fun s56 =>
  if inb (o0.1 22 0) 6 then
  (some (oi s56 30 (o0.1 22 0).toNatClampNeg 0)).bind fun s64 =>
  if inb (o0.1 22 0) 6 then
  (some (oi s64 31 (o0.1 22 0).toNatClampNeg 500)).bind fun s74 =>
  (some (oi s74 22 0 ((s74.1 22 0) + 1))).bind fun s82 =>
  some (o0.1 22 0, s82)
  else none
  else none
  else none
  else none
  else none
  else none
  else none
  else none
def f_X7_isMix (o0 : ObS) (x1 : Int32) : Option (Int32) :=
  if 12 ≤ x1 then
    some ((0 : Int32))
  else
    if inb x1 12 then
    if (o0.1 3 (x1).toNatClampNeg) = 2 then
      some ((1 : Int32))
    else
      some ((0 : Int32))
    else none
def f_X7_control_b106 (o0 : ObS) (x1 : Int32) (x2 : Int32) (x3 : Int32) (x4 : Int32) (x5 : Int32) (k106_0 : Int32) : Option (Int32 × ObS) :=
  (f_X7_holds o0 k106_0).bind fun r106 =>
  if r106.1 = (0 : Int32) then
    some ((0 : Int32), r106.2)
  else
    (f_X7_adds r106.2 x1 x2 x3 x4 (-1) x5).bind fun r123 =>
    some (r123.1, r123.2)
def f_X7_control_b88 (o0 : ObS) (x1 : Int32) (x2 : Int32) (x3 : Int32) (x4 : Int32) (x5 : Int32)  : Option (Int32 × ObS) :=
  f_X7_control_b106 o0 x1 x2 x3 x4 x5 2
def f_X7_control_b62 (o0 : ObS) (x1 : Int32) (x2 : Int32) (x3 : Int32) (x4 : Int32) (x5 : Int32) (k22_0 : Int32) (k62_0 : Int32) : Option (Int32 × ObS) :=
  if k22_0 = (0 : Int32) then
    f_X7_control_b106 o0 x1 x2 x3 x4 x5 1
  else
    if k62_0 = (0 : Int32) then
      f_X7_control_b88 o0 x1 x2 x3 x4 x5
    else
      (f_X7_isMix o0 x5).bind fun r82 =>
      if r82 = (0 : Int32) then
        if (o0.1 22 0) = 6 then
          f_X7_control_b106 o0 x1 x2 x3 x4 x5 3
        else
          f_X7_control_b106 o0 x1 x2 x3 x4 x5 0
      else
        f_X7_control_b88 o0 x1 x2 x3 x4 x5
def f_X7_control_b61 (o0 : ObS) (x1 : Int32) (x2 : Int32) (x3 : Int32) (x4 : Int32) (x5 : Int32) (k22_0 : Int32)  : Option (Int32 × ObS) :=
  f_X7_control_b62 o0 x1 x2 x3 x4 x5 k22_0 0
def f_X7_control_b22 (o0 : ObS) (x1 : Int32) (x2 : Int32) (x3 : Int32) (x4 : Int32) (x5 : Int32) (k22_0 : Int32) : Option (Int32 × ObS) :=
  if (f_X7_in x2 0 3000) = (0 : Int32) then
    f_X7_control_b61 o0 x1 x2 x3 x4 x5 k22_0
  else
    if (f_X7_in x3 (-99) 99) = (0 : Int32) then
      f_X7_control_b61 o0 x1 x2 x3 x4 x5 k22_0
    else
      if (f_X7_in x4 0 99999) = (0 : Int32) then
        f_X7_control_b61 o0 x1 x2 x3 x4 x5 k22_0
      else
        f_X7_control_b62 o0 x1 x2 x3 x4 x5 k22_0 1
def f_X7_control_b21 (o0 : ObS) (x1 : Int32) (x2 : Int32) (x3 : Int32) (x4 : Int32) (x5 : Int32)  : Option (Int32 × ObS) :=
  f_X7_control_b22 o0 x1 x2 x3 x4 x5 0
def f_X7_control (o0 : ObS) (x1 : Int32) (x2 : Int32) (x3 : Int32) (x4 : Int32) (x5 : Int32) : Option (Int32 × ObS) :=
  (f_X7_isStream o0 x1).bind fun r2 =>
  if r2 = (0 : Int32) then
    f_X7_control_b21 o0 x1 x2 x3 x4 x5
  else
    (f_X7_canDrive o0 x5).bind fun r11 =>
    if r11 = (0 : Int32) then
      f_X7_control_b21 o0 x1 x2 x3 x4 x5
    else
      f_X7_control_b22 o0 x1 x2 x3 x4 x5 1
def f_X7_ratio_b70 (o0 : ObS) (x1 : Int32) (x2 : Int32) (x3 : Int32) (k70_0 : Int32) : Option (Int32 × ObS) :=
  (f_X7_holds o0 k70_0).bind fun r70 =>
  if r70.1 = (0 : Int32) then
    some ((0 : Int32), r70.2)
  else
    (f_X7_adds r70.2 x1 0 0 0 x2 x3).bind fun r85 =>
    some (r85.1, r85.2)
def f_X7_ratio_b52 (o0 : ObS) (x1 : Int32) (x2 : Int32) (x3 : Int32)  : Option (Int32 × ObS) :=
  f_X7_ratio_b70 o0 x1 x2 x3 2
def f_X7_ratio_b21 (o0 : ObS) (x1 : Int32) (x2 : Int32) (x3 : Int32) (k21_0 : Int32) : Option (Int32 × ObS) :=
  if k21_0 = (0 : Int32) then
    f_X7_ratio_b70 o0 x1 x2 x3 1
  else
    if (f_X7_in x2 0 999) = (0 : Int32) then
      f_X7_ratio_b52 o0 x1 x2 x3
    else
      (f_X7_isMix o0 x3).bind fun r46 =>
      if r46 = (0 : Int32) then
        if (o0.1 22 0) = 6 then
          f_X7_ratio_b70 o0 x1 x2 x3 3
        else
          f_X7_ratio_b70 o0 x1 x2 x3 0
      else
        f_X7_ratio_b52 o0 x1 x2 x3
def f_X7_ratio_b20 (o0 : ObS) (x1 : Int32) (x2 : Int32) (x3 : Int32)  : Option (Int32 × ObS) :=
  f_X7_ratio_b21 o0 x1 x2 x3 0
def f_X7_ratio (o0 : ObS) (x1 : Int32) (x2 : Int32) (x3 : Int32) : Option (Int32 × ObS) :=
  (f_X7_isStream o0 x1).bind fun r2 =>
  if r2 = (0 : Int32) then
    f_X7_ratio_b20 o0 x1 x2 x3
  else
    (f_X7_isUnit o0 x3).bind fun r10 =>
    if r10 = (0 : Int32) then
      f_X7_ratio_b20 o0 x1 x2 x3
    else
      f_X7_ratio_b21 o0 x1 x2 x3 1
def f_X7_isRatio (o0 : ObS) (x1 : Int32) : Option (Int32) :=
  if inb x1 6 then
  if (o0.1 28 (x1).toNatClampNeg) = (-1) then
    some ((0 : Int32))
  else
    some ((1 : Int32))
  else none
def f_X7_feed_b63 (o0 : ObS) (x1 : Int32) (x2 : Int32) (x3 : Int32) (k63_0 : Int32) : Option (ObS) :=
  (f_X7_holds o0 k63_0).bind fun r63 =>
  if r63.1 = (0 : Int32) then
    some (r63.2)
  else
    if inb x1 6 then
    (some (oi r63.2 29 (x1).toNatClampNeg x2)).bind fun s75 =>
    if inb x1 6 then
    (some (oi s75 30 (x1).toNatClampNeg x3)).bind fun s82 =>
    some (s82)
    else none
    else none
def f_X7_feed_b21 (o0 : ObS) (x1 : Int32) (x2 : Int32) (x3 : Int32) (k21_0 : Int32) : Option (ObS) :=
  if k21_0 = (0 : Int32) then
    f_X7_feed_b63 o0 x1 x2 x3 1
  else
    if (f_X7_in x3 (-500) 500) = (0 : Int32) then
      f_X7_feed_b63 o0 x1 x2 x3 2
    else
      (f_X7_isRatio o0 x1).bind fun r52 =>
      if r52 = (0 : Int32) then
        f_X7_feed_b63 o0 x1 x2 x3 0
      else
        f_X7_feed_b63 o0 x1 x2 x3 3
def f_X7_feed_b20 (o0 : ObS) (x1 : Int32) (x2 : Int32) (x3 : Int32)  : Option (ObS) :=
  f_X7_feed_b21 o0 x1 x2 x3 0
def f_X7_feed (o0 : ObS) (x1 : Int32) (x2 : Int32) (x3 : Int32) : Option (ObS) :=
  (f_X7_isController o0 x1).bind fun r2 =>
  if r2 = (0 : Int32) then
    f_X7_feed_b20 o0 x1 x2 x3
  else
    (f_X7_isStream o0 x2).bind fun r10 =>
    if r10 = (0 : Int32) then
      f_X7_feed_b20 o0 x1 x2 x3
    else
      f_X7_feed_b21 o0 x1 x2 x3 1
def f_X7_aim_b68 (o0 : ObS) (x1 : Int32) (x2 : Int32) (x3 : Int32) (k68_0 : Int32) : Option (Int32 × ObS) :=
  (f_X7_holds o0 k68_0).bind fun r68 =>
  if r68.1 = (0 : Int32) then
    some ((0 : Int32), r68.2)
  else
    if inb x1 6 then
    if inb x1 6 then
    (some (oi r68.2 24 (x1).toNatClampNeg x2)).bind fun s90 =>
    if inb x1 6 then
    (some (oi s90 31 (x1).toNatClampNeg x3)).bind fun s97 =>
    some (r68.2.1 24 (x1).toNatClampNeg, s97)
    else none
    else none
    else none
def f_X7_aim_b34 (o0 : ObS) (x1 : Int32) (x2 : Int32) (x3 : Int32) (r2 : Int32) (k34_0 : Int32) : Option (Int32 × ObS) :=
  if r2 = (0 : Int32) then
    f_X7_aim_b68 o0 x1 x2 x3 1
  else
    if k34_0 = (0 : Int32) then
      f_X7_aim_b68 o0 x1 x2 x3 2
    else
      (f_X7_isRatio o0 x1).bind fun r57 =>
      if r57 = (0 : Int32) then
        f_X7_aim_b68 o0 x1 x2 x3 0
      else
        f_X7_aim_b68 o0 x1 x2 x3 3
def f_X7_aim_b33 (o0 : ObS) (x1 : Int32) (x2 : Int32) (x3 : Int32) (r2 : Int32)  : Option (Int32 × ObS) :=
  f_X7_aim_b34 o0 x1 x2 x3 r2 0
def f_X7_aim (o0 : ObS) (x1 : Int32) (x2 : Int32) (x3 : Int32) : Option (Int32 × ObS) :=
  (f_X7_isController o0 x1).bind fun r2 =>
  if (f_X7_in x2 0 3000) = (0 : Int32) then
    f_X7_aim_b33 o0 x1 x2 x3 r2
  else
    if (f_X7_in x3 0 3000) = (0 : Int32) then
      f_X7_aim_b33 o0 x1 x2 x3 r2
    else
      f_X7_aim_b34 o0 x1 x2 x3 r2 1
def f_X7_select_b14 (o0 : ObS) (x1 : Int32) (k14_0 : Int32) : Option (Int32 × ObS) :=
  (f_X7_holds o0 k14_0).bind fun r14 =>
  if r14.1 = (0 : Int32) then
    some ((0 : Int32), r14.2)
  else
    if inb x1 12 then
    if (r14.2.1 9 (x1).toNatClampNeg) = (0 : Int32) then
      if inb x1 12 then
      (some (oi r14.2 9 (x1).toNatClampNeg (vp_nar .boolean 1))).bind fun s41 =>
      if inb x1 12 then
      if isb (s41.1 9 (x1).toNatClampNeg) then
      some (s41.1 9 (x1).toNatClampNeg, s41)
      else none
      else none
      else none
    else
      if inb x1 12 then
      (some (oi r14.2 9 (x1).toNatClampNeg (vp_nar .boolean 0))).bind fun s41 =>
      if inb x1 12 then
      if isb (s41.1 9 (x1).toNatClampNeg) then
      some (s41.1 9 (x1).toNatClampNeg, s41)
      else none
      else none
      else none
    else none
def f_X7_select (o0 : ObS) (x1 : Int32) : Option (Int32 × ObS) :=
  (f_X7_isUnit o0 x1).bind fun r3 =>
  if r3 = (0 : Int32) then
    f_X7_select_b14 o0 x1 1
  else
    f_X7_select_b14 o0 x1 0
def f_X7_warmthFor (x1 : Int64) (x2 : Int64) : Option (Int64) :=
  if (lg_cmp x1 0) = (0 : Int32) then
    some ((0 : Int64))
  else
    if decide (¬ x1 = (0 : Int64)) then
    some ((10 * x2) / x1)
    else none
def f_X7_warmthOf (o0 : ObS) (x1 : Int32) : Option (Int32) :=
  if inb x1 24 then
  if inb x1 24 then
  (f_X7_warmthFor (o0.2 10 (x1).toNatClampNeg) (o0.2 11 (x1).toNatClampNeg)).bind fun r12 =>
  some (r12.toInt32)
  else none
  else none
def f_X7_disturbs_b4  : Nat → Int32 → Int32 → ObS → Option (ObS)
  | 0, _, _, _ => none
  | n + 1, v4_2, v4_1, o4_0 =>
  if (o4_0.1 18 0) ≤ v4_2 then
    (some (oi o4_0 18 0 v4_1)).bind fun s92 =>
    some (s92)
  else
    if inb v4_2 40 then
    if (o4_0.1 19 (v4_2).toNatClampNeg) = (o4_0.1 1 0) then
      if inb v4_2 40 then
      if inb v4_2 40 then
      if inb (o4_0.1 20 (v4_2).toNatClampNeg) 12 then
      (some (oi o4_0 4 (o4_0.1 20 (v4_2).toNatClampNeg).toNatClampNeg (o4_0.1 21 (v4_2).toNatClampNeg))).bind fun s41 =>
      f_X7_disturbs_b4 n (v4_2 + 1) v4_1 s41
      else none
      else none
      else none
    else
      if inb v4_2 40 then
      if inb v4_1 40 then
      (some (oi o4_0 19 (v4_1).toNatClampNeg (o4_0.1 19 (v4_2).toNatClampNeg))).bind fun s56 =>
      if inb v4_2 40 then
      if inb v4_1 40 then
      (some (oi s56 20 (v4_1).toNatClampNeg (s56.1 20 (v4_2).toNatClampNeg))).bind fun s68 =>
      if inb v4_2 40 then
      if inb v4_1 40 then
      (some (oi s68 21 (v4_1).toNatClampNeg (s68.1 21 (v4_2).toNatClampNeg))).bind fun s80 =>
      f_X7_disturbs_b4 n (v4_2 + 1) (v4_1 + 1) s80
      else none
      else none
      else none
      else none
      else none
      else none
    else none
def f_X7_disturbs (o0 : ObS) : Option (ObS) :=
  f_X7_disturbs_b4 64 0 0 o0
def f_X7_warns_b41 (o0 : ObS) (x1 : Int32) (k25_0 : Int32) (k41_0 : Int32) : Option (ObS) :=
  if k41_0 = (0 : Int32) then
    if inb x1 6 then
    (some (oi o0 35 (x1).toNatClampNeg (vp_nar .boolean k41_0))).bind fun s111 =>
    some (s111)
    else none
  else
    if inb x1 6 then
    if (o0.1 35 (x1).toNatClampNeg) = (0 : Int32) then
      if inb x1 6 then
      if inb (o0.1 37 0) 1800 then
      (some (oi o0 38 (o0.1 37 0).toNatClampNeg (k25_0 - (o0.1 31 (x1).toNatClampNeg)))).bind fun s71 =>
      if inb (s71.1 37 0) 1800 then
      (some (oi s71 39 (s71.1 37 0).toNatClampNeg (s71.1 1 0))).bind fun s84 =>
      if inb (s84.1 37 0) 1800 then
      (some (oi s84 40 (s84.1 37 0).toNatClampNeg x1)).bind fun s94 =>
      (some (oi s94 37 0 ((s94.1 37 0) + 1))).bind fun s102 =>
      if inb x1 6 then
      (some (oi s102 35 (x1).toNatClampNeg (vp_nar .boolean k41_0))).bind fun s111 =>
      some (s111)
      else none
      else none
      else none
      else none
      else none
    else
      if inb x1 6 then
      (some (oi o0 35 (x1).toNatClampNeg (vp_nar .boolean k41_0))).bind fun s111 =>
      some (s111)
      else none
    else none
def f_X7_warns_b25 (o0 : ObS) (x1 : Int32) (k25_0 : Int32) : Option (ObS) :=
  if inb x1 6 then
  if k25_0 ≤ (o0.1 31 (x1).toNatClampNeg) then
    f_X7_warns_b41 o0 x1 k25_0 0
  else
    f_X7_warns_b41 o0 x1 k25_0 1
  else none
def f_X7_warns (o0 : ObS) (x1 : Int32) : Option (ObS) :=
  if inb x1 6 then
  if (0 : Int32) ≤ (o0.1 34 (x1).toNatClampNeg) then
    if inb x1 6 then
    f_X7_warns_b25 o0 x1 (o0.1 34 (x1).toNatClampNeg)
    else none
  else
    if inb x1 6 then
    f_X7_warns_b25 o0 x1 (-(o0.1 34 (x1).toNatClampNeg))
    else none
  else none
def f_X7_works_b143 (x1 : Int32) (s97 : ObS) (k143_0 : Int64) : Option (ObS) :=
  if inb x1 6 then
  (some (oj s97 36 (x1).toNatClampNeg k143_0)).bind fun s143 =>
  if inb x1 6 then
  if inb x1 6 then
  if inb x1 6 then
  if inb x1 6 then
  (some (oj s143 33 (x1).toNatClampNeg ((((s143.1 26 (x1).toNatClampNeg).toInt64) + ((s143.2 32 (x1).toNatClampNeg) / 1000)) + (s143.2 36 (x1).toNatClampNeg)))).bind fun s174 =>
  if inb x1 6 then
  if ((s174.1 27 (x1).toNatClampNeg) - 100) < (0 : Int32) then
    (f_X7_warns s174 x1).bind fun r227 =>
    some (r227)
  else
    if (s174.1 22 0) ≤ ((s174.1 27 (x1).toNatClampNeg) - 100) then
      (f_X7_warns s174 x1).bind fun r227 =>
      some (r227)
    else
      (f_X7_isRatio s174 ((s174.1 27 (x1).toNatClampNeg) - 100)).bind fun r199 =>
      if r199 = (0 : Int32) then
        if inb x1 6 then
        if inb ((s174.1 27 (x1).toNatClampNeg) - 100) 6 then
        (some (oi s174 24 ((s174.1 27 (x1).toNatClampNeg) - 100).toNatClampNeg ((f_X7_held (s174.2 33 (x1).toNatClampNeg) 0 3000).toInt32))).bind fun s224 =>
        (f_X7_warns s224 x1).bind fun r227 =>
        some (r227)
        else none
        else none
      else
        (f_X7_warns s174 x1).bind fun r227 =>
        some (r227)
  else none
  else none
  else none
  else none
  else none
  else none
def f_X7_works (o0 : ObS) (x1 : Int32) : Option (ObS) :=
  (f_X7_isRatio o0 x1).bind fun r2 =>
  if r2 = (0 : Int32) then
    if inb x1 6 then
    if inb x1 6 then
    (f_X7_warmthOf o0 (o0.1 23 (x1).toNatClampNeg)).bind fun r56 =>
    if inb x1 6 then
    (some (oi o0 34 (x1).toNatClampNeg ((o0.1 24 (x1).toNatClampNeg) - r56))).bind fun s60 =>
    if inb x1 6 then
    if inb x1 6 then
    if inb x1 6 then
    if inb x1 6 then
    (some (oj s60 32 (x1).toNatClampNeg (f_X7_held ((s60.2 32 (x1).toNatClampNeg) + (((s60.1 25 (x1).toNatClampNeg).toInt64) * ((s60.1 34 (x1).toNatClampNeg).toInt64))) (-10000000) 10000000))).bind fun s97 =>
    if inb x1 6 then
    if (s97.1 30 (x1).toNatClampNeg) = (0 : Int32) then
      f_X7_works_b143 x1 s97 0
    else
      if inb x1 6 then
      if inb x1 6 then
      (f_X7_warmthOf s97 (s97.1 29 (x1).toNatClampNeg)).bind fun r130 =>
      f_X7_works_b143 x1 s97 ((((s97.1 30 (x1).toNatClampNeg).toInt64) * ((r130 - 200).toInt64)) / 100)
      else none
      else none
    else none
    else none
    else none
    else none
    else none
    else none
    else none
    else none
  else
    if inb x1 6 then
    if inb (o0.1 23 (x1).toNatClampNeg) 24 then
    if inb x1 6 then
    if inb x1 6 then
    (some (oj o0 33 (x1).toNatClampNeg (((o0.2 10 (o0.1 23 (x1).toNatClampNeg).toNatClampNeg) * ((o0.1 28 (x1).toNatClampNeg).toInt64)) / 100))).bind fun s36 =>
    some (s36)
    else none
    else none
    else none
    else none
def f_X7_driven_b103 (x1 : Int32) (v4_2 : Int32) : Nat → Int32 → ObS → Option (ObS)
  | 0, _, _ => none
  | n + 1, v103_3, o103_0 =>
  if (o103_0.1 22 0) ≤ v103_3 then
    if inb v4_2 6 then
    if inb x1 12 then
    if inb x1 12 then
    (some (oi o103_0 4 (x1).toNatClampNeg ((f_X7_held (o103_0.2 33 (v4_2).toNatClampNeg) 0 (((f_X7_mostOf (o103_0.1 3 (x1).toNatClampNeg))).toInt64)).toInt32))).bind fun s217 =>
    some (s217)
    else none
    else none
    else none
  else
    if inb v103_3 6 then
    if (o103_0.1 27 (v103_3).toNatClampNeg) = x1 then
      (f_X7_isRatio o103_0 v103_3).bind fun r123 =>
      if r123 = (0 : Int32) then
        if inb v103_3 6 then
        if inb v4_2 6 then
        if (lg_cmp (o103_0.2 33 (v103_3).toNatClampNeg) (o103_0.2 33 (v4_2).toNatClampNeg)) = (0 : Int32) then
          f_X7_driven_b103 x1 v4_2 n (v103_3 + 1) o103_0
        else
          if inb v4_2 6 then
          if inb v103_3 6 then
          if inb v103_3 6 then
          if inb v103_3 6 then
          (some (oj o103_0 32 (v103_3).toNatClampNeg (f_X7_held ((((o103_0.2 33 (v4_2).toNatClampNeg) - ((o103_0.1 26 (v103_3).toNatClampNeg).toInt64)) - (o103_0.2 36 (v103_3).toNatClampNeg)) * 1000) (-10000000) 10000000))).bind fun s184 =>
          f_X7_driven_b103 x1 v4_2 n (v103_3 + 1) s184
          else none
          else none
          else none
          else none
        else none
        else none
      else
        f_X7_driven_b103 x1 v4_2 n (v103_3 + 1) o103_0
    else
      f_X7_driven_b103 x1 v4_2 n (v103_3 + 1) o103_0
    else none
def f_X7_driven_b71 (k : Int32 → Int32 → Option (ObS)) (v4_3 : Int32)  : Option (ObS) :=
  k (v4_3 + 1) v4_3
def f_X7_driven_b4 (o0 : ObS) (x1 : Int32) : Nat → Int32 → Int32 → Option (ObS)
  | 0, _, _ => none
  | n + 1, v4_3, v4_2 =>
  if (o0.1 22 0) ≤ v4_3 then
    if v4_2 = (-1) then
      some (o0)
    else
      f_X7_driven_b103 x1 v4_2 64 0 o0
  else
    if inb v4_3 6 then
    if (o0.1 27 (v4_3).toNatClampNeg) = x1 then
      if v4_2 = (-1) then
        f_X7_driven_b71 (f_X7_driven_b4 o0 x1 n) v4_3
      else
        if inb x1 12 then
        if (o0.1 9 (x1).toNatClampNeg) = (0 : Int32) then
          if inb v4_3 6 then
          if inb v4_2 6 then
          if (0 : Int32) ≤ (lg_cmp (o0.2 33 (v4_3).toNatClampNeg) (o0.2 33 (v4_2).toNatClampNeg)) then
            f_X7_driven_b4 o0 x1 n (v4_3 + 1) v4_2
          else
            f_X7_driven_b71 (f_X7_driven_b4 o0 x1 n) v4_3
          else none
          else none
        else
          if inb v4_3 6 then
          if inb v4_2 6 then
          if (lg_cmp (o0.2 33 (v4_3).toNatClampNeg) (o0.2 33 (v4_2).toNatClampNeg)) ≤ (0 : Int32) then
            f_X7_driven_b4 o0 x1 n (v4_3 + 1) v4_2
          else
            f_X7_driven_b71 (f_X7_driven_b4 o0 x1 n) v4_3
          else none
          else none
        else none
    else
      f_X7_driven_b4 o0 x1 n (v4_3 + 1) v4_2
    else none
def f_X7_driven (o0 : ObS) (x1 : Int32) : Option (ObS) :=
  f_X7_driven_b4 o0 x1 64 0 (-1)
def f_X7_takenFlow (o0 : ObS) (x1 : Int32) (x2 : Int32) : Option (Int64) :=
  if x1 ≤ (x2 / 2) then
    if inb x2 24 then
    some (o0.2 12 (x2).toNatClampNeg)
    else none
  else
    if inb x2 24 then
    some (o0.2 10 (x2).toNatClampNeg)
    else none
def f_X7_takenHeat (o0 : ObS) (x1 : Int32) (x2 : Int32) : Option (Int64) :=
  if x1 ≤ (x2 / 2) then
    if inb x2 24 then
    some (o0.2 13 (x2).toNatClampNeg)
    else none
  else
    if inb x2 24 then
    some (o0.2 11 (x2).toNatClampNeg)
    else none
def f_X7_gives (o0 : ObS) (x1 : Int32) (x2 : Int64) (x3 : Int64) (x4 : Int64) (x5 : Int64) : Option (ObS) :=
  if inb (2 * x1) 24 then
  (some (oj o0 10 (2 * x1).toNatClampNeg x2)).bind fun s8 =>
  if inb (2 * x1) 24 then
  (some (oj s8 11 (2 * x1).toNatClampNeg x3)).bind fun s18 =>
  if inb ((2 * x1) + 1) 24 then
  (some (oj s18 10 ((2 * x1) + 1).toNatClampNeg x4)).bind fun s30 =>
  if inb ((2 * x1) + 1) 24 then
  (some (oj s30 11 ((2 * x1) + 1).toNatClampNeg x5)).bind fun s42 =>
  some (s42)
  else none
  else none
  else none
  else none
def f_X7_runs_b322 (x1 : Int32) (s14 : ObS) (r46 : Int64) (r59 : Int64) (k322_0 : Int64) : Option (ObS) :=
  if inb x1 12 then
  (some (oi s14 8 (x1).toNatClampNeg k322_0.toInt32)).bind fun s332 =>
  (f_X7_gives s332 x1 r46 (r59 - k322_0) 0 0).bind fun r344 =>
  some (r344)
  else none
def f_X7_runs_b264 (x1 : Int32) (s14 : ObS) (r46 : Int64) (r59 : Int64) (k87_0 : Int64) (k112_0 : Int64) (k264_0 : Int64) : Option (ObS) :=
  if inb x1 12 then
  (some (oi s14 8 (x1).toNatClampNeg ((f_X7_held k264_0 (-k112_0) r59).toInt32))).bind fun s286 =>
  (f_X7_gives s286 x1 r46 (r59 - (f_X7_held k264_0 (-k112_0) r59)) k87_0 (k112_0 + (f_X7_held k264_0 (-k112_0) r59))).bind fun r303 =>
  some (r303)
  else none
def f_X7_runs_b220 (x1 : Int32) (x2 : Int64) (s14 : ObS) (r46 : Int64) (r59 : Int64) (k87_0 : Int64) (k112_0 : Int64) (k220_0 : Int64) : Option (ObS) :=
  if (lg_cmp (x2 + k220_0) 0) = (0 : Int32) then
    f_X7_runs_b264 x1 s14 r46 r59 k87_0 k112_0 0
  else
    (f_X7_warmthFor r46 r59).bind fun r243 =>
    (f_X7_warmthFor k87_0 k112_0).bind fun r250 =>
    if decide (¬ (10 * (x2 + k220_0)) = (0 : Int64)) then
    f_X7_runs_b264 x1 s14 r46 r59 k87_0 k112_0 (((x2 * k220_0) * (r243 - r250)) / (10 * (x2 + k220_0)))
    else none
def f_X7_runs_b149 (x1 : Int32) (x2 : Int64) (s14 : ObS) (r46 : Int64) (r59 : Int64) (k149_0 : Int64) : Option (ObS) :=
  (f_X7_gives s14 x1 ((r46 * x2) / 100) k149_0 (r46 - ((r46 * x2) / 100)) (r59 - k149_0)).bind fun r167 =>
  some (r167)
def f_X7_runs_b112 (o0 : ObS) (x1 : Int32) (x2 : Int64) (s14 : ObS) (r46 : Int64) (r59 : Int64) (k87_0 : Int64) (k112_0 : Int64) : Option (ObS) :=
  if (o0.1 3 (x1).toNatClampNeg) = 1 then
    if (lg_cmp r46 0) = (0 : Int32) then
      f_X7_runs_b149 x1 x2 s14 r46 r59 0
    else
      if decide (¬ r46 = (0 : Int64)) then
      f_X7_runs_b149 x1 x2 s14 r46 r59 ((r59 * ((r46 * x2) / 100)) / r46)
      else none
  else
    if (o0.1 3 (x1).toNatClampNeg) = 2 then
      (f_X7_gives s14 x1 (r46 + k87_0) (r59 + k112_0) 0 0).bind fun r193 =>
      some (r193)
    else
      if (o0.1 3 (x1).toNatClampNeg) = 3 then
        if (0 : Int32) ≤ (lg_cmp r46 k87_0) then
          f_X7_runs_b220 x1 x2 s14 r46 r59 k87_0 k112_0 k87_0
        else
          f_X7_runs_b220 x1 x2 s14 r46 r59 k87_0 k112_0 r46
      else
        if (0 : Int32) ≤ (lg_cmp r59 x2) then
          f_X7_runs_b322 x1 s14 r46 r59 x2
        else
          f_X7_runs_b322 x1 s14 r46 r59 r59
def f_X7_runs_b87 (o0 : ObS) (x1 : Int32) (x2 : Int64) (s14 : ObS) (r46 : Int64) (r59 : Int64) (k87_0 : Int64) : Option (ObS) :=
  if (f_X7_takesTwo (o0.1 3 (x1).toNatClampNeg)) = (0 : Int32) then
    f_X7_runs_b112 o0 x1 x2 s14 r46 r59 k87_0 0
  else
    if inb x1 12 then
    (f_X7_takenHeat s14 x1 (s14.1 7 (x1).toNatClampNeg)).bind fun r105 =>
    f_X7_runs_b112 o0 x1 x2 s14 r46 r59 k87_0 r105
    else none
def f_X7_runs (o0 : ObS) (x1 : Int32) (x2 : Int64) : Option (ObS) :=
  if inb x1 12 then
  if inb x1 12 then
  (some (oi o0 8 (x1).toNatClampNeg 0)).bind fun s14 =>
  if (o0.1 3 (x1).toNatClampNeg) = (0 : Int32) then
    if inb x1 12 then
    (f_X7_gives s14 x1 x2 (x2 * ((s14.1 5 (x1).toNatClampNeg).toInt64)) 0 0).bind fun r34 =>
    some (r34)
    else none
  else
    if inb x1 12 then
    (f_X7_takenFlow s14 x1 (s14.1 6 (x1).toNatClampNeg)).bind fun r46 =>
    if inb x1 12 then
    (f_X7_takenHeat s14 x1 (s14.1 6 (x1).toNatClampNeg)).bind fun r59 =>
    if (f_X7_takesTwo (o0.1 3 (x1).toNatClampNeg)) = (0 : Int32) then
      f_X7_runs_b87 o0 x1 x2 s14 r46 r59 0
    else
      if inb x1 12 then
      (f_X7_takenFlow s14 x1 (s14.1 7 (x1).toNatClampNeg)).bind fun r80 =>
      f_X7_runs_b87 o0 x1 x2 s14 r46 r59 r80
      else none
    else none
    else none
  else none
  else none
def f_X7_ages_b2  : Nat → Int32 → ObS → Option (ObS)
  | 0, _, _ => none
  | n + 1, v2_1, o2_0 =>
  if 24 ≤ v2_1 then
    some (o2_0)
  else
    if inb v2_1 24 then
    if inb v2_1 24 then
    (some (oj o2_0 12 (v2_1).toNatClampNeg (o2_0.2 10 (v2_1).toNatClampNeg))).bind fun s19 =>
    if inb v2_1 24 then
    if inb v2_1 24 then
    (some (oj s19 13 (v2_1).toNatClampNeg (s19.2 11 (v2_1).toNatClampNeg))).bind fun s31 =>
    f_X7_ages_b2 n (v2_1 + 1) s31
    else none
    else none
    else none
    else none
def f_X7_ages (o0 : ObS) : Option (ObS) :=
  f_X7_ages_b2 64 0 o0
def f_X7_ticks_b90  : Nat → Int32 → ObS → Option (ObS)
  | 0, _, _ => none
  | n + 1, v90_1, o90_0 =>
  if (2 * (o90_0.1 2 0)) ≤ v90_1 then
    some (o90_0)
  else
    (f_X7_warmthOf o90_0 v90_1).bind fun r117 =>
    if inb ((24 * ((o90_0.1 1 0) - 1)) + v90_1) 7200 then
    (some (oi o90_0 17 ((24 * ((o90_0.1 1 0) - 1)) + v90_1).toNatClampNeg r117)).bind fun s120 =>
    f_X7_ticks_b90 n (v90_1 + 1) s120
    else none
def f_X7_ticks_b62  : Nat → Int32 → ObS → Option (ObS)
  | 0, _, _ => none
  | n + 1, v62_1, o62_0 =>
  if (o62_0.1 2 0) ≤ v62_1 then
    f_X7_ticks_b90 64 0 o62_0
  else
    if inb v62_1 12 then
    (f_X7_runs o62_0 v62_1 ((o62_0.1 4 (v62_1).toNatClampNeg).toInt64)).bind fun r79 =>
    f_X7_ticks_b62 n (v62_1 + 1) r79
    else none
def f_X7_ticks_b37  : Nat → Int32 → ObS → Option (ObS)
  | 0, _, _ => none
  | n + 1, v37_1, o37_0 =>
  if (o37_0.1 2 0) ≤ v37_1 then
    (f_X7_ages o37_0).bind fun r57 =>
    f_X7_ticks_b62 64 0 r57
  else
    (f_X7_driven o37_0 v37_1).bind fun r47 =>
    f_X7_ticks_b37 n (v37_1 + 1) r47
def f_X7_ticks_b16  : Nat → Int32 → ObS → Option (ObS)
  | 0, _, _ => none
  | n + 1, v16_1, o16_0 =>
  if (o16_0.1 22 0) ≤ v16_1 then
    f_X7_ticks_b37 64 0 o16_0
  else
    (f_X7_works o16_0 v16_1).bind fun r26 =>
    f_X7_ticks_b16 n (v16_1 + 1) r26
def f_X7_ticks (o0 : ObS) : Option (ObS) :=
  (some (oi o0 1 0 ((o0.1 1 0) + 1))).bind fun s7 =>
  (f_X7_disturbs s7).bind fun r11 =>
  f_X7_ticks_b16 64 0 r11
def f_X7_tick_b42 (x1 : Int32) : Nat → Int32 → ObS → Option (Int32 × ObS)
  | 0, _, _ => none
  | n + 1, v42_2, o42_0 =>
  if x1 ≤ v42_2 then
    some (o42_0.1 1 0, o42_0)
  else
    (f_X7_ticks o42_0).bind fun r48 =>
    f_X7_tick_b42 x1 n (v42_2 + 1) r48
def f_X7_tick (o0 : ObS) (x1 : Int32) : Option (Int32 × ObS) :=
  if (f_X7_in x1 1 50) = (0 : Int32) then
    (f_X7_holds o0 1).bind fun r32 =>
    if r32.1 = (0 : Int32) then
      some ((0 : Int32), r32.2)
    else
      f_X7_tick_b42 x1 64 0 r32.2
  else
    if ((o0.1 1 0) + x1) ≤ 300 then
      (f_X7_holds o0 0).bind fun r32 =>
      if r32.1 = (0 : Int32) then
        some ((0 : Int32), r32.2)
      else
        f_X7_tick_b42 x1 64 0 r32.2
    else
      (f_X7_holds o0 2).bind fun r32 =>
      if r32.1 = (0 : Int32) then
        some ((0 : Int32), r32.2)
      else
        f_X7_tick_b42 x1 64 0 r32.2
def f_X7_quit_b72 (s2 : ObS) (v18_1 : Int32) : Nat → Int32 → ObS → Option (Int32 × ObS)
  | 0, _, _ => none
  | n + 1, v72_3, o72_0 =>
  if (o72_0.1 37 0) ≤ v72_3 then
    some (s2.1 40 (v18_1).toNatClampNeg, o72_0)
  else
    if inb (v72_3 + 1) 1800 then
    if inb v72_3 1800 then
    (some (oi o72_0 38 (v72_3).toNatClampNeg (o72_0.1 38 (v72_3 + 1).toNatClampNeg))).bind fun s93 =>
    if inb (v72_3 + 1) 1800 then
    if inb v72_3 1800 then
    (some (oi s93 39 (v72_3).toNatClampNeg (s93.1 39 (v72_3 + 1).toNatClampNeg))).bind fun s107 =>
    if inb (v72_3 + 1) 1800 then
    if inb v72_3 1800 then
    (some (oi s107 40 (v72_3).toNatClampNeg (s107.1 40 (v72_3 + 1).toNatClampNeg))).bind fun s121 =>
    f_X7_quit_b72 s2 v18_1 n (v72_3 + 1) s121
    else none
    else none
    else none
    else none
    else none
    else none
def f_X7_quit_b18 (s2 : ObS) : Nat → Int32 → Int32 → Option (Int32 × ObS)
  | 0, _, _ => none
  | n + 1, v18_2, v18_1 =>
  if (s2.1 37 0) ≤ v18_2 then
    if inb v18_1 1800 then
    (some (oi s2 37 0 ((s2.1 37 0) - 1))).bind fun s67 =>
    f_X7_quit_b72 s2 v18_1 1900 v18_1 s67
    else none
  else
    if inb v18_2 1800 then
    if inb v18_1 1800 then
    if (s2.1 38 (v18_2).toNatClampNeg) ≤ (s2.1 38 (v18_1).toNatClampNeg) then
      f_X7_quit_b18 s2 n (v18_2 + 1) v18_1
    else
      f_X7_quit_b18 s2 n (v18_2 + 1) v18_2
    else none
    else none
def f_X7_quit (o0 : ObS) : Option (Int32 × ObS) :=
  (some (oi o0 0 0 0)).bind fun s2 =>
  if (s2.1 37 0) = (0 : Int32) then
    some ((-1 : Int32), s2)
  else
    f_X7_quit_b18 s2 1900 1 0
def f_X7_of_b27 (o0 : ObS) (x1 : Int32) (x2 : Int32) (k27_0 : Int32) : Option (Int32 × ObS) :=
  (f_X7_holds o0 k27_0).bind fun r27 =>
  if r27.1 = (0 : Int32) then
    some ((0 : Int32), r27.2)
  else
    if x2 = (0 : Int32) then
      if inb x1 24 then
      some ((r27.2.2 10 (x1).toNatClampNeg).toInt32, r27.2)
      else none
    else
      if x2 = 1 then
        if inb x1 24 then
        some ((r27.2.2 11 (x1).toNatClampNeg).toInt32, r27.2)
        else none
      else
        (f_X7_warmthOf r27.2 x1).bind fun r66 =>
        some (r66, r27.2)
def f_X7_of (o0 : ObS) (x1 : Int32) (x2 : Int32) : Option (Int32 × ObS) :=
  (f_X7_isStream o0 x1).bind fun r3 =>
  if r3 = (0 : Int32) then
    f_X7_of_b27 o0 x1 x2 1
  else
    if (f_X7_in x2 0 2) = (0 : Int32) then
      f_X7_of_b27 o0 x1 x2 2
    else
      f_X7_of_b27 o0 x1 x2 0
def f_X7_ofUnit_b27 (o0 : ObS) (x1 : Int32) (x2 : Int32) (k27_0 : Int32) : Option (Int32 × ObS) :=
  (f_X7_holds o0 k27_0).bind fun r27 =>
  if r27.1 = (0 : Int32) then
    some ((0 : Int32), r27.2)
  else
    if x2 = (0 : Int32) then
      if inb x1 12 then
      some (r27.2.1 4 (x1).toNatClampNeg, r27.2)
      else none
    else
      if inb x1 12 then
      some (r27.2.1 8 (x1).toNatClampNeg, r27.2)
      else none
def f_X7_ofUnit (o0 : ObS) (x1 : Int32) (x2 : Int32) : Option (Int32 × ObS) :=
  (f_X7_isUnit o0 x1).bind fun r3 =>
  if r3 = (0 : Int32) then
    f_X7_ofUnit_b27 o0 x1 x2 1
  else
    if (f_X7_in x2 0 1) = (0 : Int32) then
      f_X7_ofUnit_b27 o0 x1 x2 2
    else
      f_X7_ofUnit_b27 o0 x1 x2 0
def f_X7_ofController_b27 (o0 : ObS) (x1 : Int32) (x2 : Int32) (k27_0 : Int32) : Option (Int32 × ObS) :=
  (f_X7_holds o0 k27_0).bind fun r27 =>
  if r27.1 = (0 : Int32) then
    some ((0 : Int32), r27.2)
  else
    if x2 = (0 : Int32) then
      if inb x1 6 then
      some (r27.2.1 24 (x1).toNatClampNeg, r27.2)
      else none
    else
      if x2 = 1 then
        if inb x1 6 then
        some ((r27.2.2 32 (x1).toNatClampNeg).toInt32, r27.2)
        else none
      else
        if x2 = 2 then
          if inb x1 6 then
          some ((r27.2.2 33 (x1).toNatClampNeg).toInt32, r27.2)
          else none
        else
          if inb x1 6 then
          some (r27.2.1 34 (x1).toNatClampNeg, r27.2)
          else none
def f_X7_ofController (o0 : ObS) (x1 : Int32) (x2 : Int32) : Option (Int32 × ObS) :=
  (f_X7_isController o0 x1).bind fun r3 =>
  if r3 = (0 : Int32) then
    f_X7_ofController_b27 o0 x1 x2 1
  else
    if (f_X7_in x2 0 3) = (0 : Int32) then
      f_X7_ofController_b27 o0 x1 x2 2
    else
      f_X7_ofController_b27 o0 x1 x2 0
def f_X7_trend_b26 (o0 : ObS) (x1 : Int32) (x2 : Int32) (k26_0 : Int32) : Option (Int32 × ObS) :=
  (f_X7_holds o0 k26_0).bind fun r26 =>
  if r26.1 = (0 : Int32) then
    some ((0 : Int32), r26.2)
  else
    if inb ((24 * (x2 - 1)) + x1) 7200 then
    some (r26.2.1 17 ((24 * (x2 - 1)) + x1).toNatClampNeg, r26.2)
    else none
def f_X7_trend_b25 (o0 : ObS) (x1 : Int32) (x2 : Int32)  : Option (Int32 × ObS) :=
  f_X7_trend_b26 o0 x1 x2 1
def f_X7_trend (o0 : ObS) (x1 : Int32) (x2 : Int32) : Option (Int32 × ObS) :=
  (f_X7_isStream o0 x1).bind fun r3 =>
  if r3 = (0 : Int32) then
    f_X7_trend_b25 o0 x1 x2
  else
    if (f_X7_in x2 1 (o0.1 1 0)) = (0 : Int32) then
      f_X7_trend_b25 o0 x1 x2
    else
      f_X7_trend_b26 o0 x1 x2 0
def f_X7_balance (o0 : ObS) : Option (Int32 × ObS) :=
  (some (oi o0 0 0 0)).bind fun s2 =>
  some ((0 : Int32), s2)
def f_X7_alarms (o0 : ObS) : Option (Int32 × ObS) :=
  (some (oi o0 0 0 0)).bind fun s2 =>
  some (s2.1 37 0, s2)
def f_X7_keeps_b120 (k : Int32 → ObS → Option (ObS)) (v90_2 : Int32) (o90_0 : ObS) (k120_0 : Int32) : Option (ObS) :=
  if inb v90_2 12 then
  (some (oi o90_0 16 (v90_2).toNatClampNeg k120_0)).bind fun s120 =>
  if inb v90_2 12 then
  if inb v90_2 12 then
  (some (oi s120 8 (v90_2).toNatClampNeg (s120.1 16 (v90_2).toNatClampNeg))).bind fun s132 =>
  k (v90_2 + 1) s132
  else none
  else none
  else none
def f_X7_keeps_b90 (x1 : Int32) : Nat → Int32 → ObS → Option (ObS)
  | 0, _, _ => none
  | n + 1, v90_2, o90_0 =>
  if 12 ≤ v90_2 then
    some (o90_0)
  else
    if x1 = (0 : Int32) then
      if inb v90_2 12 then
      f_X7_keeps_b120 (f_X7_keeps_b90 x1 n) v90_2 o90_0 (o90_0.1 8 (v90_2).toNatClampNeg)
      else none
    else
      if inb v90_2 12 then
      f_X7_keeps_b120 (f_X7_keeps_b90 x1 n) v90_2 o90_0 (o90_0.1 16 (v90_2).toNatClampNeg)
      else none
def f_X7_keeps_b57 (k : Int32 → ObS → Option (ObS)) (s32 : ObS) (v2_2 : Int32) (k57_0 : Int64) : Option (ObS) :=
  if inb v2_2 24 then
  (some (oj s32 15 (v2_2).toNatClampNeg k57_0)).bind fun s57 =>
  if inb v2_2 24 then
  if inb v2_2 24 then
  (some (oj s57 10 (v2_2).toNatClampNeg (s57.2 14 (v2_2).toNatClampNeg))).bind fun s69 =>
  if inb v2_2 24 then
  if inb v2_2 24 then
  (some (oj s69 11 (v2_2).toNatClampNeg (s69.2 15 (v2_2).toNatClampNeg))).bind fun s81 =>
  k (v2_2 + 1) s81
  else none
  else none
  else none
  else none
  else none
def f_X7_keeps_b32 (k : Int32 → ObS → Option (ObS)) (x1 : Int32) (v2_2 : Int32) (o2_0 : ObS) (k32_0 : Int64) : Option (ObS) :=
  if inb v2_2 24 then
  (some (oj o2_0 14 (v2_2).toNatClampNeg k32_0)).bind fun s32 =>
  if x1 = (0 : Int32) then
    if inb v2_2 24 then
    f_X7_keeps_b57 k s32 v2_2 (s32.2 11 (v2_2).toNatClampNeg)
    else none
  else
    if inb v2_2 24 then
    f_X7_keeps_b57 k s32 v2_2 (s32.2 15 (v2_2).toNatClampNeg)
    else none
  else none
def f_X7_keeps_b2 (x1 : Int32) : Nat → Int32 → ObS → Option (ObS)
  | 0, _, _ => none
  | n + 1, v2_2, o2_0 =>
  if 24 ≤ v2_2 then
    f_X7_keeps_b90 x1 64 0 o2_0
  else
    if x1 = (0 : Int32) then
      if inb v2_2 24 then
      f_X7_keeps_b32 (f_X7_keeps_b2 x1 n) x1 v2_2 o2_0 (o2_0.2 10 (v2_2).toNatClampNeg)
      else none
    else
      if inb v2_2 24 then
      f_X7_keeps_b32 (f_X7_keeps_b2 x1 n) x1 v2_2 o2_0 (o2_0.2 14 (v2_2).toNatClampNeg)
      else none
def f_X7_keeps (o0 : ObS) (x1 : Int32) : Option (ObS) :=
  f_X7_keeps_b2 x1 64 0 o0
def f_X7_now (o0 : ObS) : Option (Int32 × ObS) :=
  (some (oi o0 0 0 0)).bind fun s2 =>
  some (s2.1 1 0, s2)
def f_X7_warmthBehind_b53 (k : Int32 → ObS → Option (Int32 × ObS)) (x3 : Int32) (v22_5 : Int32) (o22_0 : ObS) (k53_0 : Int32) : Option (Int32 × ObS) :=
  if k53_0 = (0 : Int32) then
    if inb v22_5 12 then
    (f_X7_runs o22_0 v22_5 ((o22_0.1 4 (v22_5).toNatClampNeg).toInt64)).bind fun r100 =>
    k (v22_5 + 1) r100
    else none
  else
    if inb v22_5 12 then
    if inb v22_5 12 then
    (f_X7_runs o22_0 v22_5 (f_X7_held (((o22_0.1 4 (v22_5).toNatClampNeg).toInt64) + x3.toInt64) 0 (((f_X7_mostOf (o22_0.1 3 (v22_5).toNatClampNeg))).toInt64))).bind fun r100 =>
    k (v22_5 + 1) r100
    else none
    else none
def f_X7_warmthBehind_b52 (k : Int32 → ObS → Option (Int32 × ObS)) (x3 : Int32) (v22_5 : Int32) (o22_0 : ObS)  : Option (Int32 × ObS) :=
  f_X7_warmthBehind_b53 k x3 v22_5 o22_0 0
def f_X7_warmthBehind_b22 (k : Int32 → ObS → Option (Int32 × ObS)) (x2 : Int32) (x3 : Int32) (v8_4 : Int32) : Nat → Int32 → ObS → Option (Int32 × ObS)
  | 0, _, _ => none
  | n + 1, v22_5, o22_0 =>
  if (o22_0.1 2 0) ≤ v22_5 then
    k (v8_4 + 1) o22_0
  else
    if v22_5 = x2 then
      if inb v22_5 12 then
      if (o22_0.1 3 (v22_5).toNatClampNeg) = 2 then
        f_X7_warmthBehind_b52 (f_X7_warmthBehind_b22 k x2 x3 v8_4 n) x3 v22_5 o22_0
      else
        f_X7_warmthBehind_b53 (f_X7_warmthBehind_b22 k x2 x3 v8_4 n) x3 v22_5 o22_0 1
      else none
    else
      f_X7_warmthBehind_b52 (f_X7_warmthBehind_b22 k x2 x3 v8_4 n) x3 v22_5 o22_0
def f_X7_warmthBehind_b8 (x1 : Int32) (x2 : Int32) (x3 : Int32) : Nat → Int32 → ObS → Option (Int32 × ObS)
  | 0, _, _ => none
  | n + 1, v8_4, o8_0 =>
  if 12 ≤ v8_4 then
    (f_X7_warmthOf o8_0 x1).bind fun r117 =>
    (f_X7_keeps o8_0 1).bind fun r124 =>
    some (r117, r124)
  else
    (f_X7_ages o8_0).bind fun r16 =>
    f_X7_warmthBehind_b22 (f_X7_warmthBehind_b8 x1 x2 x3 n) x2 x3 v8_4 64 0 r16
def f_X7_warmthBehind (o0 : ObS) (x1 : Int32) (x2 : Int32) (x3 : Int32) : Option (Int32 × ObS) :=
  (f_X7_keeps o0 0).bind fun r2 =>
  f_X7_warmthBehind_b8 x1 x2 x3 64 0 r2
def f_X7_gainOf (o0 : ObS) (x1 : Int32) (x2 : Int32) : Option (Int32 × ObS) :=
  (f_X7_warmthBehind o0 x2 x1 1).bind fun r4 =>
  (f_X7_warmthBehind r4.2 x2 x1 0).bind fun r11 =>
  some (r4.1 - r11.1, r11.2)
def f_X7_gain (o0 : ObS) (x1 : Int32) (x2 : Int32) : Option (Int32 × ObS) :=
  (f_X7_isUnit o0 x1).bind fun r3 =>
  if r3 = (0 : Int32) then
    (f_X7_holds o0 1).bind fun r22 =>
    if r22.1 = (0 : Int32) then
      some ((0 : Int32), r22.2)
    else
      (f_X7_gainOf r22.2 x1 x2).bind fun r31 =>
      some (r31.1, r31.2)
  else
    (f_X7_isStream o0 x2).bind fun r11 =>
    if r11 = (0 : Int32) then
      (f_X7_holds o0 1).bind fun r22 =>
      if r22.1 = (0 : Int32) then
        some ((0 : Int32), r22.2)
      else
        (f_X7_gainOf r22.2 x1 x2).bind fun r31 =>
        some (r31.1, r31.2)
    else
      (f_X7_holds o0 0).bind fun r22 =>
      if r22.1 = (0 : Int32) then
        some ((0 : Int32), r22.2)
      else
        (f_X7_gainOf r22.2 x1 x2).bind fun r31 =>
        some (r31.1, r31.2)
def f_X7_relative_b51 (o0 : ObS) (x1 : Int32) (x2 : Int32) (x3 : Int32) (x4 : Int32) (k51_0 : Int32) : Option (Int32 × ObS) :=
  (f_X7_holds o0 k51_0).bind fun r51 =>
  if r51.1 = (0 : Int32) then
    some ((0 : Int32), r51.2)
  else
    (f_X7_gainOf r51.2 x1 x3).bind fun r62 =>
    (f_X7_gainOf r62.2 x2 x4).bind fun r70 =>
    (f_X7_gainOf r70.2 x1 x4).bind fun r83 =>
    (f_X7_gainOf r83.2 x2 x3).bind fun r90 =>
    if (lg_cmp ((((r62.1).toInt64) * ((r70.1).toInt64)) - (((r83.1).toInt64) * ((r90.1).toInt64))) 0) = (0 : Int32) then
      some ((-100000 : Int32), r90.2)
    else
      if decide (¬ ((((r62.1).toInt64) * ((r70.1).toInt64)) - (((r83.1).toInt64) * ((r90.1).toInt64))) = (0 : Int64)) then
      some (((100 * (((r62.1).toInt64) * ((r70.1).toInt64))) / ((((r62.1).toInt64) * ((r70.1).toInt64)) - (((r83.1).toInt64) * ((r90.1).toInt64)))).toInt32, r90.2)
      else none
def f_X7_relative_b38 (o0 : ObS) (x1 : Int32) (x2 : Int32) (x3 : Int32) (x4 : Int32) (k38_0 : Int32) : Option (Int32 × ObS) :=
  if k38_0 = (0 : Int32) then
    f_X7_relative_b51 o0 x1 x2 x3 x4 1
  else
    f_X7_relative_b51 o0 x1 x2 x3 x4 0
def f_X7_relative_b37 (o0 : ObS) (x1 : Int32) (x2 : Int32) (x3 : Int32) (x4 : Int32)  : Option (Int32 × ObS) :=
  f_X7_relative_b38 o0 x1 x2 x3 x4 0
def f_X7_relative (o0 : ObS) (x1 : Int32) (x2 : Int32) (x3 : Int32) (x4 : Int32) : Option (Int32 × ObS) :=
  (f_X7_isUnit o0 x1).bind fun r2 =>
  if r2 = (0 : Int32) then
    f_X7_relative_b37 o0 x1 x2 x3 x4
  else
    (f_X7_isUnit o0 x2).bind fun r10 =>
    if r10 = (0 : Int32) then
      f_X7_relative_b37 o0 x1 x2 x3 x4
    else
      (f_X7_isStream o0 x3).bind fun r18 =>
      if r18 = (0 : Int32) then
        f_X7_relative_b37 o0 x1 x2 x3 x4
      else
        (f_X7_isStream o0 x4).bind fun r27 =>
        if r27 = (0 : Int32) then
          f_X7_relative_b37 o0 x1 x2 x3 x4
        else
          f_X7_relative_b38 o0 x1 x2 x3 x4 1
def f_L_source (h : Nat → ObS) (x1 : Int32) (x2 : Int32) (w : ObS) : Option (Int32 × (Nat → ObS) × ObS) :=
  (f_X6_source h x1 x2).bind fun R0 =>
  sumE R0 (fun k => if k = 1 then some ((1 : Int32), h, w) else if k = 2 then some ((2 : Int32), h, w) else none)
    (fun r => some ((0 : Int32), r.2, oj w 0 ((0 : Int32).toNatClampNeg) r.1.toInt64))
def f_L_unit (h : Nat → ObS) (x1 : Int32) (x2 : Int32) (x3 : Int32) (x4 : Int32) (w : ObS) : Option (Int32 × (Nat → ObS) × ObS) :=
  (f_X6_unit h x1 x2 x3 x4).bind fun R0 =>
  sumE R0 (fun k => if k = 1 then some ((1 : Int32), h, w) else if k = 3 then some ((2 : Int32), h, w) else if k = 2 then some ((3 : Int32), h, w) else none)
    (fun r => some ((0 : Int32), r.2, oj w 0 ((0 : Int32).toNatClampNeg) r.1.toInt64))
def f_L_back (h : Nat → ObS) (x1 : Int32) (x2 : Int32) (w : ObS) : Option (Int32 × (Nat → ObS) × ObS) :=
  (f_X6_back h x1 x2).bind fun R0 =>
  sumE R0 (fun k => if k = 3 then some ((1 : Int32), h, w) else if k = 2 then some ((2 : Int32), h, w) else none)
    (fun r => some ((0 : Int32), r.2, oj w 0 ((0 : Int32).toNatClampNeg) r.1.toInt64))
def f_L_set (h : Nat → ObS) (x1 : Int32) (x2 : Int32) (w : ObS) : Option (Int32 × (Nat → ObS) × ObS) :=
  (f_X6_set h x1 x2).bind fun R0 =>
  sumE R0 (fun k => if k = 3 then some ((1 : Int32), h, w) else if k = 1 then some ((2 : Int32), h, w) else none)
    (fun r => some ((0 : Int32), r.2, oj w 0 ((0 : Int32).toNatClampNeg) r.1.toInt64))
def f_L_disturb (h : Nat → ObS) (x1 : Int32) (x2 : Int32) (x3 : Int32) (w : ObS) : Option (Int32 × (Nat → ObS) × ObS) :=
  (f_X6_disturb h x1 x2 x3).bind fun R0 =>
  sumE R0 (fun k => if k = 3 then some ((1 : Int32), h, w) else if k = 1 then some ((2 : Int32), h, w) else if k = 2 then some ((3 : Int32), h, w) else none)
    (fun r => some ((0 : Int32), r.2, oj w 0 ((0 : Int32).toNatClampNeg) r.1.toInt64))
def f_L_control (h : Nat → ObS) (x1 : Int32) (x2 : Int32) (x3 : Int32) (x4 : Int32) (x5 : Int32) (w : ObS) : Option (Int32 × (Nat → ObS) × ObS) :=
  (f_X6_control h x1 x2 x3 x4 x5).bind fun R0 =>
  sumE R0 (fun k => if k = 3 then some ((1 : Int32), h, w) else if k = 1 then some ((2 : Int32), h, w) else if k = 2 then some ((3 : Int32), h, w) else none)
    (fun r => some ((0 : Int32), r.2, oj w 0 ((0 : Int32).toNatClampNeg) r.1.toInt64))
def f_L_ratio (h : Nat → ObS) (x1 : Int32) (x2 : Int32) (x3 : Int32) (w : ObS) : Option (Int32 × (Nat → ObS) × ObS) :=
  (f_X6_ratio h x1 x2 x3).bind fun R0 =>
  sumE R0 (fun k => if k = 3 then some ((1 : Int32), h, w) else if k = 1 then some ((2 : Int32), h, w) else if k = 2 then some ((3 : Int32), h, w) else none)
    (fun r => some ((0 : Int32), r.2, oj w 0 ((0 : Int32).toNatClampNeg) r.1.toInt64))
def f_L_feed (h : Nat → ObS) (x1 : Int32) (x2 : Int32) (x3 : Int32) : Option (Int32 × (Nat → ObS)) :=
  (f_X6_feed h x1 x2 x3).bind fun R0 =>
  sumE R0 (fun k => if k = 3 then some ((1 : Int32), h) else if k = 1 then some ((2 : Int32), h) else if k = 2 then some ((3 : Int32), h) else none)
    (fun r => some ((0 : Int32), r))
def f_L_aim (h : Nat → ObS) (x1 : Int32) (x2 : Int32) (x3 : Int32) (w : ObS) : Option (Int32 × (Nat → ObS) × ObS) :=
  (f_X6_aim h x1 x2 x3).bind fun R0 =>
  sumE R0 (fun k => if k = 3 then some ((1 : Int32), h, w) else if k = 1 then some ((2 : Int32), h, w) else if k = 2 then some ((3 : Int32), h, w) else none)
    (fun r => some ((0 : Int32), r.2, oj w 0 ((0 : Int32).toNatClampNeg) r.1.toInt64))
def f_L_select (h : Nat → ObS) (x1 : Int32) (w : ObS) : Option (Int32 × (Nat → ObS) × ObS) :=
  (f_X6_select h x1).bind fun R0 =>
  sumE R0 (fun k => if k = 3 then some ((1 : Int32), h, w) else none)
    (fun r => if r.1 = (0 : Int32) then some ((0 : Int32), r.2, oj w 0 ((0 : Int32).toNatClampNeg) 0) else some ((0 : Int32), r.2, oj w 0 ((0 : Int32).toNatClampNeg) 1))
def f_L_tick (h : Nat → ObS) (x1 : Int32) (w : ObS) : Option (Int32 × (Nat → ObS) × ObS) :=
  (f_X6_tick h x1).bind fun R0 =>
  sumE R0 (fun k => if k = 1 then some ((1 : Int32), h, w) else if k = 2 then some ((2 : Int32), h, w) else none)
    (fun r => some ((0 : Int32), r.2, oj w 0 ((0 : Int32).toNatClampNeg) r.1.toInt64))
def f_L_of (h : Nat → ObS) (x1 : Int32) (x2 : Int32) (w : ObS) : Option (Int32 × ObS) :=
  (f_X6_of h x1 x2).bind fun R0 =>
  sumE R0 (fun k => if k = 3 then some ((1 : Int32), w) else if k = 1 then some ((2 : Int32), w) else none)
    (fun r => some ((0 : Int32), oj w 0 ((0 : Int32).toNatClampNeg) r.toInt64))
def f_L_ofUnit (h : Nat → ObS) (x1 : Int32) (x2 : Int32) (w : ObS) : Option (Int32 × ObS) :=
  (f_X6_ofUnit h x1 x2).bind fun R0 =>
  sumE R0 (fun k => if k = 3 then some ((1 : Int32), w) else if k = 1 then some ((2 : Int32), w) else none)
    (fun r => some ((0 : Int32), oj w 0 ((0 : Int32).toNatClampNeg) r.toInt64))
def f_L_ofController (h : Nat → ObS) (x1 : Int32) (x2 : Int32) (w : ObS) : Option (Int32 × ObS) :=
  (f_X6_ofController h x1 x2).bind fun R0 =>
  sumE R0 (fun k => if k = 3 then some ((1 : Int32), w) else if k = 1 then some ((2 : Int32), w) else none)
    (fun r => some ((0 : Int32), oj w 0 ((0 : Int32).toNatClampNeg) r.toInt64))
def f_L_trend (h : Nat → ObS) (x1 : Int32) (x2 : Int32) (w : ObS) : Option (Int32 × ObS) :=
  (f_X6_trend h x1 x2).bind fun R0 =>
  sumE R0 (fun k => if k = 3 then some ((1 : Int32), w) else none)
    (fun r => some ((0 : Int32), oj w 0 ((0 : Int32).toNatClampNeg) r.toInt64))
def f_L_gain (h : Nat → ObS) (x1 : Int32) (x2 : Int32) (w : ObS) : Option (Int32 × (Nat → ObS) × ObS) :=
  (f_X6_gain h x1 x2).bind fun R0 =>
  sumE R0 (fun k => if k = 3 then some ((1 : Int32), h, w) else none)
    (fun r => some ((0 : Int32), r.2, oj w 0 ((0 : Int32).toNatClampNeg) r.1.toInt64))
def f_L_relative (h : Nat → ObS) (x1 : Int32) (x2 : Int32) (x3 : Int32) (x4 : Int32) (w : ObS) : Option (Int32 × (Nat → ObS) × ObS) :=
  (f_X6_relative h x1 x2 x3 x4).bind fun R0 =>
  sumE R0 (fun k => if k = 3 then some ((1 : Int32), h, w) else none)
    (fun r => some ((0 : Int32), r.2, oj w 0 ((0 : Int32).toNatClampNeg) r.1.toInt64))
