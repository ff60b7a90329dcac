/-! the law's methods as functions -/
def ob {α : Type} (x : Option (Nat ⊕ α)) : Option α := match x with
  | some (.inr a) => some a
  | _ => none
/-- a whole number's low part -/
def lw (v n : Int32) : Int32 := (v &&& 2147483647) - (v &&& 2147483647) / n * n
/-- a cell of the script, or what stands for one behind its end -/
def f_L_cell (xs : Nat → Int32) (L : Nat) (k : Int32) : Option Int32 :=
  if Int32.ofNat L ≤ k then some (7919 * (k + 1627) * (k + 4153)) else if inb k L then some (xs (k).toNatClampNeg) else none
def f_L_fed (h : Nat → ObS) (x1 x2 x3 : Int32) : Option (Nat ⊕ (Int32 × (Nat → ObS))) :=
  tb (f_X6_feed h x1 x2 x3) fun r4 =>
  some (.inr ((0 : Int32), r4))
def f_L_does_0 (h : Nat → ObS) (a b1 c1 d1 : Int32) : Option (Int32 × (Nat → ObS)) :=
  (f_X6_source h a b1).bind fun R0 =>
  sumE R0 (fun k => if k = 3 then some ((-2100000000), h) else if k = 1 then some ((-2100000000), h) else if k = 2 then some ((-2100000000), h) else none)
    (fun r => some (r.1, r.2))
def f_L_does_1 (h : Nat → ObS) (a b1 c1 d1 : Int32) : Option (Int32 × (Nat → ObS)) :=
  (f_X6_unit h a b1 c1 d1).bind fun R0 =>
  sumE R0 (fun k => if k = 3 then some ((-2100000000), h) else if k = 1 then some ((-2100000000), h) else if k = 2 then some ((-2100000000), h) else none)
    (fun r => some (r.1, r.2))
def f_L_does_2 (h : Nat → ObS) (a b1 c1 d1 : Int32) : Option (Int32 × (Nat → ObS)) :=
  (f_X6_back h a b1).bind fun R0 =>
  sumE R0 (fun k => if k = 3 then some ((-2100000000), h) else if k = 1 then some ((-2100000000), h) else if k = 2 then some ((-2100000000), h) else none)
    (fun r => some (r.1, r.2))
def f_L_does_3 (h : Nat → ObS) (a b1 c1 d1 : Int32) : Option (Int32 × (Nat → ObS)) :=
  (f_X6_set h a b1).bind fun R0 =>
  sumE R0 (fun k => if k = 3 then some ((-2100000000), h) else if k = 1 then some ((-2100000000), h) else if k = 2 then some ((-2100000000), h) else none)
    (fun r => some (r.1, r.2))
def f_L_does_4 (h : Nat → ObS) (a b1 c1 d1 : Int32) : Option (Int32 × (Nat → ObS)) :=
  (f_X6_disturb h a b1 c1).bind fun R0 =>
  sumE R0 (fun k => if k = 3 then some ((-2100000000), h) else if k = 1 then some ((-2100000000), h) else if k = 2 then some ((-2100000000), h) else none)
    (fun r => some (r.1, r.2))
def f_L_does_5 (h : Nat → ObS) (a b1 c1 d1 : Int32) : Option (Int32 × (Nat → ObS)) :=
  (f_X6_control h (a - a / 10000 * 10000) (a / 10000) b1 c1 d1).bind fun R0 =>
  sumE R0 (fun k => if k = 3 then some ((-2100000000), h) else if k = 1 then some ((-2100000000), h) else if k = 2 then some ((-2100000000), h) else none)
    (fun r => some (r.1, r.2))
def f_L_does_6 (h : Nat → ObS) (a b1 c1 d1 : Int32) : Option (Int32 × (Nat → ObS)) :=
  (f_X6_ratio h a b1 c1).bind fun R0 =>
  sumE R0 (fun k => if k = 3 then some ((-2100000000), h) else if k = 1 then some ((-2100000000), h) else if k = 2 then some ((-2100000000), h) else none)
    (fun r => some (r.1, r.2))
def f_L_does_7 (h : Nat → ObS) (a b1 c1 d1 : Int32) : Option (Int32 × (Nat → ObS)) :=
  (f_L_fed h a b1 c1).bind fun R0 =>
  sumE R0 (fun k => if k = 3 then some ((-2100000000), h) else if k = 1 then some ((-2100000000), h) else if k = 2 then some ((-2100000000), h) else none)
    (fun r => some (r.1, r.2))
def f_L_does_8 (h : Nat → ObS) (a b1 c1 d1 : Int32) : Option (Int32 × (Nat → ObS)) :=
  (f_X6_aim h a b1 c1).bind fun R0 =>
  sumE R0 (fun k => if k = 3 then some ((-2100000000), h) else if k = 1 then some ((-2100000000), h) else if k = 2 then some ((-2100000000), h) else none)
    (fun r => some (r.1, r.2))
def f_L_does_9 (h : Nat → ObS) (a b1 c1 d1 : Int32) : Option (Int32 × (Nat → ObS)) :=
  (f_X6_select h a).bind fun R0 =>
  sumE R0 (fun k => if k = 3 then some ((-2100000000), h) else if k = 1 then some ((-2100000000), h) else if k = 2 then some ((-2100000000), h) else none)
    (fun r => if r.1 = (0 : Int32) then some ((0 : Int32), r.2) else some ((1 : Int32), r.2))
def f_L_does_10 (h : Nat → ObS) (a b1 c1 d1 : Int32) : Option (Int32 × (Nat → ObS)) :=
  (f_X6_tick h a).bind fun R0 =>
  sumE R0 (fun k => if k = 3 then some ((-2100000000), h) else if k = 1 then some ((-2100000000), h) else if k = 2 then some ((-2100000000), h) else none)
    (fun r => some (r.1, r.2))
def f_L_does_11 (h : Nat → ObS) (a b1 c1 d1 : Int32) : Option (Int32 × (Nat → ObS)) :=
  (f_X6_quit h).bind fun r => some (r.1, r.2)
def f_L_does_12 (h : Nat → ObS) (a b1 c1 d1 : Int32) : Option (Int32) :=
  (f_X6_of h a b1).bind fun R0 =>
  sumE R0 (fun k => if k = 3 then some (-2100000000) else if k = 1 then some (-2100000000) else if k = 2 then some (-2100000000) else none)
    (fun r => some r)
def f_L_does_13 (h : Nat → ObS) (a b1 c1 d1 : Int32) : Option (Int32) :=
  (f_X6_ofUnit h a b1).bind fun R0 =>
  sumE R0 (fun k => if k = 3 then some (-2100000000) else if k = 1 then some (-2100000000) else if k = 2 then some (-2100000000) else none)
    (fun r => some r)
def f_L_does_14 (h : Nat → ObS) (a b1 c1 d1 : Int32) : Option (Int32) :=
  (f_X6_ofController h a b1).bind fun R0 =>
  sumE R0 (fun k => if k = 3 then some (-2100000000) else if k = 1 then some (-2100000000) else if k = 2 then some (-2100000000) else none)
    (fun r => some r)
def f_L_does_15 (h : Nat → ObS) (a b1 c1 d1 : Int32) : Option (Int32) :=
  (f_X6_trend h a b1).bind fun R0 =>
  sumE R0 (fun k => if k = 3 then some (-2100000000) else if k = 1 then some (-2100000000) else if k = 2 then some (-2100000000) else none)
    (fun r => some r)
def f_L_does_16 (h : Nat → ObS) (a b1 c1 d1 : Int32) : Option (Int32 × (Nat → ObS)) :=
  (f_X6_gain h a b1).bind fun R0 =>
  sumE R0 (fun k => if k = 3 then some ((-2100000000), h) else if k = 1 then some ((-2100000000), h) else if k = 2 then some ((-2100000000), h) else none)
    (fun r => some (r.1, r.2))
def f_L_does_17 (h : Nat → ObS) (a b1 c1 d1 : Int32) : Option (Int32 × (Nat → ObS)) :=
  (f_X6_relative h a b1 c1 d1).bind fun R0 =>
  sumE R0 (fun k => if k = 3 then some ((-2100000000), h) else if k = 1 then some ((-2100000000), h) else if k = 2 then some ((-2100000000), h) else none)
    (fun r => some (r.1, r.2))
def f_L_act (h : Nat → ObS) (x1 : Int32) : Option (Int32 × (Nat → ObS)) :=
  if ((x1 >>> ((18 : Int32) &&& 31)) &&& (7 : Int32)) = (7 : Int32) then
    if (10 : Int32) ≤ (lw x1 40) then
      if (18 : Int32) ≤ (lw x1 40) then
        if (21 : Int32) ≤ (lw x1 40) then
          if (23 : Int32) ≤ (lw x1 40) then
            if (lw x1 40) = (23 : Int32) then
              (f_L_does_17 h ((lw (x1 >>> ((6 : Int32) &&& 31)) 14) - (1 : Int32)) (lw ((x1 >>> ((6 : Int32) &&& 31)) >>> ((2 : Int32) &&& 31)) 8) ((lw ((x1 >>> ((6 : Int32) &&& 31)) >>> ((3 : Int32) &&& 31)) 28) - (1 : Int32)) (lw ((x1 >>> ((6 : Int32) &&& 31)) >>> ((5 : Int32) &&& 31)) 16)).bind fun r629 =>
              some (r629.1, r629.2)
            else
              (f_L_does_10 h (lw (x1 >>> ((6 : Int32) &&& 31)) 70) 0 0 0).bind fun r663 =>
              some (r663.1, r663.2)
          else
            (f_L_does_16 h ((lw (x1 >>> ((6 : Int32) &&& 31)) 14) - (1 : Int32)) ((lw ((x1 >>> ((6 : Int32) &&& 31)) >>> ((3 : Int32) &&& 31)) 28) - (1 : Int32)) 0 0).bind fun r592 =>
            some (r592.1, r592.2)
        else
          (f_L_does_11 h 0 0 0 0).bind fun r571 =>
          some (r571.1, r571.2)
      else
        if (14 : Int32) ≤ (lw x1 40) then
          if (17 : Int32) ≤ (lw x1 40) then
            (f_L_does_9 h ((lw (x1 >>> ((6 : Int32) &&& 31)) 14) - (1 : Int32)) 0 0 0).bind fun r554 =>
            some (r554.1, r554.2)
          else
            (f_L_does_4 h (lw ((x1 >>> ((6 : Int32) &&& 31)) >>> ((5 : Int32) &&& 31)) 400) ((lw (x1 >>> ((6 : Int32) &&& 31)) 14) - (1 : Int32)) ((x1 >>> ((6 : Int32) &&& 31)) >>> ((4 : Int32) &&& 31)) 0).bind fun r540 =>
            some (r540.1, r540.2)
        else
          (f_L_does_3 h ((lw (x1 >>> ((6 : Int32) &&& 31)) 14) - (1 : Int32)) ((x1 >>> ((6 : Int32) &&& 31)) >>> ((4 : Int32) &&& 31)) 0 0).bind fun r501 =>
          some (r501.1, r501.2)
    else
      if (lw ((x1 >>> ((6 : Int32) &&& 31)) >>> ((7 : Int32) &&& 31)) 4) = (0 : Int32) then
        if (5 : Int32) ≤ (lw x1 40) then
          if (7 : Int32) ≤ (lw x1 40) then
            if (9 : Int32) ≤ (lw x1 40) then
              (f_L_does_8 h ((lw ((x1 >>> ((6 : Int32) &&& 31)) >>> ((7 : Int32) &&& 31)) 8) - (1 : Int32)) (lw ((x1 >>> ((6 : Int32) &&& 31)) >>> ((4 : Int32) &&& 31)) 3300) ((x1 >>> ((6 : Int32) &&& 31)) >>> ((5 : Int32) &&& 31)) 0).bind fun r477 =>
              some (r477.1, r477.2)
            else
              (f_L_does_7 h ((lw ((x1 >>> ((6 : Int32) &&& 31)) >>> ((7 : Int32) &&& 31)) 8) - (1 : Int32)) ((lw ((x1 >>> ((6 : Int32) &&& 31)) >>> ((3 : Int32) &&& 31)) 28) - (1 : Int32)) ((lw ((x1 >>> ((6 : Int32) &&& 31)) >>> ((4 : Int32) &&& 31)) 1300) - (650 : Int32)) 0).bind fun r424 =>
              some (r424.1, r424.2)
          else
            if ((101 : Int32) + (lw ((x1 >>> ((6 : Int32) &&& 31)) >>> ((5 : Int32) &&& 31)) 8)) ≤ (100 : Int32) then
              (f_L_does_6 h ((lw ((x1 >>> ((6 : Int32) &&& 31)) >>> ((3 : Int32) &&& 31)) 28) - (1 : Int32)) (lw ((x1 >>> ((6 : Int32) &&& 31)) >>> ((5 : Int32) &&& 31)) 1100) ((101 : Int32) + (lw ((x1 >>> ((6 : Int32) &&& 31)) >>> ((5 : Int32) &&& 31)) 8)) 0).bind fun r370 =>
              some (r370.1, r370.2)
            else
              (f_L_does_6 h ((lw ((x1 >>> ((6 : Int32) &&& 31)) >>> ((3 : Int32) &&& 31)) 28) - (1 : Int32)) (lw ((x1 >>> ((6 : Int32) &&& 31)) >>> ((5 : Int32) &&& 31)) 1100) 0 0).bind fun r370 =>
              some (r370.1, r370.2)
        else
          if (0 : Int32) ≤ ((lw ((x1 >>> ((6 : Int32) &&& 31)) >>> ((3 : Int32) &&& 31)) 28) - (1 : Int32)) then
            (f_L_does_5 h (((10000 : Int32) * (lw ((x1 >>> ((6 : Int32) &&& 31)) >>> ((4 : Int32) &&& 31)) 3300)) + ((lw ((x1 >>> ((6 : Int32) &&& 31)) >>> ((3 : Int32) &&& 31)) 28) - (1 : Int32))) ((lw ((x1 >>> ((6 : Int32) &&& 31)) >>> ((5 : Int32) &&& 31)) 230) - (99 : Int32)) ((x1 >>> ((6 : Int32) &&& 31)) >>> ((3 : Int32) &&& 31)) ((101 : Int32) + (lw ((x1 >>> ((6 : Int32) &&& 31)) >>> ((5 : Int32) &&& 31)) 8))).bind fun r319 =>
            some (r319.1, r319.2)
          else
            (f_L_does_5 h (((10000 : Int32) * (lw ((x1 >>> ((6 : Int32) &&& 31)) >>> ((4 : Int32) &&& 31)) 3300)) + (9999 : Int32)) ((lw ((x1 >>> ((6 : Int32) &&& 31)) >>> ((5 : Int32) &&& 31)) 230) - (99 : Int32)) ((x1 >>> ((6 : Int32) &&& 31)) >>> ((3 : Int32) &&& 31)) ((101 : Int32) + (lw ((x1 >>> ((6 : Int32) &&& 31)) >>> ((5 : Int32) &&& 31)) 8))).bind fun r319 =>
            some (r319.1, r319.2)
      else
        if (5 : Int32) ≤ (lw x1 40) then
          if (7 : Int32) ≤ (lw x1 40) then
            if (9 : Int32) ≤ (lw x1 40) then
              (f_L_does_8 h ((lw ((x1 >>> ((6 : Int32) &&& 31)) >>> ((7 : Int32) &&& 31)) 8) - (1 : Int32)) (lw ((x1 >>> ((6 : Int32) &&& 31)) >>> ((4 : Int32) &&& 31)) 3300) ((x1 >>> ((6 : Int32) &&& 31)) >>> ((5 : Int32) &&& 31)) 0).bind fun r477 =>
              some (r477.1, r477.2)
            else
              (f_L_does_7 h ((lw ((x1 >>> ((6 : Int32) &&& 31)) >>> ((7 : Int32) &&& 31)) 8) - (1 : Int32)) ((lw ((x1 >>> ((6 : Int32) &&& 31)) >>> ((3 : Int32) &&& 31)) 28) - (1 : Int32)) ((lw ((x1 >>> ((6 : Int32) &&& 31)) >>> ((4 : Int32) &&& 31)) 1300) - (650 : Int32)) 0).bind fun r424 =>
              some (r424.1, r424.2)
          else
            if ((lw ((x1 >>> ((6 : Int32) &&& 31)) >>> ((6 : Int32) &&& 31)) 14) - (1 : Int32)) ≤ (100 : Int32) then
              (f_L_does_6 h ((lw ((x1 >>> ((6 : Int32) &&& 31)) >>> ((3 : Int32) &&& 31)) 28) - (1 : Int32)) (lw ((x1 >>> ((6 : Int32) &&& 31)) >>> ((5 : Int32) &&& 31)) 1100) ((lw ((x1 >>> ((6 : Int32) &&& 31)) >>> ((6 : Int32) &&& 31)) 14) - (1 : Int32)) 0).bind fun r370 =>
              some (r370.1, r370.2)
            else
              (f_L_does_6 h ((lw ((x1 >>> ((6 : Int32) &&& 31)) >>> ((3 : Int32) &&& 31)) 28) - (1 : Int32)) (lw ((x1 >>> ((6 : Int32) &&& 31)) >>> ((5 : Int32) &&& 31)) 1100) 0 0).bind fun r370 =>
              some (r370.1, r370.2)
        else
          if (0 : Int32) ≤ ((lw ((x1 >>> ((6 : Int32) &&& 31)) >>> ((3 : Int32) &&& 31)) 28) - (1 : Int32)) then
            (f_L_does_5 h (((10000 : Int32) * (lw ((x1 >>> ((6 : Int32) &&& 31)) >>> ((4 : Int32) &&& 31)) 3300)) + ((lw ((x1 >>> ((6 : Int32) &&& 31)) >>> ((3 : Int32) &&& 31)) 28) - (1 : Int32))) ((lw ((x1 >>> ((6 : Int32) &&& 31)) >>> ((5 : Int32) &&& 31)) 230) - (99 : Int32)) ((x1 >>> ((6 : Int32) &&& 31)) >>> ((3 : Int32) &&& 31)) ((lw ((x1 >>> ((6 : Int32) &&& 31)) >>> ((6 : Int32) &&& 31)) 14) - (1 : Int32))).bind fun r319 =>
            some (r319.1, r319.2)
          else
            (f_L_does_5 h (((10000 : Int32) * (lw ((x1 >>> ((6 : Int32) &&& 31)) >>> ((4 : Int32) &&& 31)) 3300)) + (9999 : Int32)) ((lw ((x1 >>> ((6 : Int32) &&& 31)) >>> ((5 : Int32) &&& 31)) 230) - (99 : Int32)) ((x1 >>> ((6 : Int32) &&& 31)) >>> ((3 : Int32) &&& 31)) ((lw ((x1 >>> ((6 : Int32) &&& 31)) >>> ((6 : Int32) &&& 31)) 14) - (1 : Int32))).bind fun r319 =>
            some (r319.1, r319.2)
  else
    if (((x1 >>> ((6 : Int32) &&& 31)) >>> ((9 : Int32) &&& 31)) &&& (1 : Int32)) = (0 : Int32) then
      if (10 : Int32) ≤ (lw x1 40) then
        if (18 : Int32) ≤ (lw x1 40) then
          if (21 : Int32) ≤ (lw x1 40) then
            if (23 : Int32) ≤ (lw x1 40) then
              if (lw x1 40) = (23 : Int32) then
                (f_L_does_17 h (lw (x1 >>> ((6 : Int32) &&& 31)) 8) (lw ((x1 >>> ((6 : Int32) &&& 31)) >>> ((2 : Int32) &&& 31)) 8) (lw ((x1 >>> ((6 : Int32) &&& 31)) >>> ((3 : Int32) &&& 31)) 16) (lw ((x1 >>> ((6 : Int32) &&& 31)) >>> ((5 : Int32) &&& 31)) 16)).bind fun r629 =>
                some (r629.1, r629.2)
              else
                (f_L_does_10 h ((1 : Int32) + (lw (x1 >>> ((6 : Int32) &&& 31)) 2)) 0 0 0).bind fun r663 =>
                some (r663.1, r663.2)
            else
              (f_L_does_16 h (lw (x1 >>> ((6 : Int32) &&& 31)) 8) (lw ((x1 >>> ((6 : Int32) &&& 31)) >>> ((3 : Int32) &&& 31)) 16) 0 0).bind fun r592 =>
              some (r592.1, r592.2)
          else
            (f_L_does_11 h 0 0 0 0).bind fun r571 =>
            some (r571.1, r571.2)
        else
          if (14 : Int32) ≤ (lw x1 40) then
            if (17 : Int32) ≤ (lw x1 40) then
              (f_L_does_9 h (lw (x1 >>> ((6 : Int32) &&& 31)) 8) 0 0 0).bind fun r554 =>
              some (r554.1, r554.2)
            else
              (f_L_does_4 h (lw ((x1 >>> ((6 : Int32) &&& 31)) >>> ((5 : Int32) &&& 31)) 130) (lw (x1 >>> ((6 : Int32) &&& 31)) 8) (lw ((x1 >>> ((6 : Int32) &&& 31)) >>> ((4 : Int32) &&& 31)) 101) 0).bind fun r540 =>
              some (r540.1, r540.2)
          else
            (f_L_does_3 h (lw (x1 >>> ((6 : Int32) &&& 31)) 8) (lw ((x1 >>> ((6 : Int32) &&& 31)) >>> ((4 : Int32) &&& 31)) 101) 0 0).bind fun r501 =>
            some (r501.1, r501.2)
      else
        if (lw ((x1 >>> ((6 : Int32) &&& 31)) >>> ((7 : Int32) &&& 31)) 4) = (0 : Int32) then
          if (5 : Int32) ≤ (lw x1 40) then
            if (7 : Int32) ≤ (lw x1 40) then
              if (9 : Int32) ≤ (lw x1 40) then
                (f_L_does_8 h (lw ((x1 >>> ((6 : Int32) &&& 31)) >>> ((7 : Int32) &&& 31)) 6) (lw ((x1 >>> ((6 : Int32) &&& 31)) >>> ((4 : Int32) &&& 31)) 3001) (lw ((x1 >>> ((6 : Int32) &&& 31)) >>> ((5 : Int32) &&& 31)) 900) 0).bind fun r477 =>
                some (r477.1, r477.2)
              else
                (f_L_does_7 h (lw ((x1 >>> ((6 : Int32) &&& 31)) >>> ((7 : Int32) &&& 31)) 6) (lw ((x1 >>> ((6 : Int32) &&& 31)) >>> ((3 : Int32) &&& 31)) 16) ((lw ((x1 >>> ((6 : Int32) &&& 31)) >>> ((4 : Int32) &&& 31)) 301) - (150 : Int32)) 0).bind fun r424 =>
                some (r424.1, r424.2)
            else
              if ((101 : Int32) + (lw ((x1 >>> ((6 : Int32) &&& 31)) >>> ((5 : Int32) &&& 31)) 6)) ≤ (100 : Int32) then
                (f_L_does_6 h (lw ((x1 >>> ((6 : Int32) &&& 31)) >>> ((3 : Int32) &&& 31)) 16) (lw ((x1 >>> ((6 : Int32) &&& 31)) >>> ((5 : Int32) &&& 31)) 300) ((101 : Int32) + (lw ((x1 >>> ((6 : Int32) &&& 31)) >>> ((5 : Int32) &&& 31)) 6)) 0).bind fun r370 =>
                some (r370.1, r370.2)
              else
                (f_L_does_6 h (lw ((x1 >>> ((6 : Int32) &&& 31)) >>> ((3 : Int32) &&& 31)) 16) (lw ((x1 >>> ((6 : Int32) &&& 31)) >>> ((5 : Int32) &&& 31)) 300) 0 0).bind fun r370 =>
                some (r370.1, r370.2)
          else
            if (0 : Int32) ≤ (lw ((x1 >>> ((6 : Int32) &&& 31)) >>> ((3 : Int32) &&& 31)) 16) then
              (f_L_does_5 h (((10000 : Int32) * (lw ((x1 >>> ((6 : Int32) &&& 31)) >>> ((4 : Int32) &&& 31)) 3001)) + (lw ((x1 >>> ((6 : Int32) &&& 31)) >>> ((3 : Int32) &&& 31)) 16)) ((lw ((x1 >>> ((6 : Int32) &&& 31)) >>> ((5 : Int32) &&& 31)) 199) - (99 : Int32)) (lw ((x1 >>> ((6 : Int32) &&& 31)) >>> ((6 : Int32) &&& 31)) 400) ((101 : Int32) + (lw ((x1 >>> ((6 : Int32) &&& 31)) >>> ((5 : Int32) &&& 31)) 6))).bind fun r319 =>
              some (r319.1, r319.2)
            else
              (f_L_does_5 h (((10000 : Int32) * (lw ((x1 >>> ((6 : Int32) &&& 31)) >>> ((4 : Int32) &&& 31)) 3001)) + (9999 : Int32)) ((lw ((x1 >>> ((6 : Int32) &&& 31)) >>> ((5 : Int32) &&& 31)) 199) - (99 : Int32)) (lw ((x1 >>> ((6 : Int32) &&& 31)) >>> ((6 : Int32) &&& 31)) 400) ((101 : Int32) + (lw ((x1 >>> ((6 : Int32) &&& 31)) >>> ((5 : Int32) &&& 31)) 6))).bind fun r319 =>
              some (r319.1, r319.2)
        else
          if (5 : Int32) ≤ (lw x1 40) then
            if (7 : Int32) ≤ (lw x1 40) then
              if (9 : Int32) ≤ (lw x1 40) then
                (f_L_does_8 h (lw ((x1 >>> ((6 : Int32) &&& 31)) >>> ((7 : Int32) &&& 31)) 6) (lw ((x1 >>> ((6 : Int32) &&& 31)) >>> ((4 : Int32) &&& 31)) 3001) (lw ((x1 >>> ((6 : Int32) &&& 31)) >>> ((5 : Int32) &&& 31)) 900) 0).bind fun r477 =>
                some (r477.1, r477.2)
              else
                (f_L_does_7 h (lw ((x1 >>> ((6 : Int32) &&& 31)) >>> ((7 : Int32) &&& 31)) 6) (lw ((x1 >>> ((6 : Int32) &&& 31)) >>> ((3 : Int32) &&& 31)) 16) ((lw ((x1 >>> ((6 : Int32) &&& 31)) >>> ((4 : Int32) &&& 31)) 301) - (150 : Int32)) 0).bind fun r424 =>
                some (r424.1, r424.2)
            else
              if (lw ((x1 >>> ((6 : Int32) &&& 31)) >>> ((6 : Int32) &&& 31)) 8) ≤ (100 : Int32) then
                (f_L_does_6 h (lw ((x1 >>> ((6 : Int32) &&& 31)) >>> ((3 : Int32) &&& 31)) 16) (lw ((x1 >>> ((6 : Int32) &&& 31)) >>> ((5 : Int32) &&& 31)) 300) (lw ((x1 >>> ((6 : Int32) &&& 31)) >>> ((6 : Int32) &&& 31)) 8) 0).bind fun r370 =>
                some (r370.1, r370.2)
              else
                (f_L_does_6 h (lw ((x1 >>> ((6 : Int32) &&& 31)) >>> ((3 : Int32) &&& 31)) 16) (lw ((x1 >>> ((6 : Int32) &&& 31)) >>> ((5 : Int32) &&& 31)) 300) 0 0).bind fun r370 =>
                some (r370.1, r370.2)
          else
            if (0 : Int32) ≤ (lw ((x1 >>> ((6 : Int32) &&& 31)) >>> ((3 : Int32) &&& 31)) 16) then
              (f_L_does_5 h (((10000 : Int32) * (lw ((x1 >>> ((6 : Int32) &&& 31)) >>> ((4 : Int32) &&& 31)) 3001)) + (lw ((x1 >>> ((6 : Int32) &&& 31)) >>> ((3 : Int32) &&& 31)) 16)) ((lw ((x1 >>> ((6 : Int32) &&& 31)) >>> ((5 : Int32) &&& 31)) 199) - (99 : Int32)) (lw ((x1 >>> ((6 : Int32) &&& 31)) >>> ((6 : Int32) &&& 31)) 400) (lw ((x1 >>> ((6 : Int32) &&& 31)) >>> ((6 : Int32) &&& 31)) 8)).bind fun r319 =>
              some (r319.1, r319.2)
            else
              (f_L_does_5 h (((10000 : Int32) * (lw ((x1 >>> ((6 : Int32) &&& 31)) >>> ((4 : Int32) &&& 31)) 3001)) + (9999 : Int32)) ((lw ((x1 >>> ((6 : Int32) &&& 31)) >>> ((5 : Int32) &&& 31)) 199) - (99 : Int32)) (lw ((x1 >>> ((6 : Int32) &&& 31)) >>> ((6 : Int32) &&& 31)) 400) (lw ((x1 >>> ((6 : Int32) &&& 31)) >>> ((6 : Int32) &&& 31)) 8)).bind fun r319 =>
              some (r319.1, r319.2)
    else
      if (10 : Int32) ≤ (lw x1 40) then
        if (18 : Int32) ≤ (lw x1 40) then
          if (21 : Int32) ≤ (lw x1 40) then
            if (23 : Int32) ≤ (lw x1 40) then
              if (lw x1 40) = (23 : Int32) then
                (f_L_does_17 h (lw (x1 >>> ((6 : Int32) &&& 31)) 8) (lw ((x1 >>> ((6 : Int32) &&& 31)) >>> ((2 : Int32) &&& 31)) 8) (lw ((x1 >>> ((6 : Int32) &&& 31)) >>> ((3 : Int32) &&& 31)) 16) (lw ((x1 >>> ((6 : Int32) &&& 31)) >>> ((5 : Int32) &&& 31)) 16)).bind fun r629 =>
                some (r629.1, r629.2)
              else
                (f_L_does_10 h ((1 : Int32) + (lw (x1 >>> ((6 : Int32) &&& 31)) 2)) 0 0 0).bind fun r663 =>
                some (r663.1, r663.2)
            else
              (f_L_does_16 h (lw (x1 >>> ((6 : Int32) &&& 31)) 8) (lw ((x1 >>> ((6 : Int32) &&& 31)) >>> ((3 : Int32) &&& 31)) 16) 0 0).bind fun r592 =>
              some (r592.1, r592.2)
          else
            (f_L_does_11 h 0 0 0 0).bind fun r571 =>
            some (r571.1, r571.2)
        else
          if (14 : Int32) ≤ (lw x1 40) then
            if (17 : Int32) ≤ (lw x1 40) then
              (f_L_does_9 h (lw (x1 >>> ((6 : Int32) &&& 31)) 8) 0 0 0).bind fun r554 =>
              some (r554.1, r554.2)
            else
              (f_L_does_4 h (lw ((x1 >>> ((6 : Int32) &&& 31)) >>> ((5 : Int32) &&& 31)) 130) (lw (x1 >>> ((6 : Int32) &&& 31)) 8) (lw ((x1 >>> ((6 : Int32) &&& 31)) >>> ((4 : Int32) &&& 31)) 3000) 0).bind fun r540 =>
              some (r540.1, r540.2)
          else
            (f_L_does_3 h (lw (x1 >>> ((6 : Int32) &&& 31)) 8) (lw ((x1 >>> ((6 : Int32) &&& 31)) >>> ((4 : Int32) &&& 31)) 3000) 0 0).bind fun r501 =>
            some (r501.1, r501.2)
      else
        if (lw ((x1 >>> ((6 : Int32) &&& 31)) >>> ((7 : Int32) &&& 31)) 4) = (0 : Int32) then
          if (5 : Int32) ≤ (lw x1 40) then
            if (7 : Int32) ≤ (lw x1 40) then
              if (9 : Int32) ≤ (lw x1 40) then
                (f_L_does_8 h (lw ((x1 >>> ((6 : Int32) &&& 31)) >>> ((7 : Int32) &&& 31)) 6) (lw ((x1 >>> ((6 : Int32) &&& 31)) >>> ((4 : Int32) &&& 31)) 3001) (lw ((x1 >>> ((6 : Int32) &&& 31)) >>> ((5 : Int32) &&& 31)) 900) 0).bind fun r477 =>
                some (r477.1, r477.2)
              else
                (f_L_does_7 h (lw ((x1 >>> ((6 : Int32) &&& 31)) >>> ((7 : Int32) &&& 31)) 6) (lw ((x1 >>> ((6 : Int32) &&& 31)) >>> ((3 : Int32) &&& 31)) 16) ((lw ((x1 >>> ((6 : Int32) &&& 31)) >>> ((4 : Int32) &&& 31)) 301) - (150 : Int32)) 0).bind fun r424 =>
                some (r424.1, r424.2)
            else
              if ((101 : Int32) + (lw ((x1 >>> ((6 : Int32) &&& 31)) >>> ((5 : Int32) &&& 31)) 6)) ≤ (100 : Int32) then
                (f_L_does_6 h (lw ((x1 >>> ((6 : Int32) &&& 31)) >>> ((3 : Int32) &&& 31)) 16) (lw ((x1 >>> ((6 : Int32) &&& 31)) >>> ((5 : Int32) &&& 31)) 300) ((101 : Int32) + (lw ((x1 >>> ((6 : Int32) &&& 31)) >>> ((5 : Int32) &&& 31)) 6)) 0).bind fun r370 =>
                some (r370.1, r370.2)
              else
                (f_L_does_6 h (lw ((x1 >>> ((6 : Int32) &&& 31)) >>> ((3 : Int32) &&& 31)) 16) (lw ((x1 >>> ((6 : Int32) &&& 31)) >>> ((5 : Int32) &&& 31)) 300) 0 0).bind fun r370 =>
                some (r370.1, r370.2)
          else
            if (0 : Int32) ≤ (lw ((x1 >>> ((6 : Int32) &&& 31)) >>> ((3 : Int32) &&& 31)) 16) then
              (f_L_does_5 h (((10000 : Int32) * (lw ((x1 >>> ((6 : Int32) &&& 31)) >>> ((4 : Int32) &&& 31)) 3001)) + (lw ((x1 >>> ((6 : Int32) &&& 31)) >>> ((3 : Int32) &&& 31)) 16)) ((lw ((x1 >>> ((6 : Int32) &&& 31)) >>> ((5 : Int32) &&& 31)) 199) - (99 : Int32)) (lw ((x1 >>> ((6 : Int32) &&& 31)) >>> ((6 : Int32) &&& 31)) 400) ((101 : Int32) + (lw ((x1 >>> ((6 : Int32) &&& 31)) >>> ((5 : Int32) &&& 31)) 6))).bind fun r319 =>
              some (r319.1, r319.2)
            else
              (f_L_does_5 h (((10000 : Int32) * (lw ((x1 >>> ((6 : Int32) &&& 31)) >>> ((4 : Int32) &&& 31)) 3001)) + (9999 : Int32)) ((lw ((x1 >>> ((6 : Int32) &&& 31)) >>> ((5 : Int32) &&& 31)) 199) - (99 : Int32)) (lw ((x1 >>> ((6 : Int32) &&& 31)) >>> ((6 : Int32) &&& 31)) 400) ((101 : Int32) + (lw ((x1 >>> ((6 : Int32) &&& 31)) >>> ((5 : Int32) &&& 31)) 6))).bind fun r319 =>
              some (r319.1, r319.2)
        else
          if (5 : Int32) ≤ (lw x1 40) then
            if (7 : Int32) ≤ (lw x1 40) then
              if (9 : Int32) ≤ (lw x1 40) then
                (f_L_does_8 h (lw ((x1 >>> ((6 : Int32) &&& 31)) >>> ((7 : Int32) &&& 31)) 6) (lw ((x1 >>> ((6 : Int32) &&& 31)) >>> ((4 : Int32) &&& 31)) 3001) (lw ((x1 >>> ((6 : Int32) &&& 31)) >>> ((5 : Int32) &&& 31)) 900) 0).bind fun r477 =>
                some (r477.1, r477.2)
              else
                (f_L_does_7 h (lw ((x1 >>> ((6 : Int32) &&& 31)) >>> ((7 : Int32) &&& 31)) 6) (lw ((x1 >>> ((6 : Int32) &&& 31)) >>> ((3 : Int32) &&& 31)) 16) ((lw ((x1 >>> ((6 : Int32) &&& 31)) >>> ((4 : Int32) &&& 31)) 301) - (150 : Int32)) 0).bind fun r424 =>
                some (r424.1, r424.2)
            else
              if (lw ((x1 >>> ((6 : Int32) &&& 31)) >>> ((6 : Int32) &&& 31)) 8) ≤ (100 : Int32) then
                (f_L_does_6 h (lw ((x1 >>> ((6 : Int32) &&& 31)) >>> ((3 : Int32) &&& 31)) 16) (lw ((x1 >>> ((6 : Int32) &&& 31)) >>> ((5 : Int32) &&& 31)) 300) (lw ((x1 >>> ((6 : Int32) &&& 31)) >>> ((6 : Int32) &&& 31)) 8) 0).bind fun r370 =>
                some (r370.1, r370.2)
              else
                (f_L_does_6 h (lw ((x1 >>> ((6 : Int32) &&& 31)) >>> ((3 : Int32) &&& 31)) 16) (lw ((x1 >>> ((6 : Int32) &&& 31)) >>> ((5 : Int32) &&& 31)) 300) 0 0).bind fun r370 =>
                some (r370.1, r370.2)
          else
            if (0 : Int32) ≤ (lw ((x1 >>> ((6 : Int32) &&& 31)) >>> ((3 : Int32) &&& 31)) 16) then
              (f_L_does_5 h (((10000 : Int32) * (lw ((x1 >>> ((6 : Int32) &&& 31)) >>> ((4 : Int32) &&& 31)) 3001)) + (lw ((x1 >>> ((6 : Int32) &&& 31)) >>> ((3 : Int32) &&& 31)) 16)) ((lw ((x1 >>> ((6 : Int32) &&& 31)) >>> ((5 : Int32) &&& 31)) 199) - (99 : Int32)) (lw ((x1 >>> ((6 : Int32) &&& 31)) >>> ((6 : Int32) &&& 31)) 400) (lw ((x1 >>> ((6 : Int32) &&& 31)) >>> ((6 : Int32) &&& 31)) 8)).bind fun r319 =>
              some (r319.1, r319.2)
            else
              (f_L_does_5 h (((10000 : Int32) * (lw ((x1 >>> ((6 : Int32) &&& 31)) >>> ((4 : Int32) &&& 31)) 3001)) + (9999 : Int32)) ((lw ((x1 >>> ((6 : Int32) &&& 31)) >>> ((5 : Int32) &&& 31)) 199) - (99 : Int32)) (lw ((x1 >>> ((6 : Int32) &&& 31)) >>> ((6 : Int32) &&& 31)) 400) (lw ((x1 >>> ((6 : Int32) &&& 31)) >>> ((6 : Int32) &&& 31)) 8)).bind fun r319 =>
              some (r319.1, r319.2)
def f_L_isKept (h : Nat → ObS) (x1 : Int32) : Option (Int32 × (Nat → ObS)) :=
  (f_L_does_16 h (lw x1 8) (lw (x1 >>> ((3 : Int32) &&& 31)) 16) 0 0).bind fun r23 =>
  (f_L_does_17 r23.2 (lw x1 8) (lw x1 8) (lw (x1 >>> ((3 : Int32) &&& 31)) 16) (lw (x1 >>> ((7 : Int32) &&& 31)) 16)).bind fun r43 =>
  (f_L_does_16 r43.2 (lw x1 8) (lw (x1 >>> ((3 : Int32) &&& 31)) 16) 0 0).bind fun r55 =>
  if r55.1 = r23.1 then
    if r43.1 = (-2100000000 : Int32) then
      some ((1 : Int32), r55.2)
    else
      if r43.1 = (-100000 : Int32) then
        some ((1 : Int32), r55.2)
      else
        some ((0 : Int32), r55.2)
  else
    some ((0 : Int32), r55.2)
def f_L_areAlike_b45 (k : Int32 → Int32 → Option Int32) (h : Nat → ObS) (g : Nat → ObS) (x1 : Int32) (v31_4 : Int32) : Nat → Int32 → Int32 → Option Int32
  | 0, _, _ => none
  | n + 1, v45_5, v45_3 =>
  if (4 : Int32) ≤ v45_5 then
    if v45_3 = (0 : Int32) then
      k 0 (v31_4 + 1)
    else
      (f_L_does_15 h v31_4 (lw x1 90) 0 0).bind fun r169 =>
      (f_L_does_15 g v31_4 (lw x1 90) 0 0).bind fun r185 =>
      if r169 = r185 then
        k 1 (v31_4 + 1)
      else
        k 0 (v31_4 + 1)
  else
    if v45_3 = (0 : Int32) then
      if v45_3 = (0 : Int32) then
        k 0 (v31_4 + 1)
      else
        (f_L_does_15 h v31_4 (lw x1 90) 0 0).bind fun r169 =>
        (f_L_does_15 g v31_4 (lw x1 90) 0 0).bind fun r185 =>
        if r169 = r185 then
          k 1 (v31_4 + 1)
        else
          k 0 (v31_4 + 1)
    else
      (f_L_does_12 h v31_4 v45_5 0 0).bind fun r64 =>
      (f_L_does_12 g v31_4 v45_5 0 0).bind fun r76 =>
      if r64 = r76 then
        (f_L_does_14 h v31_4 v45_5 0 0).bind fun r91 =>
        (f_L_does_14 g v31_4 v45_5 0 0).bind fun r103 =>
        if r91 = r103 then
          (f_L_does_13 h (v31_4 / (2 : Int32)) v45_5 0 0).bind fun r120 =>
          (f_L_does_13 g (v31_4 / (2 : Int32)) v45_5 0 0).bind fun r134 =>
          if r120 = r134 then
            f_L_areAlike_b45 k h g x1 v31_4 n (v45_5 + 1) 1
          else
            f_L_areAlike_b45 k h g x1 v31_4 n (v45_5 + 1) 0
        else
          f_L_areAlike_b45 k h g x1 v31_4 n (v45_5 + 1) 0
      else
        f_L_areAlike_b45 k h g x1 v31_4 n (v45_5 + 1) 0
def f_L_areAlike_b31 (h : Nat → ObS) (g : Nat → ObS) (x1 : Int32) : Nat → Int32 → Int32 → Option Int32
  | 0, _, _ => none
  | n + 1, v31_3, v31_4 =>
  if (24 : Int32) ≤ v31_4 then
    if isb v31_3 then
    some v31_3
    else none
  else
    if v31_3 = (0 : Int32) then
      if isb v31_3 then
      some v31_3
      else none
    else
      f_L_areAlike_b45 (f_L_areAlike_b31 h g x1 n) h g x1 v31_4 5 0 v31_3
def f_L_areAlike (h : Nat → ObS) (g : Nat → ObS) (x1 : Int32) : Option Int32 :=
  if (f_X6_now h) = (f_X6_now g) then
    if (f_X6_alarms h) = (f_X6_alarms g) then
      f_L_areAlike_b31 h g x1 25 1 0
    else
      f_L_areAlike_b31 h g x1 25 0 0
  else
    f_L_areAlike_b31 h g x1 25 0 0
def f_L_isInOrder_b307 (h : Nat → ObS) : Nat → Int32 → Int32 → Option Int32
  | 0, _, _ => none
  | n + 1, v307_3, v307_2 =>
  if (6 : Int32) ≤ v307_3 then
    if isb v307_2 then
    some v307_2
    else none
  else
    if v307_2 = (0 : Int32) then
      if isb v307_2 then
      some v307_2
      else none
    else
      (f_L_does_14 h v307_3 1 0 0).bind fun r324 =>
      if r324 = (-2100000000 : Int32) then
        f_L_isInOrder_b307 h n (v307_3 + 1) 1
      else
        if r324 < (-10000000 : Int32) then
          f_L_isInOrder_b307 h n (v307_3 + 1) 0
        else
          if (10000000 : Int32) < r324 then
            f_L_isInOrder_b307 h n (v307_3 + 1) 0
          else
            (ob (f_X6_ofController h v307_3 0)).bind fun r353 =>
            if r353 < (0 : Int32) then
              f_L_isInOrder_b307 h n (v307_3 + 1) 0
            else
              (ob (f_X6_ofController h v307_3 0)).bind fun r362 =>
              if (3000 : Int32) < r362 then
                f_L_isInOrder_b307 h n (v307_3 + 1) 0
              else
                f_L_isInOrder_b307 h n (v307_3 + 1) 1
def f_L_isInOrder_b219 (k : Int32 → Int32 → Option Int32) (h : Nat → ObS) (kn : Nat → Int32) (v15_3 : Int32) (v219_2 : Int32) : Option Int32 :=
  if v219_2 = (0 : Int32) then
    k 0 (v15_3 + 1)
  else
    if (kn (v15_3 / (2 : Int32)).toNatClampNeg) = (3 : Int32) then
      if (kn (v15_3 / (2 : Int32)).toNatClampNeg) = (3 : Int32) then
        if (kn (v15_3 / (2 : Int32)).toNatClampNeg) = (4 : Int32) then
          (ob (f_X6_ofUnit h (v15_3 / (2 : Int32)) 1)).bind fun r287 =>
          if r287 < (0 : Int32) then
            k 0 (v15_3 + 1)
          else
            k 1 (v15_3 + 1)
        else
          k 1 (v15_3 + 1)
      else
        if (kn (v15_3 / (2 : Int32)).toNatClampNeg) = (4 : Int32) then
          if (kn (v15_3 / (2 : Int32)).toNatClampNeg) = (4 : Int32) then
            (ob (f_X6_ofUnit h (v15_3 / (2 : Int32)) 1)).bind fun r287 =>
            if r287 < (0 : Int32) then
              k 0 (v15_3 + 1)
            else
              k 1 (v15_3 + 1)
          else
            k 1 (v15_3 + 1)
        else
          (ob (f_X6_ofUnit h (v15_3 / (2 : Int32)) 1)).bind fun r270 =>
          if r270 = (0 : Int32) then
            if (kn (v15_3 / (2 : Int32)).toNatClampNeg) = (4 : Int32) then
              (ob (f_X6_ofUnit h (v15_3 / (2 : Int32)) 1)).bind fun r287 =>
              if r287 < (0 : Int32) then
                k 0 (v15_3 + 1)
              else
                k 1 (v15_3 + 1)
            else
              k 1 (v15_3 + 1)
          else
            k 0 (v15_3 + 1)
    else
      if (kn (v15_3 / (2 : Int32)).toNatClampNeg) = (1 : Int32) then
        if (kn (v15_3 / (2 : Int32)).toNatClampNeg) = (3 : Int32) then
          if (kn (v15_3 / (2 : Int32)).toNatClampNeg) = (4 : Int32) then
            (ob (f_X6_ofUnit h (v15_3 / (2 : Int32)) 1)).bind fun r287 =>
            if r287 < (0 : Int32) then
              k 0 (v15_3 + 1)
            else
              k 1 (v15_3 + 1)
          else
            k 1 (v15_3 + 1)
        else
          if (kn (v15_3 / (2 : Int32)).toNatClampNeg) = (4 : Int32) then
            if (kn (v15_3 / (2 : Int32)).toNatClampNeg) = (4 : Int32) then
              (ob (f_X6_ofUnit h (v15_3 / (2 : Int32)) 1)).bind fun r287 =>
              if r287 < (0 : Int32) then
                k 0 (v15_3 + 1)
              else
                k 1 (v15_3 + 1)
            else
              k 1 (v15_3 + 1)
          else
            (ob (f_X6_ofUnit h (v15_3 / (2 : Int32)) 1)).bind fun r270 =>
            if r270 = (0 : Int32) then
              if (kn (v15_3 / (2 : Int32)).toNatClampNeg) = (4 : Int32) then
                (ob (f_X6_ofUnit h (v15_3 / (2 : Int32)) 1)).bind fun r287 =>
                if r287 < (0 : Int32) then
                  k 0 (v15_3 + 1)
                else
                  k 1 (v15_3 + 1)
              else
                k 1 (v15_3 + 1)
            else
              k 0 (v15_3 + 1)
      else
        (ob (f_X6_of h v15_3 0)).bind fun r238 =>
        if r238 = (0 : Int32) then
          (ob (f_X6_of h v15_3 1)).bind fun r247 =>
          if r247 = (0 : Int32) then
            if (kn (v15_3 / (2 : Int32)).toNatClampNeg) = (3 : Int32) then
              if (kn (v15_3 / (2 : Int32)).toNatClampNeg) = (4 : Int32) then
                (ob (f_X6_ofUnit h (v15_3 / (2 : Int32)) 1)).bind fun r287 =>
                if r287 < (0 : Int32) then
                  k 0 (v15_3 + 1)
                else
                  k 1 (v15_3 + 1)
              else
                k 1 (v15_3 + 1)
            else
              if (kn (v15_3 / (2 : Int32)).toNatClampNeg) = (4 : Int32) then
                if (kn (v15_3 / (2 : Int32)).toNatClampNeg) = (4 : Int32) then
                  (ob (f_X6_ofUnit h (v15_3 / (2 : Int32)) 1)).bind fun r287 =>
                  if r287 < (0 : Int32) then
                    k 0 (v15_3 + 1)
                  else
                    k 1 (v15_3 + 1)
                else
                  k 1 (v15_3 + 1)
              else
                (ob (f_X6_ofUnit h (v15_3 / (2 : Int32)) 1)).bind fun r270 =>
                if r270 = (0 : Int32) then
                  if (kn (v15_3 / (2 : Int32)).toNatClampNeg) = (4 : Int32) then
                    (ob (f_X6_ofUnit h (v15_3 / (2 : Int32)) 1)).bind fun r287 =>
                    if r287 < (0 : Int32) then
                      k 0 (v15_3 + 1)
                    else
                      k 1 (v15_3 + 1)
                  else
                    k 1 (v15_3 + 1)
                else
                  k 0 (v15_3 + 1)
          else
            k 0 (v15_3 + 1)
        else
          k 0 (v15_3 + 1)
def f_L_isInOrder_b126 (k : Int32 → Int32 → Option Int32) (h : Nat → ObS) (kn : Nat → Int32) (r32 : Int32) (v15_3 : Int32) (v126_2 : Int32) : Option Int32 :=
  if inb (v15_3 / (2 : Int32)) 12 then
  if r32 = (-2100000000 : Int32) then
    k v126_2 (v15_3 + 1)
  else
    if (v15_3 - v15_3 / (2 : Int32) * (2 : Int32)) = (1 : Int32) then
      if v126_2 = (0 : Int32) then
        k v126_2 (v15_3 + 1)
      else
        (ob (f_X6_ofUnit h (v15_3 / (2 : Int32)) 0)).bind fun r156 =>
        if (kn (v15_3 / (2 : Int32)).toNatClampNeg) = (2 : Int32) then
          f_L_isInOrder_b219 k h kn v15_3 1
        else
          if r156 < (0 : Int32) then
            f_L_isInOrder_b219 k h kn v15_3 0
          else
            if (kn (v15_3 / (2 : Int32)).toNatClampNeg) = (0 : Int32) then
              if (999 : Int32) < r156 then
                f_L_isInOrder_b219 k h kn v15_3 0
              else
                f_L_isInOrder_b219 k h kn v15_3 1
            else
              if (kn (v15_3 / (2 : Int32)).toNatClampNeg) = (1 : Int32) then
                if (100 : Int32) < r156 then
                  f_L_isInOrder_b219 k h kn v15_3 0
                else
                  f_L_isInOrder_b219 k h kn v15_3 1
              else
                if (kn (v15_3 / (2 : Int32)).toNatClampNeg) = (3 : Int32) then
                  if (9999 : Int32) < r156 then
                    f_L_isInOrder_b219 k h kn v15_3 0
                  else
                    f_L_isInOrder_b219 k h kn v15_3 1
                else
                  if (99999 : Int32) < r156 then
                    f_L_isInOrder_b219 k h kn v15_3 0
                  else
                    f_L_isInOrder_b219 k h kn v15_3 1
    else
      k v126_2 (v15_3 + 1)
  else none
def f_L_isInOrder_b15 (h : Nat → ObS) (kn : Nat → Int32) : Nat → Int32 → Int32 → Option Int32
  | 0, _, _ => none
  | n + 1, v15_2, v15_3 =>
  if (24 : Int32) ≤ v15_3 then
    f_L_isInOrder_b307 h 7 0 v15_2
  else
    if v15_2 = (0 : Int32) then
      f_L_isInOrder_b307 h 7 0 v15_2
    else
      (f_L_does_12 h v15_3 0 0 0).bind fun r32 =>
      if r32 = (-2100000000 : Int32) then
        f_L_isInOrder_b126 (f_L_isInOrder_b15 h kn n) h kn r32 v15_3 v15_2
      else
        if r32 = (0 : Int32) then
          if r32 < (0 : Int32) then
            f_L_isInOrder_b126 (f_L_isInOrder_b15 h kn n) h kn r32 v15_3 0
          else
            (ob (f_X6_of h v15_3 1)).bind fun r78 =>
            if r78 < (0 : Int32) then
              f_L_isInOrder_b126 (f_L_isInOrder_b15 h kn n) h kn r32 v15_3 0
            else
              (ob (f_X6_of h v15_3 2)).bind fun r87 =>
              if (lg_cmp r87.toInt64 0) = (0 : Int32) then
                if (f_X6_now h) = (0 : Int32) then
                  f_L_isInOrder_b126 (f_L_isInOrder_b15 h kn n) h kn r32 v15_3 1
                else
                  (ob (f_X6_trend h v15_3 (f_X6_now h))).bind fun r110 =>
                  if (lg_cmp r110.toInt64 0) = (0 : Int32) then
                    f_L_isInOrder_b126 (f_L_isInOrder_b15 h kn n) h kn r32 v15_3 1
                  else
                    f_L_isInOrder_b126 (f_L_isInOrder_b15 h kn n) h kn r32 v15_3 0
              else
                f_L_isInOrder_b126 (f_L_isInOrder_b15 h kn n) h kn r32 v15_3 0
        else
          (ob (f_X6_of h v15_3 1)).bind fun r59 =>
          if decide (¬ r32.toInt64 = (0 : Int64)) then
          if r32 < (0 : Int32) then
            f_L_isInOrder_b126 (f_L_isInOrder_b15 h kn n) h kn r32 v15_3 0
          else
            (ob (f_X6_of h v15_3 1)).bind fun r78 =>
            if r78 < (0 : Int32) then
              f_L_isInOrder_b126 (f_L_isInOrder_b15 h kn n) h kn r32 v15_3 0
            else
              (ob (f_X6_of h v15_3 2)).bind fun r87 =>
              if (lg_cmp r87.toInt64 ((10 * r59.toInt64) / r32.toInt64)) = (0 : Int32) then
                if (f_X6_now h) = (0 : Int32) then
                  f_L_isInOrder_b126 (f_L_isInOrder_b15 h kn n) h kn r32 v15_3 1
                else
                  (ob (f_X6_trend h v15_3 (f_X6_now h))).bind fun r110 =>
                  if (lg_cmp r110.toInt64 ((10 * r59.toInt64) / r32.toInt64)) = (0 : Int32) then
                    f_L_isInOrder_b126 (f_L_isInOrder_b15 h kn n) h kn r32 v15_3 1
                  else
                    f_L_isInOrder_b126 (f_L_isInOrder_b15 h kn n) h kn r32 v15_3 0
              else
                f_L_isInOrder_b126 (f_L_isInOrder_b15 h kn n) h kn r32 v15_3 0
          else none
def f_L_isInOrder (h : Nat → ObS) (kn : Nat → Int32) : Option Int32 :=
  (f_X6_balance h).bind fun r1 =>
  if r1 = (0 : Int32) then
    f_L_isInOrder_b15 h kn 25 1 0
  else
    f_L_isInOrder_b15 h kn 25 0 0
def f_L_law_b525 (k : Int32 → Int32 → (Nat → ObS) → (Nat → ObS) → Option Int32) (g454 : Nat → ObS) (v387_6 : Int32) (v525_4 : Int32) (h525 : Nat → ObS) : Option Int32 :=
  k (v387_6 + 1) v525_4 h525 g454
def f_L_law_b497 (k : Int32 → Int32 → (Nat → ObS) → (Nat → ObS) → Option Int32) (r406 : Int32) (r424 : Int32 × (Nat → ObS)) (g454 : Nat → ObS) (v387_6 : Int32)  : Option Int32 :=
  if (v387_6 - v387_6 / (20 : Int32) * (20 : Int32)) = (9 : Int32) then
    (f_L_isKept r424.2 ((r406 + ((1913 : Int32) * (v387_6 / (61 : Int32)))) >>> ((4 : Int32) &&& 31))).bind fun r512 =>
    if r512.1 = (0 : Int32) then
      f_L_law_b525 k g454 v387_6 0 r512.2
    else
      f_L_law_b525 k g454 v387_6 1 r512.2
  else
    f_L_law_b525 k g454 v387_6 1 r424.2
def f_L_law_b481 (k : Int32 → Int32 → (Nat → ObS) → (Nat → ObS) → Option Int32) (kn30 : Nat → Int32) (r406 : Int32) (r424 : Int32 × (Nat → ObS)) (g454 : Nat → ObS) (v387_6 : Int32)  : Option Int32 :=
  if (v387_6 - v387_6 / (5 : Int32) * (5 : Int32)) = (2 : Int32) then
    (f_L_isInOrder r424.2 kn30).bind fun r491 =>
    if r491 = (0 : Int32) then
      f_L_law_b525 k g454 v387_6 0 r424.2
    else
      f_L_law_b497 k r406 r424 g454 v387_6
  else
    f_L_law_b497 k r406 r424 g454 v387_6
def f_L_law_b454 (k : Int32 → Int32 → (Nat → ObS) → (Nat → ObS) → Option Int32) (kn30 : Nat → Int32) (r406 : Int32) (r424 : Int32 × (Nat → ObS)) (v387_6 : Int32) (v454_4 : Int32) (g454 : Nat → ObS) : Option Int32 :=
  if v454_4 = (0 : Int32) then
    f_L_law_b525 k g454 v387_6 0 r424.2
  else
    if (v387_6 - v387_6 / (8 : Int32) * (8 : Int32)) = (7 : Int32) then
      (f_L_areAlike r424.2 g454 ((r406 + ((1913 : Int32) * (v387_6 / (61 : Int32)))) >>> ((3 : Int32) &&& 31))).bind fun r475 =>
      if r475 = (0 : Int32) then
        f_L_law_b525 k g454 v387_6 0 r424.2
      else
        f_L_law_b481 k kn30 r406 r424 g454 v387_6
    else
      f_L_law_b481 k kn30 r406 r424 g454 v387_6
def f_L_law_b387 (xs : Nat → Int32) (L : Nat) (kn30 : Nat → Int32) : Nat → Int32 → Int32 → (Nat → ObS) → (Nat → ObS) → Option Int32
  | 0, _, _, _, _ => none
  | n + 1, v387_6, v387_4, h387, g387 =>
  if (130 : Int32) ≤ v387_6 then
    if v387_4 = (0 : Int32) then
      some (0 : Int32)
    else
      (f_L_areAlike h387 g387 7).bind fun r540 =>
      if r540 = (0 : Int32) then
        some (0 : Int32)
      else
        (f_L_isInOrder g387 kn30).bind fun r548 =>
        if r548 = (0 : Int32) then
          some (0 : Int32)
        else
          some (1 : Int32)
  else
    if v387_4 = (0 : Int32) then
      if v387_4 = (0 : Int32) then
        some (0 : Int32)
      else
        (f_L_areAlike h387 g387 7).bind fun r540 =>
        if r540 = (0 : Int32) then
          some (0 : Int32)
        else
          (f_L_isInOrder g387 kn30).bind fun r548 =>
          if r548 = (0 : Int32) then
            some (0 : Int32)
          else
            some (1 : Int32)
    else
      (f_L_cell xs L (v387_6 - v387_6 / (61 : Int32) * (61 : Int32))).bind fun r406 =>
      (f_L_act h387 (r406 + ((1913 : Int32) * (v387_6 / (61 : Int32))))).bind fun r424 =>
      if r424.1 = (-2100000000 : Int32) then
        f_L_law_b454 (f_L_law_b387 xs L kn30 n) kn30 r406 r424 v387_6 1 g387
      else
        (f_L_act g387 (r406 + ((1913 : Int32) * (v387_6 / (61 : Int32))))).bind fun r439 =>
        if r439.1 = r424.1 then
          f_L_law_b454 (f_L_law_b387 xs L kn30 n) kn30 r406 r424 v387_6 1 r439.2
        else
          f_L_law_b454 (f_L_law_b387 xs L kn30 n) kn30 r406 r424 v387_6 0 r439.2
def f_L_law_b287 (xs : Nat → Int32) (L : Nat) (kn30 : Nat → Int32) : Nat → Int32 → Int32 → (Nat → ObS) → (Nat → ObS) → Option Int32
  | 0, _, _, _, _ => none
  | n + 1, v287_6, v287_4, h287, g287 =>
  if (3 : Int32) ≤ v287_6 then
    f_L_law_b387 xs L kn30 131 0 v287_4 h287 g287
  else
    if v287_4 = (0 : Int32) then
      f_L_law_b387 xs L kn30 131 0 v287_4 h287 g287
    else
      (f_L_cell xs L ((20 : Int32) + v287_6)).bind fun r304 =>
      (f_L_does_2 h287 (lw (r304 >>> ((3 : Int32) &&& 31)) 8) (lw ((r304 >>> ((3 : Int32) &&& 31)) >>> ((4 : Int32) &&& 31)) 16) 0 0).bind fun r331 =>
      if r331.1 = (-2100000000 : Int32) then
        f_L_law_b287 xs L kn30 n (v287_6 + 1) 1 r331.2 g287
      else
        (f_L_does_2 g287 (lw (r304 >>> ((3 : Int32) &&& 31)) 8) (lw ((r304 >>> ((3 : Int32) &&& 31)) >>> ((4 : Int32) &&& 31)) 16) 0 0).bind fun r363 =>
        if r363.1 = r331.1 then
          f_L_law_b287 xs L kn30 n (v287_6 + 1) 1 r331.2 r363.2
        else
          f_L_law_b287 xs L kn30 n (v287_6 + 1) 0 r331.2 r363.2
def f_L_law_b252 (k : Int32 → Int32 → Int32 → (Nat → ObS) → (Nat → ObS) → (Nat → Int32) → Option Int32) (v30_5 : Int32) (v30_6 : Int32) (kn30 : Nat → Int32) (v96_8 : Int32) (v198_10 : Int32) (h198 : Nat → ObS) (k252_0 : Int32) (g252 : Nat → ObS) : Option Int32 :=
  if k252_0 = v198_10 then
    if v198_10 < (0 : Int32) then
      k 1 v30_5 (v30_6 + 1) h198 g252 kn30
    else
      if inb v198_10 12 then
      k 1 (v30_5 + 1) (v30_6 + 1) h198 g252 (upd kn30 (v198_10).toNatClampNeg v96_8)
      else none
  else
    if v198_10 < (0 : Int32) then
      k 0 v30_5 (v30_6 + 1) h198 g252 kn30
    else
      if inb v198_10 12 then
      k 0 (v30_5 + 1) (v30_6 + 1) h198 g252 (upd kn30 (v198_10).toNatClampNeg v96_8)
      else none
def f_L_law_b198 (k : Int32 → Int32 → Int32 → (Nat → ObS) → (Nat → ObS) → (Nat → Int32) → Option Int32) (r52 : Int32) (v30_5 : Int32) (v30_6 : Int32) (g30 : Nat → ObS) (kn30 : Nat → Int32) (v96_8 : Int32) (v142_9 : Int32) (v198_10 : Int32) (h198 : Nat → ObS) : Option Int32 :=
  if v96_8 = (0 : Int32) then
    (f_L_does_0 g30 v142_9 (lw ((r52 >>> ((2 : Int32) &&& 31)) >>> ((4 : Int32) &&& 31)) 310) 0 0).bind fun r219 =>
    f_L_law_b252 k v30_5 v30_6 kn30 v96_8 v198_10 h198 r219.1 r219.2
  else
    (f_L_does_1 g30 v96_8 (lw ((r52 >>> ((2 : Int32) &&& 31)) >>> ((3 : Int32) &&& 31)) 18) (lw ((r52 >>> ((2 : Int32) &&& 31)) >>> ((5 : Int32) &&& 31)) 18) v142_9).bind fun r249 =>
    f_L_law_b252 k v30_5 v30_6 kn30 v96_8 v198_10 h198 r249.1 r249.2
def f_L_law_b142 (k : Int32 → Int32 → Int32 → (Nat → ObS) → (Nat → ObS) → (Nat → Int32) → Option Int32) (r52 : Int32) (v30_5 : Int32) (v30_6 : Int32) (h30 : Nat → ObS) (g30 : Nat → ObS) (kn30 : Nat → Int32) (v96_8 : Int32) (v142_9 : Int32) : Option Int32 :=
  if v96_8 = (0 : Int32) then
    (f_L_does_0 h30 v142_9 (lw ((r52 >>> ((2 : Int32) &&& 31)) >>> ((4 : Int32) &&& 31)) 310) 0 0).bind fun r163 =>
    f_L_law_b198 k r52 v30_5 v30_6 g30 kn30 v96_8 v142_9 r163.1 r163.2
  else
    (f_L_does_1 h30 v96_8 (lw ((r52 >>> ((2 : Int32) &&& 31)) >>> ((3 : Int32) &&& 31)) 18) (lw ((r52 >>> ((2 : Int32) &&& 31)) >>> ((5 : Int32) &&& 31)) 18) v142_9).bind fun r193 =>
    f_L_law_b198 k r52 v30_5 v30_6 g30 kn30 v96_8 v142_9 r193.1 r193.2
def f_L_law_b96 (k : Int32 → Int32 → Int32 → (Nat → ObS) → (Nat → ObS) → (Nat → Int32) → Option Int32) (r52 : Int32) (v30_5 : Int32) (v30_6 : Int32) (h30 : Nat → ObS) (g30 : Nat → ObS) (kn30 : Nat → Int32) (v96_8 : Int32) : Option Int32 :=
  if v96_8 = (1 : Int32) then
    f_L_law_b142 k r52 v30_5 v30_6 h30 g30 kn30 v96_8 (lw ((r52 >>> ((2 : Int32) &&& 31)) >>> ((7 : Int32) &&& 31)) 101)
  else
    if v96_8 = (3 : Int32) then
      f_L_law_b142 k r52 v30_5 v30_6 h30 g30 kn30 v96_8 (lw ((r52 >>> ((2 : Int32) &&& 31)) >>> ((7 : Int32) &&& 31)) 60)
    else
      if v96_8 = (4 : Int32) then
        f_L_law_b142 k r52 v30_5 v30_6 h30 g30 kn30 v96_8 (lw ((r52 >>> ((2 : Int32) &&& 31)) >>> ((7 : Int32) &&& 31)) 3000)
      else
        f_L_law_b142 k r52 v30_5 v30_6 h30 g30 kn30 v96_8 (lw ((r52 >>> ((2 : Int32) &&& 31)) >>> ((7 : Int32) &&& 31)) 50)
def f_L_law_b30 (xs : Nat → Int32) (L : Nat) : Nat → Int32 → Int32 → Int32 → (Nat → ObS) → (Nat → ObS) → (Nat → Int32) → Option Int32
  | 0, _, _, _, _, _, _ => none
  | n + 1, v30_4, v30_5, v30_6, h30, g30, kn30 =>
  if (20 : Int32) ≤ v30_6 then
    f_L_law_b287 xs L kn30 4 0 v30_4 h30 g30
  else
    if v30_4 = (0 : Int32) then
      f_L_law_b287 xs L kn30 4 0 v30_4 h30 g30
    else
      if (9 : Int32) ≤ v30_5 then
        f_L_law_b287 xs L kn30 4 0 v30_4 h30 g30
      else
        (f_L_cell xs L v30_6).bind fun r52 =>
        if (2 : Int32) ≤ v30_6 then
          if (lw (r52 >>> ((2 : Int32) &&& 31)) 6) = (5 : Int32) then
            f_L_law_b96 (f_L_law_b30 xs L n) r52 v30_5 v30_6 h30 g30 kn30 ((lw (r52 >>> ((2 : Int32) &&& 31)) 6) - (6 : Int32))
          else
            f_L_law_b96 (f_L_law_b30 xs L n) r52 v30_5 v30_6 h30 g30 kn30 ((lw (r52 >>> ((2 : Int32) &&& 31)) 6) - (0 : Int32))
        else
          f_L_law_b96 (f_L_law_b30 xs L n) r52 v30_5 v30_6 h30 g30 kn30 0
def f_L_law (xs : Nat → Int32) (L : Nat) (h : Nat → ObS) (g : Nat → ObS) (kn : Nat → Int32) : Option Int32 :=
  f_L_law_b30 xs L 21 1 0 0 h g kn
