/-! ===== the reference as terms (whole's by program): no walk of it is wanted here ===== -/
def f_X5_in (p0 : Int32) (p1 : Int32) (p2 : Int32) : Bool :=
  if p0 < p1 then false
  else if p2 < p0 then false
  else true
def f_X5_isBlock (p0 : Int32) (p1 : Int32) : Bool :=
  if (f_X5_in p0 0 3) then if (f_X5_in p1 0 11) then true
    else false
  else false
def f_X5_refused (p1 : Int32) (M : Mem) : (Bool × Mem) :=
  if p1 = 0 then (false, (mup M 0 0 p1))
  else (true, (mup M 0 0 p1))
def f_X5_now (p1 : Int32) (M : Mem) : Int32 :=
  if ¬ (M 3 p1.toNatClampNeg) = (-1) then (M 3 p1.toNatClampNeg)
  else (M 2 p1.toNatClampNeg)
def f_X5_isThere (p1 : Int32) (M : Mem) : Bool :=
  if (M 4 p1.toNatClampNeg) = (-1) then false
  else true
def f_X5_isGood (p1 : Int32) (p2 : Int32) (M : Mem) : Bool :=
  if p1 = (-1) then false
  else if ¬ (M 10 ((2 * (p1 / 40)) + p2).toNatClampNeg) = 0 then false
  else if ¬ (M 9 ((2 * p1) + p2).toNatClampNeg) = 0 then false
  else true
def f_X5_heal (p1 : Int32) (p2 : Int32) (M : Mem) : (Int32 × Mem) :=
  if p1 = (-1) then (0, M)
  else if ¬ (M 10 ((2 * (p1 / 40)) + p2).toNatClampNeg) = 0 then (0, M)
  else if (M 9 ((2 * p1) + p2).toNatClampNeg) = 0 then (0, M)
  else (1, (mup M 9 ((2 * p1) + p2).toNatClampNeg 0))
def f_X5_fine (p1 : Int32) (M : Mem) : (Int32 × Mem) :=
  (p1, (mup M 0 0 0))
def f_X5_isSide (p0 : Int32) (p1 : Int32) : Bool :=
  if (f_X5_in p0 0 2) then if (f_X5_in p1 0 1) then true
    else false
  else false
def f_X5_isCell (p0 : Int32) (p1 : Int32) : Bool :=
  if (f_X5_in p0 0 2) then if (f_X5_in p1 0 39) then true
    else false
  else false
def f_X5_thrown (M : Mem) : Int32 :=
  (M 0 0)
def f_X5_write (p1 : Int32) (p2 : Int32) (p3 : Int32) (M : Mem) : (Int32 × Mem) :=
  if (f_X5_isBlock p1 p2) then if (f_X5_in p3 1 9999) then ((f_X5_now ((12 * p1) + p2) (mup M 0 0 0)), (mup (mup M 0 0 0) 3 ((12 * p1) + p2).toNatClampNeg p3))
    else (0, (mup M 0 0 1))
  else (0, (mup M 0 0 1))
def b_X5_punch_43 (x1 : Int32) (x3 : Int32) (rec : Int32 → Int32 → Mem → Int32 × Int32 × Mem) (v4 : Int32) (v5 : Int32) (N : Mem) : Int32 × Int32 × Mem :=
  if ((12 * x1) + x3) < v5 then (v4, v5, N)
  else if ¬ (f_X5_now v5 N) = 0 then rec (v4 + 1) (v5 + 1) (mup N 3 v5.toNatClampNeg 0)
  else rec (v4 + 0) (v5 + 1) (mup N 3 v5.toNatClampNeg 0)
def l_X5_punch_43 (x1 : Int32) (x3 : Int32) : Nat → Int32 → Int32 → Mem → Int32 × Int32 × Mem
  | 0, v4, v5, N => (v4, v5, N)
  | n + 1, v4, v5, N => b_X5_punch_43 x1 x3 (l_X5_punch_43 x1 x3 n) v4 v5 N
def f_X5_punch (p1 : Int32) (p2 : Int32) (p3 : Int32) (M : Mem) : (Int32 × Mem) :=
  if (f_X5_isBlock p1 p2) then if (f_X5_in p3 p2 11) then zlet (l_X5_punch_43 p1 p3 (((((12 * p1) + p3) : Int32).toInt + 1 - (((12 * p1) + p2) : Int32).toInt).toNat + 1) 0 ((12 * p1) + p2) (mup M 0 0 0)) (fun s1 =>
      (s1.1, s1.2.2))
    else (0, (mup M 0 0 1))
  else (0, (mup M 0 0 1))
def f_X5_setCopies (p1 : Int32) (p2 : Int32) (M : Mem) : (Int32 × Mem) :=
  if (f_X5_in p1 0 3) then if (f_X5_in p2 1 2) then (((mup M 0 0 0) 1 p1.toNatClampNeg), (mup (mup M 0 0 0) 1 p1.toNatClampNeg p2))
    else (0, (mup M 0 0 1))
  else (0, (mup M 0 0 1))
def f_X5_isReadable (p1 : Int32) (M : Mem) : Bool :=
  if (f_X5_isGood (M 4 p1.toNatClampNeg) 0 M) then true
  else if (f_X5_isGood (M 4 p1.toNatClampNeg) 1 M) then true
  else if (f_X5_isGood (M 5 p1.toNatClampNeg) 0 M) then true
  else if (f_X5_isGood (M 5 p1.toNatClampNeg) 1 M) then true
  else false
def f_X5_isCut (p1 : Int32) (p2 : Int32) (M : Mem) : Bool :=
  zlet (if (f_X5_isThere 52 M) then if (f_X5_isReadable 52 M) then false
      else true
    else false) (fun (j1 : Bool) =>
  zlet (if (f_X5_isThere (48 + p1) M) then if (f_X5_isReadable (48 + p1) M) then false
        else true
      else false) (fun (j3 : Bool) =>
    if j1 then true
      else if j3 then true
      else if (f_X5_isThere ((12 * p1) + p2) M) then if (f_X5_isReadable ((12 * p1) + p2) M) then false
        else true
      else false))
def b_X5_readOn_4 (x1 : Int32) (rec : Bool → Int32 → Mem → Bool × Int32 × Mem) (v2 : Bool) (v3 : Int32) (N : Mem) : Bool × Int32 × Mem :=
  if 4 ≤ v3 then (v2, v3, N)
  else if v2 then (v2, v3, N)
  else if 2 ≤ v3 then if (f_X5_isGood (N 5 x1.toNatClampNeg) (v3 - v3 / 2 * 2) N) then rec (f_X5_isGood (N 5 x1.toNatClampNeg) (v3 - v3 / 2 * 2) N) (v3 + 1) (mup N 0 2 ((N 0 2) + 0))
    else zlet (f_X5_heal (N 5 x1.toNatClampNeg) (v3 - v3 / 2 * 2) N) (fun q1 =>
    rec (f_X5_isGood (N 5 x1.toNatClampNeg) (v3 - v3 / 2 * 2) N) (v3 + 1) (mup q1.2 0 2 ((N 0 2) + q1.1)))
  else if (f_X5_isGood (N 4 x1.toNatClampNeg) (v3 - v3 / 2 * 2) N) then rec (f_X5_isGood (N 4 x1.toNatClampNeg) (v3 - v3 / 2 * 2) N) (v3 + 1) (mup N 0 2 ((N 0 2) + 0))
  else zlet (f_X5_heal (N 4 x1.toNatClampNeg) (v3 - v3 / 2 * 2) N) (fun q2 =>
  rec (f_X5_isGood (N 4 x1.toNatClampNeg) (v3 - v3 / 2 * 2) N) (v3 + 1) (mup q2.2 0 2 ((N 0 2) + q2.1)))
def l_X5_readOn_4 (x1 : Int32) : Nat → Bool → Int32 → Mem → Bool × Int32 × Mem
  | 0, v2, v3, N => (v2, v3, N)
  | n + 1, v2, v3, N => b_X5_readOn_4 x1 (l_X5_readOn_4 x1 n) v2 v3 N
def f_X5_readOn (p1 : Int32) (M : Mem) : Mem :=
  zlet (l_X5_readOn_4 p1 5 false 0 M) (fun s3 =>
  s3.2.2)
def f_X5_readIfThere (p1 : Int32) (M : Mem) : Mem :=
  if (f_X5_isThere p1 M) then zlet (f_X5_readOn p1 M) (fun N1 =>
    N1)
  else M
def b_X5_nextData_13 (x1 : Int32) (x2 : Int32) (x4 : Bool) (M : Mem) (rec : Int32 → Int32 → Int32 × Int32) (v3 : Int32) (v5 : Int32) : Int32 × Int32 :=
  if x4 then if v5 < x2 then (v3, v5)
    else if ¬ (f_X5_now ((12 * x1) + v5) M) = 0 then rec v5 (v5 + (-1))
    else rec v3 (v5 + (-1))
  else (v3, v5)
def l_X5_nextData_13 (x1 : Int32) (x2 : Int32) (x4 : Bool) (M : Mem) : Nat → Int32 → Int32 → Int32 × Int32
  | 0, v3, v5 => (v3, v5)
  | n + 1, v3, v5 => b_X5_nextData_13 x1 x2 x4 M (l_X5_nextData_13 x1 x2 x4 M n) v3 v5
def f_X5_nextData (p1 : Int32) (p2 : Int32) (M : Mem) : (Int32 × Mem) :=
  zlet (l_X5_nextData_13 p1 p2 (f_X5_isBlock p1 p2) M (((11 : Int32).toInt + 1 - (p2 : Int32).toInt).toNat + 1) (-1) 11) (fun s1 =>
  if (f_X5_isBlock p1 p2) then if ¬ s1.1 = (-1) then (s1.1, (mup M 0 0 0))
      else (0, (mup M 0 0 2))
    else (0, (mup M 0 0 1)))
def b_X5_nextHole_14 (x1 : Int32) (x2 : Int32) (x4 : Bool) (M : Mem) (rec : Int32 → Int32 → Int32 × Int32) (v3 : Int32) (v5 : Int32) : Int32 × Int32 :=
  if x4 then if v5 < x2 then (v3, v5)
    else if ¬ (f_X5_now ((12 * x1) + v5) M) = 0 then rec v3 (v5 + (-1))
    else rec v5 (v5 + (-1))
  else (v3, v5)
def l_X5_nextHole_14 (x1 : Int32) (x2 : Int32) (x4 : Bool) (M : Mem) : Nat → Int32 → Int32 → Int32 × Int32
  | 0, v3, v5 => (v3, v5)
  | n + 1, v3, v5 => b_X5_nextHole_14 x1 x2 x4 M (l_X5_nextHole_14 x1 x2 x4 M n) v3 v5
def f_X5_nextHole (p1 : Int32) (p2 : Int32) (M : Mem) : (Int32 × Mem) :=
  zlet (l_X5_nextHole_14 p1 p2 (f_X5_isBlock p1 p2) M (((11 : Int32).toInt + 1 - (p2 : Int32).toInt).toNat + 1) 12 11) (fun s1 =>
  if (f_X5_isBlock p1 p2) then (s1.1, (mup M 0 0 0))
    else (0, (mup M 0 0 1)))
def b_X5_hasData_7 (x1 : Int32) (M : Mem) (rec : Bool → Int32 → Bool × Int32) (v2 : Bool) (v3 : Int32) : Bool × Int32 :=
  if ((12 * x1) + 12) ≤ v3 then (v2, v3)
  else if v2 then rec true (v3 + 1)
  else if (f_X5_now v3 M) = 0 then rec false (v3 + 1)
  else rec true (v3 + 1)
def l_X5_hasData_7 (x1 : Int32) (M : Mem) : Nat → Bool → Int32 → Bool × Int32
  | 0, v2, v3 => (v2, v3)
  | n + 1, v2, v3 => b_X5_hasData_7 x1 M (l_X5_hasData_7 x1 M n) v2 v3
def f_X5_hasData (p1 : Int32) (M : Mem) : Bool :=
  zlet (l_X5_hasData_7 p1 M (((((12 * p1) + 12) : Int32).toInt - ((12 * p1) : Int32).toInt).toNat + 1) false (12 * p1)) (fun s1 =>
  s1.1)
def b_X5_isChanged_7 (x1 : Int32) (M : Mem) (rec : Bool → Int32 → Bool × Int32) (v2 : Bool) (v3 : Int32) : Bool × Int32 :=
  if ((12 * x1) + 12) ≤ v3 then (v2, v3)
  else if v2 then rec true (v3 + 1)
  else if (M 3 v3.toNatClampNeg) = (-1) then rec false (v3 + 1)
  else rec true (v3 + 1)
def l_X5_isChanged_7 (x1 : Int32) (M : Mem) : Nat → Bool → Int32 → Bool × Int32
  | 0, v2, v3 => (v2, v3)
  | n + 1, v2, v3 => b_X5_isChanged_7 x1 M (l_X5_isChanged_7 x1 M n) v2 v3
def f_X5_isChanged (p1 : Int32) (M : Mem) : Bool :=
  zlet (l_X5_isChanged_7 p1 M (((((12 * p1) + 12) : Int32).toInt - ((12 * p1) : Int32).toInt).toNat + 1) false (12 * p1)) (fun s1 =>
  s1.1)
def b_X5_countFree_12_8 (x1 : Int32) (M : Mem) (rec : Int32 → Int32 → Int32 × Int32) (v3 : Int32) (v4 : Int32) : Int32 × Int32 :=
  if ((40 * x1) + 40) ≤ v4 then (v3, v4)
  else if (M 12 v4.toNatClampNeg) = 0 then rec (v3 + 1) (v4 + 1)
  else rec (v3 + 0) (v4 + 1)
def l_X5_countFree_12_8 (x1 : Int32) (M : Mem) : Nat → Int32 → Int32 → Int32 × Int32
  | 0, v3, v4 => (v3, v4)
  | n + 1, v3, v4 => b_X5_countFree_12_8 x1 M (l_X5_countFree_12_8 x1 M n) v3 v4
def f_X5_countFree_12 (p1 : Int32) (M : Mem) : Int32 :=
  zlet (l_X5_countFree_12_8 p1 M (((((40 * p1) + 40) : Int32).toInt - ((40 * p1) : Int32).toInt).toNat + 1) 0 (40 * p1)) (fun s1 =>
  s1.1)
def b_X5_take_4 (x1 : Int32) (M : Mem) (rec : Int32 → Int32 → Int32 × Int32) (v2 : Int32) (v3 : Int32) : Int32 × Int32 :=
  if 3 ≤ v3 then (v2, v3)
  else if v3 = x1 then rec v2 (v3 + 1)
  else if v2 = (-1) then rec v3 (v3 + 1)
  else if (f_X5_countFree_12 v3 M) ≤ (f_X5_countFree_12 v2 M) then rec v2 (v3 + 1)
  else rec v3 (v3 + 1)
def l_X5_take_4 (x1 : Int32) (M : Mem) : Nat → Int32 → Int32 → Int32 × Int32
  | 0, v2, v3 => (v2, v3)
  | n + 1, v2, v3 => b_X5_take_4 x1 M (l_X5_take_4 x1 M n) v2 v3
def b_X5_take_56 (x2 : Int32) (M : Mem) (rec : Int32 → Int32 → Int32 × Int32) (v3 : Int32) (v4 : Int32) : Int32 × Int32 :=
  if ((40 * x2) + 40) ≤ v4 then (v3, v4)
  else if ¬ v3 = (-1) then (v3, v4)
  else if (M 12 v4.toNatClampNeg) = 0 then rec v4 (v4 + 1)
  else rec (-1) (v4 + 1)
def l_X5_take_56 (x2 : Int32) (M : Mem) : Nat → Int32 → Int32 → Int32 × Int32
  | 0, v3, v4 => (v3, v4)
  | n + 1, v3, v4 => b_X5_take_56 x2 M (l_X5_take_56 x2 M n) v3 v4
def f_X5_take (p1 : Int32) (M : Mem) : (Int32 × Mem) :=
  zlet (l_X5_take_4 p1 M 4 (-1) 0) (fun s1 =>
  zlet (l_X5_take_56 s1.1 M (((((40 * s1.1) + 40) : Int32).toInt - ((40 * s1.1) : Int32).toInt).toNat + 1) (-1) (40 * s1.1)) (fun s2 =>
    if s2.1 = (-1) then (s2.1, M)
      else (s2.1, (mup (mup M 12 s2.1.toNatClampNeg 1) 0 19 (((mup M 12 s2.1.toNatClampNeg 1) 0 19) + 1)))))
def b_X5_countFree_8_8 (x1 : Int32) (M : Mem) (rec : Int32 → Int32 → Int32 × Int32) (v3 : Int32) (v4 : Int32) : Int32 × Int32 :=
  if ((40 * x1) + 40) ≤ v4 then (v3, v4)
  else if (M 8 v4.toNatClampNeg) = 0 then rec (v3 + 1) (v4 + 1)
  else rec (v3 + 0) (v4 + 1)
def l_X5_countFree_8_8 (x1 : Int32) (M : Mem) : Nat → Int32 → Int32 → Int32 × Int32
  | 0, v3, v4 => (v3, v4)
  | n + 1, v3, v4 => b_X5_countFree_8_8 x1 M (l_X5_countFree_8_8 x1 M n) v3 v4
def f_X5_countFree_8 (p1 : Int32) (M : Mem) : Int32 :=
  zlet (l_X5_countFree_8_8 p1 M (((((40 * p1) + 40) : Int32).toInt - ((40 * p1) : Int32).toInt).toNat + 1) 0 (40 * p1)) (fun s1 =>
  s1.1)
def f_X5_tryOut (p1 : Int32) (p2 : Bool) (M : Mem) : (Bool × Mem) :=
  zlet (f_X5_take (-1) (mup M 16 p1.toNatClampNeg 1)) (fun q1 =>
  zlet (if ((mup q1.2 14 p1.toNatClampNeg q1.1) 14 p1.toNatClampNeg) = (-1) then false
      else true) (fun (j2 : Bool) =>
    if j2 then if p2 then zlet (f_X5_take (((mup q1.2 14 p1.toNatClampNeg q1.1) 14 p1.toNatClampNeg) / 40) (mup q1.2 14 p1.toNatClampNeg q1.1)) (fun q4 =>
          if ((mup q4.2 15 p1.toNatClampNeg q4.1) 15 p1.toNatClampNeg) = (-1) then (false, (mup q4.2 15 p1.toNatClampNeg q4.1))
            else (true, (mup q4.2 15 p1.toNatClampNeg q4.1)))
        else (j2, (mup q1.2 14 p1.toNatClampNeg q1.1))
      else (j2, (mup q1.2 14 p1.toNatClampNeg q1.1))))
def b_X5_tries_7 (rec : Int32 → Mem → Int32 × Mem) (v1 : Int32) (N : Mem) : Int32 × Mem :=
  if 120 ≤ v1 then (v1, N)
  else rec (v1 + 1) (mup N 12 v1.toNatClampNeg (vp_nar .boolean (N 8 v1.toNatClampNeg)))
def l_X5_tries_7 : Nat → Int32 → Mem → Int32 × Mem
  | 0, v1, N => (v1, N)
  | n + 1, v1, N => b_X5_tries_7 (l_X5_tries_7 n) v1 N
def b_X5_tries_33 (rec : Int32 → Mem → Int32 × Mem) (v1 : Int32) (N : Mem) : Int32 × Mem :=
  if 53 ≤ v1 then (v1, N)
  else rec (v1 + 1) (mup (mup (mup N 16 v1.toNatClampNeg 0) 14 v1.toNatClampNeg (-1)) 15 v1.toNatClampNeg (-1))
def l_X5_tries_33 : Nat → Int32 → Mem → Int32 × Mem
  | 0, v1, N => (v1, N)
  | n + 1, v1, N => b_X5_tries_33 (l_X5_tries_33 n) v1 N
def b_X5_tries_133 (x2 : Int32) (x3 : Bool) (x4 : Int32) (rec : Bool → Int32 → Mem → Bool × Int32 × Mem) (v1 : Bool) (v5 : Int32) (N : Mem) : Bool × Int32 × Mem :=
  if ((12 * x4) + 12) ≤ v5 then (v1, v5, N)
  else if v1 then zlet (if (N 3 v5.toNatClampNeg) = (-1) then false
      else true) (fun (j5 : Bool) =>
    if ((mup N 16 v5.toNatClampNeg (bI j5)) 3 v5.toNatClampNeg) < 1 then rec true (v5 + 1) (mup N 16 v5.toNatClampNeg (bI j5))
      else if ¬ ((mup N 16 v5.toNatClampNeg (bI j5)) 1 x4.toNatClampNeg) = 2 then zlet (f_X5_tryOut v5 false (mup N 16 v5.toNatClampNeg (bI j5))) (fun q7 =>
        if q7.1 then rec true (v5 + 1) q7.2
          else rec false (v5 + 1) q7.2)
      else zlet (f_X5_tryOut v5 true (mup N 16 v5.toNatClampNeg (bI j5))) (fun q8 =>
      if q8.1 then rec true (v5 + 1) q8.2
        else rec false (v5 + 1) q8.2))
  else (v1, v5, N)
def l_X5_tries_133 (x2 : Int32) (x3 : Bool) (x4 : Int32) : Nat → Bool → Int32 → Mem → Bool × Int32 × Mem
  | 0, v1, v5, N => (v1, v5, N)
  | n + 1, v1, v5, N => b_X5_tries_133 x2 x3 x4 (l_X5_tries_133 x2 x3 x4 n) v1 v5 N
def b_X5_tries_75 (rec : Bool → Bool → Bool → Int32 → Mem → Bool × Bool × Bool × Int32 × Mem) (v1 : Bool) (v2 : Bool) (v3 : Bool) (v4 : Int32) (N : Mem) : Bool × Bool × Bool × Int32 × Mem :=
  if 4 ≤ v4 then (v1, v2, v3, v4, N)
  else if v1 then zlet (if v3 then true
      else if (f_X5_hasData v4 N) then true
      else false) (fun (j3 : Bool) =>
    if (f_X5_isChanged v4 N) then zlet (l_X5_tries_133 1 j3 v4 (((((12 * v4) + 12) : Int32).toInt - ((12 * v4) : Int32).toInt).toNat + 1) v1 (12 * v4) (mup N 16 (48 + v4).toNatClampNeg 1)) (fun s9 =>
        if s9.1 then if (f_X5_hasData v4 s9.2.2) then zlet (f_X5_tryOut (48 + v4) true s9.2.2) (fun q10 =>
              if q10.1 then rec true true j3 (v4 + 1) q10.2
                else rec false true j3 (v4 + 1) q10.2)
            else rec true true j3 (v4 + 1) s9.2.2
          else rec false true j3 (v4 + 1) s9.2.2)
      else rec v1 v2 j3 (v4 + 1) N)
  else (v1, v2, v3, v4, N)
def l_X5_tries_75 : Nat → Bool → Bool → Bool → Int32 → Mem → Bool × Bool × Bool × Int32 × Mem
  | 0, v1, v2, v3, v4, N => (v1, v2, v3, v4, N)
  | n + 1, v1, v2, v3, v4, N => b_X5_tries_75 (l_X5_tries_75 n) v1 v2 v3 v4 N
def f_X5_tries (M : Mem) : (Bool × Mem) :=
  zlet (l_X5_tries_7 121 0 (mup M 0 19 0)) (fun s1 =>
  zlet (l_X5_tries_33 54 0 s1.2) (fun s2 =>
    zlet (l_X5_tries_75 5 true false false 0 s2.2) (fun s11 =>
      if s11.1 then if s11.2.1 then if s11.2.2.1 then zlet (f_X5_tryOut 52 true (mup s11.2.2.2.2 16 (52 : Int32).toNatClampNeg (bI s11.2.1))) (fun q12 =>
              if q12.1 then (true, q12.2)
                else (false, q12.2))
            else (true, (mup s11.2.2.2.2 16 (52 : Int32).toNatClampNeg (bI s11.2.1)))
          else (true, (mup s11.2.2.2.2 16 (52 : Int32).toNatClampNeg (bI s11.2.1)))
        else (false, (mup s11.2.2.2.2 16 (52 : Int32).toNatClampNeg (bI s11.2.1))))))
def f_X5_mark (p1 : Int32) (M : Mem) : Mem :=
  if p1 = (-1) then M
  else (mup M 13 p1.toNatClampNeg 1)
def b_X5_clean_2 (x1 : Int32) (rec : Int32 → Mem → Int32 × Mem) (v2 : Int32) (N : Mem) : Int32 × Mem :=
  if 2 ≤ v2 then (v2, N)
  else if x1 = (-1) then (v2, N)
  else if ¬ (N 10 ((2 * (x1 / 40)) + v2).toNatClampNeg) = 0 then rec (v2 + 1) N
  else rec (v2 + 1) (mup N 9 ((2 * x1) + v2).toNatClampNeg 0)
def l_X5_clean_2 (x1 : Int32) : Nat → Int32 → Mem → Int32 × Mem
  | 0, v2, N => (v2, N)
  | n + 1, v2, N => b_X5_clean_2 x1 (l_X5_clean_2 x1 n) v2 N
def f_X5_clean (p1 : Int32) (M : Mem) : Mem :=
  zlet (l_X5_clean_2 p1 3 0 M) (fun s1 =>
  s1.2)
def b_X5_nodeSum_5 (x1 : Int32) (x2 : Int32) (M : Mem) (rec : Int32 → Int32 → Int32 × Int32) (v3 : Int32) (v4 : Int32) : Int32 × Int32 :=
  if (x1 + x2) ≤ v4 then (v3, v4)
  else rec ((((v3 * 131) + (M 7 v4.toNatClampNeg)) + (M 6 v4.toNatClampNeg)) - (((v3 * 131) + (M 7 v4.toNatClampNeg)) + (M 6 v4.toNatClampNeg)) / 65521 * 65521) (v4 + 1)
def l_X5_nodeSum_5 (x1 : Int32) (x2 : Int32) (M : Mem) : Nat → Int32 → Int32 → Int32 × Int32
  | 0, v3, v4 => (v3, v4)
  | n + 1, v3, v4 => b_X5_nodeSum_5 x1 x2 M (l_X5_nodeSum_5 x1 x2 M n) v3 v4
def f_X5_nodeSum (p1 : Int32) (p2 : Int32) (M : Mem) : Int32 :=
  zlet (l_X5_nodeSum_5 p1 p2 M ((((p1 + p2) : Int32).toInt - (p1 : Int32).toInt).toNat + 1) 1 p1) (fun s1 =>
  s1.1)
def f_X5_sumOf (p1 : Int32) (M : Mem) : Int32 :=
  if 48 ≤ p1 then if ¬ p1 = 52 then (f_X5_nodeSum (12 * (p1 - 48)) 12 M)
    else (f_X5_nodeSum 48 4 M)
  else (((31 * (M 2 p1.toNatClampNeg)) + 17) - ((31 * (M 2 p1.toNatClampNeg)) + 17) / 65521 * 65521)
def b_X5_countBuffered_4 (M : Mem) (rec : Int32 → Int32 → Int32 × Int32) (v1 : Int32) (v2 : Int32) : Int32 × Int32 :=
  if 48 ≤ v2 then (v1, v2)
  else if ¬ (M 3 v2.toNatClampNeg) = (-1) then rec (v1 + 1) (v2 + 1)
  else rec (v1 + 0) (v2 + 1)
def l_X5_countBuffered_4 (M : Mem) : Nat → Int32 → Int32 → Int32 × Int32
  | 0, v1, v2 => (v1, v2)
  | n + 1, v1, v2 => b_X5_countBuffered_4 M (l_X5_countBuffered_4 M n) v1 v2
def f_X5_countBuffered (M : Mem) : Int32 :=
  zlet (l_X5_countBuffered_4 M 49 0 0) (fun s1 =>
  s1.1)
def b_X5_abandon_7 (x1 : Int32) (rec : Int32 → Mem → Int32 × Mem) (v2 : Int32) (N : Mem) : Int32 × Mem :=
  if 48 ≤ v2 then (v2, N)
  else rec (v2 + 1) (mup N 3 v2.toNatClampNeg (-1))
def l_X5_abandon_7 (x1 : Int32) : Nat → Int32 → Mem → Int32 × Mem
  | 0, v2, N => (v2, N)
  | n + 1, v2, N => b_X5_abandon_7 x1 (l_X5_abandon_7 x1 n) v2 N
def f_X5_abandon (M : Mem) : (Int32 × Mem) :=
  zlet (l_X5_abandon_7 (f_X5_countBuffered M) 49 0 M) (fun s1 =>
  ((f_X5_countBuffered M), (mup s1.2 0 0 0)))
def f_X5_group (M : Mem) : (Int32 × Mem) :=
  ((M 0 1), (mup M 0 0 0))
def f_X5_buffered (M : Mem) : (Int32 × Mem) :=
  ((f_X5_countBuffered M), (mup M 0 0 0))
def f_X5_offline (p1 : Int32) (p2 : Int32) (M : Mem) : Mem :=
  if (f_X5_isSide p1 p2) then if ¬ (M 10 (2 * p1).toNatClampNeg) = 0 then (mup M 0 0 2)
    else if (M 10 ((2 * p1) + 1).toNatClampNeg) = 0 then (mup (mup (mup M 0 0 0) 10 ((2 * p1) + p2).toNatClampNeg 1) 11 ((2 * p1) + p2).toNatClampNeg (((mup (mup M 0 0 0) 10 ((2 * p1) + p2).toNatClampNeg 1) 0 1) - 1))
    else (mup M 0 0 2)
  else (mup M 0 0 1)
def f_X5_isBehind (p1 : Int32) (p2 : Int32) (M : Mem) : Bool :=
  if (f_X5_isThere p1 M) then if (M 6 p1.toNatClampNeg) ≤ p2 then false
    else true
  else false
def f_X5_copy (p1 : Int32) (p2 : Int32) (p3 : Int32) (p4 : Int32) (M : Mem) : (Int32 × Mem) :=
  if p1 = (-1) then (0, M)
  else if (p1 / 40) = p3 then if (M 9 (((2 * p1) + 1) - p4).toNatClampNeg) = 0 then (1, (mup M 9 ((2 * p1) + p4).toNatClampNeg 0))
    else if (f_X5_isGood p2 0 M) then (1, (mup M 9 ((2 * p1) + p4).toNatClampNeg 0))
    else if (f_X5_isGood p2 1 M) then (1, (mup M 9 ((2 * p1) + p4).toNatClampNeg 0))
    else (1, (mup M 9 ((2 * p1) + p4).toNatClampNeg 1))
  else (0, M)
def f_X5_isFree (p1 : Int32) (p2 : Int32) (M : Mem) : (Bool × Mem) :=
  if (f_X5_isCell p1 p2) then if ¬ ((mup M 0 0 0) 8 ((40 * p1) + p2).toNatClampNeg) = 0 then (false, (mup M 0 0 0))
    else (true, (mup M 0 0 0))
  else (false, (mup M 0 0 1))
def f_X5_free (p1 : Int32) (M : Mem) : (Int32 × Mem) :=
  if (f_X5_in p1 0 2) then ((f_X5_countFree_8 p1 (mup M 0 0 0)), (mup M 0 0 0))
  else (0, (mup M 0 0 1))
def f_X5_healAll (p1 : Int32) (M : Mem) : (Int32 × Mem) :=
  if (f_X5_isReadable p1 M) then zlet (f_X5_heal (M 4 p1.toNatClampNeg) 0 M) (fun q1 =>
    zlet (f_X5_heal (q1.2 4 p1.toNatClampNeg) 1 q1.2) (fun q2 =>
      zlet (f_X5_heal (q2.2 5 p1.toNatClampNeg) 0 q2.2) (fun q3 =>
        zlet (f_X5_heal (q3.2 5 p1.toNatClampNeg) 1 q3.2) (fun q4 =>
          ((((q1.1 + q2.1) + q3.1) + q4.1), q4.2)))))
  else (0, M)
def f_X5_healed (M : Mem) : (Int32 × Mem) :=
  ((M 0 2), (mup M 0 0 0))
def f_X5_spoil (p1 : Int32) (p2 : Int32) (p3 : Int32) (M : Mem) : (Bool × Mem) :=
  if (f_X5_isSide p1 p2) then if (f_X5_isCell p1 p3) then if ¬ (M 10 ((2 * p1) + p2).toNatClampNeg) = 0 then (false, (mup M 0 0 2))
      else if ¬ (M 8 ((40 * p1) + p3).toNatClampNeg) = 0 then if ¬ ((mup M 0 0 0) 9 ((2 * ((40 * p1) + p3)) + p2).toNatClampNeg) = 0 then (false, (mup (mup M 0 0 0) 9 ((2 * ((40 * p1) + p3)) + p2).toNatClampNeg 1))
        else (true, (mup (mup M 0 0 0) 9 ((2 * ((40 * p1) + p3)) + p2).toNatClampNeg 1))
      else (false, (mup M 0 0 2))
    else (false, (mup M 0 0 1))
  else (false, (mup M 0 0 1))
def f_X5_isSpoilt (p1 : Int32) (p2 : Int32) (p3 : Int32) (M : Mem) : (Bool × Mem) :=
  if (f_X5_isSide p1 p2) then if (f_X5_isCell p1 p3) then if (M 10 ((2 * p1) + p2).toNatClampNeg) = 0 then if ((mup M 0 0 0) 8 ((40 * p1) + p3).toNatClampNeg) = 0 then (false, (mup M 0 0 0))
        else if ((mup M 0 0 0) 9 ((2 * ((40 * p1) + p3)) + p2).toNatClampNeg) = 0 then (false, (mup M 0 0 0))
        else (true, (mup M 0 0 0))
      else (false, (mup M 0 0 2))
    else (false, (mup M 0 0 1))
  else (false, (mup M 0 0 1))
def f_X5_places (p1 : Int32) (p2 : Int32) (M : Mem) : (Int32 × Mem) :=
  if (f_X5_isBlock p1 p2) then if ¬ ((mup M 0 0 0) 4 ((12 * p1) + p2).toNatClampNeg) = (-1) then if ¬ ((mup M 0 0 0) 5 ((12 * p1) + p2).toNatClampNeg) = (-1) then (((1 : Int32) + 1), (mup M 0 0 0))
      else (((1 : Int32) + 0), (mup M 0 0 0))
    else if ¬ ((mup M 0 0 0) 5 ((12 * p1) + p2).toNatClampNeg) = (-1) then (((0 : Int32) + 1), (mup M 0 0 0))
    else (((0 : Int32) + 0), (mup M 0 0 0))
  else (0, (mup M 0 0 1))
def f_X5_placeOf (p1 : Int32) (p2 : Int32) (p3 : Int32) (M : Mem) : (Int32 × Mem) :=
  if ¬ p2 = 0 then if ¬ p2 = 1 then zlet (f_X5_refused p3 M) (fun q1 =>
      if q1.1 then (0, q1.2)
        else (((100 * (((-1) : Int32) / 40)) + (((-1) : Int32) - ((-1) : Int32) / 40 * 40)), q1.2))
    else if ¬ (M 5 p1.toNatClampNeg) = (-1) then (((100 * ((M 5 p1.toNatClampNeg) / 40)) + ((M 5 p1.toNatClampNeg) - (M 5 p1.toNatClampNeg) / 40 * 40)), (mup M 0 0 0))
    else zlet (f_X5_refused p3 M) (fun q2 =>
    if q2.1 then (0, q2.2)
      else (((100 * ((M 5 p1.toNatClampNeg) / 40)) + ((M 5 p1.toNatClampNeg) - (M 5 p1.toNatClampNeg) / 40 * 40)), q2.2))
  else if ¬ (M 4 p1.toNatClampNeg) = (-1) then (((100 * ((M 4 p1.toNatClampNeg) / 40)) + ((M 4 p1.toNatClampNeg) - (M 4 p1.toNatClampNeg) / 40 * 40)), (mup M 0 0 0))
  else zlet (f_X5_refused p3 M) (fun q3 =>
  if q3.1 then (0, q3.2)
    else (((100 * ((M 4 p1.toNatClampNeg) / 40)) + ((M 4 p1.toNatClampNeg) - (M 4 p1.toNatClampNeg) / 40 * 40)), q3.2))
def f_X5_place (p1 : Int32) (p2 : Int32) (p3 : Int32) (M : Mem) : (Int32 × Mem) :=
  if (f_X5_isBlock p1 p2) then zlet (f_X5_placeOf ((12 * p1) + p2) p3 2 (mup M 0 0 0)) (fun q1 =>
    (q1.1, q1.2))
  else (0, (mup M 0 0 1))
def f_X5_nodePlace (p1 : Int32) (p2 : Int32) (M : Mem) : (Int32 × Mem) :=
  if (f_X5_in p1 0 3) then zlet (f_X5_placeOf (48 + p1) p2 2 (mup M 0 0 0)) (fun q1 =>
    (q1.1, q1.2))
  else (0, (mup M 0 0 1))
def f_X5_rootPlace (p1 : Int32) (M : Mem) : (Int32 × Mem) :=
  zlet (f_X5_placeOf 52 p1 1 M) (fun q1 =>
  (q1.1, q1.2))
def f_X5_birth (p1 : Int32) (p2 : Int32) (M : Mem) : (Int32 × Mem) :=
  if (f_X5_isBlock p1 p2) then (((mup M 0 0 0) 6 ((12 * p1) + p2).toNatClampNeg), (mup M 0 0 0))
  else (0, (mup M 0 0 1))
def f_X5_checksum (p1 : Int32) (M : Mem) : (Int32 × Mem) :=
  if (f_X5_in p1 0 3) then (((mup M 0 0 0) 7 (48 + p1).toNatClampNeg), (mup M 0 0 0))
  else (0, (mup M 0 0 1))
def f_X5_rootChecksum (M : Mem) : (Int32 × Mem) :=
  ((M 7 (52 : Int32).toNatClampNeg), (mup M 0 0 0))
def f_X5_read (p1 : Int32) (p2 : Int32) (M : Mem) : (Int32 × Mem) :=
  if (f_X5_isBlock p1 p2) then if (M 3 ((12 * p1) + p2).toNatClampNeg) = (-1) then if (f_X5_isCut p1 p2 M) then (0, (mup M 0 0 2))
      else zlet (f_X5_readIfThere 52 (mup M 0 0 0)) (fun N1 =>
      zlet (f_X5_readIfThere (48 + p1) N1) (fun N2 =>
        zlet (f_X5_readIfThere ((12 * p1) + p2) N2) (fun N3 =>
          ((f_X5_now ((12 * p1) + p2) N3), N3))))
    else ((f_X5_now ((12 * p1) + p2) (mup M 0 0 0)), (mup M 0 0 0))
  else (0, (mup M 0 0 1))
def f_X5_copyBoth (p1 : Int32) (p2 : Int32) (p3 : Int32) (M : Mem) : (Int32 × Mem) :=
  zlet (f_X5_copy (M 4 p1.toNatClampNeg) (M 5 p1.toNatClampNeg) p2 p3 M) (fun q1 =>
  zlet (f_X5_copy (q1.2 5 p1.toNatClampNeg) (q1.2 4 p1.toNatClampNeg) p2 p3 q1.2) (fun q2 =>
    ((q1.1 + q2.1), q2.2)))
def b_X5_scrub_39 (x2 : Int32) (rec : Int32 → Int32 → Mem → Int32 × Int32 × Mem) (v1 : Int32) (v3 : Int32) (N : Mem) : Int32 × Int32 × Mem :=
  if ((12 * x2) + 12) ≤ v3 then (v1, v3, N)
  else if (f_X5_isReadable (48 + x2) N) then zlet (f_X5_healAll v3 N) (fun q3 =>
    rec (v1 + q3.1) (v3 + 1) q3.2)
  else (v1, v3, N)
def l_X5_scrub_39 (x2 : Int32) : Nat → Int32 → Int32 → Mem → Int32 × Int32 × Mem
  | 0, v1, v3, N => (v1, v3, N)
  | n + 1, v1, v3, N => b_X5_scrub_39 x2 (l_X5_scrub_39 x2 n) v1 v3 N
def b_X5_scrub_9 (rec : Int32 → Int32 → Mem → Int32 × Int32 × Mem) (v1 : Int32) (v2 : Int32) (N : Mem) : Int32 × Int32 × Mem :=
  if 4 ≤ v2 then (v1, v2, N)
  else if (f_X5_isReadable 52 N) then zlet (f_X5_healAll (48 + v2) N) (fun q2 =>
    zlet (l_X5_scrub_39 v2 (((((12 * v2) + 12) : Int32).toInt - ((12 * v2) : Int32).toInt).toNat + 1) (v1 + q2.1) (12 * v2) q2.2) (fun s4 =>
      rec s4.1 (v2 + 1) s4.2.2))
  else (v1, v2, N)
def l_X5_scrub_9 : Nat → Int32 → Int32 → Mem → Int32 × Int32 × Mem
  | 0, v1, v2, N => (v1, v2, N)
  | n + 1, v1, v2, N => b_X5_scrub_9 (l_X5_scrub_9 n) v1 v2 N
def f_X5_scrub (M : Mem) : (Int32 × Mem) :=
  zlet (f_X5_healAll 52 M) (fun q1 =>
  zlet (l_X5_scrub_9 5 q1.1 0 q1.2) (fun s5 =>
    (s5.1, (mup (mup s5.2.2 0 2 ((s5.2.2 0 2) + s5.1)) 0 0 0))))
def b_X5_lost_4 (M : Mem) (rec : Int32 → Int32 → Int32 × Int32) (v1 : Int32) (v2 : Int32) : Int32 × Int32 :=
  if 48 ≤ v2 then (v1, v2)
  else if (f_X5_isThere v2 M) then if (f_X5_isCut (v2 / 12) (v2 - v2 / 12 * 12) M) then rec (v1 + 1) (v2 + 1)
    else rec (v1 + 0) (v2 + 1)
  else rec (v1 + 0) (v2 + 1)
def l_X5_lost_4 (M : Mem) : Nat → Int32 → Int32 → Int32 × Int32
  | 0, v1, v2 => (v1, v2)
  | n + 1, v1, v2 => b_X5_lost_4 M (l_X5_lost_4 M n) v1 v2
def f_X5_lost (M : Mem) : (Int32 × Mem) :=
  zlet (l_X5_lost_4 M 49 0 0) (fun s1 =>
  (s1.1, (mup M 0 0 0)))
def b_X5_sync_23 (rec : Int32 → Mem → Int32 × Mem) (v1 : Int32) (N : Mem) : Int32 × Mem :=
  if 120 ≤ v1 then (v1, N)
  else rec (v1 + 1) (mup N 13 v1.toNatClampNeg 0)
def l_X5_sync_23 : Nat → Int32 → Mem → Int32 × Mem
  | 0, v1, N => (v1, N)
  | n + 1, v1, N => b_X5_sync_23 (l_X5_sync_23 n) v1 N
def b_X5_sync_44 (rec : Int32 → Mem → Int32 × Mem) (v1 : Int32) (N : Mem) : Int32 × Mem :=
  if 48 ≤ v1 then (v1, N)
  else rec (v1 + 1) (mup (mup N 2 v1.toNatClampNeg (f_X5_now v1 N)) 3 v1.toNatClampNeg (-1))
def l_X5_sync_44 : Nat → Int32 → Mem → Int32 × Mem
  | 0, v1, N => (v1, N)
  | n + 1, v1, N => b_X5_sync_44 (l_X5_sync_44 n) v1 N
def b_X5_sync_76 (rec : Int32 → Mem → Int32 × Mem) (v1 : Int32) (N : Mem) : Int32 × Mem :=
  if 53 ≤ v1 then (v1, N)
  else if (N 16 v1.toNatClampNeg) = 0 then rec (v1 + 1) N
  else zlet (f_X5_mark (N 4 v1.toNatClampNeg) N) (fun N4 =>
  zlet (f_X5_mark (N4 5 v1.toNatClampNeg) N4) (fun N5 =>
    zlet (f_X5_clean ((mup (mup N5 4 v1.toNatClampNeg (N5 14 v1.toNatClampNeg)) 5 v1.toNatClampNeg ((mup N5 4 v1.toNatClampNeg (N5 14 v1.toNatClampNeg)) 15 v1.toNatClampNeg)) 4 v1.toNatClampNeg) (mup (mup N5 4 v1.toNatClampNeg (N5 14 v1.toNatClampNeg)) 5 v1.toNatClampNeg ((mup N5 4 v1.toNatClampNeg (N5 14 v1.toNatClampNeg)) 15 v1.toNatClampNeg))) (fun N6 =>
      zlet (f_X5_clean (N6 5 v1.toNatClampNeg) N6) (fun N7 =>
        if (f_X5_isThere v1 N7) then if (f_X5_isThere v1 (mup N7 6 v1.toNatClampNeg (N7 0 1))) then rec (v1 + 1) (mup (mup N7 6 v1.toNatClampNeg (N7 0 1)) 7 v1.toNatClampNeg (f_X5_sumOf v1 (mup N7 6 v1.toNatClampNeg (N7 0 1))))
            else rec (v1 + 1) (mup (mup N7 6 v1.toNatClampNeg (N7 0 1)) 7 v1.toNatClampNeg 0)
          else if (f_X5_isThere v1 (mup N7 6 v1.toNatClampNeg 0)) then rec (v1 + 1) (mup (mup N7 6 v1.toNatClampNeg 0) 7 v1.toNatClampNeg (f_X5_sumOf v1 (mup N7 6 v1.toNatClampNeg 0)))
          else rec (v1 + 1) (mup (mup N7 6 v1.toNatClampNeg 0) 7 v1.toNatClampNeg 0)))))
def l_X5_sync_76 : Nat → Int32 → Mem → Int32 × Mem
  | 0, v1, N => (v1, N)
  | n + 1, v1, N => b_X5_sync_76 (l_X5_sync_76 n) v1 N
def b_X5_sync_208 (rec : Int32 → Mem → Int32 × Mem) (v1 : Int32) (N : Mem) : Int32 × Mem :=
  if 120 ≤ v1 then (v1, N)
  else if (N 12 v1.toNatClampNeg) = 0 then rec (v1 + 1) (mup N 8 v1.toNatClampNeg 0)
  else if ¬ (N 13 v1.toNatClampNeg) = 0 then rec (v1 + 1) (mup N 8 v1.toNatClampNeg 0)
  else rec (v1 + 1) (mup N 8 v1.toNatClampNeg 1)
def l_X5_sync_208 : Nat → Int32 → Mem → Int32 × Mem
  | 0, v1, N => (v1, N)
  | n + 1, v1, N => b_X5_sync_208 (l_X5_sync_208 n) v1 N
def f_X5_sync (M : Mem) : (Int32 × Mem) :=
  zlet (f_X5_tries M) (fun q1 =>
  if q1.1 then zlet (l_X5_sync_23 121 0 (mup q1.2 0 0 0)) (fun s2 =>
      zlet (l_X5_sync_44 49 0 s2.2) (fun s3 =>
        zlet (l_X5_sync_76 54 0 s3.2) (fun s8 =>
          zlet (l_X5_sync_208 121 0 s8.2) (fun s9 =>
            (((mup s9.2 0 1 ((s9.2 0 1) + 1)) 0 19), (mup s9.2 0 1 ((s9.2 0 1) + 1)))))))
    else (0, (mup q1.2 0 0 1)))
def b_X5_online_128 (x1 : Int32) (x2 : Int32) (x3 : Int32) (x5 : Int32) (rec : Int32 → Int32 → Mem → Int32 × Int32 × Mem) (v4 : Int32) (v6 : Int32) (N : Mem) : Int32 × Int32 × Mem :=
  if ((12 * x5) + 12) ≤ v6 then (v4, v6, N)
  else if (f_X5_isBehind v6 x3 N) then zlet (f_X5_copyBoth v6 x1 x2 N) (fun q3 =>
    rec (v4 + q3.1) (v6 + 1) q3.2)
  else rec (v4 + 0) (v6 + 1) N
def l_X5_online_128 (x1 : Int32) (x2 : Int32) (x3 : Int32) (x5 : Int32) : Nat → Int32 → Int32 → Mem → Int32 × Int32 × Mem
  | 0, v4, v6, N => (v4, v6, N)
  | n + 1, v4, v6, N => b_X5_online_128 x1 x2 x3 x5 (l_X5_online_128 x1 x2 x3 x5 n) v4 v6 N
def b_X5_online_86 (x1 : Int32) (x2 : Int32) (x3 : Int32) (rec : Int32 → Int32 → Mem → Int32 × Int32 × Mem) (v4 : Int32) (v5 : Int32) (N : Mem) : Int32 × Int32 × Mem :=
  if 4 ≤ v5 then (v4, v5, N)
  else if (f_X5_isBehind (48 + v5) x3 N) then zlet (f_X5_copyBoth (48 + v5) x1 x2 N) (fun q2 =>
    zlet (l_X5_online_128 x1 x2 x3 v5 (((((12 * v5) + 12) : Int32).toInt - ((12 * v5) : Int32).toInt).toNat + 1) (v4 + q2.1) (12 * v5) q2.2) (fun s4 =>
      rec s4.1 (v5 + 1) s4.2.2))
  else rec v4 (v5 + 1) N
def l_X5_online_86 (x1 : Int32) (x2 : Int32) (x3 : Int32) : Nat → Int32 → Int32 → Mem → Int32 × Int32 × Mem
  | 0, v4, v5, N => (v4, v5, N)
  | n + 1, v4, v5, N => b_X5_online_86 x1 x2 x3 (l_X5_online_86 x1 x2 x3 n) v4 v5 N
def f_X5_online (p1 : Int32) (p2 : Int32) (M : Mem) : (Int32 × Mem) :=
  if (f_X5_isSide p1 p2) then if (M 10 ((2 * p1) + p2).toNatClampNeg) = 0 then (0, (mup M 0 0 2))
    else if (f_X5_isBehind 52 ((mup M 0 0 0) 11 ((2 * p1) + p2).toNatClampNeg) (mup (mup M 0 0 0) 10 ((2 * p1) + p2).toNatClampNeg 0)) then zlet (f_X5_copyBoth 52 p1 p2 (mup (mup M 0 0 0) 10 ((2 * p1) + p2).toNatClampNeg 0)) (fun q1 =>
      zlet (l_X5_online_86 p1 p2 ((mup M 0 0 0) 11 ((2 * p1) + p2).toNatClampNeg) 5 q1.1 0 q1.2) (fun s5 =>
        (s5.1, s5.2.2)))
    else (0, (mup (mup M 0 0 0) 10 ((2 * p1) + p2).toNatClampNeg 0))
  else (0, (mup M 0 0 1))
