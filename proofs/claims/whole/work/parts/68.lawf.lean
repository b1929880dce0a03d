def fW_law_1754 (xs : Nat → Int32) (L : Nat) (y1 : Nat) (y2 : Nat) (k18 : qz_N × Int32 → Option (Int32 × qz_N)) (N : qz_N) (x3 : Int32) : Option (Int32 × qz_N) :=
  qz_let (x3 + (11 : Int32)) fun v5 =>
  k18 (N, v5)
def fW_law_156 (xs : Nat → Int32) (L : Nat) (y1 : Nat) (y2 : Nat) (k18 : qz_N × Int32 → Option (Int32 × qz_N)) (N : qz_N) (x3 : Int32) : Option (Int32 × qz_N) :=
  if (x3 + (1 : Int32)) < 0 ∨ L ≤ (x3 + (1 : Int32)).toNatClampNeg then none else
  if (x3 + (2 : Int32)) < 0 ∨ L ≤ (x3 + (2 : Int32)).toNatClampNeg then none else
  if (x3 + (3 : Int32)) < 0 ∨ L ≤ (x3 + (3 : Int32)).toNatClampNeg then none else
  if (x3 + (4 : Int32)) < 0 ∨ L ≤ (x3 + (4 : Int32)).toNatClampNeg then none else
  (fE_mint y1 (xs (x3 + (1 : Int32)).toNatClampNeg) (xs (x3 + (2 : Int32)).toNatClampNeg) ((((xs (x3 + (3 : Int32)).toNatClampNeg).toInt64) <<< ((32 : Int32).toInt64 &&& 63)) ||| (((xs (x3 + (4 : Int32)).toNatClampNeg).toInt64) &&& (4294967295 : Int64))) N).bind fun q1 =>
  if (x3 + (1 : Int32)) < 0 ∨ L ≤ (x3 + (1 : Int32)).toNatClampNeg then none else
  if (x3 + (2 : Int32)) < 0 ∨ L ≤ (x3 + (2 : Int32)).toNatClampNeg then none else
  if (x3 + (3 : Int32)) < 0 ∨ L ≤ (x3 + (3 : Int32)).toNatClampNeg then none else
  if (x3 + (4 : Int32)) < 0 ∨ L ≤ (x3 + (4 : Int32)).toNatClampNeg then none else
  (fM_mint y2 (xs (x3 + (1 : Int32)).toNatClampNeg) (xs (x3 + (2 : Int32)).toNatClampNeg) ((((xs (x3 + (3 : Int32)).toNatClampNeg).toInt64) <<< ((32 : Int32).toInt64 &&& 63)) ||| (((xs (x3 + (4 : Int32)).toNatClampNeg).toInt64) &&& (4294967295 : Int64))) q1.2).bind fun q3 =>
  if q1.1 = q3.1 then
    fW_law_1754 xs L y1 y2 k18 q3.2 x3
  else
  some ((0 : Int32), q3.2)
def fW_law_230 (xs : Nat → Int32) (L : Nat) (y1 : Nat) (y2 : Nat) (k18 : qz_N × Int32 → Option (Int32 × qz_N)) (N : qz_N) (x3 : Int32) : Option (Int32 × qz_N) :=
  if (x3 + (1 : Int32)) < 0 ∨ L ≤ (x3 + (1 : Int32)).toNatClampNeg then none else
  if (x3 + (2 : Int32)) < 0 ∨ L ≤ (x3 + (2 : Int32)).toNatClampNeg then none else
  (fE_balance y1 (xs (x3 + (1 : Int32)).toNatClampNeg) (xs (x3 + (2 : Int32)).toNatClampNeg) N).bind fun q6 =>
  if (x3 + (1 : Int32)) < 0 ∨ L ≤ (x3 + (1 : Int32)).toNatClampNeg then none else
  if (x3 + (2 : Int32)) < 0 ∨ L ≤ (x3 + (2 : Int32)).toNatClampNeg then none else
  (fM_balance y2 (xs (x3 + (1 : Int32)).toNatClampNeg) (xs (x3 + (2 : Int32)).toNatClampNeg) q6.2).bind fun q8 =>
  if q6.1 = q8.1 then
    fW_law_1754 xs L y1 y2 k18 q8.2 x3
  else
  some ((0 : Int32), q8.2)
def fW_law_264 (xs : Nat → Int32) (L : Nat) (y1 : Nat) (y2 : Nat) (k18 : qz_N × Int32 → Option (Int32 × qz_N)) (N : qz_N) (x3 : Int32) : Option (Int32 × qz_N) :=
  if (x3 + (1 : Int32)) < 0 ∨ L ≤ (x3 + (1 : Int32)).toNatClampNeg then none else
  (fE_total y1 (xs (x3 + (1 : Int32)).toNatClampNeg) N).bind fun q10 =>
  if (x3 + (1 : Int32)) < 0 ∨ L ≤ (x3 + (1 : Int32)).toNatClampNeg then none else
  (fM_total y2 (xs (x3 + (1 : Int32)).toNatClampNeg) q10.2).bind fun q12 =>
  if q10.1 = q12.1 then
    fW_law_1754 xs L y1 y2 k18 q12.2 x3
  else
  some ((0 : Int32), q12.2)
def fW_law_288 (xs : Nat → Int32) (L : Nat) (y1 : Nat) (y2 : Nat) (k18 : qz_N × Int32 → Option (Int32 × qz_N)) (N : qz_N) (x3 : Int32) : Option (Int32 × qz_N) :=
  if (x3 + (1 : Int32)) < 0 ∨ L ≤ (x3 + (1 : Int32)).toNatClampNeg then none else
  (fE_house y1 (xs (x3 + (1 : Int32)).toNatClampNeg) N).bind fun q14 =>
  if (x3 + (1 : Int32)) < 0 ∨ L ≤ (x3 + (1 : Int32)).toNatClampNeg then none else
  (fM_house y2 (xs (x3 + (1 : Int32)).toNatClampNeg) q14.2).bind fun q16 =>
  if q14.1 = q16.1 then
    fW_law_1754 xs L y1 y2 k18 q16.2 x3
  else
  some ((0 : Int32), q16.2)
def fW_law_312 (xs : Nat → Int32) (L : Nat) (y1 : Nat) (y2 : Nat) (k18 : qz_N × Int32 → Option (Int32 × qz_N)) (N : qz_N) (x3 : Int32) : Option (Int32 × qz_N) :=
  if (x3 + (1 : Int32)) < 0 ∨ L ≤ (x3 + (1 : Int32)).toNatClampNeg then none else
  if (x3 + (2 : Int32)) < 0 ∨ L ≤ (x3 + (2 : Int32)).toNatClampNeg then none else
  if (x3 + (3 : Int32)) < 0 ∨ L ≤ (x3 + (3 : Int32)).toNatClampNeg then none else
  if (x3 + (4 : Int32)) < 0 ∨ L ≤ (x3 + (4 : Int32)).toNatClampNeg then none else
  (fE_pool y1 (xs (x3 + (1 : Int32)).toNatClampNeg) (xs (x3 + (2 : Int32)).toNatClampNeg) (xs (x3 + (3 : Int32)).toNatClampNeg) (xs (x3 + (4 : Int32)).toNatClampNeg) N).bind fun q18 =>
  if (x3 + (1 : Int32)) < 0 ∨ L ≤ (x3 + (1 : Int32)).toNatClampNeg then none else
  if (x3 + (2 : Int32)) < 0 ∨ L ≤ (x3 + (2 : Int32)).toNatClampNeg then none else
  if (x3 + (3 : Int32)) < 0 ∨ L ≤ (x3 + (3 : Int32)).toNatClampNeg then none else
  if (x3 + (4 : Int32)) < 0 ∨ L ≤ (x3 + (4 : Int32)).toNatClampNeg then none else
  (fM_pool y2 (xs (x3 + (1 : Int32)).toNatClampNeg) (xs (x3 + (2 : Int32)).toNatClampNeg) (xs (x3 + (3 : Int32)).toNatClampNeg) (xs (x3 + (4 : Int32)).toNatClampNeg) q18.2).bind fun q20 =>
  if q18.1 = q20.1 then
    fW_law_1754 xs L y1 y2 k18 q20.2 x3
  else
  some ((0 : Int32), q20.2)
def fW_law_365 (xs : Nat → Int32) (L : Nat) (y1 : Nat) (y2 : Nat) (k18 : qz_N × Int32 → Option (Int32 × qz_N)) (N : qz_N) (x3 : Int32) : Option (Int32 × qz_N) :=
  if (x3 + (1 : Int32)) < 0 ∨ L ≤ (x3 + (1 : Int32)).toNatClampNeg then none else
  if (x3 + (2 : Int32)) < 0 ∨ L ≤ (x3 + (2 : Int32)).toNatClampNeg then none else
  (fE_of y1 (xs (x3 + (1 : Int32)).toNatClampNeg) (xs (x3 + (2 : Int32)).toNatClampNeg) N).bind fun q22 =>
  if (x3 + (1 : Int32)) < 0 ∨ L ≤ (x3 + (1 : Int32)).toNatClampNeg then none else
  if (x3 + (2 : Int32)) < 0 ∨ L ≤ (x3 + (2 : Int32)).toNatClampNeg then none else
  (fM_of y2 (xs (x3 + (1 : Int32)).toNatClampNeg) (xs (x3 + (2 : Int32)).toNatClampNeg) q22.2).bind fun q24 =>
  if q22.1 = q24.1 then
    fW_law_1754 xs L y1 y2 k18 q24.2 x3
  else
  some ((0 : Int32), q24.2)
def fW_law_399 (xs : Nat → Int32) (L : Nat) (y1 : Nat) (y2 : Nat) (k18 : qz_N × Int32 → Option (Int32 × qz_N)) (N : qz_N) (x3 : Int32) : Option (Int32 × qz_N) :=
  if (x3 + (1 : Int32)) < 0 ∨ L ≤ (x3 + (1 : Int32)).toNatClampNeg then none else
  if (x3 + (2 : Int32)) < 0 ∨ L ≤ (x3 + (2 : Int32)).toNatClampNeg then none else
  if (x3 + (3 : Int32)) < 0 ∨ L ≤ (x3 + (3 : Int32)).toNatClampNeg then none else
  if (x3 + (4 : Int32)) < 0 ∨ L ≤ (x3 + (4 : Int32)).toNatClampNeg then none else
  if (x3 + (5 : Int32)) < 0 ∨ L ≤ (x3 + (5 : Int32)).toNatClampNeg then none else
  if (x3 + (6 : Int32)) < 0 ∨ L ≤ (x3 + (6 : Int32)).toNatClampNeg then none else
  (fE_join y1 (xs (x3 + (1 : Int32)).toNatClampNeg) (xs (x3 + (2 : Int32)).toNatClampNeg) ((((xs (x3 + (3 : Int32)).toNatClampNeg).toInt64) <<< ((32 : Int32).toInt64 &&& 63)) ||| (((xs (x3 + (4 : Int32)).toNatClampNeg).toInt64) &&& (4294967295 : Int64))) ((((xs (x3 + (5 : Int32)).toNatClampNeg).toInt64) <<< ((32 : Int32).toInt64 &&& 63)) ||| (((xs (x3 + (6 : Int32)).toNatClampNeg).toInt64) &&& (4294967295 : Int64))) N).bind fun q26 =>
  if (x3 + (1 : Int32)) < 0 ∨ L ≤ (x3 + (1 : Int32)).toNatClampNeg then none else
  if (x3 + (2 : Int32)) < 0 ∨ L ≤ (x3 + (2 : Int32)).toNatClampNeg then none else
  if (x3 + (3 : Int32)) < 0 ∨ L ≤ (x3 + (3 : Int32)).toNatClampNeg then none else
  if (x3 + (4 : Int32)) < 0 ∨ L ≤ (x3 + (4 : Int32)).toNatClampNeg then none else
  if (x3 + (5 : Int32)) < 0 ∨ L ≤ (x3 + (5 : Int32)).toNatClampNeg then none else
  if (x3 + (6 : Int32)) < 0 ∨ L ≤ (x3 + (6 : Int32)).toNatClampNeg then none else
  (fM_join y2 (xs (x3 + (1 : Int32)).toNatClampNeg) (xs (x3 + (2 : Int32)).toNatClampNeg) ((((xs (x3 + (3 : Int32)).toNatClampNeg).toInt64) <<< ((32 : Int32).toInt64 &&& 63)) ||| (((xs (x3 + (4 : Int32)).toNatClampNeg).toInt64) &&& (4294967295 : Int64))) ((((xs (x3 + (5 : Int32)).toNatClampNeg).toInt64) <<< ((32 : Int32).toInt64 &&& 63)) ||| (((xs (x3 + (6 : Int32)).toNatClampNeg).toInt64) &&& (4294967295 : Int64))) q26.2).bind fun q28 =>
  if q26.1 = q28.1 then
    fW_law_1754 xs L y1 y2 k18 q28.2 x3
  else
  some ((0 : Int32), q28.2)
def fW_law_515 (xs : Nat → Int32) (L : Nat) (y1 : Nat) (y2 : Nat) (k18 : qz_N × Int32 → Option (Int32 × qz_N)) (N : qz_N) (x3 : Int32) : Option (Int32 × qz_N) :=
  if (x3 + (1 : Int32)) < 0 ∨ L ≤ (x3 + (1 : Int32)).toNatClampNeg then none else
  if (x3 + (2 : Int32)) < 0 ∨ L ≤ (x3 + (2 : Int32)).toNatClampNeg then none else
  if (x3 + (3 : Int32)) < 0 ∨ L ≤ (x3 + (3 : Int32)).toNatClampNeg then none else
  if (x3 + (4 : Int32)) < 0 ∨ L ≤ (x3 + (4 : Int32)).toNatClampNeg then none else
  (fE_leave y1 (xs (x3 + (1 : Int32)).toNatClampNeg) (xs (x3 + (2 : Int32)).toNatClampNeg) ((((xs (x3 + (3 : Int32)).toNatClampNeg).toInt64) <<< ((32 : Int32).toInt64 &&& 63)) ||| (((xs (x3 + (4 : Int32)).toNatClampNeg).toInt64) &&& (4294967295 : Int64))) N).bind fun q30 =>
  if (x3 + (1 : Int32)) < 0 ∨ L ≤ (x3 + (1 : Int32)).toNatClampNeg then none else
  if (x3 + (2 : Int32)) < 0 ∨ L ≤ (x3 + (2 : Int32)).toNatClampNeg then none else
  if (x3 + (3 : Int32)) < 0 ∨ L ≤ (x3 + (3 : Int32)).toNatClampNeg then none else
  if (x3 + (4 : Int32)) < 0 ∨ L ≤ (x3 + (4 : Int32)).toNatClampNeg then none else
  (fM_leave y2 (xs (x3 + (1 : Int32)).toNatClampNeg) (xs (x3 + (2 : Int32)).toNatClampNeg) ((((xs (x3 + (3 : Int32)).toNatClampNeg).toInt64) <<< ((32 : Int32).toInt64 &&& 63)) ||| (((xs (x3 + (4 : Int32)).toNatClampNeg).toInt64) &&& (4294967295 : Int64))) q30.2).bind fun q32 =>
  if q30.1 = q32.1 then
    fW_law_1754 xs L y1 y2 k18 q32.2 x3
  else
  some ((0 : Int32), q32.2)
def fW_law_589 (xs : Nat → Int32) (L : Nat) (y1 : Nat) (y2 : Nat) (k18 : qz_N × Int32 → Option (Int32 × qz_N)) (N : qz_N) (x3 : Int32) : Option (Int32 × qz_N) :=
  if (x3 + (1 : Int32)) < 0 ∨ L ≤ (x3 + (1 : Int32)).toNatClampNeg then none else
  if (x3 + (2 : Int32)) < 0 ∨ L ≤ (x3 + (2 : Int32)).toNatClampNeg then none else
  if (x3 + (3 : Int32)) < 0 ∨ L ≤ (x3 + (3 : Int32)).toNatClampNeg then none else
  if (x3 + (4 : Int32)) < 0 ∨ L ≤ (x3 + (4 : Int32)).toNatClampNeg then none else
  if (x3 + (5 : Int32)) < 0 ∨ L ≤ (x3 + (5 : Int32)).toNatClampNeg then none else
  (fE_swap y1 (xs (x3 + (1 : Int32)).toNatClampNeg) (xs (x3 + (2 : Int32)).toNatClampNeg) (xs (x3 + (3 : Int32)).toNatClampNeg) ((((xs (x3 + (4 : Int32)).toNatClampNeg).toInt64) <<< ((32 : Int32).toInt64 &&& 63)) ||| (((xs (x3 + (5 : Int32)).toNatClampNeg).toInt64) &&& (4294967295 : Int64))) N).bind fun q34 =>
  if (x3 + (1 : Int32)) < 0 ∨ L ≤ (x3 + (1 : Int32)).toNatClampNeg then none else
  if (x3 + (2 : Int32)) < 0 ∨ L ≤ (x3 + (2 : Int32)).toNatClampNeg then none else
  if (x3 + (3 : Int32)) < 0 ∨ L ≤ (x3 + (3 : Int32)).toNatClampNeg then none else
  if (x3 + (4 : Int32)) < 0 ∨ L ≤ (x3 + (4 : Int32)).toNatClampNeg then none else
  if (x3 + (5 : Int32)) < 0 ∨ L ≤ (x3 + (5 : Int32)).toNatClampNeg then none else
  (fM_swap y2 (xs (x3 + (1 : Int32)).toNatClampNeg) (xs (x3 + (2 : Int32)).toNatClampNeg) (xs (x3 + (3 : Int32)).toNatClampNeg) ((((xs (x3 + (4 : Int32)).toNatClampNeg).toInt64) <<< ((32 : Int32).toInt64 &&& 63)) ||| (((xs (x3 + (5 : Int32)).toNatClampNeg).toInt64) &&& (4294967295 : Int64))) q34.2).bind fun q36 =>
  if q34.1 = q36.1 then
    fW_law_1754 xs L y1 y2 k18 q36.2 x3
  else
  some ((0 : Int32), q36.2)
def fW_law_673 (xs : Nat → Int32) (L : Nat) (y1 : Nat) (y2 : Nat) (k18 : qz_N × Int32 → Option (Int32 × qz_N)) (N : qz_N) (x3 : Int32) : Option (Int32 × qz_N) :=
  if (x3 + (1 : Int32)) < 0 ∨ L ≤ (x3 + (1 : Int32)).toNatClampNeg then none else
  if (x3 + (2 : Int32)) < 0 ∨ L ≤ (x3 + (2 : Int32)).toNatClampNeg then none else
  if (x3 + (3 : Int32)) < 0 ∨ L ≤ (x3 + (3 : Int32)).toNatClampNeg then none else
  if (x3 + (4 : Int32)) < 0 ∨ L ≤ (x3 + (4 : Int32)).toNatClampNeg then none else
  (fE_quote y1 (xs (x3 + (1 : Int32)).toNatClampNeg) (xs (x3 + (2 : Int32)).toNatClampNeg) ((((xs (x3 + (3 : Int32)).toNatClampNeg).toInt64) <<< ((32 : Int32).toInt64 &&& 63)) ||| (((xs (x3 + (4 : Int32)).toNatClampNeg).toInt64) &&& (4294967295 : Int64))) N).bind fun q38 =>
  if (x3 + (1 : Int32)) < 0 ∨ L ≤ (x3 + (1 : Int32)).toNatClampNeg then none else
  if (x3 + (2 : Int32)) < 0 ∨ L ≤ (x3 + (2 : Int32)).toNatClampNeg then none else
  if (x3 + (3 : Int32)) < 0 ∨ L ≤ (x3 + (3 : Int32)).toNatClampNeg then none else
  if (x3 + (4 : Int32)) < 0 ∨ L ≤ (x3 + (4 : Int32)).toNatClampNeg then none else
  (fM_quote y2 (xs (x3 + (1 : Int32)).toNatClampNeg) (xs (x3 + (2 : Int32)).toNatClampNeg) ((((xs (x3 + (3 : Int32)).toNatClampNeg).toInt64) <<< ((32 : Int32).toInt64 &&& 63)) ||| (((xs (x3 + (4 : Int32)).toNatClampNeg).toInt64) &&& (4294967295 : Int64))) q38.2).bind fun q40 =>
  if q38.1 = q40.1 then
    fW_law_1754 xs L y1 y2 k18 q40.2 x3
  else
  some ((0 : Int32), q40.2)
def fW_law_747 (xs : Nat → Int32) (L : Nat) (y1 : Nat) (y2 : Nat) (k18 : qz_N × Int32 → Option (Int32 × qz_N)) (N : qz_N) (x3 : Int32) : Option (Int32 × qz_N) :=
  if (x3 + (1 : Int32)) < 0 ∨ L ≤ (x3 + (1 : Int32)).toNatClampNeg then none else
  if (x3 + (2 : Int32)) < 0 ∨ L ≤ (x3 + (2 : Int32)).toNatClampNeg then none else
  if (x3 + (3 : Int32)) < 0 ∨ L ≤ (x3 + (3 : Int32)).toNatClampNeg then none else
  if (x3 + (4 : Int32)) < 0 ∨ L ≤ (x3 + (4 : Int32)).toNatClampNeg then none else
  if (x3 + (5 : Int32)) < 0 ∨ L ≤ (x3 + (5 : Int32)).toNatClampNeg then none else
  if (x3 + (6 : Int32)) < 0 ∨ L ≤ (x3 + (6 : Int32)).toNatClampNeg then none else
  if (x3 + (7 : Int32)) < 0 ∨ L ≤ (x3 + (7 : Int32)).toNatClampNeg then none else
  if (x3 + (8 : Int32)) < 0 ∨ L ≤ (x3 + (8 : Int32)).toNatClampNeg then none else
  if (x3 + (9 : Int32)) < 0 ∨ L ≤ (x3 + (9 : Int32)).toNatClampNeg then none else
  if (x3 + (10 : Int32)) < 0 ∨ L ≤ (x3 + (10 : Int32)).toNatClampNeg then none else
  (fE_flash y1 (xs (x3 + (1 : Int32)).toNatClampNeg) (xs (x3 + (2 : Int32)).toNatClampNeg) ((((xs (x3 + (3 : Int32)).toNatClampNeg).toInt64) <<< ((32 : Int32).toInt64 &&& 63)) ||| (((xs (x3 + (4 : Int32)).toNatClampNeg).toInt64) &&& (4294967295 : Int64))) ((((xs (x3 + (5 : Int32)).toNatClampNeg).toInt64) <<< ((32 : Int32).toInt64 &&& 63)) ||| (((xs (x3 + (6 : Int32)).toNatClampNeg).toInt64) &&& (4294967295 : Int64))) ((((xs (x3 + (7 : Int32)).toNatClampNeg).toInt64) <<< ((32 : Int32).toInt64 &&& 63)) ||| (((xs (x3 + (8 : Int32)).toNatClampNeg).toInt64) &&& (4294967295 : Int64))) ((((xs (x3 + (9 : Int32)).toNatClampNeg).toInt64) <<< ((32 : Int32).toInt64 &&& 63)) ||| (((xs (x3 + (10 : Int32)).toNatClampNeg).toInt64) &&& (4294967295 : Int64))) N).bind fun q42 =>
  if (x3 + (1 : Int32)) < 0 ∨ L ≤ (x3 + (1 : Int32)).toNatClampNeg then none else
  if (x3 + (2 : Int32)) < 0 ∨ L ≤ (x3 + (2 : Int32)).toNatClampNeg then none else
  if (x3 + (3 : Int32)) < 0 ∨ L ≤ (x3 + (3 : Int32)).toNatClampNeg then none else
  if (x3 + (4 : Int32)) < 0 ∨ L ≤ (x3 + (4 : Int32)).toNatClampNeg then none else
  if (x3 + (5 : Int32)) < 0 ∨ L ≤ (x3 + (5 : Int32)).toNatClampNeg then none else
  if (x3 + (6 : Int32)) < 0 ∨ L ≤ (x3 + (6 : Int32)).toNatClampNeg then none else
  if (x3 + (7 : Int32)) < 0 ∨ L ≤ (x3 + (7 : Int32)).toNatClampNeg then none else
  if (x3 + (8 : Int32)) < 0 ∨ L ≤ (x3 + (8 : Int32)).toNatClampNeg then none else
  if (x3 + (9 : Int32)) < 0 ∨ L ≤ (x3 + (9 : Int32)).toNatClampNeg then none else
  if (x3 + (10 : Int32)) < 0 ∨ L ≤ (x3 + (10 : Int32)).toNatClampNeg then none else
  (fM_flash y2 (xs (x3 + (1 : Int32)).toNatClampNeg) (xs (x3 + (2 : Int32)).toNatClampNeg) ((((xs (x3 + (3 : Int32)).toNatClampNeg).toInt64) <<< ((32 : Int32).toInt64 &&& 63)) ||| (((xs (x3 + (4 : Int32)).toNatClampNeg).toInt64) &&& (4294967295 : Int64))) ((((xs (x3 + (5 : Int32)).toNatClampNeg).toInt64) <<< ((32 : Int32).toInt64 &&& 63)) ||| (((xs (x3 + (6 : Int32)).toNatClampNeg).toInt64) &&& (4294967295 : Int64))) ((((xs (x3 + (7 : Int32)).toNatClampNeg).toInt64) <<< ((32 : Int32).toInt64 &&& 63)) ||| (((xs (x3 + (8 : Int32)).toNatClampNeg).toInt64) &&& (4294967295 : Int64))) ((((xs (x3 + (9 : Int32)).toNatClampNeg).toInt64) <<< ((32 : Int32).toInt64 &&& 63)) ||| (((xs (x3 + (10 : Int32)).toNatClampNeg).toInt64) &&& (4294967295 : Int64))) q42.2).bind fun q44 =>
  if q42.1 = q44.1 then
    fW_law_1754 xs L y1 y2 k18 q44.2 x3
  else
  some ((0 : Int32), q44.2)
def fW_law_950 (xs : Nat → Int32) (L : Nat) (y1 : Nat) (y2 : Nat) (k18 : qz_N × Int32 → Option (Int32 × qz_N)) (N : qz_N) (x3 : Int32) : Option (Int32 × qz_N) :=
  if (x3 + (1 : Int32)) < 0 ∨ L ≤ (x3 + (1 : Int32)).toNatClampNeg then none else
  (fE_tick y1 (xs (x3 + (1 : Int32)).toNatClampNeg) N).bind fun q46 =>
  if (x3 + (1 : Int32)) < 0 ∨ L ≤ (x3 + (1 : Int32)).toNatClampNeg then none else
  (fM_tick y2 (xs (x3 + (1 : Int32)).toNatClampNeg) q46.2).bind fun q48 =>
  if q46.1 = q48.1 then
    fW_law_1754 xs L y1 y2 k18 q48.2 x3
  else
  some ((0 : Int32), q48.2)
def fW_law_973 (xs : Nat → Int32) (L : Nat) (y1 : Nat) (y2 : Nat) (k18 : qz_N × Int32 → Option (Int32 × qz_N)) (N : qz_N) (x3 : Int32) : Option (Int32 × qz_N) :=
  if (x3 + (1 : Int32)) < 0 ∨ L ≤ (x3 + (1 : Int32)).toNatClampNeg then none else
  if (x3 + (2 : Int32)) < 0 ∨ L ≤ (x3 + (2 : Int32)).toNatClampNeg then none else
  (fE_mark y1 (xs (x3 + (1 : Int32)).toNatClampNeg) (xs (x3 + (2 : Int32)).toNatClampNeg) N).bind fun q50 =>
  if (x3 + (1 : Int32)) < 0 ∨ L ≤ (x3 + (1 : Int32)).toNatClampNeg then none else
  if (x3 + (2 : Int32)) < 0 ∨ L ≤ (x3 + (2 : Int32)).toNatClampNeg then none else
  (fM_mark y2 (xs (x3 + (1 : Int32)).toNatClampNeg) (xs (x3 + (2 : Int32)).toNatClampNeg) q50.2).bind fun q52 =>
  if q50.1 = q52.1 then
    fW_law_1754 xs L y1 y2 k18 q52.2 x3
  else
  some ((0 : Int32), q52.2)
def fW_law_1006 (xs : Nat → Int32) (L : Nat) (y1 : Nat) (y2 : Nat) (k18 : qz_N × Int32 → Option (Int32 × qz_N)) (N : qz_N) (x3 : Int32) : Option (Int32 × qz_N) :=
  if (x3 + (1 : Int32)) < 0 ∨ L ≤ (x3 + (1 : Int32)).toNatClampNeg then none else
  (fE_mean y1 (xs (x3 + (1 : Int32)).toNatClampNeg) N).bind fun q54 =>
  if (x3 + (1 : Int32)) < 0 ∨ L ≤ (x3 + (1 : Int32)).toNatClampNeg then none else
  (fM_mean y2 (xs (x3 + (1 : Int32)).toNatClampNeg) q54.2).bind fun q56 =>
  if q54.1 = q56.1 then
    fW_law_1754 xs L y1 y2 k18 q56.2 x3
  else
  some ((0 : Int32), q56.2)
def fW_law_1030 (xs : Nat → Int32) (L : Nat) (y1 : Nat) (y2 : Nat) (k18 : qz_N × Int32 → Option (Int32 × qz_N)) (N : qz_N) (x3 : Int32) : Option (Int32 × qz_N) :=
  if (x3 + (1 : Int32)) < 0 ∨ L ≤ (x3 + (1 : Int32)).toNatClampNeg then none else
  if (x3 + (2 : Int32)) < 0 ∨ L ≤ (x3 + (2 : Int32)).toNatClampNeg then none else
  (fE_batch y1 (xs (x3 + (1 : Int32)).toNatClampNeg) (xs (x3 + (2 : Int32)).toNatClampNeg) N).bind fun q58 =>
  if (x3 + (1 : Int32)) < 0 ∨ L ≤ (x3 + (1 : Int32)).toNatClampNeg then none else
  if (x3 + (2 : Int32)) < 0 ∨ L ≤ (x3 + (2 : Int32)).toNatClampNeg then none else
  (fM_batch y2 (xs (x3 + (1 : Int32)).toNatClampNeg) (xs (x3 + (2 : Int32)).toNatClampNeg) q58.2).bind fun q60 =>
  if q58.1 = q60.1 then
    fW_law_1754 xs L y1 y2 k18 q60.2 x3
  else
  some ((0 : Int32), q60.2)
def fW_law_1063 (xs : Nat → Int32) (L : Nat) (y1 : Nat) (y2 : Nat) (k18 : qz_N × Int32 → Option (Int32 × qz_N)) (N : qz_N) (x3 : Int32) : Option (Int32 × qz_N) :=
  if (x3 + (1 : Int32)) < 0 ∨ L ≤ (x3 + (1 : Int32)).toNatClampNeg then none else
  if (x3 + (2 : Int32)) < 0 ∨ L ≤ (x3 + (2 : Int32)).toNatClampNeg then none else
  if (x3 + (3 : Int32)) < 0 ∨ L ≤ (x3 + (3 : Int32)).toNatClampNeg then none else
  if (x3 + (4 : Int32)) < 0 ∨ L ≤ (x3 + (4 : Int32)).toNatClampNeg then none else
  if (x3 + (5 : Int32)) < 0 ∨ L ≤ (x3 + (5 : Int32)).toNatClampNeg then none else
  if (x3 + (6 : Int32)) < 0 ∨ L ≤ (x3 + (6 : Int32)).toNatClampNeg then none else
  (fE_order y1 (xs (x3 + (1 : Int32)).toNatClampNeg) (xs (x3 + (2 : Int32)).toNatClampNeg) ((((xs (x3 + (3 : Int32)).toNatClampNeg).toInt64) <<< ((32 : Int32).toInt64 &&& 63)) ||| (((xs (x3 + (4 : Int32)).toNatClampNeg).toInt64) &&& (4294967295 : Int64))) ((((xs (x3 + (5 : Int32)).toNatClampNeg).toInt64) <<< ((32 : Int32).toInt64 &&& 63)) ||| (((xs (x3 + (6 : Int32)).toNatClampNeg).toInt64) &&& (4294967295 : Int64))) N).bind fun q62 =>
  if (x3 + (1 : Int32)) < 0 ∨ L ≤ (x3 + (1 : Int32)).toNatClampNeg then none else
  if (x3 + (2 : Int32)) < 0 ∨ L ≤ (x3 + (2 : Int32)).toNatClampNeg then none else
  if (x3 + (3 : Int32)) < 0 ∨ L ≤ (x3 + (3 : Int32)).toNatClampNeg then none else
  if (x3 + (4 : Int32)) < 0 ∨ L ≤ (x3 + (4 : Int32)).toNatClampNeg then none else
  if (x3 + (5 : Int32)) < 0 ∨ L ≤ (x3 + (5 : Int32)).toNatClampNeg then none else
  if (x3 + (6 : Int32)) < 0 ∨ L ≤ (x3 + (6 : Int32)).toNatClampNeg then none else
  (fM_order y2 (xs (x3 + (1 : Int32)).toNatClampNeg) (xs (x3 + (2 : Int32)).toNatClampNeg) ((((xs (x3 + (3 : Int32)).toNatClampNeg).toInt64) <<< ((32 : Int32).toInt64 &&& 63)) ||| (((xs (x3 + (4 : Int32)).toNatClampNeg).toInt64) &&& (4294967295 : Int64))) ((((xs (x3 + (5 : Int32)).toNatClampNeg).toInt64) <<< ((32 : Int32).toInt64 &&& 63)) ||| (((xs (x3 + (6 : Int32)).toNatClampNeg).toInt64) &&& (4294967295 : Int64))) q62.2).bind fun q64 =>
  if q62.1 = q64.1 then
    fW_law_1754 xs L y1 y2 k18 q64.2 x3
  else
  some ((0 : Int32), q64.2)
def fW_law_1178 (xs : Nat → Int32) (L : Nat) (y1 : Nat) (y2 : Nat) (k18 : qz_N × Int32 → Option (Int32 × qz_N)) (N : qz_N) (x3 : Int32) : Option (Int32 × qz_N) :=
  (fE_clear y1 N).bind fun q66 =>
  (fM_clear y2 q66.2).bind fun q68 =>
  if q66.1 = q68.1 then
    fW_law_1754 xs L y1 y2 k18 q68.2 x3
  else
  some ((0 : Int32), q68.2)
def fW_law_1192 (xs : Nat → Int32) (L : Nat) (y1 : Nat) (y2 : Nat) (k18 : qz_N × Int32 → Option (Int32 × qz_N)) (N : qz_N) (x3 : Int32) : Option (Int32 × qz_N) :=
  if (x3 + (1 : Int32)) < 0 ∨ L ≤ (x3 + (1 : Int32)).toNatClampNeg then none else
  (fE_dealt y1 (xs (x3 + (1 : Int32)).toNatClampNeg) N).bind fun q70 =>
  if (x3 + (1 : Int32)) < 0 ∨ L ≤ (x3 + (1 : Int32)).toNatClampNeg then none else
  (fM_dealt y2 (xs (x3 + (1 : Int32)).toNatClampNeg) q70.2).bind fun q72 =>
  if q70.1 = q72.1 then
    fW_law_1754 xs L y1 y2 k18 q72.2 x3
  else
  some ((0 : Int32), q72.2)
def fW_law_1216 (xs : Nat → Int32) (L : Nat) (y1 : Nat) (y2 : Nat) (k18 : qz_N × Int32 → Option (Int32 × qz_N)) (N : qz_N) (x3 : Int32) : Option (Int32 × qz_N) :=
  if (x3 + (1 : Int32)) < 0 ∨ L ≤ (x3 + (1 : Int32)).toNatClampNeg then none else
  if (x3 + (2 : Int32)) < 0 ∨ L ≤ (x3 + (2 : Int32)).toNatClampNeg then none else
  if (x3 + (3 : Int32)) < 0 ∨ L ≤ (x3 + (3 : Int32)).toNatClampNeg then none else
  (fE_rate y1 (xs (x3 + (1 : Int32)).toNatClampNeg) ((((xs (x3 + (2 : Int32)).toNatClampNeg).toInt64) <<< ((32 : Int32).toInt64 &&& 63)) ||| (((xs (x3 + (3 : Int32)).toNatClampNeg).toInt64) &&& (4294967295 : Int64))) N).bind fun q74 =>
  if (x3 + (1 : Int32)) < 0 ∨ L ≤ (x3 + (1 : Int32)).toNatClampNeg then none else
  if (x3 + (2 : Int32)) < 0 ∨ L ≤ (x3 + (2 : Int32)).toNatClampNeg then none else
  if (x3 + (3 : Int32)) < 0 ∨ L ≤ (x3 + (3 : Int32)).toNatClampNeg then none else
  (fM_rate y2 (xs (x3 + (1 : Int32)).toNatClampNeg) ((((xs (x3 + (2 : Int32)).toNatClampNeg).toInt64) <<< ((32 : Int32).toInt64 &&& 63)) ||| (((xs (x3 + (3 : Int32)).toNatClampNeg).toInt64) &&& (4294967295 : Int64))) q74.2).bind fun q76 =>
  if q74.1 = q76.1 then
    fW_law_1754 xs L y1 y2 k18 q76.2 x3
  else
  some ((0 : Int32), q76.2)
def fW_law_1280 (xs : Nat → Int32) (L : Nat) (y1 : Nat) (y2 : Nat) (k18 : qz_N × Int32 → Option (Int32 × qz_N)) (N : qz_N) (x3 : Int32) : Option (Int32 × qz_N) :=
  if (x3 + (1 : Int32)) < 0 ∨ L ≤ (x3 + (1 : Int32)).toNatClampNeg then none else
  if (x3 + (2 : Int32)) < 0 ∨ L ≤ (x3 + (2 : Int32)).toNatClampNeg then none else
  if (x3 + (3 : Int32)) < 0 ∨ L ≤ (x3 + (3 : Int32)).toNatClampNeg then none else
  if (x3 + (4 : Int32)) < 0 ∨ L ≤ (x3 + (4 : Int32)).toNatClampNeg then none else
  (fE_lend y1 (xs (x3 + (1 : Int32)).toNatClampNeg) (xs (x3 + (2 : Int32)).toNatClampNeg) ((((xs (x3 + (3 : Int32)).toNatClampNeg).toInt64) <<< ((32 : Int32).toInt64 &&& 63)) ||| (((xs (x3 + (4 : Int32)).toNatClampNeg).toInt64) &&& (4294967295 : Int64))) N).bind fun q78 =>
  if (x3 + (1 : Int32)) < 0 ∨ L ≤ (x3 + (1 : Int32)).toNatClampNeg then none else
  if (x3 + (2 : Int32)) < 0 ∨ L ≤ (x3 + (2 : Int32)).toNatClampNeg then none else
  if (x3 + (3 : Int32)) < 0 ∨ L ≤ (x3 + (3 : Int32)).toNatClampNeg then none else
  if (x3 + (4 : Int32)) < 0 ∨ L ≤ (x3 + (4 : Int32)).toNatClampNeg then none else
  (fM_lend y2 (xs (x3 + (1 : Int32)).toNatClampNeg) (xs (x3 + (2 : Int32)).toNatClampNeg) ((((xs (x3 + (3 : Int32)).toNatClampNeg).toInt64) <<< ((32 : Int32).toInt64 &&& 63)) ||| (((xs (x3 + (4 : Int32)).toNatClampNeg).toInt64) &&& (4294967295 : Int64))) q78.2).bind fun q80 =>
  if q78.1 = q80.1 then
    fW_law_1754 xs L y1 y2 k18 q80.2 x3
  else
  some ((0 : Int32), q80.2)
def fW_law_1354 (xs : Nat → Int32) (L : Nat) (y1 : Nat) (y2 : Nat) (k18 : qz_N × Int32 → Option (Int32 × qz_N)) (N : qz_N) (x3 : Int32) : Option (Int32 × qz_N) :=
  if (x3 + (1 : Int32)) < 0 ∨ L ≤ (x3 + (1 : Int32)).toNatClampNeg then none else
  if (x3 + (2 : Int32)) < 0 ∨ L ≤ (x3 + (2 : Int32)).toNatClampNeg then none else
  if (x3 + (3 : Int32)) < 0 ∨ L ≤ (x3 + (3 : Int32)).toNatClampNeg then none else
  if (x3 + (4 : Int32)) < 0 ∨ L ≤ (x3 + (4 : Int32)).toNatClampNeg then none else
  (fE_redeem y1 (xs (x3 + (1 : Int32)).toNatClampNeg) (xs (x3 + (2 : Int32)).toNatClampNeg) ((((xs (x3 + (3 : Int32)).toNatClampNeg).toInt64) <<< ((32 : Int32).toInt64 &&& 63)) ||| (((xs (x3 + (4 : Int32)).toNatClampNeg).toInt64) &&& (4294967295 : Int64))) N).bind fun q82 =>
  if (x3 + (1 : Int32)) < 0 ∨ L ≤ (x3 + (1 : Int32)).toNatClampNeg then none else
  if (x3 + (2 : Int32)) < 0 ∨ L ≤ (x3 + (2 : Int32)).toNatClampNeg then none else
  if (x3 + (3 : Int32)) < 0 ∨ L ≤ (x3 + (3 : Int32)).toNatClampNeg then none else
  if (x3 + (4 : Int32)) < 0 ∨ L ≤ (x3 + (4 : Int32)).toNatClampNeg then none else
  (fM_redeem y2 (xs (x3 + (1 : Int32)).toNatClampNeg) (xs (x3 + (2 : Int32)).toNatClampNeg) ((((xs (x3 + (3 : Int32)).toNatClampNeg).toInt64) <<< ((32 : Int32).toInt64 &&& 63)) ||| (((xs (x3 + (4 : Int32)).toNatClampNeg).toInt64) &&& (4294967295 : Int64))) q82.2).bind fun q84 =>
  if q82.1 = q84.1 then
    fW_law_1754 xs L y1 y2 k18 q84.2 x3
  else
  some ((0 : Int32), q84.2)
def fW_law_1428 (xs : Nat → Int32) (L : Nat) (y1 : Nat) (y2 : Nat) (k18 : qz_N × Int32 → Option (Int32 × qz_N)) (N : qz_N) (x3 : Int32) : Option (Int32 × qz_N) :=
  if (x3 + (1 : Int32)) < 0 ∨ L ≤ (x3 + (1 : Int32)).toNatClampNeg then none else
  if (x3 + (2 : Int32)) < 0 ∨ L ≤ (x3 + (2 : Int32)).toNatClampNeg then none else
  (fE_vault y1 (xs (x3 + (1 : Int32)).toNatClampNeg) (xs (x3 + (2 : Int32)).toNatClampNeg) N).bind fun q86 =>
  if (x3 + (1 : Int32)) < 0 ∨ L ≤ (x3 + (1 : Int32)).toNatClampNeg then none else
  if (x3 + (2 : Int32)) < 0 ∨ L ≤ (x3 + (2 : Int32)).toNatClampNeg then none else
  (fM_vault y2 (xs (x3 + (1 : Int32)).toNatClampNeg) (xs (x3 + (2 : Int32)).toNatClampNeg) q86.2).bind fun q88 =>
  if q86.1 = q88.1 then
    fW_law_1754 xs L y1 y2 k18 q88.2 x3
  else
  some ((0 : Int32), q88.2)
def fW_law_1462 (xs : Nat → Int32) (L : Nat) (y1 : Nat) (y2 : Nat) (k18 : qz_N × Int32 → Option (Int32 × qz_N)) (N : qz_N) (x3 : Int32) : Option (Int32 × qz_N) :=
  if (x3 + (1 : Int32)) < 0 ∨ L ≤ (x3 + (1 : Int32)).toNatClampNeg then none else
  if (x3 + (2 : Int32)) < 0 ∨ L ≤ (x3 + (2 : Int32)).toNatClampNeg then none else
  if (x3 + (3 : Int32)) < 0 ∨ L ≤ (x3 + (3 : Int32)).toNatClampNeg then none else
  if (x3 + (4 : Int32)) < 0 ∨ L ≤ (x3 + (4 : Int32)).toNatClampNeg then none else
  if (x3 + (5 : Int32)) < 0 ∨ L ≤ (x3 + (5 : Int32)).toNatClampNeg then none else
  if (x3 + (6 : Int32)) < 0 ∨ L ≤ (x3 + (6 : Int32)).toNatClampNeg then none else
  if (x3 + (7 : Int32)) < 0 ∨ L ≤ (x3 + (7 : Int32)).toNatClampNeg then none else
  (fE_loan y1 (xs (x3 + (1 : Int32)).toNatClampNeg) (xs (x3 + (2 : Int32)).toNatClampNeg) (xs (x3 + (3 : Int32)).toNatClampNeg) ((((xs (x3 + (4 : Int32)).toNatClampNeg).toInt64) <<< ((32 : Int32).toInt64 &&& 63)) ||| (((xs (x3 + (5 : Int32)).toNatClampNeg).toInt64) &&& (4294967295 : Int64))) ((((xs (x3 + (6 : Int32)).toNatClampNeg).toInt64) <<< ((32 : Int32).toInt64 &&& 63)) ||| (((xs (x3 + (7 : Int32)).toNatClampNeg).toInt64) &&& (4294967295 : Int64))) N).bind fun q90 =>
  if (x3 + (1 : Int32)) < 0 ∨ L ≤ (x3 + (1 : Int32)).toNatClampNeg then none else
  if (x3 + (2 : Int32)) < 0 ∨ L ≤ (x3 + (2 : Int32)).toNatClampNeg then none else
  if (x3 + (3 : Int32)) < 0 ∨ L ≤ (x3 + (3 : Int32)).toNatClampNeg then none else
  if (x3 + (4 : Int32)) < 0 ∨ L ≤ (x3 + (4 : Int32)).toNatClampNeg then none else
  if (x3 + (5 : Int32)) < 0 ∨ L ≤ (x3 + (5 : Int32)).toNatClampNeg then none else
  if (x3 + (6 : Int32)) < 0 ∨ L ≤ (x3 + (6 : Int32)).toNatClampNeg then none else
  if (x3 + (7 : Int32)) < 0 ∨ L ≤ (x3 + (7 : Int32)).toNatClampNeg then none else
  (fM_loan y2 (xs (x3 + (1 : Int32)).toNatClampNeg) (xs (x3 + (2 : Int32)).toNatClampNeg) (xs (x3 + (3 : Int32)).toNatClampNeg) ((((xs (x3 + (4 : Int32)).toNatClampNeg).toInt64) <<< ((32 : Int32).toInt64 &&& 63)) ||| (((xs (x3 + (5 : Int32)).toNatClampNeg).toInt64) &&& (4294967295 : Int64))) ((((xs (x3 + (6 : Int32)).toNatClampNeg).toInt64) <<< ((32 : Int32).toInt64 &&& 63)) ||| (((xs (x3 + (7 : Int32)).toNatClampNeg).toInt64) &&& (4294967295 : Int64))) q90.2).bind fun q92 =>
  if q90.1 = q92.1 then
    fW_law_1754 xs L y1 y2 k18 q92.2 x3
  else
  some ((0 : Int32), q92.2)
def fW_law_1589 (xs : Nat → Int32) (L : Nat) (y1 : Nat) (y2 : Nat) (k18 : qz_N × Int32 → Option (Int32 × qz_N)) (N : qz_N) (x3 : Int32) : Option (Int32 × qz_N) :=
  if (x3 + (1 : Int32)) < 0 ∨ L ≤ (x3 + (1 : Int32)).toNatClampNeg then none else
  if (x3 + (2 : Int32)) < 0 ∨ L ≤ (x3 + (2 : Int32)).toNatClampNeg then none else
  (fE_ofLoan y1 (xs (x3 + (1 : Int32)).toNatClampNeg) (xs (x3 + (2 : Int32)).toNatClampNeg) N).bind fun q94 =>
  if (x3 + (1 : Int32)) < 0 ∨ L ≤ (x3 + (1 : Int32)).toNatClampNeg then none else
  if (x3 + (2 : Int32)) < 0 ∨ L ≤ (x3 + (2 : Int32)).toNatClampNeg then none else
  (fM_ofLoan y2 (xs (x3 + (1 : Int32)).toNatClampNeg) (xs (x3 + (2 : Int32)).toNatClampNeg) q94.2).bind fun q96 =>
  if q94.1 = q96.1 then
    fW_law_1754 xs L y1 y2 k18 q96.2 x3
  else
  some ((0 : Int32), q96.2)
def fW_law_1623 (xs : Nat → Int32) (L : Nat) (y1 : Nat) (y2 : Nat) (k18 : qz_N × Int32 → Option (Int32 × qz_N)) (N : qz_N) (x3 : Int32) : Option (Int32 × qz_N) :=
  if (x3 + (1 : Int32)) < 0 ∨ L ≤ (x3 + (1 : Int32)).toNatClampNeg then none else
  if (x3 + (2 : Int32)) < 0 ∨ L ≤ (x3 + (2 : Int32)).toNatClampNeg then none else
  if (x3 + (3 : Int32)) < 0 ∨ L ≤ (x3 + (3 : Int32)).toNatClampNeg then none else
  if (x3 + (4 : Int32)) < 0 ∨ L ≤ (x3 + (4 : Int32)).toNatClampNeg then none else
  (fE_pay y1 (xs (x3 + (1 : Int32)).toNatClampNeg) (xs (x3 + (2 : Int32)).toNatClampNeg) ((((xs (x3 + (3 : Int32)).toNatClampNeg).toInt64) <<< ((32 : Int32).toInt64 &&& 63)) ||| (((xs (x3 + (4 : Int32)).toNatClampNeg).toInt64) &&& (4294967295 : Int64))) N).bind fun q98 =>
  if (x3 + (1 : Int32)) < 0 ∨ L ≤ (x3 + (1 : Int32)).toNatClampNeg then none else
  if (x3 + (2 : Int32)) < 0 ∨ L ≤ (x3 + (2 : Int32)).toNatClampNeg then none else
  if (x3 + (3 : Int32)) < 0 ∨ L ≤ (x3 + (3 : Int32)).toNatClampNeg then none else
  if (x3 + (4 : Int32)) < 0 ∨ L ≤ (x3 + (4 : Int32)).toNatClampNeg then none else
  (fM_pay y2 (xs (x3 + (1 : Int32)).toNatClampNeg) (xs (x3 + (2 : Int32)).toNatClampNeg) ((((xs (x3 + (3 : Int32)).toNatClampNeg).toInt64) <<< ((32 : Int32).toInt64 &&& 63)) ||| (((xs (x3 + (4 : Int32)).toNatClampNeg).toInt64) &&& (4294967295 : Int64))) q98.2).bind fun q100 =>
  if q98.1 = q100.1 then
    fW_law_1754 xs L y1 y2 k18 q100.2 x3
  else
  some ((0 : Int32), q100.2)
def fW_law_1697 (xs : Nat → Int32) (L : Nat) (y1 : Nat) (y2 : Nat) (k18 : qz_N × Int32 → Option (Int32 × qz_N)) (N : qz_N) (x3 : Int32) : Option (Int32 × qz_N) :=
  if (x3 + (1 : Int32)) < 0 ∨ L ≤ (x3 + (1 : Int32)).toNatClampNeg then none else
  if (x3 + (2 : Int32)) < 0 ∨ L ≤ (x3 + (2 : Int32)).toNatClampNeg then none else
  (fE_close y1 (xs (x3 + (1 : Int32)).toNatClampNeg) (xs (x3 + (2 : Int32)).toNatClampNeg) N).bind fun q102 =>
  if (x3 + (1 : Int32)) < 0 ∨ L ≤ (x3 + (1 : Int32)).toNatClampNeg then none else
  if (x3 + (2 : Int32)) < 0 ∨ L ≤ (x3 + (2 : Int32)).toNatClampNeg then none else
  (fM_close y2 (xs (x3 + (1 : Int32)).toNatClampNeg) (xs (x3 + (2 : Int32)).toNatClampNeg) q102.2).bind fun q104 =>
  if q102.1 = q104.1 then
    fW_law_1754 xs L y1 y2 k18 q104.2 x3
  else
  some ((0 : Int32), q104.2)
def fW_law_1731 (xs : Nat → Int32) (L : Nat) (y1 : Nat) (y2 : Nat) (k18 : qz_N × Int32 → Option (Int32 × qz_N)) (N : qz_N) (x3 : Int32) : Option (Int32 × qz_N) :=
  if (x3 + (1 : Int32)) < 0 ∨ L ≤ (x3 + (1 : Int32)).toNatClampNeg then none else
  (fE_count y1 (xs (x3 + (1 : Int32)).toNatClampNeg) N).bind fun q106 =>
  if (x3 + (1 : Int32)) < 0 ∨ L ≤ (x3 + (1 : Int32)).toNatClampNeg then none else
  (fM_count y2 (xs (x3 + (1 : Int32)).toNatClampNeg) q106.2).bind fun q108 =>
  if q106.1 = q108.1 then
    fW_law_1754 xs L y1 y2 k18 q108.2 x3
  else
  some ((0 : Int32), q108.2)
def fW_law_18b (xs : Nat → Int32) (L : Nat) (y1 : Nat) (y2 : Nat) (k18 : qz_N × Int32 → Option (Int32 × qz_N)) (N : qz_N) (x3 : Int32) : Option (Int32 × qz_N) :=
  if ((Int32.ofNat L) - (11 : Int32)) < x3 then
    some ((1 : Int32), N)
  else
  if x3 < 0 ∨ L ≤ x3.toNatClampNeg then none else
  if ((xs x3.toNatClampNeg) &&& (31 : Int32)) = (0 : Int32) then
    fW_law_156 xs L y1 y2 k18 N x3
  else
  if ((xs x3.toNatClampNeg) &&& (31 : Int32)) = (1 : Int32) then
    fW_law_230 xs L y1 y2 k18 N x3
  else
  if ((xs x3.toNatClampNeg) &&& (31 : Int32)) = (2 : Int32) then
    fW_law_264 xs L y1 y2 k18 N x3
  else
  if ((xs x3.toNatClampNeg) &&& (31 : Int32)) = (3 : Int32) then
    fW_law_288 xs L y1 y2 k18 N x3
  else
  if ((xs x3.toNatClampNeg) &&& (31 : Int32)) = (4 : Int32) then
    fW_law_312 xs L y1 y2 k18 N x3
  else
  if ((xs x3.toNatClampNeg) &&& (31 : Int32)) = (5 : Int32) then
    fW_law_365 xs L y1 y2 k18 N x3
  else
  if ((xs x3.toNatClampNeg) &&& (31 : Int32)) = (6 : Int32) then
    fW_law_399 xs L y1 y2 k18 N x3
  else
  if ((xs x3.toNatClampNeg) &&& (31 : Int32)) = (7 : Int32) then
    fW_law_515 xs L y1 y2 k18 N x3
  else
  if ((xs x3.toNatClampNeg) &&& (31 : Int32)) = (8 : Int32) then
    fW_law_589 xs L y1 y2 k18 N x3
  else
  if ((xs x3.toNatClampNeg) &&& (31 : Int32)) = (9 : Int32) then
    fW_law_673 xs L y1 y2 k18 N x3
  else
  if ((xs x3.toNatClampNeg) &&& (31 : Int32)) = (10 : Int32) then
    fW_law_747 xs L y1 y2 k18 N x3
  else
  if ((xs x3.toNatClampNeg) &&& (31 : Int32)) = (11 : Int32) then
    fW_law_950 xs L y1 y2 k18 N x3
  else
  if ((xs x3.toNatClampNeg) &&& (31 : Int32)) = (12 : Int32) then
    fW_law_973 xs L y1 y2 k18 N x3
  else
  if ((xs x3.toNatClampNeg) &&& (31 : Int32)) = (13 : Int32) then
    fW_law_1006 xs L y1 y2 k18 N x3
  else
  if ((xs x3.toNatClampNeg) &&& (31 : Int32)) = (14 : Int32) then
    fW_law_1030 xs L y1 y2 k18 N x3
  else
  if ((xs x3.toNatClampNeg) &&& (31 : Int32)) = (15 : Int32) then
    fW_law_1063 xs L y1 y2 k18 N x3
  else
  if ((xs x3.toNatClampNeg) &&& (31 : Int32)) = (16 : Int32) then
    fW_law_1178 xs L y1 y2 k18 N x3
  else
  if ((xs x3.toNatClampNeg) &&& (31 : Int32)) = (17 : Int32) then
    fW_law_1192 xs L y1 y2 k18 N x3
  else
  if ((xs x3.toNatClampNeg) &&& (31 : Int32)) = (18 : Int32) then
    fW_law_1216 xs L y1 y2 k18 N x3
  else
  if ((xs x3.toNatClampNeg) &&& (31 : Int32)) = (19 : Int32) then
    fW_law_1280 xs L y1 y2 k18 N x3
  else
  if ((xs x3.toNatClampNeg) &&& (31 : Int32)) = (20 : Int32) then
    fW_law_1354 xs L y1 y2 k18 N x3
  else
  if ((xs x3.toNatClampNeg) &&& (31 : Int32)) = (21 : Int32) then
    fW_law_1428 xs L y1 y2 k18 N x3
  else
  if ((xs x3.toNatClampNeg) &&& (31 : Int32)) = (22 : Int32) then
    fW_law_1462 xs L y1 y2 k18 N x3
  else
  if ((xs x3.toNatClampNeg) &&& (31 : Int32)) = (23 : Int32) then
    fW_law_1589 xs L y1 y2 k18 N x3
  else
  if ((xs x3.toNatClampNeg) &&& (31 : Int32)) = (24 : Int32) then
    fW_law_1623 xs L y1 y2 k18 N x3
  else
  if ((xs x3.toNatClampNeg) &&& (31 : Int32)) = (25 : Int32) then
    fW_law_1697 xs L y1 y2 k18 N x3
  else
  if ((xs x3.toNatClampNeg) &&& (31 : Int32)) = (26 : Int32) then
    fW_law_1731 xs L y1 y2 k18 N x3
  else
  fW_law_1754 xs L y1 y2 k18 N x3
def fW_law_18 (xs : Nat → Int32) (L : Nat) (y1 : Nat) (y2 : Nat) (n : Nat) (a : qz_N × Int32) : Option (Int32 × qz_N) := qz_loop (fun k a => fW_law_18b xs L y1 y2 k a.1 a.2) n a
