/-! THE MODEL: what the class's methods do, as functions -/
def nB0 (x : Int32) : Int32 := ((iu x 2 ||| il x 30) ^^^ (iu x 13 ||| il x 19)) ^^^ (iu x 22 ||| il x 10)
def nB1 (x : Int32) : Int32 := ((iu x 6 ||| il x 26) ^^^ (iu x 11 ||| il x 21)) ^^^ (iu x 25 ||| il x 7)
def nL0 (x : Int32) : Int32 := ((iu x 7 ||| il x 25) ^^^ (iu x 18 ||| il x 14)) ^^^ iu x 3
def nL1 (x : Int32) : Int32 := ((iu x 17 ||| il x 15) ^^^ (iu x 19 ||| il x 13)) ^^^ iu x 10
def wB0 (x : Int64) : Int64 := ((lu x 28 ||| ll x 36) ^^^ (lu x 34 ||| ll x 30)) ^^^ (lu x 39 ||| ll x 25)
def wB1 (x : Int64) : Int64 := ((lu x 14 ||| ll x 50) ^^^ (lu x 18 ||| ll x 46)) ^^^ (lu x 41 ||| ll x 23)
def wL0 (x : Int64) : Int64 := ((lu x 1 ||| ll x 63) ^^^ (lu x 8 ||| ll x 56)) ^^^ lu x 7
def wL1 (x : Int64) : Int64 := ((lu x 19 ||| ll x 45) ^^^ (lu x 61 ||| ll x 3)) ^^^ lu x 6
/-- a word of a block, its first i bytes -/
def nWd (b : Nat → Int8) (t : Nat) : Nat → Int32
  | 0 => 0
  | i + 1 => il (nWd b t i) 8 ||| ((b (4 * t + i)).toInt32 &&& 255)
def wWd (b : Nat → Int8) (t : Nat) : Nat → Int64
  | 0 => 0
  | i + 1 => ll (wWd b t i) 8 ||| ((b (8 * t + i)).toInt32 &&& 255).toInt64
/-- the words of a block laid into a row f -/
def nSa (f : Nat → Int32) (b : Nat → Int8) : Nat → Nat → Int32
  | 0 => f
  | t + 1 => upd (nSa f b t) t (nWd b t 4)
def wSa (f : Nat → Int64) (b : Nat → Int8) : Nat → Nat → Int64
  | 0 => f
  | t + 1 => vp_updL (wSa f b t) t (wWd b t 8)
def nSb (f : Nat → Int32) : Nat → Nat → Int32
  | 0 => f
  | i + 1 => upd (nSb f i) (16 + i) (nL1 (nSb f i (16 + i - 2)) + nSb f i (16 + i - 7) + nL0 (nSb f i (16 + i - 15)) + nSb f i (16 + i - 16))
def wSb (f : Nat → Int64) : Nat → Nat → Int64
  | 0 => f
  | i + 1 => vp_updL (wSb f i) (16 + i) (wL1 (wSb f i (16 + i - 2)) + wSb f i (16 + i - 7) + wL0 (wSb f i (16 + i - 15)) + wSb f i (16 + i - 16))
def nSched (f : Nat → Int32) (b : Nat → Int8) : Nat → Int32 := nSb (nSa f b 16) 48
def wSched (f : Nat → Int64) (b : Nat → Int8) : Nat → Int64 := wSb (wSa f b 16) 64
/-- the eight words, and one round -/
abbrev T8 (α : Type) : Type := α × α × α × α × α × α × α × α
def nRd (K w : Int32) (s : T8 Int32) : T8 Int32 :=
  (((((s.2.2.2.2.2.2.2 + nB1 s.2.2.2.2.1) + ((s.2.2.2.2.1 &&& s.2.2.2.2.2.1) ^^^ ((s.2.2.2.2.1 ^^^ (-1)) &&& s.2.2.2.2.2.2.1))) + K) + w) + (nB0 s.1 + (((s.1 &&& s.2.1) ^^^ (s.1 &&& s.2.2.1)) ^^^ (s.2.1 &&& s.2.2.1))),
   s.1, s.2.1, s.2.2.1,
   s.2.2.2.1 + ((((s.2.2.2.2.2.2.2 + nB1 s.2.2.2.2.1) + ((s.2.2.2.2.1 &&& s.2.2.2.2.2.1) ^^^ ((s.2.2.2.2.1 ^^^ (-1)) &&& s.2.2.2.2.2.2.1))) + K) + w),
   s.2.2.2.2.1, s.2.2.2.2.2.1, s.2.2.2.2.2.2.1)
def wRd (K w : Int64) (s : T8 Int64) : T8 Int64 :=
  (((((s.2.2.2.2.2.2.2 + wB1 s.2.2.2.2.1) + ((s.2.2.2.2.1 &&& s.2.2.2.2.2.1) ^^^ ((s.2.2.2.2.1 ^^^ (-1)) &&& s.2.2.2.2.2.2.1))) + K) + w) + (wB0 s.1 + (((s.1 &&& s.2.1) ^^^ (s.1 &&& s.2.2.1)) ^^^ (s.2.1 &&& s.2.2.1))),
   s.1, s.2.1, s.2.2.1,
   s.2.2.2.1 + ((((s.2.2.2.2.2.2.2 + wB1 s.2.2.2.2.1) + ((s.2.2.2.2.1 &&& s.2.2.2.2.2.1) ^^^ ((s.2.2.2.2.1 ^^^ (-1)) &&& s.2.2.2.2.2.2.1))) + K) + w),
   s.2.2.2.2.1, s.2.2.2.2.2.1, s.2.2.2.2.2.2.1)
def nMx (K w : Nat → Int32) (s : T8 Int32) : Nat → T8 Int32
  | 0 => s
  | t + 1 => nRd (K t) (w t) (nMx K w s t)
def wMx (K w : Nat → Int64) (s : T8 Int64) : Nat → T8 Int64
  | 0 => s
  | t + 1 => wRd (K t) (w t) (wMx K w s t)
def nOf (st : Nat → Int64) : T8 Int32 := ((st 0).toInt32, (st 1).toInt32, (st 2).toInt32, (st 3).toInt32, (st 4).toInt32, (st 5).toInt32, (st 6).toInt32, (st 7).toInt32)
def wOf (st : Nat → Int64) : T8 Int64 := (st 0, st 1, st 2, st 3, st 4, st 5, st 6, st 7)
/-- eight longs added to a row, one behind another -/
def add8 (st : Nat → Int64) (x : T8 Int64) : Nat → Int64 :=
  fun j => match j with
  | 0 => st 0 + x.1
  | 1 => st 1 + x.2.1
  | 2 => st 2 + x.2.2.1
  | 3 => st 3 + x.2.2.2.1
  | 4 => st 4 + x.2.2.2.2.1
  | 5 => st 5 + x.2.2.2.2.2.1
  | 6 => st 6 + x.2.2.2.2.2.2.1
  | 7 => st 7 + x.2.2.2.2.2.2.2
  | j => st j
def lg8 (x : T8 Int32) : T8 Int64 := (x.1.toInt64, x.2.1.toInt64, x.2.2.1.toInt64, x.2.2.2.1.toInt64, x.2.2.2.2.1.toInt64, x.2.2.2.2.2.1.toInt64, x.2.2.2.2.2.2.1.toInt64, x.2.2.2.2.2.2.2.toInt64)
