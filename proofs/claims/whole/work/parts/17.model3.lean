/-! rows for the objects that hash -/
theorem ab1_lt {B : Nat} {cmp : Cmp} {x : Int8} {S : Nat → Int64} {b : Nat → Int8} {fl : Nat} {bc : Int32} (h : ¬ fl + 1 = B) : ab1 B cmp x (S, b, fl, bc) = (S, va_up b fl x, fl + 1, bc) := if_neg h
theorem ab1_eq {B : Nat} {cmp : Cmp} {x : Int8} {S : Nat → Int64} {b : Nat → Int8} {fl : Nat} {bc : Int32} (h : fl + 1 = B) : ab1 B cmp x (S, b, fl, bc) = (cmp S (va_up b fl x), va_up b fl x, 0, bc + 1) := if_pos h
theorem clA_lo {B wb : Nat} {cmp : Cmp} {S : Nat → Int64} {b : Nat → Int8} {fl : Nat} {bc : Int32} (h : fl + 1 ≤ B - 2 * wb) : clA B wb cmp (S, b, fl, bc) = (S, va_up b fl (-128), fl + 1, bc) := if_neg (Nat.not_lt.mpr h)
theorem clA_hi {B wb : Nat} {cmp : Cmp} {S : Nat → Int64} {b : Nat → Int8} {fl : Nat} {bc : Int32} (h : B - 2 * wb < fl + 1) : clA B wb cmp (S, b, fl, bc) = (cmp S (zf (va_up b fl (-128)) (fl + 1) B), zf (va_up b fl (-128)) (fl + 1) B, 0, bc + 1) := if_pos h
/-- the start values by their number -/
def iT (j : Nat) : Nat → Int64 := if j = 0 then i256 else if j = 1 then i384 else i512
theorem gOk.tab {tb : Nat → Nat} {A : Nat → Prop} {s : State} (h : gOk tb A s) {j : Nat} (hj : j < 3) : va_T .long (tb j) 8 (fun n => .long (iT j n)) A s s.heap := by
  match j, hj with
  | 0, _ => exact h.2.1.1.2
  | 1, _ => exact h.2.1.2.1.2
  | 2, _ => exact h.2.1.2.2.1.2
  | j + 3, hj => omega
theorem clS_lo {B wb : Nat} {cmp : Cmp} {S : Nat → Int64} {b : Nat → Int8} {fl : Nat} {bc : Int32} {tot : Int64} (h : fl + 1 ≤ B - 2 * wb) : clS B wb cmp (S, b, fl, bc) tot = (cmp S (lnB (zf (va_up b fl (-128)) (fl + 1) B) B (8 * tot) 8), lnB (zf (va_up b fl (-128)) (fl + 1) B) B (8 * tot) 8, 0, bc + 1) := by
  unfold clS
  rw [clA_lo h, clB]
theorem clS_hi {B wb : Nat} {cmp : Cmp} {S : Nat → Int64} {b : Nat → Int8} {fl : Nat} {bc : Int32} {tot : Int64} (h : B - 2 * wb < fl + 1) : clS B wb cmp (S, b, fl, bc) tot = (cmp (cmp S (zf (va_up b fl (-128)) (fl + 1) B)) (lnB (zf (zf (va_up b fl (-128)) (fl + 1) B) 0 B) B (8 * tot) 8), lnB (zf (zf (va_up b fl (-128)) (fl + 1) B) 0 B) B (8 * tot) 8, 0, bc + 1 + 1) := by
  unfold clS
  rw [clA_hi h, clB]
