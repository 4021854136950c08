/-! THE END OF A TEXT: the class's padding beside the padded text -/
def nb (B wb n : Nat) : Nat := (n + 1 + 2 * wb + B - 1) / B
def padT (all : Nat) (T : Nat → Int8) (n : Nat) : Nat → Int8 := fun i => if i < n then T i else if i = n then -128 else if i < all - 8 then 0 else (lu (8 * lN n) (nI (8 * (all - 1 - i)))).toInt32.toInt8
def hF (B wb : Nat) (cmp : Cmp) (iv : Nat → Int64) (T : Nat → Int8) (n : Nat) : Nat → Int64 := stAt cmp (padT (B * nb B wb n) T n) B iv (nb B wb n)
theorem lnB_eq (b : Nat → Int8) {B : Nat} (bits : Int64) : ∀ n, n ≤ B → ∀ j, j < B → lnB b B bits n j = if B ≤ j + n then (lu bits (nI (8 * (B - 1 - j)))).toInt32.toInt8 else b j
  | 0, _, j, hj => by
    show b j = _
    rw [if_neg (by omega)]
  | n + 1, hn, j, hj => by
    show va_up (lnB b B bits n) (B - 1 - n) _ j = _
    by_cases e : j = B - 1 - n
    · rw [if_pos (by omega), e, va_up_self, show B - 1 - (B - 1 - n) = n by omega]
    · rw [va_up_ne _ _ e, lnB_eq b bits n (by omega) j hj]
      by_cases q : B ≤ j + n
      · rw [if_pos q, if_pos (by omega)]
      · rw [if_neg q, if_neg (by omega)]
theorem close_eq {B wb : Nat} {cmp : Cmp} {T : Nat → Int8} {iv : Nat → Int64} {c0 : Int32} {n : Nat} {S : ShS} (h8 : 8 ≤ 2 * wb) (hBw : 2 * wb + 1 ≤ B) (hc : CmpB B cmp) (h : Taken B cmp T iv c0 n S) :
    (clS B wb cmp S (lN n)).1 = hF B wb cmp iv T n ∧ (clS B wb cmp S (lN n)).2.2.1 = 0 ∧ (clS B wb cmp S (lN n)).2.2.2 = c0 + nI (nb B wb n) := by
  have hB : 0 < B := by omega
  obtain ⟨st, bb, fl, bc⟩ := S
  obtain ⟨h1, h2, h3, h4⟩ := h
  have h1 : st = stAt cmp T B iv (n / B) := h1
  have h2 : ∀ j, j < n % B → bb j = T (B * (n / B) + j) := h2
  have h3 : fl = n % B := h3
  have h4 : bc = c0 + nI (n / B) := h4
  have hdm := Nat.div_add_mod n B
  have hlt := Nat.mod_lt n hB
  generalize n / B = q at *
  generalize n % B = r at *
  subst h3
  have hst : ∀ all, stAt cmp (padT all T n) B iv q = stAt cmp T B iv q := fun all => stAt_congr hc q (fun j hj => by unfold padT; rw [if_pos (by omega)])
  by_cases hlo : fl + 1 ≤ B - 2 * wb
  · have e1 : nb B wb n = q + 1 := by
      unfold nb
      rw [show n + 1 + 2 * wb + B - 1 = B * (q + 1) + (fl + 2 * wb) by rw [Nat.mul_add]; omega, Nat.mul_add_div hB, Nat.div_eq_of_lt (by omega), Nat.add_zero]
    rw [clS_lo hlo]
    refine ⟨?_, rfl, ?_⟩
    · unfold hF
      rw [e1]
      show cmp st _ = cmp (stAt cmp _ B iv q) (blkAt _ B q)
      rw [hst, h1]
      refine hc _ _ _ (fun j hj => ?_)
      have hm : B * (q + 1) = B * q + B := by rw [Nat.mul_add]; omega
      rw [lnB_eq _ _ 8 (by omega) j hj]
      unfold blkAt padT zf
      by_cases a1 : j < fl
      · rw [if_neg (by omega), if_neg (by omega), va_up_ne _ _ (by omega), if_pos (by omega)]
        exact h2 j a1
      · by_cases a2 : j = fl
        · rw [if_neg (by omega), if_neg (by omega), a2, va_up_self, if_neg (by omega), if_pos (by omega)]
        · by_cases a3 : B ≤ j + 8
          · rw [if_pos a3, if_neg (by omega), if_neg (by omega), if_neg (by omega), show B * (q + 1) - 1 - (B * q + j) = B - 1 - j by omega]
          · rw [if_neg a3, if_pos (by omega), if_neg (by omega), if_neg (by omega), if_pos (by omega)]
    · show bc + 1 = c0 + nI (nb B wb n)
      rw [e1, h4, nI_succ, Int32.add_assoc]
  · have hhi : B - 2 * wb < fl + 1 := by omega
    have e1 : nb B wb n = q + 2 := by
      unfold nb
      rw [show n + 1 + 2 * wb + B - 1 = B * (q + 2) + (fl + 2 * wb - B) by rw [Nat.mul_add]; omega, Nat.mul_add_div hB, Nat.div_eq_of_lt (by omega), Nat.add_zero]
    have hm2 : B * (q + 2) = B * q + B + B := by rw [Nat.mul_add]; omega
    have hm1 : B * (q + 1) = B * q + B := by rw [Nat.mul_add]; omega
    rw [clS_hi hhi]
    refine ⟨?_, rfl, ?_⟩
    · unfold hF
      rw [e1]
      show cmp (cmp st _) _ = cmp (cmp (stAt cmp _ B iv q) (blkAt _ B q)) (blkAt _ B (q + 1))
      rw [hst, h1]
      have k1 : cmp (stAt cmp T B iv q) (zf (va_up bb fl (-128)) (fl + 1) B) = cmp (stAt cmp T B iv q) (blkAt (padT (B * (q + 2)) T n) B q) := hc _ _ _ (fun j hj => by
        unfold blkAt padT zf
        by_cases a1 : j < fl
        · rw [if_neg (by omega), va_up_ne _ _ (by omega), if_pos (by omega)]
          exact h2 j a1
        · by_cases a2 : j = fl
          · rw [if_neg (by omega), a2, va_up_self, if_neg (by omega), if_pos (by omega)]
          · rw [if_pos (by omega), if_neg (by omega), if_neg (by omega), if_pos (by omega)])
      rw [k1]
      refine hc _ _ _ (fun j hj => ?_)
      rw [lnB_eq _ _ 8 (by omega) j hj]
      unfold blkAt padT zf
      by_cases a3 : B ≤ j + 8
      · rw [if_pos a3, if_neg (by omega), if_neg (by omega), if_neg (by omega), show B * (q + 2) - 1 - (B * (q + 1) + j) = B - 1 - j by omega]
      · rw [if_neg a3, if_pos (by omega), if_neg (by omega), if_neg (by omega), if_pos (by omega)]
    · show bc + 1 + 1 = c0 + nI (nb B wb n)
      rw [e1, h4, show q + 2 = q + 1 + 1 from rfl, nI_succ, nI_succ, Int32.add_assoc, Int32.add_assoc, Int32.add_assoc]
/-- a block's worth of bytes into an empty block -/
theorem abN_B {B : Nat} {cmp : Cmp} {g b : Nat → Int8} {iv : Nat → Int64} {c0 : Int32} (hB : 0 < B) (hc : CmpB B cmp) : (abN B cmp g (iv, b, 0, c0) B).1 = cmp iv g ∧ (abN B cmp g (iv, b, 0, c0) B).2.2.1 = 0 ∧ (abN B cmp g (iv, b, 0, c0) B).2.2.2 = c0 + 1 := by
  have h := Taken.more hB hc (T := g) (g := g) (Taken.zero (B := B) (cmp := cmp) (s0 := iv) (c0 := c0) (b := b)) B (fun i _ => by rw [Nat.zero_add])
  rw [Nat.zero_add] at h
  obtain ⟨h1, -, h3, h4⟩ := h
  rw [Nat.div_self hB] at h1 h4
  rw [Nat.mod_self] at h3
  refine ⟨h1.trans ?_, h3, h4⟩
  show cmp iv (blkAt g B 0) = cmp iv g
  exact hc _ _ _ (fun j _ => by unfold blkAt; rw [Nat.mul_zero, Nat.zero_add])
/-- a whole text from an empty block on -/
theorem Taken.all {B : Nat} {cmp : Cmp} {g b : Nat → Int8} {iv : Nat → Int64} {c0 : Int32} (hB : 0 < B) (hc : CmpB B cmp) (n : Nat) : Taken B cmp g iv c0 n (abN B cmp g (iv, b, 0, c0) n) := by
  have h := Taken.more hB hc (T := g) (g := g) (Taken.zero (B := B) (cmp := cmp) (s0 := iv) (c0 := c0) (b := b)) n (fun i _ => by rw [Nat.zero_add])
  rw [Nat.zero_add] at h
  exact h
/-- the hash of a text, as bytes at first, first + 1 .. -/
theorem whB_eq (st : Nat → Int64) (wb : Nat) (to : Nat → Int8) (first : Nat) : ∀ n j, whB st wb to first n j = if first ≤ j ∧ j < first + n then (lu (st ((j - first) / wb)) (nI (8 * (wb - 1 - (j - first) % wb)))).toInt32.toInt8 else to j
  | 0, j => by
    show to j = _
    rw [if_neg (by omega)]
  | n + 1, j => by
    show va_up (whB st wb to first n) (first + n) _ j = _
    by_cases e : j = first + n
    · rw [e, va_up_self, if_pos (by omega), Nat.add_sub_cancel_left]
    · rw [va_up_ne _ _ e, whB_eq st wb to first n j]
      by_cases q : first ≤ j ∧ j < first + n
      · rw [if_pos q, if_pos (by omega)]
      · rw [if_neg q, if_neg (by omega)]
/-- one byte of a hash out of its words -/
def hBy (st : Nat → Int64) (wb j : Nat) : Int8 := (lu (st (j / wb)) (nI (8 * (wb - 1 - j % wb)))).toInt32.toInt8
