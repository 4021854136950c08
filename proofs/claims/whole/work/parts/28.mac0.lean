/-! KEYED HASHES: what the class's Mac works out -/
theorem ab1_flt {B : Nat} {cmp : Cmp} {x : Int8} {S : ShS} (hB : 0 < B) (h : S.2.2.1 < B) : (ab1 B cmp x S).2.2.1 < B := by
  unfold ab1
  by_cases q : S.2.2.1 + 1 = B
  · rw [if_pos q]; exact hB
  · rw [if_neg q]; show S.2.2.1 + 1 < B; omega
def padX (K : Nat → Int8) (p : Int32) : Nat → Int8 := fun i => ((K i).toInt32 ^^^ p).toInt8
def catT (B : Nat) (f g : Nat → Int8) : Nat → Int8 := fun i => if i < B then f i else g (i - B)
def kbF (B wb : Nat) (cmp : Cmp) (iv : Nat → Int64) (nh : Nat) (kf : Nat → Int8) (kl : Nat) : Nat → Int8 := if B < kl then (fun i => if i < nh then hBy (hF B wb cmp iv kf kl) wb i else 0) else (fun i => if i < kl then kf i else 0)
def kbn (B wb kl : Nat) : Nat := if B < kl then nb B wb kl else 0
theorem kbF_lo {B wb : Nat} {cmp : Cmp} {iv : Nat → Int64} {nh : Nat} {kf : Nat → Int8} {kl : Nat} (h : kl ≤ B) : ∀ j, j < B → va_cpy kf (fun _ => 0) 0 0 kl j = kbF B wb cmp iv nh kf kl j := fun j _ => by
  unfold kbF
  rw [if_neg (by omega)]
  by_cases q : j < kl
  · rw [cpy_all kf _ kl j q, if_pos q]
  · rw [pk_cpy_out (Or.inr (by omega)), if_neg q]
theorem kbF_hi {B wb : Nat} {cmp : Cmp} {iv : Nat → Int64} {nh : Nat} {kf : Nat → Int8} {kl : Nat} {st : Nat → Int64} (h : B < kl) (hs : st = hF B wb cmp iv kf kl) : ∀ j, j < B → whB st wb (fun _ => 0) 0 nh j = kbF B wb cmp iv nh kf kl j := fun j _ => by
  unfold kbF hBy
  rw [if_pos h, whB_eq, hs]
  by_cases q : j < nh
  · rw [if_pos (by omega), if_pos q, Nat.sub_zero]
  · rw [if_neg (by omega), if_neg q]
theorem kbn_lo {B wb kl : Nat} (h : kl ≤ B) (bc : Int32) : bc = bc + nI (kbn B wb kl) := by
  unfold kbn
  rw [if_neg (by omega), nI_0]; simp
theorem kbn_hi {B wb kl : Nat} (h : B < kl) (bc : Int32) : bc + nI (nb B wb kl) = bc + nI (kbn B wb kl) := by
  unfold kbn
  rw [if_pos h]
theorem kc_eq (bc : Int32) (x : Nat) : bc + nI x + 1 + 1 - bc = nI (x + 2) := by
  rw [show x + 2 = x + 1 + 1 from rfl, nI_succ, nI_succ]
  rw [Int32.add_assoc, Int32.add_assoc, Int32.add_comm bc, Int32.add_sub_cancel, Int32.add_assoc]
theorem tot0 {n : Nat} (h : n < 2 ^ 31) : (0 : Int64) + (nI n).toInt64 = lN n := by rw [nI_l h]; simp
theorem totN {a n : Nat} (h : n < 2 ^ 31) : lN a + (nI n).toInt64 = lN (a + n) := by rw [nI_l h, lN_add]
/-- the state behind the first pad, as one that has taken a block -/
theorem Taken.pad {B : Nat} {cmp : Cmp} {iv : Nat → Int64} {P T b : Nat → Int8} {bc : Int32} (hB : 0 < B) (hc : CmpB B cmp) : Taken B cmp (catT B P T) iv (bc - 1) B (cmp iv P, b, 0, bc) := by
  refine ⟨?_, fun j hj => by rw [Nat.mod_self] at hj; omega, by rw [Nat.mod_self], ?_⟩
  · rw [Nat.div_self hB]
    show cmp iv P = cmp iv (blkAt (catT B P T) B 0)
    exact hc _ _ _ (fun j hj => by unfold blkAt catT; rw [Nat.mul_zero, Nat.zero_add, if_pos hj])
  · show bc = bc - 1 + nI (B / B)
    rw [Nat.div_self hB, show nI 1 = 1 from rfl, Int32.sub_add_cancel]
/-- HMAC: the eight words at its end -/
def hmS (B wb : Nat) (cmp : Cmp) (iv : Nat → Int64) (nh : Nat) (K T : Nat → Int8) (n : Nat) : Nat → Int64 :=
  hF B wb cmp iv (catT B (padX K (nI 92)) (hBy (hF B wb cmp iv (catT B (padX K (nI 54)) T) (B + n)) wb)) (B + nh)
theorem whB_h (st : Nat → Int64) (wb : Nat) (to : Nat → Int8) (n : Nat) : ∀ j, j < n → whB st wb to 0 n j = hBy st wb j := fun j hj => by
  rw [whB_eq, if_pos (by omega), Nat.sub_zero]; rfl
theorem totB {a n : Nat} (ha : a < 2 ^ 31) (h : n < 2 ^ 31) : (nI a).toInt64 + (nI n).toInt64 = lN (a + n) := by rw [nI_l ha, nI_l h, lN_add]
theorem hm_cnt (bc : Int32) (x y z : Nat) : bc + nI (x + 2) - 1 + nI y - 1 + nI z = bc + nI (x + y + z) := by
  have e : bc + nI (x + 2) = bc + nI x + 1 + 1 := by rw [show x + 2 = x + 1 + 1 from rfl, nI_succ, nI_succ, Int32.add_assoc, Int32.add_assoc, Int32.add_assoc]
  rw [e, Int32.add_sub_cancel, Int32.add_assoc (bc + nI x) 1, Int32.add_comm 1 (nI y), ← Int32.add_assoc, Int32.add_sub_cancel, Int32.add_assoc, Int32.add_assoc, nI_add, nI_add, Nat.add_assoc]
theorem pk_cnt (bc : Int32) (x y : Nat) (h : x ≤ y) : bc - nI x + nI y = bc + nI (y - x) := by
  have e : nI y = nI x + nI (y - x) := by rw [nI_add]; congr 1; omega
  rw [e, ← Int32.add_assoc, Int32.sub_add_cancel]
/-- the same text in another object, by what it counts of its own -/
theorem Taken.copy {B : Nat} {cmp : Cmp} {T : Nat → Int8} {iv : Nat → Int64} {c0 d : Int32} {n fl : Nat} {S : Nat → Int64} {b b2 : Nat → Int8} {bc : Int32} (h : Taken B cmp T iv c0 n (S, b, fl, bc)) : Taken B cmp T iv (d - nI (n / B)) n (S, va_cpy b b2 0 0 fl, fl, d) := by
  obtain ⟨h1, h2, h3, h4⟩ := h
  have h3 : fl = n % B := h3
  refine ⟨h1, fun j hj => ?_, h3, ?_⟩
  · show va_cpy b b2 0 0 fl j = _
    rw [cpy_all b b2 fl j (by omega)]
    exact h2 j hj
  · show d = d - nI (n / B) + nI (n / B)
    rw [Int32.sub_add_cancel]
theorem Taken.fl {B : Nat} {cmp : Cmp} {T : Nat → Int8} {iv : Nat → Int64} {c0 : Int32} {n fl : Nat} {S : Nat → Int64} {b : Nat → Int8} {bc : Int32} (hB : 0 < B) (h : Taken B cmp T iv c0 n (S, b, fl, bc)) : fl < B := by
  have h3 : fl = n % B := h.2.2.1
  rw [h3]
  exact Nat.mod_lt n hB
theorem nb_ge {B wb n : Nat} (hB : 0 < B) : n / B ≤ nb B wb n := Nat.div_le_div_right (by omega)
