/-! TEXTS TAKEN BYTE BY BYTE: the class's way (a block that fills) beside the blocks of the whole text -/
abbrev ShS : Type := (Nat → Int64) × (Nat → Int8) × Nat × Int32
abbrev Cmp : Type := (Nat → Int64) → (Nat → Int8) → Nat → Int64
def ab1 (B : Nat) (cmp : Cmp) (x : Int8) (S : ShS) : ShS := if S.2.2.1 + 1 = B then (cmp S.1 (va_up S.2.1 S.2.2.1 x), va_up S.2.1 S.2.2.1 x, 0, S.2.2.2 + 1) else (S.1, va_up S.2.1 S.2.2.1 x, S.2.2.1 + 1, S.2.2.2)
def abN (B : Nat) (cmp : Cmp) (g : Nat → Int8) (S : ShS) : Nat → ShS
  | 0 => S
  | n + 1 => ab1 B cmp (g n) (abN B cmp g S n)
def blkAt (T : Nat → Int8) (B i : Nat) : Nat → Int8 := fun j => T (B * i + j)
def stAt (cmp : Cmp) (T : Nat → Int8) (B : Nat) (s0 : Nat → Int64) : Nat → Nat → Int64
  | 0 => s0
  | i + 1 => cmp (stAt cmp T B s0 i) (blkAt T B i)
def CmpB (B : Nat) (cmp : Cmp) : Prop := ∀ (st : Nat → Int64) (b b' : Nat → Int8), (∀ j, j < B → b j = b' j) → cmp st b = cmp st b'
/-- the object has taken n bytes of the text T since it began with s0 and the count c0 -/
def Taken (B : Nat) (cmp : Cmp) (T : Nat → Int8) (s0 : Nat → Int64) (c0 : Int32) (n : Nat) (S : ShS) : Prop := S.1 = stAt cmp T B s0 (n / B) ∧ (∀ j, j < n % B → S.2.1 j = T (B * (n / B) + j)) ∧ S.2.2.1 = n % B ∧ S.2.2.2 = c0 + nI (n / B)
theorem Taken.zero {B : Nat} {cmp : Cmp} {T : Nat → Int8} {s0 : Nat → Int64} {c0 : Int32} {b : Nat → Int8} : Taken B cmp T s0 c0 0 (s0, b, 0, c0) := by
  refine ⟨by simp [stAt], fun j hj => by simp at hj, by simp, ?_⟩
  show c0 = c0 + nI (0 / B)
  rw [Nat.zero_div, nI_0]; simp
theorem Taken.one {B : Nat} {cmp : Cmp} {T : Nat → Int8} {s0 : Nat → Int64} {c0 : Int32} {n : Nat} {S : ShS} (hB : 0 < B) (hc : CmpB B cmp) (h : Taken B cmp T s0 c0 n S) : Taken B cmp T s0 c0 (n + 1) (ab1 B cmp (T n) S) := by
  obtain ⟨h1, h2, h3, h4⟩ := h
  have hdm := Nat.div_add_mod n B
  have hlt := Nat.mod_lt n hB
  unfold ab1
  by_cases hf : S.2.2.1 + 1 = B
  · rw [if_pos hf]
    have e1 : n % B + 1 = B := by rw [← h3]; exact hf
    have d1 : (n + 1) / B = n / B + 1 := by
      have : n + 1 = B * (n / B + 1) := by rw [Nat.mul_add]; omega
      rw [this, Nat.mul_div_cancel_left _ hB]
    have m1 : (n + 1) % B = 0 := by
      have : n + 1 = B * (n / B + 1) := by rw [Nat.mul_add]; omega
      rw [this, Nat.mul_mod_right]
    refine ⟨?_, fun j hj => by rw [m1] at hj; omega, by rw [m1], ?_⟩
    · rw [d1]
      show cmp S.1 (va_up S.2.1 S.2.2.1 (T n)) = cmp (stAt cmp T B s0 (n / B)) (blkAt T B (n / B))
      rw [h1]
      refine hc _ _ _ (fun j hj => ?_)
      by_cases hj2 : j = S.2.2.1
      · rw [hj2, va_up_self, h3]
        show T n = T (B * (n / B) + n % B)
        rw [hdm]
      · rw [va_up_ne _ _ hj2]
        exact h2 j (by omega)
    · show S.2.2.2 + 1 = c0 + nI ((n + 1) / B)
      rw [d1, h4, nI_succ, Int32.add_assoc]
  · rw [if_neg hf]
    have e1 : n % B + 1 < B := by rw [← h3] at hlt ⊢; omega
    have d1 : (n + 1) / B = n / B := by
      have : n + 1 = B * (n / B) + (n % B + 1) := by omega
      rw [this, Nat.mul_add_div hB, Nat.div_eq_of_lt e1, Nat.add_zero]
    have m1 : (n + 1) % B = n % B + 1 := by
      have : n + 1 = B * (n / B) + (n % B + 1) := by omega
      rw [this, Nat.mul_add_mod, Nat.mod_eq_of_lt e1]
    refine ⟨by rw [d1]; exact h1, fun j hj => ?_, by rw [m1]; show S.2.2.1 + 1 = _; rw [h3], by rw [d1]; exact h4⟩
    rw [d1]
    show va_up S.2.1 S.2.2.1 (T n) j = _
    by_cases hj2 : j = S.2.2.1
    · rw [hj2, va_up_self, h3, hdm]
    · rw [va_up_ne _ _ hj2]
      exact h2 j (by omega)
theorem Taken.more {B : Nat} {cmp : Cmp} {T g : Nat → Int8} {s0 : Nat → Int64} {c0 : Int32} {n : Nat} {S : ShS} (hB : 0 < B) (hc : CmpB B cmp) (h : Taken B cmp T s0 c0 n S) : ∀ (k : Nat), (∀ i, i < k → T (n + i) = g i) → Taken B cmp T s0 c0 (n + k) (abN B cmp g S k)
  | 0, _ => h
  | k + 1, hg => by
    have q := Taken.one hB hc (Taken.more hB hc h k (fun i hi => hg i (by omega)))
    rw [hg k (by omega)] at q
    exact q
theorem stAt_congr {cmp : Cmp} {T T' : Nat → Int8} {B : Nat} {s0 : Nat → Int64} (hc : CmpB B cmp) : ∀ (i : Nat), (∀ j, j < B * i → T j = T' j) → stAt cmp T B s0 i = stAt cmp T' B s0 i
  | 0, _ => rfl
  | i + 1, h => by
    show cmp _ _ = cmp _ _
    rw [stAt_congr hc i (fun j hj => h j (by rw [Nat.mul_add]; omega))]
    exact hc _ _ _ (fun j hj => h _ (by rw [Nat.mul_add]; omega))
theorem Taken.congr {B : Nat} {cmp : Cmp} {T T' : Nat → Int8} {s0 : Nat → Int64} {c0 : Int32} {n : Nat} {S : ShS} (hB : 0 < B) (hc : CmpB B cmp) (h : Taken B cmp T s0 c0 n S) (ht : ∀ j, j < n → T j = T' j) : Taken B cmp T' s0 c0 n S := by
  obtain ⟨h1, h2, h3, h4⟩ := h
  have hdm := Nat.div_add_mod n B
  refine ⟨?_, fun j hj => ?_, h3, h4⟩
  · rw [h1]; exact stAt_congr hc _ (fun j hj => ht j (by omega))
  · rw [h2 j hj]; exact ht _ (by omega)
