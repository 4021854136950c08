/-! the label's bytes, and the room that they ask for -/
def lbC (ci kk nt : Nat) : Nat := gc (gc (gc (gc (gc (gc (gc ci (0 + 1)) (1 + 1)) (2 + 1)) (3 + 6)) (9 + kk)) (9 + kk + 1)) (9 + kk + 1 + (nt - kk))
def lbF (n kk nt : Nat) (ft : Nat → Int8) (i : Nat) : Int8 := if i = 0 then (iu (nI n) 8).toInt8 else if i = 1 then (nI n).toInt8 else if i = 2 then (nI (6 + kk)).toInt8 else if i < 9 then lblP (i - 3) else if i < 9 + kk then ft (i - 9) else if i = 9 + kk then (nI (nt - kk)).toInt8 else ft (i - 10)
theorem lbB {n kk nt : Nat} {ft f0 f1 f2 f3 f4 f5 f6 f7 : Nat → Int8} (hk : kk ≤ nt) (h1 : (∀ j, j < 0 → f1 j = f0 j) ∧ f1 0 = (iu (nI n) 8).toInt8) (h2 : (∀ j, j < 1 → f2 j = f1 j) ∧ f2 1 = (nI n).toInt8) (h3 : (∀ j, j < 2 → f3 j = f2 j) ∧ f3 2 = (nI (6 + kk)).toInt8)
    (h4 : (∀ j, j < 3 → f4 j = f3 j) ∧ ∀ j, j < 6 → f4 (3 + j) = lblP (0 + j)) (h5 : (∀ j, j < 9 → f5 j = f4 j) ∧ ∀ j, j < kk → f5 (9 + j) = ft (0 + j)) (h6 : (∀ j, j < 9 + kk → f6 j = f5 j) ∧ f6 (9 + kk) = (nI (nt - kk)).toInt8) (h7 : (∀ j, j < 9 + kk + 1 → f7 j = f6 j) ∧ ∀ j, j < nt - kk → f7 (9 + kk + 1 + j) = ft (kk + j)) : ∀ i, i < 10 + nt → f7 i = lbF n kk nt ft i := fun i hi => by
  unfold lbF
  by_cases a0 : i = 0
  · rw [if_pos a0, a0, h7.1 0 (by omega), h6.1 0 (by omega), h5.1 0 (by omega), h4.1 0 (by omega), h3.1 0 (by omega), h2.1 0 (by omega)]; exact h1.2
  rw [if_neg a0]
  by_cases a1 : i = 1
  · rw [if_pos a1, a1, h7.1 1 (by omega), h6.1 1 (by omega), h5.1 1 (by omega), h4.1 1 (by omega), h3.1 1 (by omega)]; exact h2.2
  rw [if_neg a1]
  by_cases a2 : i = 2
  · rw [if_pos a2, a2, h7.1 2 (by omega), h6.1 2 (by omega), h5.1 2 (by omega), h4.1 2 (by omega)]; exact h3.2
  rw [if_neg a2]
  by_cases a3 : i < 9
  · rw [if_pos a3, h7.1 i (by omega), h6.1 i (by omega), h5.1 i (by omega)]
    have q := h4.2 (i - 3) (by omega)
    rw [show 3 + (i - 3) = i by omega, Nat.zero_add] at q
    exact q
  rw [if_neg a3]
  by_cases a4 : i < 9 + kk
  · rw [if_pos a4, h7.1 i (by omega), h6.1 i (by omega)]
    have q := h5.2 (i - 9) (by omega)
    rw [show 9 + (i - 9) = i by omega, Nat.zero_add] at q
    exact q
  rw [if_neg a4]
  by_cases a5 : i = 9 + kk
  · rw [if_pos a5, a5, h7.1 _ (by omega)]; exact h6.2
  rw [if_neg a5]
  have q := h7.2 (i - (9 + kk + 1)) (by omega)
  rw [show 9 + kk + 1 + (i - (9 + kk + 1)) = i by omega, show kk + (i - (9 + kk + 1)) = i - 10 by omega] at q
  exact q
theorem lbC_le (ci kk nt : Nat) : ci ≤ lbC ci kk nt := Nat.le_trans (gc_le _ _) (Nat.le_trans (gc_le _ _) (Nat.le_trans (gc_le _ _) (Nat.le_trans (gc_le _ _) (Nat.le_trans (gc_le _ _) (Nat.le_trans (gc_le _ _) (gc_le _ _))))))
theorem lbC_ge (ci kk nt : Nat) : 9 + kk + 1 + (nt - kk) ≤ lbC ci kk nt := gc_ge _ _
theorem lbC_lt {ci kk nt m : Nat} (h1 : ci ≤ m) (h2 : 2 * (10 + nt) ≤ m) (h3 : kk ≤ nt) : lbC ci kk nt ≤ m := gc_lt (gc_lt (gc_lt (gc_lt (gc_lt (gc_lt (gc_lt h1 (by omega)) (by omega)) (by omega)) (by omega)) (by omega)) (by omega)) (by omega)
theorem hF_congr {B wb : Nat} {cmp : Cmp} {iv : Nat → Int64} {T T' : Nat → Int8} {n : Nat} (h : ∀ i, i < n → T i = T' i) : hF B wb cmp iv T n = hF B wb cmp iv T' n := by
  unfold hF
  congr 1
  funext i
  unfold padT
  by_cases q : i < n
  · rw [if_pos q, if_pos q, h i q]
  · rw [if_neg q, if_neg q]
theorem hmS_congr {B wb : Nat} {cmp : Cmp} {iv : Nat → Int64} {nh : Nat} {K T T' : Nat → Int8} {n : Nat} (h : ∀ i, i < n → T i = T' i) : hmS B wb cmp iv nh K T n = hmS B wb cmp iv nh K T' n := by
  unfold hmS
  rw [hF_congr (T := catT B (padX K (nI 54)) T) (T' := catT B (padX K (nI 54)) T') (fun i hi => by
    unfold catT
    by_cases q : i < B
    · rw [if_pos q, if_pos q]
    · rw [if_neg q, if_neg q, h (i - B) (by omega)])]
theorem catT_congr {a b : Nat} {f g g' : Nat → Int8} {i : Nat} (hi : i < a + b) (h : ∀ z, z < b → g z = g' z) : catT a f g i = catT a f g' i := by
  unfold catT
  by_cases q : i < a
  · rw [if_pos q, if_pos q]
  · rw [if_neg q, if_neg q, h (i - a) (by omega)]
theorem catL_congr {a : Nat} {f f' g : Nat → Int8} (h : ∀ z, z < a → f z = f' z) : catT a f g = catT a f' g := by
  funext i
  unfold catT
  by_cases q : i < a
  · rw [if_pos q, if_pos q, h i q]
  · rw [if_neg q, if_neg q]
theorem ekS_congr {B wb : Nat} {cmp : Cmp} {iv : Nat → Int64} {nh : Nat} {K fe fe' : Nat → Int8} {ne : Nat} (h : ∀ i, i < ne → fe i = fe' i) : ekS B wb cmp iv nh K fe ne = ekS B wb cmp iv nh K fe' ne := by
  funext i
  induction i with
  | zero =>
    show hmS B wb cmp iv nh K (catT ne fe _) (ne + 1) = hmS B wb cmp iv nh K (catT ne fe' _) (ne + 1)
    rw [catL_congr h]
  | succ i ih =>
    show hmS B wb cmp iv nh K (catT nh (hBy (ekS B wb cmp iv nh K fe ne i) wb) (catT ne fe _)) (nh + ne + 1) = hmS B wb cmp iv nh K (catT nh (hBy (ekS B wb cmp iv nh K fe' ne i) wb) (catT ne fe' _)) (nh + ne + 1)
    rw [ih, catL_congr h]
