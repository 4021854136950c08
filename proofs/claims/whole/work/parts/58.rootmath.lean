/-! THE REFERENCE'S ROOTS: numbers in limbs of 32 bits -/
def uv (x : Int64) : Nat := x.toBitVec.toNat
theorem uv_lt (x : Int64) : uv x < 2 ^ 64 := x.toBitVec.isLt
theorem uv_add (x y : Int64) : uv (x + y) = (uv x + uv y) % 2 ^ 64 := by
  unfold uv; rw [Int64.toBitVec_add, BitVec.toNat_add]
theorem uv_mul (x y : Int64) : uv (x * y) = (uv x * uv y) % 2 ^ 64 := by
  unfold uv; rw [Int64.toBitVec_mul, BitVec.toNat_mul]
theorem uv_and (x : Int64) : uv (x &&& 4294967295) = uv x % 2 ^ 32 := by
  unfold uv; rw [Int64.toBitVec_and, BitVec.toNat_and]
  show x.toBitVec.toNat &&& (2 ^ 32 - 1) = _
  exact Nat.and_two_pow_sub_one_eq_mod _ 32
theorem uv_lu (x : Int64) : uv (lu x 32) = uv x / 2 ^ 32 := by
  unfold uv
  rw [show (32 : Int32) = nI 32 from rfl, lu_bv x (by decide), BitVec.toNat_ushiftRight, Nat.shiftRight_eq_div_pow]
theorem uv_inj {x y : Int64} (h : uv x = uv y) : x = y := Int64.toBitVec_inj.mp (BitVec.eq_of_toNat_eq h)
def Sg (f : Nat → Int64) (a : Nat) : Nat → Nat
  | 0 => 0
  | n + 1 => Sg f a n + uv (f (a + n)) * 2 ^ (32 * n)
theorem Sg_congr {f g : Nat → Int64} {a : Nat} : ∀ n, (∀ j, j < n → f (a + j) = g (a + j)) → Sg f a n = Sg g a n
  | 0, _ => rfl
  | n + 1, h => by
    show Sg f a n + _ = Sg g a n + _
    rw [Sg_congr n (fun j hj => h j (by omega)), h n (by omega)]
theorem Sg_split (f : Nat → Int64) (a i : Nat) : ∀ n, Sg f a (i + n) = Sg f a i + 2 ^ (32 * i) * Sg f (a + i) n
  | 0 => by show Sg f a i = Sg f a i + 2 ^ (32 * i) * 0; omega
  | n + 1 => by
    show Sg f a (i + n) + uv (f (a + (i + n))) * 2 ^ (32 * (i + n)) = Sg f a i + 2 ^ (32 * i) * (Sg f (a + i) n + uv (f (a + i + n)) * 2 ^ (32 * n))
    rw [Sg_split f a i n, Nat.mul_add (2 ^ (32 * i)), Nat.mul_add 32, Nat.pow_add, ← Nat.add_assoc a i n]
    rw [Nat.add_assoc (Sg f a i)]
    congr 2
    ac_rfl
theorem Sg_lt {f : Nat → Int64} {a : Nat} : ∀ n, (∀ j, j < n → uv (f (a + j)) < 2 ^ 32) → Sg f a n < 2 ^ (32 * n)
  | 0, _ => by show 0 < _; exact Nat.pow_pos (by decide)
  | n + 1, h => by
    have h1 := Sg_lt n (fun j hj => h j (by omega))
    have h2 := h n (by omega)
    show Sg f a n + uv (f (a + n)) * 2 ^ (32 * n) < 2 ^ (32 * n + 32)
    rw [Nat.pow_add]
    have h3 : (uv (f (a + n)) + 1) * 2 ^ (32 * n) ≤ 2 ^ 32 * 2 ^ (32 * n) := Nat.mul_le_mul_right _ h2
    rw [Nat.add_mul, Nat.one_mul] at h3
    rw [Nat.mul_comm (2 ^ (32 * n))]
    omega
def L32 (f : Nat → Int64) : Prop := ∀ j, j < 8 → uv (f j) < 2 ^ 32
def TI (i : Nat) (b : Int64) (fl fc1 fc2 : Nat → Int64) (cr : Int64) (y : Nat) : Prop := uv cr < 2 ^ 32 ∧ L32 fc2 ∧ (∀ j, j < i ∨ i + y ≤ j → fc2 j = fc1 j) ∧ Sg fc2 i y + uv cr * 2 ^ (32 * y) = Sg fc1 i y + uv b * Sg fl 0 y
theorem TI_0 {i : Nat} {b : Int64} {fl fc1 : Nat → Int64} (h : L32 fc1) : TI i b fl fc1 fc1 0 0 := ⟨by decide, h, fun _ _ => rfl, by show 0 + 0 * _ = 0 + uv b * 0; omega⟩
theorem TI_1 {i : Nat} {b : Int64} {fl fc1 fc2 : Nat → Int64} {cr : Int64} {y : Nat} (hb : uv b < 2 ^ 32) (hl : L32 fl) (hy : y < 8 - i) (h : TI i b fl fc1 fc2 cr y) : TI i b fl fc1 (vp_updL fc2 (i + y) ((fc2 (i + y) + b * fl y + cr) &&& 4294967295)) (lu (fc2 (i + y) + b * fl y + cr) 32) (y + 1) := by
  obtain ⟨h1, h2, h3, h4⟩ := h
  have hc := h2 (i + y) (by omega)
  have hf := hl y (by omega)
  have hp : uv b * uv (fl y) ≤ (2 ^ 32 - 1) * (2 ^ 32 - 1) := Nat.mul_le_mul (by omega) (by omega)
  have hs : uv (fc2 (i + y) + b * fl y + cr) = uv (fc2 (i + y)) + uv b * uv (fl y) + uv cr := by
    rw [uv_add, uv_add, uv_mul, Nat.mod_eq_of_lt (a := uv b * uv (fl y)) (by omega), Nat.mod_eq_of_lt (a := uv (fc2 (i + y)) + uv b * uv (fl y)) (by omega), Nat.mod_eq_of_lt (by omega)]
  generalize fc2 (i + y) + b * fl y + cr = s at *
  refine ⟨?_, fun j hj => ?_, fun j hj => ?_, ?_⟩
  · rw [uv_lu]; have := uv_lt s; omega
  · by_cases e : j = i + y
    · rw [e, pk_uLs, uv_and]; exact Nat.mod_lt _ (by decide)
    · rw [pk_uLn e]; exact h2 j hj
  · rw [pk_uLn (by omega)]; exact h3 j (by omega)
  · show Sg _ i y + uv (vp_updL fc2 (i + y) _ (i + y)) * 2 ^ (32 * y) + _ * 2 ^ (32 * (y + 1)) = Sg fc1 i y + uv (fc1 (i + y)) * 2 ^ (32 * y) + uv b * (Sg fl 0 y + uv (fl (0 + y)) * 2 ^ (32 * y))
    rw [pk_uLs, Sg_congr (g := fc2) y (fun j hj => pk_uLn (by omega)), uv_and, uv_lu, Nat.mul_add 32, Nat.pow_add, ← h3 (i + y) (by omega), Nat.zero_add, Nat.mul_add (uv b)]
    have e1 : uv s % 2 ^ 32 * 2 ^ (32 * y) + uv s / 2 ^ 32 * (2 ^ (32 * y) * 2 ^ (32 * 1)) = uv s * 2 ^ (32 * y) := by
      have := Nat.div_add_mod (uv s) (2 ^ 32)
      calc _ = (2 ^ 32 * (uv s / 2 ^ 32) + uv s % 2 ^ 32) * 2 ^ (32 * y) := by rw [Nat.add_mul, Nat.add_comm]; congr 1; rw [show 32 * 1 = 32 from rfl]; ac_rfl
        _ = _ := by rw [this]
    rw [Nat.add_assoc, e1, hs, Nat.add_mul, Nat.add_mul, ← Nat.mul_assoc]
    generalize uv b * uv (fl y) * 2 ^ (32 * y) = A at *
    generalize uv cr * 2 ^ (32 * y) = C at *
    generalize uv (fc2 (i + y)) * 2 ^ (32 * y) = E at *
    omega
def OI (x : Nat) (fl fc : Nat → Int64) : Prop := L32 fc ∧ Sg fc 0 8 % 2 ^ 256 = x * Sg fl 0 8 % 2 ^ 256
theorem OI_1 {x i : Nat} {b cr : Int64} {fl fc1 fc2 : Nat → Int64} (hi : i ≤ 8) (h : OI x fl fc1) (t : TI i b fl fc1 fc2 cr (8 - i)) : OI (x + uv b * 2 ^ (32 * i)) fl fc2 := by
  obtain ⟨-, h2⟩ := h
  obtain ⟨-, t2, t3, t4⟩ := t
  refine ⟨t2, ?_⟩
  have a1 := Sg_split fc2 0 i (8 - i)
  have a2 := Sg_split fc1 0 i (8 - i)
  have a3 := Sg_split fl 0 (8 - i) i
  rw [show i + (8 - i) = 8 by omega, Nat.zero_add] at a1 a2
  rw [show 8 - i + i = 8 by omega, Nat.zero_add] at a3
  have a4 : Sg fc2 0 i = Sg fc1 0 i := Sg_congr i (fun j hj => t3 _ (by omega))
  have p : 2 ^ (32 * i) * 2 ^ (32 * (8 - i)) = 2 ^ 256 := by rw [← Nat.pow_add]; congr 1; omega
  have e : Sg fc2 0 8 + (uv cr + uv b * Sg fl (8 - i) i) * 2 ^ 256 = Sg fc1 0 8 + uv b * 2 ^ (32 * i) * Sg fl 0 8 := by
    have m : 2 ^ (32 * i) * (Sg fc2 i (8 - i) + uv cr * 2 ^ (32 * (8 - i))) = 2 ^ (32 * i) * (Sg fc1 i (8 - i) + uv b * Sg fl 0 (8 - i)) := by rw [t4]
    rw [Nat.mul_add, Nat.mul_add] at m
    have m1 : 2 ^ (32 * i) * (uv cr * 2 ^ (32 * (8 - i))) = uv cr * 2 ^ 256 := by rw [← p]; ac_rfl
    have m2 : uv b * 2 ^ (32 * i) * Sg fl 0 8 = 2 ^ (32 * i) * (uv b * Sg fl 0 (8 - i)) + uv b * Sg fl (8 - i) i * 2 ^ 256 := by
      rw [a3, ← p, Nat.mul_add]; congr 1 <;> ac_rfl
    rw [m1] at m
    rw [Nat.add_mul, m2, a1, a2, a4]
    omega
  have e2 := congrArg (· % 2 ^ 256) e
  simp only [Nat.add_mul_mod_self_right] at e2
  rw [e2, Nat.add_mod, h2, ← Nat.add_mod, Nat.add_mul]
/-- the number that high and low stand for -/
def xVal (hi lo : Int64) : Nat := uv lo + uv hi * 2 ^ 64
def hZl (fc : Nat → Int64) : Nat → Nat → Int64
  | 0 => fc
  | n + 1 => vp_updL (hZl fc n) n 0
theorem hZl_in (fc : Nat → Int64) : ∀ n j, j < n → hZl fc n j = 0
  | 0, j, h => by omega
  | n + 1, j, h => by
    show vp_updL _ n _ j = _
    by_cases e : j = n
    · rw [e, pk_uLs]
    · rw [pk_uLn e]; exact hZl_in fc n j (by omega)
def hCl (fc fl : Nat → Int64) : Nat → Nat → Int64
  | 0 => fl
  | n + 1 => vp_updL (hCl fc fl n) n (fc n)
theorem hCl_in (fc fl : Nat → Int64) : ∀ n j, j < n → hCl fc fl n j = fc j
  | 0, j, h => by omega
  | n + 1, j, h => by
    show vp_updL _ n _ j = _
    by_cases e : j = n
    · rw [e, pk_uLs]
    · rw [pk_uLn e]; exact hCl_in fc fl n j (by omega)
theorem OI_0 {fl fc : Nat → Int64} : OI 0 fl (hZl fc 8) := by
  refine ⟨fun j hj => by rw [hZl_in fc 8 j hj]; decide, ?_⟩
  rw [Sg_congr (g := fun _ => 0) 8 (fun j hj => by rw [hZl_in fc 8 _ (by omega)])]
  rw [Nat.zero_mul]
  decide
theorem x_1 {lo : Int64} {i : Nat} (h : i = 0) : 0 + uv (lo &&& 4294967295) * 2 ^ (32 * i) = uv lo % 2 ^ 32 := by rw [h, uv_and]; omega
theorem x_2 {lo : Int64} {i : Nat} (h : i = 1) : uv lo % 2 ^ 32 + uv (lu lo 32) * 2 ^ (32 * i) = uv lo := by rw [h, uv_lu]; omega
theorem x_3 {hi lo : Int64} {i : Nat} (h : i = 2) : uv lo + uv hi * 2 ^ (32 * i) = xVal hi lo := by rw [h]; rfl
/-- the multiplier, by the limbs of it that were gone over -/
def xq (hi lo : Int64) (i : Nat) : Nat := if i = 0 then 0 else if i = 1 then uv lo % 2 ^ 32 else if i = 2 then uv lo else xVal hi lo
theorem xq_1 {hi lo : Int64} {i : Nat} (h : i = 0) : xq hi lo i + uv (lo &&& 4294967295) * 2 ^ (32 * i) = xq hi lo (i + 1) := by subst h; exact x_1 rfl
theorem xq_2 {hi lo : Int64} {i : Nat} (h : i = 1) : xq hi lo i + uv (lu lo 32) * 2 ^ (32 * i) = xq hi lo (i + 1) := by subst h; exact x_2 rfl
theorem xq_3 {hi lo : Int64} {i : Nat} (h : i = 2) : xq hi lo i + uv hi * 2 ^ (32 * i) = xq hi lo (i + 1) := by subst h; exact x_3 rfl
theorem OI_c {x y : Nat} {fl fc : Nat → Int64} (h : OI x fl fc) (e : x = y) : OI y fl fc := e ▸ h
theorem OI_end {x : Nat} {fl fc f2 : Nat → Int64} (h : OI x fl fc) : L32 (hCl fc f2 8) ∧ Sg (hCl fc f2 8) 0 8 = x * Sg fl 0 8 % 2 ^ 256 := by
  obtain ⟨h1, h2⟩ := h
  have c : Sg (hCl fc f2 8) 0 8 = Sg fc 0 8 := Sg_congr 8 (fun j hj => hCl_in fc f2 8 _ (by omega))
  refine ⟨fun j hj => by rw [hCl_in fc f2 8 j hj]; exact h1 j hj, ?_⟩
  rw [c, ← h2, Nat.mod_eq_of_lt]
  exact Sg_lt 8 (fun j hj => h1 _ (by omega))
theorem uv_ll (x : Int64) {n : Nat} (hn : n < 64) : uv (ll x (nI n)) = uv x * 2 ^ n % 2 ^ 64 := by
  unfold uv
  rw [ll_bv x hn, BitVec.toNat_shiftLeft, Nat.shiftLeft_eq]
theorem uv_or (x y : Int64) : uv (x ||| y) = uv x ||| uv y := by
  unfold uv; rw [Int64.toBitVec_or, BitVec.toNat_or]
theorem uv_top {t l : Int64} (ht : uv t < 2 ^ 32) (hl : uv l < 2 ^ 32) : uv (ll t 32 ||| l) = uv t * 2 ^ 32 + uv l := by
  rw [uv_or, show (32 : Int32) = nI 32 from rfl, uv_ll t (by decide), Nat.mod_eq_of_lt (by omega), Nat.mul_comm, Nat.two_pow_add_eq_or_of_lt hl]
theorem uv_small {x : Int64} (h : uv x < 2 ^ 63) : x.toInt = (uv x : Int) := by
  have := BitVec.toInt_eq_toNat_of_lt (x := x.toBitVec) (by show 2 * uv x < 2 ^ 64; omega)
  exact this
theorem lN_uv {p : Nat} (h : p < 2 ^ 31) : uv (lN p) = p := by
  show (BitVec.ofNat 64 p).toNat = p
  rw [BitVec.toNat_ofNat, Nat.mod_eq_of_lt (by omega)]
theorem lt_uv {x : Int64} {p : Nat} (h : uv x < 2 ^ 63) (hp : p < 2 ^ 31) : x < lN p ↔ uv x < p := by
  rw [Int64.lt_iff_toInt_lt, uv_small h, uv_small (x := lN p) (by rw [lN_uv hp]; omega), lN_uv hp]; omega
theorem eq_uv {x : Int64} {p : Nat} (hp : p < 2 ^ 31) : x = lN p ↔ uv x = p := ⟨fun h => by rw [h, lN_uv hp], fun h => uv_inj (by rw [h, lN_uv hp])⟩
theorem uv_0 : uv 0 = 0 := by decide

theorem Sg_div {f : Nat → Int64} (h : L32 f) {m : Nat} (hm : m ≤ 8) : Sg f 0 8 / 2 ^ (32 * m) = Sg f m (8 - m) := by
  have e := Sg_split f 0 m (8 - m)
  rw [show m + (8 - m) = 8 by omega, Nat.zero_add] at e
  have l : Sg f 0 m < 2 ^ (32 * m) := Sg_lt m (fun j hj => h _ (by omega))
  rw [e, Nat.add_comm, Nat.mul_add_div (Nat.pow_pos (by decide)), Nat.div_eq_of_lt l, Nat.add_zero]
theorem top3 {f : Nat → Int64} {V : Nat} (h : L32 f) (hV : Sg f 0 8 = V) : uv (ll (ll 0 32 ||| f 7) 32 ||| f 6) = V / 2 ^ (32 * 6) := by
  have h6 := h 6 (by decide); have h7 := h 7 (by decide)
  have e7 : uv (ll 0 32 ||| f 7) = uv (f 7) := by rw [uv_top (by rw [uv_0]; decide) h7, uv_0, Nat.zero_mul, Nat.zero_add]
  rw [uv_top (by rw [e7]; exact h7) h6, e7, ← hV, Sg_div h (by decide)]
  show _ = 0 + uv (f (6 + 0)) * 2 ^ (32 * 0) + uv (f (6 + 1)) * 2 ^ (32 * 1)
  rw [Nat.zero_add, Nat.mul_zero, Nat.pow_zero, Nat.mul_one, Nat.add_comm]
theorem top2 {f : Nat → Int64} {V : Nat} (h : L32 f) (hV : Sg f 0 8 = V) (hb : V / 2 ^ (32 * 4) < 2 ^ 32) : uv (ll (ll (ll (ll 0 32 ||| f 7) 32 ||| f 6) 32 ||| f 5) 32 ||| f 4) = V / 2 ^ (32 * 4) := by
  have h4 := h 4 (by decide); have h5 := h 5 (by decide); have h6 := h 6 (by decide); have h7 := h 7 (by decide)
  have e : V / 2 ^ (32 * 4) = uv (f 4) + uv (f 5) * 2 ^ 32 + uv (f 6) * 2 ^ 64 + uv (f 7) * 2 ^ 96 := by
    rw [← hV, Sg_div h (by decide)]
    show 0 + uv (f (4 + 0)) * 2 ^ (32 * 0) + uv (f (4 + 1)) * 2 ^ (32 * 1) + uv (f (4 + 2)) * 2 ^ (32 * 2) + uv (f (4 + 3)) * 2 ^ (32 * 3) = _
    rw [Nat.zero_add, Nat.mul_zero, Nat.pow_zero, Nat.mul_one]
  clear hV
  rw [e] at hb ⊢
  clear e
  have z7 : uv (f 7) = 0 := by omega
  have z6 : uv (f 6) = 0 := by omega
  have z5 : uv (f 5) = 0 := by omega
  have e7 : uv (ll 0 32 ||| f 7) = 0 := by rw [uv_top (by rw [uv_0]; decide) h7, uv_0, z7]
  have e6 : uv (ll (ll 0 32 ||| f 7) 32 ||| f 6) = 0 := by rw [uv_top (by rw [e7]; decide) h6, e7, z6]
  have e5 : uv (ll (ll (ll 0 32 ||| f 7) 32 ||| f 6) 32 ||| f 5) = 0 := by rw [uv_top (by rw [e6]; decide) h5, e6, z5]
  rw [uv_top (by rw [e5]; decide) h4, e5, z5, z6, z7]
  omega
theorem div3 {V : Nat} (h : V < 2 ^ 201) : V / 2 ^ (32 * 6) < 2 ^ 32 := by
  rw [Nat.div_lt_iff_lt_mul (Nat.pow_pos (by decide))]
  exact Nat.lt_trans h (by decide)
theorem div2 {V : Nat} (h : V < 2 ^ 134) : V / 2 ^ (32 * 4) < 2 ^ 32 := by
  rw [Nat.div_lt_iff_lt_mul (Nat.pow_pos (by decide))]
  exact Nat.lt_trans h (by decide)
def fN (V W : Nat) : Int32 := if V ≤ W then nI 1 else nI 0
theorem fN_lt {t : Int64} {V p D : Nat} (hD : 0 < D) (ht : uv t = V / D) (hb : uv t < 2 ^ 63) (hp : p < 2 ^ 31) (h : t < lN p) : nI 1 = fN V (p * D) := by
  have h2 := (lt_uv hb hp).mp h
  rw [ht, Nat.div_lt_iff_lt_mul hD] at h2
  unfold fN; rw [if_pos (by omega)]
theorem fN_gt {t : Int64} {V p D : Nat} (hD : 0 < D) (ht : uv t = V / D) (hb : uv t < 2 ^ 63) (hp : p < 2 ^ 31) (h : ¬ t < lN p) (hn : ¬ t = lN p) : nI 0 = fN V (p * D) := by
  have h2 : ¬ uv t < p := fun q => h ((lt_uv hb hp).mpr q)
  have h3 : ¬ uv t = p := fun q => hn ((eq_uv hp).mpr q)
  have h4 : p + 1 ≤ V / D := by omega
  rw [Nat.le_div_iff_mul_le hD, Nat.add_mul] at h4
  unfold fN; rw [if_neg (by omega)]
theorem Sg_mod {f : Nat → Int64} (h : L32 f) {m : Nat} (hm : m ≤ 8) : Sg f 0 8 = Sg f 0 m + 2 ^ (32 * m) * (Sg f 0 8 / 2 ^ (32 * m)) := by
  have e := Sg_split f 0 m (8 - m)
  rw [show m + (8 - m) = 8 by omega] at e
  have l : Sg f 0 m < 2 ^ (32 * m) := Sg_lt m (fun j hj => h _ (by omega))
  have d : Sg f 0 8 / 2 ^ (32 * m) = Sg f (0 + m) (8 - m) := by
    rw [e, Nat.add_comm, Nat.mul_add_div (Nat.pow_pos (by decide)), Nat.div_eq_of_lt l, Nat.add_zero]
  rw [d]; exact e
theorem Sg_pos {f : Nat → Int64} : ∀ n j, j < n → ¬ f j = 0 → 0 < Sg f 0 n
  | 0, j, h, _ => by omega
  | n + 1, j, h, hz => by
    show 0 < Sg f 0 n + uv (f (0 + n)) * 2 ^ (32 * n)
    by_cases e : j = n
    · have : 0 < uv (f j) := Nat.pos_of_ne_zero (fun q => hz (uv_inj (by rw [q, uv_0])))
      rw [Nat.zero_add, ← e]
      have := Nat.mul_pos this (Nat.pow_pos (n := 32 * j) (show 0 < 2 by decide))
      omega
    · have := Sg_pos (f := f) n j (by omega) hz
      omega
theorem fN_no {f : Nat → Int64} {t : Int64} {V p m j : Nat} (hl : L32 f) (hm : m ≤ 8) (hV : Sg f 0 8 = V) (ht : uv t = V / 2 ^ (32 * m)) (hp : p < 2 ^ 31) (h : t = lN p) (hj : j < m) (hz : ¬ f j = 0) : nI 0 = fN V (p * 2 ^ (32 * m)) := by
  have h2 := (eq_uv hp).mp h
  have e := Sg_mod hl hm
  have q := Sg_pos m j hj hz
  rw [hV, ← ht, h2] at e
  unfold fN
  rw [if_neg]
  rw [Nat.mul_comm p]
  omega
theorem Sg_zero {f : Nat → Int64} : ∀ n, (∀ j, j < n → f j = 0) → Sg f 0 n = 0
  | 0, _ => rfl
  | n + 1, h => by
    show Sg f 0 n + uv (f (0 + n)) * 2 ^ (32 * n) = 0
    rw [Sg_zero n (fun j hj => h j (by omega)), Nat.zero_add, Nat.zero_add, h n (by omega), uv_0, Nat.zero_mul]
theorem fN_yes {f : Nat → Int64} {t : Int64} {V p m : Nat} (hl : L32 f) (hm : m ≤ 8) (hV : Sg f 0 8 = V) (ht : uv t = V / 2 ^ (32 * m)) (hp : p < 2 ^ 31) (h : t = lN p) (hz : ∀ j, j < m → f j = 0) : nI 1 = fN V (p * 2 ^ (32 * m)) := by
  have h2 := (eq_uv hp).mp h
  have e := Sg_mod hl hm
  rw [hV, ← ht, h2, Sg_zero m hz] at e
  unfold fN
  rw [if_pos]
  rw [Nat.mul_comm p]
  omega
theorem all6 {f : Nat → Int64} (h0 : f 0 = 0) (h1 : f 1 = 0) (h2 : f 2 = 0) (h3 : f 3 = 0) (h4 : f 4 = 0) (h5 : f 5 = 0) : ∀ j, j < 6 → f j = 0 := fun j hj => by
  match j, hj with
  | 0, _ => exact h0
  | 1, _ => exact h1
  | 2, _ => exact h2
  | 3, _ => exact h3
  | 4, _ => exact h4
  | 5, _ => exact h5
  | j + 6, hj => omega
theorem all4 {f : Nat → Int64} (h0 : f 0 = 0) (h1 : f 1 = 0) (h2 : f 2 = 0) (h3 : f 3 = 0) : ∀ j, j < 4 → f j = 0 := fun j hj => by
  match j, hj with
  | 0, _ => exact h0
  | 1, _ => exact h1
  | 2, _ => exact h2
  | 3, _ => exact h3
  | j + 4, hj => omega
theorem pow_b {X n : Nat} (hX : X < 2 ^ 67) : X ^ n ≤ 2 ^ (67 * n) := by rw [Nat.pow_mul]; exact Nat.pow_le_pow_left (Nat.le_of_lt hX) n
theorem pow_lt3 {X : Nat} (hX : X < 2 ^ 67) : X ^ 3 < 2 ^ 201 := by
  have h : X ^ 3 ≤ (2 ^ 67 - 1) ^ 3 := Nat.pow_le_pow_left (by omega) 3
  exact Nat.lt_of_le_of_lt h (by decide)
theorem pow_lt2 {X : Nat} (hX : X < 2 ^ 67) : X ^ 2 < 2 ^ 134 := by
  have h : X ^ 2 ≤ (2 ^ 67 - 1) ^ 2 := Nat.pow_le_pow_left (by omega) 2
  exact Nat.lt_of_le_of_lt h (by decide)
theorem pw_step {X S n : Nat} (hX : X < 2 ^ 67) (hn : n ≤ 2) (h : S = X ^ n) : X * S % 2 ^ 256 = X ^ (n + 1) := by
  rw [h, Nat.mul_comm, ← Nat.pow_succ, Nat.mod_eq_of_lt]
  have h2 := pow_b (n := n + 1) hX
  exact Nat.lt_of_le_of_lt h2 (Nat.pow_lt_pow_right (by decide) (by omega))
/-- the first limb 1, the others 0 -/
def oneL (fl : Nat → Int64) : Nat → Nat → Int64
  | 0 => fl
  | n + 1 => vp_updL (oneL fl n) n (if n = 0 then 1 else 0)
theorem oneL_in (fl : Nat → Int64) : ∀ n j, j < n → oneL fl n j = if j = 0 then 1 else 0
  | 0, j, h => by omega
  | n + 1, j, h => by
    show vp_updL _ n _ j = _
    by_cases e : j = n
    · rw [e, pk_uLs]
    · rw [pk_uLn e]; exact oneL_in fl n j (by omega)
theorem oneL_v (fl : Nat → Int64) (X : Nat) : L32 (oneL fl 8) ∧ Sg (oneL fl 8) 0 8 = X ^ 0 := by
  refine ⟨fun j hj => ?_, ?_⟩
  · rw [oneL_in fl 8 j hj]; split <;> decide
  · rw [Sg_congr (g := fun j => if j = 0 then 1 else 0) 8 (fun j hj => oneL_in fl 8 _ (by omega)), Nat.pow_zero]; decide
/-- the root, bit by bit -/
def gN (p pw : Nat) : Nat → Nat
  | 0 => 0
  | q + 1 => if (gN p pw q + 2 ^ (66 - q)) ^ pw ≤ p * 2 ^ (64 * pw) then gN p pw q + 2 ^ (66 - q) else gN p pw q
theorem gN_y {p pw q : Nat} (h : (gN p pw q + 2 ^ (66 - q)) ^ pw ≤ p * 2 ^ (64 * pw)) : gN p pw q + 2 ^ (66 - q) = gN p pw (q + 1) := by show _ = if _ then _ else _; rw [if_pos h]
theorem gN_n {p pw q : Nat} (h : ¬ (gN p pw q + 2 ^ (66 - q)) ^ pw ≤ p * 2 ^ (64 * pw)) : gN p pw q = gN p pw (q + 1) := by show _ = if _ then _ else _; rw [if_neg h]
theorem gN_ok (p pw : Nat) : ∀ q, q ≤ 67 → 2 ^ (67 - q) ∣ gN p pw q ∧ gN p pw q + 2 ^ (67 - q) ≤ 2 ^ 67
  | 0, _ => ⟨Nat.dvd_zero _, by show 0 + _ ≤ _; omega⟩
  | q + 1, hq => by
    obtain ⟨a, b⟩ := gN_ok p pw q (by omega)
    have e : 2 ^ (67 - q) = 2 ^ (66 - q) * 2 := by rw [← Nat.pow_succ]; congr 1; omega
    have d : 2 ^ (66 - q) ∣ gN p pw q := Nat.dvd_trans ⟨2, e⟩ a
    rw [show 67 - (q + 1) = 66 - q by omega]
    by_cases hc : (gN p pw q + 2 ^ (66 - q)) ^ pw ≤ p * 2 ^ (64 * pw)
    · rw [← gN_y hc]
      exact ⟨(Nat.dvd_add_iff_left (Nat.dvd_refl _)).mp d, by omega⟩
    · rw [← gN_n hc]
      exact ⟨d, by omega⟩
theorem or_bit {a b : Nat} (h : 2 ^ (b + 1) ∣ a) : a ||| 2 ^ b = a + 2 ^ b := by
  obtain ⟨c, rfl⟩ := h
  rw [Nat.two_pow_add_eq_or_of_lt (Nat.pow_lt_pow_right (by decide) (by omega))]
theorem uv_bit {b : Nat} (h : b < 64) : uv (ll 1 (nI b)) = 2 ^ b := by
  rw [uv_ll 1 h, show uv 1 = 1 by decide, Nat.one_mul, Nat.mod_eq_of_lt (Nat.pow_lt_pow_right (by decide) h)]
theorem bitL {hh lo : Int64} {b : Nat} (hb : b ≤ 63) (h : 2 ^ (b + 1) ∣ xVal hh lo) : xVal hh (lo ||| ll 1 (nI b)) = xVal hh lo + 2 ^ b := by
  unfold xVal at *
  have d : 2 ^ (b + 1) ∣ uv hh * 2 ^ 64 := Nat.dvd_trans (Nat.pow_dvd_pow 2 (by omega)) (Nat.dvd_mul_left _ _)
  rw [uv_or, uv_bit (by omega), or_bit ((Nat.dvd_add_iff_left d).mpr h)]
  omega
theorem bitH {hh lo : Int64} {b : Nat} (hb : 64 ≤ b) (hb2 : b < 128) (h : 2 ^ (b + 1) ∣ xVal hh lo) : xVal (hh ||| ll 1 (nI (b - 64))) lo = xVal hh lo + 2 ^ b := by
  unfold xVal at *
  have d1 : 2 ^ 64 ∣ uv lo + uv hh * 2 ^ 64 := Nat.dvd_trans (Nat.pow_dvd_pow 2 (by omega)) h
  have d2 : 2 ^ 64 ∣ uv lo := (Nat.dvd_add_iff_left (Nat.dvd_mul_left _ _)).mpr d1
  have l0 : uv lo = 0 := Nat.eq_zero_of_dvd_of_lt d2 (uv_lt lo)
  rw [l0, Nat.zero_add, show b + 1 = (b - 64 + 1) + 64 by omega, Nat.pow_add] at h
  have d3 : 2 ^ (b - 64 + 1) ∣ uv hh := Nat.dvd_of_mul_dvd_mul_right (by decide) h
  rw [uv_or, uv_bit (by omega), or_bit d3, Nat.add_mul, ← Nat.pow_add, show b - 64 + 64 = b by omega]
  omega
theorem xVal_hi {hh lo : Int64} (h : xVal hh lo < 2 ^ 67) : uv hh < 2 ^ 32 := by unfold xVal at h; omega
theorem xVal_lo {hh lo : Int64} {g : Nat} (h : xVal hh lo = g) : lo = Int64.ofNat g := by
  apply uv_inj
  show _ = (BitVec.ofNat 64 g).toNat
  rw [BitVec.toNat_ofNat, ← h]
  unfold xVal
  rw [Nat.add_mul_mod_self_right, Nat.mod_eq_of_lt (uv_lt lo)]
/-- the primes, one behind another -/
def pq (q : Nat) : Nat := [1, 2, 3, 5, 7, 11, 13, 17, 19, 23, 29, 31, 37, 41, 43, 47, 53, 59, 61, 67, 71, 73, 79, 83, 89, 97, 101, 103, 107, 109, 113, 127, 131, 137, 139, 149, 151, 157, 163, 167, 173, 179, 181, 191, 193, 197, 199, 211, 223, 227, 229, 233, 239, 241, 251, 257, 263, 269, 271, 277, 281, 283, 293, 307, 311, 313, 317, 331, 337, 347, 349, 353, 359, 367, 373, 379, 383, 389, 397, 401, 409].getD q 0
theorem pq_lt : ∀ q, q < 80 → pq q < pq (q + 1) ∧ pq (q + 1) < 512 ∧ 0 < pq q := by decide +kernel
theorem pq_pr : ∀ q, q < 80 → ∀ d, d < 23 → 2 ≤ d → d * d ≤ pq (q + 1) → ¬ pq (q + 1) % d = 0 := by decide +kernel
theorem pq_no : ∀ q, q < 80 → ∀ t, t < 20 → pq q + t + 1 < pq (q + 1) → ∃ d, d < 23 ∧ 2 ≤ d ∧ d * d ≤ pq q + t + 1 ∧ (pq q + t + 1) % d = 0 := by
  have : ∀ q, q < 80 → ∀ t, t < 20 → pq q + t + 1 < pq (q + 1) → ((List.range 23).any (fun d => decide (2 ≤ d ∧ d * d ≤ pq q + t + 1 ∧ (pq q + t + 1) % d = 0))) = true := by decide +kernel
  intro q hq t ht h
  have h2 := this q hq t ht h
  rw [List.any_eq_true] at h2
  obtain ⟨d, h3, h4⟩ := h2
  exact ⟨d, List.mem_range.mp h3, of_decide_eq_true h4⟩
theorem pq_gap : ∀ q, q < 80 → pq (q + 1) ≤ pq q + 20 := by decide +kernel
theorem sqE : ∀ p : Nat, ∃ D, p < D * D ∧ ∀ d, d < D → d * d ≤ p
  | 0 => ⟨1, by decide, fun d hd => by have : d = 0 := by omega
                                       subst this; decide⟩
  | p + 1 => by
    obtain ⟨D, h1, h2⟩ := sqE p
    by_cases h : p + 1 < D * D
    · exact ⟨D, h, fun d hd => Nat.le_succ_of_le (h2 d hd)⟩
    · refine ⟨D + 1, ?_, fun d hd => ?_⟩
      · have : (D + 1) * (D + 1) = D * D + D + D + 1 := by rw [Nat.add_mul, Nat.mul_add]; omega
        omega
      · have : d * d ≤ D * D := Nat.mul_le_mul (by omega) (by omega)
        omega
theorem root3 : ∀ t, t < 80 → Int64.ofNat (gN (pq (t + 1)) 3 67) = kW t := by decide +kernel
theorem root2 : ∀ t, t < 8 → Int64.ofNat (gN (pq (t + 1)) 2 67) = iT 2 t ∧ lu (Int64.ofNat (gN (pq (t + 1)) 2 67)) 32 = iT 0 t := by decide +kernel
theorem root1 : ∀ t, t < 8 → Int64.ofNat (gN (pq (8 + t + 1)) 2 67) = iT 1 t := by decide +kernel
theorem tb3 {t : Int64} {V : Nat} (ht : uv t = V / 2 ^ (32 * 6)) (h : V < 2 ^ 201) : uv t < 2 ^ 63 := by rw [ht]; exact Nat.lt_trans (div3 h) (by decide)
theorem tb2 {t : Int64} {V : Nat} (ht : uv t = V / 2 ^ (32 * 4)) (h : V < 2 ^ 134) : uv t < 2 ^ 63 := by rw [ht]; exact Nat.lt_trans (div2 h) (by decide)
theorem fN_pos {V W : Nat} (h : V ≤ W) : fN V W = nI 1 := if_pos h
theorem fN_neg {V W : Nat} (h : ¬ V ≤ W) : fN V W = nI 0 := if_neg h
theorem gN_b {p pw q : Nat} (h : q < 67) : gN p pw q + 2 ^ (66 - q) < 2 ^ 67 := by
  have e : 2 ^ (67 - q) = 2 ^ (66 - q) * 2 := by rw [← Nat.pow_succ]; congr 1; omega
  have b := (gN_ok p pw q (by omega)).2
  have c : 0 < 2 ^ (66 - q) := Nat.pow_pos (by decide)
  generalize 2 ^ 67 = Z at *
  omega
theorem dq2 {p D : Nat} (h : p < D * D) (hp : 1 ≤ p) : 2 ≤ D := by
  match D, h with
  | 0, h => omega
  | 1, h => omega
  | D + 2, _ => omega
theorem dq26 {p D : Nat} (h : ∀ d, d < D → d * d ≤ p) (hp : p < 600) : D ≤ 26 := by
  rcases Nat.lt_or_ge 25 D with q | q
  · have := h 25 q; omega
  · omega
theorem sqlt {x : Nat} (h : x ≤ 40) : x * x < 2 ^ 31 := Nat.lt_of_le_of_lt (Nat.mul_le_mul h h) (by decide)
def pI (p : Nat) (fe : Int32) (y : Nat) : Prop := (fe = 1 ∧ ∀ d, 2 ≤ d → d < 2 + y → ¬ p % d = 0) ∨ (fe = 0 ∧ ∃ d, 2 ≤ d ∧ d < 2 + y ∧ p % d = 0)
theorem pI_0 (p : Nat) : pI p (nI 1) 0 := Or.inl ⟨rfl, fun d h1 h2 => by omega⟩
theorem pI_n {p y : Nat} {fe : Int32} (h : pI p fe y) (hn : ¬ p % (2 + y) = 0) : pI p fe (y + 1) := by
  rcases h with ⟨a, b⟩ | ⟨a, d, b1, b2, b3⟩
  · refine Or.inl ⟨a, fun d h1 h2 => ?_⟩
    by_cases e : d = 2 + y
    · rw [e]; exact hn
    · exact b d h1 (by omega)
  · exact Or.inr ⟨a, d, b1, by omega, b3⟩
theorem pI_y {p y : Nat} (hn : p % (2 + y) = 0) : pI p (nI 0) (y + 1) := Or.inr ⟨rfl, 2 + y, by omega, by omega, hn⟩
theorem pE0 {p D : Nat} {fe : Int32} (h2 : 2 ≤ D) (h : pI p fe (D - 2)) (hp : p < D * D) (he : ∃ d, 2 ≤ d ∧ d * d ≤ p ∧ p % d = 0) : fe = 0 := by
  rcases h with ⟨a, b⟩ | ⟨a, -⟩
  · obtain ⟨d, e1, e2, e3⟩ := he
    have : d < D := by
      rcases Nat.lt_or_ge d D with q | q
      · exact q
      · have := Nat.mul_le_mul q q; omega
    exact absurd e3 (b d e1 (by omega))
  · exact a
theorem pE1 {p D : Nat} {fe : Int32} (h2 : 2 ≤ D) (h : pI p fe (D - 2)) (hp : ∀ d, d < D → d * d ≤ p) (he : ∀ d, 2 ≤ d → d * d ≤ p → ¬ p % d = 0) : fe = 1 := by
  rcases h with ⟨a, -⟩ | ⟨a, d, b1, b2, b3⟩
  · exact a
  · exact absurd b3 (he d b1 (hp d (by omega)))
theorem sq23 {d p : Nat} (h : d * d ≤ p) (hp : p < 512) : d < 23 := by
  rcases Nat.lt_or_ge d 23 with q | q
  · exact q
  · have := Nat.mul_le_mul q q; omega
theorem pqA {q : Nat} (hq : q < 80) : ∀ d, 2 ≤ d → d * d ≤ pq (q + 1) → ¬ pq (q + 1) % d = 0 := fun d h1 h2 => pq_pr q hq d (sq23 h2 (pq_lt q hq).2.1) h1 h2
theorem pqB {q : Nat} (hq : q < 80) : ∀ c, pq q < c → c < pq (q + 1) → ∃ d, 2 ≤ d ∧ d * d ≤ c ∧ c % d = 0 := fun c h1 h2 => by
  obtain ⟨t, rfl⟩ : ∃ t, c = pq q + t + 1 := ⟨c - pq q - 1, by omega⟩
  obtain ⟨d, -, e⟩ := pq_no q hq t (by have := pq_gap q hq; omega) h2
  exact ⟨d, e⟩
def krF : Nat → Nat → Int64
  | 0 => fun _ => 0
  | q + 1 => vp_updL (krF q) q (Int64.ofNat (gN (pq (q + 1)) 3 67))
theorem krF_in : ∀ n t, t < n → krF n t = Int64.ofNat (gN (pq (t + 1)) 3 67)
  | 0, t, h => by omega
  | n + 1, t, h => by
    show vp_updL _ n _ t = _
    by_cases e : t = n
    · rw [e, pk_uLs]
    · rw [pk_uLn e]; exact krF_in n t (by omega)
theorem krF_ok : ∀ t, t < 80 → krF 80 t = kW t := fun t ht => (krF_in 80 t ht).trans (root3 t ht)
def stI (f : Nat → Int64) (q : Nat) : Prop := ∀ j, j < 8 → (j < q → f (16 + j) = iT 2 j ∧ f (0 + j) = iT 0 j) ∧ (8 + j < q → f (8 + j) = iT 1 j)
theorem stI_0 (f : Nat → Int64) : stI f 0 := fun j _ => ⟨fun h => by omega, fun h => by omega⟩
theorem stI_a {f : Nat → Int64} {q : Nat} (hq : q < 8) (h : stI f q) : stI (vp_updL (vp_updL f (16 + q) (Int64.ofNat (gN (pq (q + 1)) 2 67))) q (lu (vp_updL f (16 + q) (Int64.ofNat (gN (pq (q + 1)) 2 67)) (16 + q)) 32)) (q + 1) := fun j hj => by
  obtain ⟨a, b⟩ := h j hj
  obtain ⟨r1, r2⟩ := root2 q hq
  rw [pk_uLs, r2, r1]
  refine ⟨fun hjq => ?_, fun hjq => by omega⟩
  by_cases e : j = q
  · subst e
    rw [Nat.zero_add, pk_uLs, pk_uLn (by omega), pk_uLs]; exact ⟨rfl, rfl⟩
  · rw [pk_uLn (by omega), pk_uLn (by omega), pk_uLn (by omega), pk_uLn (by omega)]; exact a (by omega)
theorem stI_b {f : Nat → Int64} {q : Nat} (h1 : 8 ≤ q) (hq : q < 16) (h : stI f q) : stI (vp_updL f q (Int64.ofNat (gN (pq (q + 1)) 2 67))) (q + 1) := fun j hj => by
  obtain ⟨a, b⟩ := h j hj
  refine ⟨fun _ => ?_, fun hjq => ?_⟩
  · rw [pk_uLn (by omega), pk_uLn (by omega)]; exact a (by omega)
  · by_cases e : 8 + j = q
    · subst e
      rw [pk_uLs]; exact root1 j hj
    · rw [pk_uLn (by omega)]; exact b (by omega)
theorem stI_c {f : Nat → Int64} {q : Nat} (h1 : 16 ≤ q) (h : stI f q) : stI f (q + 1) := fun j hj => ⟨fun _ => (h j hj).1 (by omega), fun _ => (h j hj).2 (by omega)⟩
