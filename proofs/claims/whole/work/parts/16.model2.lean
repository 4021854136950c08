/-! THE MODEL, on: one block gone over; the end of a text -/
def cmpN : Cmp := fun st b => add8 st (lg8 (nMx kN (nSched (fun _ => 0) b) (nOf st) 64))
def cmpW : Cmp := fun st b => add8 st (wMx kW (wSched (fun _ => 0) b) (wOf st) 80)
theorem nMx_congr {K w w' : Nat → Int32} {s : T8 Int32} : ∀ n, (∀ t, t < n → w t = w' t) → nMx K w s n = nMx K w' s n
  | 0, _ => rfl
  | n + 1, h => by
    show nRd (K n) (w n) (nMx K w s n) = nRd (K n) (w' n) (nMx K w' s n)
    rw [nMx_congr n (fun t ht => h t (by omega)), h n (by omega)]
theorem wMx_congr {K w w' : Nat → Int64} {s : T8 Int64} : ∀ n, (∀ t, t < n → w t = w' t) → wMx K w s n = wMx K w' s n
  | 0, _ => rfl
  | n + 1, h => by
    show wRd (K n) (w n) (wMx K w s n) = wRd (K n) (w' n) (wMx K w' s n)
    rw [wMx_congr n (fun t ht => h t (by omega)), h n (by omega)]
theorem nSa_in (f : Nat → Int32) (b : Nat → Int8) : ∀ n t, t < n → nSa f b n t = nWd b t 4
  | 0, t, h => by omega
  | n + 1, t, h => by
    show upd (nSa f b n) n (nWd b n 4) t = _
    by_cases e : t = n
    · rw [e, pk_us]
    · rw [pk_un e]; exact nSa_in f b n t (by omega)
theorem wSa_in (f : Nat → Int64) (b : Nat → Int8) : ∀ n t, t < n → wSa f b n t = wWd b t 8
  | 0, t, h => by omega
  | n + 1, t, h => by
    show vp_updL (wSa f b n) n (wWd b n 8) t = _
    by_cases e : t = n
    · rw [e, pk_uLs]
    · rw [pk_uLn e]; exact wSa_in f b n t (by omega)
theorem nSb_congr {f g : Nat → Int32} (h : ∀ t, t < 16 → f t = g t) : ∀ i t, t < 16 + i → nSb f i t = nSb g i t
  | 0, t, ht => h t (by omega)
  | i + 1, t, ht => by
    show upd (nSb f i) (16 + i) _ t = upd (nSb g i) (16 + i) _ t
    by_cases e : t = 16 + i
    · rw [e, pk_us, pk_us, nSb_congr h i (16 + i - 2) (by omega), nSb_congr h i (16 + i - 7) (by omega), nSb_congr h i (16 + i - 15) (by omega), nSb_congr h i (16 + i - 16) (by omega)]
    · rw [pk_un e, pk_un e]; exact nSb_congr h i t (by omega)
theorem wSb_congr {f g : Nat → Int64} (h : ∀ t, t < 16 → f t = g t) : ∀ i t, t < 16 + i → wSb f i t = wSb g i t
  | 0, t, ht => h t (by omega)
  | i + 1, t, ht => by
    show vp_updL (wSb f i) (16 + i) _ t = vp_updL (wSb g i) (16 + i) _ t
    by_cases e : t = 16 + i
    · rw [e, pk_uLs, pk_uLs, wSb_congr h i (16 + i - 2) (by omega), wSb_congr h i (16 + i - 7) (by omega), wSb_congr h i (16 + i - 15) (by omega), wSb_congr h i (16 + i - 16) (by omega)]
    · rw [pk_uLn e, pk_uLn e]; exact wSb_congr h i t (by omega)
theorem nWd_congr {b b' : Nat → Int8} {t : Nat} (ht : t < 16) (h : ∀ j, j < 64 → b j = b' j) : ∀ i, i ≤ 4 → nWd b t i = nWd b' t i
  | 0, _ => rfl
  | i + 1, hi => by
    show il (nWd b t i) 8 ||| ((b (4 * t + i)).toInt32 &&& 255) = il (nWd b' t i) 8 ||| ((b' (4 * t + i)).toInt32 &&& 255)
    rw [nWd_congr ht h i (by omega), h (4 * t + i) (by omega)]
theorem wWd_congr {b b' : Nat → Int8} {t : Nat} (ht : t < 16) (h : ∀ j, j < 128 → b j = b' j) : ∀ i, i ≤ 8 → wWd b t i = wWd b' t i
  | 0, _ => rfl
  | i + 1, hi => by
    show ll (wWd b t i) 8 ||| ((b (8 * t + i)).toInt32 &&& 255).toInt64 = ll (wWd b' t i) 8 ||| ((b' (8 * t + i)).toInt32 &&& 255).toInt64
    rw [wWd_congr ht h i (by omega), h (8 * t + i) (by omega)]
theorem nSched_congr {f g : Nat → Int32} {b b' : Nat → Int8} (h : ∀ j, j < 64 → b j = b' j) (t : Nat) (ht : t < 64) : nSched f b t = nSched g b' t :=
  nSb_congr (fun t ht => by rw [nSa_in f b 16 t ht, nSa_in g b' 16 t ht, nWd_congr ht h 4 (Nat.le_refl _)]) 48 t (by omega)
theorem wSched_congr {f g : Nat → Int64} {b b' : Nat → Int8} (h : ∀ j, j < 128 → b j = b' j) (t : Nat) (ht : t < 80) : wSched f b t = wSched g b' t :=
  wSb_congr (fun t ht => by rw [wSa_in f b 16 t ht, wSa_in g b' 16 t ht, wWd_congr ht h 8 (Nat.le_refl _)]) 64 t (by omega)
theorem cmpN_eq (f : Nat → Int32) (st : Nat → Int64) (b : Nat → Int8) : add8 st (lg8 (nMx kN (nSched f b) (nOf st) 64)) = cmpN st b := by
  unfold cmpN
  rw [nMx_congr 64 (fun t ht => nSched_congr (g := fun _ => 0) (fun _ _ => rfl) t ht)]
theorem cmpW_eq (f : Nat → Int64) (st : Nat → Int64) (b : Nat → Int8) : add8 st (wMx kW (wSched f b) (wOf st) 80) = cmpW st b := by
  unfold cmpW
  rw [wMx_congr 80 (fun t ht => wSched_congr (g := fun _ => 0) (fun _ _ => rfl) t ht)]
theorem cmpN_B : CmpB 64 cmpN := fun st b b' h => by
  unfold cmpN
  rw [nMx_congr 64 (fun t ht => nSched_congr (g := fun _ => 0) h t ht)]
theorem cmpW_B : CmpB 128 cmpW := fun st b b' h => by
  unfold cmpW
  rw [wMx_congr 80 (fun t ht => wSched_congr (g := fun _ => 0) h t ht)]
theorem add8_ch {st s1 s2 s3 s4 s5 s6 s7 s8 : Nat → Int64} {x : T8 Int64} (e1 : s1 = vp_updL st 0 (st 0 + x.1)) (e2 : s2 = vp_updL s1 1 (s1 1 + x.2.1)) (e3 : s3 = vp_updL s2 2 (s2 2 + x.2.2.1)) (e4 : s4 = vp_updL s3 3 (s3 3 + x.2.2.2.1)) (e5 : s5 = vp_updL s4 4 (s4 4 + x.2.2.2.2.1)) (e6 : s6 = vp_updL s5 5 (s5 5 + x.2.2.2.2.2.1)) (e7 : s7 = vp_updL s6 6 (s6 6 + x.2.2.2.2.2.2.1)) (e8 : s8 = vp_updL s7 7 (s7 7 + x.2.2.2.2.2.2.2)) : s8 = add8 st x := by
  subst e8; subst e7; subst e6; subst e5; subst e4; subst e3; subst e2; subst e1
  funext j
  match j with
  | 0 => simp [vp_updL, add8]
  | 1 => simp [vp_updL, add8]
  | 2 => simp [vp_updL, add8]
  | 3 => simp [vp_updL, add8]
  | 4 => simp [vp_updL, add8]
  | 5 => simp [vp_updL, add8]
  | 6 => simp [vp_updL, add8]
  | 7 => simp [vp_updL, add8]
  | j + 8 => simp [vp_updL, add8]
/-- zeros from lo on -/
def zf (b : Nat → Int8) (lo hi : Nat) : Nat → Int8 := fun j => if lo ≤ j ∧ j < hi then 0 else b j
/-- a value from lo on, k places -/
def ff1 (b : Nat → Int8) (v : Int8) (lo : Nat) : Nat → Nat → Int8
  | 0 => b
  | i + 1 => va_up (ff1 b v lo i) (lo + i) v
theorem ff1_eq (b : Nat → Int8) (v : Int8) (lo : Nat) : ∀ n j, ff1 b v lo n j = if lo ≤ j ∧ j < lo + n then v else b j
  | 0, j => by
    show b j = _
    rw [if_neg (by omega)]
  | n + 1, j => by
    show va_up (ff1 b v lo n) (lo + n) v j = _
    by_cases e : j = lo + n
    · rw [e, va_up_self, if_pos (by omega)]
    · rw [va_up_ne _ _ e, ff1_eq b v lo n j]
      by_cases q : lo ≤ j ∧ j < lo + n
      · rw [if_pos q, if_pos (by omega)]
      · rw [if_neg q, if_neg (by omega)]
theorem ff1_zf (b : Nat → Int8) (lo hi : Nat) (h : lo ≤ hi) : ff1 b 0 lo (hi - lo) = zf b lo hi := by
  funext j
  rw [ff1_eq]
  unfold zf
  rw [show lo + (hi - lo) = hi by omega]
/-- the length in bits at a block's end -/
def lnB (b : Nat → Int8) (B : Nat) (bits : Int64) : Nat → Nat → Int8
  | 0 => b
  | i + 1 => va_up (lnB b B bits i) (B - 1 - i) (lu bits (nI (8 * i))).toInt32.toInt8
/-- the hash written out -/
def whB (st : Nat → Int64) (wb : Nat) (to : Nat → Int8) (first : Nat) : Nat → Nat → Int8
  | 0 => to
  | i + 1 => va_up (whB st wb to first i) (first + i) (lu (st (i / wb)) (nI (8 * (wb - 1 - i % wb)))).toInt32.toInt8
/-- the end of a text: what stands in the object behind the padding -/
def clA (B wb : Nat) (cmp : Cmp) (S : ShS) : ShS := if B - 2 * wb < S.2.2.1 + 1 then (cmp S.1 (zf (va_up S.2.1 S.2.2.1 (-128)) (S.2.2.1 + 1) B), zf (va_up S.2.1 S.2.2.1 (-128)) (S.2.2.1 + 1) B, 0, S.2.2.2 + 1) else (S.1, va_up S.2.1 S.2.2.1 (-128), S.2.2.1 + 1, S.2.2.2)
def clB (B : Nat) (cmp : Cmp) (S : ShS) (tot : Int64) : ShS := (cmp S.1 (lnB (zf S.2.1 S.2.2.1 B) B (8 * tot) 8), lnB (zf S.2.1 S.2.2.1 B) B (8 * tot) 8, 0, S.2.2.2 + 1)
def clS (B wb : Nat) (cmp : Cmp) (S : ShS) (tot : Int64) : ShS := clB B cmp (clA B wb cmp S) tot
