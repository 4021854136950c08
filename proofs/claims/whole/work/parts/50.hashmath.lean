/-! THE REFERENCE: hash -/
def hS0 (g S : Nat → Int64) : Nat → Nat → Int64
  | 0 => S
  | n + 1 => vp_updL (hS0 g S n) n (g n)
def hWd (P : Nat → Int32) (w : Nat → Int64) (sz a0 kq : Nat) : Nat → Nat → Int64
  | 0 => vp_updL w kq 0
  | i + 1 => vp_updL (hWd P w sz a0 kq i) kq (ll (hWd P w sz a0 kq i kq) 8 ||| (P (a0 + sz * kq + i)).toInt64)
def hWs (P : Nat → Int32) (w : Nat → Int64) (sz a0 : Nat) : Nat → Nat → Int64
  | 0 => w
  | n + 1 => hWd P (hWs P w sz a0 n) sz a0 n sz
def hOut (S : Nat → Int64) (sz : Nat) (fo : Nat → Int8) : Nat → Nat → Int8
  | 0 => fo
  | i + 1 => va_up (hOut S sz fo i) i ((lu (S (i / sz)) (nI (8 * (sz - 1 - i % sz)))).toInt32.toInt8)
def hStW (fR : Nat → Int64) (P : Nat → Int32) (w S : Nat → Int64) : Nat → (Nat → Int64) × (Nat → Int64)
  | 0 => (w, S)
  | t + 1 => (oWs (hWs P (hStW fR P w S t).1 8 (128 * t) 16) 64, oAdd qFW (hStW fR P w S t).2 (oWm fR (oWs (hWs P (hStW fR P w S t).1 8 (128 * t) 16) 64) (wOf (hStW fR P w S t).2) 80))
def hStN (fR : Nat → Int64) (P : Nat → Int32) (w S : Nat → Int64) : Nat → (Nat → Int64) × (Nat → Int64)
  | 0 => (w, S)
  | t + 1 => (oNs (hWs P (hStN fR P w S t).1 4 (64 * t) 16) 48, oAdd qFN (hStN fR P w S t).2 (oNm fR (oNs (hWs P (hStN fR P w S t).1 4 (64 * t) 16) 48) (wOf (hStN fR P w S t).2) 64))
def qNb (B n : Nat) : Nat := (n + B / 8 + B) / B
theorem rBo_N (n : Nat) : rBo 0 n = qNb 64 n := by unfold rBo qNb; rw [show rBl 0 = 64 from rfl]; omega
theorem rBo_W (kd n : Nat) (h : 1 ≤ kd) : rBo kd n = qNb 128 n := by unfold rBo qNb rBl; rw [if_neg (by omega)]; omega
abbrev hE0 (fR fs fw S : Nat → Int64) (f : Nat → Int8) (fo n : Nat) : (Nat → Int64) × (Nat → Int64) := hStN fR (fun i9 => qPd f fo n i9 (qNb 64 n * 64)) fw (hS0 fs S 8) (qNb 64 n)
abbrev hE1 (fR fs fw S : Nat → Int64) (f : Nat → Int8) (fo n : Nat) : (Nat → Int64) × (Nat → Int64) := hStW fR (fun i9 => qPd f fo n i9 (qNb 128 n * 128)) fw (hS0 (fun n9 => fs (8 + n9)) S 8) (qNb 128 n)
abbrev hE2 (fR fs fw S : Nat → Int64) (f : Nat → Int8) (fo n : Nat) : (Nat → Int64) × (Nat → Int64) := hStW fR (fun i9 => qPd f fo n i9 (qNb 128 n * 128)) fw (hS0 (fun n9 => fs (16 + n9)) S 8) (qNb 128 n)
theorem b255 (x : Int32) : x.toInt8.toInt32 &&& 255 = x &&& 255 := by
  apply Int32.toBitVec_inj.mp
  simp only [Int32.toBitVec_and, Int8.toBitVec_toInt32, Int32.toBitVec_toInt8]
  ext i hi
  rw [BitVec.getElem_and, BitVec.getElem_and]
  by_cases h : i < 8
  · rw [BitVec.getElem_signExtend, dif_pos h, BitVec.getElem_signExtend, dif_pos (by omega)]
  · have : (255 : Int32).toBitVec[i] = false := by
      rw [BitVec.getElem_eq_testBit_toNat]
      exact Nat.testBit_lt_two_pow (by show 255 < 2 ^ i; exact Nat.lt_of_lt_of_le (by decide) (Nat.pow_le_pow_right (by decide) (show 8 ≤ i by omega)))
    rw [this, Bool.and_false, Bool.and_false]
theorem qPd_eq {f : Nat → Int8} {fo n al i : Nat} (hn : n < 2 ^ 31) : qPd f fo n i al = (padT al (fun j => f (fo + j)) n i).toInt32 &&& 255 := by
  unfold qPd padT
  by_cases h1 : i < n
  · rw [if_pos h1, if_pos h1]
  rw [if_neg h1, if_neg h1]
  by_cases h2 : i = n
  · rw [if_pos h2, if_pos h2]; rfl
  rw [if_neg h2, if_neg h2]
  by_cases h3 : i < al - 8
  · rw [if_pos h3, if_pos h3]; rfl
  rw [if_neg h3, if_neg h3, b255, nI_l hn]
theorem hWdW {T : Nat → Int8} {P : Nat → Int32} (hP : ∀ i, P i = (T i).toInt32 &&& 255) (w : Nat → Int64) (a0 q : Nat) : ∀ i, hWd P w 8 a0 q i q = wWd (fun j => T (a0 + j)) q i
  | 0 => pk_uLs
  | i + 1 => by
    show vp_updL _ q _ q = _
    rw [pk_uLs, hWdW hP w a0 q i, hP, Nat.add_assoc]; rfl
theorem hWdN {T : Nat → Int8} {P : Nat → Int32} (w : Nat → Int64) (a0 q sz : Nat) : ∀ i t, t ≠ q → hWd P w sz a0 q i t = w t
  | 0, t, h => pk_uLn h
  | i + 1, t, h => by
    show vp_updL _ q _ t = _
    rw [pk_uLn h]; exact hWdN (T := T) w a0 q sz i t h
theorem hWsW {T : Nat → Int8} {P : Nat → Int32} (hP : ∀ i, P i = (T i).toInt32 &&& 255) (w : Nat → Int64) (a0 : Nat) : ∀ n t, t < n → hWs P w 8 a0 n t = wWd (fun j => T (a0 + j)) t 8
  | 0, t, h => by omega
  | n + 1, t, h => by
    show hWd P (hWs P w 8 a0 n) 8 a0 n 8 t = _
    by_cases e : t = n
    · rw [e]; exact hWdW hP _ a0 n 8
    · rw [hWdN (T := T) _ a0 n 8 8 t e]; exact hWsW hP w a0 n t (by omega)
theorem oWs_eq {f g : Nat → Int64} (h : ∀ t, t < 16 → f t = g t) : ∀ i t, t < 16 + i → oWs f i t = wSb g i t
  | 0, t, ht => h t (by omega)
  | i + 1, t, ht => by
    show vp_updL (oWs f i) (16 + i) _ t = vp_updL (wSb g i) (16 + i) _ t
    by_cases e : t = 16 + i
    · rw [e, pk_uLs, pk_uLs, oWs_eq h i (16 + i - 2) (by omega), oWs_eq h i (16 + i - 7) (by omega), oWs_eq h i (16 + i - 15) (by omega), oWs_eq h i (16 + i - 16) (by omega)]
      show ((wSb g i (16 + i - 16) + wL0 (wSb g i (16 + i - 15))) + wSb g i (16 + i - 7)) + wL1 (wSb g i (16 + i - 2)) = _
      ac_rfl
    · rw [pk_uLn e, pk_uLn e]; exact oWs_eq h i t (by omega)
theorem oWm_eq {K K' w w' : Nat → Int64} {s : T8 Int64} : ∀ n, (∀ t, t < n → K t = K' t) → (∀ t, t < n → w t = w' t) → oWm K w s n = wMx K' w' s n
  | 0, _, _ => rfl
  | n + 1, h1, h2 => by
    show oWr (K n) (w n) (oWm K w s n) = wRd (K' n) (w' n) (wMx K' w' s n)
    rw [oWm_eq n (fun t ht => h1 t (by omega)) (fun t ht => h2 t (by omega)), h1 n (by omega), h2 n (by omega)]
    rfl
def eq8 (x y : Nat → Int64) : Prop := ∀ j, j < 8 → x j = y j
theorem wOf_c {x y : Nat → Int64} (h : eq8 x y) : wOf x = wOf y := by
  unfold wOf
  rw [h 0 (by omega), h 1 (by omega), h 2 (by omega), h 3 (by omega), h 4 (by omega), h 5 (by omega), h 6 (by omega), h 7 (by omega)]
theorem oAddW {x y : Nat → Int64} {a : T8 Int64} (h : eq8 x y) : eq8 (oAdd qFW x a) (add8 y a) := fun j hj => by
  match j, hj with
  | 0, _ => show x 0 + _ = y 0 + _; rw [h 0 (by omega)]
  | 1, _ => show x 1 + _ = y 1 + _; rw [h 1 (by omega)]
  | 2, _ => show x 2 + _ = y 2 + _; rw [h 2 (by omega)]
  | 3, _ => show x 3 + _ = y 3 + _; rw [h 3 (by omega)]
  | 4, _ => show x 4 + _ = y 4 + _; rw [h 4 (by omega)]
  | 5, _ => show x 5 + _ = y 5 + _; rw [h 5 (by omega)]
  | 6, _ => show x 6 + _ = y 6 + _; rw [h 6 (by omega)]
  | 7, _ => show x 7 + _ = y 7 + _; rw [h 7 (by omega)]
  | j + 8, hj => omega
theorem hStW_eq {fR : Nat → Int64} {T : Nat → Int8} {P : Nat → Int32} (hR : ∀ t, t < 80 → fR t = kW t) (hP : ∀ i, P i = (T i).toInt32 &&& 255) {w S S' : Nat → Int64} (h : eq8 S S') : ∀ t, eq8 (hStW fR P w S t).2 (stAt cmpW T 128 S' t)
  | 0 => h
  | t + 1 => by
    have ih := hStW_eq hR hP (w := w) h t
    show eq8 (oAdd qFW (hStW fR P w S t).2 (oWm fR (oWs (hWs P (hStW fR P w S t).1 8 (128 * t) 16) 64) (wOf (hStW fR P w S t).2) 80)) (cmpW (stAt cmpW T 128 S' t) (blkAt T 128 t))
    rw [wOf_c ih, oWm_eq (K' := kW) (w' := wSched (fun _ => 0) (blkAt T 128 t)) 80 hR (fun i hi => oWs_eq (fun i hi => by rw [hWsW hP _ _ 16 i hi, wSa_in _ _ 16 i hi]; rfl) 64 i (by omega))]
    exact oAddW ih
theorem hS0_in (g S : Nat → Int64) : ∀ n j, j < n → hS0 g S n j = g j
  | 0, j, h => by omega
  | n + 1, j, h => by
    show vp_updL _ n _ j = _
    by_cases e : j = n
    · rw [e, pk_uLs]
    · rw [pk_uLn e]; exact hS0_in g S n j (by omega)
theorem hOut_in (S : Nat → Int64) (sz : Nat) (fo : Nat → Int8) : ∀ n j, j < n → hOut S sz fo n j = hBy S sz j
  | 0, j, h => by omega
  | n + 1, j, h => by
    show va_up _ n _ j = _
    by_cases e : j = n
    · rw [e, va_up_self]; rfl
    · rw [va_up_ne _ _ e]; exact hOut_in S sz fo n j (by omega)
theorem hBy_8 {S S' : Nat → Int64} (h : eq8 S S') {j : Nat} (hj : j < 64) : hBy S 8 j = hBy S' 8 j := by
  unfold hBy
  rw [h (j / 8) (by omega)]
theorem nbW (n : Nat) : qNb 128 n = nb 128 8 n := by unfold qNb nb; omega
theorem nbN (n : Nat) : qNb 64 n = nb 64 4 n := by unfold qNb nb; omega
theorem hE1_ok {fR fs fw S : Nat → Int64} {f fo0 : Nat → Int8} {fo n : Nat} (hn : n < 2 ^ 31) (hR : ∀ t, t < 80 → fR t = kW t) (hs : ∀ j, j < 8 → fs (8 + j) = iT 1 j) : ∀ j, j < 48 → hOut (hE1 fR fs fw S f fo n).2 8 fo0 48 j = hBy (hF 128 8 cmpW (iT 1) (fun i => f (fo + i)) n) 8 j := fun j hj => by
  rw [hOut_in _ _ _ 48 j hj]
  refine hBy_8 ?_ (by omega)
  unfold hF
  rw [← nbW, Nat.mul_comm 128]
  exact hStW_eq hR (fun i => qPd_eq hn) (fun j hj => by rw [hS0_in _ _ 8 j hj]; exact hs j hj) _
theorem hE2_ok {fR fs fw S : Nat → Int64} {f fo0 : Nat → Int8} {fo n : Nat} (hn : n < 2 ^ 31) (hR : ∀ t, t < 80 → fR t = kW t) (hs : ∀ j, j < 8 → fs (16 + j) = iT 2 j) : ∀ j, j < 64 → hOut (hE2 fR fs fw S f fo n).2 8 fo0 64 j = hBy (hF 128 8 cmpW (iT 2) (fun i => f (fo + i)) n) 8 j := fun j hj => by
  rw [hOut_in _ _ _ 64 j hj]
  refine hBy_8 ?_ (by omega)
  unfold hF
  rw [← nbW, Nat.mul_comm 128]
  exact hStW_eq hR (fun i => qPd_eq hn) (fun j hj => by rw [hS0_in _ _ 8 j hj]; exact hs j hj) _
/-! narrow words in longs -/
def mk32 (x : Int64) : Prop := x &&& 4294967295 = x
theorem am64u : ∀ n, n < 64 → ((nI n).toInt64.toUInt64 &&& Int64.toUInt64 63).toBitVec.toNat % 64 = n := by decide +kernel
theorem am64l : ∀ n, n < 64 → (((nI n).toInt64 &&& 63).toBitVec.smod 64).toNat = n := by decide +kernel
theorem am32u : ∀ n, n < 32 → ((nI n).toUInt32 &&& Int32.toUInt32 31).toBitVec.toNat % 32 = n := by decide +kernel
theorem am32l : ∀ n, n < 32 → (((nI n) &&& 31).toBitVec.smod 32).toNat = n := by decide +kernel
theorem lu_bv (x : Int64) {n : Nat} (h : n < 64) : (lu x (nI n)).toBitVec = x.toBitVec >>> n := by
  have e := am64u n h
  unfold lu
  show (x.toUInt64 >>> _).toBitVec = _
  rw [UInt64.toBitVec_shiftRight, BitVec.ushiftRight_eq']
  rw [BitVec.toNat_umod]
  show x.toBitVec >>> (_ % 64) = _
  rw [e]
theorem ll_bv (x : Int64) {n : Nat} (h : n < 64) : (ll x (nI n)).toBitVec = x.toBitVec <<< n := by
  have e := am64l n h
  unfold ll
  rw [Int64.toBitVec_shiftLeft, BitVec.shiftLeft_eq']
  rw [e]
theorem iu_bv (x : Int32) {n : Nat} (h : n < 32) : (iu x (nI n)).toBitVec = x.toBitVec >>> n := by
  have e := am32u n h
  unfold iu
  show (x.toUInt32 >>> _).toBitVec = _
  rw [UInt32.toBitVec_shiftRight, BitVec.ushiftRight_eq']
  rw [BitVec.toNat_umod]
  show x.toBitVec >>> (_ % 32) = _
  rw [e]
theorem il_bv (x : Int32) {n : Nat} (h : n < 32) : (il x (nI n)).toBitVec = x.toBitVec <<< n := by
  have e := am32l n h
  unfold il
  rw [Int32.toBitVec_shiftLeft, BitVec.shiftLeft_eq']
  rw [e]
theorem lo_bv (x : Int64) (i : Nat) (hi : i < 32) : x.toInt32.toBitVec.getLsbD i = x.toBitVec.getLsbD i := by
  rw [Int64.toBitVec_toInt32, BitVec.getLsbD_signExtend]
  simp [hi, show i < 64 by omega]
theorem msk_bit (i : Nat) : (4294967295 : Int64).toBitVec.getLsbD i = decide (i < 32) := by
  show (BitVec.ofNat 64 4294967295).getLsbD i = _
  rw [BitVec.getLsbD_ofNat]
  by_cases h : i < 32
  · have : (2 ^ 32 - 1).testBit i = decide (i < 32) := Nat.testBit_two_pow_sub_one 32 i
    rw [show (4294967295 : Nat) = 2 ^ 32 - 1 from rfl, this]; simp [h]; omega
  · have : (2 ^ 32 - 1).testBit i = decide (i < 32) := Nat.testBit_two_pow_sub_one 32 i
    rw [show (4294967295 : Nat) = 2 ^ 32 - 1 from rfl, this]; simp [h]
theorem mk32_hi {x : Int64} (h : mk32 x) {i : Nat} (hi : ¬ i < 32) : x.toBitVec.getLsbD i = false := by
  have e : (x &&& 4294967295).toBitVec.getLsbD i = x.toBitVec.getLsbD i := by rw [h]
  rw [Int64.toBitVec_and, BitVec.getLsbD_and, msk_bit] at e
  rw [← e]; simp [hi]
theorem qFN_mk (x : Int64) : mk32 (x &&& 4294967295) := by
  unfold mk32
  rw [Int64.and_assoc, Int64.and_self]
theorem qFN_lo (x : Int64) : (x &&& 4294967295).toInt32 = x.toInt32 := by
  apply Int32.toBitVec_inj.mp
  apply BitVec.eq_of_getLsbD_eq
  intro i hi
  rw [lo_bv _ i hi, lo_bv _ i hi, Int64.toBitVec_and, BitVec.getLsbD_and, msk_bit]; simp [hi]
theorem lu_lo {x : Int64} (h : mk32 x) {n : Nat} (hn : n < 32) : (lu x (nI n)).toInt32 = iu x.toInt32 (nI n) := by
  apply Int32.toBitVec_inj.mp
  apply BitVec.eq_of_getLsbD_eq
  intro i hi
  rw [lo_bv _ i hi, lu_bv x (by omega), iu_bv _ hn, BitVec.getLsbD_ushiftRight, BitVec.getLsbD_ushiftRight]
  by_cases q : n + i < 32
  · rw [lo_bv _ _ q]
  · rw [mk32_hi h q, BitVec.getLsbD_of_ge _ _ (by omega)]
theorem ll_lo (x : Int64) {n : Nat} (hn : n < 32) : (ll x (nI n)).toInt32 = il x.toInt32 (nI n) := by
  apply Int32.toBitVec_inj.mp
  apply BitVec.eq_of_getLsbD_eq
  intro i hi
  rw [lo_bv _ i hi, ll_bv x (by omega), il_bv _ hn, BitVec.getLsbD_shiftLeft, BitVec.getLsbD_shiftLeft]
  rw [lo_bv _ (i - n) (by omega)]
  simp [hi, show i < 64 by omega]
theorem qTN_lo {x : Int64} (h : mk32 x) {n : Nat} (hn : n < 32) (h0 : 0 < n) : (qTN x n).toInt32 = iu x.toInt32 (nI n) ||| il x.toInt32 (nI (32 - n)) := by
  unfold qTN
  rw [qFN_lo, Int64.toInt32_or, lu_lo h hn, ll_lo x (by omega)]
/-- a byte of a word, from its low half alone -/
theorem lu_by {x y : Int64} (h : x.toInt32 = y.toInt32) {n : Nat} (hn : n ≤ 24) : (lu x (nI n)).toInt32.toInt8 = (lu y (nI n)).toInt32.toInt8 := by
  apply Int8.toBitVec_inj.mp
  apply BitVec.eq_of_getLsbD_eq
  intro i hi
  have k : ∀ z : Int64, (lu z (nI n)).toInt32.toInt8.toBitVec.getLsbD i = z.toInt32.toBitVec.getLsbD (n + i) := fun z => by
    rw [Int32.toBitVec_toInt8, BitVec.getLsbD_signExtend, lo_bv _ (n + i) (by omega)]
    simp only [hi, decide_true, Bool.true_and, show i < 32 by omega, if_true]
    rw [lo_bv _ i (by omega), lu_bv z (by omega), BitVec.getLsbD_ushiftRight]
  rw [k, k, h]
theorem kN_hi : ∀ t, t < 64 → (lu (kW t) 32).toInt32 = kN t := by decide +kernel
theorem and_mk {x y : Int64} (h : mk32 x) : mk32 (x &&& y) := by
  unfold mk32 at *
  rw [Int64.and_assoc, Int64.and_comm y, ← Int64.and_assoc, h]
def lo8 (s : T8 Int64) : T8 Int32 := (s.1.toInt32, s.2.1.toInt32, s.2.2.1.toInt32, s.2.2.2.1.toInt32, s.2.2.2.2.1.toInt32, s.2.2.2.2.2.1.toInt32, s.2.2.2.2.2.2.1.toInt32, s.2.2.2.2.2.2.2.toInt32)
def mk8 (s : T8 Int64) : Prop := mk32 s.1 ∧ mk32 s.2.1 ∧ mk32 s.2.2.1 ∧ mk32 s.2.2.2.1 ∧ mk32 s.2.2.2.2.1 ∧ mk32 s.2.2.2.2.2.1 ∧ mk32 s.2.2.2.2.2.2.1 ∧ mk32 s.2.2.2.2.2.2.2
theorem qB0 {x : Int64} (h : mk32 x) : (qMN x 2 13 22).toInt32 = nB0 x.toInt32 := by
  unfold qMN
  rw [Int64.toInt32_xor, Int64.toInt32_xor, qTN_lo h (by decide) (by decide), qTN_lo h (by decide) (by decide), qTN_lo h (by decide) (by decide)]; rfl
theorem qB1 {x : Int64} (h : mk32 x) : (qMN x 6 11 25).toInt32 = nB1 x.toInt32 := by
  unfold qMN
  rw [Int64.toInt32_xor, Int64.toInt32_xor, qTN_lo h (by decide) (by decide), qTN_lo h (by decide) (by decide), qTN_lo h (by decide) (by decide)]; rfl
theorem qL0 {x : Int64} (h : mk32 x) : (qSN x 7 18 3).toInt32 = nL0 x.toInt32 := by
  unfold qSN
  rw [Int64.toInt32_xor, Int64.toInt32_xor, qTN_lo h (by decide) (by decide), qTN_lo h (by decide) (by decide), lu_lo h (by decide)]; rfl
theorem qL1 {x : Int64} (h : mk32 x) : (qSN x 17 19 10).toInt32 = nL1 x.toInt32 := by
  unfold qSN
  rw [Int64.toInt32_xor, Int64.toInt32_xor, qTN_lo h (by decide) (by decide), qTN_lo h (by decide) (by decide), lu_lo h (by decide)]; rfl
theorem oNr_eq {K w : Int64} {s : T8 Int64} (h : mk8 s) : lo8 (oNr K w s) = nRd (lu K 32).toInt32 w.toInt32 (lo8 s) ∧ mk8 (oNr K w s) := by
  obtain ⟨h1, h2, h3, h4, h5, h6, h7, h8⟩ := h
  refine ⟨?_, qFN_mk _, h1, h2, h3, qFN_mk _, h5, h6, h7⟩
  have m1 : (-1 : Int64).toInt32 = -1 := by decide
  unfold lo8 oNr nRd
  simp only [qFN, qFN_lo]
  simp only [Int64.toInt32_add, Int64.toInt32_and, Int64.toInt32_xor, qB0 h1, qB1 h5, m1]
theorem oNm_eq {K w : Nat → Int64} {K' w' : Nat → Int32} {s : T8 Int64} (h : mk8 s) : ∀ n, (∀ t, t < n → (lu (K t) 32).toInt32 = K' t) → (∀ t, t < n → (w t).toInt32 = w' t) → lo8 (oNm K w s n) = nMx K' w' (lo8 s) n ∧ mk8 (oNm K w s n)
  | 0, _, _ => ⟨rfl, h⟩
  | n + 1, h1, h2 => by
    obtain ⟨i1, i2⟩ := oNm_eq h n (fun t ht => h1 t (by omega)) (fun t ht => h2 t (by omega))
    obtain ⟨j1, j2⟩ := oNr_eq (K := K n) (w := w n) i2
    refine ⟨?_, j2⟩
    show lo8 (oNr (K n) (w n) (oNm K w s n)) = nRd (K' n) (w' n) (nMx K' w' (lo8 s) n)
    rw [j1, i1, h1 n (by omega), h2 n (by omega)]
/-- narrow words against longs that hold them -/
def mN (x : Int64) (y : Int32) : Prop := x.toInt32 = y ∧ mk32 x
theorem oNs_eq {f : Nat → Int64} {g : Nat → Int32} (h : ∀ t, t < 16 → mN (f t) (g t)) : ∀ i t, t < 16 + i → mN (oNs f i t) (nSb g i t)
  | 0, t, ht => h t (by omega)
  | i + 1, t, ht => by
    show mN (vp_updL (oNs f i) (16 + i) _ t) (upd (nSb g i) (16 + i) _ t)
    by_cases e : t = 16 + i
    · rw [e, pk_uLs, pk_us]
      refine ⟨?_, qFN_mk _⟩
      have a := oNs_eq h i (16 + i - 2) (by omega)
      have b := oNs_eq h i (16 + i - 7) (by omega)
      have c := oNs_eq h i (16 + i - 15) (by omega)
      have d := oNs_eq h i (16 + i - 16) (by omega)
      rw [qFN, qFN_lo, Int64.toInt32_add, Int64.toInt32_add, Int64.toInt32_add, qL0 c.2, qL1 a.2, a.1, b.1, c.1, d.1]
      ac_rfl
    · rw [pk_uLn e, pk_un e]; exact oNs_eq h i t (by omega)
theorem u8_bit (z : Int8) {i : Nat} (hi : 8 ≤ i) : (z.toInt32 &&& 255).toBitVec.getLsbD i = false := by
  rw [Int32.toBitVec_and, BitVec.getLsbD_and]
  have : (255 : Int32).toBitVec.getLsbD i = false := Nat.testBit_lt_two_pow (by show 255 < 2 ^ i; exact Nat.lt_of_lt_of_le (by decide) (Nat.pow_le_pow_right (by decide) hi))
  rw [this, Bool.and_false]
theorem u8_l (z : Int8) {i : Nat} (hi : 8 ≤ i) : (z.toInt32 &&& 255).toInt64.toBitVec.getLsbD i = false := by
  rw [Int32.toBitVec_toInt64, BitVec.getLsbD_signExtend]
  have m : (z.toInt32 &&& 255).toBitVec.msb = false := by rw [BitVec.msb_eq_getLsbD_last]; exact u8_bit z (by decide)
  rw [m]
  by_cases q : i < 32
  · rw [if_pos q, u8_bit z hi, Bool.and_false]
  · rw [if_neg q, Bool.and_false]
/-- a word's value stays below what it has taken -/
theorem hWdNn {T : Nat → Int8} {P : Nat → Int32} (hP : ∀ i, P i = (T i).toInt32 &&& 255) (w : Nat → Int64) (a0 q : Nat) : ∀ i, i ≤ 4 → (hWd P w 4 a0 q i q).toInt32 = nWd (fun j => T (a0 + j)) q i ∧ ∀ b, 8 * i ≤ b → (hWd P w 4 a0 q i q).toBitVec.getLsbD b = false
  | 0, _ => by
    show (vp_updL w q 0 q).toInt32 = 0 ∧ _
    refine ⟨by rw [pk_uLs]; rfl, fun b _ => ?_⟩
    show (vp_updL w q 0 q).toBitVec.getLsbD b = false
    rw [pk_uLs]; exact BitVec.getLsbD_zero
  | i + 1, hi => by
    obtain ⟨i1, i2⟩ := hWdNn hP w a0 q i (by omega)
    have e : hWd P w 4 a0 q (i + 1) q = ll (hWd P w 4 a0 q i q) 8 ||| ((T (a0 + (4 * q + i))).toInt32 &&& 255).toInt64 := by
      show vp_updL _ q _ q = _
      rw [pk_uLs, hP, Nat.add_assoc]
    rw [e]
    refine ⟨?_, fun b hb => ?_⟩
    · rw [Int64.toInt32_or, show (8 : Int32) = nI 8 from rfl, ll_lo _ (by decide), i1]
      show _ = il _ 8 ||| ((T (a0 + (4 * q + i))).toInt32 &&& 255)
      rw [Int32.toInt32_toInt64]; rfl
    · rw [Int64.toBitVec_or, BitVec.getLsbD_or, u8_l _ (by omega), Bool.or_false, show (8 : Int32) = nI 8 from rfl, ll_bv _ (by decide), BitVec.getLsbD_shiftLeft, i2 (b - 8) (by omega), Bool.and_false]
theorem mk32_of {x : Int64} (h : ∀ b, 32 ≤ b → x.toBitVec.getLsbD b = false) : mk32 x := by
  apply Int64.toBitVec_inj.mp
  apply BitVec.eq_of_getLsbD_eq
  intro i hi
  rw [Int64.toBitVec_and, BitVec.getLsbD_and, msk_bit]
  by_cases q : i < 32
  · simp [q]
  · rw [h i (by omega), Bool.false_and]
theorem hWsN {T : Nat → Int8} {P : Nat → Int32} (hP : ∀ i, P i = (T i).toInt32 &&& 255) (w : Nat → Int64) (a0 : Nat) : ∀ n t, t < n → mN (hWs P w 4 a0 n t) (nWd (fun j => T (a0 + j)) t 4)
  | 0, t, h => by omega
  | n + 1, t, h => by
    show mN (hWd P (hWs P w 4 a0 n) 4 a0 n 4 t) _
    by_cases e : t = n
    · rw [e]
      obtain ⟨h1, h2⟩ := hWdNn hP (hWs P w 4 a0 n) a0 n 4 (by omega)
      exact ⟨h1, mk32_of h2⟩
    · rw [hWdN (T := T) _ a0 n 4 4 t e]; exact hWsN hP w a0 n t (by omega)
/-- eight longs that hold the low halves of eight others -/
def mq8 (x y : Nat → Int64) : Prop := ∀ j, j < 8 → mN (x j) (y j).toInt32
theorem nOf_c {x y : Nat → Int64} (h : mq8 x y) : lo8 (wOf x) = nOf y ∧ mk8 (wOf x) := by
  refine ⟨?_, (h 0 (by omega)).2, (h 1 (by omega)).2, (h 2 (by omega)).2, (h 3 (by omega)).2, (h 4 (by omega)).2, (h 5 (by omega)).2, (h 6 (by omega)).2, (h 7 (by omega)).2⟩
  unfold lo8 wOf nOf
  rw [← (h 0 (by omega)).1, ← (h 1 (by omega)).1, ← (h 2 (by omega)).1, ← (h 3 (by omega)).1, ← (h 4 (by omega)).1, ← (h 5 (by omega)).1, ← (h 6 (by omega)).1, ← (h 7 (by omega)).1]
theorem oA1 {x y a : Int64} {b : Int32} (h : mN x y.toInt32) (e : a.toInt32 = b) : mN (qFN (x + a)) (y + b.toInt64).toInt32 :=
  ⟨by rw [qFN, qFN_lo, Int64.toInt32_add, Int64.toInt32_add, h.1, e, Int32.toInt32_toInt64], qFN_mk _⟩
theorem oAddN {x y : Nat → Int64} {a : T8 Int64} {b : T8 Int32} (h : mq8 x y) (e : lo8 a = b) : mq8 (oAdd qFN x a) (add8 y (lg8 b)) := fun j hj => by
  subst e
  match j, hj with
  | 0, _ => exact oA1 (h 0 (by omega)) rfl
  | 1, _ => exact oA1 (h 1 (by omega)) rfl
  | 2, _ => exact oA1 (h 2 (by omega)) rfl
  | 3, _ => exact oA1 (h 3 (by omega)) rfl
  | 4, _ => exact oA1 (h 4 (by omega)) rfl
  | 5, _ => exact oA1 (h 5 (by omega)) rfl
  | 6, _ => exact oA1 (h 6 (by omega)) rfl
  | 7, _ => exact oA1 (h 7 (by omega)) rfl
  | j + 8, hj => omega
theorem hStN_eq {fR : Nat → Int64} {T : Nat → Int8} {P : Nat → Int32} (hR : ∀ t, t < 80 → fR t = kW t) (hP : ∀ i, P i = (T i).toInt32 &&& 255) {w S S' : Nat → Int64} (h : mq8 S S') : ∀ t, mq8 (hStN fR P w S t).2 (stAt cmpN T 64 S' t)
  | 0 => h
  | t + 1 => by
    have ih := hStN_eq hR hP (w := w) h t
    show mq8 (oAdd qFN (hStN fR P w S t).2 (oNm fR (oNs (hWs P (hStN fR P w S t).1 4 (64 * t) 16) 48) (wOf (hStN fR P w S t).2) 64)) (cmpN (stAt cmpN T 64 S' t) (blkAt T 64 t))
    obtain ⟨q1, q2⟩ := nOf_c ih
    refine oAddN ih ?_
    rw [← q1]
    exact (oNm_eq q2 64 (fun i hi => by rw [hR i (by omega)]; exact kN_hi i hi) (fun i hi => (oNs_eq (fun i hi => by rw [nSa_in _ _ 16 i hi]; exact hWsN hP _ _ 16 i hi) 48 i (by omega)).1)).1
theorem i256_mk : ∀ j, j < 8 → mN (i256 j) (i256 j).toInt32 := by
  have : ∀ j, j < 8 → (i256 j &&& 4294967295) = i256 j := by decide +kernel
  exact fun j hj => ⟨rfl, this j hj⟩
theorem hE0_ok {fR fs fw S : Nat → Int64} {f fo0 : Nat → Int8} {fo n : Nat} (hn : n < 2 ^ 31) (hR : ∀ t, t < 80 → fR t = kW t) (hs : ∀ j, j < 8 → fs (0 + j) = iT 0 j) : ∀ j, j < 32 → hOut (hE0 fR fs fw S f fo n).2 4 fo0 32 j = hBy (hF 64 4 cmpN (iT 0) (fun i => f (fo + i)) n) 4 j := fun j hj => by
  rw [hOut_in _ _ _ 32 j hj]
  unfold hF
  rw [← nbN, Nat.mul_comm 64]
  have q := hStN_eq (w := fw) hR (fun i => qPd_eq (f := f) (fo := fo) (al := qNb 64 n * 64) (i := i) hn) (S := hS0 fs S 8) (S' := iT 0) (fun j hj => by rw [hS0_in _ _ 8 j hj, show fs j = iT 0 j from by have := hs j hj; rwa [Nat.zero_add] at this]; exact i256_mk j hj) (qNb 64 n)
  unfold hBy
  exact lu_by (q (j / 4) (by omega)).1 (by omega)
