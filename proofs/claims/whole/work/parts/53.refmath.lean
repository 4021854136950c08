/-! THE REFERENCE: rows copied, counts of blocks, keyed texts -/
def hZ (fp : Nat → Int8) : Nat → Nat → Int8
  | 0 => fp
  | n + 1 => va_up (hZ fp n) n 0
def hX (fp fW : Nat → Int8) (c : Int32) : Nat → Nat → Int8
  | 0 => fW
  | n + 1 => va_up (hX fp fW c n) n (((fp n).toInt32 ^^^ c).toInt8)
def bQ (g f : Nat → Int32) (kd c : Nat) : Prop := g kd = f kd + nI c ∧ ∀ j, j ≠ kd → g j = f j
theorem bQ_0 (f : Nat → Int32) (kd : Nat) : bQ f f kd 0 := ⟨by rw [nI_0]; simp, fun _ _ => rfl⟩
theorem bQ_add {f g h : Nat → Int32} {kd a b : Nat} (h1 : bQ g f kd a) (h2 : bQ h g kd b) : bQ h f kd (a + b) := ⟨by rw [h2.1, h1.1, Int32.add_assoc, nI_add], fun j hj => by rw [h2.2 j hj, h1.2 j hj]⟩
theorem bQ_u (f : Nat → Int32) (kd c : Nat) : bQ (upd f kd (f kd + nI c)) f kd c := ⟨pk_us, fun _ hj => pk_un hj⟩
theorem bQ_c {g f : Nat → Int32} {kd a b : Nat} (h : bQ g f kd a) (e : a = b) : bQ g f kd b := e ▸ h
theorem rcp_in {src dst : Nat → Int8} {n j : Nat} (h : j < n) : rcp src dst 0 0 n j = src j := by rw [rcp_eq]; exact cpy_all src dst n j h
theorem rcp_out {src dst : Nat → Int8} {so d n j : Nat} (h : j < d ∨ d + n ≤ j) : rcp src dst so d n j = dst j := by rw [rcp_eq]; exact pk_cpy_out h
theorem rcq_in {src dst : Nat → Int8} {d n j : Nat} (h : j < n) : rcq src dst d n (d + j) = src j := by
  rw [rcq_eq, rcp_eq, pk_cpy_in (by omega) (by omega)]; congr 1; omega
theorem rcq_out {src dst : Nat → Int8} {d n j : Nat} (h : j < d ∨ d + n ≤ j) : rcq src dst d n j = dst j := by rw [rcq_eq]; exact rcp_out h
theorem hZ_in (fp : Nat → Int8) : ∀ n j, j < n → hZ fp n j = 0
  | 0, j, h => by omega
  | n + 1, j, h => by
    show va_up _ n _ j = _
    by_cases e : j = n
    · rw [e, va_up_self]
    · rw [va_up_ne _ _ e]; exact hZ_in fp n j (by omega)
theorem hX_eq (fp fW : Nat → Int8) (c : Int32) : ∀ n j, hX fp fW c n j = if j < n then ((fp j).toInt32 ^^^ c).toInt8 else fW j
  | 0, j => by rw [if_neg (by omega)]; rfl
  | n + 1, j => by
    show va_up _ n _ j = _
    by_cases e : j = n
    · rw [e, va_up_self, if_pos (by omega)]
    · rw [va_up_ne _ _ e, hX_eq fp fW c n j]
      by_cases q : j < n
      · rw [if_pos q, if_pos (by omega)]
      · rw [if_neg q, if_neg (by omega)]
section KY
variable {B wb : Nat} {cmp : Cmp} {iv : Nat → Int64} {nh : Nat}
theorem kbA {fk fp fo : Nat → Int8} {nk : Nat} (hB : B < nk) (h : ∀ j, j < nh → fo j = hBy (hF B wb cmp iv (fun i => fk (0 + i)) nk) wb j) : ∀ j, j < B → rcp fo (hZ fp B) 0 0 nh j = kbF B wb cmp iv nh fk nk j := fun j hj => by
  unfold kbF
  rw [if_pos hB]
  by_cases q : j < nh
  · rw [rcp_in q, if_pos q, h j q]
    rw [hF_congr (T' := fk) (fun i _ => by rw [Nat.zero_add])]
  · rw [rcp_out (Or.inr (by omega)), if_neg q, hZ_in fp B j hj]
theorem kbB {fk fp : Nat → Int8} {nk : Nat} (hB : nk ≤ B) : ∀ j, j < B → rcp fk (hZ fp B) 0 0 nk j = kbF B wb cmp iv nh fk nk j := fun j hj => by
  unfold kbF
  rw [if_neg (by omega)]
  by_cases q : j < nk
  · rw [rcp_in q, if_pos q]
  · rw [rcp_out (Or.inr (by omega)), if_neg q, hZ_in fp B j hj]
theorem ky_eq {fp fW fl fo1 fo2 K T : Nat → Int8} {n : Nat} (hK : ∀ j, j < B → fp j = K j) (hT : ∀ j, j < n → fW (B + j) = T j)
    (h1 : ∀ j, j < nh → fo1 j = hBy (hF B wb cmp iv (fun i => hX fp fW 54 B (0 + i)) (B + n)) wb j)
    (h2 : ∀ j, j < nh → fo2 j = hBy (hF B wb cmp iv (fun i => rcq (rcp fo1 fl 0 0 nh) (hX fp (hX fp fW 54 B) 92 B) B nh (0 + i)) (B + nh)) wb j) :
    ∀ j, j < nh → fo2 j = hBy (hmS B wb cmp iv nh K T n) wb j := fun j hj => by
  rw [h2 j hj]
  unfold hmS
  congr 1
  refine hF_congr (fun i hi => ?_)
  show rcq _ _ B nh (0 + i) = catT B _ _ i
  rw [Nat.zero_add]
  unfold catT
  by_cases q : i < B
  · rw [rcq_out (Or.inl q), if_pos q, hX_eq, if_pos q, hK i q]; rfl
  · rw [if_neg q]
    obtain ⟨z, rfl⟩ : ∃ z, i = B + z := ⟨i - B, by omega⟩
    rw [rcq_in (by omega), Nat.add_sub_cancel_left, rcp_in (by omega), h1 z (by omega)]
    congr 1
    refine hF_congr (fun i hi => ?_)
    show hX _ _ _ _ (0 + i) = _
    rw [Nat.zero_add, hX_eq]
    by_cases q2 : i < B
    · rw [if_pos q2, if_pos q2, hK i q2]; rfl
    · rw [if_neg q2, if_neg q2]
      have := hT (i - B) (by omega)
      rwa [show B + (i - B) = i by omega] at this
theorem exT0 {ft fW : Nat → Int8} {nt : Nat} {x : Int8} : ∀ j, j < nt + 1 → va_up (rcq ft fW B nt) (B + nt) x (B + j) = catT nt ft (fun _ => x) j := fun j hj => by
  unfold catT
  by_cases q : j < nt
  · rw [va_up_ne _ _ (by omega), rcq_in q, if_pos q]
  · rw [show j = nt by omega, va_up_self, if_neg (by omega)]
theorem exTp {ft fo fW g : Nat → Int8} {nt : Nat} {x : Int8} (h : ∀ j, j < nh → fo j = g j) : ∀ j, j < nh + nt + 1 → va_up (rcq ft (rcq fo fW B nh) (B + nh) nt) (B + nh + nt) x (B + j) = catT nh g (catT nt ft (fun _ => x)) j := fun j hj => by
  unfold catT
  by_cases q : j < nh
  · rw [va_up_ne _ _ (by omega), rcq_out (Or.inl (by omega)), rcq_in q, if_pos q, h j q]
  · rw [if_neg q]
    obtain ⟨z, rfl⟩ : ∃ z, j = nh + z := ⟨j - nh, by omega⟩
    rw [Nat.add_sub_cancel_left]
    by_cases q2 : z < nt
    · rw [va_up_ne _ _ (by omega), show B + (nh + z) = B + nh + z by omega, rcq_in q2, if_pos q2]
    · rw [show B + (nh + z) = B + nh + nt by omega, va_up_self, if_neg q2]
theorem ex_put {fo fr : Nat → Int8} {i n m : Nat} {E : Nat → Nat → Int64} (hm : m = min nh (n - nh * i)) (h0 : ∀ q z, z < nh → q < i → nh * q + z < n → fr (nh * q + z) = hBy (E q) wb z) (h : ∀ j, j < nh → fo j = hBy (E i) wb j) : ∀ q z, z < nh → q < i + 1 → nh * q + z < n → rcq fo fr (nh * i) m (nh * q + z) = hBy (E q) wb z := fun q z hz hq hn => by
  by_cases e : q = i
  · subst e
    rw [rcq_in (by omega)]; exact h z hz
  · have h1 : nh * q + nh ≤ nh * i := by
      have := Nat.mul_le_mul_left nh (show q + 1 ≤ i by omega)
      rwa [Nat.mul_succ] at this
    rw [rcq_out (Or.inl (by omega))]
    exact h0 q z hz (by omega) hn
end KY
/-! the label, as the reference lays it -/
def sK (k i : Nat) : Nat := if i < k then 9 else 10
def rLb (ft : Nat → Int8) (k nt : Nat) : Nat → Nat → Int8
  | 0 => ft
  | q + 1 => va_up (rLb ft k nt q) (nt - 1 - q + sK k (nt - 1 - q)) (rLb ft k nt q (nt - 1 - q))
theorem sK_mono {k a b : Nat} (h : a < b) : a + sK k a < b + sK k b := by
  unfold sK
  by_cases q : a < k <;> by_cases q2 : b < k <;> simp [q, q2] <;> omega
theorem rLb_eq (ft : Nat → Int8) (k nt : Nat) : ∀ q, q ≤ nt → (∀ j, j < nt - q → rLb ft k nt q j = ft j) ∧ ∀ i, nt - q ≤ i → i < nt → rLb ft k nt q (i + sK k i) = ft i
  | 0, _ => ⟨fun _ _ => rfl, fun i h1 h2 => by omega⟩
  | q + 1, hq => by
    obtain ⟨a, b⟩ := rLb_eq ft k nt q (by omega)
    have h9 : 9 ≤ sK k (nt - 1 - q) := by unfold sK; split <;> omega
    refine ⟨fun j hj => ?_, fun i h1 h2 => ?_⟩
    · show va_up _ _ _ j = _
      rw [va_up_ne _ _ (by omega)]; exact a j (by omega)
    · show va_up _ _ _ _ = _
      by_cases e : i = nt - 1 - q
      · rw [e, va_up_self]; exact a _ (by omega)
      · rw [va_up_ne _ _ (by have := sK_mono (k := k) (show nt - 1 - q < i by omega); omega)]
        exact b i (by omega) h2
theorem rs_lo (x : Int32) {n : Nat} (h : n ≤ 24) : (x >>> (nI n &&& 31)).toInt8 = (iu x (nI n)).toInt8 := by
  have e : ∀ n, n < 32 → ((nI n &&& 31).toBitVec.smod 32).toNat = n := am32l
  apply Int8.toBitVec_inj.mp
  apply BitVec.eq_of_getLsbD_eq
  intro i hi
  have k : ∀ z : Int32, z.toInt8.toBitVec.getLsbD i = z.toBitVec.getLsbD i := fun z => by
    rw [Int32.toBitVec_toInt8, BitVec.getLsbD_signExtend]
    simp [hi, show i < 32 by omega]
  rw [k, k, iu_bv x (by omega), BitVec.getLsbD_ushiftRight, Int32.toBitVec_shiftRight, BitVec.getLsbD_sshiftRight', e n (by omega)]
  simp [show n + i < 32 by omega, show i < 32 by omega]
theorem lb_eq {ft g : Nat → Int8} {n k nt : Nat} {x0 x1 x2 x9 : Int8} (hk : k ≤ nt) (hg : g = va_up (va_up (va_up (va_up (va_up (va_up (va_up (va_up (va_up (va_up (rLb ft k nt nt) 0 x0) 1 x1) 2 x2) 3 116) 4 108) 5 115) 6 49) 7 51) 8 32) (9 + k) x9) (h0 : x0 = (iu (nI n) 8).toInt8) (h1 : x1 = (nI n).toInt8) (h2 : x2 = (nI (6 + k)).toInt8) (h9 : x9 = (nI (nt - k)).toInt8) : ∀ i, i < 10 + nt → g i = lbF n k nt ft i := fun i hi => by
  obtain ⟨-, b⟩ := rLb_eq ft k nt nt (Nat.le_refl _)
  subst hg
  unfold lbF
  by_cases a0 : i = 0
  · subst a0; rw [if_pos rfl, ← h0, va_up_ne _ _ (by omega)]; simp [va_up]
  rw [if_neg a0]
  by_cases a1 : i = 1
  · subst a1; rw [if_pos rfl, ← h1, va_up_ne _ _ (by omega)]; simp [va_up]
  rw [if_neg a1]
  by_cases a2 : i = 2
  · subst a2; rw [if_pos rfl, ← h2, va_up_ne _ _ (by omega)]; simp [va_up]
  rw [if_neg a2]
  by_cases a3 : i < 9
  · rw [if_pos a3, va_up_ne _ _ (by omega)]
    match i, a3 with
    | 3, _ => simp [va_up]; rfl
    | 4, _ => simp [va_up]; rfl
    | 5, _ => simp [va_up]; rfl
    | 6, _ => simp [va_up]; rfl
    | 7, _ => simp [va_up]; rfl
    | 8, _ => simp [va_up]; rfl
  rw [if_neg a3]
  by_cases a5 : i = 9 + k
  · rw [if_neg (by omega), if_pos a5, a5, va_up_self, h9]
  rw [va_up_ne _ _ a5, va_up_ne _ _ (by omega), va_up_ne _ _ (by omega), va_up_ne _ _ (by omega), va_up_ne _ _ (by omega), va_up_ne _ _ (by omega), va_up_ne _ _ (by omega), va_up_ne _ _ (by omega), va_up_ne _ _ (by omega), va_up_ne _ _ (by omega)]
  by_cases a4 : i < 9 + k
  · rw [if_pos a4]
    have q := b (i - 9) (by omega) (by omega)
    rw [show sK k (i - 9) = 9 from by unfold sK; rw [if_pos (by omega)], show i - 9 + 9 = i by omega] at q
    exact q
  · rw [if_neg a4, if_neg a5]
    have q := b (i - 10) (by omega) (by omega)
    rw [show sK k (i - 10) = 10 from by unfold sK; rw [if_neg (by omega)], show i - 10 + 10 = i by omega] at q
    exact q
theorem nI_dn {a : Nat} (h : 1 ≤ a) : nI (a - 1) = nI a - 1 := (pk_sub h).symm
theorem i_m1 (x : Int32) : x + Int32.ofInt (-1) = x - 1 := by rw [Int32.sub_eq_add_neg]; rfl
