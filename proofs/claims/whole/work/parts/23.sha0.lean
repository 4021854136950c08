/-! Arrays.fill; the methods of Sha on a narrow and on a wide object -/
def wSh_init : List Cond := .code ySh_init cSh_init 4 none :: GT
def wSh_becomeCopyOf : List Cond := .code ySh_becomeCopyOf cSh_becomeCopyOf 2 none :: GT
def wSh_begin : List Cond := .code ySh_begin cSh_begin 1 none :: GT
def wSh_close : List Cond := .code ySh_close cSh_close 3 none :: GT
def wSh_fillUpWithZeros : List Cond := .code ySh_fillUpWithZeros cSh_fillUpWithZeros 1 none :: GT
def wSh_goOverBlock : List Cond := .code ySh_goOverBlock cSh_goOverBlock 1 none :: GT
def wSh_resume : List Cond := .code ySh_resume cSh_resume 3 none :: GT
def wSh_take : List Cond := .code ySh_take cSh_take 5 none :: GT
def wSh_takeByte : List Cond := .code ySh_takeByte cSh_takeByte 2 none :: GT
def wSh_writeHash : List Cond := .code ySh_writeHash cSh_writeHash 5 none :: GT
def wSh_writeLengthInBits : List Cond := .code ySh_writeLengthInBits cSh_writeLengthInBits 4 none :: GT
set_option maxHeartbeats 600000 in
set_option maxRecDepth 100000 in
theorem c_rangeCheck (l : Launch) (D : va_G) (k : Nat → ClassId) (tb : Nat → Nat) (sz : Nat) (n lo hi : Nat) (h1 : lo ≤ hi) (h2 : hi ≤ n) (h3 : n < 2 ^ 31) : Met l yAr_rangeCheck wAr_rangeCheck ({ frames := 0, cells := 0, slots := 0, locals := 0 }) (cP D k tb [] sz [.int (nI n), .int (nI lo), .int (nI hi)]) (va_Qv (fun (u : Unit) => True) (fun (u : Unit) (t : State) => va_P D vwCl [] t.heap ∧ va_D (va_A [] sz) []) (va_A [] sz)) (0) (0) (va_A [] sz) := by
  refine Met.ofW (cc := cAr_rangeCheck) (maxL := 3) (ret := none) (by decide) rfl ?_
  intro p e s m args below meth c s₁ B hml hv
  obtain ⟨rfl, hsz, hP, hK, hD0, hG⟩ := hv
  have hx := B.exec
  have hb := B.bytes
  have hr := B.returns
  have hts : ∀ w ∈ GT, w.before _ s = true := fun w h => atoms_spec (ws := wAr_rangeCheck) B.pre w (List.mem_cons_of_mem _ h)
  have hown : s.vm.findClass R_Ar = some m.cls := findClass_of_methodNamed B.named
  have hlocks := B.notSynchronized
  subst hsz
  have hD := hD0.self (sz := s.heap.size)
  generalize hAe : va_A [] s.heap.size = A at hD hG ⊢
  have hA : ∀ q : Nat, s.heap.size ≤ q → A q := fun q h => by rw [← hAe]; exact Or.inr h
  have hl := lv_entry ([.int (nI n), .int (nI lo), .int (nI hi)]) (n := 3) (Nat.le_of_ble_eq_true rfl)
  rw [lg_entry_eq]
  generalize (lg_sl ([.int (nI n), .int (nI lo), .int (nI hi)]) ++ List.replicate (3 - (lg_sl ([.int (nI n), .int (nI lo), .int (nI hi)])).length) Slot.unset).toArray = ls at hl ⊢
  have hl : lv_has ls 3 [(0, .int (nI n)), (1, .int (nI lo)), (2, .int (nI hi))] := hl
  refine cw_start (A := A) hP (fun H locs hP hS => ?_)
  refine lv_iload_n hx hb dAr_rangeCheck_0 rfl (lv_at hl 1 rfl) ?_
  refine lv_iload_n hx hb dAr_rangeCheck_1 rfl (lv_at hl 2 rfl) ?_
  refine ri_le (tgt := 46) hx hb dAr_rangeCheck_2 (by decide) (by omega) (by omega) (fun c_2 => ?_) (fun c_2 => absurd c_2 (by omega))
  refine lv_iload_n hx hb dAr_rangeCheck_46 rfl (lv_at hl 1 rfl) ?_
  refine rz_ge (tgt := 59) hx hb dAr_rangeCheck_47 (by decide) (by omega) ?_
  refine lv_iload_n hx hb dAr_rangeCheck_59 rfl (lv_at hl 2 rfl) ?_
  refine lv_iload_n hx hb dAr_rangeCheck_60 rfl (lv_at hl 0 rfl) ?_
  refine ri_le (tgt := 73) hx hb dAr_rangeCheck_61 (by decide) (by omega) (by omega) (fun c_61 => ?_) (fun c_61 => absurd c_61 (by omega))
  refine W.widen (k := 0) (n := 0) (Nat.le_refl _) (Nat.le_refl _) ?_
  exact W.vret hx hb hr (fun t ht hW => ⟨⟨(), rfl, trivial, by rw [ht]; exact hP, hD⟩, hS.F ht⟩) hS.2.2 dAr_rangeCheck_73
set_option maxHeartbeats 600000 in
set_option maxRecDepth 100000 in
theorem c_fill1 (l : Launch) (D : va_G) (k : Nat → ClassId) (tb : Nat → Nat) (sz : Nat) (a n lo hi : Nat) (f : Nat → Int8) (v : Int8) (h1 : lo ≤ hi) (h2 : hi ≤ n) (h3 : n < 2 ^ 31) : Met l yAr_fill1 wAr_fill1 ({ frames := 1, cells := 0, slots := 0, locals := 22 }) (cP D k tb [(a, .inl (k 0, n, .inl (by_ f)))] sz [.ref a, .int (nI lo), .int (nI hi), .int v.toInt32]) (va_Qv (fun (u : Unit) => True) (fun (u : Unit) (t : State) => va_P D vwCl [(a, .inl (k 0, n, .inl (by_ (ff1 f v lo (hi - lo)))))] t.heap ∧ va_D (va_A [(a, .inl (k 0, n, .inl (by_ f)))] sz) [(a, .inl (k 0, n, .inl (by_ (ff1 f v lo (hi - lo)))))]) (va_A [(a, .inl (k 0, n, .inl (by_ f)))] sz)) (0) (0) (va_A [(a, .inl (k 0, n, .inl (by_ f)))] sz) := by
  refine Met.ofW (cc := cAr_fill1) (maxL := 5) (ret := none) (by decide) rfl ?_
  intro p e s m args below meth c s₁ B hml hv
  obtain ⟨rfl, hsz, hP, hK, hD0, hG⟩ := hv
  have hx := B.exec
  have hb := B.bytes
  have hr := B.returns
  have hts : ∀ w ∈ GT, w.before _ s = true := fun w h => atoms_spec (ws := wAr_fill1) B.pre w (List.mem_cons_of_mem _ h)
  have hown : s.vm.findClass R_Ar = some m.cls := findClass_of_methodNamed B.named
  have hlocks := B.notSynchronized
  subst hsz
  have hD := hD0.self (sz := s.heap.size)
  generalize hAe : va_A [(a, .inl (k 0, n, .inl (by_ f)))] s.heap.size = A at hD hG ⊢
  have hA : ∀ q : Nat, s.heap.size ≤ q → A q := fun q h => by rw [← hAe]; exact Or.inr h
  have hl := lv_entry ([.ref a, .int (nI lo), .int (nI hi), .int v.toInt32]) (n := 5) (Nat.le_of_ble_eq_true rfl)
  rw [lg_entry_eq]
  generalize (lg_sl ([.ref a, .int (nI lo), .int (nI hi), .int v.toInt32]) ++ List.replicate (5 - (lg_sl ([.ref a, .int (nI lo), .int (nI hi), .int v.toInt32])).length) Slot.unset).toArray = ls at hl ⊢
  have hl : lv_has ls 5 [(0, .ref a), (1, .int (nI lo)), (2, .int (nI hi)), (3, .int v.toInt32)] := hl
  refine cw_start (A := A) hP (fun H locs hP hS => ?_)
  refine lv_aload_n hx hb dAr_fill1_0 rfl (lv_at hl 0 rfl) ?_
  refine ra_len hx hb hK hP 0 0 rfl rfl dAr_fill1_1 ?_
  refine lv_iload_n hx hb dAr_fill1_2 rfl (lv_at hl 1 rfl) ?_
  refine lv_iload_n hx hb dAr_fill1_3 rfl (lv_at hl 2 rfl) ?_
  refine rc_v (wr := [(a, .inl (k 0, n, .inl (by_ f)))]) (va_runS (As := [.int (nI n), .int (nI lo), .int (nI hi)]) (rest := []) ⟨hx, hb, hml, hown, hts⟩ (c_rangeCheck l D k tb H.size n lo hi (by omega) (by omega) (by omega)) (va_cwS 3 hts (gS gm_401 gm_402 gm_63 gm_403) rfl rfl rfl (by decide +kernel) ⟨Nat.le_of_ble_eq_true rfl, Nat.le_of_ble_eq_true rfl⟩) (cP_S hP hD hK hG hS hA [] (by decide) rfl) rfl rfl hl.1 rfl (lv_room (Nat.le_of_ble_eq_true rfl)) dAr_fill1_4 ⟨Nat.le_of_ble_eq_true rfl, Nat.le_of_ble_eq_true rfl⟩) hS hA hP hD [] [0] rfl rfl (by decide) (by decide) (fun u H locs hw hP hD hS => ?_)
  have hP : va_P D vwCl [(a, .inl (k 0, n, .inl (by_ f)))] H := hP
  have hD : va_D A [(a, .inl (k 0, n, .inl (by_ f)))] := hD
  refine lv_iload_n hx hb dAr_fill1_7 rfl (lv_at hl 1 rfl) ?_
  refine lv_istore (lv' := [(4, .int (nI lo)), (0, .ref a), (1, .int (nI lo)), (2, .int (nI hi)), (3, .int v.toInt32)]) hx hb dAr_fill1_8 hl (by decide) rfl (fun ls hl => ?_)
  refine ri_loop (fun i H locs ls => va_P D vwCl [(a, .inl (k 0, n, .inl (by_ (ff1 f v lo i))))] H ∧ va_D A [(a, .inl (k 0, n, .inl (by_ (ff1 f v lo i))))] ∧ va_S A s.heap H locs ∧ lv_has ls 5 [(4, .int (nI (lo + i))), (0, .ref a), (1, .int (nI lo)), (2, .int (nI hi)), (3, .int v.toInt32)]) (hi - lo) 0 ⟨hP, hD, hS, lv_sub hl [0, 1, 2, 3, 4] rfl⟩ (by omega) (fun i H locs ls lt_i ⟨hP, hD, hS, hl⟩ ih => ?_) (fun H locs ls ⟨hP, hD, hS, hl⟩ => ?_)
  · skip
    refine lv_iload hx hb dAr_fill1_10 (lv_at hl 0 rfl) ?_
    refine lv_iload_n hx hb dAr_fill1_12 rfl (lv_at hl 3 rfl) ?_
    refine ri_ge (tgt := 27) hx hb dAr_fill1_13 (by decide) (by omega) (by omega) (fun c_13 => absurd c_13 (by omega)) (fun c_13 => ?_)
    refine lv_aload_n hx hb dAr_fill1_16 rfl (lv_at hl 1 rfl) ?_
    refine lv_iload hx hb dAr_fill1_17 (lv_at hl 0 rfl) ?_
    refine lv_iload_n hx hb dAr_fill1_19 rfl (lv_at hl 4 rfl) ?_
    refine rb_st (z := v) hx hb hK hP hD hS 0 0 rfl rfl (by omega) (by omega) dAr_fill1_20 (fun H locs hP hD hS => ?_)
    have hP : va_P D vwCl [(a, .inl (k 0, n, .inl (by_ (va_up (ff1 f v lo i) (lo + i) v))))] H := hP
    have hD : va_D A [(a, .inl (k 0, n, .inl (by_ (va_up (ff1 f v lo i) (lo + i) v))))] := hD
    refine ri_inc (lv' := [(4, .int (nI (lo + i + 1))), (0, .ref a), (1, .int (nI lo)), (2, .int (nI hi)), (3, .int v.toInt32)]) (k := 0) (d := 1) hx hb dAr_fill1_21 hl rfl (by decide) (by decide) rfl (fun ls hl => ?_)
    refine lv_goto (tgt := 10) hx hb dAr_fill1_24 (by decide) ?_
    exact ih _ _ _ ⟨hP, hD, hS, lv_sub hl [0, 1, 2, 3, 4] rfl⟩
  · skip
    refine lv_iload hx hb dAr_fill1_10 (lv_at hl 0 rfl) ?_
    refine lv_iload_n hx hb dAr_fill1_12 rfl (lv_at hl 3 rfl) ?_
    refine ri_ge (tgt := 27) hx hb dAr_fill1_13 (by decide) (by omega) (by omega) (fun c_13 => ?_) (fun c_13 => absurd c_13 (by omega))
    refine W.widen (k := 0) (n := 0) (Nat.le_refl _) (Nat.le_refl _) ?_
    exact W.vret hx hb hr (fun t ht hW => ⟨⟨(), rfl, trivial, by rw [ht]; exact hP, hD⟩, hS.F ht⟩) hS.2.2 dAr_fill1_27
set_option maxHeartbeats 600000 in
set_option maxRecDepth 100000 in
theorem c_fill0 (l : Launch) (D : va_G) (k : Nat → ClassId) (tb : Nat → Nat) (sz : Nat) (a n : Nat) (f : Nat → Int8) (v : Int8) (h3 : n < 2 ^ 31) : Met l yAr_fill0 wAr_fill0 ({ frames := 0, cells := 0, slots := 0, locals := 0 }) (cP D k tb [(a, .inl (k 0, n, .inl (by_ f)))] sz [.ref a, .int v.toInt32]) (va_Qv (fun (u : Unit) => True) (fun (u : Unit) (t : State) => va_P D vwCl [(a, .inl (k 0, n, .inl (by_ (ff1 f v 0 n))))] t.heap ∧ va_D (va_A [(a, .inl (k 0, n, .inl (by_ f)))] sz) [(a, .inl (k 0, n, .inl (by_ (ff1 f v 0 n))))]) (va_A [(a, .inl (k 0, n, .inl (by_ f)))] sz)) (0) (0) (va_A [(a, .inl (k 0, n, .inl (by_ f)))] sz) := by
  refine Met.ofW (cc := cAr_fill0) (maxL := 4) (ret := none) (by decide) rfl ?_
  intro p e s m args below meth c s₁ B hml hv
  obtain ⟨rfl, hsz, hP, hK, hD0, hG⟩ := hv
  have hx := B.exec
  have hb := B.bytes
  have hr := B.returns
  have hts : ∀ w ∈ GT, w.before _ s = true := fun w h => atoms_spec (ws := wAr_fill0) B.pre w (List.mem_cons_of_mem _ h)
  have hown : s.vm.findClass R_Ar = some m.cls := findClass_of_methodNamed B.named
  have hlocks := B.notSynchronized
  subst hsz
  have hD := hD0.self (sz := s.heap.size)
  generalize hAe : va_A [(a, .inl (k 0, n, .inl (by_ f)))] s.heap.size = A at hD hG ⊢
  have hA : ∀ q : Nat, s.heap.size ≤ q → A q := fun q h => by rw [← hAe]; exact Or.inr h
  have hl := lv_entry ([.ref a, .int v.toInt32]) (n := 4) (Nat.le_of_ble_eq_true rfl)
  rw [lg_entry_eq]
  generalize (lg_sl ([.ref a, .int v.toInt32]) ++ List.replicate (4 - (lg_sl ([.ref a, .int v.toInt32])).length) Slot.unset).toArray = ls at hl ⊢
  have hl : lv_has ls 4 [(0, .ref a), (1, .int v.toInt32)] := hl
  refine cw_start (A := A) hP (fun H locs hP hS => ?_)
  refine lv_iconst (v := nI 0) hx hb dAr_fill0_0 (by decide) ?_
  refine lv_istore_n (lv' := [(2, .int (nI 0)), (0, .ref a), (1, .int v.toInt32)]) hx hb dAr_fill0_1 rfl hl (by decide) rfl (fun ls hl => ?_)
  refine lv_aload_n hx hb dAr_fill0_2 rfl (lv_at hl 1 rfl) ?_
  refine ra_len hx hb hK hP 0 0 rfl rfl dAr_fill0_3 ?_
  refine lv_istore_n (lv' := [(3, .int (nI n)), (2, .int (nI 0)), (0, .ref a), (1, .int v.toInt32)]) hx hb dAr_fill0_4 rfl hl (by decide) rfl (fun ls hl => ?_)
  refine ri_loop (fun i H locs ls => va_P D vwCl [(a, .inl (k 0, n, .inl (by_ (ff1 f v 0 i))))] H ∧ va_D A [(a, .inl (k 0, n, .inl (by_ (ff1 f v 0 i))))] ∧ va_S A s.heap H locs ∧ lv_has ls 4 [(3, .int (nI n)), (2, .int (nI (0 + i))), (0, .ref a), (1, .int v.toInt32)]) n 0 ⟨hP, hD, hS, lv_sub hl [0, 1, 2, 3] rfl⟩ (by omega) (fun i H locs ls lt_i ⟨hP, hD, hS, hl⟩ ih => ?_) (fun H locs ls ⟨hP, hD, hS, hl⟩ => ?_)
  · skip
    refine lv_iload_n hx hb dAr_fill0_5 rfl (lv_at hl 1 rfl) ?_
    refine lv_iload_n hx hb dAr_fill0_6 rfl (lv_at hl 0 rfl) ?_
    refine ri_ge (tgt := 20) hx hb dAr_fill0_7 (by decide) (by omega) (by omega) (fun c_7 => absurd c_7 (by omega)) (fun c_7 => ?_)
    refine lv_aload_n hx hb dAr_fill0_10 rfl (lv_at hl 2 rfl) ?_
    refine lv_iload_n hx hb dAr_fill0_11 rfl (lv_at hl 1 rfl) ?_
    refine lv_iload_n hx hb dAr_fill0_12 rfl (lv_at hl 3 rfl) ?_
    refine rb_st (z := v) hx hb hK hP hD hS 0 0 rfl rfl (by omega) (by omega) dAr_fill0_13 (fun H locs hP hD hS => ?_)
    have hP : va_P D vwCl [(a, .inl (k 0, n, .inl (by_ (va_up (ff1 f v 0 i) (0 + i) v))))] H := hP
    have hD : va_D A [(a, .inl (k 0, n, .inl (by_ (va_up (ff1 f v 0 i) (0 + i) v))))] := hD
    refine ri_inc (lv' := [(2, .int (nI (0 + i + 1))), (3, .int (nI n)), (0, .ref a), (1, .int v.toInt32)]) (k := 1) (d := 1) hx hb dAr_fill0_14 hl rfl (by decide) (by decide) rfl (fun ls hl => ?_)
    refine lv_goto (tgt := 5) hx hb dAr_fill0_17 (by decide) ?_
    exact ih _ _ _ ⟨hP, hD, hS, lv_sub hl [1, 0, 2, 3] rfl⟩
  · skip
    refine lv_iload_n hx hb dAr_fill0_5 rfl (lv_at hl 1 rfl) ?_
    refine lv_iload_n hx hb dAr_fill0_6 rfl (lv_at hl 0 rfl) ?_
    refine ri_ge (tgt := 20) hx hb dAr_fill0_7 (by decide) (by omega) (by omega) (fun c_7 => ?_) (fun c_7 => absurd c_7 (by omega))
    refine W.widen (k := 0) (n := 0) (Nat.le_refl _) (Nat.le_refl _) ?_
    exact W.vret hx hb hr (fun t ht hW => ⟨⟨(), rfl, trivial, by rw [ht]; exact hP, hD⟩, hS.F ht⟩) hS.2.2 dAr_fill0_20
