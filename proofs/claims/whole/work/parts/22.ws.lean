/-! WideSha: its blocks -/
def wWs_init : List Cond := .code yWs_init cWs_init 3 none :: GT
def wWs_bigSigma0 : List Cond := .code yWs_bigSigma0 cWs_bigSigma0 2 (some .long) :: GT
def wWs_bigSigma1 : List Cond := .code yWs_bigSigma1 cWs_bigSigma1 2 (some .long) :: GT
def wWs_fillSchedule : List Cond := .code yWs_fillSchedule cWs_fillSchedule 5 none :: GT
def wWs_mixSchedule : List Cond := .code yWs_mixSchedule cWs_mixSchedule 22 none :: GT
def wWs_smallSigma0 : List Cond := .code yWs_smallSigma0 cWs_smallSigma0 2 (some .long) :: GT
def wWs_smallSigma1 : List Cond := .code yWs_smallSigma1 cWs_smallSigma1 2 (some .long) :: GT
set_option maxHeartbeats 600000 in
set_option maxRecDepth 100000 in
theorem c_Ws_bigSigma0 (l : Launch) (D : va_G) (k : Nat → ClassId) (tb : Nat → Nat) (sz : Nat) (x : Int64) : Met l yWs_bigSigma0 wWs_bigSigma0 ({ frames := 0, cells := 0, slots := 0, locals := 0 }) (cP D k tb [] sz [.long x]) (va_Ql (fun (r : Int64) (u : Unit) => r = wB0 x) (fun (u : Unit) (t : State) => va_P D vwCl [] t.heap ∧ va_D (va_A [] sz) []) (va_A [] sz)) (0) (0) (va_A [] sz) := by
  refine Met.ofW (cc := cWs_bigSigma0) (maxL := 2) (ret := (some .long)) (by decide) rfl ?_
  intro p e s m args below meth c s₁ B hml hv
  obtain ⟨rfl, hsz, hP, hK, hD0, hG⟩ := hv
  have hx := B.exec
  have hb := B.bytes
  have hr := B.returns
  have hts : ∀ w ∈ GT, w.before _ s = true := fun w h => atoms_spec (ws := wWs_bigSigma0) B.pre w (List.mem_cons_of_mem _ h)
  have hown : s.vm.findClass R_Ws = some m.cls := findClass_of_methodNamed B.named
  have hlocks := B.notSynchronized
  subst hsz
  have hD := hD0.self (sz := s.heap.size)
  generalize hAe : va_A [] s.heap.size = A at hD hG ⊢
  have hA : ∀ q : Nat, s.heap.size ≤ q → A q := fun q h => by rw [← hAe]; exact Or.inr h
  have hl := lv_entry ([.long x]) (n := 2) (Nat.le_of_ble_eq_true rfl)
  rw [lg_entry_eq]
  generalize (lg_sl ([.long x]) ++ List.replicate (2 - (lg_sl ([.long x])).length) Slot.unset).toArray = ls at hl ⊢
  have hl : lv_has ls 2 [(0, .long x)] := hl
  refine cw_start (A := A) hP (fun H locs hP hS => ?_)
  refine lv_lload_n hx hb dWs_bigSigma0_0 rfl (lv_at hl 0 rfl) ?_
  refine lv_bipush (v := 28) hx hb dWs_bigSigma0_1 (by decide) ?_
  refine lv_lushr (v := lu x 28) hx hb dWs_bigSigma0_3 rfl ?_
  refine lv_lload_n hx hb dWs_bigSigma0_4 rfl (lv_at hl 0 rfl) ?_
  refine lv_bipush (v := 36) hx hb dWs_bigSigma0_5 (by decide) ?_
  refine lv_lshl (v := ll x 36) hx hb dWs_bigSigma0_7 rfl ?_
  refine lv_lor hx hb dWs_bigSigma0_8 ?_
  refine lv_lload_n hx hb dWs_bigSigma0_9 rfl (lv_at hl 0 rfl) ?_
  refine lv_bipush (v := 34) hx hb dWs_bigSigma0_10 (by decide) ?_
  refine lv_lushr (v := lu x 34) hx hb dWs_bigSigma0_12 rfl ?_
  refine lv_lload_n hx hb dWs_bigSigma0_13 rfl (lv_at hl 0 rfl) ?_
  refine lv_bipush (v := 30) hx hb dWs_bigSigma0_14 (by decide) ?_
  refine lv_lshl (v := ll x 30) hx hb dWs_bigSigma0_16 rfl ?_
  refine lv_lor hx hb dWs_bigSigma0_17 ?_
  refine lv_lxor hx hb dWs_bigSigma0_18 ?_
  refine lv_lload_n hx hb dWs_bigSigma0_19 rfl (lv_at hl 0 rfl) ?_
  refine lv_bipush (v := 39) hx hb dWs_bigSigma0_20 (by decide) ?_
  refine lv_lushr (v := lu x 39) hx hb dWs_bigSigma0_22 rfl ?_
  refine lv_lload_n hx hb dWs_bigSigma0_23 rfl (lv_at hl 0 rfl) ?_
  refine lv_bipush (v := 25) hx hb dWs_bigSigma0_24 (by decide) ?_
  refine lv_lshl (v := ll x 25) hx hb dWs_bigSigma0_26 rfl ?_
  refine lv_lor hx hb dWs_bigSigma0_27 ?_
  refine lv_lxor hx hb dWs_bigSigma0_28 ?_
  refine W.widen (k := 0) (n := 0) (Nat.le_refl _) (Nat.le_refl _) ?_
  exact W.lret (v := wB0 x) hx hb hr (fun t ht hW => ⟨⟨wB0 x, (), rfl, rfl, by rw [ht]; exact hP, hD⟩, hS.F ht⟩) hS.2.2 dWs_bigSigma0_29
set_option maxHeartbeats 600000 in
set_option maxRecDepth 100000 in
theorem c_Ws_bigSigma1 (l : Launch) (D : va_G) (k : Nat → ClassId) (tb : Nat → Nat) (sz : Nat) (x : Int64) : Met l yWs_bigSigma1 wWs_bigSigma1 ({ frames := 0, cells := 0, slots := 0, locals := 0 }) (cP D k tb [] sz [.long x]) (va_Ql (fun (r : Int64) (u : Unit) => r = wB1 x) (fun (u : Unit) (t : State) => va_P D vwCl [] t.heap ∧ va_D (va_A [] sz) []) (va_A [] sz)) (0) (0) (va_A [] sz) := by
  refine Met.ofW (cc := cWs_bigSigma1) (maxL := 2) (ret := (some .long)) (by decide) rfl ?_
  intro p e s m args below meth c s₁ B hml hv
  obtain ⟨rfl, hsz, hP, hK, hD0, hG⟩ := hv
  have hx := B.exec
  have hb := B.bytes
  have hr := B.returns
  have hts : ∀ w ∈ GT, w.before _ s = true := fun w h => atoms_spec (ws := wWs_bigSigma1) B.pre w (List.mem_cons_of_mem _ h)
  have hown : s.vm.findClass R_Ws = some m.cls := findClass_of_methodNamed B.named
  have hlocks := B.notSynchronized
  subst hsz
  have hD := hD0.self (sz := s.heap.size)
  generalize hAe : va_A [] s.heap.size = A at hD hG ⊢
  have hA : ∀ q : Nat, s.heap.size ≤ q → A q := fun q h => by rw [← hAe]; exact Or.inr h
  have hl := lv_entry ([.long x]) (n := 2) (Nat.le_of_ble_eq_true rfl)
  rw [lg_entry_eq]
  generalize (lg_sl ([.long x]) ++ List.replicate (2 - (lg_sl ([.long x])).length) Slot.unset).toArray = ls at hl ⊢
  have hl : lv_has ls 2 [(0, .long x)] := hl
  refine cw_start (A := A) hP (fun H locs hP hS => ?_)
  refine lv_lload_n hx hb dWs_bigSigma1_0 rfl (lv_at hl 0 rfl) ?_
  refine lv_bipush (v := 14) hx hb dWs_bigSigma1_1 (by decide) ?_
  refine lv_lushr (v := lu x 14) hx hb dWs_bigSigma1_3 rfl ?_
  refine lv_lload_n hx hb dWs_bigSigma1_4 rfl (lv_at hl 0 rfl) ?_
  refine lv_bipush (v := 50) hx hb dWs_bigSigma1_5 (by decide) ?_
  refine lv_lshl (v := ll x 50) hx hb dWs_bigSigma1_7 rfl ?_
  refine lv_lor hx hb dWs_bigSigma1_8 ?_
  refine lv_lload_n hx hb dWs_bigSigma1_9 rfl (lv_at hl 0 rfl) ?_
  refine lv_bipush (v := 18) hx hb dWs_bigSigma1_10 (by decide) ?_
  refine lv_lushr (v := lu x 18) hx hb dWs_bigSigma1_12 rfl ?_
  refine lv_lload_n hx hb dWs_bigSigma1_13 rfl (lv_at hl 0 rfl) ?_
  refine lv_bipush (v := 46) hx hb dWs_bigSigma1_14 (by decide) ?_
  refine lv_lshl (v := ll x 46) hx hb dWs_bigSigma1_16 rfl ?_
  refine lv_lor hx hb dWs_bigSigma1_17 ?_
  refine lv_lxor hx hb dWs_bigSigma1_18 ?_
  refine lv_lload_n hx hb dWs_bigSigma1_19 rfl (lv_at hl 0 rfl) ?_
  refine lv_bipush (v := 41) hx hb dWs_bigSigma1_20 (by decide) ?_
  refine lv_lushr (v := lu x 41) hx hb dWs_bigSigma1_22 rfl ?_
  refine lv_lload_n hx hb dWs_bigSigma1_23 rfl (lv_at hl 0 rfl) ?_
  refine lv_bipush (v := 23) hx hb dWs_bigSigma1_24 (by decide) ?_
  refine lv_lshl (v := ll x 23) hx hb dWs_bigSigma1_26 rfl ?_
  refine lv_lor hx hb dWs_bigSigma1_27 ?_
  refine lv_lxor hx hb dWs_bigSigma1_28 ?_
  refine W.widen (k := 0) (n := 0) (Nat.le_refl _) (Nat.le_refl _) ?_
  exact W.lret (v := wB1 x) hx hb hr (fun t ht hW => ⟨⟨wB1 x, (), rfl, rfl, by rw [ht]; exact hP, hD⟩, hS.F ht⟩) hS.2.2 dWs_bigSigma1_29
set_option maxHeartbeats 600000 in
set_option maxRecDepth 100000 in
theorem c_Ws_smallSigma0 (l : Launch) (D : va_G) (k : Nat → ClassId) (tb : Nat → Nat) (sz : Nat) (x : Int64) : Met l yWs_smallSigma0 wWs_smallSigma0 ({ frames := 0, cells := 0, slots := 0, locals := 0 }) (cP D k tb [] sz [.long x]) (va_Ql (fun (r : Int64) (u : Unit) => r = wL0 x) (fun (u : Unit) (t : State) => va_P D vwCl [] t.heap ∧ va_D (va_A [] sz) []) (va_A [] sz)) (0) (0) (va_A [] sz) := by
  refine Met.ofW (cc := cWs_smallSigma0) (maxL := 2) (ret := (some .long)) (by decide) rfl ?_
  intro p e s m args below meth c s₁ B hml hv
  obtain ⟨rfl, hsz, hP, hK, hD0, hG⟩ := hv
  have hx := B.exec
  have hb := B.bytes
  have hr := B.returns
  have hts : ∀ w ∈ GT, w.before _ s = true := fun w h => atoms_spec (ws := wWs_smallSigma0) B.pre w (List.mem_cons_of_mem _ h)
  have hown : s.vm.findClass R_Ws = some m.cls := findClass_of_methodNamed B.named
  have hlocks := B.notSynchronized
  subst hsz
  have hD := hD0.self (sz := s.heap.size)
  generalize hAe : va_A [] s.heap.size = A at hD hG ⊢
  have hA : ∀ q : Nat, s.heap.size ≤ q → A q := fun q h => by rw [← hAe]; exact Or.inr h
  have hl := lv_entry ([.long x]) (n := 2) (Nat.le_of_ble_eq_true rfl)
  rw [lg_entry_eq]
  generalize (lg_sl ([.long x]) ++ List.replicate (2 - (lg_sl ([.long x])).length) Slot.unset).toArray = ls at hl ⊢
  have hl : lv_has ls 2 [(0, .long x)] := hl
  refine cw_start (A := A) hP (fun H locs hP hS => ?_)
  refine lv_lload_n hx hb dWs_smallSigma0_0 rfl (lv_at hl 0 rfl) ?_
  refine lv_iconst (v := 1) hx hb dWs_smallSigma0_1 (by decide) ?_
  refine lv_lushr (v := lu x 1) hx hb dWs_smallSigma0_2 rfl ?_
  refine lv_lload_n hx hb dWs_smallSigma0_3 rfl (lv_at hl 0 rfl) ?_
  refine lv_bipush (v := 63) hx hb dWs_smallSigma0_4 (by decide) ?_
  refine lv_lshl (v := ll x 63) hx hb dWs_smallSigma0_6 rfl ?_
  refine lv_lor hx hb dWs_smallSigma0_7 ?_
  refine lv_lload_n hx hb dWs_smallSigma0_8 rfl (lv_at hl 0 rfl) ?_
  refine lv_bipush (v := 8) hx hb dWs_smallSigma0_9 (by decide) ?_
  refine lv_lushr (v := lu x 8) hx hb dWs_smallSigma0_11 rfl ?_
  refine lv_lload_n hx hb dWs_smallSigma0_12 rfl (lv_at hl 0 rfl) ?_
  refine lv_bipush (v := 56) hx hb dWs_smallSigma0_13 (by decide) ?_
  refine lv_lshl (v := ll x 56) hx hb dWs_smallSigma0_15 rfl ?_
  refine lv_lor hx hb dWs_smallSigma0_16 ?_
  refine lv_lxor hx hb dWs_smallSigma0_17 ?_
  refine lv_lload_n hx hb dWs_smallSigma0_18 rfl (lv_at hl 0 rfl) ?_
  refine lv_bipush (v := 7) hx hb dWs_smallSigma0_19 (by decide) ?_
  refine lv_lushr (v := lu x 7) hx hb dWs_smallSigma0_21 rfl ?_
  refine lv_lxor hx hb dWs_smallSigma0_22 ?_
  refine W.widen (k := 0) (n := 0) (Nat.le_refl _) (Nat.le_refl _) ?_
  exact W.lret (v := wL0 x) hx hb hr (fun t ht hW => ⟨⟨wL0 x, (), rfl, rfl, by rw [ht]; exact hP, hD⟩, hS.F ht⟩) hS.2.2 dWs_smallSigma0_23
set_option maxHeartbeats 600000 in
set_option maxRecDepth 100000 in
theorem c_Ws_smallSigma1 (l : Launch) (D : va_G) (k : Nat → ClassId) (tb : Nat → Nat) (sz : Nat) (x : Int64) : Met l yWs_smallSigma1 wWs_smallSigma1 ({ frames := 0, cells := 0, slots := 0, locals := 0 }) (cP D k tb [] sz [.long x]) (va_Ql (fun (r : Int64) (u : Unit) => r = wL1 x) (fun (u : Unit) (t : State) => va_P D vwCl [] t.heap ∧ va_D (va_A [] sz) []) (va_A [] sz)) (0) (0) (va_A [] sz) := by
  refine Met.ofW (cc := cWs_smallSigma1) (maxL := 2) (ret := (some .long)) (by decide) rfl ?_
  intro p e s m args below meth c s₁ B hml hv
  obtain ⟨rfl, hsz, hP, hK, hD0, hG⟩ := hv
  have hx := B.exec
  have hb := B.bytes
  have hr := B.returns
  have hts : ∀ w ∈ GT, w.before _ s = true := fun w h => atoms_spec (ws := wWs_smallSigma1) B.pre w (List.mem_cons_of_mem _ h)
  have hown : s.vm.findClass R_Ws = some m.cls := findClass_of_methodNamed B.named
  have hlocks := B.notSynchronized
  subst hsz
  have hD := hD0.self (sz := s.heap.size)
  generalize hAe : va_A [] s.heap.size = A at hD hG ⊢
  have hA : ∀ q : Nat, s.heap.size ≤ q → A q := fun q h => by rw [← hAe]; exact Or.inr h
  have hl := lv_entry ([.long x]) (n := 2) (Nat.le_of_ble_eq_true rfl)
  rw [lg_entry_eq]
  generalize (lg_sl ([.long x]) ++ List.replicate (2 - (lg_sl ([.long x])).length) Slot.unset).toArray = ls at hl ⊢
  have hl : lv_has ls 2 [(0, .long x)] := hl
  refine cw_start (A := A) hP (fun H locs hP hS => ?_)
  refine lv_lload_n hx hb dWs_smallSigma1_0 rfl (lv_at hl 0 rfl) ?_
  refine lv_bipush (v := 19) hx hb dWs_smallSigma1_1 (by decide) ?_
  refine lv_lushr (v := lu x 19) hx hb dWs_smallSigma1_3 rfl ?_
  refine lv_lload_n hx hb dWs_smallSigma1_4 rfl (lv_at hl 0 rfl) ?_
  refine lv_bipush (v := 45) hx hb dWs_smallSigma1_5 (by decide) ?_
  refine lv_lshl (v := ll x 45) hx hb dWs_smallSigma1_7 rfl ?_
  refine lv_lor hx hb dWs_smallSigma1_8 ?_
  refine lv_lload_n hx hb dWs_smallSigma1_9 rfl (lv_at hl 0 rfl) ?_
  refine lv_bipush (v := 61) hx hb dWs_smallSigma1_10 (by decide) ?_
  refine lv_lushr (v := lu x 61) hx hb dWs_smallSigma1_12 rfl ?_
  refine lv_lload_n hx hb dWs_smallSigma1_13 rfl (lv_at hl 0 rfl) ?_
  refine lv_iconst (v := 3) hx hb dWs_smallSigma1_14 (by decide) ?_
  refine lv_lshl (v := ll x 3) hx hb dWs_smallSigma1_15 rfl ?_
  refine lv_lor hx hb dWs_smallSigma1_16 ?_
  refine lv_lxor hx hb dWs_smallSigma1_17 ?_
  refine lv_lload_n hx hb dWs_smallSigma1_18 rfl (lv_at hl 0 rfl) ?_
  refine lv_bipush (v := 6) hx hb dWs_smallSigma1_19 (by decide) ?_
  refine lv_lushr (v := lu x 6) hx hb dWs_smallSigma1_21 rfl ?_
  refine lv_lxor hx hb dWs_smallSigma1_22 ?_
  refine W.widen (k := 0) (n := 0) (Nat.le_refl _) (Nat.le_refl _) ?_
  exact W.lret (v := wL1 x) hx hb hr (fun t ht hW => ⟨⟨wL1 x, (), rfl, rfl, by rw [ht]; exact hP, hD⟩, hS.F ht⟩) hS.2.2 dWs_smallSigma1_23
set_option maxHeartbeats 600000 in
set_option maxRecDepth 100000 in
theorem c_Ws_fillSchedule (l : Launch) (D : va_G) (k : Nat → ClassId) (tb : Nat → Nat) (sz : Nat) (h a1 a2 a3 ts nh fl : Nat) (tot : Int64) (bc : Int32) (S : Nat → Int64) (b : Nat → Int8) (f : Nat → Int64) : Met l yWs_fillSchedule wWs_fillSchedule ({ frames := 1, cells := 0, slots := 0, locals := 21 }) (cP D k tb [(h, .inr (3, [.ref a1, .ref a2, .int (nI nh), .ref ts, .int (nI 8), .int (nI fl), .long tot, .int bc, .ref a3])), (a1, .inl (k 2, 8, .inr (.inl S))), (a2, .inl (k 0, 128, .inl (by_ b))), (a3, .inl (k 2, 80, .inr (.inl f)))] sz [.ref h]) (va_Qv (fun (u : Unit) => True) (fun (u : Unit) (t : State) => va_P D vwCl [(h, .inr (3, [.ref a1, .ref a2, .int (nI nh), .ref ts, .int (nI 8), .int (nI fl), .long tot, .int bc, .ref a3])), (a1, .inl (k 2, 8, .inr (.inl S))), (a2, .inl (k 0, 128, .inl (by_ b))), (a3, .inl (k 2, 80, .inr (.inl (wSched f b))))] t.heap ∧ va_D (va_A [(h, .inr (3, [.ref a1, .ref a2, .int (nI nh), .ref ts, .int (nI 8), .int (nI fl), .long tot, .int bc, .ref a3])), (a1, .inl (k 2, 8, .inr (.inl S))), (a2, .inl (k 0, 128, .inl (by_ b))), (a3, .inl (k 2, 80, .inr (.inl f)))] sz) [(h, .inr (3, [.ref a1, .ref a2, .int (nI nh), .ref ts, .int (nI 8), .int (nI fl), .long tot, .int bc, .ref a3])), (a1, .inl (k 2, 8, .inr (.inl S))), (a2, .inl (k 0, 128, .inl (by_ b))), (a3, .inl (k 2, 80, .inr (.inl (wSched f b))))]) (va_A [(h, .inr (3, [.ref a1, .ref a2, .int (nI nh), .ref ts, .int (nI 8), .int (nI fl), .long tot, .int bc, .ref a3])), (a1, .inl (k 2, 8, .inr (.inl S))), (a2, .inl (k 0, 128, .inl (by_ b))), (a3, .inl (k 2, 80, .inr (.inl f)))] sz)) (0) (0) (va_A [(h, .inr (3, [.ref a1, .ref a2, .int (nI nh), .ref ts, .int (nI 8), .int (nI fl), .long tot, .int bc, .ref a3])), (a1, .inl (k 2, 8, .inr (.inl S))), (a2, .inl (k 0, 128, .inl (by_ b))), (a3, .inl (k 2, 80, .inr (.inl f)))] sz) := by
  refine Met.ofW (cc := cWs_fillSchedule) (maxL := 5) (ret := none) (by decide) rfl ?_
  intro p e s m args below meth c s₁ B hml hv
  obtain ⟨rfl, hsz, hP, hK, hD0, hG⟩ := hv
  have hx := B.exec
  have hb := B.bytes
  have hr := B.returns
  have hts : ∀ w ∈ GT, w.before _ s = true := fun w h => atoms_spec (ws := wWs_fillSchedule) B.pre w (List.mem_cons_of_mem _ h)
  have hown : s.vm.findClass R_Ws = some m.cls := findClass_of_methodNamed B.named
  have hlocks := B.notSynchronized
  subst hsz
  have hD := hD0.self (sz := s.heap.size)
  generalize hAe : va_A [(h, .inr (3, [.ref a1, .ref a2, .int (nI nh), .ref ts, .int (nI 8), .int (nI fl), .long tot, .int bc, .ref a3])), (a1, .inl (k 2, 8, .inr (.inl S))), (a2, .inl (k 0, 128, .inl (by_ b))), (a3, .inl (k 2, 80, .inr (.inl f)))] s.heap.size = A at hD hG ⊢
  have hA : ∀ q : Nat, s.heap.size ≤ q → A q := fun q h => by rw [← hAe]; exact Or.inr h
  have hl := lv_entry ([.ref h]) (n := 5) (Nat.le_of_ble_eq_true rfl)
  rw [lg_entry_eq]
  generalize (lg_sl ([.ref h]) ++ List.replicate (5 - (lg_sl ([.ref h])).length) Slot.unset).toArray = ls at hl ⊢
  have hl : lv_has ls 5 [(0, .ref h)] := hl
  refine cw_start (A := A) hP (fun H locs hP hS => ?_)
  refine lv_iconst (v := nI 0) hx hb dWs_fillSchedule_0 (by decide) ?_
  refine lv_istore_n (lv' := [(1, .int (nI 0)), (0, .ref h)]) hx hb dWs_fillSchedule_1 rfl hl (by decide) rfl (fun ls hl => ?_)
  refine ri_loop (fun t H locs ls => va_P D vwCl [(h, .inr (3, [.ref a1, .ref a2, .int (nI nh), .ref ts, .int (nI 8), .int (nI fl), .long tot, .int bc, .ref a3])), (a1, .inl (k 2, 8, .inr (.inl S))), (a2, .inl (k 0, 128, .inl (by_ b))), (a3, .inl (k 2, 80, .inr (.inl (wSa f b t))))] H ∧ va_D A [(h, .inr (3, [.ref a1, .ref a2, .int (nI nh), .ref ts, .int (nI 8), .int (nI fl), .long tot, .int bc, .ref a3])), (a1, .inl (k 2, 8, .inr (.inl S))), (a2, .inl (k 0, 128, .inl (by_ b))), (a3, .inl (k 2, 80, .inr (.inl (wSa f b t))))] ∧ va_S A s.heap H locs ∧ lv_has ls 5 [(1, .int (nI t)), (0, .ref h)]) 16 0 ⟨hP, hD, hS, lv_sub hl [0, 1] rfl⟩ (by omega) (fun t H locs ls lt_t ⟨hP, hD, hS, hl⟩ ih => ?_) (fun H locs ls ⟨hP, hD, hS, hl⟩ => ?_)
  · skip
    refine lv_iload_n hx hb dWs_fillSchedule_2 rfl (lv_at hl 0 rfl) ?_
    refine lv_bipush (v := nI 16) hx hb dWs_fillSchedule_3 (by decide) ?_
    refine ri_ge (tgt := 62) hx hb dWs_fillSchedule_5 (by decide) (by omega) (by omega) (fun c_5 => absurd c_5 (by omega)) (fun c_5 => ?_)
    refine lv_lconst (v := 0) hx hb dWs_fillSchedule_8 (by decide) ?_
    refine lv_lstore_n (lv' := [(2, .long 0), (1, .int (nI t)), (0, .ref h)]) hx hb dWs_fillSchedule_9 rfl hl (by decide) rfl (fun ls hl => ?_)
    refine lv_iconst (v := nI 0) hx hb dWs_fillSchedule_10 (by decide) ?_
    refine lv_istore (lv' := [(4, .int (nI 0)), (2, .long 0), (1, .int (nI t)), (0, .ref h)]) hx hb dWs_fillSchedule_11 hl (by decide) rfl (fun ls hl => ?_)
    refine ri_loop (fun i H locs ls => va_P D vwCl [(h, .inr (3, [.ref a1, .ref a2, .int (nI nh), .ref ts, .int (nI 8), .int (nI fl), .long tot, .int bc, .ref a3])), (a1, .inl (k 2, 8, .inr (.inl S))), (a2, .inl (k 0, 128, .inl (by_ b))), (a3, .inl (k 2, 80, .inr (.inl (wSa f b t))))] H ∧ va_D A [(h, .inr (3, [.ref a1, .ref a2, .int (nI nh), .ref ts, .int (nI 8), .int (nI fl), .long tot, .int bc, .ref a3])), (a1, .inl (k 2, 8, .inr (.inl S))), (a2, .inl (k 0, 128, .inl (by_ b))), (a3, .inl (k 2, 80, .inr (.inl (wSa f b t))))] ∧ va_S A s.heap H locs ∧ lv_has ls 5 [(4, .int (nI i)), (2, .long (wWd b t i)), (1, .int (nI t)), (0, .ref h)]) 8 0 ⟨hP, hD, hS, lv_sub hl [0, 1, 2, 3] rfl⟩ (by omega) (fun i H locs ls lt_i ⟨hP, hD, hS, hl⟩ ih => ?_) (fun H locs ls ⟨hP, hD, hS, hl⟩ => ?_)
    · skip
      refine lv_iload hx hb dWs_fillSchedule_13 (lv_at hl 0 rfl) ?_
      refine lv_bipush (v := nI 8) hx hb dWs_fillSchedule_15 (by decide) ?_
      refine ri_ge (tgt := 49) hx hb dWs_fillSchedule_17 (by decide) (by omega) (by omega) (fun c_17 => absurd c_17 (by omega)) (fun c_17 => ?_)
      refine lv_lload_n hx hb dWs_fillSchedule_20 rfl (lv_at hl 1 rfl) ?_
      refine lv_bipush (v := 8) hx hb dWs_fillSchedule_21 (by decide) ?_
      refine lv_lshl (v := ll (wWd b t i) 8) hx hb dWs_fillSchedule_23 rfl ?_
      refine lv_aload_n hx hb dWs_fillSchedule_24 rfl (lv_at hl 3 rfl) ?_
      refine va_get (D := D) (ci := 3) (v := .ref a2) (C := R_Ws) (T := T_Ws) (N := 9) hx hb hts in_Ws hown hK hP 0 rfl rfl 1 (by decide) (hts _ gm_110) (fun x h9 => u_same (hts _ gm_111) x h9) rfl dWs_fillSchedule_25 ?_
      refine lv_bipush (v := nI 8) hx hb dWs_fillSchedule_28 (by decide) ?_
      refine lv_iload_n hx hb dWs_fillSchedule_30 rfl (lv_at hl 2 rfl) ?_
      refine ri_mul hx hb dWs_fillSchedule_31 ?_
      refine lv_iload hx hb dWs_fillSchedule_32 (lv_at hl 0 rfl) ?_
      refine ri_add hx hb dWs_fillSchedule_34 ?_
      refine rb_ld hx hb hK hP 2 0 rfl rfl (by omega) (by omega) dWs_fillSchedule_35 ?_
      refine lv_sipush (v := 255) hx hb dWs_fillSchedule_36 (by decide) ?_
      refine lv_iand hx hb dWs_fillSchedule_39 ?_
      refine lv_i2l (v := (((b ((8 * t) + i)).toInt32) &&& 255).toInt64) hx hb dWs_fillSchedule_40 rfl ?_
      refine lv_lor hx hb dWs_fillSchedule_41 ?_
      refine lv_lstore_n (lv' := [(2, .long ((ll (wWd b t i) 8) ||| ((((b ((8 * t) + i)).toInt32) &&& 255).toInt64))), (4, .int (nI i)), (1, .int (nI t)), (0, .ref h)]) hx hb dWs_fillSchedule_42 rfl hl (by decide) rfl (fun ls hl => ?_)
      refine ri_inc (lv' := [(4, .int (nI (i + 1))), (2, .long ((ll (wWd b t i) 8) ||| ((((b ((8 * t) + i)).toInt32) &&& 255).toInt64))), (1, .int (nI t)), (0, .ref h)]) (k := 1) (d := 1) hx hb dWs_fillSchedule_43 hl rfl (by decide) (by decide) rfl (fun ls hl => ?_)
      refine lv_goto (tgt := 13) hx hb dWs_fillSchedule_46 (by decide) ?_
      exact ih _ _ _ ⟨hP, hD, hS, lv_sub hl [0, 1, 2, 3] rfl⟩
    · skip
      refine lv_iload hx hb dWs_fillSchedule_13 (lv_at hl 0 rfl) ?_
      refine lv_bipush (v := nI 8) hx hb dWs_fillSchedule_15 (by decide) ?_
      refine ri_ge (tgt := 49) hx hb dWs_fillSchedule_17 (by decide) (by omega) (by omega) (fun c_17 => ?_) (fun c_17 => absurd c_17 (by omega))
      refine lv_aload_n hx hb dWs_fillSchedule_49 rfl (lv_at hl 3 rfl) ?_
      refine va_get (D := D) (ci := 3) (v := .ref a3) (C := R_Ws) (T := T_Ws) (N := 9) hx hb hts in_Ws hown hK hP 0 rfl rfl 8 (by decide) (hts _ gm_138) (fun _ h9 => h9) rfl dWs_fillSchedule_50 ?_
      refine lv_iload_n hx hb dWs_fillSchedule_53 rfl (lv_at hl 2 rfl) ?_
      refine lv_lload_n hx hb dWs_fillSchedule_54 rfl (lv_at hl 1 rfl) ?_
      refine rl_st hx hb hK hP hD hS 3 2 rfl rfl (by omega) (by omega) dWs_fillSchedule_55 (fun H locs hP hD hS => ?_)
      have hP : va_P D vwCl [(h, .inr (3, [.ref a1, .ref a2, .int (nI nh), .ref ts, .int (nI 8), .int (nI fl), .long tot, .int bc, .ref a3])), (a1, .inl (k 2, 8, .inr (.inl S))), (a2, .inl (k 0, 128, .inl (by_ b))), (a3, .inl (k 2, 80, .inr (.inl (vp_updL (wSa f b t) t (wWd b t 8)))))] H := hP
      have hD : va_D A [(h, .inr (3, [.ref a1, .ref a2, .int (nI nh), .ref ts, .int (nI 8), .int (nI fl), .long tot, .int bc, .ref a3])), (a1, .inl (k 2, 8, .inr (.inl S))), (a2, .inl (k 0, 128, .inl (by_ b))), (a3, .inl (k 2, 80, .inr (.inl (vp_updL (wSa f b t) t (wWd b t 8)))))] := hD
      refine ri_inc (lv' := [(1, .int (nI (t + 1))), (4, .int (nI 8)), (2, .long (wWd b t 8)), (0, .ref h)]) (k := 2) (d := 1) hx hb dWs_fillSchedule_56 hl rfl (by decide) (by decide) rfl (fun ls hl => ?_)
      refine lv_goto (tgt := 2) hx hb dWs_fillSchedule_59 (by decide) ?_
      exact ih _ _ _ ⟨hP, hD, hS, lv_sub hl [0, 3] rfl⟩
  · skip
    refine lv_iload_n hx hb dWs_fillSchedule_2 rfl (lv_at hl 0 rfl) ?_
    refine lv_bipush (v := nI 16) hx hb dWs_fillSchedule_3 (by decide) ?_
    refine ri_ge (tgt := 62) hx hb dWs_fillSchedule_5 (by decide) (by omega) (by omega) (fun c_5 => ?_) (fun c_5 => absurd c_5 (by omega))
    refine lv_bipush (v := nI 16) hx hb dWs_fillSchedule_62 (by decide) ?_
    refine lv_istore_n (lv' := [(1, .int (nI 16)), (0, .ref h)]) hx hb dWs_fillSchedule_64 rfl hl (by decide) rfl (fun ls hl => ?_)
    refine ri_loop (fun i H locs ls => va_P D vwCl [(h, .inr (3, [.ref a1, .ref a2, .int (nI nh), .ref ts, .int (nI 8), .int (nI fl), .long tot, .int bc, .ref a3])), (a1, .inl (k 2, 8, .inr (.inl S))), (a2, .inl (k 0, 128, .inl (by_ b))), (a3, .inl (k 2, 80, .inr (.inl (wSb (wSa f b 16) i))))] H ∧ va_D A [(h, .inr (3, [.ref a1, .ref a2, .int (nI nh), .ref ts, .int (nI 8), .int (nI fl), .long tot, .int bc, .ref a3])), (a1, .inl (k 2, 8, .inr (.inl S))), (a2, .inl (k 0, 128, .inl (by_ b))), (a3, .inl (k 2, 80, .inr (.inl (wSb (wSa f b 16) i))))] ∧ va_S A s.heap H locs ∧ lv_has ls 5 [(1, .int (nI (16 + i))), (0, .ref h)]) 64 0 ⟨hP, hD, hS, lv_sub hl [0, 1] rfl⟩ (by omega) (fun i H locs ls lt_i ⟨hP, hD, hS, hl⟩ ih => ?_) (fun H locs ls ⟨hP, hD, hS, hl⟩ => ?_)
    · skip
      refine lv_iload_n hx hb dWs_fillSchedule_65 rfl (lv_at hl 0 rfl) ?_
      refine lv_bipush (v := nI 80) hx hb dWs_fillSchedule_66 (by decide) ?_
      refine ri_ge (tgt := 127) hx hb dWs_fillSchedule_68 (by decide) (by omega) (by omega) (fun c_68 => absurd c_68 (by omega)) (fun c_68 => ?_)
      refine lv_aload_n hx hb dWs_fillSchedule_71 rfl (lv_at hl 1 rfl) ?_
      refine va_get (D := D) (ci := 3) (v := .ref a3) (C := R_Ws) (T := T_Ws) (N := 9) hx hb hts in_Ws hown hK hP 0 rfl rfl 8 (by decide) (hts _ gm_138) (fun _ h9 => h9) rfl dWs_fillSchedule_72 ?_
      refine lv_iload_n hx hb dWs_fillSchedule_75 rfl (lv_at hl 0 rfl) ?_
      refine lv_aload_n hx hb dWs_fillSchedule_76 rfl (lv_at hl 1 rfl) ?_
      refine va_get (D := D) (ci := 3) (v := .ref a3) (C := R_Ws) (T := T_Ws) (N := 9) hx hb hts in_Ws hown hK hP 0 rfl rfl 8 (by decide) (hts _ gm_138) (fun _ h9 => h9) rfl dWs_fillSchedule_77 ?_
      refine lv_iload_n hx hb dWs_fillSchedule_80 rfl (lv_at hl 0 rfl) ?_
      refine lv_iconst (v := nI 2) hx hb dWs_fillSchedule_81 (by decide) ?_
      refine ri_sub hx hb (by omega) dWs_fillSchedule_82 ?_
      refine rl_ld hx hb hK hP 3 2 rfl rfl (by omega) (by omega) dWs_fillSchedule_83 ?_
      refine rc_l (wr := [(h, .inr (3, [.ref a1, .ref a2, .int (nI nh), .ref ts, .int (nI 8), .int (nI fl), .long tot, .int bc, .ref a3])), (a1, .inl (k 2, 8, .inr (.inl S))), (a2, .inl (k 0, 128, .inl (by_ b))), (a3, .inl (k 2, 80, .inr (.inl (wSb (wSa f b 16) i))))]) (va_runS (As := [.long ((wSb (wSa f b 16) i) ((16 + i) - 2))]) (rest := [.int (nI (16 + i)), .ref a3]) ⟨hx, hb, hml, hown, hts⟩ (c_Ws_smallSigma1 l D k tb H.size ((wSb (wSa f b 16) i) ((16 + i) - 2))) (va_cwS 1 hts (gS gm_352 gm_353 gm_55 gm_354) rfl rfl rfl (by decide +kernel) ⟨Nat.le_of_ble_eq_true rfl, Nat.le_of_ble_eq_true rfl⟩) (cP_S hP hD hK hG hS hA [] (by decide) rfl) rfl rfl hl.1 rfl (lv_room (Nat.le_of_ble_eq_true rfl)) dWs_fillSchedule_84 ⟨Nat.le_of_ble_eq_true rfl, Nat.le_of_ble_eq_true rfl⟩) hS hA hP hD [] [0, 1, 2, 3] rfl rfl (by decide) (by decide) (fun r_1 u H locs hw hP hD hS => ?_)
      have hP : va_P D vwCl [(h, .inr (3, [.ref a1, .ref a2, .int (nI nh), .ref ts, .int (nI 8), .int (nI fl), .long tot, .int bc, .ref a3])), (a1, .inl (k 2, 8, .inr (.inl S))), (a2, .inl (k 0, 128, .inl (by_ b))), (a3, .inl (k 2, 80, .inr (.inl (wSb (wSa f b 16) i))))] H := hP
      have hD : va_D A [(h, .inr (3, [.ref a1, .ref a2, .int (nI nh), .ref ts, .int (nI 8), .int (nI fl), .long tot, .int bc, .ref a3])), (a1, .inl (k 2, 8, .inr (.inl S))), (a2, .inl (k 0, 128, .inl (by_ b))), (a3, .inl (k 2, 80, .inr (.inl (wSb (wSa f b 16) i))))] := hD
      have hw : r_1 = wL1 ((wSb (wSa f b 16) i) ((16 + i) - 2)) := hw
      subst hw
      refine lv_aload_n hx hb dWs_fillSchedule_87 rfl (lv_at hl 1 rfl) ?_
      refine va_get (D := D) (ci := 3) (v := .ref a3) (C := R_Ws) (T := T_Ws) (N := 9) hx hb hts in_Ws hown hK hP 0 rfl rfl 8 (by decide) (hts _ gm_138) (fun _ h9 => h9) rfl dWs_fillSchedule_88 ?_
      refine lv_iload_n hx hb dWs_fillSchedule_91 rfl (lv_at hl 0 rfl) ?_
      refine lv_bipush (v := nI 7) hx hb dWs_fillSchedule_92 (by decide) ?_
      refine ri_sub hx hb (by omega) dWs_fillSchedule_94 ?_
      refine rl_ld hx hb hK hP 3 2 rfl rfl (by omega) (by omega) dWs_fillSchedule_95 ?_
      refine lv_ladd hx hb dWs_fillSchedule_96 ?_
      refine lv_aload_n hx hb dWs_fillSchedule_97 rfl (lv_at hl 1 rfl) ?_
      refine va_get (D := D) (ci := 3) (v := .ref a3) (C := R_Ws) (T := T_Ws) (N := 9) hx hb hts in_Ws hown hK hP 0 rfl rfl 8 (by decide) (hts _ gm_138) (fun _ h9 => h9) rfl dWs_fillSchedule_98 ?_
      refine lv_iload_n hx hb dWs_fillSchedule_101 rfl (lv_at hl 0 rfl) ?_
      refine lv_bipush (v := nI 15) hx hb dWs_fillSchedule_102 (by decide) ?_
      refine ri_sub hx hb (by omega) dWs_fillSchedule_104 ?_
      refine rl_ld hx hb hK hP 3 2 rfl rfl (by omega) (by omega) dWs_fillSchedule_105 ?_
      refine rc_l (wr := [(h, .inr (3, [.ref a1, .ref a2, .int (nI nh), .ref ts, .int (nI 8), .int (nI fl), .long tot, .int bc, .ref a3])), (a1, .inl (k 2, 8, .inr (.inl S))), (a2, .inl (k 0, 128, .inl (by_ b))), (a3, .inl (k 2, 80, .inr (.inl (wSb (wSa f b 16) i))))]) (va_runS (As := [.long ((wSb (wSa f b 16) i) ((16 + i) - 15))]) (rest := [.long ((wL1 ((wSb (wSa f b 16) i) ((16 + i) - 2))) + ((wSb (wSa f b 16) i) ((16 + i) - 7))), .int (nI (16 + i)), .ref a3]) ⟨hx, hb, hml, hown, hts⟩ (c_Ws_smallSigma0 l D k tb H.size ((wSb (wSa f b 16) i) ((16 + i) - 15))) (va_cwS 1 hts (gS gm_355 gm_356 gm_55 gm_357) rfl rfl rfl (by decide +kernel) ⟨Nat.le_of_ble_eq_true rfl, Nat.le_of_ble_eq_true rfl⟩) (cP_S hP hD hK hG hS hA [] (by decide) rfl) rfl rfl hl.1 rfl (lv_room (Nat.le_of_ble_eq_true rfl)) dWs_fillSchedule_106 ⟨Nat.le_of_ble_eq_true rfl, Nat.le_of_ble_eq_true rfl⟩) hS hA hP hD [] [0, 1, 2, 3] rfl rfl (by decide) (by decide) (fun r_2 u H locs hw hP hD hS => ?_)
      have hP : va_P D vwCl [(h, .inr (3, [.ref a1, .ref a2, .int (nI nh), .ref ts, .int (nI 8), .int (nI fl), .long tot, .int bc, .ref a3])), (a1, .inl (k 2, 8, .inr (.inl S))), (a2, .inl (k 0, 128, .inl (by_ b))), (a3, .inl (k 2, 80, .inr (.inl (wSb (wSa f b 16) i))))] H := hP
      have hD : va_D A [(h, .inr (3, [.ref a1, .ref a2, .int (nI nh), .ref ts, .int (nI 8), .int (nI fl), .long tot, .int bc, .ref a3])), (a1, .inl (k 2, 8, .inr (.inl S))), (a2, .inl (k 0, 128, .inl (by_ b))), (a3, .inl (k 2, 80, .inr (.inl (wSb (wSa f b 16) i))))] := hD
      have hw : r_2 = wL0 ((wSb (wSa f b 16) i) ((16 + i) - 15)) := hw
      subst hw
      refine lv_ladd hx hb dWs_fillSchedule_109 ?_
      refine lv_aload_n hx hb dWs_fillSchedule_110 rfl (lv_at hl 1 rfl) ?_
      refine va_get (D := D) (ci := 3) (v := .ref a3) (C := R_Ws) (T := T_Ws) (N := 9) hx hb hts in_Ws hown hK hP 0 rfl rfl 8 (by decide) (hts _ gm_138) (fun _ h9 => h9) rfl dWs_fillSchedule_111 ?_
      refine lv_iload_n hx hb dWs_fillSchedule_114 rfl (lv_at hl 0 rfl) ?_
      refine lv_bipush (v := nI 16) hx hb dWs_fillSchedule_115 (by decide) ?_
      refine ri_sub hx hb (by omega) dWs_fillSchedule_117 ?_
      refine rl_ld hx hb hK hP 3 2 rfl rfl (by omega) (by omega) dWs_fillSchedule_118 ?_
      refine lv_ladd hx hb dWs_fillSchedule_119 ?_
      refine rl_st hx hb hK hP hD hS 3 2 rfl rfl (by omega) (by omega) dWs_fillSchedule_120 (fun H locs hP hD hS => ?_)
      have hP : va_P D vwCl [(h, .inr (3, [.ref a1, .ref a2, .int (nI nh), .ref ts, .int (nI 8), .int (nI fl), .long tot, .int bc, .ref a3])), (a1, .inl (k 2, 8, .inr (.inl S))), (a2, .inl (k 0, 128, .inl (by_ b))), (a3, .inl (k 2, 80, .inr (.inl (vp_updL (wSb (wSa f b 16) i) (16 + i) ((((wL1 ((wSb (wSa f b 16) i) ((16 + i) - 2))) + ((wSb (wSa f b 16) i) ((16 + i) - 7))) + (wL0 ((wSb (wSa f b 16) i) ((16 + i) - 15)))) + ((wSb (wSa f b 16) i) ((16 + i) - 16)))))))] H := hP
      have hD : va_D A [(h, .inr (3, [.ref a1, .ref a2, .int (nI nh), .ref ts, .int (nI 8), .int (nI fl), .long tot, .int bc, .ref a3])), (a1, .inl (k 2, 8, .inr (.inl S))), (a2, .inl (k 0, 128, .inl (by_ b))), (a3, .inl (k 2, 80, .inr (.inl (vp_updL (wSb (wSa f b 16) i) (16 + i) ((((wL1 ((wSb (wSa f b 16) i) ((16 + i) - 2))) + ((wSb (wSa f b 16) i) ((16 + i) - 7))) + (wL0 ((wSb (wSa f b 16) i) ((16 + i) - 15)))) + ((wSb (wSa f b 16) i) ((16 + i) - 16)))))))] := hD
      refine ri_inc (lv' := [(1, .int (nI (16 + i + 1))), (0, .ref h)]) (k := 0) (d := 1) hx hb dWs_fillSchedule_121 hl rfl (by decide) (by decide) rfl (fun ls hl => ?_)
      refine lv_goto (tgt := 65) hx hb dWs_fillSchedule_124 (by decide) ?_
      exact ih _ _ _ ⟨hP, hD, hS, lv_sub hl [0, 1] rfl⟩
    · skip
      refine lv_iload_n hx hb dWs_fillSchedule_65 rfl (lv_at hl 0 rfl) ?_
      refine lv_bipush (v := nI 80) hx hb dWs_fillSchedule_66 (by decide) ?_
      refine ri_ge (tgt := 127) hx hb dWs_fillSchedule_68 (by decide) (by omega) (by omega) (fun c_68 => ?_) (fun c_68 => absurd c_68 (by omega))
      refine W.widen (k := 0) (n := 0) (Nat.le_refl _) (Nat.le_refl _) ?_
      exact W.vret hx hb hr (fun t ht hW => ⟨⟨(), rfl, trivial, by rw [ht]; exact hP, hD⟩, hS.F ht⟩) hS.2.2 dWs_fillSchedule_127
set_option maxHeartbeats 600000 in
set_option maxRecDepth 100000 in
theorem c_Ws_mixSchedule (l : Launch) (D : va_G) (k : Nat → ClassId) (tb : Nat → Nat) (sz : Nat) (h a1 a2 a3 ts nh fl : Nat) (tot : Int64) (bc : Int32) (S : Nat → Int64) (b : Nat → Int8) (f : Nat → Int64) : Met l yWs_mixSchedule wWs_mixSchedule ({ frames := 1, cells := 0, slots := 0, locals := 21 }) (cP D k tb [(h, .inr (3, [.ref a1, .ref a2, .int (nI nh), .ref ts, .int (nI 8), .int (nI fl), .long tot, .int bc, .ref a3])), (a1, .inl (k 2, 8, .inr (.inl S))), (a2, .inl (k 0, 128, .inl (by_ b))), (a3, .inl (k 2, 80, .inr (.inl f)))] sz [.ref h]) (va_Qv (fun (u : Unit) => True) (fun (u : Unit) (t : State) => va_P D vwCl [(h, .inr (3, [.ref a1, .ref a2, .int (nI nh), .ref ts, .int (nI 8), .int (nI fl), .long tot, .int bc, .ref a3])), (a1, .inl (k 2, 8, .inr (.inl (add8 S ((wMx kW f (wOf S) 80)))))), (a2, .inl (k 0, 128, .inl (by_ b))), (a3, .inl (k 2, 80, .inr (.inl f)))] t.heap ∧ va_D (va_A [(h, .inr (3, [.ref a1, .ref a2, .int (nI nh), .ref ts, .int (nI 8), .int (nI fl), .long tot, .int bc, .ref a3])), (a1, .inl (k 2, 8, .inr (.inl S))), (a2, .inl (k 0, 128, .inl (by_ b))), (a3, .inl (k 2, 80, .inr (.inl f)))] sz) [(h, .inr (3, [.ref a1, .ref a2, .int (nI nh), .ref ts, .int (nI 8), .int (nI fl), .long tot, .int bc, .ref a3])), (a1, .inl (k 2, 8, .inr (.inl (add8 S ((wMx kW f (wOf S) 80)))))), (a2, .inl (k 0, 128, .inl (by_ b))), (a3, .inl (k 2, 80, .inr (.inl f)))]) (va_A [(h, .inr (3, [.ref a1, .ref a2, .int (nI nh), .ref ts, .int (nI 8), .int (nI fl), .long tot, .int bc, .ref a3])), (a1, .inl (k 2, 8, .inr (.inl S))), (a2, .inl (k 0, 128, .inl (by_ b))), (a3, .inl (k 2, 80, .inr (.inl f)))] sz)) (0) (0) (va_A [(h, .inr (3, [.ref a1, .ref a2, .int (nI nh), .ref ts, .int (nI 8), .int (nI fl), .long tot, .int bc, .ref a3])), (a1, .inl (k 2, 8, .inr (.inl S))), (a2, .inl (k 0, 128, .inl (by_ b))), (a3, .inl (k 2, 80, .inr (.inl f)))] sz) := by
  refine Met.ofW (cc := cWs_mixSchedule) (maxL := 22) (ret := none) (by decide) rfl ?_
  intro p e s m args below meth c s₁ B hml hv
  obtain ⟨rfl, hsz, hP, hK, hD0, hG⟩ := hv
  have hx := B.exec
  have hb := B.bytes
  have hr := B.returns
  have hts : ∀ w ∈ GT, w.before _ s = true := fun w h => atoms_spec (ws := wWs_mixSchedule) B.pre w (List.mem_cons_of_mem _ h)
  have hown : s.vm.findClass R_Ws = some m.cls := findClass_of_methodNamed B.named
  have hlocks := B.notSynchronized
  subst hsz
  have hD := hD0.self (sz := s.heap.size)
  generalize hAe : va_A [(h, .inr (3, [.ref a1, .ref a2, .int (nI nh), .ref ts, .int (nI 8), .int (nI fl), .long tot, .int bc, .ref a3])), (a1, .inl (k 2, 8, .inr (.inl S))), (a2, .inl (k 0, 128, .inl (by_ b))), (a3, .inl (k 2, 80, .inr (.inl f)))] s.heap.size = A at hD hG ⊢
  have hA : ∀ q : Nat, s.heap.size ≤ q → A q := fun q h => by rw [← hAe]; exact Or.inr h
  have hl := lv_entry ([.ref h]) (n := 22) (Nat.le_of_ble_eq_true rfl)
  rw [lg_entry_eq]
  generalize (lg_sl ([.ref h]) ++ List.replicate (22 - (lg_sl ([.ref h])).length) Slot.unset).toArray = ls at hl ⊢
  have hl : lv_has ls 22 [(0, .ref h)] := hl
  refine cw_start (A := A) hP (fun H locs hP hS => ?_)
  refine lv_aload_n hx hb dWs_mixSchedule_0 rfl (lv_at hl 0 rfl) ?_
  refine va_get (D := D) (ci := 3) (v := .ref a1) (C := R_Ws) (T := T_Ws) (N := 9) hx hb hts in_Ws hown hK hP 0 rfl rfl 0 (by decide) (hts _ gm_103) (fun x h9 => u_same (hts _ gm_104) x h9) rfl dWs_mixSchedule_1 ?_
  refine lv_iconst (v := nI 0) hx hb dWs_mixSchedule_4 (by decide) ?_
  refine rl_ld hx hb hK hP 1 2 rfl rfl (by omega) (by omega) dWs_mixSchedule_5 ?_
  refine lv_lstore_n (lv' := [(1, .long (S 0)), (0, .ref h)]) hx hb dWs_mixSchedule_6 rfl hl (by decide) rfl (fun ls hl => ?_)
  refine lv_aload_n hx hb dWs_mixSchedule_7 rfl (lv_at hl 1 rfl) ?_
  refine va_get (D := D) (ci := 3) (v := .ref a1) (C := R_Ws) (T := T_Ws) (N := 9) hx hb hts in_Ws hown hK hP 0 rfl rfl 0 (by decide) (hts _ gm_103) (fun x h9 => u_same (hts _ gm_104) x h9) rfl dWs_mixSchedule_8 ?_
  refine lv_iconst (v := nI 1) hx hb dWs_mixSchedule_11 (by decide) ?_
  refine rl_ld hx hb hK hP 1 2 rfl rfl (by omega) (by omega) dWs_mixSchedule_12 ?_
  refine lv_lstore_n (lv' := [(3, .long (S 1)), (1, .long (S 0)), (0, .ref h)]) hx hb dWs_mixSchedule_13 rfl hl (by decide) rfl (fun ls hl => ?_)
  refine lv_aload_n hx hb dWs_mixSchedule_14 rfl (lv_at hl 2 rfl) ?_
  refine va_get (D := D) (ci := 3) (v := .ref a1) (C := R_Ws) (T := T_Ws) (N := 9) hx hb hts in_Ws hown hK hP 0 rfl rfl 0 (by decide) (hts _ gm_103) (fun x h9 => u_same (hts _ gm_104) x h9) rfl dWs_mixSchedule_15 ?_
  refine lv_iconst (v := nI 2) hx hb dWs_mixSchedule_18 (by decide) ?_
  refine rl_ld hx hb hK hP 1 2 rfl rfl (by omega) (by omega) dWs_mixSchedule_19 ?_
  refine lv_lstore (lv' := [(5, .long (S 2)), (3, .long (S 1)), (1, .long (S 0)), (0, .ref h)]) hx hb dWs_mixSchedule_20 hl (by decide) rfl (fun ls hl => ?_)
  refine lv_aload_n hx hb dWs_mixSchedule_22 rfl (lv_at hl 3 rfl) ?_
  refine va_get (D := D) (ci := 3) (v := .ref a1) (C := R_Ws) (T := T_Ws) (N := 9) hx hb hts in_Ws hown hK hP 0 rfl rfl 0 (by decide) (hts _ gm_103) (fun x h9 => u_same (hts _ gm_104) x h9) rfl dWs_mixSchedule_23 ?_
  refine lv_iconst (v := nI 3) hx hb dWs_mixSchedule_26 (by decide) ?_
  refine rl_ld hx hb hK hP 1 2 rfl rfl (by omega) (by omega) dWs_mixSchedule_27 ?_
  refine lv_lstore (lv' := [(7, .long (S 3)), (5, .long (S 2)), (3, .long (S 1)), (1, .long (S 0)), (0, .ref h)]) hx hb dWs_mixSchedule_28 hl (by decide) rfl (fun ls hl => ?_)
  refine lv_aload_n hx hb dWs_mixSchedule_30 rfl (lv_at hl 4 rfl) ?_
  refine va_get (D := D) (ci := 3) (v := .ref a1) (C := R_Ws) (T := T_Ws) (N := 9) hx hb hts in_Ws hown hK hP 0 rfl rfl 0 (by decide) (hts _ gm_103) (fun x h9 => u_same (hts _ gm_104) x h9) rfl dWs_mixSchedule_31 ?_
  refine lv_iconst (v := nI 4) hx hb dWs_mixSchedule_34 (by decide) ?_
  refine rl_ld hx hb hK hP 1 2 rfl rfl (by omega) (by omega) dWs_mixSchedule_35 ?_
  refine lv_lstore (lv' := [(9, .long (S 4)), (7, .long (S 3)), (5, .long (S 2)), (3, .long (S 1)), (1, .long (S 0)), (0, .ref h)]) hx hb dWs_mixSchedule_36 hl (by decide) rfl (fun ls hl => ?_)
  refine lv_aload_n hx hb dWs_mixSchedule_38 rfl (lv_at hl 5 rfl) ?_
  refine va_get (D := D) (ci := 3) (v := .ref a1) (C := R_Ws) (T := T_Ws) (N := 9) hx hb hts in_Ws hown hK hP 0 rfl rfl 0 (by decide) (hts _ gm_103) (fun x h9 => u_same (hts _ gm_104) x h9) rfl dWs_mixSchedule_39 ?_
  refine lv_iconst (v := nI 5) hx hb dWs_mixSchedule_42 (by decide) ?_
  refine rl_ld hx hb hK hP 1 2 rfl rfl (by omega) (by omega) dWs_mixSchedule_43 ?_
  refine lv_lstore (lv' := [(11, .long (S 5)), (9, .long (S 4)), (7, .long (S 3)), (5, .long (S 2)), (3, .long (S 1)), (1, .long (S 0)), (0, .ref h)]) hx hb dWs_mixSchedule_44 hl (by decide) rfl (fun ls hl => ?_)
  refine lv_aload_n hx hb dWs_mixSchedule_46 rfl (lv_at hl 6 rfl) ?_
  refine va_get (D := D) (ci := 3) (v := .ref a1) (C := R_Ws) (T := T_Ws) (N := 9) hx hb hts in_Ws hown hK hP 0 rfl rfl 0 (by decide) (hts _ gm_103) (fun x h9 => u_same (hts _ gm_104) x h9) rfl dWs_mixSchedule_47 ?_
  refine lv_bipush (v := nI 6) hx hb dWs_mixSchedule_50 (by decide) ?_
  refine rl_ld hx hb hK hP 1 2 rfl rfl (by omega) (by omega) dWs_mixSchedule_52 ?_
  refine lv_lstore (lv' := [(13, .long (S 6)), (11, .long (S 5)), (9, .long (S 4)), (7, .long (S 3)), (5, .long (S 2)), (3, .long (S 1)), (1, .long (S 0)), (0, .ref h)]) hx hb dWs_mixSchedule_53 hl (by decide) rfl (fun ls hl => ?_)
  refine lv_aload_n hx hb dWs_mixSchedule_55 rfl (lv_at hl 7 rfl) ?_
  refine va_get (D := D) (ci := 3) (v := .ref a1) (C := R_Ws) (T := T_Ws) (N := 9) hx hb hts in_Ws hown hK hP 0 rfl rfl 0 (by decide) (hts _ gm_103) (fun x h9 => u_same (hts _ gm_104) x h9) rfl dWs_mixSchedule_56 ?_
  refine lv_bipush (v := nI 7) hx hb dWs_mixSchedule_59 (by decide) ?_
  refine rl_ld hx hb hK hP 1 2 rfl rfl (by omega) (by omega) dWs_mixSchedule_61 ?_
  refine lv_lstore (lv' := [(15, .long (S 7)), (13, .long (S 6)), (11, .long (S 5)), (9, .long (S 4)), (7, .long (S 3)), (5, .long (S 2)), (3, .long (S 1)), (1, .long (S 0)), (0, .ref h)]) hx hb dWs_mixSchedule_62 hl (by decide) rfl (fun ls hl => ?_)
  refine lv_iconst (v := nI 0) hx hb dWs_mixSchedule_64 (by decide) ?_
  refine lv_istore (lv' := [(17, .int (nI 0)), (15, .long (S 7)), (13, .long (S 6)), (11, .long (S 5)), (9, .long (S 4)), (7, .long (S 3)), (5, .long (S 2)), (3, .long (S 1)), (1, .long (S 0)), (0, .ref h)]) hx hb dWs_mixSchedule_65 hl (by decide) rfl (fun ls hl => ?_)
  refine ri_loop (fun t H locs ls => va_P D vwCl [(h, .inr (3, [.ref a1, .ref a2, .int (nI nh), .ref ts, .int (nI 8), .int (nI fl), .long tot, .int bc, .ref a3])), (a1, .inl (k 2, 8, .inr (.inl S))), (a2, .inl (k 0, 128, .inl (by_ b))), (a3, .inl (k 2, 80, .inr (.inl f)))] H ∧ va_D A [(h, .inr (3, [.ref a1, .ref a2, .int (nI nh), .ref ts, .int (nI 8), .int (nI fl), .long tot, .int bc, .ref a3])), (a1, .inl (k 2, 8, .inr (.inl S))), (a2, .inl (k 0, 128, .inl (by_ b))), (a3, .inl (k 2, 80, .inr (.inl f)))] ∧ va_S A s.heap H locs ∧ lv_has ls 22 [(17, .int (nI t)), (15, .long ((wMx kW f (wOf S) t).2.2.2.2.2.2.2)), (13, .long ((wMx kW f (wOf S) t).2.2.2.2.2.2.1)), (11, .long ((wMx kW f (wOf S) t).2.2.2.2.2.1)), (9, .long ((wMx kW f (wOf S) t).2.2.2.2.1)), (7, .long ((wMx kW f (wOf S) t).2.2.2.1)), (5, .long ((wMx kW f (wOf S) t).2.2.1)), (3, .long ((wMx kW f (wOf S) t).2.1)), (1, .long ((wMx kW f (wOf S) t).1)), (0, .ref h)]) 80 0 ⟨hP, hD, hS, lv_sub hl [0, 1, 2, 3, 4, 5, 6, 7, 8, 9] rfl⟩ (by omega) (fun t H locs ls lt_t ⟨hP, hD, hS, hl⟩ ih => ?_) (fun H locs ls ⟨hP, hD, hS, hl⟩ => ?_)
  · skip
    refine lv_iload hx hb dWs_mixSchedule_67 (lv_at hl 0 rfl) ?_
    refine lv_bipush (v := nI 80) hx hb dWs_mixSchedule_69 (by decide) ?_
    refine ri_ge (tgt := 175) hx hb dWs_mixSchedule_71 (by decide) (by omega) (by omega) (fun c_71 => absurd c_71 (by omega)) (fun c_71 => ?_)
    refine lv_lload hx hb dWs_mixSchedule_74 (lv_at hl 1 rfl) ?_
    refine lv_lload hx hb dWs_mixSchedule_76 (lv_at hl 4 rfl) ?_
    refine rc_l (wr := [(h, .inr (3, [.ref a1, .ref a2, .int (nI nh), .ref ts, .int (nI 8), .int (nI fl), .long tot, .int bc, .ref a3])), (a1, .inl (k 2, 8, .inr (.inl S))), (a2, .inl (k 0, 128, .inl (by_ b))), (a3, .inl (k 2, 80, .inr (.inl f)))]) (va_runS (As := [.long ((wMx kW f (wOf S) t).2.2.2.2.1)]) (rest := [.long ((wMx kW f (wOf S) t).2.2.2.2.2.2.2)]) ⟨hx, hb, hml, hown, hts⟩ (c_Ws_bigSigma1 l D k tb H.size ((wMx kW f (wOf S) t).2.2.2.2.1)) (va_cwS 1 hts (gS gm_373 gm_374 gm_55 gm_375) rfl rfl rfl (by decide +kernel) ⟨Nat.le_of_ble_eq_true rfl, Nat.le_of_ble_eq_true rfl⟩) (cP_S hP hD hK hG hS hA [] (by decide) rfl) rfl rfl hl.1 rfl (lv_room (Nat.le_of_ble_eq_true rfl)) dWs_mixSchedule_78 ⟨Nat.le_of_ble_eq_true rfl, Nat.le_of_ble_eq_true rfl⟩) hS hA hP hD [] [0, 1, 2, 3] rfl rfl (by decide) (by decide) (fun r_1 u H locs hw hP hD hS => ?_)
    have hP : va_P D vwCl [(h, .inr (3, [.ref a1, .ref a2, .int (nI nh), .ref ts, .int (nI 8), .int (nI fl), .long tot, .int bc, .ref a3])), (a1, .inl (k 2, 8, .inr (.inl S))), (a2, .inl (k 0, 128, .inl (by_ b))), (a3, .inl (k 2, 80, .inr (.inl f)))] H := hP
    have hD : va_D A [(h, .inr (3, [.ref a1, .ref a2, .int (nI nh), .ref ts, .int (nI 8), .int (nI fl), .long tot, .int bc, .ref a3])), (a1, .inl (k 2, 8, .inr (.inl S))), (a2, .inl (k 0, 128, .inl (by_ b))), (a3, .inl (k 2, 80, .inr (.inl f)))] := hD
    have hw : r_1 = wB1 ((wMx kW f (wOf S) t).2.2.2.2.1) := hw
    subst hw
    refine lv_ladd hx hb dWs_mixSchedule_81 ?_
    refine lv_lload hx hb dWs_mixSchedule_82 (lv_at hl 4 rfl) ?_
    refine lv_lload hx hb dWs_mixSchedule_84 (lv_at hl 3 rfl) ?_
    refine lv_land hx hb dWs_mixSchedule_86 ?_
    refine lv_lload hx hb dWs_mixSchedule_87 (lv_at hl 4 rfl) ?_
    refine lv_ldc2 (v := -1) hx hb hown (hts _ gm_376) dWs_mixSchedule_89 ?_
    refine lv_lxor hx hb dWs_mixSchedule_92 ?_
    refine lv_lload hx hb dWs_mixSchedule_93 (lv_at hl 2 rfl) ?_
    refine lv_land hx hb dWs_mixSchedule_95 ?_
    refine lv_lxor hx hb dWs_mixSchedule_96 ?_
    refine lv_ladd hx hb dWs_mixSchedule_97 ?_
    refine va_gets hx hb hG.2.1.2.2.2.2.2.1.1 hS hown (hts _ gm_377) (fun _ h9 => h9) dWs_mixSchedule_98 ?_
    refine lv_iload hx hb dWs_mixSchedule_101 (lv_at hl 0 rfl) ?_
    refine rt_l hx hb hG.2.1.2.2.2.2.2.1.2 hS (by omega) (by omega) dWs_mixSchedule_103 ?_
    refine lv_ladd hx hb dWs_mixSchedule_104 ?_
    refine lv_aload_n hx hb dWs_mixSchedule_105 rfl (lv_at hl 9 rfl) ?_
    refine va_get (D := D) (ci := 3) (v := .ref a3) (C := R_Ws) (T := T_Ws) (N := 9) hx hb hts in_Ws hown hK hP 0 rfl rfl 8 (by decide) (hts _ gm_138) (fun _ h9 => h9) rfl dWs_mixSchedule_106 ?_
    refine lv_iload hx hb dWs_mixSchedule_109 (lv_at hl 0 rfl) ?_
    refine rl_ld hx hb hK hP 3 2 rfl rfl (by omega) (by omega) dWs_mixSchedule_111 ?_
    refine lv_ladd hx hb dWs_mixSchedule_112 ?_
    refine lv_lstore (lv' := [(18, .long ((((((wMx kW f (wOf S) t).2.2.2.2.2.2.2) + (wB1 ((wMx kW f (wOf S) t).2.2.2.2.1))) + ((((wMx kW f (wOf S) t).2.2.2.2.1) &&& ((wMx kW f (wOf S) t).2.2.2.2.2.1)) ^^^ ((((wMx kW f (wOf S) t).2.2.2.2.1) ^^^ (-1)) &&& ((wMx kW f (wOf S) t).2.2.2.2.2.2.1)))) + (kW t)) + (f t))), (17, .int (nI t)), (15, .long ((wMx kW f (wOf S) t).2.2.2.2.2.2.2)), (13, .long ((wMx kW f (wOf S) t).2.2.2.2.2.2.1)), (11, .long ((wMx kW f (wOf S) t).2.2.2.2.2.1)), (9, .long ((wMx kW f (wOf S) t).2.2.2.2.1)), (7, .long ((wMx kW f (wOf S) t).2.2.2.1)), (5, .long ((wMx kW f (wOf S) t).2.2.1)), (3, .long ((wMx kW f (wOf S) t).2.1)), (1, .long ((wMx kW f (wOf S) t).1)), (0, .ref h)]) hx hb dWs_mixSchedule_113 hl (by decide) rfl (fun ls hl => ?_)
    refine lv_lload_n hx hb dWs_mixSchedule_115 rfl (lv_at hl 9 rfl) ?_
    refine rc_l (wr := [(h, .inr (3, [.ref a1, .ref a2, .int (nI nh), .ref ts, .int (nI 8), .int (nI fl), .long tot, .int bc, .ref a3])), (a1, .inl (k 2, 8, .inr (.inl S))), (a2, .inl (k 0, 128, .inl (by_ b))), (a3, .inl (k 2, 80, .inr (.inl f)))]) (va_runS (As := [.long ((wMx kW f (wOf S) t).1)]) (rest := []) ⟨hx, hb, hml, hown, hts⟩ (c_Ws_bigSigma0 l D k tb H.size ((wMx kW f (wOf S) t).1)) (va_cwS 1 hts (gS gm_378 gm_379 gm_55 gm_380) rfl rfl rfl (by decide +kernel) ⟨Nat.le_of_ble_eq_true rfl, Nat.le_of_ble_eq_true rfl⟩) (cP_S hP hD hK hG hS hA [] (by decide) rfl) rfl rfl hl.1 rfl (lv_room (Nat.le_of_ble_eq_true rfl)) dWs_mixSchedule_116 ⟨Nat.le_of_ble_eq_true rfl, Nat.le_of_ble_eq_true rfl⟩) hS hA hP hD [] [0, 1, 2, 3] rfl rfl (by decide) (by decide) (fun r_2 u H locs hw hP hD hS => ?_)
    have hP : va_P D vwCl [(h, .inr (3, [.ref a1, .ref a2, .int (nI nh), .ref ts, .int (nI 8), .int (nI fl), .long tot, .int bc, .ref a3])), (a1, .inl (k 2, 8, .inr (.inl S))), (a2, .inl (k 0, 128, .inl (by_ b))), (a3, .inl (k 2, 80, .inr (.inl f)))] H := hP
    have hD : va_D A [(h, .inr (3, [.ref a1, .ref a2, .int (nI nh), .ref ts, .int (nI 8), .int (nI fl), .long tot, .int bc, .ref a3])), (a1, .inl (k 2, 8, .inr (.inl S))), (a2, .inl (k 0, 128, .inl (by_ b))), (a3, .inl (k 2, 80, .inr (.inl f)))] := hD
    have hw : r_2 = wB0 ((wMx kW f (wOf S) t).1) := hw
    subst hw
    refine lv_lload_n hx hb dWs_mixSchedule_119 rfl (lv_at hl 9 rfl) ?_
    refine lv_lload_n hx hb dWs_mixSchedule_120 rfl (lv_at hl 8 rfl) ?_
    refine lv_land hx hb dWs_mixSchedule_121 ?_
    refine lv_lload_n hx hb dWs_mixSchedule_122 rfl (lv_at hl 9 rfl) ?_
    refine lv_lload hx hb dWs_mixSchedule_123 (lv_at hl 7 rfl) ?_
    refine lv_land hx hb dWs_mixSchedule_125 ?_
    refine lv_lxor hx hb dWs_mixSchedule_126 ?_
    refine lv_lload_n hx hb dWs_mixSchedule_127 rfl (lv_at hl 8 rfl) ?_
    refine lv_lload hx hb dWs_mixSchedule_128 (lv_at hl 7 rfl) ?_
    refine lv_land hx hb dWs_mixSchedule_130 ?_
    refine lv_lxor hx hb dWs_mixSchedule_131 ?_
    refine lv_ladd hx hb dWs_mixSchedule_132 ?_
    refine lv_lstore (lv' := [(20, .long ((wB0 ((wMx kW f (wOf S) t).1)) + (((((wMx kW f (wOf S) t).1) &&& ((wMx kW f (wOf S) t).2.1)) ^^^ (((wMx kW f (wOf S) t).1) &&& ((wMx kW f (wOf S) t).2.2.1))) ^^^ (((wMx kW f (wOf S) t).2.1) &&& ((wMx kW f (wOf S) t).2.2.1))))), (18, .long ((((((wMx kW f (wOf S) t).2.2.2.2.2.2.2) + (wB1 ((wMx kW f (wOf S) t).2.2.2.2.1))) + ((((wMx kW f (wOf S) t).2.2.2.2.1) &&& ((wMx kW f (wOf S) t).2.2.2.2.2.1)) ^^^ ((((wMx kW f (wOf S) t).2.2.2.2.1) ^^^ (-1)) &&& ((wMx kW f (wOf S) t).2.2.2.2.2.2.1)))) + (kW t)) + (f t))), (17, .int (nI t)), (15, .long ((wMx kW f (wOf S) t).2.2.2.2.2.2.2)), (13, .long ((wMx kW f (wOf S) t).2.2.2.2.2.2.1)), (11, .long ((wMx kW f (wOf S) t).2.2.2.2.2.1)), (9, .long ((wMx kW f (wOf S) t).2.2.2.2.1)), (7, .long ((wMx kW f (wOf S) t).2.2.2.1)), (5, .long ((wMx kW f (wOf S) t).2.2.1)), (3, .long ((wMx kW f (wOf S) t).2.1)), (1, .long ((wMx kW f (wOf S) t).1)), (0, .ref h)]) hx hb dWs_mixSchedule_133 hl (by decide) rfl (fun ls hl => ?_)
    refine lv_lload hx hb dWs_mixSchedule_135 (lv_at hl 4 rfl) ?_
    refine lv_lstore (lv' := [(15, .long ((wMx kW f (wOf S) t).2.2.2.2.2.2.1)), (20, .long ((wB0 ((wMx kW f (wOf S) t).1)) + (((((wMx kW f (wOf S) t).1) &&& ((wMx kW f (wOf S) t).2.1)) ^^^ (((wMx kW f (wOf S) t).1) &&& ((wMx kW f (wOf S) t).2.2.1))) ^^^ (((wMx kW f (wOf S) t).2.1) &&& ((wMx kW f (wOf S) t).2.2.1))))), (18, .long ((((((wMx kW f (wOf S) t).2.2.2.2.2.2.2) + (wB1 ((wMx kW f (wOf S) t).2.2.2.2.1))) + ((((wMx kW f (wOf S) t).2.2.2.2.1) &&& ((wMx kW f (wOf S) t).2.2.2.2.2.1)) ^^^ ((((wMx kW f (wOf S) t).2.2.2.2.1) ^^^ (-1)) &&& ((wMx kW f (wOf S) t).2.2.2.2.2.2.1)))) + (kW t)) + (f t))), (17, .int (nI t)), (13, .long ((wMx kW f (wOf S) t).2.2.2.2.2.2.1)), (11, .long ((wMx kW f (wOf S) t).2.2.2.2.2.1)), (9, .long ((wMx kW f (wOf S) t).2.2.2.2.1)), (7, .long ((wMx kW f (wOf S) t).2.2.2.1)), (5, .long ((wMx kW f (wOf S) t).2.2.1)), (3, .long ((wMx kW f (wOf S) t).2.1)), (1, .long ((wMx kW f (wOf S) t).1)), (0, .ref h)]) hx hb dWs_mixSchedule_137 hl (by decide) rfl (fun ls hl => ?_)
    refine lv_lload hx hb dWs_mixSchedule_139 (lv_at hl 5 rfl) ?_
    refine lv_lstore (lv' := [(13, .long ((wMx kW f (wOf S) t).2.2.2.2.2.1)), (15, .long ((wMx kW f (wOf S) t).2.2.2.2.2.2.1)), (20, .long ((wB0 ((wMx kW f (wOf S) t).1)) + (((((wMx kW f (wOf S) t).1) &&& ((wMx kW f (wOf S) t).2.1)) ^^^ (((wMx kW f (wOf S) t).1) &&& ((wMx kW f (wOf S) t).2.2.1))) ^^^ (((wMx kW f (wOf S) t).2.1) &&& ((wMx kW f (wOf S) t).2.2.1))))), (18, .long ((((((wMx kW f (wOf S) t).2.2.2.2.2.2.2) + (wB1 ((wMx kW f (wOf S) t).2.2.2.2.1))) + ((((wMx kW f (wOf S) t).2.2.2.2.1) &&& ((wMx kW f (wOf S) t).2.2.2.2.2.1)) ^^^ ((((wMx kW f (wOf S) t).2.2.2.2.1) ^^^ (-1)) &&& ((wMx kW f (wOf S) t).2.2.2.2.2.2.1)))) + (kW t)) + (f t))), (17, .int (nI t)), (11, .long ((wMx kW f (wOf S) t).2.2.2.2.2.1)), (9, .long ((wMx kW f (wOf S) t).2.2.2.2.1)), (7, .long ((wMx kW f (wOf S) t).2.2.2.1)), (5, .long ((wMx kW f (wOf S) t).2.2.1)), (3, .long ((wMx kW f (wOf S) t).2.1)), (1, .long ((wMx kW f (wOf S) t).1)), (0, .ref h)]) hx hb dWs_mixSchedule_141 hl (by decide) rfl (fun ls hl => ?_)
    refine lv_lload hx hb dWs_mixSchedule_143 (lv_at hl 6 rfl) ?_
    refine lv_lstore (lv' := [(11, .long ((wMx kW f (wOf S) t).2.2.2.2.1)), (13, .long ((wMx kW f (wOf S) t).2.2.2.2.2.1)), (15, .long ((wMx kW f (wOf S) t).2.2.2.2.2.2.1)), (20, .long ((wB0 ((wMx kW f (wOf S) t).1)) + (((((wMx kW f (wOf S) t).1) &&& ((wMx kW f (wOf S) t).2.1)) ^^^ (((wMx kW f (wOf S) t).1) &&& ((wMx kW f (wOf S) t).2.2.1))) ^^^ (((wMx kW f (wOf S) t).2.1) &&& ((wMx kW f (wOf S) t).2.2.1))))), (18, .long ((((((wMx kW f (wOf S) t).2.2.2.2.2.2.2) + (wB1 ((wMx kW f (wOf S) t).2.2.2.2.1))) + ((((wMx kW f (wOf S) t).2.2.2.2.1) &&& ((wMx kW f (wOf S) t).2.2.2.2.2.1)) ^^^ ((((wMx kW f (wOf S) t).2.2.2.2.1) ^^^ (-1)) &&& ((wMx kW f (wOf S) t).2.2.2.2.2.2.1)))) + (kW t)) + (f t))), (17, .int (nI t)), (9, .long ((wMx kW f (wOf S) t).2.2.2.2.1)), (7, .long ((wMx kW f (wOf S) t).2.2.2.1)), (5, .long ((wMx kW f (wOf S) t).2.2.1)), (3, .long ((wMx kW f (wOf S) t).2.1)), (1, .long ((wMx kW f (wOf S) t).1)), (0, .ref h)]) hx hb dWs_mixSchedule_145 hl (by decide) rfl (fun ls hl => ?_)
    refine lv_lload hx hb dWs_mixSchedule_147 (lv_at hl 7 rfl) ?_
    refine lv_lload hx hb dWs_mixSchedule_149 (lv_at hl 4 rfl) ?_
    refine lv_ladd hx hb dWs_mixSchedule_151 ?_
    refine lv_lstore (lv' := [(9, .long (((wMx kW f (wOf S) t).2.2.2.1) + ((((((wMx kW f (wOf S) t).2.2.2.2.2.2.2) + (wB1 ((wMx kW f (wOf S) t).2.2.2.2.1))) + ((((wMx kW f (wOf S) t).2.2.2.2.1) &&& ((wMx kW f (wOf S) t).2.2.2.2.2.1)) ^^^ ((((wMx kW f (wOf S) t).2.2.2.2.1) ^^^ (-1)) &&& ((wMx kW f (wOf S) t).2.2.2.2.2.2.1)))) + (kW t)) + (f t)))), (11, .long ((wMx kW f (wOf S) t).2.2.2.2.1)), (13, .long ((wMx kW f (wOf S) t).2.2.2.2.2.1)), (15, .long ((wMx kW f (wOf S) t).2.2.2.2.2.2.1)), (20, .long ((wB0 ((wMx kW f (wOf S) t).1)) + (((((wMx kW f (wOf S) t).1) &&& ((wMx kW f (wOf S) t).2.1)) ^^^ (((wMx kW f (wOf S) t).1) &&& ((wMx kW f (wOf S) t).2.2.1))) ^^^ (((wMx kW f (wOf S) t).2.1) &&& ((wMx kW f (wOf S) t).2.2.1))))), (18, .long ((((((wMx kW f (wOf S) t).2.2.2.2.2.2.2) + (wB1 ((wMx kW f (wOf S) t).2.2.2.2.1))) + ((((wMx kW f (wOf S) t).2.2.2.2.1) &&& ((wMx kW f (wOf S) t).2.2.2.2.2.1)) ^^^ ((((wMx kW f (wOf S) t).2.2.2.2.1) ^^^ (-1)) &&& ((wMx kW f (wOf S) t).2.2.2.2.2.2.1)))) + (kW t)) + (f t))), (17, .int (nI t)), (7, .long ((wMx kW f (wOf S) t).2.2.2.1)), (5, .long ((wMx kW f (wOf S) t).2.2.1)), (3, .long ((wMx kW f (wOf S) t).2.1)), (1, .long ((wMx kW f (wOf S) t).1)), (0, .ref h)]) hx hb dWs_mixSchedule_152 hl (by decide) rfl (fun ls hl => ?_)
    refine lv_lload hx hb dWs_mixSchedule_154 (lv_at hl 8 rfl) ?_
    refine lv_lstore (lv' := [(7, .long ((wMx kW f (wOf S) t).2.2.1)), (9, .long (((wMx kW f (wOf S) t).2.2.2.1) + ((((((wMx kW f (wOf S) t).2.2.2.2.2.2.2) + (wB1 ((wMx kW f (wOf S) t).2.2.2.2.1))) + ((((wMx kW f (wOf S) t).2.2.2.2.1) &&& ((wMx kW f (wOf S) t).2.2.2.2.2.1)) ^^^ ((((wMx kW f (wOf S) t).2.2.2.2.1) ^^^ (-1)) &&& ((wMx kW f (wOf S) t).2.2.2.2.2.2.1)))) + (kW t)) + (f t)))), (11, .long ((wMx kW f (wOf S) t).2.2.2.2.1)), (13, .long ((wMx kW f (wOf S) t).2.2.2.2.2.1)), (15, .long ((wMx kW f (wOf S) t).2.2.2.2.2.2.1)), (20, .long ((wB0 ((wMx kW f (wOf S) t).1)) + (((((wMx kW f (wOf S) t).1) &&& ((wMx kW f (wOf S) t).2.1)) ^^^ (((wMx kW f (wOf S) t).1) &&& ((wMx kW f (wOf S) t).2.2.1))) ^^^ (((wMx kW f (wOf S) t).2.1) &&& ((wMx kW f (wOf S) t).2.2.1))))), (18, .long ((((((wMx kW f (wOf S) t).2.2.2.2.2.2.2) + (wB1 ((wMx kW f (wOf S) t).2.2.2.2.1))) + ((((wMx kW f (wOf S) t).2.2.2.2.1) &&& ((wMx kW f (wOf S) t).2.2.2.2.2.1)) ^^^ ((((wMx kW f (wOf S) t).2.2.2.2.1) ^^^ (-1)) &&& ((wMx kW f (wOf S) t).2.2.2.2.2.2.1)))) + (kW t)) + (f t))), (17, .int (nI t)), (5, .long ((wMx kW f (wOf S) t).2.2.1)), (3, .long ((wMx kW f (wOf S) t).2.1)), (1, .long ((wMx kW f (wOf S) t).1)), (0, .ref h)]) hx hb dWs_mixSchedule_156 hl (by decide) rfl (fun ls hl => ?_)
    refine lv_lload_n hx hb dWs_mixSchedule_158 rfl (lv_at hl 9 rfl) ?_
    refine lv_lstore (lv' := [(5, .long ((wMx kW f (wOf S) t).2.1)), (7, .long ((wMx kW f (wOf S) t).2.2.1)), (9, .long (((wMx kW f (wOf S) t).2.2.2.1) + ((((((wMx kW f (wOf S) t).2.2.2.2.2.2.2) + (wB1 ((wMx kW f (wOf S) t).2.2.2.2.1))) + ((((wMx kW f (wOf S) t).2.2.2.2.1) &&& ((wMx kW f (wOf S) t).2.2.2.2.2.1)) ^^^ ((((wMx kW f (wOf S) t).2.2.2.2.1) ^^^ (-1)) &&& ((wMx kW f (wOf S) t).2.2.2.2.2.2.1)))) + (kW t)) + (f t)))), (11, .long ((wMx kW f (wOf S) t).2.2.2.2.1)), (13, .long ((wMx kW f (wOf S) t).2.2.2.2.2.1)), (15, .long ((wMx kW f (wOf S) t).2.2.2.2.2.2.1)), (20, .long ((wB0 ((wMx kW f (wOf S) t).1)) + (((((wMx kW f (wOf S) t).1) &&& ((wMx kW f (wOf S) t).2.1)) ^^^ (((wMx kW f (wOf S) t).1) &&& ((wMx kW f (wOf S) t).2.2.1))) ^^^ (((wMx kW f (wOf S) t).2.1) &&& ((wMx kW f (wOf S) t).2.2.1))))), (18, .long ((((((wMx kW f (wOf S) t).2.2.2.2.2.2.2) + (wB1 ((wMx kW f (wOf S) t).2.2.2.2.1))) + ((((wMx kW f (wOf S) t).2.2.2.2.1) &&& ((wMx kW f (wOf S) t).2.2.2.2.2.1)) ^^^ ((((wMx kW f (wOf S) t).2.2.2.2.1) ^^^ (-1)) &&& ((wMx kW f (wOf S) t).2.2.2.2.2.2.1)))) + (kW t)) + (f t))), (17, .int (nI t)), (3, .long ((wMx kW f (wOf S) t).2.1)), (1, .long ((wMx kW f (wOf S) t).1)), (0, .ref h)]) hx hb dWs_mixSchedule_159 hl (by decide) rfl (fun ls hl => ?_)
    refine lv_lload_n hx hb dWs_mixSchedule_161 rfl (lv_at hl 10 rfl) ?_
    refine lv_lstore_n (lv' := [(3, .long ((wMx kW f (wOf S) t).1)), (5, .long ((wMx kW f (wOf S) t).2.1)), (7, .long ((wMx kW f (wOf S) t).2.2.1)), (9, .long (((wMx kW f (wOf S) t).2.2.2.1) + ((((((wMx kW f (wOf S) t).2.2.2.2.2.2.2) + (wB1 ((wMx kW f (wOf S) t).2.2.2.2.1))) + ((((wMx kW f (wOf S) t).2.2.2.2.1) &&& ((wMx kW f (wOf S) t).2.2.2.2.2.1)) ^^^ ((((wMx kW f (wOf S) t).2.2.2.2.1) ^^^ (-1)) &&& ((wMx kW f (wOf S) t).2.2.2.2.2.2.1)))) + (kW t)) + (f t)))), (11, .long ((wMx kW f (wOf S) t).2.2.2.2.1)), (13, .long ((wMx kW f (wOf S) t).2.2.2.2.2.1)), (15, .long ((wMx kW f (wOf S) t).2.2.2.2.2.2.1)), (20, .long ((wB0 ((wMx kW f (wOf S) t).1)) + (((((wMx kW f (wOf S) t).1) &&& ((wMx kW f (wOf S) t).2.1)) ^^^ (((wMx kW f (wOf S) t).1) &&& ((wMx kW f (wOf S) t).2.2.1))) ^^^ (((wMx kW f (wOf S) t).2.1) &&& ((wMx kW f (wOf S) t).2.2.1))))), (18, .long ((((((wMx kW f (wOf S) t).2.2.2.2.2.2.2) + (wB1 ((wMx kW f (wOf S) t).2.2.2.2.1))) + ((((wMx kW f (wOf S) t).2.2.2.2.1) &&& ((wMx kW f (wOf S) t).2.2.2.2.2.1)) ^^^ ((((wMx kW f (wOf S) t).2.2.2.2.1) ^^^ (-1)) &&& ((wMx kW f (wOf S) t).2.2.2.2.2.2.1)))) + (kW t)) + (f t))), (17, .int (nI t)), (1, .long ((wMx kW f (wOf S) t).1)), (0, .ref h)]) hx hb dWs_mixSchedule_162 rfl hl (by decide) rfl (fun ls hl => ?_)
    refine lv_lload hx hb dWs_mixSchedule_163 (lv_at hl 8 rfl) ?_
    refine lv_lload hx hb dWs_mixSchedule_165 (lv_at hl 7 rfl) ?_
    refine lv_ladd hx hb dWs_mixSchedule_167 ?_
    refine lv_lstore_n (lv' := [(1, .long (((((((wMx kW f (wOf S) t).2.2.2.2.2.2.2) + (wB1 ((wMx kW f (wOf S) t).2.2.2.2.1))) + ((((wMx kW f (wOf S) t).2.2.2.2.1) &&& ((wMx kW f (wOf S) t).2.2.2.2.2.1)) ^^^ ((((wMx kW f (wOf S) t).2.2.2.2.1) ^^^ (-1)) &&& ((wMx kW f (wOf S) t).2.2.2.2.2.2.1)))) + (kW t)) + (f t)) + ((wB0 ((wMx kW f (wOf S) t).1)) + (((((wMx kW f (wOf S) t).1) &&& ((wMx kW f (wOf S) t).2.1)) ^^^ (((wMx kW f (wOf S) t).1) &&& ((wMx kW f (wOf S) t).2.2.1))) ^^^ (((wMx kW f (wOf S) t).2.1) &&& ((wMx kW f (wOf S) t).2.2.1)))))), (3, .long ((wMx kW f (wOf S) t).1)), (5, .long ((wMx kW f (wOf S) t).2.1)), (7, .long ((wMx kW f (wOf S) t).2.2.1)), (9, .long (((wMx kW f (wOf S) t).2.2.2.1) + ((((((wMx kW f (wOf S) t).2.2.2.2.2.2.2) + (wB1 ((wMx kW f (wOf S) t).2.2.2.2.1))) + ((((wMx kW f (wOf S) t).2.2.2.2.1) &&& ((wMx kW f (wOf S) t).2.2.2.2.2.1)) ^^^ ((((wMx kW f (wOf S) t).2.2.2.2.1) ^^^ (-1)) &&& ((wMx kW f (wOf S) t).2.2.2.2.2.2.1)))) + (kW t)) + (f t)))), (11, .long ((wMx kW f (wOf S) t).2.2.2.2.1)), (13, .long ((wMx kW f (wOf S) t).2.2.2.2.2.1)), (15, .long ((wMx kW f (wOf S) t).2.2.2.2.2.2.1)), (20, .long ((wB0 ((wMx kW f (wOf S) t).1)) + (((((wMx kW f (wOf S) t).1) &&& ((wMx kW f (wOf S) t).2.1)) ^^^ (((wMx kW f (wOf S) t).1) &&& ((wMx kW f (wOf S) t).2.2.1))) ^^^ (((wMx kW f (wOf S) t).2.1) &&& ((wMx kW f (wOf S) t).2.2.1))))), (18, .long ((((((wMx kW f (wOf S) t).2.2.2.2.2.2.2) + (wB1 ((wMx kW f (wOf S) t).2.2.2.2.1))) + ((((wMx kW f (wOf S) t).2.2.2.2.1) &&& ((wMx kW f (wOf S) t).2.2.2.2.2.1)) ^^^ ((((wMx kW f (wOf S) t).2.2.2.2.1) ^^^ (-1)) &&& ((wMx kW f (wOf S) t).2.2.2.2.2.2.1)))) + (kW t)) + (f t))), (17, .int (nI t)), (0, .ref h)]) hx hb dWs_mixSchedule_168 rfl hl (by decide) rfl (fun ls hl => ?_)
    refine ri_inc (lv' := [(17, .int (nI (t + 1))), (1, .long (((((((wMx kW f (wOf S) t).2.2.2.2.2.2.2) + (wB1 ((wMx kW f (wOf S) t).2.2.2.2.1))) + ((((wMx kW f (wOf S) t).2.2.2.2.1) &&& ((wMx kW f (wOf S) t).2.2.2.2.2.1)) ^^^ ((((wMx kW f (wOf S) t).2.2.2.2.1) ^^^ (-1)) &&& ((wMx kW f (wOf S) t).2.2.2.2.2.2.1)))) + (kW t)) + (f t)) + ((wB0 ((wMx kW f (wOf S) t).1)) + (((((wMx kW f (wOf S) t).1) &&& ((wMx kW f (wOf S) t).2.1)) ^^^ (((wMx kW f (wOf S) t).1) &&& ((wMx kW f (wOf S) t).2.2.1))) ^^^ (((wMx kW f (wOf S) t).2.1) &&& ((wMx kW f (wOf S) t).2.2.1)))))), (3, .long ((wMx kW f (wOf S) t).1)), (5, .long ((wMx kW f (wOf S) t).2.1)), (7, .long ((wMx kW f (wOf S) t).2.2.1)), (9, .long (((wMx kW f (wOf S) t).2.2.2.1) + ((((((wMx kW f (wOf S) t).2.2.2.2.2.2.2) + (wB1 ((wMx kW f (wOf S) t).2.2.2.2.1))) + ((((wMx kW f (wOf S) t).2.2.2.2.1) &&& ((wMx kW f (wOf S) t).2.2.2.2.2.1)) ^^^ ((((wMx kW f (wOf S) t).2.2.2.2.1) ^^^ (-1)) &&& ((wMx kW f (wOf S) t).2.2.2.2.2.2.1)))) + (kW t)) + (f t)))), (11, .long ((wMx kW f (wOf S) t).2.2.2.2.1)), (13, .long ((wMx kW f (wOf S) t).2.2.2.2.2.1)), (15, .long ((wMx kW f (wOf S) t).2.2.2.2.2.2.1)), (20, .long ((wB0 ((wMx kW f (wOf S) t).1)) + (((((wMx kW f (wOf S) t).1) &&& ((wMx kW f (wOf S) t).2.1)) ^^^ (((wMx kW f (wOf S) t).1) &&& ((wMx kW f (wOf S) t).2.2.1))) ^^^ (((wMx kW f (wOf S) t).2.1) &&& ((wMx kW f (wOf S) t).2.2.1))))), (18, .long ((((((wMx kW f (wOf S) t).2.2.2.2.2.2.2) + (wB1 ((wMx kW f (wOf S) t).2.2.2.2.1))) + ((((wMx kW f (wOf S) t).2.2.2.2.1) &&& ((wMx kW f (wOf S) t).2.2.2.2.2.1)) ^^^ ((((wMx kW f (wOf S) t).2.2.2.2.1) ^^^ (-1)) &&& ((wMx kW f (wOf S) t).2.2.2.2.2.2.1)))) + (kW t)) + (f t))), (0, .ref h)]) (k := 10) (d := 1) hx hb dWs_mixSchedule_169 hl rfl (by decide) (by decide) rfl (fun ls hl => ?_)
    refine lv_goto (tgt := 67) hx hb dWs_mixSchedule_172 (by decide) ?_
    exact ih _ _ _ ⟨hP, hD, hS, lv_sub hl [0, 8, 7, 6, 5, 4, 3, 2, 1, 11] rfl⟩
  · skip
    refine lv_iload hx hb dWs_mixSchedule_67 (lv_at hl 0 rfl) ?_
    refine lv_bipush (v := nI 80) hx hb dWs_mixSchedule_69 (by decide) ?_
    refine ri_ge (tgt := 175) hx hb dWs_mixSchedule_71 (by decide) (by omega) (by omega) (fun c_71 => ?_) (fun c_71 => absurd c_71 (by omega))
    refine lv_aload_n hx hb dWs_mixSchedule_175 rfl (lv_at hl 9 rfl) ?_
    refine va_get (D := D) (ci := 3) (v := .ref a1) (C := R_Ws) (T := T_Ws) (N := 9) hx hb hts in_Ws hown hK hP 0 rfl rfl 0 (by decide) (hts _ gm_103) (fun x h9 => u_same (hts _ gm_104) x h9) rfl dWs_mixSchedule_176 ?_
    refine lv_iconst (v := nI 0) hx hb dWs_mixSchedule_179 (by decide) ?_
    refine lv_dup2_11 hx hb dWs_mixSchedule_180 rfl rfl ?_
    refine rl_ld hx hb hK hP 1 2 rfl rfl (by omega) (by omega) dWs_mixSchedule_181 ?_
    refine lv_lload_n hx hb dWs_mixSchedule_182 rfl (lv_at hl 8 rfl) ?_
    refine lv_ladd hx hb dWs_mixSchedule_183 ?_
    refine rl_st hx hb hK hP hD hS 1 2 rfl rfl (by omega) (by omega) dWs_mixSchedule_184 (fun H locs hP hD hS => ?_)
    obtain ⟨s1, es1, hP, hD⟩ : ∃ z, z = vp_updL S 0 ((S 0) + ((wMx kW f (wOf S) 80).1)) ∧ va_P D vwCl [(h, .inr (3, [.ref a1, .ref a2, .int (nI nh), .ref ts, .int (nI 8), .int (nI fl), .long tot, .int bc, .ref a3])), (a1, .inl (k 2, 8, .inr (.inl z))), (a2, .inl (k 0, 128, .inl (by_ b))), (a3, .inl (k 2, 80, .inr (.inl f)))] H ∧ va_D A [(h, .inr (3, [.ref a1, .ref a2, .int (nI nh), .ref ts, .int (nI 8), .int (nI fl), .long tot, .int bc, .ref a3])), (a1, .inl (k 2, 8, .inr (.inl z))), (a2, .inl (k 0, 128, .inl (by_ b))), (a3, .inl (k 2, 80, .inr (.inl f)))] := ⟨_, rfl, hP, hD⟩
    refine lv_aload_n hx hb dWs_mixSchedule_185 rfl (lv_at hl 9 rfl) ?_
    refine va_get (D := D) (ci := 3) (v := .ref a1) (C := R_Ws) (T := T_Ws) (N := 9) hx hb hts in_Ws hown hK hP 0 rfl rfl 0 (by decide) (hts _ gm_103) (fun x h9 => u_same (hts _ gm_104) x h9) rfl dWs_mixSchedule_186 ?_
    refine lv_iconst (v := nI 1) hx hb dWs_mixSchedule_189 (by decide) ?_
    refine lv_dup2_11 hx hb dWs_mixSchedule_190 rfl rfl ?_
    refine rl_ld hx hb hK hP 1 2 rfl rfl (by omega) (by omega) dWs_mixSchedule_191 ?_
    refine lv_lload_n hx hb dWs_mixSchedule_192 rfl (lv_at hl 7 rfl) ?_
    refine lv_ladd hx hb dWs_mixSchedule_193 ?_
    refine rl_st hx hb hK hP hD hS 1 2 rfl rfl (by omega) (by omega) dWs_mixSchedule_194 (fun H locs hP hD hS => ?_)
    obtain ⟨s2, es2, hP, hD⟩ : ∃ z, z = vp_updL s1 1 ((s1 1) + ((wMx kW f (wOf S) 80).2.1)) ∧ va_P D vwCl [(h, .inr (3, [.ref a1, .ref a2, .int (nI nh), .ref ts, .int (nI 8), .int (nI fl), .long tot, .int bc, .ref a3])), (a1, .inl (k 2, 8, .inr (.inl z))), (a2, .inl (k 0, 128, .inl (by_ b))), (a3, .inl (k 2, 80, .inr (.inl f)))] H ∧ va_D A [(h, .inr (3, [.ref a1, .ref a2, .int (nI nh), .ref ts, .int (nI 8), .int (nI fl), .long tot, .int bc, .ref a3])), (a1, .inl (k 2, 8, .inr (.inl z))), (a2, .inl (k 0, 128, .inl (by_ b))), (a3, .inl (k 2, 80, .inr (.inl f)))] := ⟨_, rfl, hP, hD⟩
    refine lv_aload_n hx hb dWs_mixSchedule_195 rfl (lv_at hl 9 rfl) ?_
    refine va_get (D := D) (ci := 3) (v := .ref a1) (C := R_Ws) (T := T_Ws) (N := 9) hx hb hts in_Ws hown hK hP 0 rfl rfl 0 (by decide) (hts _ gm_103) (fun x h9 => u_same (hts _ gm_104) x h9) rfl dWs_mixSchedule_196 ?_
    refine lv_iconst (v := nI 2) hx hb dWs_mixSchedule_199 (by decide) ?_
    refine lv_dup2_11 hx hb dWs_mixSchedule_200 rfl rfl ?_
    refine rl_ld hx hb hK hP 1 2 rfl rfl (by omega) (by omega) dWs_mixSchedule_201 ?_
    refine lv_lload hx hb dWs_mixSchedule_202 (lv_at hl 6 rfl) ?_
    refine lv_ladd hx hb dWs_mixSchedule_204 ?_
    refine rl_st hx hb hK hP hD hS 1 2 rfl rfl (by omega) (by omega) dWs_mixSchedule_205 (fun H locs hP hD hS => ?_)
    obtain ⟨s3, es3, hP, hD⟩ : ∃ z, z = vp_updL s2 2 ((s2 2) + ((wMx kW f (wOf S) 80).2.2.1)) ∧ va_P D vwCl [(h, .inr (3, [.ref a1, .ref a2, .int (nI nh), .ref ts, .int (nI 8), .int (nI fl), .long tot, .int bc, .ref a3])), (a1, .inl (k 2, 8, .inr (.inl z))), (a2, .inl (k 0, 128, .inl (by_ b))), (a3, .inl (k 2, 80, .inr (.inl f)))] H ∧ va_D A [(h, .inr (3, [.ref a1, .ref a2, .int (nI nh), .ref ts, .int (nI 8), .int (nI fl), .long tot, .int bc, .ref a3])), (a1, .inl (k 2, 8, .inr (.inl z))), (a2, .inl (k 0, 128, .inl (by_ b))), (a3, .inl (k 2, 80, .inr (.inl f)))] := ⟨_, rfl, hP, hD⟩
    refine lv_aload_n hx hb dWs_mixSchedule_206 rfl (lv_at hl 9 rfl) ?_
    refine va_get (D := D) (ci := 3) (v := .ref a1) (C := R_Ws) (T := T_Ws) (N := 9) hx hb hts in_Ws hown hK hP 0 rfl rfl 0 (by decide) (hts _ gm_103) (fun x h9 => u_same (hts _ gm_104) x h9) rfl dWs_mixSchedule_207 ?_
    refine lv_iconst (v := nI 3) hx hb dWs_mixSchedule_210 (by decide) ?_
    refine lv_dup2_11 hx hb dWs_mixSchedule_211 rfl rfl ?_
    refine rl_ld hx hb hK hP 1 2 rfl rfl (by omega) (by omega) dWs_mixSchedule_212 ?_
    refine lv_lload hx hb dWs_mixSchedule_213 (lv_at hl 5 rfl) ?_
    refine lv_ladd hx hb dWs_mixSchedule_215 ?_
    refine rl_st hx hb hK hP hD hS 1 2 rfl rfl (by omega) (by omega) dWs_mixSchedule_216 (fun H locs hP hD hS => ?_)
    obtain ⟨s4, es4, hP, hD⟩ : ∃ z, z = vp_updL s3 3 ((s3 3) + ((wMx kW f (wOf S) 80).2.2.2.1)) ∧ va_P D vwCl [(h, .inr (3, [.ref a1, .ref a2, .int (nI nh), .ref ts, .int (nI 8), .int (nI fl), .long tot, .int bc, .ref a3])), (a1, .inl (k 2, 8, .inr (.inl z))), (a2, .inl (k 0, 128, .inl (by_ b))), (a3, .inl (k 2, 80, .inr (.inl f)))] H ∧ va_D A [(h, .inr (3, [.ref a1, .ref a2, .int (nI nh), .ref ts, .int (nI 8), .int (nI fl), .long tot, .int bc, .ref a3])), (a1, .inl (k 2, 8, .inr (.inl z))), (a2, .inl (k 0, 128, .inl (by_ b))), (a3, .inl (k 2, 80, .inr (.inl f)))] := ⟨_, rfl, hP, hD⟩
    refine lv_aload_n hx hb dWs_mixSchedule_217 rfl (lv_at hl 9 rfl) ?_
    refine va_get (D := D) (ci := 3) (v := .ref a1) (C := R_Ws) (T := T_Ws) (N := 9) hx hb hts in_Ws hown hK hP 0 rfl rfl 0 (by decide) (hts _ gm_103) (fun x h9 => u_same (hts _ gm_104) x h9) rfl dWs_mixSchedule_218 ?_
    refine lv_iconst (v := nI 4) hx hb dWs_mixSchedule_221 (by decide) ?_
    refine lv_dup2_11 hx hb dWs_mixSchedule_222 rfl rfl ?_
    refine rl_ld hx hb hK hP 1 2 rfl rfl (by omega) (by omega) dWs_mixSchedule_223 ?_
    refine lv_lload hx hb dWs_mixSchedule_224 (lv_at hl 4 rfl) ?_
    refine lv_ladd hx hb dWs_mixSchedule_226 ?_
    refine rl_st hx hb hK hP hD hS 1 2 rfl rfl (by omega) (by omega) dWs_mixSchedule_227 (fun H locs hP hD hS => ?_)
    obtain ⟨s5, es5, hP, hD⟩ : ∃ z, z = vp_updL s4 4 ((s4 4) + ((wMx kW f (wOf S) 80).2.2.2.2.1)) ∧ va_P D vwCl [(h, .inr (3, [.ref a1, .ref a2, .int (nI nh), .ref ts, .int (nI 8), .int (nI fl), .long tot, .int bc, .ref a3])), (a1, .inl (k 2, 8, .inr (.inl z))), (a2, .inl (k 0, 128, .inl (by_ b))), (a3, .inl (k 2, 80, .inr (.inl f)))] H ∧ va_D A [(h, .inr (3, [.ref a1, .ref a2, .int (nI nh), .ref ts, .int (nI 8), .int (nI fl), .long tot, .int bc, .ref a3])), (a1, .inl (k 2, 8, .inr (.inl z))), (a2, .inl (k 0, 128, .inl (by_ b))), (a3, .inl (k 2, 80, .inr (.inl f)))] := ⟨_, rfl, hP, hD⟩
    refine lv_aload_n hx hb dWs_mixSchedule_228 rfl (lv_at hl 9 rfl) ?_
    refine va_get (D := D) (ci := 3) (v := .ref a1) (C := R_Ws) (T := T_Ws) (N := 9) hx hb hts in_Ws hown hK hP 0 rfl rfl 0 (by decide) (hts _ gm_103) (fun x h9 => u_same (hts _ gm_104) x h9) rfl dWs_mixSchedule_229 ?_
    refine lv_iconst (v := nI 5) hx hb dWs_mixSchedule_232 (by decide) ?_
    refine lv_dup2_11 hx hb dWs_mixSchedule_233 rfl rfl ?_
    refine rl_ld hx hb hK hP 1 2 rfl rfl (by omega) (by omega) dWs_mixSchedule_234 ?_
    refine lv_lload hx hb dWs_mixSchedule_235 (lv_at hl 3 rfl) ?_
    refine lv_ladd hx hb dWs_mixSchedule_237 ?_
    refine rl_st hx hb hK hP hD hS 1 2 rfl rfl (by omega) (by omega) dWs_mixSchedule_238 (fun H locs hP hD hS => ?_)
    obtain ⟨s6, es6, hP, hD⟩ : ∃ z, z = vp_updL s5 5 ((s5 5) + ((wMx kW f (wOf S) 80).2.2.2.2.2.1)) ∧ va_P D vwCl [(h, .inr (3, [.ref a1, .ref a2, .int (nI nh), .ref ts, .int (nI 8), .int (nI fl), .long tot, .int bc, .ref a3])), (a1, .inl (k 2, 8, .inr (.inl z))), (a2, .inl (k 0, 128, .inl (by_ b))), (a3, .inl (k 2, 80, .inr (.inl f)))] H ∧ va_D A [(h, .inr (3, [.ref a1, .ref a2, .int (nI nh), .ref ts, .int (nI 8), .int (nI fl), .long tot, .int bc, .ref a3])), (a1, .inl (k 2, 8, .inr (.inl z))), (a2, .inl (k 0, 128, .inl (by_ b))), (a3, .inl (k 2, 80, .inr (.inl f)))] := ⟨_, rfl, hP, hD⟩
    refine lv_aload_n hx hb dWs_mixSchedule_239 rfl (lv_at hl 9 rfl) ?_
    refine va_get (D := D) (ci := 3) (v := .ref a1) (C := R_Ws) (T := T_Ws) (N := 9) hx hb hts in_Ws hown hK hP 0 rfl rfl 0 (by decide) (hts _ gm_103) (fun x h9 => u_same (hts _ gm_104) x h9) rfl dWs_mixSchedule_240 ?_
    refine lv_bipush (v := nI 6) hx hb dWs_mixSchedule_243 (by decide) ?_
    refine lv_dup2_11 hx hb dWs_mixSchedule_245 rfl rfl ?_
    refine rl_ld hx hb hK hP 1 2 rfl rfl (by omega) (by omega) dWs_mixSchedule_246 ?_
    refine lv_lload hx hb dWs_mixSchedule_247 (lv_at hl 2 rfl) ?_
    refine lv_ladd hx hb dWs_mixSchedule_249 ?_
    refine rl_st hx hb hK hP hD hS 1 2 rfl rfl (by omega) (by omega) dWs_mixSchedule_250 (fun H locs hP hD hS => ?_)
    obtain ⟨s7, es7, hP, hD⟩ : ∃ z, z = vp_updL s6 6 ((s6 6) + ((wMx kW f (wOf S) 80).2.2.2.2.2.2.1)) ∧ va_P D vwCl [(h, .inr (3, [.ref a1, .ref a2, .int (nI nh), .ref ts, .int (nI 8), .int (nI fl), .long tot, .int bc, .ref a3])), (a1, .inl (k 2, 8, .inr (.inl z))), (a2, .inl (k 0, 128, .inl (by_ b))), (a3, .inl (k 2, 80, .inr (.inl f)))] H ∧ va_D A [(h, .inr (3, [.ref a1, .ref a2, .int (nI nh), .ref ts, .int (nI 8), .int (nI fl), .long tot, .int bc, .ref a3])), (a1, .inl (k 2, 8, .inr (.inl z))), (a2, .inl (k 0, 128, .inl (by_ b))), (a3, .inl (k 2, 80, .inr (.inl f)))] := ⟨_, rfl, hP, hD⟩
    refine lv_aload_n hx hb dWs_mixSchedule_251 rfl (lv_at hl 9 rfl) ?_
    refine va_get (D := D) (ci := 3) (v := .ref a1) (C := R_Ws) (T := T_Ws) (N := 9) hx hb hts in_Ws hown hK hP 0 rfl rfl 0 (by decide) (hts _ gm_103) (fun x h9 => u_same (hts _ gm_104) x h9) rfl dWs_mixSchedule_252 ?_
    refine lv_bipush (v := nI 7) hx hb dWs_mixSchedule_255 (by decide) ?_
    refine lv_dup2_11 hx hb dWs_mixSchedule_257 rfl rfl ?_
    refine rl_ld hx hb hK hP 1 2 rfl rfl (by omega) (by omega) dWs_mixSchedule_258 ?_
    refine lv_lload hx hb dWs_mixSchedule_259 (lv_at hl 1 rfl) ?_
    refine lv_ladd hx hb dWs_mixSchedule_261 ?_
    refine rl_st hx hb hK hP hD hS 1 2 rfl rfl (by omega) (by omega) dWs_mixSchedule_262 (fun H locs hP hD hS => ?_)
    obtain ⟨s8, es8, hP, hD⟩ : ∃ z, z = vp_updL s7 7 ((s7 7) + ((wMx kW f (wOf S) 80).2.2.2.2.2.2.2)) ∧ va_P D vwCl [(h, .inr (3, [.ref a1, .ref a2, .int (nI nh), .ref ts, .int (nI 8), .int (nI fl), .long tot, .int bc, .ref a3])), (a1, .inl (k 2, 8, .inr (.inl z))), (a2, .inl (k 0, 128, .inl (by_ b))), (a3, .inl (k 2, 80, .inr (.inl f)))] H ∧ va_D A [(h, .inr (3, [.ref a1, .ref a2, .int (nI nh), .ref ts, .int (nI 8), .int (nI fl), .long tot, .int bc, .ref a3])), (a1, .inl (k 2, 8, .inr (.inl z))), (a2, .inl (k 0, 128, .inl (by_ b))), (a3, .inl (k 2, 80, .inr (.inl f)))] := ⟨_, rfl, hP, hD⟩
    have e9 : s8 = add8 S ((wMx kW f (wOf S) 80)) := add8_ch es1 es2 es3 es4 es5 es6 es7 es8
    rw [e9] at hP hD
    refine W.widen (k := 0) (n := 0) (Nat.le_refl _) (Nat.le_refl _) ?_
    exact W.vret hx hb hr (fun t ht hW => ⟨⟨(), rfl, trivial, by rw [ht]; exact hP, hD⟩, hS.F ht⟩) hS.2.2 dWs_mixSchedule_263
