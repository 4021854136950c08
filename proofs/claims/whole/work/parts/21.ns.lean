/-! NarrowSha: its blocks -/
def wNs_init : List Cond := .code yNs_init cNs_init 3 none :: GT
def wNs_bigSigma0 : List Cond := .code yNs_bigSigma0 cNs_bigSigma0 1 (some .int) :: GT
def wNs_bigSigma1 : List Cond := .code yNs_bigSigma1 cNs_bigSigma1 1 (some .int) :: GT
def wNs_fillSchedule : List Cond := .code yNs_fillSchedule cNs_fillSchedule 4 none :: GT
def wNs_mixSchedule : List Cond := .code yNs_mixSchedule cNs_mixSchedule 12 none :: GT
def wNs_smallSigma0 : List Cond := .code yNs_smallSigma0 cNs_smallSigma0 1 (some .int) :: GT
def wNs_smallSigma1 : List Cond := .code yNs_smallSigma1 cNs_smallSigma1 1 (some .int) :: GT
set_option maxHeartbeats 600000 in
set_option maxRecDepth 100000 in
theorem c_Ns_bigSigma0 (l : Launch) (D : va_G) (k : Nat → ClassId) (tb : Nat → Nat) (sz : Nat) (x : Int32) : Met l yNs_bigSigma0 wNs_bigSigma0 ({ frames := 0, cells := 0, slots := 0, locals := 0 }) (cP D k tb [] sz [.int x]) (va_Qi (fun (r : Int32) (u : Unit) => r = nB0 x) (fun (u : Unit) (t : State) => va_P D vwCl [] t.heap ∧ va_D (va_A [] sz) []) (va_A [] sz)) (0) (0) (va_A [] sz) := by
  refine Met.ofW (cc := cNs_bigSigma0) (maxL := 1) (ret := (some .int)) (by decide) rfl ?_
  intro p e s m args below meth c s₁ B hml hv
  obtain ⟨rfl, hsz, hP, hK, hD0, hG⟩ := hv
  have hx := B.exec
  have hb := B.bytes
  have hr := B.returns
  have hts : ∀ w ∈ GT, w.before _ s = true := fun w h => atoms_spec (ws := wNs_bigSigma0) B.pre w (List.mem_cons_of_mem _ h)
  have hown : s.vm.findClass R_Ns = some m.cls := findClass_of_methodNamed B.named
  have hlocks := B.notSynchronized
  subst hsz
  have hD := hD0.self (sz := s.heap.size)
  generalize hAe : va_A [] s.heap.size = A at hD hG ⊢
  have hA : ∀ q : Nat, s.heap.size ≤ q → A q := fun q h => by rw [← hAe]; exact Or.inr h
  have hl := lv_entry ([.int x]) (n := 1) (Nat.le_of_ble_eq_true rfl)
  rw [lg_entry_eq]
  generalize (lg_sl ([.int x]) ++ List.replicate (1 - (lg_sl ([.int x])).length) Slot.unset).toArray = ls at hl ⊢
  have hl : lv_has ls 1 [(0, .int x)] := hl
  refine cw_start (A := A) hP (fun H locs hP hS => ?_)
  refine lv_iload_n hx hb dNs_bigSigma0_0 rfl (lv_at hl 0 rfl) ?_
  refine lv_iconst (v := 2) hx hb dNs_bigSigma0_1 (by decide) ?_
  refine lv_iushr (v := iu x 2) hx hb dNs_bigSigma0_2 rfl ?_
  refine lv_iload_n hx hb dNs_bigSigma0_3 rfl (lv_at hl 0 rfl) ?_
  refine lv_bipush (v := 30) hx hb dNs_bigSigma0_4 (by decide) ?_
  refine rs_ishl hx hb dNs_bigSigma0_6 ?_
  refine lv_ior hx hb dNs_bigSigma0_7 ?_
  refine lv_iload_n hx hb dNs_bigSigma0_8 rfl (lv_at hl 0 rfl) ?_
  refine lv_bipush (v := 13) hx hb dNs_bigSigma0_9 (by decide) ?_
  refine lv_iushr (v := iu x 13) hx hb dNs_bigSigma0_11 rfl ?_
  refine lv_iload_n hx hb dNs_bigSigma0_12 rfl (lv_at hl 0 rfl) ?_
  refine lv_bipush (v := 19) hx hb dNs_bigSigma0_13 (by decide) ?_
  refine rs_ishl hx hb dNs_bigSigma0_15 ?_
  refine lv_ior hx hb dNs_bigSigma0_16 ?_
  refine lv_ixor hx hb dNs_bigSigma0_17 ?_
  refine lv_iload_n hx hb dNs_bigSigma0_18 rfl (lv_at hl 0 rfl) ?_
  refine lv_bipush (v := 22) hx hb dNs_bigSigma0_19 (by decide) ?_
  refine lv_iushr (v := iu x 22) hx hb dNs_bigSigma0_21 rfl ?_
  refine lv_iload_n hx hb dNs_bigSigma0_22 rfl (lv_at hl 0 rfl) ?_
  refine lv_bipush (v := 10) hx hb dNs_bigSigma0_23 (by decide) ?_
  refine rs_ishl hx hb dNs_bigSigma0_25 ?_
  refine lv_ior hx hb dNs_bigSigma0_26 ?_
  refine lv_ixor hx hb dNs_bigSigma0_27 ?_
  refine W.widen (k := 0) (n := 0) (Nat.le_refl _) (Nat.le_refl _) ?_
  exact W.iret (v := nB0 x) hx hb hr (fun t ht hW => ⟨⟨nB0 x, (), rfl, rfl, by rw [ht]; exact hP, hD⟩, hS.F ht⟩) hS.2.2 dNs_bigSigma0_28
set_option maxHeartbeats 600000 in
set_option maxRecDepth 100000 in
theorem c_Ns_bigSigma1 (l : Launch) (D : va_G) (k : Nat → ClassId) (tb : Nat → Nat) (sz : Nat) (x : Int32) : Met l yNs_bigSigma1 wNs_bigSigma1 ({ frames := 0, cells := 0, slots := 0, locals := 0 }) (cP D k tb [] sz [.int x]) (va_Qi (fun (r : Int32) (u : Unit) => r = nB1 x) (fun (u : Unit) (t : State) => va_P D vwCl [] t.heap ∧ va_D (va_A [] sz) []) (va_A [] sz)) (0) (0) (va_A [] sz) := by
  refine Met.ofW (cc := cNs_bigSigma1) (maxL := 1) (ret := (some .int)) (by decide) rfl ?_
  intro p e s m args below meth c s₁ B hml hv
  obtain ⟨rfl, hsz, hP, hK, hD0, hG⟩ := hv
  have hx := B.exec
  have hb := B.bytes
  have hr := B.returns
  have hts : ∀ w ∈ GT, w.before _ s = true := fun w h => atoms_spec (ws := wNs_bigSigma1) B.pre w (List.mem_cons_of_mem _ h)
  have hown : s.vm.findClass R_Ns = some m.cls := findClass_of_methodNamed B.named
  have hlocks := B.notSynchronized
  subst hsz
  have hD := hD0.self (sz := s.heap.size)
  generalize hAe : va_A [] s.heap.size = A at hD hG ⊢
  have hA : ∀ q : Nat, s.heap.size ≤ q → A q := fun q h => by rw [← hAe]; exact Or.inr h
  have hl := lv_entry ([.int x]) (n := 1) (Nat.le_of_ble_eq_true rfl)
  rw [lg_entry_eq]
  generalize (lg_sl ([.int x]) ++ List.replicate (1 - (lg_sl ([.int x])).length) Slot.unset).toArray = ls at hl ⊢
  have hl : lv_has ls 1 [(0, .int x)] := hl
  refine cw_start (A := A) hP (fun H locs hP hS => ?_)
  refine lv_iload_n hx hb dNs_bigSigma1_0 rfl (lv_at hl 0 rfl) ?_
  refine lv_bipush (v := 6) hx hb dNs_bigSigma1_1 (by decide) ?_
  refine lv_iushr (v := iu x 6) hx hb dNs_bigSigma1_3 rfl ?_
  refine lv_iload_n hx hb dNs_bigSigma1_4 rfl (lv_at hl 0 rfl) ?_
  refine lv_bipush (v := 26) hx hb dNs_bigSigma1_5 (by decide) ?_
  refine rs_ishl hx hb dNs_bigSigma1_7 ?_
  refine lv_ior hx hb dNs_bigSigma1_8 ?_
  refine lv_iload_n hx hb dNs_bigSigma1_9 rfl (lv_at hl 0 rfl) ?_
  refine lv_bipush (v := 11) hx hb dNs_bigSigma1_10 (by decide) ?_
  refine lv_iushr (v := iu x 11) hx hb dNs_bigSigma1_12 rfl ?_
  refine lv_iload_n hx hb dNs_bigSigma1_13 rfl (lv_at hl 0 rfl) ?_
  refine lv_bipush (v := 21) hx hb dNs_bigSigma1_14 (by decide) ?_
  refine rs_ishl hx hb dNs_bigSigma1_16 ?_
  refine lv_ior hx hb dNs_bigSigma1_17 ?_
  refine lv_ixor hx hb dNs_bigSigma1_18 ?_
  refine lv_iload_n hx hb dNs_bigSigma1_19 rfl (lv_at hl 0 rfl) ?_
  refine lv_bipush (v := 25) hx hb dNs_bigSigma1_20 (by decide) ?_
  refine lv_iushr (v := iu x 25) hx hb dNs_bigSigma1_22 rfl ?_
  refine lv_iload_n hx hb dNs_bigSigma1_23 rfl (lv_at hl 0 rfl) ?_
  refine lv_bipush (v := 7) hx hb dNs_bigSigma1_24 (by decide) ?_
  refine rs_ishl hx hb dNs_bigSigma1_26 ?_
  refine lv_ior hx hb dNs_bigSigma1_27 ?_
  refine lv_ixor hx hb dNs_bigSigma1_28 ?_
  refine W.widen (k := 0) (n := 0) (Nat.le_refl _) (Nat.le_refl _) ?_
  exact W.iret (v := nB1 x) hx hb hr (fun t ht hW => ⟨⟨nB1 x, (), rfl, rfl, by rw [ht]; exact hP, hD⟩, hS.F ht⟩) hS.2.2 dNs_bigSigma1_29
set_option maxHeartbeats 600000 in
set_option maxRecDepth 100000 in
theorem c_Ns_smallSigma0 (l : Launch) (D : va_G) (k : Nat → ClassId) (tb : Nat → Nat) (sz : Nat) (x : Int32) : Met l yNs_smallSigma0 wNs_smallSigma0 ({ frames := 0, cells := 0, slots := 0, locals := 0 }) (cP D k tb [] sz [.int x]) (va_Qi (fun (r : Int32) (u : Unit) => r = nL0 x) (fun (u : Unit) (t : State) => va_P D vwCl [] t.heap ∧ va_D (va_A [] sz) []) (va_A [] sz)) (0) (0) (va_A [] sz) := by
  refine Met.ofW (cc := cNs_smallSigma0) (maxL := 1) (ret := (some .int)) (by decide) rfl ?_
  intro p e s m args below meth c s₁ B hml hv
  obtain ⟨rfl, hsz, hP, hK, hD0, hG⟩ := hv
  have hx := B.exec
  have hb := B.bytes
  have hr := B.returns
  have hts : ∀ w ∈ GT, w.before _ s = true := fun w h => atoms_spec (ws := wNs_smallSigma0) B.pre w (List.mem_cons_of_mem _ h)
  have hown : s.vm.findClass R_Ns = some m.cls := findClass_of_methodNamed B.named
  have hlocks := B.notSynchronized
  subst hsz
  have hD := hD0.self (sz := s.heap.size)
  generalize hAe : va_A [] s.heap.size = A at hD hG ⊢
  have hA : ∀ q : Nat, s.heap.size ≤ q → A q := fun q h => by rw [← hAe]; exact Or.inr h
  have hl := lv_entry ([.int x]) (n := 1) (Nat.le_of_ble_eq_true rfl)
  rw [lg_entry_eq]
  generalize (lg_sl ([.int x]) ++ List.replicate (1 - (lg_sl ([.int x])).length) Slot.unset).toArray = ls at hl ⊢
  have hl : lv_has ls 1 [(0, .int x)] := hl
  refine cw_start (A := A) hP (fun H locs hP hS => ?_)
  refine lv_iload_n hx hb dNs_smallSigma0_0 rfl (lv_at hl 0 rfl) ?_
  refine lv_bipush (v := 7) hx hb dNs_smallSigma0_1 (by decide) ?_
  refine lv_iushr (v := iu x 7) hx hb dNs_smallSigma0_3 rfl ?_
  refine lv_iload_n hx hb dNs_smallSigma0_4 rfl (lv_at hl 0 rfl) ?_
  refine lv_bipush (v := 25) hx hb dNs_smallSigma0_5 (by decide) ?_
  refine rs_ishl hx hb dNs_smallSigma0_7 ?_
  refine lv_ior hx hb dNs_smallSigma0_8 ?_
  refine lv_iload_n hx hb dNs_smallSigma0_9 rfl (lv_at hl 0 rfl) ?_
  refine lv_bipush (v := 18) hx hb dNs_smallSigma0_10 (by decide) ?_
  refine lv_iushr (v := iu x 18) hx hb dNs_smallSigma0_12 rfl ?_
  refine lv_iload_n hx hb dNs_smallSigma0_13 rfl (lv_at hl 0 rfl) ?_
  refine lv_bipush (v := 14) hx hb dNs_smallSigma0_14 (by decide) ?_
  refine rs_ishl hx hb dNs_smallSigma0_16 ?_
  refine lv_ior hx hb dNs_smallSigma0_17 ?_
  refine lv_ixor hx hb dNs_smallSigma0_18 ?_
  refine lv_iload_n hx hb dNs_smallSigma0_19 rfl (lv_at hl 0 rfl) ?_
  refine lv_iconst (v := 3) hx hb dNs_smallSigma0_20 (by decide) ?_
  refine lv_iushr (v := iu x 3) hx hb dNs_smallSigma0_21 rfl ?_
  refine lv_ixor hx hb dNs_smallSigma0_22 ?_
  refine W.widen (k := 0) (n := 0) (Nat.le_refl _) (Nat.le_refl _) ?_
  exact W.iret (v := nL0 x) hx hb hr (fun t ht hW => ⟨⟨nL0 x, (), rfl, rfl, by rw [ht]; exact hP, hD⟩, hS.F ht⟩) hS.2.2 dNs_smallSigma0_23
set_option maxHeartbeats 600000 in
set_option maxRecDepth 100000 in
theorem c_Ns_smallSigma1 (l : Launch) (D : va_G) (k : Nat → ClassId) (tb : Nat → Nat) (sz : Nat) (x : Int32) : Met l yNs_smallSigma1 wNs_smallSigma1 ({ frames := 0, cells := 0, slots := 0, locals := 0 }) (cP D k tb [] sz [.int x]) (va_Qi (fun (r : Int32) (u : Unit) => r = nL1 x) (fun (u : Unit) (t : State) => va_P D vwCl [] t.heap ∧ va_D (va_A [] sz) []) (va_A [] sz)) (0) (0) (va_A [] sz) := by
  refine Met.ofW (cc := cNs_smallSigma1) (maxL := 1) (ret := (some .int)) (by decide) rfl ?_
  intro p e s m args below meth c s₁ B hml hv
  obtain ⟨rfl, hsz, hP, hK, hD0, hG⟩ := hv
  have hx := B.exec
  have hb := B.bytes
  have hr := B.returns
  have hts : ∀ w ∈ GT, w.before _ s = true := fun w h => atoms_spec (ws := wNs_smallSigma1) B.pre w (List.mem_cons_of_mem _ h)
  have hown : s.vm.findClass R_Ns = some m.cls := findClass_of_methodNamed B.named
  have hlocks := B.notSynchronized
  subst hsz
  have hD := hD0.self (sz := s.heap.size)
  generalize hAe : va_A [] s.heap.size = A at hD hG ⊢
  have hA : ∀ q : Nat, s.heap.size ≤ q → A q := fun q h => by rw [← hAe]; exact Or.inr h
  have hl := lv_entry ([.int x]) (n := 1) (Nat.le_of_ble_eq_true rfl)
  rw [lg_entry_eq]
  generalize (lg_sl ([.int x]) ++ List.replicate (1 - (lg_sl ([.int x])).length) Slot.unset).toArray = ls at hl ⊢
  have hl : lv_has ls 1 [(0, .int x)] := hl
  refine cw_start (A := A) hP (fun H locs hP hS => ?_)
  refine lv_iload_n hx hb dNs_smallSigma1_0 rfl (lv_at hl 0 rfl) ?_
  refine lv_bipush (v := 17) hx hb dNs_smallSigma1_1 (by decide) ?_
  refine lv_iushr (v := iu x 17) hx hb dNs_smallSigma1_3 rfl ?_
  refine lv_iload_n hx hb dNs_smallSigma1_4 rfl (lv_at hl 0 rfl) ?_
  refine lv_bipush (v := 15) hx hb dNs_smallSigma1_5 (by decide) ?_
  refine rs_ishl hx hb dNs_smallSigma1_7 ?_
  refine lv_ior hx hb dNs_smallSigma1_8 ?_
  refine lv_iload_n hx hb dNs_smallSigma1_9 rfl (lv_at hl 0 rfl) ?_
  refine lv_bipush (v := 19) hx hb dNs_smallSigma1_10 (by decide) ?_
  refine lv_iushr (v := iu x 19) hx hb dNs_smallSigma1_12 rfl ?_
  refine lv_iload_n hx hb dNs_smallSigma1_13 rfl (lv_at hl 0 rfl) ?_
  refine lv_bipush (v := 13) hx hb dNs_smallSigma1_14 (by decide) ?_
  refine rs_ishl hx hb dNs_smallSigma1_16 ?_
  refine lv_ior hx hb dNs_smallSigma1_17 ?_
  refine lv_ixor hx hb dNs_smallSigma1_18 ?_
  refine lv_iload_n hx hb dNs_smallSigma1_19 rfl (lv_at hl 0 rfl) ?_
  refine lv_bipush (v := 10) hx hb dNs_smallSigma1_20 (by decide) ?_
  refine lv_iushr (v := iu x 10) hx hb dNs_smallSigma1_22 rfl ?_
  refine lv_ixor hx hb dNs_smallSigma1_23 ?_
  refine W.widen (k := 0) (n := 0) (Nat.le_refl _) (Nat.le_refl _) ?_
  exact W.iret (v := nL1 x) hx hb hr (fun t ht hW => ⟨⟨nL1 x, (), rfl, rfl, by rw [ht]; exact hP, hD⟩, hS.F ht⟩) hS.2.2 dNs_smallSigma1_24
set_option maxHeartbeats 600000 in
set_option maxRecDepth 100000 in
theorem c_Ns_fillSchedule (l : Launch) (D : va_G) (k : Nat → ClassId) (tb : Nat → Nat) (sz : Nat) (h a1 a2 a3 ts nh fl : Nat) (tot : Int64) (bc : Int32) (S : Nat → Int64) (b : Nat → Int8) (f : Nat → Int32) : Met l yNs_fillSchedule wNs_fillSchedule ({ frames := 1, cells := 0, slots := 0, locals := 20 }) (cP D k tb [(h, .inr (1, [.ref a1, .ref a2, .int (nI nh), .ref ts, .int (nI 4), .int (nI fl), .long tot, .int bc, .ref a3])), (a1, .inl (k 2, 8, .inr (.inl S))), (a2, .inl (k 0, 64, .inl (by_ b))), (a3, .inl (k 1, 64, .inl f))] sz [.ref h]) (va_Qv (fun (u : Unit) => True) (fun (u : Unit) (t : State) => va_P D vwCl [(h, .inr (1, [.ref a1, .ref a2, .int (nI nh), .ref ts, .int (nI 4), .int (nI fl), .long tot, .int bc, .ref a3])), (a1, .inl (k 2, 8, .inr (.inl S))), (a2, .inl (k 0, 64, .inl (by_ b))), (a3, .inl (k 1, 64, .inl (nSched f b)))] t.heap ∧ va_D (va_A [(h, .inr (1, [.ref a1, .ref a2, .int (nI nh), .ref ts, .int (nI 4), .int (nI fl), .long tot, .int bc, .ref a3])), (a1, .inl (k 2, 8, .inr (.inl S))), (a2, .inl (k 0, 64, .inl (by_ b))), (a3, .inl (k 1, 64, .inl f))] sz) [(h, .inr (1, [.ref a1, .ref a2, .int (nI nh), .ref ts, .int (nI 4), .int (nI fl), .long tot, .int bc, .ref a3])), (a1, .inl (k 2, 8, .inr (.inl S))), (a2, .inl (k 0, 64, .inl (by_ b))), (a3, .inl (k 1, 64, .inl (nSched f b)))]) (va_A [(h, .inr (1, [.ref a1, .ref a2, .int (nI nh), .ref ts, .int (nI 4), .int (nI fl), .long tot, .int bc, .ref a3])), (a1, .inl (k 2, 8, .inr (.inl S))), (a2, .inl (k 0, 64, .inl (by_ b))), (a3, .inl (k 1, 64, .inl f))] sz)) (0) (0) (va_A [(h, .inr (1, [.ref a1, .ref a2, .int (nI nh), .ref ts, .int (nI 4), .int (nI fl), .long tot, .int bc, .ref a3])), (a1, .inl (k 2, 8, .inr (.inl S))), (a2, .inl (k 0, 64, .inl (by_ b))), (a3, .inl (k 1, 64, .inl f))] sz) := by
  refine Met.ofW (cc := cNs_fillSchedule) (maxL := 4) (ret := none) (by decide) rfl ?_
  intro p e s m args below meth c s₁ B hml hv
  obtain ⟨rfl, hsz, hP, hK, hD0, hG⟩ := hv
  have hx := B.exec
  have hb := B.bytes
  have hr := B.returns
  have hts : ∀ w ∈ GT, w.before _ s = true := fun w h => atoms_spec (ws := wNs_fillSchedule) B.pre w (List.mem_cons_of_mem _ h)
  have hown : s.vm.findClass R_Ns = some m.cls := findClass_of_methodNamed B.named
  have hlocks := B.notSynchronized
  subst hsz
  have hD := hD0.self (sz := s.heap.size)
  generalize hAe : va_A [(h, .inr (1, [.ref a1, .ref a2, .int (nI nh), .ref ts, .int (nI 4), .int (nI fl), .long tot, .int bc, .ref a3])), (a1, .inl (k 2, 8, .inr (.inl S))), (a2, .inl (k 0, 64, .inl (by_ b))), (a3, .inl (k 1, 64, .inl f))] s.heap.size = A at hD hG ⊢
  have hA : ∀ q : Nat, s.heap.size ≤ q → A q := fun q h => by rw [← hAe]; exact Or.inr h
  have hl := lv_entry ([.ref h]) (n := 4) (Nat.le_of_ble_eq_true rfl)
  rw [lg_entry_eq]
  generalize (lg_sl ([.ref h]) ++ List.replicate (4 - (lg_sl ([.ref h])).length) Slot.unset).toArray = ls at hl ⊢
  have hl : lv_has ls 4 [(0, .ref h)] := hl
  refine cw_start (A := A) hP (fun H locs hP hS => ?_)
  refine lv_iconst (v := nI 0) hx hb dNs_fillSchedule_0 (by decide) ?_
  refine lv_istore_n (lv' := [(1, .int (nI 0)), (0, .ref h)]) hx hb dNs_fillSchedule_1 rfl hl (by decide) rfl (fun ls hl => ?_)
  refine ri_loop (fun t H locs ls => va_P D vwCl [(h, .inr (1, [.ref a1, .ref a2, .int (nI nh), .ref ts, .int (nI 4), .int (nI fl), .long tot, .int bc, .ref a3])), (a1, .inl (k 2, 8, .inr (.inl S))), (a2, .inl (k 0, 64, .inl (by_ b))), (a3, .inl (k 1, 64, .inl (nSa f b t)))] H ∧ va_D A [(h, .inr (1, [.ref a1, .ref a2, .int (nI nh), .ref ts, .int (nI 4), .int (nI fl), .long tot, .int bc, .ref a3])), (a1, .inl (k 2, 8, .inr (.inl S))), (a2, .inl (k 0, 64, .inl (by_ b))), (a3, .inl (k 1, 64, .inl (nSa f b t)))] ∧ va_S A s.heap H locs ∧ lv_has ls 4 [(1, .int (nI t)), (0, .ref h)]) 16 0 ⟨hP, hD, hS, lv_sub hl [0, 1] rfl⟩ (by omega) (fun t H locs ls lt_t ⟨hP, hD, hS, hl⟩ ih => ?_) (fun H locs ls ⟨hP, hD, hS, hl⟩ => ?_)
  · skip
    refine lv_iload_n hx hb dNs_fillSchedule_2 rfl (lv_at hl 0 rfl) ?_
    refine lv_bipush (v := nI 16) hx hb dNs_fillSchedule_3 (by decide) ?_
    refine ri_ge (tgt := 56) hx hb dNs_fillSchedule_5 (by decide) (by omega) (by omega) (fun c_5 => absurd c_5 (by omega)) (fun c_5 => ?_)
    refine lv_iconst (v := nI 0) hx hb dNs_fillSchedule_8 (by decide) ?_
    refine lv_istore_n (lv' := [(2, .int (nI 0)), (1, .int (nI t)), (0, .ref h)]) hx hb dNs_fillSchedule_9 rfl hl (by decide) rfl (fun ls hl => ?_)
    refine lv_iconst (v := nI 0) hx hb dNs_fillSchedule_10 (by decide) ?_
    refine lv_istore_n (lv' := [(3, .int (nI 0)), (2, .int (nI 0)), (1, .int (nI t)), (0, .ref h)]) hx hb dNs_fillSchedule_11 rfl hl (by decide) rfl (fun ls hl => ?_)
    refine ri_loop (fun i H locs ls => va_P D vwCl [(h, .inr (1, [.ref a1, .ref a2, .int (nI nh), .ref ts, .int (nI 4), .int (nI fl), .long tot, .int bc, .ref a3])), (a1, .inl (k 2, 8, .inr (.inl S))), (a2, .inl (k 0, 64, .inl (by_ b))), (a3, .inl (k 1, 64, .inl (nSa f b t)))] H ∧ va_D A [(h, .inr (1, [.ref a1, .ref a2, .int (nI nh), .ref ts, .int (nI 4), .int (nI fl), .long tot, .int bc, .ref a3])), (a1, .inl (k 2, 8, .inr (.inl S))), (a2, .inl (k 0, 64, .inl (by_ b))), (a3, .inl (k 1, 64, .inl (nSa f b t)))] ∧ va_S A s.heap H locs ∧ lv_has ls 4 [(3, .int (nI i)), (2, .int (nWd b t i)), (1, .int (nI t)), (0, .ref h)]) 4 0 ⟨hP, hD, hS, lv_sub hl [0, 1, 2, 3] rfl⟩ (by omega) (fun i H locs ls lt_i ⟨hP, hD, hS, hl⟩ ih => ?_) (fun H locs ls ⟨hP, hD, hS, hl⟩ => ?_)
    · skip
      refine lv_iload_n hx hb dNs_fillSchedule_12 rfl (lv_at hl 0 rfl) ?_
      refine lv_iconst (v := nI 4) hx hb dNs_fillSchedule_13 (by decide) ?_
      refine ri_ge (tgt := 43) hx hb dNs_fillSchedule_14 (by decide) (by omega) (by omega) (fun c_14 => absurd c_14 (by omega)) (fun c_14 => ?_)
      refine lv_iload_n hx hb dNs_fillSchedule_17 rfl (lv_at hl 1 rfl) ?_
      refine lv_bipush (v := 8) hx hb dNs_fillSchedule_18 (by decide) ?_
      refine rs_ishl hx hb dNs_fillSchedule_20 ?_
      refine lv_aload_n hx hb dNs_fillSchedule_21 rfl (lv_at hl 3 rfl) ?_
      refine va_get (D := D) (ci := 1) (v := .ref a2) (C := R_Ns) (T := T_Ns) (N := 9) hx hb hts in_Ns hown hK hP 0 rfl rfl 1 (by decide) (hts _ gm_108) (fun x h9 => u_same (hts _ gm_109) x h9) rfl dNs_fillSchedule_22 ?_
      refine lv_iconst (v := nI 4) hx hb dNs_fillSchedule_25 (by decide) ?_
      refine lv_iload_n hx hb dNs_fillSchedule_26 rfl (lv_at hl 2 rfl) ?_
      refine ri_mul hx hb dNs_fillSchedule_27 ?_
      refine lv_iload_n hx hb dNs_fillSchedule_28 rfl (lv_at hl 0 rfl) ?_
      refine ri_add hx hb dNs_fillSchedule_29 ?_
      refine rb_ld hx hb hK hP 2 0 rfl rfl (by omega) (by omega) dNs_fillSchedule_30 ?_
      refine lv_sipush (v := 255) hx hb dNs_fillSchedule_31 (by decide) ?_
      refine lv_iand hx hb dNs_fillSchedule_34 ?_
      refine lv_ior hx hb dNs_fillSchedule_35 ?_
      refine lv_istore_n (lv' := [(2, .int ((il (nWd b t i) 8) ||| (((b ((4 * t) + i)).toInt32) &&& 255))), (3, .int (nI i)), (1, .int (nI t)), (0, .ref h)]) hx hb dNs_fillSchedule_36 rfl hl (by decide) rfl (fun ls hl => ?_)
      refine ri_inc (lv' := [(3, .int (nI (i + 1))), (2, .int ((il (nWd b t i) 8) ||| (((b ((4 * t) + i)).toInt32) &&& 255))), (1, .int (nI t)), (0, .ref h)]) (k := 1) (d := 1) hx hb dNs_fillSchedule_37 hl rfl (by decide) (by decide) rfl (fun ls hl => ?_)
      refine lv_goto (tgt := 12) hx hb dNs_fillSchedule_40 (by decide) ?_
      exact ih _ _ _ ⟨hP, hD, hS, lv_sub hl [0, 1, 2, 3] rfl⟩
    · skip
      refine lv_iload_n hx hb dNs_fillSchedule_12 rfl (lv_at hl 0 rfl) ?_
      refine lv_iconst (v := nI 4) hx hb dNs_fillSchedule_13 (by decide) ?_
      refine ri_ge (tgt := 43) hx hb dNs_fillSchedule_14 (by decide) (by omega) (by omega) (fun c_14 => ?_) (fun c_14 => absurd c_14 (by omega))
      refine lv_aload_n hx hb dNs_fillSchedule_43 rfl (lv_at hl 3 rfl) ?_
      refine va_get (D := D) (ci := 1) (v := .ref a3) (C := R_Ns) (T := T_Ns) (N := 9) hx hb hts in_Ns hown hK hP 0 rfl rfl 8 (by decide) (hts _ gm_99) (fun _ h9 => h9) rfl dNs_fillSchedule_44 ?_
      refine lv_iload_n hx hb dNs_fillSchedule_47 rfl (lv_at hl 2 rfl) ?_
      refine lv_iload_n hx hb dNs_fillSchedule_48 rfl (lv_at hl 1 rfl) ?_
      refine rn_st hx hb hK hP hD hS 3 1 rfl rfl (by omega) (by omega) dNs_fillSchedule_49 (fun H locs hP hD hS => ?_)
      have hP : va_P D vwCl [(h, .inr (1, [.ref a1, .ref a2, .int (nI nh), .ref ts, .int (nI 4), .int (nI fl), .long tot, .int bc, .ref a3])), (a1, .inl (k 2, 8, .inr (.inl S))), (a2, .inl (k 0, 64, .inl (by_ b))), (a3, .inl (k 1, 64, .inl (upd (nSa f b t) t (nWd b t 4))))] H := hP
      have hD : va_D A [(h, .inr (1, [.ref a1, .ref a2, .int (nI nh), .ref ts, .int (nI 4), .int (nI fl), .long tot, .int bc, .ref a3])), (a1, .inl (k 2, 8, .inr (.inl S))), (a2, .inl (k 0, 64, .inl (by_ b))), (a3, .inl (k 1, 64, .inl (upd (nSa f b t) t (nWd b t 4))))] := hD
      refine ri_inc (lv' := [(1, .int (nI (t + 1))), (3, .int (nI 4)), (2, .int (nWd b t 4)), (0, .ref h)]) (k := 2) (d := 1) hx hb dNs_fillSchedule_50 hl rfl (by decide) (by decide) rfl (fun ls hl => ?_)
      refine lv_goto (tgt := 2) hx hb dNs_fillSchedule_53 (by decide) ?_
      exact ih _ _ _ ⟨hP, hD, hS, lv_sub hl [0, 3] rfl⟩
  · skip
    refine lv_iload_n hx hb dNs_fillSchedule_2 rfl (lv_at hl 0 rfl) ?_
    refine lv_bipush (v := nI 16) hx hb dNs_fillSchedule_3 (by decide) ?_
    refine ri_ge (tgt := 56) hx hb dNs_fillSchedule_5 (by decide) (by omega) (by omega) (fun c_5 => ?_) (fun c_5 => absurd c_5 (by omega))
    refine lv_bipush (v := nI 16) hx hb dNs_fillSchedule_56 (by decide) ?_
    refine lv_istore_n (lv' := [(1, .int (nI 16)), (0, .ref h)]) hx hb dNs_fillSchedule_58 rfl hl (by decide) rfl (fun ls hl => ?_)
    refine ri_loop (fun i H locs ls => va_P D vwCl [(h, .inr (1, [.ref a1, .ref a2, .int (nI nh), .ref ts, .int (nI 4), .int (nI fl), .long tot, .int bc, .ref a3])), (a1, .inl (k 2, 8, .inr (.inl S))), (a2, .inl (k 0, 64, .inl (by_ b))), (a3, .inl (k 1, 64, .inl (nSb (nSa f b 16) i)))] H ∧ va_D A [(h, .inr (1, [.ref a1, .ref a2, .int (nI nh), .ref ts, .int (nI 4), .int (nI fl), .long tot, .int bc, .ref a3])), (a1, .inl (k 2, 8, .inr (.inl S))), (a2, .inl (k 0, 64, .inl (by_ b))), (a3, .inl (k 1, 64, .inl (nSb (nSa f b 16) i)))] ∧ va_S A s.heap H locs ∧ lv_has ls 4 [(1, .int (nI (16 + i))), (0, .ref h)]) 48 0 ⟨hP, hD, hS, lv_sub hl [0, 1] rfl⟩ (by omega) (fun i H locs ls lt_i ⟨hP, hD, hS, hl⟩ ih => ?_) (fun H locs ls ⟨hP, hD, hS, hl⟩ => ?_)
    · skip
      refine lv_iload_n hx hb dNs_fillSchedule_59 rfl (lv_at hl 0 rfl) ?_
      refine lv_bipush (v := nI 64) hx hb dNs_fillSchedule_60 (by decide) ?_
      refine ri_ge (tgt := 121) hx hb dNs_fillSchedule_62 (by decide) (by omega) (by omega) (fun c_62 => absurd c_62 (by omega)) (fun c_62 => ?_)
      refine lv_aload_n hx hb dNs_fillSchedule_65 rfl (lv_at hl 1 rfl) ?_
      refine va_get (D := D) (ci := 1) (v := .ref a3) (C := R_Ns) (T := T_Ns) (N := 9) hx hb hts in_Ns hown hK hP 0 rfl rfl 8 (by decide) (hts _ gm_99) (fun _ h9 => h9) rfl dNs_fillSchedule_66 ?_
      refine lv_iload_n hx hb dNs_fillSchedule_69 rfl (lv_at hl 0 rfl) ?_
      refine lv_aload_n hx hb dNs_fillSchedule_70 rfl (lv_at hl 1 rfl) ?_
      refine va_get (D := D) (ci := 1) (v := .ref a3) (C := R_Ns) (T := T_Ns) (N := 9) hx hb hts in_Ns hown hK hP 0 rfl rfl 8 (by decide) (hts _ gm_99) (fun _ h9 => h9) rfl dNs_fillSchedule_71 ?_
      refine lv_iload_n hx hb dNs_fillSchedule_74 rfl (lv_at hl 0 rfl) ?_
      refine lv_iconst (v := nI 2) hx hb dNs_fillSchedule_75 (by decide) ?_
      refine ri_sub hx hb (by omega) dNs_fillSchedule_76 ?_
      refine rn_ld hx hb hK hP 3 1 rfl rfl (by omega) (by omega) dNs_fillSchedule_77 ?_
      refine rc_i (wr := [(h, .inr (1, [.ref a1, .ref a2, .int (nI nh), .ref ts, .int (nI 4), .int (nI fl), .long tot, .int bc, .ref a3])), (a1, .inl (k 2, 8, .inr (.inl S))), (a2, .inl (k 0, 64, .inl (by_ b))), (a3, .inl (k 1, 64, .inl (nSb (nSa f b 16) i)))]) (va_runS (As := [.int ((nSb (nSa f b 16) i) ((16 + i) - 2))]) (rest := [.int (nI (16 + i)), .ref a3]) ⟨hx, hb, hml, hown, hts⟩ (c_Ns_smallSigma1 l D k tb H.size ((nSb (nSa f b 16) i) ((16 + i) - 2))) (va_cwS 1 hts (gS gm_343 gm_344 gm_53 gm_345) rfl rfl rfl (by decide +kernel) ⟨Nat.le_of_ble_eq_true rfl, Nat.le_of_ble_eq_true rfl⟩) (cP_S hP hD hK hG hS hA [] (by decide) rfl) rfl rfl hl.1 rfl (lv_room (Nat.le_of_ble_eq_true rfl)) dNs_fillSchedule_78 ⟨Nat.le_of_ble_eq_true rfl, Nat.le_of_ble_eq_true rfl⟩) hS hA hP hD [] [0, 1, 2, 3] rfl rfl (by decide) (by decide) (fun r_1 u H locs hw hP hD hS => ?_)
      have hP : va_P D vwCl [(h, .inr (1, [.ref a1, .ref a2, .int (nI nh), .ref ts, .int (nI 4), .int (nI fl), .long tot, .int bc, .ref a3])), (a1, .inl (k 2, 8, .inr (.inl S))), (a2, .inl (k 0, 64, .inl (by_ b))), (a3, .inl (k 1, 64, .inl (nSb (nSa f b 16) i)))] H := hP
      have hD : va_D A [(h, .inr (1, [.ref a1, .ref a2, .int (nI nh), .ref ts, .int (nI 4), .int (nI fl), .long tot, .int bc, .ref a3])), (a1, .inl (k 2, 8, .inr (.inl S))), (a2, .inl (k 0, 64, .inl (by_ b))), (a3, .inl (k 1, 64, .inl (nSb (nSa f b 16) i)))] := hD
      have hw : r_1 = nL1 ((nSb (nSa f b 16) i) ((16 + i) - 2)) := hw
      subst hw
      refine lv_aload_n hx hb dNs_fillSchedule_81 rfl (lv_at hl 1 rfl) ?_
      refine va_get (D := D) (ci := 1) (v := .ref a3) (C := R_Ns) (T := T_Ns) (N := 9) hx hb hts in_Ns hown hK hP 0 rfl rfl 8 (by decide) (hts _ gm_99) (fun _ h9 => h9) rfl dNs_fillSchedule_82 ?_
      refine lv_iload_n hx hb dNs_fillSchedule_85 rfl (lv_at hl 0 rfl) ?_
      refine lv_bipush (v := nI 7) hx hb dNs_fillSchedule_86 (by decide) ?_
      refine ri_sub hx hb (by omega) dNs_fillSchedule_88 ?_
      refine rn_ld hx hb hK hP 3 1 rfl rfl (by omega) (by omega) dNs_fillSchedule_89 ?_
      refine lv_iadd hx hb dNs_fillSchedule_90 ?_
      refine lv_aload_n hx hb dNs_fillSchedule_91 rfl (lv_at hl 1 rfl) ?_
      refine va_get (D := D) (ci := 1) (v := .ref a3) (C := R_Ns) (T := T_Ns) (N := 9) hx hb hts in_Ns hown hK hP 0 rfl rfl 8 (by decide) (hts _ gm_99) (fun _ h9 => h9) rfl dNs_fillSchedule_92 ?_
      refine lv_iload_n hx hb dNs_fillSchedule_95 rfl (lv_at hl 0 rfl) ?_
      refine lv_bipush (v := nI 15) hx hb dNs_fillSchedule_96 (by decide) ?_
      refine ri_sub hx hb (by omega) dNs_fillSchedule_98 ?_
      refine rn_ld hx hb hK hP 3 1 rfl rfl (by omega) (by omega) dNs_fillSchedule_99 ?_
      refine rc_i (wr := [(h, .inr (1, [.ref a1, .ref a2, .int (nI nh), .ref ts, .int (nI 4), .int (nI fl), .long tot, .int bc, .ref a3])), (a1, .inl (k 2, 8, .inr (.inl S))), (a2, .inl (k 0, 64, .inl (by_ b))), (a3, .inl (k 1, 64, .inl (nSb (nSa f b 16) i)))]) (va_runS (As := [.int ((nSb (nSa f b 16) i) ((16 + i) - 15))]) (rest := [.int ((nL1 ((nSb (nSa f b 16) i) ((16 + i) - 2))) + ((nSb (nSa f b 16) i) ((16 + i) - 7))), .int (nI (16 + i)), .ref a3]) ⟨hx, hb, hml, hown, hts⟩ (c_Ns_smallSigma0 l D k tb H.size ((nSb (nSa f b 16) i) ((16 + i) - 15))) (va_cwS 1 hts (gS gm_346 gm_347 gm_53 gm_348) rfl rfl rfl (by decide +kernel) ⟨Nat.le_of_ble_eq_true rfl, Nat.le_of_ble_eq_true rfl⟩) (cP_S hP hD hK hG hS hA [] (by decide) rfl) rfl rfl hl.1 rfl (lv_room (Nat.le_of_ble_eq_true rfl)) dNs_fillSchedule_100 ⟨Nat.le_of_ble_eq_true rfl, Nat.le_of_ble_eq_true rfl⟩) hS hA hP hD [] [0, 1, 2, 3] rfl rfl (by decide) (by decide) (fun r_2 u H locs hw hP hD hS => ?_)
      have hP : va_P D vwCl [(h, .inr (1, [.ref a1, .ref a2, .int (nI nh), .ref ts, .int (nI 4), .int (nI fl), .long tot, .int bc, .ref a3])), (a1, .inl (k 2, 8, .inr (.inl S))), (a2, .inl (k 0, 64, .inl (by_ b))), (a3, .inl (k 1, 64, .inl (nSb (nSa f b 16) i)))] H := hP
      have hD : va_D A [(h, .inr (1, [.ref a1, .ref a2, .int (nI nh), .ref ts, .int (nI 4), .int (nI fl), .long tot, .int bc, .ref a3])), (a1, .inl (k 2, 8, .inr (.inl S))), (a2, .inl (k 0, 64, .inl (by_ b))), (a3, .inl (k 1, 64, .inl (nSb (nSa f b 16) i)))] := hD
      have hw : r_2 = nL0 ((nSb (nSa f b 16) i) ((16 + i) - 15)) := hw
      subst hw
      refine lv_iadd hx hb dNs_fillSchedule_103 ?_
      refine lv_aload_n hx hb dNs_fillSchedule_104 rfl (lv_at hl 1 rfl) ?_
      refine va_get (D := D) (ci := 1) (v := .ref a3) (C := R_Ns) (T := T_Ns) (N := 9) hx hb hts in_Ns hown hK hP 0 rfl rfl 8 (by decide) (hts _ gm_99) (fun _ h9 => h9) rfl dNs_fillSchedule_105 ?_
      refine lv_iload_n hx hb dNs_fillSchedule_108 rfl (lv_at hl 0 rfl) ?_
      refine lv_bipush (v := nI 16) hx hb dNs_fillSchedule_109 (by decide) ?_
      refine ri_sub hx hb (by omega) dNs_fillSchedule_111 ?_
      refine rn_ld hx hb hK hP 3 1 rfl rfl (by omega) (by omega) dNs_fillSchedule_112 ?_
      refine lv_iadd hx hb dNs_fillSchedule_113 ?_
      refine rn_st hx hb hK hP hD hS 3 1 rfl rfl (by omega) (by omega) dNs_fillSchedule_114 (fun H locs hP hD hS => ?_)
      have hP : va_P D vwCl [(h, .inr (1, [.ref a1, .ref a2, .int (nI nh), .ref ts, .int (nI 4), .int (nI fl), .long tot, .int bc, .ref a3])), (a1, .inl (k 2, 8, .inr (.inl S))), (a2, .inl (k 0, 64, .inl (by_ b))), (a3, .inl (k 1, 64, .inl (upd (nSb (nSa f b 16) i) (16 + i) ((((nL1 ((nSb (nSa f b 16) i) ((16 + i) - 2))) + ((nSb (nSa f b 16) i) ((16 + i) - 7))) + (nL0 ((nSb (nSa f b 16) i) ((16 + i) - 15)))) + ((nSb (nSa f b 16) i) ((16 + i) - 16))))))] H := hP
      have hD : va_D A [(h, .inr (1, [.ref a1, .ref a2, .int (nI nh), .ref ts, .int (nI 4), .int (nI fl), .long tot, .int bc, .ref a3])), (a1, .inl (k 2, 8, .inr (.inl S))), (a2, .inl (k 0, 64, .inl (by_ b))), (a3, .inl (k 1, 64, .inl (upd (nSb (nSa f b 16) i) (16 + i) ((((nL1 ((nSb (nSa f b 16) i) ((16 + i) - 2))) + ((nSb (nSa f b 16) i) ((16 + i) - 7))) + (nL0 ((nSb (nSa f b 16) i) ((16 + i) - 15)))) + ((nSb (nSa f b 16) i) ((16 + i) - 16))))))] := hD
      refine ri_inc (lv' := [(1, .int (nI (16 + i + 1))), (0, .ref h)]) (k := 0) (d := 1) hx hb dNs_fillSchedule_115 hl rfl (by decide) (by decide) rfl (fun ls hl => ?_)
      refine lv_goto (tgt := 59) hx hb dNs_fillSchedule_118 (by decide) ?_
      exact ih _ _ _ ⟨hP, hD, hS, lv_sub hl [0, 1] rfl⟩
    · skip
      refine lv_iload_n hx hb dNs_fillSchedule_59 rfl (lv_at hl 0 rfl) ?_
      refine lv_bipush (v := nI 64) hx hb dNs_fillSchedule_60 (by decide) ?_
      refine ri_ge (tgt := 121) hx hb dNs_fillSchedule_62 (by decide) (by omega) (by omega) (fun c_62 => ?_) (fun c_62 => absurd c_62 (by omega))
      refine W.widen (k := 0) (n := 0) (Nat.le_refl _) (Nat.le_refl _) ?_
      exact W.vret hx hb hr (fun t ht hW => ⟨⟨(), rfl, trivial, by rw [ht]; exact hP, hD⟩, hS.F ht⟩) hS.2.2 dNs_fillSchedule_121
set_option maxHeartbeats 600000 in
set_option maxRecDepth 100000 in
theorem c_Ns_mixSchedule (l : Launch) (D : va_G) (k : Nat → ClassId) (tb : Nat → Nat) (sz : Nat) (h a1 a2 a3 ts nh fl : Nat) (tot : Int64) (bc : Int32) (S : Nat → Int64) (b : Nat → Int8) (f : Nat → Int32) : Met l yNs_mixSchedule wNs_mixSchedule ({ frames := 1, cells := 0, slots := 0, locals := 20 }) (cP D k tb [(h, .inr (1, [.ref a1, .ref a2, .int (nI nh), .ref ts, .int (nI 4), .int (nI fl), .long tot, .int bc, .ref a3])), (a1, .inl (k 2, 8, .inr (.inl S))), (a2, .inl (k 0, 64, .inl (by_ b))), (a3, .inl (k 1, 64, .inl f))] sz [.ref h]) (va_Qv (fun (u : Unit) => True) (fun (u : Unit) (t : State) => va_P D vwCl [(h, .inr (1, [.ref a1, .ref a2, .int (nI nh), .ref ts, .int (nI 4), .int (nI fl), .long tot, .int bc, .ref a3])), (a1, .inl (k 2, 8, .inr (.inl (add8 S (lg8 (nMx kN f (nOf S) 64)))))), (a2, .inl (k 0, 64, .inl (by_ b))), (a3, .inl (k 1, 64, .inl f))] t.heap ∧ va_D (va_A [(h, .inr (1, [.ref a1, .ref a2, .int (nI nh), .ref ts, .int (nI 4), .int (nI fl), .long tot, .int bc, .ref a3])), (a1, .inl (k 2, 8, .inr (.inl S))), (a2, .inl (k 0, 64, .inl (by_ b))), (a3, .inl (k 1, 64, .inl f))] sz) [(h, .inr (1, [.ref a1, .ref a2, .int (nI nh), .ref ts, .int (nI 4), .int (nI fl), .long tot, .int bc, .ref a3])), (a1, .inl (k 2, 8, .inr (.inl (add8 S (lg8 (nMx kN f (nOf S) 64)))))), (a2, .inl (k 0, 64, .inl (by_ b))), (a3, .inl (k 1, 64, .inl f))]) (va_A [(h, .inr (1, [.ref a1, .ref a2, .int (nI nh), .ref ts, .int (nI 4), .int (nI fl), .long tot, .int bc, .ref a3])), (a1, .inl (k 2, 8, .inr (.inl S))), (a2, .inl (k 0, 64, .inl (by_ b))), (a3, .inl (k 1, 64, .inl f))] sz)) (0) (0) (va_A [(h, .inr (1, [.ref a1, .ref a2, .int (nI nh), .ref ts, .int (nI 4), .int (nI fl), .long tot, .int bc, .ref a3])), (a1, .inl (k 2, 8, .inr (.inl S))), (a2, .inl (k 0, 64, .inl (by_ b))), (a3, .inl (k 1, 64, .inl f))] sz) := by
  refine Met.ofW (cc := cNs_mixSchedule) (maxL := 12) (ret := none) (by decide) rfl ?_
  intro p e s m args below meth c s₁ B hml hv
  obtain ⟨rfl, hsz, hP, hK, hD0, hG⟩ := hv
  have hx := B.exec
  have hb := B.bytes
  have hr := B.returns
  have hts : ∀ w ∈ GT, w.before _ s = true := fun w h => atoms_spec (ws := wNs_mixSchedule) B.pre w (List.mem_cons_of_mem _ h)
  have hown : s.vm.findClass R_Ns = some m.cls := findClass_of_methodNamed B.named
  have hlocks := B.notSynchronized
  subst hsz
  have hD := hD0.self (sz := s.heap.size)
  generalize hAe : va_A [(h, .inr (1, [.ref a1, .ref a2, .int (nI nh), .ref ts, .int (nI 4), .int (nI fl), .long tot, .int bc, .ref a3])), (a1, .inl (k 2, 8, .inr (.inl S))), (a2, .inl (k 0, 64, .inl (by_ b))), (a3, .inl (k 1, 64, .inl f))] s.heap.size = A at hD hG ⊢
  have hA : ∀ q : Nat, s.heap.size ≤ q → A q := fun q h => by rw [← hAe]; exact Or.inr h
  have hl := lv_entry ([.ref h]) (n := 12) (Nat.le_of_ble_eq_true rfl)
  rw [lg_entry_eq]
  generalize (lg_sl ([.ref h]) ++ List.replicate (12 - (lg_sl ([.ref h])).length) Slot.unset).toArray = ls at hl ⊢
  have hl : lv_has ls 12 [(0, .ref h)] := hl
  refine cw_start (A := A) hP (fun H locs hP hS => ?_)
  refine lv_aload_n hx hb dNs_mixSchedule_0 rfl (lv_at hl 0 rfl) ?_
  refine va_get (D := D) (ci := 1) (v := .ref a1) (C := R_Ns) (T := T_Ns) (N := 9) hx hb hts in_Ns hown hK hP 0 rfl rfl 0 (by decide) (hts _ gm_101) (fun x h9 => u_same (hts _ gm_102) x h9) rfl dNs_mixSchedule_1 ?_
  refine lv_iconst (v := nI 0) hx hb dNs_mixSchedule_4 (by decide) ?_
  refine rl_ld hx hb hK hP 1 2 rfl rfl (by omega) (by omega) dNs_mixSchedule_5 ?_
  refine lv_l2i (v := (S 0).toInt32) hx hb dNs_mixSchedule_6 rfl ?_
  refine lv_istore_n (lv' := [(1, .int ((S 0).toInt32)), (0, .ref h)]) hx hb dNs_mixSchedule_7 rfl hl (by decide) rfl (fun ls hl => ?_)
  refine lv_aload_n hx hb dNs_mixSchedule_8 rfl (lv_at hl 1 rfl) ?_
  refine va_get (D := D) (ci := 1) (v := .ref a1) (C := R_Ns) (T := T_Ns) (N := 9) hx hb hts in_Ns hown hK hP 0 rfl rfl 0 (by decide) (hts _ gm_101) (fun x h9 => u_same (hts _ gm_102) x h9) rfl dNs_mixSchedule_9 ?_
  refine lv_iconst (v := nI 1) hx hb dNs_mixSchedule_12 (by decide) ?_
  refine rl_ld hx hb hK hP 1 2 rfl rfl (by omega) (by omega) dNs_mixSchedule_13 ?_
  refine lv_l2i (v := (S 1).toInt32) hx hb dNs_mixSchedule_14 rfl ?_
  refine lv_istore_n (lv' := [(2, .int ((S 1).toInt32)), (1, .int ((S 0).toInt32)), (0, .ref h)]) hx hb dNs_mixSchedule_15 rfl hl (by decide) rfl (fun ls hl => ?_)
  refine lv_aload_n hx hb dNs_mixSchedule_16 rfl (lv_at hl 2 rfl) ?_
  refine va_get (D := D) (ci := 1) (v := .ref a1) (C := R_Ns) (T := T_Ns) (N := 9) hx hb hts in_Ns hown hK hP 0 rfl rfl 0 (by decide) (hts _ gm_101) (fun x h9 => u_same (hts _ gm_102) x h9) rfl dNs_mixSchedule_17 ?_
  refine lv_iconst (v := nI 2) hx hb dNs_mixSchedule_20 (by decide) ?_
  refine rl_ld hx hb hK hP 1 2 rfl rfl (by omega) (by omega) dNs_mixSchedule_21 ?_
  refine lv_l2i (v := (S 2).toInt32) hx hb dNs_mixSchedule_22 rfl ?_
  refine lv_istore_n (lv' := [(3, .int ((S 2).toInt32)), (2, .int ((S 1).toInt32)), (1, .int ((S 0).toInt32)), (0, .ref h)]) hx hb dNs_mixSchedule_23 rfl hl (by decide) rfl (fun ls hl => ?_)
  refine lv_aload_n hx hb dNs_mixSchedule_24 rfl (lv_at hl 3 rfl) ?_
  refine va_get (D := D) (ci := 1) (v := .ref a1) (C := R_Ns) (T := T_Ns) (N := 9) hx hb hts in_Ns hown hK hP 0 rfl rfl 0 (by decide) (hts _ gm_101) (fun x h9 => u_same (hts _ gm_102) x h9) rfl dNs_mixSchedule_25 ?_
  refine lv_iconst (v := nI 3) hx hb dNs_mixSchedule_28 (by decide) ?_
  refine rl_ld hx hb hK hP 1 2 rfl rfl (by omega) (by omega) dNs_mixSchedule_29 ?_
  refine lv_l2i (v := (S 3).toInt32) hx hb dNs_mixSchedule_30 rfl ?_
  refine lv_istore (lv' := [(4, .int ((S 3).toInt32)), (3, .int ((S 2).toInt32)), (2, .int ((S 1).toInt32)), (1, .int ((S 0).toInt32)), (0, .ref h)]) hx hb dNs_mixSchedule_31 hl (by decide) rfl (fun ls hl => ?_)
  refine lv_aload_n hx hb dNs_mixSchedule_33 rfl (lv_at hl 4 rfl) ?_
  refine va_get (D := D) (ci := 1) (v := .ref a1) (C := R_Ns) (T := T_Ns) (N := 9) hx hb hts in_Ns hown hK hP 0 rfl rfl 0 (by decide) (hts _ gm_101) (fun x h9 => u_same (hts _ gm_102) x h9) rfl dNs_mixSchedule_34 ?_
  refine lv_iconst (v := nI 4) hx hb dNs_mixSchedule_37 (by decide) ?_
  refine rl_ld hx hb hK hP 1 2 rfl rfl (by omega) (by omega) dNs_mixSchedule_38 ?_
  refine lv_l2i (v := (S 4).toInt32) hx hb dNs_mixSchedule_39 rfl ?_
  refine lv_istore (lv' := [(5, .int ((S 4).toInt32)), (4, .int ((S 3).toInt32)), (3, .int ((S 2).toInt32)), (2, .int ((S 1).toInt32)), (1, .int ((S 0).toInt32)), (0, .ref h)]) hx hb dNs_mixSchedule_40 hl (by decide) rfl (fun ls hl => ?_)
  refine lv_aload_n hx hb dNs_mixSchedule_42 rfl (lv_at hl 5 rfl) ?_
  refine va_get (D := D) (ci := 1) (v := .ref a1) (C := R_Ns) (T := T_Ns) (N := 9) hx hb hts in_Ns hown hK hP 0 rfl rfl 0 (by decide) (hts _ gm_101) (fun x h9 => u_same (hts _ gm_102) x h9) rfl dNs_mixSchedule_43 ?_
  refine lv_iconst (v := nI 5) hx hb dNs_mixSchedule_46 (by decide) ?_
  refine rl_ld hx hb hK hP 1 2 rfl rfl (by omega) (by omega) dNs_mixSchedule_47 ?_
  refine lv_l2i (v := (S 5).toInt32) hx hb dNs_mixSchedule_48 rfl ?_
  refine lv_istore (lv' := [(6, .int ((S 5).toInt32)), (5, .int ((S 4).toInt32)), (4, .int ((S 3).toInt32)), (3, .int ((S 2).toInt32)), (2, .int ((S 1).toInt32)), (1, .int ((S 0).toInt32)), (0, .ref h)]) hx hb dNs_mixSchedule_49 hl (by decide) rfl (fun ls hl => ?_)
  refine lv_aload_n hx hb dNs_mixSchedule_51 rfl (lv_at hl 6 rfl) ?_
  refine va_get (D := D) (ci := 1) (v := .ref a1) (C := R_Ns) (T := T_Ns) (N := 9) hx hb hts in_Ns hown hK hP 0 rfl rfl 0 (by decide) (hts _ gm_101) (fun x h9 => u_same (hts _ gm_102) x h9) rfl dNs_mixSchedule_52 ?_
  refine lv_bipush (v := nI 6) hx hb dNs_mixSchedule_55 (by decide) ?_
  refine rl_ld hx hb hK hP 1 2 rfl rfl (by omega) (by omega) dNs_mixSchedule_57 ?_
  refine lv_l2i (v := (S 6).toInt32) hx hb dNs_mixSchedule_58 rfl ?_
  refine lv_istore (lv' := [(7, .int ((S 6).toInt32)), (6, .int ((S 5).toInt32)), (5, .int ((S 4).toInt32)), (4, .int ((S 3).toInt32)), (3, .int ((S 2).toInt32)), (2, .int ((S 1).toInt32)), (1, .int ((S 0).toInt32)), (0, .ref h)]) hx hb dNs_mixSchedule_59 hl (by decide) rfl (fun ls hl => ?_)
  refine lv_aload_n hx hb dNs_mixSchedule_61 rfl (lv_at hl 7 rfl) ?_
  refine va_get (D := D) (ci := 1) (v := .ref a1) (C := R_Ns) (T := T_Ns) (N := 9) hx hb hts in_Ns hown hK hP 0 rfl rfl 0 (by decide) (hts _ gm_101) (fun x h9 => u_same (hts _ gm_102) x h9) rfl dNs_mixSchedule_62 ?_
  refine lv_bipush (v := nI 7) hx hb dNs_mixSchedule_65 (by decide) ?_
  refine rl_ld hx hb hK hP 1 2 rfl rfl (by omega) (by omega) dNs_mixSchedule_67 ?_
  refine lv_l2i (v := (S 7).toInt32) hx hb dNs_mixSchedule_68 rfl ?_
  refine lv_istore (lv' := [(8, .int ((S 7).toInt32)), (7, .int ((S 6).toInt32)), (6, .int ((S 5).toInt32)), (5, .int ((S 4).toInt32)), (4, .int ((S 3).toInt32)), (3, .int ((S 2).toInt32)), (2, .int ((S 1).toInt32)), (1, .int ((S 0).toInt32)), (0, .ref h)]) hx hb dNs_mixSchedule_69 hl (by decide) rfl (fun ls hl => ?_)
  refine lv_iconst (v := nI 0) hx hb dNs_mixSchedule_71 (by decide) ?_
  refine lv_istore (lv' := [(9, .int (nI 0)), (8, .int ((S 7).toInt32)), (7, .int ((S 6).toInt32)), (6, .int ((S 5).toInt32)), (5, .int ((S 4).toInt32)), (4, .int ((S 3).toInt32)), (3, .int ((S 2).toInt32)), (2, .int ((S 1).toInt32)), (1, .int ((S 0).toInt32)), (0, .ref h)]) hx hb dNs_mixSchedule_72 hl (by decide) rfl (fun ls hl => ?_)
  refine ri_loop (fun t H locs ls => va_P D vwCl [(h, .inr (1, [.ref a1, .ref a2, .int (nI nh), .ref ts, .int (nI 4), .int (nI fl), .long tot, .int bc, .ref a3])), (a1, .inl (k 2, 8, .inr (.inl S))), (a2, .inl (k 0, 64, .inl (by_ b))), (a3, .inl (k 1, 64, .inl f))] H ∧ va_D A [(h, .inr (1, [.ref a1, .ref a2, .int (nI nh), .ref ts, .int (nI 4), .int (nI fl), .long tot, .int bc, .ref a3])), (a1, .inl (k 2, 8, .inr (.inl S))), (a2, .inl (k 0, 64, .inl (by_ b))), (a3, .inl (k 1, 64, .inl f))] ∧ va_S A s.heap H locs ∧ lv_has ls 12 [(9, .int (nI t)), (8, .int ((nMx kN f (nOf S) t).2.2.2.2.2.2.2)), (7, .int ((nMx kN f (nOf S) t).2.2.2.2.2.2.1)), (6, .int ((nMx kN f (nOf S) t).2.2.2.2.2.1)), (5, .int ((nMx kN f (nOf S) t).2.2.2.2.1)), (4, .int ((nMx kN f (nOf S) t).2.2.2.1)), (3, .int ((nMx kN f (nOf S) t).2.2.1)), (2, .int ((nMx kN f (nOf S) t).2.1)), (1, .int ((nMx kN f (nOf S) t).1)), (0, .ref h)]) 64 0 ⟨hP, hD, hS, lv_sub hl [0, 1, 2, 3, 4, 5, 6, 7, 8, 9] rfl⟩ (by omega) (fun t H locs ls lt_t ⟨hP, hD, hS, hl⟩ ih => ?_) (fun H locs ls ⟨hP, hD, hS, hl⟩ => ?_)
  · skip
    refine lv_iload hx hb dNs_mixSchedule_74 (lv_at hl 0 rfl) ?_
    refine lv_bipush (v := nI 64) hx hb dNs_mixSchedule_76 (by decide) ?_
    refine ri_ge (tgt := 176) hx hb dNs_mixSchedule_78 (by decide) (by omega) (by omega) (fun c_78 => absurd c_78 (by omega)) (fun c_78 => ?_)
    refine lv_iload hx hb dNs_mixSchedule_81 (lv_at hl 1 rfl) ?_
    refine lv_iload hx hb dNs_mixSchedule_83 (lv_at hl 4 rfl) ?_
    refine rc_i (wr := [(h, .inr (1, [.ref a1, .ref a2, .int (nI nh), .ref ts, .int (nI 4), .int (nI fl), .long tot, .int bc, .ref a3])), (a1, .inl (k 2, 8, .inr (.inl S))), (a2, .inl (k 0, 64, .inl (by_ b))), (a3, .inl (k 1, 64, .inl f))]) (va_runS (As := [.int ((nMx kN f (nOf S) t).2.2.2.2.1)]) (rest := [.int ((nMx kN f (nOf S) t).2.2.2.2.2.2.2)]) ⟨hx, hb, hml, hown, hts⟩ (c_Ns_bigSigma1 l D k tb H.size ((nMx kN f (nOf S) t).2.2.2.2.1)) (va_cwS 1 hts (gS gm_363 gm_364 gm_53 gm_365) rfl rfl rfl (by decide +kernel) ⟨Nat.le_of_ble_eq_true rfl, Nat.le_of_ble_eq_true rfl⟩) (cP_S hP hD hK hG hS hA [] (by decide) rfl) rfl rfl hl.1 rfl (lv_room (Nat.le_of_ble_eq_true rfl)) dNs_mixSchedule_85 ⟨Nat.le_of_ble_eq_true rfl, Nat.le_of_ble_eq_true rfl⟩) hS hA hP hD [] [0, 1, 2, 3] rfl rfl (by decide) (by decide) (fun r_1 u H locs hw hP hD hS => ?_)
    have hP : va_P D vwCl [(h, .inr (1, [.ref a1, .ref a2, .int (nI nh), .ref ts, .int (nI 4), .int (nI fl), .long tot, .int bc, .ref a3])), (a1, .inl (k 2, 8, .inr (.inl S))), (a2, .inl (k 0, 64, .inl (by_ b))), (a3, .inl (k 1, 64, .inl f))] H := hP
    have hD : va_D A [(h, .inr (1, [.ref a1, .ref a2, .int (nI nh), .ref ts, .int (nI 4), .int (nI fl), .long tot, .int bc, .ref a3])), (a1, .inl (k 2, 8, .inr (.inl S))), (a2, .inl (k 0, 64, .inl (by_ b))), (a3, .inl (k 1, 64, .inl f))] := hD
    have hw : r_1 = nB1 ((nMx kN f (nOf S) t).2.2.2.2.1) := hw
    subst hw
    refine lv_iadd hx hb dNs_mixSchedule_88 ?_
    refine lv_iload hx hb dNs_mixSchedule_89 (lv_at hl 4 rfl) ?_
    refine lv_iload hx hb dNs_mixSchedule_91 (lv_at hl 3 rfl) ?_
    refine lv_iand hx hb dNs_mixSchedule_93 ?_
    refine lv_iload hx hb dNs_mixSchedule_94 (lv_at hl 4 rfl) ?_
    refine lv_iconst (v := (-1)) hx hb dNs_mixSchedule_96 (by decide) ?_
    refine lv_ixor hx hb dNs_mixSchedule_97 ?_
    refine lv_iload hx hb dNs_mixSchedule_98 (lv_at hl 2 rfl) ?_
    refine lv_iand hx hb dNs_mixSchedule_100 ?_
    refine lv_ixor hx hb dNs_mixSchedule_101 ?_
    refine lv_iadd hx hb dNs_mixSchedule_102 ?_
    refine va_gets hx hb hG.2.1.2.2.2.2.1.1 hS hown (hts _ gm_366) (fun _ h9 => h9) dNs_mixSchedule_103 ?_
    refine lv_iload hx hb dNs_mixSchedule_106 (lv_at hl 0 rfl) ?_
    refine rt_i hx hb hG.2.1.2.2.2.2.1.2 hS (by omega) (by omega) dNs_mixSchedule_108 ?_
    refine lv_iadd hx hb dNs_mixSchedule_109 ?_
    refine lv_aload_n hx hb dNs_mixSchedule_110 rfl (lv_at hl 9 rfl) ?_
    refine va_get (D := D) (ci := 1) (v := .ref a3) (C := R_Ns) (T := T_Ns) (N := 9) hx hb hts in_Ns hown hK hP 0 rfl rfl 8 (by decide) (hts _ gm_99) (fun _ h9 => h9) rfl dNs_mixSchedule_111 ?_
    refine lv_iload hx hb dNs_mixSchedule_114 (lv_at hl 0 rfl) ?_
    refine rn_ld hx hb hK hP 3 1 rfl rfl (by omega) (by omega) dNs_mixSchedule_116 ?_
    refine lv_iadd hx hb dNs_mixSchedule_117 ?_
    refine lv_istore (lv' := [(10, .int ((((((nMx kN f (nOf S) t).2.2.2.2.2.2.2) + (nB1 ((nMx kN f (nOf S) t).2.2.2.2.1))) + ((((nMx kN f (nOf S) t).2.2.2.2.1) &&& ((nMx kN f (nOf S) t).2.2.2.2.2.1)) ^^^ ((((nMx kN f (nOf S) t).2.2.2.2.1) ^^^ (-1)) &&& ((nMx kN f (nOf S) t).2.2.2.2.2.2.1)))) + (kN t)) + (f t))), (9, .int (nI t)), (8, .int ((nMx kN f (nOf S) t).2.2.2.2.2.2.2)), (7, .int ((nMx kN f (nOf S) t).2.2.2.2.2.2.1)), (6, .int ((nMx kN f (nOf S) t).2.2.2.2.2.1)), (5, .int ((nMx kN f (nOf S) t).2.2.2.2.1)), (4, .int ((nMx kN f (nOf S) t).2.2.2.1)), (3, .int ((nMx kN f (nOf S) t).2.2.1)), (2, .int ((nMx kN f (nOf S) t).2.1)), (1, .int ((nMx kN f (nOf S) t).1)), (0, .ref h)]) hx hb dNs_mixSchedule_118 hl (by decide) rfl (fun ls hl => ?_)
    refine lv_iload_n hx hb dNs_mixSchedule_120 rfl (lv_at hl 9 rfl) ?_
    refine rc_i (wr := [(h, .inr (1, [.ref a1, .ref a2, .int (nI nh), .ref ts, .int (nI 4), .int (nI fl), .long tot, .int bc, .ref a3])), (a1, .inl (k 2, 8, .inr (.inl S))), (a2, .inl (k 0, 64, .inl (by_ b))), (a3, .inl (k 1, 64, .inl f))]) (va_runS (As := [.int ((nMx kN f (nOf S) t).1)]) (rest := []) ⟨hx, hb, hml, hown, hts⟩ (c_Ns_bigSigma0 l D k tb H.size ((nMx kN f (nOf S) t).1)) (va_cwS 1 hts (gS gm_367 gm_368 gm_53 gm_369) rfl rfl rfl (by decide +kernel) ⟨Nat.le_of_ble_eq_true rfl, Nat.le_of_ble_eq_true rfl⟩) (cP_S hP hD hK hG hS hA [] (by decide) rfl) rfl rfl hl.1 rfl (lv_room (Nat.le_of_ble_eq_true rfl)) dNs_mixSchedule_121 ⟨Nat.le_of_ble_eq_true rfl, Nat.le_of_ble_eq_true rfl⟩) hS hA hP hD [] [0, 1, 2, 3] rfl rfl (by decide) (by decide) (fun r_2 u H locs hw hP hD hS => ?_)
    have hP : va_P D vwCl [(h, .inr (1, [.ref a1, .ref a2, .int (nI nh), .ref ts, .int (nI 4), .int (nI fl), .long tot, .int bc, .ref a3])), (a1, .inl (k 2, 8, .inr (.inl S))), (a2, .inl (k 0, 64, .inl (by_ b))), (a3, .inl (k 1, 64, .inl f))] H := hP
    have hD : va_D A [(h, .inr (1, [.ref a1, .ref a2, .int (nI nh), .ref ts, .int (nI 4), .int (nI fl), .long tot, .int bc, .ref a3])), (a1, .inl (k 2, 8, .inr (.inl S))), (a2, .inl (k 0, 64, .inl (by_ b))), (a3, .inl (k 1, 64, .inl f))] := hD
    have hw : r_2 = nB0 ((nMx kN f (nOf S) t).1) := hw
    subst hw
    refine lv_iload_n hx hb dNs_mixSchedule_124 rfl (lv_at hl 9 rfl) ?_
    refine lv_iload_n hx hb dNs_mixSchedule_125 rfl (lv_at hl 8 rfl) ?_
    refine lv_iand hx hb dNs_mixSchedule_126 ?_
    refine lv_iload_n hx hb dNs_mixSchedule_127 rfl (lv_at hl 9 rfl) ?_
    refine lv_iload_n hx hb dNs_mixSchedule_128 rfl (lv_at hl 7 rfl) ?_
    refine lv_iand hx hb dNs_mixSchedule_129 ?_
    refine lv_ixor hx hb dNs_mixSchedule_130 ?_
    refine lv_iload_n hx hb dNs_mixSchedule_131 rfl (lv_at hl 8 rfl) ?_
    refine lv_iload_n hx hb dNs_mixSchedule_132 rfl (lv_at hl 7 rfl) ?_
    refine lv_iand hx hb dNs_mixSchedule_133 ?_
    refine lv_ixor hx hb dNs_mixSchedule_134 ?_
    refine lv_iadd hx hb dNs_mixSchedule_135 ?_
    refine lv_istore (lv' := [(11, .int ((nB0 ((nMx kN f (nOf S) t).1)) + (((((nMx kN f (nOf S) t).1) &&& ((nMx kN f (nOf S) t).2.1)) ^^^ (((nMx kN f (nOf S) t).1) &&& ((nMx kN f (nOf S) t).2.2.1))) ^^^ (((nMx kN f (nOf S) t).2.1) &&& ((nMx kN f (nOf S) t).2.2.1))))), (10, .int ((((((nMx kN f (nOf S) t).2.2.2.2.2.2.2) + (nB1 ((nMx kN f (nOf S) t).2.2.2.2.1))) + ((((nMx kN f (nOf S) t).2.2.2.2.1) &&& ((nMx kN f (nOf S) t).2.2.2.2.2.1)) ^^^ ((((nMx kN f (nOf S) t).2.2.2.2.1) ^^^ (-1)) &&& ((nMx kN f (nOf S) t).2.2.2.2.2.2.1)))) + (kN t)) + (f t))), (9, .int (nI t)), (8, .int ((nMx kN f (nOf S) t).2.2.2.2.2.2.2)), (7, .int ((nMx kN f (nOf S) t).2.2.2.2.2.2.1)), (6, .int ((nMx kN f (nOf S) t).2.2.2.2.2.1)), (5, .int ((nMx kN f (nOf S) t).2.2.2.2.1)), (4, .int ((nMx kN f (nOf S) t).2.2.2.1)), (3, .int ((nMx kN f (nOf S) t).2.2.1)), (2, .int ((nMx kN f (nOf S) t).2.1)), (1, .int ((nMx kN f (nOf S) t).1)), (0, .ref h)]) hx hb dNs_mixSchedule_136 hl (by decide) rfl (fun ls hl => ?_)
    refine lv_iload hx hb dNs_mixSchedule_138 (lv_at hl 4 rfl) ?_
    refine lv_istore (lv' := [(8, .int ((nMx kN f (nOf S) t).2.2.2.2.2.2.1)), (11, .int ((nB0 ((nMx kN f (nOf S) t).1)) + (((((nMx kN f (nOf S) t).1) &&& ((nMx kN f (nOf S) t).2.1)) ^^^ (((nMx kN f (nOf S) t).1) &&& ((nMx kN f (nOf S) t).2.2.1))) ^^^ (((nMx kN f (nOf S) t).2.1) &&& ((nMx kN f (nOf S) t).2.2.1))))), (10, .int ((((((nMx kN f (nOf S) t).2.2.2.2.2.2.2) + (nB1 ((nMx kN f (nOf S) t).2.2.2.2.1))) + ((((nMx kN f (nOf S) t).2.2.2.2.1) &&& ((nMx kN f (nOf S) t).2.2.2.2.2.1)) ^^^ ((((nMx kN f (nOf S) t).2.2.2.2.1) ^^^ (-1)) &&& ((nMx kN f (nOf S) t).2.2.2.2.2.2.1)))) + (kN t)) + (f t))), (9, .int (nI t)), (7, .int ((nMx kN f (nOf S) t).2.2.2.2.2.2.1)), (6, .int ((nMx kN f (nOf S) t).2.2.2.2.2.1)), (5, .int ((nMx kN f (nOf S) t).2.2.2.2.1)), (4, .int ((nMx kN f (nOf S) t).2.2.2.1)), (3, .int ((nMx kN f (nOf S) t).2.2.1)), (2, .int ((nMx kN f (nOf S) t).2.1)), (1, .int ((nMx kN f (nOf S) t).1)), (0, .ref h)]) hx hb dNs_mixSchedule_140 hl (by decide) rfl (fun ls hl => ?_)
    refine lv_iload hx hb dNs_mixSchedule_142 (lv_at hl 5 rfl) ?_
    refine lv_istore (lv' := [(7, .int ((nMx kN f (nOf S) t).2.2.2.2.2.1)), (8, .int ((nMx kN f (nOf S) t).2.2.2.2.2.2.1)), (11, .int ((nB0 ((nMx kN f (nOf S) t).1)) + (((((nMx kN f (nOf S) t).1) &&& ((nMx kN f (nOf S) t).2.1)) ^^^ (((nMx kN f (nOf S) t).1) &&& ((nMx kN f (nOf S) t).2.2.1))) ^^^ (((nMx kN f (nOf S) t).2.1) &&& ((nMx kN f (nOf S) t).2.2.1))))), (10, .int ((((((nMx kN f (nOf S) t).2.2.2.2.2.2.2) + (nB1 ((nMx kN f (nOf S) t).2.2.2.2.1))) + ((((nMx kN f (nOf S) t).2.2.2.2.1) &&& ((nMx kN f (nOf S) t).2.2.2.2.2.1)) ^^^ ((((nMx kN f (nOf S) t).2.2.2.2.1) ^^^ (-1)) &&& ((nMx kN f (nOf S) t).2.2.2.2.2.2.1)))) + (kN t)) + (f t))), (9, .int (nI t)), (6, .int ((nMx kN f (nOf S) t).2.2.2.2.2.1)), (5, .int ((nMx kN f (nOf S) t).2.2.2.2.1)), (4, .int ((nMx kN f (nOf S) t).2.2.2.1)), (3, .int ((nMx kN f (nOf S) t).2.2.1)), (2, .int ((nMx kN f (nOf S) t).2.1)), (1, .int ((nMx kN f (nOf S) t).1)), (0, .ref h)]) hx hb dNs_mixSchedule_144 hl (by decide) rfl (fun ls hl => ?_)
    refine lv_iload hx hb dNs_mixSchedule_146 (lv_at hl 6 rfl) ?_
    refine lv_istore (lv' := [(6, .int ((nMx kN f (nOf S) t).2.2.2.2.1)), (7, .int ((nMx kN f (nOf S) t).2.2.2.2.2.1)), (8, .int ((nMx kN f (nOf S) t).2.2.2.2.2.2.1)), (11, .int ((nB0 ((nMx kN f (nOf S) t).1)) + (((((nMx kN f (nOf S) t).1) &&& ((nMx kN f (nOf S) t).2.1)) ^^^ (((nMx kN f (nOf S) t).1) &&& ((nMx kN f (nOf S) t).2.2.1))) ^^^ (((nMx kN f (nOf S) t).2.1) &&& ((nMx kN f (nOf S) t).2.2.1))))), (10, .int ((((((nMx kN f (nOf S) t).2.2.2.2.2.2.2) + (nB1 ((nMx kN f (nOf S) t).2.2.2.2.1))) + ((((nMx kN f (nOf S) t).2.2.2.2.1) &&& ((nMx kN f (nOf S) t).2.2.2.2.2.1)) ^^^ ((((nMx kN f (nOf S) t).2.2.2.2.1) ^^^ (-1)) &&& ((nMx kN f (nOf S) t).2.2.2.2.2.2.1)))) + (kN t)) + (f t))), (9, .int (nI t)), (5, .int ((nMx kN f (nOf S) t).2.2.2.2.1)), (4, .int ((nMx kN f (nOf S) t).2.2.2.1)), (3, .int ((nMx kN f (nOf S) t).2.2.1)), (2, .int ((nMx kN f (nOf S) t).2.1)), (1, .int ((nMx kN f (nOf S) t).1)), (0, .ref h)]) hx hb dNs_mixSchedule_148 hl (by decide) rfl (fun ls hl => ?_)
    refine lv_iload hx hb dNs_mixSchedule_150 (lv_at hl 7 rfl) ?_
    refine lv_iload hx hb dNs_mixSchedule_152 (lv_at hl 4 rfl) ?_
    refine lv_iadd hx hb dNs_mixSchedule_154 ?_
    refine lv_istore (lv' := [(5, .int (((nMx kN f (nOf S) t).2.2.2.1) + ((((((nMx kN f (nOf S) t).2.2.2.2.2.2.2) + (nB1 ((nMx kN f (nOf S) t).2.2.2.2.1))) + ((((nMx kN f (nOf S) t).2.2.2.2.1) &&& ((nMx kN f (nOf S) t).2.2.2.2.2.1)) ^^^ ((((nMx kN f (nOf S) t).2.2.2.2.1) ^^^ (-1)) &&& ((nMx kN f (nOf S) t).2.2.2.2.2.2.1)))) + (kN t)) + (f t)))), (6, .int ((nMx kN f (nOf S) t).2.2.2.2.1)), (7, .int ((nMx kN f (nOf S) t).2.2.2.2.2.1)), (8, .int ((nMx kN f (nOf S) t).2.2.2.2.2.2.1)), (11, .int ((nB0 ((nMx kN f (nOf S) t).1)) + (((((nMx kN f (nOf S) t).1) &&& ((nMx kN f (nOf S) t).2.1)) ^^^ (((nMx kN f (nOf S) t).1) &&& ((nMx kN f (nOf S) t).2.2.1))) ^^^ (((nMx kN f (nOf S) t).2.1) &&& ((nMx kN f (nOf S) t).2.2.1))))), (10, .int ((((((nMx kN f (nOf S) t).2.2.2.2.2.2.2) + (nB1 ((nMx kN f (nOf S) t).2.2.2.2.1))) + ((((nMx kN f (nOf S) t).2.2.2.2.1) &&& ((nMx kN f (nOf S) t).2.2.2.2.2.1)) ^^^ ((((nMx kN f (nOf S) t).2.2.2.2.1) ^^^ (-1)) &&& ((nMx kN f (nOf S) t).2.2.2.2.2.2.1)))) + (kN t)) + (f t))), (9, .int (nI t)), (4, .int ((nMx kN f (nOf S) t).2.2.2.1)), (3, .int ((nMx kN f (nOf S) t).2.2.1)), (2, .int ((nMx kN f (nOf S) t).2.1)), (1, .int ((nMx kN f (nOf S) t).1)), (0, .ref h)]) hx hb dNs_mixSchedule_155 hl (by decide) rfl (fun ls hl => ?_)
    refine lv_iload_n hx hb dNs_mixSchedule_157 rfl (lv_at hl 8 rfl) ?_
    refine lv_istore (lv' := [(4, .int ((nMx kN f (nOf S) t).2.2.1)), (5, .int (((nMx kN f (nOf S) t).2.2.2.1) + ((((((nMx kN f (nOf S) t).2.2.2.2.2.2.2) + (nB1 ((nMx kN f (nOf S) t).2.2.2.2.1))) + ((((nMx kN f (nOf S) t).2.2.2.2.1) &&& ((nMx kN f (nOf S) t).2.2.2.2.2.1)) ^^^ ((((nMx kN f (nOf S) t).2.2.2.2.1) ^^^ (-1)) &&& ((nMx kN f (nOf S) t).2.2.2.2.2.2.1)))) + (kN t)) + (f t)))), (6, .int ((nMx kN f (nOf S) t).2.2.2.2.1)), (7, .int ((nMx kN f (nOf S) t).2.2.2.2.2.1)), (8, .int ((nMx kN f (nOf S) t).2.2.2.2.2.2.1)), (11, .int ((nB0 ((nMx kN f (nOf S) t).1)) + (((((nMx kN f (nOf S) t).1) &&& ((nMx kN f (nOf S) t).2.1)) ^^^ (((nMx kN f (nOf S) t).1) &&& ((nMx kN f (nOf S) t).2.2.1))) ^^^ (((nMx kN f (nOf S) t).2.1) &&& ((nMx kN f (nOf S) t).2.2.1))))), (10, .int ((((((nMx kN f (nOf S) t).2.2.2.2.2.2.2) + (nB1 ((nMx kN f (nOf S) t).2.2.2.2.1))) + ((((nMx kN f (nOf S) t).2.2.2.2.1) &&& ((nMx kN f (nOf S) t).2.2.2.2.2.1)) ^^^ ((((nMx kN f (nOf S) t).2.2.2.2.1) ^^^ (-1)) &&& ((nMx kN f (nOf S) t).2.2.2.2.2.2.1)))) + (kN t)) + (f t))), (9, .int (nI t)), (3, .int ((nMx kN f (nOf S) t).2.2.1)), (2, .int ((nMx kN f (nOf S) t).2.1)), (1, .int ((nMx kN f (nOf S) t).1)), (0, .ref h)]) hx hb dNs_mixSchedule_158 hl (by decide) rfl (fun ls hl => ?_)
    refine lv_iload_n hx hb dNs_mixSchedule_160 rfl (lv_at hl 9 rfl) ?_
    refine lv_istore_n (lv' := [(3, .int ((nMx kN f (nOf S) t).2.1)), (4, .int ((nMx kN f (nOf S) t).2.2.1)), (5, .int (((nMx kN f (nOf S) t).2.2.2.1) + ((((((nMx kN f (nOf S) t).2.2.2.2.2.2.2) + (nB1 ((nMx kN f (nOf S) t).2.2.2.2.1))) + ((((nMx kN f (nOf S) t).2.2.2.2.1) &&& ((nMx kN f (nOf S) t).2.2.2.2.2.1)) ^^^ ((((nMx kN f (nOf S) t).2.2.2.2.1) ^^^ (-1)) &&& ((nMx kN f (nOf S) t).2.2.2.2.2.2.1)))) + (kN t)) + (f t)))), (6, .int ((nMx kN f (nOf S) t).2.2.2.2.1)), (7, .int ((nMx kN f (nOf S) t).2.2.2.2.2.1)), (8, .int ((nMx kN f (nOf S) t).2.2.2.2.2.2.1)), (11, .int ((nB0 ((nMx kN f (nOf S) t).1)) + (((((nMx kN f (nOf S) t).1) &&& ((nMx kN f (nOf S) t).2.1)) ^^^ (((nMx kN f (nOf S) t).1) &&& ((nMx kN f (nOf S) t).2.2.1))) ^^^ (((nMx kN f (nOf S) t).2.1) &&& ((nMx kN f (nOf S) t).2.2.1))))), (10, .int ((((((nMx kN f (nOf S) t).2.2.2.2.2.2.2) + (nB1 ((nMx kN f (nOf S) t).2.2.2.2.1))) + ((((nMx kN f (nOf S) t).2.2.2.2.1) &&& ((nMx kN f (nOf S) t).2.2.2.2.2.1)) ^^^ ((((nMx kN f (nOf S) t).2.2.2.2.1) ^^^ (-1)) &&& ((nMx kN f (nOf S) t).2.2.2.2.2.2.1)))) + (kN t)) + (f t))), (9, .int (nI t)), (2, .int ((nMx kN f (nOf S) t).2.1)), (1, .int ((nMx kN f (nOf S) t).1)), (0, .ref h)]) hx hb dNs_mixSchedule_161 rfl hl (by decide) rfl (fun ls hl => ?_)
    refine lv_iload_n hx hb dNs_mixSchedule_162 rfl (lv_at hl 10 rfl) ?_
    refine lv_istore_n (lv' := [(2, .int ((nMx kN f (nOf S) t).1)), (3, .int ((nMx kN f (nOf S) t).2.1)), (4, .int ((nMx kN f (nOf S) t).2.2.1)), (5, .int (((nMx kN f (nOf S) t).2.2.2.1) + ((((((nMx kN f (nOf S) t).2.2.2.2.2.2.2) + (nB1 ((nMx kN f (nOf S) t).2.2.2.2.1))) + ((((nMx kN f (nOf S) t).2.2.2.2.1) &&& ((nMx kN f (nOf S) t).2.2.2.2.2.1)) ^^^ ((((nMx kN f (nOf S) t).2.2.2.2.1) ^^^ (-1)) &&& ((nMx kN f (nOf S) t).2.2.2.2.2.2.1)))) + (kN t)) + (f t)))), (6, .int ((nMx kN f (nOf S) t).2.2.2.2.1)), (7, .int ((nMx kN f (nOf S) t).2.2.2.2.2.1)), (8, .int ((nMx kN f (nOf S) t).2.2.2.2.2.2.1)), (11, .int ((nB0 ((nMx kN f (nOf S) t).1)) + (((((nMx kN f (nOf S) t).1) &&& ((nMx kN f (nOf S) t).2.1)) ^^^ (((nMx kN f (nOf S) t).1) &&& ((nMx kN f (nOf S) t).2.2.1))) ^^^ (((nMx kN f (nOf S) t).2.1) &&& ((nMx kN f (nOf S) t).2.2.1))))), (10, .int ((((((nMx kN f (nOf S) t).2.2.2.2.2.2.2) + (nB1 ((nMx kN f (nOf S) t).2.2.2.2.1))) + ((((nMx kN f (nOf S) t).2.2.2.2.1) &&& ((nMx kN f (nOf S) t).2.2.2.2.2.1)) ^^^ ((((nMx kN f (nOf S) t).2.2.2.2.1) ^^^ (-1)) &&& ((nMx kN f (nOf S) t).2.2.2.2.2.2.1)))) + (kN t)) + (f t))), (9, .int (nI t)), (1, .int ((nMx kN f (nOf S) t).1)), (0, .ref h)]) hx hb dNs_mixSchedule_163 rfl hl (by decide) rfl (fun ls hl => ?_)
    refine lv_iload hx hb dNs_mixSchedule_164 (lv_at hl 8 rfl) ?_
    refine lv_iload hx hb dNs_mixSchedule_166 (lv_at hl 7 rfl) ?_
    refine lv_iadd hx hb dNs_mixSchedule_168 ?_
    refine lv_istore_n (lv' := [(1, .int (((((((nMx kN f (nOf S) t).2.2.2.2.2.2.2) + (nB1 ((nMx kN f (nOf S) t).2.2.2.2.1))) + ((((nMx kN f (nOf S) t).2.2.2.2.1) &&& ((nMx kN f (nOf S) t).2.2.2.2.2.1)) ^^^ ((((nMx kN f (nOf S) t).2.2.2.2.1) ^^^ (-1)) &&& ((nMx kN f (nOf S) t).2.2.2.2.2.2.1)))) + (kN t)) + (f t)) + ((nB0 ((nMx kN f (nOf S) t).1)) + (((((nMx kN f (nOf S) t).1) &&& ((nMx kN f (nOf S) t).2.1)) ^^^ (((nMx kN f (nOf S) t).1) &&& ((nMx kN f (nOf S) t).2.2.1))) ^^^ (((nMx kN f (nOf S) t).2.1) &&& ((nMx kN f (nOf S) t).2.2.1)))))), (2, .int ((nMx kN f (nOf S) t).1)), (3, .int ((nMx kN f (nOf S) t).2.1)), (4, .int ((nMx kN f (nOf S) t).2.2.1)), (5, .int (((nMx kN f (nOf S) t).2.2.2.1) + ((((((nMx kN f (nOf S) t).2.2.2.2.2.2.2) + (nB1 ((nMx kN f (nOf S) t).2.2.2.2.1))) + ((((nMx kN f (nOf S) t).2.2.2.2.1) &&& ((nMx kN f (nOf S) t).2.2.2.2.2.1)) ^^^ ((((nMx kN f (nOf S) t).2.2.2.2.1) ^^^ (-1)) &&& ((nMx kN f (nOf S) t).2.2.2.2.2.2.1)))) + (kN t)) + (f t)))), (6, .int ((nMx kN f (nOf S) t).2.2.2.2.1)), (7, .int ((nMx kN f (nOf S) t).2.2.2.2.2.1)), (8, .int ((nMx kN f (nOf S) t).2.2.2.2.2.2.1)), (11, .int ((nB0 ((nMx kN f (nOf S) t).1)) + (((((nMx kN f (nOf S) t).1) &&& ((nMx kN f (nOf S) t).2.1)) ^^^ (((nMx kN f (nOf S) t).1) &&& ((nMx kN f (nOf S) t).2.2.1))) ^^^ (((nMx kN f (nOf S) t).2.1) &&& ((nMx kN f (nOf S) t).2.2.1))))), (10, .int ((((((nMx kN f (nOf S) t).2.2.2.2.2.2.2) + (nB1 ((nMx kN f (nOf S) t).2.2.2.2.1))) + ((((nMx kN f (nOf S) t).2.2.2.2.1) &&& ((nMx kN f (nOf S) t).2.2.2.2.2.1)) ^^^ ((((nMx kN f (nOf S) t).2.2.2.2.1) ^^^ (-1)) &&& ((nMx kN f (nOf S) t).2.2.2.2.2.2.1)))) + (kN t)) + (f t))), (9, .int (nI t)), (0, .ref h)]) hx hb dNs_mixSchedule_169 rfl hl (by decide) rfl (fun ls hl => ?_)
    refine ri_inc (lv' := [(9, .int (nI (t + 1))), (1, .int (((((((nMx kN f (nOf S) t).2.2.2.2.2.2.2) + (nB1 ((nMx kN f (nOf S) t).2.2.2.2.1))) + ((((nMx kN f (nOf S) t).2.2.2.2.1) &&& ((nMx kN f (nOf S) t).2.2.2.2.2.1)) ^^^ ((((nMx kN f (nOf S) t).2.2.2.2.1) ^^^ (-1)) &&& ((nMx kN f (nOf S) t).2.2.2.2.2.2.1)))) + (kN t)) + (f t)) + ((nB0 ((nMx kN f (nOf S) t).1)) + (((((nMx kN f (nOf S) t).1) &&& ((nMx kN f (nOf S) t).2.1)) ^^^ (((nMx kN f (nOf S) t).1) &&& ((nMx kN f (nOf S) t).2.2.1))) ^^^ (((nMx kN f (nOf S) t).2.1) &&& ((nMx kN f (nOf S) t).2.2.1)))))), (2, .int ((nMx kN f (nOf S) t).1)), (3, .int ((nMx kN f (nOf S) t).2.1)), (4, .int ((nMx kN f (nOf S) t).2.2.1)), (5, .int (((nMx kN f (nOf S) t).2.2.2.1) + ((((((nMx kN f (nOf S) t).2.2.2.2.2.2.2) + (nB1 ((nMx kN f (nOf S) t).2.2.2.2.1))) + ((((nMx kN f (nOf S) t).2.2.2.2.1) &&& ((nMx kN f (nOf S) t).2.2.2.2.2.1)) ^^^ ((((nMx kN f (nOf S) t).2.2.2.2.1) ^^^ (-1)) &&& ((nMx kN f (nOf S) t).2.2.2.2.2.2.1)))) + (kN t)) + (f t)))), (6, .int ((nMx kN f (nOf S) t).2.2.2.2.1)), (7, .int ((nMx kN f (nOf S) t).2.2.2.2.2.1)), (8, .int ((nMx kN f (nOf S) t).2.2.2.2.2.2.1)), (11, .int ((nB0 ((nMx kN f (nOf S) t).1)) + (((((nMx kN f (nOf S) t).1) &&& ((nMx kN f (nOf S) t).2.1)) ^^^ (((nMx kN f (nOf S) t).1) &&& ((nMx kN f (nOf S) t).2.2.1))) ^^^ (((nMx kN f (nOf S) t).2.1) &&& ((nMx kN f (nOf S) t).2.2.1))))), (10, .int ((((((nMx kN f (nOf S) t).2.2.2.2.2.2.2) + (nB1 ((nMx kN f (nOf S) t).2.2.2.2.1))) + ((((nMx kN f (nOf S) t).2.2.2.2.1) &&& ((nMx kN f (nOf S) t).2.2.2.2.2.1)) ^^^ ((((nMx kN f (nOf S) t).2.2.2.2.1) ^^^ (-1)) &&& ((nMx kN f (nOf S) t).2.2.2.2.2.2.1)))) + (kN t)) + (f t))), (0, .ref h)]) (k := 10) (d := 1) hx hb dNs_mixSchedule_170 hl rfl (by decide) (by decide) rfl (fun ls hl => ?_)
    refine lv_goto (tgt := 74) hx hb dNs_mixSchedule_173 (by decide) ?_
    exact ih _ _ _ ⟨hP, hD, hS, lv_sub hl [0, 8, 7, 6, 5, 4, 3, 2, 1, 11] rfl⟩
  · skip
    refine lv_iload hx hb dNs_mixSchedule_74 (lv_at hl 0 rfl) ?_
    refine lv_bipush (v := nI 64) hx hb dNs_mixSchedule_76 (by decide) ?_
    refine ri_ge (tgt := 176) hx hb dNs_mixSchedule_78 (by decide) (by omega) (by omega) (fun c_78 => ?_) (fun c_78 => absurd c_78 (by omega))
    refine lv_aload_n hx hb dNs_mixSchedule_176 rfl (lv_at hl 9 rfl) ?_
    refine va_get (D := D) (ci := 1) (v := .ref a1) (C := R_Ns) (T := T_Ns) (N := 9) hx hb hts in_Ns hown hK hP 0 rfl rfl 0 (by decide) (hts _ gm_101) (fun x h9 => u_same (hts _ gm_102) x h9) rfl dNs_mixSchedule_177 ?_
    refine lv_iconst (v := nI 0) hx hb dNs_mixSchedule_180 (by decide) ?_
    refine lv_dup2_11 hx hb dNs_mixSchedule_181 rfl rfl ?_
    refine rl_ld hx hb hK hP 1 2 rfl rfl (by omega) (by omega) dNs_mixSchedule_182 ?_
    refine lv_iload_n hx hb dNs_mixSchedule_183 rfl (lv_at hl 8 rfl) ?_
    refine lv_i2l (v := ((nMx kN f (nOf S) 64).1).toInt64) hx hb dNs_mixSchedule_184 rfl ?_
    refine lv_ladd hx hb dNs_mixSchedule_185 ?_
    refine rl_st hx hb hK hP hD hS 1 2 rfl rfl (by omega) (by omega) dNs_mixSchedule_186 (fun H locs hP hD hS => ?_)
    obtain ⟨s1, es1, hP, hD⟩ : ∃ z, z = vp_updL S 0 ((S 0) + (((nMx kN f (nOf S) 64).1).toInt64)) ∧ va_P D vwCl [(h, .inr (1, [.ref a1, .ref a2, .int (nI nh), .ref ts, .int (nI 4), .int (nI fl), .long tot, .int bc, .ref a3])), (a1, .inl (k 2, 8, .inr (.inl z))), (a2, .inl (k 0, 64, .inl (by_ b))), (a3, .inl (k 1, 64, .inl f))] H ∧ va_D A [(h, .inr (1, [.ref a1, .ref a2, .int (nI nh), .ref ts, .int (nI 4), .int (nI fl), .long tot, .int bc, .ref a3])), (a1, .inl (k 2, 8, .inr (.inl z))), (a2, .inl (k 0, 64, .inl (by_ b))), (a3, .inl (k 1, 64, .inl f))] := ⟨_, rfl, hP, hD⟩
    refine lv_aload_n hx hb dNs_mixSchedule_187 rfl (lv_at hl 9 rfl) ?_
    refine va_get (D := D) (ci := 1) (v := .ref a1) (C := R_Ns) (T := T_Ns) (N := 9) hx hb hts in_Ns hown hK hP 0 rfl rfl 0 (by decide) (hts _ gm_101) (fun x h9 => u_same (hts _ gm_102) x h9) rfl dNs_mixSchedule_188 ?_
    refine lv_iconst (v := nI 1) hx hb dNs_mixSchedule_191 (by decide) ?_
    refine lv_dup2_11 hx hb dNs_mixSchedule_192 rfl rfl ?_
    refine rl_ld hx hb hK hP 1 2 rfl rfl (by omega) (by omega) dNs_mixSchedule_193 ?_
    refine lv_iload_n hx hb dNs_mixSchedule_194 rfl (lv_at hl 7 rfl) ?_
    refine lv_i2l (v := ((nMx kN f (nOf S) 64).2.1).toInt64) hx hb dNs_mixSchedule_195 rfl ?_
    refine lv_ladd hx hb dNs_mixSchedule_196 ?_
    refine rl_st hx hb hK hP hD hS 1 2 rfl rfl (by omega) (by omega) dNs_mixSchedule_197 (fun H locs hP hD hS => ?_)
    obtain ⟨s2, es2, hP, hD⟩ : ∃ z, z = vp_updL s1 1 ((s1 1) + (((nMx kN f (nOf S) 64).2.1).toInt64)) ∧ va_P D vwCl [(h, .inr (1, [.ref a1, .ref a2, .int (nI nh), .ref ts, .int (nI 4), .int (nI fl), .long tot, .int bc, .ref a3])), (a1, .inl (k 2, 8, .inr (.inl z))), (a2, .inl (k 0, 64, .inl (by_ b))), (a3, .inl (k 1, 64, .inl f))] H ∧ va_D A [(h, .inr (1, [.ref a1, .ref a2, .int (nI nh), .ref ts, .int (nI 4), .int (nI fl), .long tot, .int bc, .ref a3])), (a1, .inl (k 2, 8, .inr (.inl z))), (a2, .inl (k 0, 64, .inl (by_ b))), (a3, .inl (k 1, 64, .inl f))] := ⟨_, rfl, hP, hD⟩
    refine lv_aload_n hx hb dNs_mixSchedule_198 rfl (lv_at hl 9 rfl) ?_
    refine va_get (D := D) (ci := 1) (v := .ref a1) (C := R_Ns) (T := T_Ns) (N := 9) hx hb hts in_Ns hown hK hP 0 rfl rfl 0 (by decide) (hts _ gm_101) (fun x h9 => u_same (hts _ gm_102) x h9) rfl dNs_mixSchedule_199 ?_
    refine lv_iconst (v := nI 2) hx hb dNs_mixSchedule_202 (by decide) ?_
    refine lv_dup2_11 hx hb dNs_mixSchedule_203 rfl rfl ?_
    refine rl_ld hx hb hK hP 1 2 rfl rfl (by omega) (by omega) dNs_mixSchedule_204 ?_
    refine lv_iload_n hx hb dNs_mixSchedule_205 rfl (lv_at hl 6 rfl) ?_
    refine lv_i2l (v := ((nMx kN f (nOf S) 64).2.2.1).toInt64) hx hb dNs_mixSchedule_206 rfl ?_
    refine lv_ladd hx hb dNs_mixSchedule_207 ?_
    refine rl_st hx hb hK hP hD hS 1 2 rfl rfl (by omega) (by omega) dNs_mixSchedule_208 (fun H locs hP hD hS => ?_)
    obtain ⟨s3, es3, hP, hD⟩ : ∃ z, z = vp_updL s2 2 ((s2 2) + (((nMx kN f (nOf S) 64).2.2.1).toInt64)) ∧ va_P D vwCl [(h, .inr (1, [.ref a1, .ref a2, .int (nI nh), .ref ts, .int (nI 4), .int (nI fl), .long tot, .int bc, .ref a3])), (a1, .inl (k 2, 8, .inr (.inl z))), (a2, .inl (k 0, 64, .inl (by_ b))), (a3, .inl (k 1, 64, .inl f))] H ∧ va_D A [(h, .inr (1, [.ref a1, .ref a2, .int (nI nh), .ref ts, .int (nI 4), .int (nI fl), .long tot, .int bc, .ref a3])), (a1, .inl (k 2, 8, .inr (.inl z))), (a2, .inl (k 0, 64, .inl (by_ b))), (a3, .inl (k 1, 64, .inl f))] := ⟨_, rfl, hP, hD⟩
    refine lv_aload_n hx hb dNs_mixSchedule_209 rfl (lv_at hl 9 rfl) ?_
    refine va_get (D := D) (ci := 1) (v := .ref a1) (C := R_Ns) (T := T_Ns) (N := 9) hx hb hts in_Ns hown hK hP 0 rfl rfl 0 (by decide) (hts _ gm_101) (fun x h9 => u_same (hts _ gm_102) x h9) rfl dNs_mixSchedule_210 ?_
    refine lv_iconst (v := nI 3) hx hb dNs_mixSchedule_213 (by decide) ?_
    refine lv_dup2_11 hx hb dNs_mixSchedule_214 rfl rfl ?_
    refine rl_ld hx hb hK hP 1 2 rfl rfl (by omega) (by omega) dNs_mixSchedule_215 ?_
    refine lv_iload hx hb dNs_mixSchedule_216 (lv_at hl 5 rfl) ?_
    refine lv_i2l (v := ((nMx kN f (nOf S) 64).2.2.2.1).toInt64) hx hb dNs_mixSchedule_218 rfl ?_
    refine lv_ladd hx hb dNs_mixSchedule_219 ?_
    refine rl_st hx hb hK hP hD hS 1 2 rfl rfl (by omega) (by omega) dNs_mixSchedule_220 (fun H locs hP hD hS => ?_)
    obtain ⟨s4, es4, hP, hD⟩ : ∃ z, z = vp_updL s3 3 ((s3 3) + (((nMx kN f (nOf S) 64).2.2.2.1).toInt64)) ∧ va_P D vwCl [(h, .inr (1, [.ref a1, .ref a2, .int (nI nh), .ref ts, .int (nI 4), .int (nI fl), .long tot, .int bc, .ref a3])), (a1, .inl (k 2, 8, .inr (.inl z))), (a2, .inl (k 0, 64, .inl (by_ b))), (a3, .inl (k 1, 64, .inl f))] H ∧ va_D A [(h, .inr (1, [.ref a1, .ref a2, .int (nI nh), .ref ts, .int (nI 4), .int (nI fl), .long tot, .int bc, .ref a3])), (a1, .inl (k 2, 8, .inr (.inl z))), (a2, .inl (k 0, 64, .inl (by_ b))), (a3, .inl (k 1, 64, .inl f))] := ⟨_, rfl, hP, hD⟩
    refine lv_aload_n hx hb dNs_mixSchedule_221 rfl (lv_at hl 9 rfl) ?_
    refine va_get (D := D) (ci := 1) (v := .ref a1) (C := R_Ns) (T := T_Ns) (N := 9) hx hb hts in_Ns hown hK hP 0 rfl rfl 0 (by decide) (hts _ gm_101) (fun x h9 => u_same (hts _ gm_102) x h9) rfl dNs_mixSchedule_222 ?_
    refine lv_iconst (v := nI 4) hx hb dNs_mixSchedule_225 (by decide) ?_
    refine lv_dup2_11 hx hb dNs_mixSchedule_226 rfl rfl ?_
    refine rl_ld hx hb hK hP 1 2 rfl rfl (by omega) (by omega) dNs_mixSchedule_227 ?_
    refine lv_iload hx hb dNs_mixSchedule_228 (lv_at hl 4 rfl) ?_
    refine lv_i2l (v := ((nMx kN f (nOf S) 64).2.2.2.2.1).toInt64) hx hb dNs_mixSchedule_230 rfl ?_
    refine lv_ladd hx hb dNs_mixSchedule_231 ?_
    refine rl_st hx hb hK hP hD hS 1 2 rfl rfl (by omega) (by omega) dNs_mixSchedule_232 (fun H locs hP hD hS => ?_)
    obtain ⟨s5, es5, hP, hD⟩ : ∃ z, z = vp_updL s4 4 ((s4 4) + (((nMx kN f (nOf S) 64).2.2.2.2.1).toInt64)) ∧ va_P D vwCl [(h, .inr (1, [.ref a1, .ref a2, .int (nI nh), .ref ts, .int (nI 4), .int (nI fl), .long tot, .int bc, .ref a3])), (a1, .inl (k 2, 8, .inr (.inl z))), (a2, .inl (k 0, 64, .inl (by_ b))), (a3, .inl (k 1, 64, .inl f))] H ∧ va_D A [(h, .inr (1, [.ref a1, .ref a2, .int (nI nh), .ref ts, .int (nI 4), .int (nI fl), .long tot, .int bc, .ref a3])), (a1, .inl (k 2, 8, .inr (.inl z))), (a2, .inl (k 0, 64, .inl (by_ b))), (a3, .inl (k 1, 64, .inl f))] := ⟨_, rfl, hP, hD⟩
    refine lv_aload_n hx hb dNs_mixSchedule_233 rfl (lv_at hl 9 rfl) ?_
    refine va_get (D := D) (ci := 1) (v := .ref a1) (C := R_Ns) (T := T_Ns) (N := 9) hx hb hts in_Ns hown hK hP 0 rfl rfl 0 (by decide) (hts _ gm_101) (fun x h9 => u_same (hts _ gm_102) x h9) rfl dNs_mixSchedule_234 ?_
    refine lv_iconst (v := nI 5) hx hb dNs_mixSchedule_237 (by decide) ?_
    refine lv_dup2_11 hx hb dNs_mixSchedule_238 rfl rfl ?_
    refine rl_ld hx hb hK hP 1 2 rfl rfl (by omega) (by omega) dNs_mixSchedule_239 ?_
    refine lv_iload hx hb dNs_mixSchedule_240 (lv_at hl 3 rfl) ?_
    refine lv_i2l (v := ((nMx kN f (nOf S) 64).2.2.2.2.2.1).toInt64) hx hb dNs_mixSchedule_242 rfl ?_
    refine lv_ladd hx hb dNs_mixSchedule_243 ?_
    refine rl_st hx hb hK hP hD hS 1 2 rfl rfl (by omega) (by omega) dNs_mixSchedule_244 (fun H locs hP hD hS => ?_)
    obtain ⟨s6, es6, hP, hD⟩ : ∃ z, z = vp_updL s5 5 ((s5 5) + (((nMx kN f (nOf S) 64).2.2.2.2.2.1).toInt64)) ∧ va_P D vwCl [(h, .inr (1, [.ref a1, .ref a2, .int (nI nh), .ref ts, .int (nI 4), .int (nI fl), .long tot, .int bc, .ref a3])), (a1, .inl (k 2, 8, .inr (.inl z))), (a2, .inl (k 0, 64, .inl (by_ b))), (a3, .inl (k 1, 64, .inl f))] H ∧ va_D A [(h, .inr (1, [.ref a1, .ref a2, .int (nI nh), .ref ts, .int (nI 4), .int (nI fl), .long tot, .int bc, .ref a3])), (a1, .inl (k 2, 8, .inr (.inl z))), (a2, .inl (k 0, 64, .inl (by_ b))), (a3, .inl (k 1, 64, .inl f))] := ⟨_, rfl, hP, hD⟩
    refine lv_aload_n hx hb dNs_mixSchedule_245 rfl (lv_at hl 9 rfl) ?_
    refine va_get (D := D) (ci := 1) (v := .ref a1) (C := R_Ns) (T := T_Ns) (N := 9) hx hb hts in_Ns hown hK hP 0 rfl rfl 0 (by decide) (hts _ gm_101) (fun x h9 => u_same (hts _ gm_102) x h9) rfl dNs_mixSchedule_246 ?_
    refine lv_bipush (v := nI 6) hx hb dNs_mixSchedule_249 (by decide) ?_
    refine lv_dup2_11 hx hb dNs_mixSchedule_251 rfl rfl ?_
    refine rl_ld hx hb hK hP 1 2 rfl rfl (by omega) (by omega) dNs_mixSchedule_252 ?_
    refine lv_iload hx hb dNs_mixSchedule_253 (lv_at hl 2 rfl) ?_
    refine lv_i2l (v := ((nMx kN f (nOf S) 64).2.2.2.2.2.2.1).toInt64) hx hb dNs_mixSchedule_255 rfl ?_
    refine lv_ladd hx hb dNs_mixSchedule_256 ?_
    refine rl_st hx hb hK hP hD hS 1 2 rfl rfl (by omega) (by omega) dNs_mixSchedule_257 (fun H locs hP hD hS => ?_)
    obtain ⟨s7, es7, hP, hD⟩ : ∃ z, z = vp_updL s6 6 ((s6 6) + (((nMx kN f (nOf S) 64).2.2.2.2.2.2.1).toInt64)) ∧ va_P D vwCl [(h, .inr (1, [.ref a1, .ref a2, .int (nI nh), .ref ts, .int (nI 4), .int (nI fl), .long tot, .int bc, .ref a3])), (a1, .inl (k 2, 8, .inr (.inl z))), (a2, .inl (k 0, 64, .inl (by_ b))), (a3, .inl (k 1, 64, .inl f))] H ∧ va_D A [(h, .inr (1, [.ref a1, .ref a2, .int (nI nh), .ref ts, .int (nI 4), .int (nI fl), .long tot, .int bc, .ref a3])), (a1, .inl (k 2, 8, .inr (.inl z))), (a2, .inl (k 0, 64, .inl (by_ b))), (a3, .inl (k 1, 64, .inl f))] := ⟨_, rfl, hP, hD⟩
    refine lv_aload_n hx hb dNs_mixSchedule_258 rfl (lv_at hl 9 rfl) ?_
    refine va_get (D := D) (ci := 1) (v := .ref a1) (C := R_Ns) (T := T_Ns) (N := 9) hx hb hts in_Ns hown hK hP 0 rfl rfl 0 (by decide) (hts _ gm_101) (fun x h9 => u_same (hts _ gm_102) x h9) rfl dNs_mixSchedule_259 ?_
    refine lv_bipush (v := nI 7) hx hb dNs_mixSchedule_262 (by decide) ?_
    refine lv_dup2_11 hx hb dNs_mixSchedule_264 rfl rfl ?_
    refine rl_ld hx hb hK hP 1 2 rfl rfl (by omega) (by omega) dNs_mixSchedule_265 ?_
    refine lv_iload hx hb dNs_mixSchedule_266 (lv_at hl 1 rfl) ?_
    refine lv_i2l (v := ((nMx kN f (nOf S) 64).2.2.2.2.2.2.2).toInt64) hx hb dNs_mixSchedule_268 rfl ?_
    refine lv_ladd hx hb dNs_mixSchedule_269 ?_
    refine rl_st hx hb hK hP hD hS 1 2 rfl rfl (by omega) (by omega) dNs_mixSchedule_270 (fun H locs hP hD hS => ?_)
    obtain ⟨s8, es8, hP, hD⟩ : ∃ z, z = vp_updL s7 7 ((s7 7) + (((nMx kN f (nOf S) 64).2.2.2.2.2.2.2).toInt64)) ∧ va_P D vwCl [(h, .inr (1, [.ref a1, .ref a2, .int (nI nh), .ref ts, .int (nI 4), .int (nI fl), .long tot, .int bc, .ref a3])), (a1, .inl (k 2, 8, .inr (.inl z))), (a2, .inl (k 0, 64, .inl (by_ b))), (a3, .inl (k 1, 64, .inl f))] H ∧ va_D A [(h, .inr (1, [.ref a1, .ref a2, .int (nI nh), .ref ts, .int (nI 4), .int (nI fl), .long tot, .int bc, .ref a3])), (a1, .inl (k 2, 8, .inr (.inl z))), (a2, .inl (k 0, 64, .inl (by_ b))), (a3, .inl (k 1, 64, .inl f))] := ⟨_, rfl, hP, hD⟩
    have e9 : s8 = add8 S (lg8 (nMx kN f (nOf S) 64)) := add8_ch es1 es2 es3 es4 es5 es6 es7 es8
    rw [e9] at hP hD
    refine W.widen (k := 0) (n := 0) (Nat.le_refl _) (Nat.le_refl _) ?_
    exact W.vret hx hb hr (fun t ht hW => ⟨⟨(), rfl, trivial, by rw [ht]; exact hP, hD⟩, hS.F ht⟩) hS.2.2 dNs_mixSchedule_271
