/-! THE LAW'S HELPERS, where they catch -/
set_option maxHeartbeats 600000 in
set_option maxRecDepth 100000 in
theorem lt_restart (l : Launch) (D : va_G) (k : Nat → ClassId) (tb : Nat → Nat) (hls : l.stackTraces = false) (sz : Nat) (rt rs ro ri ra ma : Nat) (bx : Nat) (x : Int32) (hq : ¬ x < 0 → x < nI 3 → False) : Met l yLw_restart wLw_restart ({ frames := 8, cells := 1, slots := 6, locals := 131 }) (cP D k tb [(bx, .inr (4, [.ref rt, .ref rs, .ref ro, .ref ri, .ref ra, .ref ma]))] sz [.ref bx, .int x]) (va_Qi (fun (r : Int32) (u : Unit) => r = nI 1) (fun (u : Unit) (t : State) => va_P D vwCl [(bx, .inr (4, [.ref rt, .ref rs, .ref ro, .ref ri, .ref ra, .ref ma]))] t.heap ∧ va_D (va_A [(bx, .inr (4, [.ref rt, .ref rs, .ref ro, .ref ri, .ref ra, .ref ma]))] sz) [(bx, .inr (4, [.ref rt, .ref rs, .ref ro, .ref ri, .ref ra, .ref ma]))]) (va_A [(bx, .inr (4, [.ref rt, .ref rs, .ref ro, .ref ri, .ref ra, .ref ma]))] sz)) (1) (6) (va_A [(bx, .inr (4, [.ref rt, .ref rs, .ref ro, .ref ri, .ref ra, .ref ma]))] sz) := by
  refine va_MetW (hh := [(0, 5, 8, 25)]) (cc := cLw_restart) (maxL := 3) (ret := (some .int)) (by decide) rfl ?_
  intro p e s m args below meth c s₁ B hml hv
  obtain ⟨rfl, hsz, hP, hK, hD0, hG⟩ := hv
  have hx := B.exec
  have hb := B.bytes
  have hr := B.returns
  have hts : ∀ w ∈ GT, w.before _ s = true := fun w h => atoms_spec (ws := wLw_restart) B.pre w (List.mem_cons_of_mem _ h)
  have hown : s.vm.findClass R_Lw = some m.cls := findClass_of_methodNamed B.named
  have hlocks := B.notSynchronized
  subst hsz
  have hD := hD0.self (sz := s.heap.size)
  generalize hAe : va_A [(bx, .inr (4, [.ref rt, .ref rs, .ref ro, .ref ri, .ref ra, .ref ma]))] s.heap.size = A at hD hG ⊢
  have hA : ∀ q : Nat, s.heap.size ≤ q → A q := fun q h => by rw [← hAe]; exact Or.inr h
  have hl := lv_entry ([.ref bx, .int x]) (n := 3) (Nat.le_of_ble_eq_true rfl)
  rw [lg_entry_eq]
  generalize (lg_sl ([.ref bx, .int x]) ++ List.replicate (3 - (lg_sl ([.ref bx, .int x])).length) Slot.unset).toArray = ls at hl ⊢
  have hl : lv_has ls 3 [(0, .ref bx), (1, .int x)] := hl
  refine cw_start (A := A) hP (fun H locs hP hS => ?_)
  refine lv_aload_n hx hb dLw_restart_0 rfl (lv_at hl 0 rfl) ?_
  refine lv_iload_n hx hb dLw_restart_1 rfl (lv_at hl 1 rfl) ?_
  refine rx_c (wr := [(bx, .inr (4, [.ref rt, .ref rs, .ref ro, .ref ri, .ref ra, .ref ma]))]) (vx_runV (As := [.int x]) (rest := []) ⟨hx, hb, hml, hown, hts⟩ (t_restart l D k tb hls H.size bx x hq) (cwV 1 hts (gV gm_301 gm_302 gm_303 gm_50 gm_304) rfl rfl rfl (by decide +kernel) ⟨Nat.le_of_ble_eq_true rfl, Nat.le_of_ble_eq_true rfl⟩) (cP_V hP hD hK hG hS hA [] (by decide) rfl (ci := 4) (q0 := 0) rfl rfl) rfl rfl hl.1 rfl (lv_room (Nat.le_of_ble_eq_true rfl)) dLw_restart_2 ⟨Nat.le_of_ble_eq_true rfl, Nat.le_of_ble_eq_true rfl⟩) hS hA hP hD [] [0] rfl rfl (by decide) (by decide) (fun ce q9 H locs hP hD hS hce hcv hcl => ?_)
  have hP : va_P D vwCl [(bx, .inr (4, [.ref rt, .ref rs, .ref ro, .ref ri, .ref ra, .ref ma]))] H := hP
  have hD : va_D A [(bx, .inr (4, [.ref rt, .ref rs, .ref ro, .ref ri, .ref ra, .ref ma]))] := hD
  have hcw : (Cond.codeWith yLw_restart cLw_restart 3 (some .int) [(0, 5, 8, 25)]).before _ s = true := atoms_spec (ws := wLw_restart) B.pre _ List.mem_cons_self
  refine vx_catch (own := R_Lw) (name := "java/util/NoSuchElementException") hown [] ⟨0, 5, 8, 25⟩ [] (vx_table (x := yLw_restart) (hh := [(0, 5, 8, 25)]) B hcw) (fun z hz => nomatch hz) (by decide) (by decide) (hts _ gm_300) (hG.nest gn_37 rfl) hce hcv hcl ?_
  refine W.eq (g2 := F0 m 8 ls [.ref q9]) rfl ?_
  refine lv_astore_n (lv' := [(2, .ref q9), (0, .ref bx), (1, .int x)]) hx hb dLw_restart_8 rfl hl (by decide) rfl (fun ls hl => ?_)
  refine lv_iconst (v := nI 1) hx hb dLw_restart_9 (by decide) ?_
  refine W.widen (k := 1) (n := 6) (by omega) (by omega) ?_
  exact W.iret (v := nI 1) hx hb hr (fun t ht hW => ⟨⟨nI 1, (), rfl, rfl, by rw [ht]; exact hP, hD⟩, hS.F ht⟩) hS.2.2 dLw_restart_10
set_option maxHeartbeats 600000 in
set_option maxRecDepth 100000 in
theorem lt_more (l : Launch) (D : va_G) (k : Nat → ClassId) (tb : Nat → Nat) (hls : l.stackTraces = false) (sz : Nat) (rt rs ro ri ra ma : Nat) (bx : Nat) (x : Int32) (hq : ¬ x < 0 → x < nI 3 → False) (ou : Nat) (fq : Nat → Int64) : Met l yLw_more wLw_more ({ frames := 8, cells := 1, slots := 6, locals := 131 }) (cP D k tb [(bx, .inr (4, [.ref rt, .ref rs, .ref ro, .ref ri, .ref ra, .ref ma])), (ou, .inl (k 2, 1, .inr (.inl fq)))] sz [.ref bx, .int x, .ref ou]) (va_Qi (fun (r : Int32) (u : Unit) => r = nI 1) (fun (u : Unit) (t : State) => va_P D vwCl [(bx, .inr (4, [.ref rt, .ref rs, .ref ro, .ref ri, .ref ra, .ref ma])), (ou, .inl (k 2, 1, .inr (.inl fq)))] t.heap ∧ va_D (va_A [(bx, .inr (4, [.ref rt, .ref rs, .ref ro, .ref ri, .ref ra, .ref ma])), (ou, .inl (k 2, 1, .inr (.inl fq)))] sz) [(bx, .inr (4, [.ref rt, .ref rs, .ref ro, .ref ri, .ref ra, .ref ma])), (ou, .inl (k 2, 1, .inr (.inl fq)))]) (va_A [(bx, .inr (4, [.ref rt, .ref rs, .ref ro, .ref ri, .ref ra, .ref ma])), (ou, .inl (k 2, 1, .inr (.inl fq)))] sz)) (1) (6) (va_A [(bx, .inr (4, [.ref rt, .ref rs, .ref ro, .ref ri, .ref ra, .ref ma])), (ou, .inl (k 2, 1, .inr (.inl fq)))] sz) := by
  refine va_MetW (hh := [(0, 8, 11, 25)]) (cc := cLw_more) (maxL := 4) (ret := (some .int)) (by decide) rfl ?_
  intro p e s m args below meth c s₁ B hml hv
  obtain ⟨rfl, hsz, hP, hK, hD0, hG⟩ := hv
  have hx := B.exec
  have hb := B.bytes
  have hr := B.returns
  have hts : ∀ w ∈ GT, w.before _ s = true := fun w h => atoms_spec (ws := wLw_more) B.pre w (List.mem_cons_of_mem _ h)
  have hown : s.vm.findClass R_Lw = some m.cls := findClass_of_methodNamed B.named
  have hlocks := B.notSynchronized
  subst hsz
  have hD := hD0.self (sz := s.heap.size)
  generalize hAe : va_A [(bx, .inr (4, [.ref rt, .ref rs, .ref ro, .ref ri, .ref ra, .ref ma])), (ou, .inl (k 2, 1, .inr (.inl fq)))] s.heap.size = A at hD hG ⊢
  have hA : ∀ q : Nat, s.heap.size ≤ q → A q := fun q h => by rw [← hAe]; exact Or.inr h
  have hl := lv_entry ([.ref bx, .int x, .ref ou]) (n := 4) (Nat.le_of_ble_eq_true rfl)
  rw [lg_entry_eq]
  generalize (lg_sl ([.ref bx, .int x, .ref ou]) ++ List.replicate (4 - (lg_sl ([.ref bx, .int x, .ref ou])).length) Slot.unset).toArray = ls at hl ⊢
  have hl : lv_has ls 4 [(0, .ref bx), (1, .int x), (2, .ref ou)] := hl
  refine cw_start (A := A) hP (fun H locs hP hS => ?_)
  refine lv_aload_n hx hb dLw_more_0 rfl (lv_at hl 2 rfl) ?_
  refine lv_iconst (v := nI 0) hx hb dLw_more_1 (by decide) ?_
  refine lv_aload_n hx hb dLw_more_2 rfl (lv_at hl 0 rfl) ?_
  refine lv_iload_n hx hb dLw_more_3 rfl (lv_at hl 1 rfl) ?_
  refine rx_c (wr := [(bx, .inr (4, [.ref rt, .ref rs, .ref ro, .ref ri, .ref ra, .ref ma])), (ou, .inl (k 2, 1, .inr (.inl fq)))]) (vx_runV (As := [.int x]) (rest := [.int (nI 0), .ref ou]) ⟨hx, hb, hml, hown, hts⟩ (t_more l D k tb hls H.size bx x hq) (cwV 1 hts (gV gm_329 gm_330 gm_331 gm_50 gm_332) rfl rfl rfl (by decide +kernel) ⟨Nat.le_of_ble_eq_true rfl, Nat.le_of_ble_eq_true rfl⟩) (cP_V hP hD hK hG hS hA [] (by decide) rfl (ci := 4) (q0 := 0) rfl rfl) rfl rfl hl.1 rfl (lv_room (Nat.le_of_ble_eq_true rfl)) dLw_more_4 ⟨Nat.le_of_ble_eq_true rfl, Nat.le_of_ble_eq_true rfl⟩) hS hA hP hD [] [0, 1] rfl rfl (by decide) (by decide) (fun ce q9 H locs hP hD hS hce hcv hcl => ?_)
  have hP : va_P D vwCl [(bx, .inr (4, [.ref rt, .ref rs, .ref ro, .ref ri, .ref ra, .ref ma])), (ou, .inl (k 2, 1, .inr (.inl fq)))] H := hP
  have hD : va_D A [(bx, .inr (4, [.ref rt, .ref rs, .ref ro, .ref ri, .ref ra, .ref ma])), (ou, .inl (k 2, 1, .inr (.inl fq)))] := hD
  have hcw : (Cond.codeWith yLw_more cLw_more 4 (some .int) [(0, 8, 11, 25)]).before _ s = true := atoms_spec (ws := wLw_more) B.pre _ List.mem_cons_self
  refine vx_catch (own := R_Lw) (name := "java/util/NoSuchElementException") hown [] ⟨0, 8, 11, 25⟩ [] (vx_table (x := yLw_more) (hh := [(0, 8, 11, 25)]) B hcw) (fun z hz => nomatch hz) (by decide) (by decide) (hts _ gm_300) (hG.nest gn_37 rfl) hce hcv hcl ?_
  refine W.eq (g2 := F0 m 11 ls [.ref q9]) rfl ?_
  refine lv_astore_n (lv' := [(3, .ref q9), (0, .ref bx), (1, .int x), (2, .ref ou)]) hx hb dLw_more_11 rfl hl (by decide) rfl (fun ls hl => ?_)
  refine lv_iconst (v := nI 1) hx hb dLw_more_12 (by decide) ?_
  refine W.widen (k := 1) (n := 6) (by omega) (by omega) ?_
  exact W.iret (v := nI 1) hx hb hr (fun t ht hW => ⟨⟨nI 1, (), rfl, rfl, by rw [ht]; exact hP, hD⟩, hS.F ht⟩) hS.2.2 dLw_more_13
set_option maxHeartbeats 600000 in
set_option maxRecDepth 100000 in
theorem lt_peek (l : Launch) (D : va_G) (k : Nat → ClassId) (tb : Nat → Nat) (hls : l.stackTraces = false) (sz : Nat) (rt rs ro ri ra ma : Nat) (bx : Nat) (x : Int32) (hq : ¬ x < 0 → x < nI 3 → False) (ou : Nat) (fq : Nat → Int64) : Met l yLw_peek wLw_peek ({ frames := 8, cells := 1, slots := 6, locals := 132 }) (cP D k tb [(bx, .inr (4, [.ref rt, .ref rs, .ref ro, .ref ri, .ref ra, .ref ma])), (ou, .inl (k 2, 1, .inr (.inl fq)))] sz [.ref bx, .int x, .ref ou]) (va_Qi (fun (r : Int32) (u : Unit) => r = nI 1) (fun (u : Unit) (t : State) => va_P D vwCl [(bx, .inr (4, [.ref rt, .ref rs, .ref ro, .ref ri, .ref ra, .ref ma])), (ou, .inl (k 2, 1, .inr (.inl fq)))] t.heap ∧ va_D (va_A [(bx, .inr (4, [.ref rt, .ref rs, .ref ro, .ref ri, .ref ra, .ref ma])), (ou, .inl (k 2, 1, .inr (.inl fq)))] sz) [(bx, .inr (4, [.ref rt, .ref rs, .ref ro, .ref ri, .ref ra, .ref ma])), (ou, .inl (k 2, 1, .inr (.inl fq)))]) (va_A [(bx, .inr (4, [.ref rt, .ref rs, .ref ro, .ref ri, .ref ra, .ref ma])), (ou, .inl (k 2, 1, .inr (.inl fq)))] sz)) (1) (6) (va_A [(bx, .inr (4, [.ref rt, .ref rs, .ref ro, .ref ri, .ref ra, .ref ma])), (ou, .inl (k 2, 1, .inr (.inl fq)))] sz) := by
  refine va_MetW (hh := [(0, 9, 12, 25)]) (cc := cLw_peek) (maxL := 4) (ret := (some .int)) (by decide) rfl ?_
  intro p e s m args below meth c s₁ B hml hv
  obtain ⟨rfl, hsz, hP, hK, hD0, hG⟩ := hv
  have hx := B.exec
  have hb := B.bytes
  have hr := B.returns
  have hts : ∀ w ∈ GT, w.before _ s = true := fun w h => atoms_spec (ws := wLw_peek) B.pre w (List.mem_cons_of_mem _ h)
  have hown : s.vm.findClass R_Lw = some m.cls := findClass_of_methodNamed B.named
  have hlocks := B.notSynchronized
  subst hsz
  have hD := hD0.self (sz := s.heap.size)
  generalize hAe : va_A [(bx, .inr (4, [.ref rt, .ref rs, .ref ro, .ref ri, .ref ra, .ref ma])), (ou, .inl (k 2, 1, .inr (.inl fq)))] s.heap.size = A at hD hG ⊢
  have hA : ∀ q : Nat, s.heap.size ≤ q → A q := fun q h => by rw [← hAe]; exact Or.inr h
  have hl := lv_entry ([.ref bx, .int x, .ref ou]) (n := 4) (Nat.le_of_ble_eq_true rfl)
  rw [lg_entry_eq]
  generalize (lg_sl ([.ref bx, .int x, .ref ou]) ++ List.replicate (4 - (lg_sl ([.ref bx, .int x, .ref ou])).length) Slot.unset).toArray = ls at hl ⊢
  have hl : lv_has ls 4 [(0, .ref bx), (1, .int x), (2, .ref ou)] := hl
  refine cw_start (A := A) hP (fun H locs hP hS => ?_)
  refine lv_aload_n hx hb dLw_peek_0 rfl (lv_at hl 2 rfl) ?_
  refine lv_iconst (v := nI 0) hx hb dLw_peek_1 (by decide) ?_
  refine lv_aload_n hx hb dLw_peek_2 rfl (lv_at hl 0 rfl) ?_
  refine lv_iload_n hx hb dLw_peek_3 rfl (lv_at hl 1 rfl) ?_
  refine rx_c (wr := [(bx, .inr (4, [.ref rt, .ref rs, .ref ro, .ref ri, .ref ra, .ref ma])), (ou, .inl (k 2, 1, .inr (.inl fq)))]) (vx_runV (As := [.int x]) (rest := [.int (nI 0), .ref ou]) ⟨hx, hb, hml, hown, hts⟩ (t_peek l D k tb hls H.size bx x hq) (cwV 1 hts (gV gm_384 gm_385 gm_386 gm_50 gm_387) rfl rfl rfl (by decide +kernel) ⟨Nat.le_of_ble_eq_true rfl, Nat.le_of_ble_eq_true rfl⟩) (cP_V hP hD hK hG hS hA [] (by decide) rfl (ci := 4) (q0 := 0) rfl rfl) rfl rfl hl.1 rfl (lv_room (Nat.le_of_ble_eq_true rfl)) dLw_peek_4 ⟨Nat.le_of_ble_eq_true rfl, Nat.le_of_ble_eq_true rfl⟩) hS hA hP hD [] [0, 1] rfl rfl (by decide) (by decide) (fun ce q9 H locs hP hD hS hce hcv hcl => ?_)
  have hP : va_P D vwCl [(bx, .inr (4, [.ref rt, .ref rs, .ref ro, .ref ri, .ref ra, .ref ma])), (ou, .inl (k 2, 1, .inr (.inl fq)))] H := hP
  have hD : va_D A [(bx, .inr (4, [.ref rt, .ref rs, .ref ro, .ref ri, .ref ra, .ref ma])), (ou, .inl (k 2, 1, .inr (.inl fq)))] := hD
  have hcw : (Cond.codeWith yLw_peek cLw_peek 4 (some .int) [(0, 9, 12, 25)]).before _ s = true := atoms_spec (ws := wLw_peek) B.pre _ List.mem_cons_self
  refine vx_catch (own := R_Lw) (name := "java/util/NoSuchElementException") hown [] ⟨0, 9, 12, 25⟩ [] (vx_table (x := yLw_peek) (hh := [(0, 9, 12, 25)]) B hcw) (fun z hz => nomatch hz) (by decide) (by decide) (hts _ gm_300) (hG.nest gn_37 rfl) hce hcv hcl ?_
  refine W.eq (g2 := F0 m 12 ls [.ref q9]) rfl ?_
  refine lv_astore_n (lv' := [(3, .ref q9), (0, .ref bx), (1, .int x), (2, .ref ou)]) hx hb dLw_peek_12 rfl hl (by decide) rfl (fun ls hl => ?_)
  refine lv_iconst (v := nI 1) hx hb dLw_peek_13 (by decide) ?_
  refine W.widen (k := 1) (n := 6) (by omega) (by omega) ?_
  exact W.iret (v := nI 1) hx hb hr (fun t ht hW => ⟨⟨nI 1, (), rfl, rfl, by rw [ht]; exact hP, hD⟩, hS.F ht⟩) hS.2.2 dLw_peek_14
set_option maxHeartbeats 600000 in
set_option maxRecDepth 100000 in
theorem lt_hmac (l : Launch) (D : va_G) (k : Nat → ClassId) (tb : Nat → Nat) (hls : l.stackTraces = false) (sz : Nat) (rt rs ro ri ra ma : Nat) (bx : Nat) (x : Int32) (hq : ¬ x < 0 → x < nI 3 → False) (ou : Nat) (fq : Nat → Int64) : Met l yLw_hmac wLw_hmac ({ frames := 8, cells := 1, slots := 6, locals := 132 }) (cP D k tb [(bx, .inr (4, [.ref rt, .ref rs, .ref ro, .ref ri, .ref ra, .ref ma])), (ou, .inl (k 2, 1, .inr (.inl fq)))] sz [.ref bx, .int x, .ref ou]) (va_Qi (fun (r : Int32) (u : Unit) => r = nI 1) (fun (u : Unit) (t : State) => va_P D vwCl [(bx, .inr (4, [.ref rt, .ref rs, .ref ro, .ref ri, .ref ra, .ref ma])), (ou, .inl (k 2, 1, .inr (.inl fq)))] t.heap ∧ va_D (va_A [(bx, .inr (4, [.ref rt, .ref rs, .ref ro, .ref ri, .ref ra, .ref ma])), (ou, .inl (k 2, 1, .inr (.inl fq)))] sz) [(bx, .inr (4, [.ref rt, .ref rs, .ref ro, .ref ri, .ref ra, .ref ma])), (ou, .inl (k 2, 1, .inr (.inl fq)))]) (va_A [(bx, .inr (4, [.ref rt, .ref rs, .ref ro, .ref ri, .ref ra, .ref ma])), (ou, .inl (k 2, 1, .inr (.inl fq)))] sz)) (1) (6) (va_A [(bx, .inr (4, [.ref rt, .ref rs, .ref ro, .ref ri, .ref ra, .ref ma])), (ou, .inl (k 2, 1, .inr (.inl fq)))] sz) := by
  refine va_MetW (hh := [(0, 9, 12, 25)]) (cc := cLw_hmac) (maxL := 4) (ret := (some .int)) (by decide) rfl ?_
  intro p e s m args below meth c s₁ B hml hv
  obtain ⟨rfl, hsz, hP, hK, hD0, hG⟩ := hv
  have hx := B.exec
  have hb := B.bytes
  have hr := B.returns
  have hts : ∀ w ∈ GT, w.before _ s = true := fun w h => atoms_spec (ws := wLw_hmac) B.pre w (List.mem_cons_of_mem _ h)
  have hown : s.vm.findClass R_Lw = some m.cls := findClass_of_methodNamed B.named
  have hlocks := B.notSynchronized
  subst hsz
  have hD := hD0.self (sz := s.heap.size)
  generalize hAe : va_A [(bx, .inr (4, [.ref rt, .ref rs, .ref ro, .ref ri, .ref ra, .ref ma])), (ou, .inl (k 2, 1, .inr (.inl fq)))] s.heap.size = A at hD hG ⊢
  have hA : ∀ q : Nat, s.heap.size ≤ q → A q := fun q h => by rw [← hAe]; exact Or.inr h
  have hl := lv_entry ([.ref bx, .int x, .ref ou]) (n := 4) (Nat.le_of_ble_eq_true rfl)
  rw [lg_entry_eq]
  generalize (lg_sl ([.ref bx, .int x, .ref ou]) ++ List.replicate (4 - (lg_sl ([.ref bx, .int x, .ref ou])).length) Slot.unset).toArray = ls at hl ⊢
  have hl : lv_has ls 4 [(0, .ref bx), (1, .int x), (2, .ref ou)] := hl
  refine cw_start (A := A) hP (fun H locs hP hS => ?_)
  refine lv_aload_n hx hb dLw_hmac_0 rfl (lv_at hl 2 rfl) ?_
  refine lv_iconst (v := nI 0) hx hb dLw_hmac_1 (by decide) ?_
  refine lv_aload_n hx hb dLw_hmac_2 rfl (lv_at hl 0 rfl) ?_
  refine lv_iload_n hx hb dLw_hmac_3 rfl (lv_at hl 1 rfl) ?_
  refine rx_c (wr := [(bx, .inr (4, [.ref rt, .ref rs, .ref ro, .ref ri, .ref ra, .ref ma])), (ou, .inl (k 2, 1, .inr (.inl fq)))]) (vx_runV (As := [.int x]) (rest := [.int (nI 0), .ref ou]) ⟨hx, hb, hml, hown, hts⟩ (t_hmac l D k tb hls H.size bx x hq) (cwV 1 hts (gV gm_433 gm_434 gm_435 gm_50 gm_436) rfl rfl rfl (by decide +kernel) ⟨Nat.le_of_ble_eq_true rfl, Nat.le_of_ble_eq_true rfl⟩) (cP_V hP hD hK hG hS hA [] (by decide) rfl (ci := 4) (q0 := 0) rfl rfl) rfl rfl hl.1 rfl (lv_room (Nat.le_of_ble_eq_true rfl)) dLw_hmac_4 ⟨Nat.le_of_ble_eq_true rfl, Nat.le_of_ble_eq_true rfl⟩) hS hA hP hD [] [0, 1] rfl rfl (by decide) (by decide) (fun ce q9 H locs hP hD hS hce hcv hcl => ?_)
  have hP : va_P D vwCl [(bx, .inr (4, [.ref rt, .ref rs, .ref ro, .ref ri, .ref ra, .ref ma])), (ou, .inl (k 2, 1, .inr (.inl fq)))] H := hP
  have hD : va_D A [(bx, .inr (4, [.ref rt, .ref rs, .ref ro, .ref ri, .ref ra, .ref ma])), (ou, .inl (k 2, 1, .inr (.inl fq)))] := hD
  have hcw : (Cond.codeWith yLw_hmac cLw_hmac 4 (some .int) [(0, 9, 12, 25)]).before _ s = true := atoms_spec (ws := wLw_hmac) B.pre _ List.mem_cons_self
  refine vx_catch (own := R_Lw) (name := "java/util/NoSuchElementException") hown [] ⟨0, 9, 12, 25⟩ [] (vx_table (x := yLw_hmac) (hh := [(0, 9, 12, 25)]) B hcw) (fun z hz => nomatch hz) (by decide) (by decide) (hts _ gm_300) (hG.nest gn_37 rfl) hce hcv hcl ?_
  refine W.eq (g2 := F0 m 12 ls [.ref q9]) rfl ?_
  refine lv_astore_n (lv' := [(3, .ref q9), (0, .ref bx), (1, .int x), (2, .ref ou)]) hx hb dLw_hmac_12 rfl hl (by decide) rfl (fun ls hl => ?_)
  refine lv_iconst (v := nI 1) hx hb dLw_hmac_13 (by decide) ?_
  refine W.widen (k := 1) (n := 6) (by omega) (by omega) ?_
  exact W.iret (v := nI 1) hx hb hr (fun t ht hW => ⟨⟨nI 1, (), rfl, rfl, by rw [ht]; exact hP, hD⟩, hS.F ht⟩) hS.2.2 dLw_hmac_14
set_option maxHeartbeats 600000 in
set_option maxRecDepth 100000 in
theorem lt_expand (l : Launch) (D : va_G) (k : Nat → ClassId) (tb : Nat → Nat) (hls : l.stackTraces = false) (sz : Nat) (rt rs ro ri ra ma : Nat) (bx : Nat) (x x0 : Int32) (hq : ¬ x < 0 → x < nI 3 → False) (ou : Nat) (fq : Nat → Int64) : Met l yLw_expand wLw_expand ({ frames := 8, cells := 1, slots := 6, locals := 132 }) (cP D k tb [(bx, .inr (4, [.ref rt, .ref rs, .ref ro, .ref ri, .ref ra, .ref ma])), (ou, .inl (k 2, 1, .inr (.inl fq)))] sz [.ref bx, .int x, .int x0, .ref ou]) (va_Qi (fun (r : Int32) (u : Unit) => r = nI 1) (fun (u : Unit) (t : State) => va_P D vwCl [(bx, .inr (4, [.ref rt, .ref rs, .ref ro, .ref ri, .ref ra, .ref ma])), (ou, .inl (k 2, 1, .inr (.inl fq)))] t.heap ∧ va_D (va_A [(bx, .inr (4, [.ref rt, .ref rs, .ref ro, .ref ri, .ref ra, .ref ma])), (ou, .inl (k 2, 1, .inr (.inl fq)))] sz) [(bx, .inr (4, [.ref rt, .ref rs, .ref ro, .ref ri, .ref ra, .ref ma])), (ou, .inl (k 2, 1, .inr (.inl fq)))]) (va_A [(bx, .inr (4, [.ref rt, .ref rs, .ref ro, .ref ri, .ref ra, .ref ma])), (ou, .inl (k 2, 1, .inr (.inl fq)))] sz)) (1) (6) (va_A [(bx, .inr (4, [.ref rt, .ref rs, .ref ro, .ref ri, .ref ra, .ref ma])), (ou, .inl (k 2, 1, .inr (.inl fq)))] sz) := by
  refine va_MetW (hh := [(0, 10, 13, 25), (0, 10, 17, 19)]) (cc := cLw_expand) (maxL := 5) (ret := (some .int)) (by decide) rfl ?_
  intro p e s m args below meth c s₁ B hml hv
  obtain ⟨rfl, hsz, hP, hK, hD0, hG⟩ := hv
  have hx := B.exec
  have hb := B.bytes
  have hr := B.returns
  have hts : ∀ w ∈ GT, w.before _ s = true := fun w h => atoms_spec (ws := wLw_expand) B.pre w (List.mem_cons_of_mem _ h)
  have hown : s.vm.findClass R_Lw = some m.cls := findClass_of_methodNamed B.named
  have hlocks := B.notSynchronized
  subst hsz
  have hD := hD0.self (sz := s.heap.size)
  generalize hAe : va_A [(bx, .inr (4, [.ref rt, .ref rs, .ref ro, .ref ri, .ref ra, .ref ma])), (ou, .inl (k 2, 1, .inr (.inl fq)))] s.heap.size = A at hD hG ⊢
  have hA : ∀ q : Nat, s.heap.size ≤ q → A q := fun q h => by rw [← hAe]; exact Or.inr h
  have hl := lv_entry ([.ref bx, .int x, .int x0, .ref ou]) (n := 5) (Nat.le_of_ble_eq_true rfl)
  rw [lg_entry_eq]
  generalize (lg_sl ([.ref bx, .int x, .int x0, .ref ou]) ++ List.replicate (5 - (lg_sl ([.ref bx, .int x, .int x0, .ref ou])).length) Slot.unset).toArray = ls at hl ⊢
  have hl : lv_has ls 5 [(0, .ref bx), (1, .int x), (2, .int x0), (3, .ref ou)] := hl
  refine cw_start (A := A) hP (fun H locs hP hS => ?_)
  refine lv_aload_n hx hb dLw_expand_0 rfl (lv_at hl 3 rfl) ?_
  refine lv_iconst (v := nI 0) hx hb dLw_expand_1 (by decide) ?_
  refine lv_aload_n hx hb dLw_expand_2 rfl (lv_at hl 0 rfl) ?_
  refine lv_iload_n hx hb dLw_expand_3 rfl (lv_at hl 1 rfl) ?_
  refine lv_iload_n hx hb dLw_expand_4 rfl (lv_at hl 2 rfl) ?_
  refine rx_c (wr := [(bx, .inr (4, [.ref rt, .ref rs, .ref ro, .ref ri, .ref ra, .ref ma])), (ou, .inl (k 2, 1, .inr (.inl fq)))]) (vx_runV (As := [.int x, .int x0]) (rest := [.int (nI 0), .ref ou]) ⟨hx, hb, hml, hown, hts⟩ (t_expand l D k tb hls H.size bx x x0 hq) (cwV 2 hts (gV gm_458 gm_459 gm_460 gm_50 gm_461) rfl rfl rfl (by decide +kernel) ⟨Nat.le_of_ble_eq_true rfl, Nat.le_of_ble_eq_true rfl⟩) (cP_V hP hD hK hG hS hA [] (by decide) rfl (ci := 4) (q0 := 0) rfl rfl) rfl rfl hl.1 rfl (lv_room (Nat.le_of_ble_eq_true rfl)) dLw_expand_5 ⟨Nat.le_of_ble_eq_true rfl, Nat.le_of_ble_eq_true rfl⟩) hS hA hP hD [] [0, 1] rfl rfl (by decide) (by decide) (fun ce q9 H locs hP hD hS hce hcv hcl => ?_)
  have hP : va_P D vwCl [(bx, .inr (4, [.ref rt, .ref rs, .ref ro, .ref ri, .ref ra, .ref ma])), (ou, .inl (k 2, 1, .inr (.inl fq)))] H := hP
  have hD : va_D A [(bx, .inr (4, [.ref rt, .ref rs, .ref ro, .ref ri, .ref ra, .ref ma])), (ou, .inl (k 2, 1, .inr (.inl fq)))] := hD
  have hcw : (Cond.codeWith yLw_expand cLw_expand 5 (some .int) [(0, 10, 13, 25), (0, 10, 17, 19)]).before _ s = true := atoms_spec (ws := wLw_expand) B.pre _ List.mem_cons_self
  refine vx_catch (own := R_Lw) (name := "java/util/NoSuchElementException") hown [] ⟨0, 10, 13, 25⟩ [⟨0, 10, 17, 19⟩] (vx_table (x := yLw_expand) (hh := [(0, 10, 13, 25), (0, 10, 17, 19)]) B hcw) (fun z hz => nomatch hz) (by decide) (by decide) (hts _ gm_300) (hG.nest gn_37 rfl) hce hcv hcl ?_
  refine W.eq (g2 := F0 m 13 ls [.ref q9]) rfl ?_
  refine lv_astore (lv' := [(4, .ref q9), (0, .ref bx), (1, .int x), (2, .int x0), (3, .ref ou)]) hx hb dLw_expand_13 hl (by decide) rfl (fun ls hl => ?_)
  refine lv_iconst (v := nI 1) hx hb dLw_expand_15 (by decide) ?_
  refine W.widen (k := 1) (n := 6) (by omega) (by omega) ?_
  exact W.iret (v := nI 1) hx hb hr (fun t ht hW => ⟨⟨nI 1, (), rfl, rfl, by rw [ht]; exact hP, hD⟩, hS.F ht⟩) hS.2.2 dLw_expand_16
set_option maxHeartbeats 600000 in
set_option maxRecDepth 100000 in
theorem lt_expandLabel (l : Launch) (D : va_G) (k : Nat → ClassId) (tb : Nat → Nat) (hls : l.stackTraces = false) (sz : Nat) (rt rs ro ri ra ma : Nat) (bx : Nat) (x x0 x1 : Int32) (hq : ¬ x < 0 → x < nI 3 → False) (ou : Nat) (fq : Nat → Int64) : Met l yLw_expandLabel wLw_expandLabel ({ frames := 8, cells := 1, slots := 6, locals := 133 }) (cP D k tb [(bx, .inr (4, [.ref rt, .ref rs, .ref ro, .ref ri, .ref ra, .ref ma])), (ou, .inl (k 2, 1, .inr (.inl fq)))] sz [.ref bx, .int x, .int x0, .int x1, .ref ou]) (va_Qi (fun (r : Int32) (u : Unit) => r = nI 1) (fun (u : Unit) (t : State) => va_P D vwCl [(bx, .inr (4, [.ref rt, .ref rs, .ref ro, .ref ri, .ref ra, .ref ma])), (ou, .inl (k 2, 1, .inr (.inl fq)))] t.heap ∧ va_D (va_A [(bx, .inr (4, [.ref rt, .ref rs, .ref ro, .ref ri, .ref ra, .ref ma])), (ou, .inl (k 2, 1, .inr (.inl fq)))] sz) [(bx, .inr (4, [.ref rt, .ref rs, .ref ro, .ref ri, .ref ra, .ref ma])), (ou, .inl (k 2, 1, .inr (.inl fq)))]) (va_A [(bx, .inr (4, [.ref rt, .ref rs, .ref ro, .ref ri, .ref ra, .ref ma])), (ou, .inl (k 2, 1, .inr (.inl fq)))] sz)) (1) (6) (va_A [(bx, .inr (4, [.ref rt, .ref rs, .ref ro, .ref ri, .ref ra, .ref ma])), (ou, .inl (k 2, 1, .inr (.inl fq)))] sz) := by
  refine va_MetW (hh := [(0, 12, 15, 25), (0, 12, 19, 19)]) (cc := cLw_expandLabel) (maxL := 6) (ret := (some .int)) (by decide) rfl ?_
  intro p e s m args below meth c s₁ B hml hv
  obtain ⟨rfl, hsz, hP, hK, hD0, hG⟩ := hv
  have hx := B.exec
  have hb := B.bytes
  have hr := B.returns
  have hts : ∀ w ∈ GT, w.before _ s = true := fun w h => atoms_spec (ws := wLw_expandLabel) B.pre w (List.mem_cons_of_mem _ h)
  have hown : s.vm.findClass R_Lw = some m.cls := findClass_of_methodNamed B.named
  have hlocks := B.notSynchronized
  subst hsz
  have hD := hD0.self (sz := s.heap.size)
  generalize hAe : va_A [(bx, .inr (4, [.ref rt, .ref rs, .ref ro, .ref ri, .ref ra, .ref ma])), (ou, .inl (k 2, 1, .inr (.inl fq)))] s.heap.size = A at hD hG ⊢
  have hA : ∀ q : Nat, s.heap.size ≤ q → A q := fun q h => by rw [← hAe]; exact Or.inr h
  have hl := lv_entry ([.ref bx, .int x, .int x0, .int x1, .ref ou]) (n := 6) (Nat.le_of_ble_eq_true rfl)
  rw [lg_entry_eq]
  generalize (lg_sl ([.ref bx, .int x, .int x0, .int x1, .ref ou]) ++ List.replicate (6 - (lg_sl ([.ref bx, .int x, .int x0, .int x1, .ref ou])).length) Slot.unset).toArray = ls at hl ⊢
  have hl : lv_has ls 6 [(0, .ref bx), (1, .int x), (2, .int x0), (3, .int x1), (4, .ref ou)] := hl
  refine cw_start (A := A) hP (fun H locs hP hS => ?_)
  refine lv_aload hx hb dLw_expandLabel_0 (lv_at hl 4 rfl) ?_
  refine lv_iconst (v := nI 0) hx hb dLw_expandLabel_2 (by decide) ?_
  refine lv_aload_n hx hb dLw_expandLabel_3 rfl (lv_at hl 0 rfl) ?_
  refine lv_iload_n hx hb dLw_expandLabel_4 rfl (lv_at hl 1 rfl) ?_
  refine lv_iload_n hx hb dLw_expandLabel_5 rfl (lv_at hl 2 rfl) ?_
  refine lv_iload_n hx hb dLw_expandLabel_6 rfl (lv_at hl 3 rfl) ?_
  refine rx_c (wr := [(bx, .inr (4, [.ref rt, .ref rs, .ref ro, .ref ri, .ref ra, .ref ma])), (ou, .inl (k 2, 1, .inr (.inl fq)))]) (vx_runV (As := [.int x, .int x0, .int x1]) (rest := [.int (nI 0), .ref ou]) ⟨hx, hb, hml, hown, hts⟩ (t_expandLabel l D k tb hls H.size bx x x0 x1 hq) (cwV 3 hts (gV gm_471 gm_472 gm_473 gm_50 gm_474) rfl rfl rfl (by decide +kernel) ⟨Nat.le_of_ble_eq_true rfl, Nat.le_of_ble_eq_true rfl⟩) (cP_V hP hD hK hG hS hA [] (by decide) rfl (ci := 4) (q0 := 0) rfl rfl) rfl rfl hl.1 rfl (lv_room (Nat.le_of_ble_eq_true rfl)) dLw_expandLabel_7 ⟨Nat.le_of_ble_eq_true rfl, Nat.le_of_ble_eq_true rfl⟩) hS hA hP hD [] [0, 1] rfl rfl (by decide) (by decide) (fun ce q9 H locs hP hD hS hce hcv hcl => ?_)
  have hP : va_P D vwCl [(bx, .inr (4, [.ref rt, .ref rs, .ref ro, .ref ri, .ref ra, .ref ma])), (ou, .inl (k 2, 1, .inr (.inl fq)))] H := hP
  have hD : va_D A [(bx, .inr (4, [.ref rt, .ref rs, .ref ro, .ref ri, .ref ra, .ref ma])), (ou, .inl (k 2, 1, .inr (.inl fq)))] := hD
  have hcw : (Cond.codeWith yLw_expandLabel cLw_expandLabel 6 (some .int) [(0, 12, 15, 25), (0, 12, 19, 19)]).before _ s = true := atoms_spec (ws := wLw_expandLabel) B.pre _ List.mem_cons_self
  refine vx_catch (own := R_Lw) (name := "java/util/NoSuchElementException") hown [] ⟨0, 12, 15, 25⟩ [⟨0, 12, 19, 19⟩] (vx_table (x := yLw_expandLabel) (hh := [(0, 12, 15, 25), (0, 12, 19, 19)]) B hcw) (fun z hz => nomatch hz) (by decide) (by decide) (hts _ gm_300) (hG.nest gn_37 rfl) hce hcv hcl ?_
  refine W.eq (g2 := F0 m 15 ls [.ref q9]) rfl ?_
  refine lv_astore (lv' := [(5, .ref q9), (0, .ref bx), (1, .int x), (2, .int x0), (3, .int x1), (4, .ref ou)]) hx hb dLw_expandLabel_15 hl (by decide) rfl (fun ls hl => ?_)
  refine lv_iconst (v := nI 1) hx hb dLw_expandLabel_17 (by decide) ?_
  refine W.widen (k := 1) (n := 6) (by omega) (by omega) ?_
  exact W.iret (v := nI 1) hx hb hr (fun t ht hW => ⟨⟨nI 1, (), rfl, rfl, by rw [ht]; exact hP, hD⟩, hS.F ht⟩) hS.2.2 dLw_expandLabel_18
set_option maxHeartbeats 600000 in
set_option maxRecDepth 100000 in
theorem lt_end (l : Launch) (D : va_G) (k : Nat → ClassId) (tb : Nat → Nat) (hls : l.stackTraces = false) (sz : Nat) (bx rt rs ro ri ra ma : Nat) (bt nt : Nat) (x : Int32) (hq : ¬ x < 0 → x ≤ nI nt → False) (ou : Nat) (fq : Nat → Int64) : Met l yLw_end wLw_end ({ frames := 7, cells := 1, slots := 6, locals := 111 }) (cP D k tb [(bx, .inr (4, [.ref rt, .ref rs, .ref ro, .ref ri, .ref ra, .ref ma])), (rt, .inr (2, [.ref bt, .int (nI nt)])), (ou, .inl (k 2, 1, .inr (.inl fq)))] sz [.ref bx, .int x, .ref ou]) (va_Qi (fun (r : Int32) (u : Unit) => r = nI 1) (fun (u : Unit) (t : State) => va_P D vwCl [(bx, .inr (4, [.ref rt, .ref rs, .ref ro, .ref ri, .ref ra, .ref ma])), (rt, .inr (2, [.ref bt, .int (nI nt)])), (ou, .inl (k 2, 1, .inr (.inl fq)))] t.heap ∧ va_D (va_A [(bx, .inr (4, [.ref rt, .ref rs, .ref ro, .ref ri, .ref ra, .ref ma])), (rt, .inr (2, [.ref bt, .int (nI nt)])), (ou, .inl (k 2, 1, .inr (.inl fq)))] sz) [(bx, .inr (4, [.ref rt, .ref rs, .ref ro, .ref ri, .ref ra, .ref ma])), (rt, .inr (2, [.ref bt, .int (nI nt)])), (ou, .inl (k 2, 1, .inr (.inl fq)))]) (va_A [(bx, .inr (4, [.ref rt, .ref rs, .ref ro, .ref ri, .ref ra, .ref ma])), (rt, .inr (2, [.ref bt, .int (nI nt)])), (ou, .inl (k 2, 1, .inr (.inl fq)))] sz)) (1) (6) (va_A [(bx, .inr (4, [.ref rt, .ref rs, .ref ro, .ref ri, .ref ra, .ref ma])), (rt, .inr (2, [.ref bt, .int (nI nt)])), (ou, .inl (k 2, 1, .inr (.inl fq)))] sz) := by
  refine va_MetW (hh := [(0, 9, 12, 19)]) (cc := cLw_end) (maxL := 4) (ret := (some .int)) (by decide) rfl ?_
  intro p e s m args below meth c s₁ B hml hv
  obtain ⟨rfl, hsz, hP, hK, hD0, hG⟩ := hv
  have hx := B.exec
  have hb := B.bytes
  have hr := B.returns
  have hts : ∀ w ∈ GT, w.before _ s = true := fun w h => atoms_spec (ws := wLw_end) B.pre w (List.mem_cons_of_mem _ h)
  have hown : s.vm.findClass R_Lw = some m.cls := findClass_of_methodNamed B.named
  have hlocks := B.notSynchronized
  subst hsz
  have hD := hD0.self (sz := s.heap.size)
  generalize hAe : va_A [(bx, .inr (4, [.ref rt, .ref rs, .ref ro, .ref ri, .ref ra, .ref ma])), (rt, .inr (2, [.ref bt, .int (nI nt)])), (ou, .inl (k 2, 1, .inr (.inl fq)))] s.heap.size = A at hD hG ⊢
  have hA : ∀ q : Nat, s.heap.size ≤ q → A q := fun q h => by rw [← hAe]; exact Or.inr h
  have hl := lv_entry ([.ref bx, .int x, .ref ou]) (n := 4) (Nat.le_of_ble_eq_true rfl)
  rw [lg_entry_eq]
  generalize (lg_sl ([.ref bx, .int x, .ref ou]) ++ List.replicate (4 - (lg_sl ([.ref bx, .int x, .ref ou])).length) Slot.unset).toArray = ls at hl ⊢
  have hl : lv_has ls 4 [(0, .ref bx), (1, .int x), (2, .ref ou)] := hl
  refine cw_start (A := A) hP (fun H locs hP hS => ?_)
  refine lv_aload_n hx hb dLw_end_0 rfl (lv_at hl 2 rfl) ?_
  refine lv_iconst (v := nI 0) hx hb dLw_end_1 (by decide) ?_
  refine lv_aload_n hx hb dLw_end_2 rfl (lv_at hl 0 rfl) ?_
  refine lv_iload_n hx hb dLw_end_3 rfl (lv_at hl 1 rfl) ?_
  refine rx_c (wr := [(ou, .inl (k 2, 1, .inr (.inl fq)))]) (vx_runV (As := [.int x]) (rest := [.int (nI 0), .ref ou]) ⟨hx, hb, hml, hown, hts⟩ (t_end l D k tb hls H.size bx rt rs ro ri ra ma bt nt x hq) (cwV 1 hts (gV gm_280 gm_281 gm_282 gm_50 gm_283) rfl rfl rfl (by decide +kernel) ⟨Nat.le_of_ble_eq_true rfl, Nat.le_of_ble_eq_true rfl⟩) (cP_V hP hD hK hG hS hA [0, 1] (by decide) rfl (ci := 4) (q0 := 0) rfl rfl) rfl rfl hl.1 rfl (lv_room (Nat.le_of_ble_eq_true rfl)) dLw_end_4 ⟨Nat.le_of_ble_eq_true rfl, Nat.le_of_ble_eq_true rfl⟩) hS hA hP hD [0, 1] [2] rfl rfl (by decide) (by decide) (fun ce q9 H locs hP hD hS hce hcv hcl => ?_)
  have hP : va_P D vwCl [(ou, .inl (k 2, 1, .inr (.inl fq))), (bx, .inr (4, [.ref rt, .ref rs, .ref ro, .ref ri, .ref ra, .ref ma])), (rt, .inr (2, [.ref bt, .int (nI nt)]))] H := hP
  have hD : va_D A [(ou, .inl (k 2, 1, .inr (.inl fq))), (bx, .inr (4, [.ref rt, .ref rs, .ref ro, .ref ri, .ref ra, .ref ma])), (rt, .inr (2, [.ref bt, .int (nI nt)]))] := hD
  have hcw : (Cond.codeWith yLw_end cLw_end 4 (some .int) [(0, 9, 12, 19)]).before _ s = true := atoms_spec (ws := wLw_end) B.pre _ List.mem_cons_self
  refine vx_catch (own := R_Lw) (name := "java/lang/IllegalArgumentException") hown [] ⟨0, 9, 12, 19⟩ [] (vx_table (x := yLw_end) (hh := [(0, 9, 12, 19)]) B hcw) (fun z hz => nomatch hz) (by decide) (by decide) (hts _ gm_279) (hG.nest gn_36 rfl) hce hcv hcl ?_
  refine W.eq (g2 := F0 m 12 ls [.ref q9]) rfl ?_
  refine lv_astore_n (lv' := [(3, .ref q9), (0, .ref bx), (1, .int x), (2, .ref ou)]) hx hb dLw_end_12 rfl hl (by decide) rfl (fun ls hl => ?_)
  refine lv_iconst (v := nI 1) hx hb dLw_end_13 (by decide) ?_
  have hP := hP.sub (ws' := [(bx, .inr (4, [.ref rt, .ref rs, .ref ro, .ref ri, .ref ra, .ref ma])), (rt, .inr (2, [.ref bt, .int (nI nt)])), (ou, .inl (k 2, 1, .inr (.inl fq)))]) [1, 2, 0] rfl
  have hD := hD.sub (ws' := [(bx, .inr (4, [.ref rt, .ref rs, .ref ro, .ref ri, .ref ra, .ref ma])), (rt, .inr (2, [.ref bt, .int (nI nt)])), (ou, .inl (k 2, 1, .inr (.inl fq)))]) [1, 2, 0] (by decide) rfl
  refine W.widen (k := 1) (n := 6) (by omega) (by omega) ?_
  exact W.iret (v := nI 1) hx hb hr (fun t ht hW => ⟨⟨nI 1, (), rfl, rfl, by rw [ht]; exact hP, hD⟩, hS.F ht⟩) hS.2.2 dLw_end_14
set_option maxHeartbeats 600000 in
set_option maxRecDepth 100000 in
theorem lt_result (l : Launch) (D : va_G) (k : Nat → ClassId) (tb : Nat → Nat) (hls : l.stackTraces = false) (sz : Nat) (bx rt rs ro ri ra ma : Nat) (bo no : Nat) (x : Int32) (hq : ¬ x < 0 → x < nI no → False) (ou : Nat) (fq : Nat → Int64) : Met l yLw_result wLw_result ({ frames := 7, cells := 1, slots := 6, locals := 111 }) (cP D k tb [(bx, .inr (4, [.ref rt, .ref rs, .ref ro, .ref ri, .ref ra, .ref ma])), (ro, .inr (2, [.ref bo, .int (nI no)])), (ou, .inl (k 2, 1, .inr (.inl fq)))] sz [.ref bx, .int x, .ref ou]) (va_Qi (fun (r : Int32) (u : Unit) => r = nI 1) (fun (u : Unit) (t : State) => va_P D vwCl [(bx, .inr (4, [.ref rt, .ref rs, .ref ro, .ref ri, .ref ra, .ref ma])), (ro, .inr (2, [.ref bo, .int (nI no)])), (ou, .inl (k 2, 1, .inr (.inl fq)))] t.heap ∧ va_D (va_A [(bx, .inr (4, [.ref rt, .ref rs, .ref ro, .ref ri, .ref ra, .ref ma])), (ro, .inr (2, [.ref bo, .int (nI no)])), (ou, .inl (k 2, 1, .inr (.inl fq)))] sz) [(bx, .inr (4, [.ref rt, .ref rs, .ref ro, .ref ri, .ref ra, .ref ma])), (ro, .inr (2, [.ref bo, .int (nI no)])), (ou, .inl (k 2, 1, .inr (.inl fq)))]) (va_A [(bx, .inr (4, [.ref rt, .ref rs, .ref ro, .ref ri, .ref ra, .ref ma])), (ro, .inr (2, [.ref bo, .int (nI no)])), (ou, .inl (k 2, 1, .inr (.inl fq)))] sz)) (1) (6) (va_A [(bx, .inr (4, [.ref rt, .ref rs, .ref ro, .ref ri, .ref ra, .ref ma])), (ro, .inr (2, [.ref bo, .int (nI no)])), (ou, .inl (k 2, 1, .inr (.inl fq)))] sz) := by
  refine va_MetW (hh := [(0, 9, 12, 48)]) (cc := cLw_result) (maxL := 4) (ret := (some .int)) (by decide) rfl ?_
  intro p e s m args below meth c s₁ B hml hv
  obtain ⟨rfl, hsz, hP, hK, hD0, hG⟩ := hv
  have hx := B.exec
  have hb := B.bytes
  have hr := B.returns
  have hts : ∀ w ∈ GT, w.before _ s = true := fun w h => atoms_spec (ws := wLw_result) B.pre w (List.mem_cons_of_mem _ h)
  have hown : s.vm.findClass R_Lw = some m.cls := findClass_of_methodNamed B.named
  have hlocks := B.notSynchronized
  subst hsz
  have hD := hD0.self (sz := s.heap.size)
  generalize hAe : va_A [(bx, .inr (4, [.ref rt, .ref rs, .ref ro, .ref ri, .ref ra, .ref ma])), (ro, .inr (2, [.ref bo, .int (nI no)])), (ou, .inl (k 2, 1, .inr (.inl fq)))] s.heap.size = A at hD hG ⊢
  have hA : ∀ q : Nat, s.heap.size ≤ q → A q := fun q h => by rw [← hAe]; exact Or.inr h
  have hl := lv_entry ([.ref bx, .int x, .ref ou]) (n := 4) (Nat.le_of_ble_eq_true rfl)
  rw [lg_entry_eq]
  generalize (lg_sl ([.ref bx, .int x, .ref ou]) ++ List.replicate (4 - (lg_sl ([.ref bx, .int x, .ref ou])).length) Slot.unset).toArray = ls at hl ⊢
  have hl : lv_has ls 4 [(0, .ref bx), (1, .int x), (2, .ref ou)] := hl
  refine cw_start (A := A) hP (fun H locs hP hS => ?_)
  refine lv_aload_n hx hb dLw_result_0 rfl (lv_at hl 2 rfl) ?_
  refine lv_iconst (v := nI 0) hx hb dLw_result_1 (by decide) ?_
  refine lv_aload_n hx hb dLw_result_2 rfl (lv_at hl 0 rfl) ?_
  refine lv_iload_n hx hb dLw_result_3 rfl (lv_at hl 1 rfl) ?_
  refine rx_c (wr := [(ou, .inl (k 2, 1, .inr (.inl fq)))]) (vx_runV (As := [.int x]) (rest := [.int (nI 0), .ref ou]) ⟨hx, hb, hml, hown, hts⟩ (t_result l D k tb hls H.size bx rt rs ro ri ra ma bo no x hq) (cwV 1 hts (gV gm_486 gm_487 gm_488 gm_50 gm_489) rfl rfl rfl (by decide +kernel) ⟨Nat.le_of_ble_eq_true rfl, Nat.le_of_ble_eq_true rfl⟩) (cP_V hP hD hK hG hS hA [0, 1] (by decide) rfl (ci := 4) (q0 := 0) rfl rfl) rfl rfl hl.1 rfl (lv_room (Nat.le_of_ble_eq_true rfl)) dLw_result_4 ⟨Nat.le_of_ble_eq_true rfl, Nat.le_of_ble_eq_true rfl⟩) hS hA hP hD [0, 1] [2] rfl rfl (by decide) (by decide) (fun ce q9 H locs hP hD hS hce hcv hcl => ?_)
  have hP : va_P D vwCl [(ou, .inl (k 2, 1, .inr (.inl fq))), (bx, .inr (4, [.ref rt, .ref rs, .ref ro, .ref ri, .ref ra, .ref ma])), (ro, .inr (2, [.ref bo, .int (nI no)]))] H := hP
  have hD : va_D A [(ou, .inl (k 2, 1, .inr (.inl fq))), (bx, .inr (4, [.ref rt, .ref rs, .ref ro, .ref ri, .ref ra, .ref ma])), (ro, .inr (2, [.ref bo, .int (nI no)]))] := hD
  have hcw : (Cond.codeWith yLw_result cLw_result 4 (some .int) [(0, 9, 12, 48)]).before _ s = true := atoms_spec (ws := wLw_result) B.pre _ List.mem_cons_self
  refine vx_catch (own := R_Lw) (name := "java/lang/IndexOutOfBoundsException") hown [] ⟨0, 9, 12, 48⟩ [] (vx_table (x := yLw_result) (hh := [(0, 9, 12, 48)]) B hcw) (fun z hz => nomatch hz) (by decide) (by decide) (hts _ gm_485) (hG.nest gn_38 rfl) hce hcv hcl ?_
  refine W.eq (g2 := F0 m 12 ls [.ref q9]) rfl ?_
  refine lv_astore_n (lv' := [(3, .ref q9), (0, .ref bx), (1, .int x), (2, .ref ou)]) hx hb dLw_result_12 rfl hl (by decide) rfl (fun ls hl => ?_)
  refine lv_iconst (v := nI 1) hx hb dLw_result_13 (by decide) ?_
  have hP := hP.sub (ws' := [(bx, .inr (4, [.ref rt, .ref rs, .ref ro, .ref ri, .ref ra, .ref ma])), (ro, .inr (2, [.ref bo, .int (nI no)])), (ou, .inl (k 2, 1, .inr (.inl fq)))]) [1, 2, 0] rfl
  have hD := hD.sub (ws' := [(bx, .inr (4, [.ref rt, .ref rs, .ref ro, .ref ri, .ref ra, .ref ma])), (ro, .inr (2, [.ref bo, .int (nI no)])), (ou, .inl (k 2, 1, .inr (.inl fq)))]) [1, 2, 0] (by decide) rfl
  refine W.widen (k := 1) (n := 6) (by omega) (by omega) ?_
  exact W.iret (v := nI 1) hx hb hr (fun t ht hW => ⟨⟨nI 1, (), rfl, rfl, by rw [ht]; exact hP, hD⟩, hS.F ht⟩) hS.2.2 dLw_result_14
set_option maxHeartbeats 600000 in
set_option maxRecDepth 100000 in
theorem lt_expandN1 (l : Launch) (D : va_G) (k : Nat → ClassId) (tb : Nat → Nat) (hls : l.stackTraces = false) (sz : Nat) (bx rt rs ro ri ra ma : Nat) (kd j nh : Nat) (hkd : kd < 3) (hnh : nh ≤ 64) (fr : Nat → Option Nat) (h a1 a2 a3 fl : Nat) (tot : Int64) (bc : Int32) (hfr : fr kd = some h) (x : Int32) (hq : ¬ x < nI 1 → x ≤ nI (255 * nh) → False) (ou : Nat) (fq : Nat → Int64) : Met l yLw_expand wLw_expand ({ frames := 8, cells := 1, slots := 6, locals := 134 }) (cPN D k tb [(bx, .inr (4, [.ref rt, .ref rs, .ref ro, .ref ri, .ref ra, .ref ma])), (ra, .inl (k 3, 3, .inr (.inr (.inr (.inr fr))))), (h, .inr (1, [.ref a1, .ref a2, .int (nI nh), .ref (tb j), .int (nI 4), .int (nI fl), .long tot, .int bc, .ref a3])), (ou, .inl (k 2, 1, .inr (.inl fq)))] sz [.ref bx, .int (nI kd), .int x, .ref ou]) (va_Qi (fun (r : Int32) (u : Unit) => r = nI 2) (fun (u : Unit) (t : State) => va_P D vwCl [(bx, .inr (4, [.ref rt, .ref rs, .ref ro, .ref ri, .ref ra, .ref ma])), (ra, .inl (k 3, 3, .inr (.inr (.inr (.inr fr))))), (h, .inr (1, [.ref a1, .ref a2, .int (nI nh), .ref (tb j), .int (nI 4), .int (nI fl), .long tot, .int bc, .ref a3])), (ou, .inl (k 2, 1, .inr (.inl fq)))] t.heap ∧ va_D (va_A [(bx, .inr (4, [.ref rt, .ref rs, .ref ro, .ref ri, .ref ra, .ref ma])), (ra, .inl (k 3, 3, .inr (.inr (.inr (.inr fr))))), (h, .inr (1, [.ref a1, .ref a2, .int (nI nh), .ref (tb j), .int (nI 4), .int (nI fl), .long tot, .int bc, .ref a3])), (ou, .inl (k 2, 1, .inr (.inl fq)))] sz) [(bx, .inr (4, [.ref rt, .ref rs, .ref ro, .ref ri, .ref ra, .ref ma])), (ra, .inl (k 3, 3, .inr (.inr (.inr (.inr fr))))), (h, .inr (1, [.ref a1, .ref a2, .int (nI nh), .ref (tb j), .int (nI 4), .int (nI fl), .long tot, .int bc, .ref a3])), (ou, .inl (k 2, 1, .inr (.inl fq)))]) (va_A [(bx, .inr (4, [.ref rt, .ref rs, .ref ro, .ref ri, .ref ra, .ref ma])), (ra, .inl (k 3, 3, .inr (.inr (.inr (.inr fr))))), (h, .inr (1, [.ref a1, .ref a2, .int (nI nh), .ref (tb j), .int (nI 4), .int (nI fl), .long tot, .int bc, .ref a3])), (ou, .inl (k 2, 1, .inr (.inl fq)))] sz)) (1) (6) (va_A [(bx, .inr (4, [.ref rt, .ref rs, .ref ro, .ref ri, .ref ra, .ref ma])), (ra, .inl (k 3, 3, .inr (.inr (.inr (.inr fr))))), (h, .inr (1, [.ref a1, .ref a2, .int (nI nh), .ref (tb j), .int (nI 4), .int (nI fl), .long tot, .int bc, .ref a3])), (ou, .inl (k 2, 1, .inr (.inl fq)))] sz) := by
  refine va_MetW (hh := [(0, 10, 13, 25), (0, 10, 17, 19)]) (cc := cLw_expand) (maxL := 5) (ret := (some .int)) (by decide) rfl ?_
  intro p e s m args below meth c s₁ B hml hv
  obtain ⟨⟨rfl, hsz, hP, hK, hD0, hG⟩, hnc⟩ := hv
  have hx := B.exec
  have hb := B.bytes
  have hr := B.returns
  have hts : ∀ w ∈ GT, w.before _ s = true := fun w h => atoms_spec (ws := wLw_expand) B.pre w (List.mem_cons_of_mem _ h)
  have hown : s.vm.findClass R_Lw = some m.cls := findClass_of_methodNamed B.named
  have hlocks := B.notSynchronized
  subst hsz
  have hD := hD0.self (sz := s.heap.size)
  generalize hAe : va_A [(bx, .inr (4, [.ref rt, .ref rs, .ref ro, .ref ri, .ref ra, .ref ma])), (ra, .inl (k 3, 3, .inr (.inr (.inr (.inr fr))))), (h, .inr (1, [.ref a1, .ref a2, .int (nI nh), .ref (tb j), .int (nI 4), .int (nI fl), .long tot, .int bc, .ref a3])), (ou, .inl (k 2, 1, .inr (.inl fq)))] s.heap.size = A at hD hG ⊢
  have hA : ∀ q : Nat, s.heap.size ≤ q → A q := fun q h => by rw [← hAe]; exact Or.inr h
  have hl := lv_entry ([.ref bx, .int (nI kd), .int x, .ref ou]) (n := 5) (Nat.le_of_ble_eq_true rfl)
  rw [lg_entry_eq]
  generalize (lg_sl ([.ref bx, .int (nI kd), .int x, .ref ou]) ++ List.replicate (5 - (lg_sl ([.ref bx, .int (nI kd), .int x, .ref ou])).length) Slot.unset).toArray = ls at hl ⊢
  have hl : lv_has ls 5 [(0, .ref bx), (1, .int (nI kd)), (2, .int x), (3, .ref ou)] := hl
  refine cw_start (A := A) hP (fun H locs hP hS => ?_)
  refine lv_aload_n hx hb dLw_expand_0 rfl (lv_at hl 3 rfl) ?_
  refine lv_iconst (v := nI 0) hx hb dLw_expand_1 (by decide) ?_
  refine lv_aload_n hx hb dLw_expand_2 rfl (lv_at hl 0 rfl) ?_
  refine lv_iload_n hx hb dLw_expand_3 rfl (lv_at hl 1 rfl) ?_
  refine lv_iload_n hx hb dLw_expand_4 rfl (lv_at hl 2 rfl) ?_
  refine rx_c (wr := [(ou, .inl (k 2, 1, .inr (.inl fq)))]) (vx_runV (As := [.int (nI kd), .int x]) (rest := [.int (nI 0), .ref ou]) ⟨hx, hb, hml, hown, hts⟩ (t_expandN1 l D k tb hls H.size bx rt rs ro ri ra ma kd j nh hkd hnh fr h a1 a2 a3 fl tot bc hfr x hq) (cwV 2 hts (gV gm_458 gm_459 gm_460 gm_50 gm_461) rfl rfl rfl (by decide +kernel) ⟨Nat.le_of_ble_eq_true rfl, Nat.le_of_ble_eq_true rfl⟩) (cP_V hP hD hK hG hS hA [0, 1, 2] (by decide) rfl (ci := 4) (q0 := 0) rfl rfl) rfl rfl hl.1 rfl (lv_room (Nat.le_of_ble_eq_true rfl)) dLw_expand_5 ⟨Nat.le_of_ble_eq_true rfl, Nat.le_of_ble_eq_true rfl⟩) hS hA hP hD [0, 1, 2] [3] rfl rfl (by decide) (by decide) (fun ce q9 H locs hP hD hS hce hcv hcl => ?_)
  have hP : va_P D vwCl [(ou, .inl (k 2, 1, .inr (.inl fq))), (bx, .inr (4, [.ref rt, .ref rs, .ref ro, .ref ri, .ref ra, .ref ma])), (ra, .inl (k 3, 3, .inr (.inr (.inr (.inr fr))))), (h, .inr (1, [.ref a1, .ref a2, .int (nI nh), .ref (tb j), .int (nI 4), .int (nI fl), .long tot, .int bc, .ref a3]))] H := hP
  have hD : va_D A [(ou, .inl (k 2, 1, .inr (.inl fq))), (bx, .inr (4, [.ref rt, .ref rs, .ref ro, .ref ri, .ref ra, .ref ma])), (ra, .inl (k 3, 3, .inr (.inr (.inr (.inr fr))))), (h, .inr (1, [.ref a1, .ref a2, .int (nI nh), .ref (tb j), .int (nI 4), .int (nI fl), .long tot, .int bc, .ref a3]))] := hD
  have hcw : (Cond.codeWith yLw_expand cLw_expand 5 (some .int) [(0, 10, 13, 25), (0, 10, 17, 19)]).before _ s = true := atoms_spec (ws := wLw_expand) B.pre _ List.mem_cons_self
  refine vx_catch (own := R_Lw) (name := "java/lang/IllegalArgumentException") hown [(⟨0, 10, 13, 25⟩ : ExceptionTableEntry)] ⟨0, 10, 17, 19⟩ [] (vx_table (x := yLw_expand) (hh := [(0, 10, 13, 25), (0, 10, 17, 19)]) B hcw) (fun z hz => by rw [List.mem_singleton.mp hz]; exact Or.inr ⟨by decide, _, hts _ gm_300, hnc⟩) (by decide) (by decide) (hts _ gm_279) (hG.nest gn_36 rfl) hce hcv hcl ?_
  refine W.eq (g2 := F0 m 17 ls [.ref q9]) rfl ?_
  refine lv_astore (lv' := [(4, .ref q9), (0, .ref bx), (1, .int (nI kd)), (2, .int x), (3, .ref ou)]) hx hb dLw_expand_17 hl (by decide) rfl (fun ls hl => ?_)
  refine lv_iconst (v := nI 2) hx hb dLw_expand_19 (by decide) ?_
  have hP := hP.sub (ws' := [(bx, .inr (4, [.ref rt, .ref rs, .ref ro, .ref ri, .ref ra, .ref ma])), (ra, .inl (k 3, 3, .inr (.inr (.inr (.inr fr))))), (h, .inr (1, [.ref a1, .ref a2, .int (nI nh), .ref (tb j), .int (nI 4), .int (nI fl), .long tot, .int bc, .ref a3])), (ou, .inl (k 2, 1, .inr (.inl fq)))]) [1, 2, 3, 0] rfl
  have hD := hD.sub (ws' := [(bx, .inr (4, [.ref rt, .ref rs, .ref ro, .ref ri, .ref ra, .ref ma])), (ra, .inl (k 3, 3, .inr (.inr (.inr (.inr fr))))), (h, .inr (1, [.ref a1, .ref a2, .int (nI nh), .ref (tb j), .int (nI 4), .int (nI fl), .long tot, .int bc, .ref a3])), (ou, .inl (k 2, 1, .inr (.inl fq)))]) [1, 2, 3, 0] (by decide) rfl
  refine W.widen (k := 1) (n := 6) (by omega) (by omega) ?_
  exact W.iret (v := nI 2) hx hb hr (fun t ht hW => ⟨⟨nI 2, (), rfl, rfl, by rw [ht]; exact hP, hD⟩, hS.F ht⟩) hS.2.2 dLw_expand_20
set_option maxHeartbeats 600000 in
set_option maxRecDepth 100000 in
theorem lt_expandLabelN1 (l : Launch) (D : va_G) (k : Nat → ClassId) (tb : Nat → Nat) (hls : l.stackTraces = false) (sz : Nat) (bx rt rs ro ri ra ma : Nat) (kd j nh : Nat) (hkd : kd < 3) (hnh : nh ≤ 64) (fr : Nat → Option Nat) (h a1 a2 a3 fl : Nat) (tot : Int64) (bc : Int32) (hfr : fr kd = some h) (x : Int32) (hq : ¬ x < nI 1 → x ≤ nI (255 * nh) → False) (x1 : Int32) (ou : Nat) (fq : Nat → Int64) : Met l yLw_expandLabel wLw_expandLabel ({ frames := 8, cells := 1, slots := 6, locals := 135 }) (cPN D k tb [(bx, .inr (4, [.ref rt, .ref rs, .ref ro, .ref ri, .ref ra, .ref ma])), (ra, .inl (k 3, 3, .inr (.inr (.inr (.inr fr))))), (h, .inr (1, [.ref a1, .ref a2, .int (nI nh), .ref (tb j), .int (nI 4), .int (nI fl), .long tot, .int bc, .ref a3])), (ou, .inl (k 2, 1, .inr (.inl fq)))] sz [.ref bx, .int (nI kd), .int x, .int x1, .ref ou]) (va_Qi (fun (r : Int32) (u : Unit) => r = nI 2) (fun (u : Unit) (t : State) => va_P D vwCl [(bx, .inr (4, [.ref rt, .ref rs, .ref ro, .ref ri, .ref ra, .ref ma])), (ra, .inl (k 3, 3, .inr (.inr (.inr (.inr fr))))), (h, .inr (1, [.ref a1, .ref a2, .int (nI nh), .ref (tb j), .int (nI 4), .int (nI fl), .long tot, .int bc, .ref a3])), (ou, .inl (k 2, 1, .inr (.inl fq)))] t.heap ∧ va_D (va_A [(bx, .inr (4, [.ref rt, .ref rs, .ref ro, .ref ri, .ref ra, .ref ma])), (ra, .inl (k 3, 3, .inr (.inr (.inr (.inr fr))))), (h, .inr (1, [.ref a1, .ref a2, .int (nI nh), .ref (tb j), .int (nI 4), .int (nI fl), .long tot, .int bc, .ref a3])), (ou, .inl (k 2, 1, .inr (.inl fq)))] sz) [(bx, .inr (4, [.ref rt, .ref rs, .ref ro, .ref ri, .ref ra, .ref ma])), (ra, .inl (k 3, 3, .inr (.inr (.inr (.inr fr))))), (h, .inr (1, [.ref a1, .ref a2, .int (nI nh), .ref (tb j), .int (nI 4), .int (nI fl), .long tot, .int bc, .ref a3])), (ou, .inl (k 2, 1, .inr (.inl fq)))]) (va_A [(bx, .inr (4, [.ref rt, .ref rs, .ref ro, .ref ri, .ref ra, .ref ma])), (ra, .inl (k 3, 3, .inr (.inr (.inr (.inr fr))))), (h, .inr (1, [.ref a1, .ref a2, .int (nI nh), .ref (tb j), .int (nI 4), .int (nI fl), .long tot, .int bc, .ref a3])), (ou, .inl (k 2, 1, .inr (.inl fq)))] sz)) (1) (6) (va_A [(bx, .inr (4, [.ref rt, .ref rs, .ref ro, .ref ri, .ref ra, .ref ma])), (ra, .inl (k 3, 3, .inr (.inr (.inr (.inr fr))))), (h, .inr (1, [.ref a1, .ref a2, .int (nI nh), .ref (tb j), .int (nI 4), .int (nI fl), .long tot, .int bc, .ref a3])), (ou, .inl (k 2, 1, .inr (.inl fq)))] sz) := by
  refine va_MetW (hh := [(0, 12, 15, 25), (0, 12, 19, 19)]) (cc := cLw_expandLabel) (maxL := 6) (ret := (some .int)) (by decide) rfl ?_
  intro p e s m args below meth c s₁ B hml hv
  obtain ⟨⟨rfl, hsz, hP, hK, hD0, hG⟩, hnc⟩ := hv
  have hx := B.exec
  have hb := B.bytes
  have hr := B.returns
  have hts : ∀ w ∈ GT, w.before _ s = true := fun w h => atoms_spec (ws := wLw_expandLabel) B.pre w (List.mem_cons_of_mem _ h)
  have hown : s.vm.findClass R_Lw = some m.cls := findClass_of_methodNamed B.named
  have hlocks := B.notSynchronized
  subst hsz
  have hD := hD0.self (sz := s.heap.size)
  generalize hAe : va_A [(bx, .inr (4, [.ref rt, .ref rs, .ref ro, .ref ri, .ref ra, .ref ma])), (ra, .inl (k 3, 3, .inr (.inr (.inr (.inr fr))))), (h, .inr (1, [.ref a1, .ref a2, .int (nI nh), .ref (tb j), .int (nI 4), .int (nI fl), .long tot, .int bc, .ref a3])), (ou, .inl (k 2, 1, .inr (.inl fq)))] s.heap.size = A at hD hG ⊢
  have hA : ∀ q : Nat, s.heap.size ≤ q → A q := fun q h => by rw [← hAe]; exact Or.inr h
  have hl := lv_entry ([.ref bx, .int (nI kd), .int x, .int x1, .ref ou]) (n := 6) (Nat.le_of_ble_eq_true rfl)
  rw [lg_entry_eq]
  generalize (lg_sl ([.ref bx, .int (nI kd), .int x, .int x1, .ref ou]) ++ List.replicate (6 - (lg_sl ([.ref bx, .int (nI kd), .int x, .int x1, .ref ou])).length) Slot.unset).toArray = ls at hl ⊢
  have hl : lv_has ls 6 [(0, .ref bx), (1, .int (nI kd)), (2, .int x), (3, .int x1), (4, .ref ou)] := hl
  refine cw_start (A := A) hP (fun H locs hP hS => ?_)
  refine lv_aload hx hb dLw_expandLabel_0 (lv_at hl 4 rfl) ?_
  refine lv_iconst (v := nI 0) hx hb dLw_expandLabel_2 (by decide) ?_
  refine lv_aload_n hx hb dLw_expandLabel_3 rfl (lv_at hl 0 rfl) ?_
  refine lv_iload_n hx hb dLw_expandLabel_4 rfl (lv_at hl 1 rfl) ?_
  refine lv_iload_n hx hb dLw_expandLabel_5 rfl (lv_at hl 2 rfl) ?_
  refine lv_iload_n hx hb dLw_expandLabel_6 rfl (lv_at hl 3 rfl) ?_
  refine rx_c (wr := [(ou, .inl (k 2, 1, .inr (.inl fq)))]) (vx_runV (As := [.int (nI kd), .int x, .int x1]) (rest := [.int (nI 0), .ref ou]) ⟨hx, hb, hml, hown, hts⟩ (t_expandLabelN1 l D k tb hls H.size bx rt rs ro ri ra ma kd j nh hkd hnh fr h a1 a2 a3 fl tot bc hfr x hq x1) (cwV 3 hts (gV gm_471 gm_472 gm_473 gm_50 gm_474) rfl rfl rfl (by decide +kernel) ⟨Nat.le_of_ble_eq_true rfl, Nat.le_of_ble_eq_true rfl⟩) (cP_V hP hD hK hG hS hA [0, 1, 2] (by decide) rfl (ci := 4) (q0 := 0) rfl rfl) rfl rfl hl.1 rfl (lv_room (Nat.le_of_ble_eq_true rfl)) dLw_expandLabel_7 ⟨Nat.le_of_ble_eq_true rfl, Nat.le_of_ble_eq_true rfl⟩) hS hA hP hD [0, 1, 2] [3] rfl rfl (by decide) (by decide) (fun ce q9 H locs hP hD hS hce hcv hcl => ?_)
  have hP : va_P D vwCl [(ou, .inl (k 2, 1, .inr (.inl fq))), (bx, .inr (4, [.ref rt, .ref rs, .ref ro, .ref ri, .ref ra, .ref ma])), (ra, .inl (k 3, 3, .inr (.inr (.inr (.inr fr))))), (h, .inr (1, [.ref a1, .ref a2, .int (nI nh), .ref (tb j), .int (nI 4), .int (nI fl), .long tot, .int bc, .ref a3]))] H := hP
  have hD : va_D A [(ou, .inl (k 2, 1, .inr (.inl fq))), (bx, .inr (4, [.ref rt, .ref rs, .ref ro, .ref ri, .ref ra, .ref ma])), (ra, .inl (k 3, 3, .inr (.inr (.inr (.inr fr))))), (h, .inr (1, [.ref a1, .ref a2, .int (nI nh), .ref (tb j), .int (nI 4), .int (nI fl), .long tot, .int bc, .ref a3]))] := hD
  have hcw : (Cond.codeWith yLw_expandLabel cLw_expandLabel 6 (some .int) [(0, 12, 15, 25), (0, 12, 19, 19)]).before _ s = true := atoms_spec (ws := wLw_expandLabel) B.pre _ List.mem_cons_self
  refine vx_catch (own := R_Lw) (name := "java/lang/IllegalArgumentException") hown [(⟨0, 12, 15, 25⟩ : ExceptionTableEntry)] ⟨0, 12, 19, 19⟩ [] (vx_table (x := yLw_expandLabel) (hh := [(0, 12, 15, 25), (0, 12, 19, 19)]) B hcw) (fun z hz => by rw [List.mem_singleton.mp hz]; exact Or.inr ⟨by decide, _, hts _ gm_300, hnc⟩) (by decide) (by decide) (hts _ gm_279) (hG.nest gn_36 rfl) hce hcv hcl ?_
  refine W.eq (g2 := F0 m 19 ls [.ref q9]) rfl ?_
  refine lv_astore (lv' := [(5, .ref q9), (0, .ref bx), (1, .int (nI kd)), (2, .int x), (3, .int x1), (4, .ref ou)]) hx hb dLw_expandLabel_19 hl (by decide) rfl (fun ls hl => ?_)
  refine lv_iconst (v := nI 2) hx hb dLw_expandLabel_21 (by decide) ?_
  have hP := hP.sub (ws' := [(bx, .inr (4, [.ref rt, .ref rs, .ref ro, .ref ri, .ref ra, .ref ma])), (ra, .inl (k 3, 3, .inr (.inr (.inr (.inr fr))))), (h, .inr (1, [.ref a1, .ref a2, .int (nI nh), .ref (tb j), .int (nI 4), .int (nI fl), .long tot, .int bc, .ref a3])), (ou, .inl (k 2, 1, .inr (.inl fq)))]) [1, 2, 3, 0] rfl
  have hD := hD.sub (ws' := [(bx, .inr (4, [.ref rt, .ref rs, .ref ro, .ref ri, .ref ra, .ref ma])), (ra, .inl (k 3, 3, .inr (.inr (.inr (.inr fr))))), (h, .inr (1, [.ref a1, .ref a2, .int (nI nh), .ref (tb j), .int (nI 4), .int (nI fl), .long tot, .int bc, .ref a3])), (ou, .inl (k 2, 1, .inr (.inl fq)))]) [1, 2, 3, 0] (by decide) rfl
  refine W.widen (k := 1) (n := 6) (by omega) (by omega) ?_
  exact W.iret (v := nI 2) hx hb hr (fun t ht hW => ⟨⟨nI 2, (), rfl, rfl, by rw [ht]; exact hP, hD⟩, hS.F ht⟩) hS.2.2 dLw_expandLabel_22
set_option maxHeartbeats 600000 in
set_option maxRecDepth 100000 in
theorem lt_expandLabelN2 (l : Launch) (D : va_G) (k : Nat → ClassId) (tb : Nat → Nat) (hls : l.stackTraces = false) (sz : Nat) (bx rt rs ro ri ra ma : Nat) (kd j nh : Nat) (hkd : kd < 3) (hnh : nh ≤ 64) (fr : Nat → Option Nat) (h a1 a2 a3 fl : Nat) (tot : Int64) (bc : Int32) (hfr : fr kd = some h) (n bt nt : Nat) (hn : 1 ≤ n) (hn2 : n ≤ 255 * nh) (x1 : Int32) (hq : ¬ x1 < nI 1 → ¬ nI 249 < x1 → ¬ nI nt < x1 → nI nt - x1 ≤ nI 255 → False) (ou : Nat) (fq : Nat → Int64) : Met l yLw_expandLabel wLw_expandLabel ({ frames := 8, cells := 1, slots := 6, locals := 134 }) (cPN D k tb [(bx, .inr (4, [.ref rt, .ref rs, .ref ro, .ref ri, .ref ra, .ref ma])), (ra, .inl (k 3, 3, .inr (.inr (.inr (.inr fr))))), (h, .inr (1, [.ref a1, .ref a2, .int (nI nh), .ref (tb j), .int (nI 4), .int (nI fl), .long tot, .int bc, .ref a3])), (rt, .inr (2, [.ref bt, .int (nI nt)])), (ou, .inl (k 2, 1, .inr (.inl fq)))] sz [.ref bx, .int (nI kd), .int (nI n), .int x1, .ref ou]) (va_Qi (fun (r : Int32) (u : Unit) => r = nI 2) (fun (u : Unit) (t : State) => va_P D vwCl [(bx, .inr (4, [.ref rt, .ref rs, .ref ro, .ref ri, .ref ra, .ref ma])), (ra, .inl (k 3, 3, .inr (.inr (.inr (.inr fr))))), (h, .inr (1, [.ref a1, .ref a2, .int (nI nh), .ref (tb j), .int (nI 4), .int (nI fl), .long tot, .int bc, .ref a3])), (rt, .inr (2, [.ref bt, .int (nI nt)])), (ou, .inl (k 2, 1, .inr (.inl fq)))] t.heap ∧ va_D (va_A [(bx, .inr (4, [.ref rt, .ref rs, .ref ro, .ref ri, .ref ra, .ref ma])), (ra, .inl (k 3, 3, .inr (.inr (.inr (.inr fr))))), (h, .inr (1, [.ref a1, .ref a2, .int (nI nh), .ref (tb j), .int (nI 4), .int (nI fl), .long tot, .int bc, .ref a3])), (rt, .inr (2, [.ref bt, .int (nI nt)])), (ou, .inl (k 2, 1, .inr (.inl fq)))] sz) [(bx, .inr (4, [.ref rt, .ref rs, .ref ro, .ref ri, .ref ra, .ref ma])), (ra, .inl (k 3, 3, .inr (.inr (.inr (.inr fr))))), (h, .inr (1, [.ref a1, .ref a2, .int (nI nh), .ref (tb j), .int (nI 4), .int (nI fl), .long tot, .int bc, .ref a3])), (rt, .inr (2, [.ref bt, .int (nI nt)])), (ou, .inl (k 2, 1, .inr (.inl fq)))]) (va_A [(bx, .inr (4, [.ref rt, .ref rs, .ref ro, .ref ri, .ref ra, .ref ma])), (ra, .inl (k 3, 3, .inr (.inr (.inr (.inr fr))))), (h, .inr (1, [.ref a1, .ref a2, .int (nI nh), .ref (tb j), .int (nI 4), .int (nI fl), .long tot, .int bc, .ref a3])), (rt, .inr (2, [.ref bt, .int (nI nt)])), (ou, .inl (k 2, 1, .inr (.inl fq)))] sz)) (1) (6) (va_A [(bx, .inr (4, [.ref rt, .ref rs, .ref ro, .ref ri, .ref ra, .ref ma])), (ra, .inl (k 3, 3, .inr (.inr (.inr (.inr fr))))), (h, .inr (1, [.ref a1, .ref a2, .int (nI nh), .ref (tb j), .int (nI 4), .int (nI fl), .long tot, .int bc, .ref a3])), (rt, .inr (2, [.ref bt, .int (nI nt)])), (ou, .inl (k 2, 1, .inr (.inl fq)))] sz) := by
  refine va_MetW (hh := [(0, 12, 15, 25), (0, 12, 19, 19)]) (cc := cLw_expandLabel) (maxL := 6) (ret := (some .int)) (by decide) rfl ?_
  intro p e s m args below meth c s₁ B hml hv
  obtain ⟨⟨rfl, hsz, hP, hK, hD0, hG⟩, hnc⟩ := hv
  have hx := B.exec
  have hb := B.bytes
  have hr := B.returns
  have hts : ∀ w ∈ GT, w.before _ s = true := fun w h => atoms_spec (ws := wLw_expandLabel) B.pre w (List.mem_cons_of_mem _ h)
  have hown : s.vm.findClass R_Lw = some m.cls := findClass_of_methodNamed B.named
  have hlocks := B.notSynchronized
  subst hsz
  have hD := hD0.self (sz := s.heap.size)
  generalize hAe : va_A [(bx, .inr (4, [.ref rt, .ref rs, .ref ro, .ref ri, .ref ra, .ref ma])), (ra, .inl (k 3, 3, .inr (.inr (.inr (.inr fr))))), (h, .inr (1, [.ref a1, .ref a2, .int (nI nh), .ref (tb j), .int (nI 4), .int (nI fl), .long tot, .int bc, .ref a3])), (rt, .inr (2, [.ref bt, .int (nI nt)])), (ou, .inl (k 2, 1, .inr (.inl fq)))] s.heap.size = A at hD hG ⊢
  have hA : ∀ q : Nat, s.heap.size ≤ q → A q := fun q h => by rw [← hAe]; exact Or.inr h
  have hl := lv_entry ([.ref bx, .int (nI kd), .int (nI n), .int x1, .ref ou]) (n := 6) (Nat.le_of_ble_eq_true rfl)
  rw [lg_entry_eq]
  generalize (lg_sl ([.ref bx, .int (nI kd), .int (nI n), .int x1, .ref ou]) ++ List.replicate (6 - (lg_sl ([.ref bx, .int (nI kd), .int (nI n), .int x1, .ref ou])).length) Slot.unset).toArray = ls at hl ⊢
  have hl : lv_has ls 6 [(0, .ref bx), (1, .int (nI kd)), (2, .int (nI n)), (3, .int x1), (4, .ref ou)] := hl
  refine cw_start (A := A) hP (fun H locs hP hS => ?_)
  refine lv_aload hx hb dLw_expandLabel_0 (lv_at hl 4 rfl) ?_
  refine lv_iconst (v := nI 0) hx hb dLw_expandLabel_2 (by decide) ?_
  refine lv_aload_n hx hb dLw_expandLabel_3 rfl (lv_at hl 0 rfl) ?_
  refine lv_iload_n hx hb dLw_expandLabel_4 rfl (lv_at hl 1 rfl) ?_
  refine lv_iload_n hx hb dLw_expandLabel_5 rfl (lv_at hl 2 rfl) ?_
  refine lv_iload_n hx hb dLw_expandLabel_6 rfl (lv_at hl 3 rfl) ?_
  refine rx_c (wr := [(ou, .inl (k 2, 1, .inr (.inl fq)))]) (vx_runV (As := [.int (nI kd), .int (nI n), .int x1]) (rest := [.int (nI 0), .ref ou]) ⟨hx, hb, hml, hown, hts⟩ (t_expandLabelN2 l D k tb hls H.size bx rt rs ro ri ra ma kd j nh hkd hnh fr h a1 a2 a3 fl tot bc hfr n bt nt hn hn2 x1 hq) (cwV 3 hts (gV gm_471 gm_472 gm_473 gm_50 gm_474) rfl rfl rfl (by decide +kernel) ⟨Nat.le_of_ble_eq_true rfl, Nat.le_of_ble_eq_true rfl⟩) (cP_V hP hD hK hG hS hA [0, 1, 2, 3] (by decide) rfl (ci := 4) (q0 := 0) rfl rfl) rfl rfl hl.1 rfl (lv_room (Nat.le_of_ble_eq_true rfl)) dLw_expandLabel_7 ⟨Nat.le_of_ble_eq_true rfl, Nat.le_of_ble_eq_true rfl⟩) hS hA hP hD [0, 1, 2, 3] [4] rfl rfl (by decide) (by decide) (fun ce q9 H locs hP hD hS hce hcv hcl => ?_)
  have hP : va_P D vwCl [(ou, .inl (k 2, 1, .inr (.inl fq))), (bx, .inr (4, [.ref rt, .ref rs, .ref ro, .ref ri, .ref ra, .ref ma])), (ra, .inl (k 3, 3, .inr (.inr (.inr (.inr fr))))), (h, .inr (1, [.ref a1, .ref a2, .int (nI nh), .ref (tb j), .int (nI 4), .int (nI fl), .long tot, .int bc, .ref a3])), (rt, .inr (2, [.ref bt, .int (nI nt)]))] H := hP
  have hD : va_D A [(ou, .inl (k 2, 1, .inr (.inl fq))), (bx, .inr (4, [.ref rt, .ref rs, .ref ro, .ref ri, .ref ra, .ref ma])), (ra, .inl (k 3, 3, .inr (.inr (.inr (.inr fr))))), (h, .inr (1, [.ref a1, .ref a2, .int (nI nh), .ref (tb j), .int (nI 4), .int (nI fl), .long tot, .int bc, .ref a3])), (rt, .inr (2, [.ref bt, .int (nI nt)]))] := hD
  have hcw : (Cond.codeWith yLw_expandLabel cLw_expandLabel 6 (some .int) [(0, 12, 15, 25), (0, 12, 19, 19)]).before _ s = true := atoms_spec (ws := wLw_expandLabel) B.pre _ List.mem_cons_self
  refine vx_catch (own := R_Lw) (name := "java/lang/IllegalArgumentException") hown [(⟨0, 12, 15, 25⟩ : ExceptionTableEntry)] ⟨0, 12, 19, 19⟩ [] (vx_table (x := yLw_expandLabel) (hh := [(0, 12, 15, 25), (0, 12, 19, 19)]) B hcw) (fun z hz => by rw [List.mem_singleton.mp hz]; exact Or.inr ⟨by decide, _, hts _ gm_300, hnc⟩) (by decide) (by decide) (hts _ gm_279) (hG.nest gn_36 rfl) hce hcv hcl ?_
  refine W.eq (g2 := F0 m 19 ls [.ref q9]) rfl ?_
  refine lv_astore (lv' := [(5, .ref q9), (0, .ref bx), (1, .int (nI kd)), (2, .int (nI n)), (3, .int x1), (4, .ref ou)]) hx hb dLw_expandLabel_19 hl (by decide) rfl (fun ls hl => ?_)
  refine lv_iconst (v := nI 2) hx hb dLw_expandLabel_21 (by decide) ?_
  have hP := hP.sub (ws' := [(bx, .inr (4, [.ref rt, .ref rs, .ref ro, .ref ri, .ref ra, .ref ma])), (ra, .inl (k 3, 3, .inr (.inr (.inr (.inr fr))))), (h, .inr (1, [.ref a1, .ref a2, .int (nI nh), .ref (tb j), .int (nI 4), .int (nI fl), .long tot, .int bc, .ref a3])), (rt, .inr (2, [.ref bt, .int (nI nt)])), (ou, .inl (k 2, 1, .inr (.inl fq)))]) [1, 2, 3, 4, 0] rfl
  have hD := hD.sub (ws' := [(bx, .inr (4, [.ref rt, .ref rs, .ref ro, .ref ri, .ref ra, .ref ma])), (ra, .inl (k 3, 3, .inr (.inr (.inr (.inr fr))))), (h, .inr (1, [.ref a1, .ref a2, .int (nI nh), .ref (tb j), .int (nI 4), .int (nI fl), .long tot, .int bc, .ref a3])), (rt, .inr (2, [.ref bt, .int (nI nt)])), (ou, .inl (k 2, 1, .inr (.inl fq)))]) [1, 2, 3, 4, 0] (by decide) rfl
  refine W.widen (k := 1) (n := 6) (by omega) (by omega) ?_
  exact W.iret (v := nI 2) hx hb hr (fun t ht hW => ⟨⟨nI 2, (), rfl, rfl, by rw [ht]; exact hP, hD⟩, hS.F ht⟩) hS.2.2 dLw_expandLabel_22
set_option maxHeartbeats 600000 in
set_option maxRecDepth 100000 in
theorem lt_expandW1 (l : Launch) (D : va_G) (k : Nat → ClassId) (tb : Nat → Nat) (hls : l.stackTraces = false) (sz : Nat) (bx rt rs ro ri ra ma : Nat) (kd j nh : Nat) (hkd : kd < 3) (hnh : nh ≤ 64) (fr : Nat → Option Nat) (h a1 a2 a3 fl : Nat) (tot : Int64) (bc : Int32) (hfr : fr kd = some h) (x : Int32) (hq : ¬ x < nI 1 → x ≤ nI (255 * nh) → False) (ou : Nat) (fq : Nat → Int64) : Met l yLw_expand wLw_expand ({ frames := 8, cells := 1, slots := 6, locals := 134 }) (cPN D k tb [(bx, .inr (4, [.ref rt, .ref rs, .ref ro, .ref ri, .ref ra, .ref ma])), (ra, .inl (k 3, 3, .inr (.inr (.inr (.inr fr))))), (h, .inr (3, [.ref a1, .ref a2, .int (nI nh), .ref (tb j), .int (nI 8), .int (nI fl), .long tot, .int bc, .ref a3])), (ou, .inl (k 2, 1, .inr (.inl fq)))] sz [.ref bx, .int (nI kd), .int x, .ref ou]) (va_Qi (fun (r : Int32) (u : Unit) => r = nI 2) (fun (u : Unit) (t : State) => va_P D vwCl [(bx, .inr (4, [.ref rt, .ref rs, .ref ro, .ref ri, .ref ra, .ref ma])), (ra, .inl (k 3, 3, .inr (.inr (.inr (.inr fr))))), (h, .inr (3, [.ref a1, .ref a2, .int (nI nh), .ref (tb j), .int (nI 8), .int (nI fl), .long tot, .int bc, .ref a3])), (ou, .inl (k 2, 1, .inr (.inl fq)))] t.heap ∧ va_D (va_A [(bx, .inr (4, [.ref rt, .ref rs, .ref ro, .ref ri, .ref ra, .ref ma])), (ra, .inl (k 3, 3, .inr (.inr (.inr (.inr fr))))), (h, .inr (3, [.ref a1, .ref a2, .int (nI nh), .ref (tb j), .int (nI 8), .int (nI fl), .long tot, .int bc, .ref a3])), (ou, .inl (k 2, 1, .inr (.inl fq)))] sz) [(bx, .inr (4, [.ref rt, .ref rs, .ref ro, .ref ri, .ref ra, .ref ma])), (ra, .inl (k 3, 3, .inr (.inr (.inr (.inr fr))))), (h, .inr (3, [.ref a1, .ref a2, .int (nI nh), .ref (tb j), .int (nI 8), .int (nI fl), .long tot, .int bc, .ref a3])), (ou, .inl (k 2, 1, .inr (.inl fq)))]) (va_A [(bx, .inr (4, [.ref rt, .ref rs, .ref ro, .ref ri, .ref ra, .ref ma])), (ra, .inl (k 3, 3, .inr (.inr (.inr (.inr fr))))), (h, .inr (3, [.ref a1, .ref a2, .int (nI nh), .ref (tb j), .int (nI 8), .int (nI fl), .long tot, .int bc, .ref a3])), (ou, .inl (k 2, 1, .inr (.inl fq)))] sz)) (1) (6) (va_A [(bx, .inr (4, [.ref rt, .ref rs, .ref ro, .ref ri, .ref ra, .ref ma])), (ra, .inl (k 3, 3, .inr (.inr (.inr (.inr fr))))), (h, .inr (3, [.ref a1, .ref a2, .int (nI nh), .ref (tb j), .int (nI 8), .int (nI fl), .long tot, .int bc, .ref a3])), (ou, .inl (k 2, 1, .inr (.inl fq)))] sz) := by
  refine va_MetW (hh := [(0, 10, 13, 25), (0, 10, 17, 19)]) (cc := cLw_expand) (maxL := 5) (ret := (some .int)) (by decide) rfl ?_
  intro p e s m args below meth c s₁ B hml hv
  obtain ⟨⟨rfl, hsz, hP, hK, hD0, hG⟩, hnc⟩ := hv
  have hx := B.exec
  have hb := B.bytes
  have hr := B.returns
  have hts : ∀ w ∈ GT, w.before _ s = true := fun w h => atoms_spec (ws := wLw_expand) B.pre w (List.mem_cons_of_mem _ h)
  have hown : s.vm.findClass R_Lw = some m.cls := findClass_of_methodNamed B.named
  have hlocks := B.notSynchronized
  subst hsz
  have hD := hD0.self (sz := s.heap.size)
  generalize hAe : va_A [(bx, .inr (4, [.ref rt, .ref rs, .ref ro, .ref ri, .ref ra, .ref ma])), (ra, .inl (k 3, 3, .inr (.inr (.inr (.inr fr))))), (h, .inr (3, [.ref a1, .ref a2, .int (nI nh), .ref (tb j), .int (nI 8), .int (nI fl), .long tot, .int bc, .ref a3])), (ou, .inl (k 2, 1, .inr (.inl fq)))] s.heap.size = A at hD hG ⊢
  have hA : ∀ q : Nat, s.heap.size ≤ q → A q := fun q h => by rw [← hAe]; exact Or.inr h
  have hl := lv_entry ([.ref bx, .int (nI kd), .int x, .ref ou]) (n := 5) (Nat.le_of_ble_eq_true rfl)
  rw [lg_entry_eq]
  generalize (lg_sl ([.ref bx, .int (nI kd), .int x, .ref ou]) ++ List.replicate (5 - (lg_sl ([.ref bx, .int (nI kd), .int x, .ref ou])).length) Slot.unset).toArray = ls at hl ⊢
  have hl : lv_has ls 5 [(0, .ref bx), (1, .int (nI kd)), (2, .int x), (3, .ref ou)] := hl
  refine cw_start (A := A) hP (fun H locs hP hS => ?_)
  refine lv_aload_n hx hb dLw_expand_0 rfl (lv_at hl 3 rfl) ?_
  refine lv_iconst (v := nI 0) hx hb dLw_expand_1 (by decide) ?_
  refine lv_aload_n hx hb dLw_expand_2 rfl (lv_at hl 0 rfl) ?_
  refine lv_iload_n hx hb dLw_expand_3 rfl (lv_at hl 1 rfl) ?_
  refine lv_iload_n hx hb dLw_expand_4 rfl (lv_at hl 2 rfl) ?_
  refine rx_c (wr := [(ou, .inl (k 2, 1, .inr (.inl fq)))]) (vx_runV (As := [.int (nI kd), .int x]) (rest := [.int (nI 0), .ref ou]) ⟨hx, hb, hml, hown, hts⟩ (t_expandW1 l D k tb hls H.size bx rt rs ro ri ra ma kd j nh hkd hnh fr h a1 a2 a3 fl tot bc hfr x hq) (cwV 2 hts (gV gm_458 gm_459 gm_460 gm_50 gm_461) rfl rfl rfl (by decide +kernel) ⟨Nat.le_of_ble_eq_true rfl, Nat.le_of_ble_eq_true rfl⟩) (cP_V hP hD hK hG hS hA [0, 1, 2] (by decide) rfl (ci := 4) (q0 := 0) rfl rfl) rfl rfl hl.1 rfl (lv_room (Nat.le_of_ble_eq_true rfl)) dLw_expand_5 ⟨Nat.le_of_ble_eq_true rfl, Nat.le_of_ble_eq_true rfl⟩) hS hA hP hD [0, 1, 2] [3] rfl rfl (by decide) (by decide) (fun ce q9 H locs hP hD hS hce hcv hcl => ?_)
  have hP : va_P D vwCl [(ou, .inl (k 2, 1, .inr (.inl fq))), (bx, .inr (4, [.ref rt, .ref rs, .ref ro, .ref ri, .ref ra, .ref ma])), (ra, .inl (k 3, 3, .inr (.inr (.inr (.inr fr))))), (h, .inr (3, [.ref a1, .ref a2, .int (nI nh), .ref (tb j), .int (nI 8), .int (nI fl), .long tot, .int bc, .ref a3]))] H := hP
  have hD : va_D A [(ou, .inl (k 2, 1, .inr (.inl fq))), (bx, .inr (4, [.ref rt, .ref rs, .ref ro, .ref ri, .ref ra, .ref ma])), (ra, .inl (k 3, 3, .inr (.inr (.inr (.inr fr))))), (h, .inr (3, [.ref a1, .ref a2, .int (nI nh), .ref (tb j), .int (nI 8), .int (nI fl), .long tot, .int bc, .ref a3]))] := hD
  have hcw : (Cond.codeWith yLw_expand cLw_expand 5 (some .int) [(0, 10, 13, 25), (0, 10, 17, 19)]).before _ s = true := atoms_spec (ws := wLw_expand) B.pre _ List.mem_cons_self
  refine vx_catch (own := R_Lw) (name := "java/lang/IllegalArgumentException") hown [(⟨0, 10, 13, 25⟩ : ExceptionTableEntry)] ⟨0, 10, 17, 19⟩ [] (vx_table (x := yLw_expand) (hh := [(0, 10, 13, 25), (0, 10, 17, 19)]) B hcw) (fun z hz => by rw [List.mem_singleton.mp hz]; exact Or.inr ⟨by decide, _, hts _ gm_300, hnc⟩) (by decide) (by decide) (hts _ gm_279) (hG.nest gn_36 rfl) hce hcv hcl ?_
  refine W.eq (g2 := F0 m 17 ls [.ref q9]) rfl ?_
  refine lv_astore (lv' := [(4, .ref q9), (0, .ref bx), (1, .int (nI kd)), (2, .int x), (3, .ref ou)]) hx hb dLw_expand_17 hl (by decide) rfl (fun ls hl => ?_)
  refine lv_iconst (v := nI 2) hx hb dLw_expand_19 (by decide) ?_
  have hP := hP.sub (ws' := [(bx, .inr (4, [.ref rt, .ref rs, .ref ro, .ref ri, .ref ra, .ref ma])), (ra, .inl (k 3, 3, .inr (.inr (.inr (.inr fr))))), (h, .inr (3, [.ref a1, .ref a2, .int (nI nh), .ref (tb j), .int (nI 8), .int (nI fl), .long tot, .int bc, .ref a3])), (ou, .inl (k 2, 1, .inr (.inl fq)))]) [1, 2, 3, 0] rfl
  have hD := hD.sub (ws' := [(bx, .inr (4, [.ref rt, .ref rs, .ref ro, .ref ri, .ref ra, .ref ma])), (ra, .inl (k 3, 3, .inr (.inr (.inr (.inr fr))))), (h, .inr (3, [.ref a1, .ref a2, .int (nI nh), .ref (tb j), .int (nI 8), .int (nI fl), .long tot, .int bc, .ref a3])), (ou, .inl (k 2, 1, .inr (.inl fq)))]) [1, 2, 3, 0] (by decide) rfl
  refine W.widen (k := 1) (n := 6) (by omega) (by omega) ?_
  exact W.iret (v := nI 2) hx hb hr (fun t ht hW => ⟨⟨nI 2, (), rfl, rfl, by rw [ht]; exact hP, hD⟩, hS.F ht⟩) hS.2.2 dLw_expand_20
set_option maxHeartbeats 600000 in
set_option maxRecDepth 100000 in
theorem lt_expandLabelW1 (l : Launch) (D : va_G) (k : Nat → ClassId) (tb : Nat → Nat) (hls : l.stackTraces = false) (sz : Nat) (bx rt rs ro ri ra ma : Nat) (kd j nh : Nat) (hkd : kd < 3) (hnh : nh ≤ 64) (fr : Nat → Option Nat) (h a1 a2 a3 fl : Nat) (tot : Int64) (bc : Int32) (hfr : fr kd = some h) (x : Int32) (hq : ¬ x < nI 1 → x ≤ nI (255 * nh) → False) (x1 : Int32) (ou : Nat) (fq : Nat → Int64) : Met l yLw_expandLabel wLw_expandLabel ({ frames := 8, cells := 1, slots := 6, locals := 135 }) (cPN D k tb [(bx, .inr (4, [.ref rt, .ref rs, .ref ro, .ref ri, .ref ra, .ref ma])), (ra, .inl (k 3, 3, .inr (.inr (.inr (.inr fr))))), (h, .inr (3, [.ref a1, .ref a2, .int (nI nh), .ref (tb j), .int (nI 8), .int (nI fl), .long tot, .int bc, .ref a3])), (ou, .inl (k 2, 1, .inr (.inl fq)))] sz [.ref bx, .int (nI kd), .int x, .int x1, .ref ou]) (va_Qi (fun (r : Int32) (u : Unit) => r = nI 2) (fun (u : Unit) (t : State) => va_P D vwCl [(bx, .inr (4, [.ref rt, .ref rs, .ref ro, .ref ri, .ref ra, .ref ma])), (ra, .inl (k 3, 3, .inr (.inr (.inr (.inr fr))))), (h, .inr (3, [.ref a1, .ref a2, .int (nI nh), .ref (tb j), .int (nI 8), .int (nI fl), .long tot, .int bc, .ref a3])), (ou, .inl (k 2, 1, .inr (.inl fq)))] t.heap ∧ va_D (va_A [(bx, .inr (4, [.ref rt, .ref rs, .ref ro, .ref ri, .ref ra, .ref ma])), (ra, .inl (k 3, 3, .inr (.inr (.inr (.inr fr))))), (h, .inr (3, [.ref a1, .ref a2, .int (nI nh), .ref (tb j), .int (nI 8), .int (nI fl), .long tot, .int bc, .ref a3])), (ou, .inl (k 2, 1, .inr (.inl fq)))] sz) [(bx, .inr (4, [.ref rt, .ref rs, .ref ro, .ref ri, .ref ra, .ref ma])), (ra, .inl (k 3, 3, .inr (.inr (.inr (.inr fr))))), (h, .inr (3, [.ref a1, .ref a2, .int (nI nh), .ref (tb j), .int (nI 8), .int (nI fl), .long tot, .int bc, .ref a3])), (ou, .inl (k 2, 1, .inr (.inl fq)))]) (va_A [(bx, .inr (4, [.ref rt, .ref rs, .ref ro, .ref ri, .ref ra, .ref ma])), (ra, .inl (k 3, 3, .inr (.inr (.inr (.inr fr))))), (h, .inr (3, [.ref a1, .ref a2, .int (nI nh), .ref (tb j), .int (nI 8), .int (nI fl), .long tot, .int bc, .ref a3])), (ou, .inl (k 2, 1, .inr (.inl fq)))] sz)) (1) (6) (va_A [(bx, .inr (4, [.ref rt, .ref rs, .ref ro, .ref ri, .ref ra, .ref ma])), (ra, .inl (k 3, 3, .inr (.inr (.inr (.inr fr))))), (h, .inr (3, [.ref a1, .ref a2, .int (nI nh), .ref (tb j), .int (nI 8), .int (nI fl), .long tot, .int bc, .ref a3])), (ou, .inl (k 2, 1, .inr (.inl fq)))] sz) := by
  refine va_MetW (hh := [(0, 12, 15, 25), (0, 12, 19, 19)]) (cc := cLw_expandLabel) (maxL := 6) (ret := (some .int)) (by decide) rfl ?_
  intro p e s m args below meth c s₁ B hml hv
  obtain ⟨⟨rfl, hsz, hP, hK, hD0, hG⟩, hnc⟩ := hv
  have hx := B.exec
  have hb := B.bytes
  have hr := B.returns
  have hts : ∀ w ∈ GT, w.before _ s = true := fun w h => atoms_spec (ws := wLw_expandLabel) B.pre w (List.mem_cons_of_mem _ h)
  have hown : s.vm.findClass R_Lw = some m.cls := findClass_of_methodNamed B.named
  have hlocks := B.notSynchronized
  subst hsz
  have hD := hD0.self (sz := s.heap.size)
  generalize hAe : va_A [(bx, .inr (4, [.ref rt, .ref rs, .ref ro, .ref ri, .ref ra, .ref ma])), (ra, .inl (k 3, 3, .inr (.inr (.inr (.inr fr))))), (h, .inr (3, [.ref a1, .ref a2, .int (nI nh), .ref (tb j), .int (nI 8), .int (nI fl), .long tot, .int bc, .ref a3])), (ou, .inl (k 2, 1, .inr (.inl fq)))] s.heap.size = A at hD hG ⊢
  have hA : ∀ q : Nat, s.heap.size ≤ q → A q := fun q h => by rw [← hAe]; exact Or.inr h
  have hl := lv_entry ([.ref bx, .int (nI kd), .int x, .int x1, .ref ou]) (n := 6) (Nat.le_of_ble_eq_true rfl)
  rw [lg_entry_eq]
  generalize (lg_sl ([.ref bx, .int (nI kd), .int x, .int x1, .ref ou]) ++ List.replicate (6 - (lg_sl ([.ref bx, .int (nI kd), .int x, .int x1, .ref ou])).length) Slot.unset).toArray = ls at hl ⊢
  have hl : lv_has ls 6 [(0, .ref bx), (1, .int (nI kd)), (2, .int x), (3, .int x1), (4, .ref ou)] := hl
  refine cw_start (A := A) hP (fun H locs hP hS => ?_)
  refine lv_aload hx hb dLw_expandLabel_0 (lv_at hl 4 rfl) ?_
  refine lv_iconst (v := nI 0) hx hb dLw_expandLabel_2 (by decide) ?_
  refine lv_aload_n hx hb dLw_expandLabel_3 rfl (lv_at hl 0 rfl) ?_
  refine lv_iload_n hx hb dLw_expandLabel_4 rfl (lv_at hl 1 rfl) ?_
  refine lv_iload_n hx hb dLw_expandLabel_5 rfl (lv_at hl 2 rfl) ?_
  refine lv_iload_n hx hb dLw_expandLabel_6 rfl (lv_at hl 3 rfl) ?_
  refine rx_c (wr := [(ou, .inl (k 2, 1, .inr (.inl fq)))]) (vx_runV (As := [.int (nI kd), .int x, .int x1]) (rest := [.int (nI 0), .ref ou]) ⟨hx, hb, hml, hown, hts⟩ (t_expandLabelW1 l D k tb hls H.size bx rt rs ro ri ra ma kd j nh hkd hnh fr h a1 a2 a3 fl tot bc hfr x hq x1) (cwV 3 hts (gV gm_471 gm_472 gm_473 gm_50 gm_474) rfl rfl rfl (by decide +kernel) ⟨Nat.le_of_ble_eq_true rfl, Nat.le_of_ble_eq_true rfl⟩) (cP_V hP hD hK hG hS hA [0, 1, 2] (by decide) rfl (ci := 4) (q0 := 0) rfl rfl) rfl rfl hl.1 rfl (lv_room (Nat.le_of_ble_eq_true rfl)) dLw_expandLabel_7 ⟨Nat.le_of_ble_eq_true rfl, Nat.le_of_ble_eq_true rfl⟩) hS hA hP hD [0, 1, 2] [3] rfl rfl (by decide) (by decide) (fun ce q9 H locs hP hD hS hce hcv hcl => ?_)
  have hP : va_P D vwCl [(ou, .inl (k 2, 1, .inr (.inl fq))), (bx, .inr (4, [.ref rt, .ref rs, .ref ro, .ref ri, .ref ra, .ref ma])), (ra, .inl (k 3, 3, .inr (.inr (.inr (.inr fr))))), (h, .inr (3, [.ref a1, .ref a2, .int (nI nh), .ref (tb j), .int (nI 8), .int (nI fl), .long tot, .int bc, .ref a3]))] H := hP
  have hD : va_D A [(ou, .inl (k 2, 1, .inr (.inl fq))), (bx, .inr (4, [.ref rt, .ref rs, .ref ro, .ref ri, .ref ra, .ref ma])), (ra, .inl (k 3, 3, .inr (.inr (.inr (.inr fr))))), (h, .inr (3, [.ref a1, .ref a2, .int (nI nh), .ref (tb j), .int (nI 8), .int (nI fl), .long tot, .int bc, .ref a3]))] := hD
  have hcw : (Cond.codeWith yLw_expandLabel cLw_expandLabel 6 (some .int) [(0, 12, 15, 25), (0, 12, 19, 19)]).before _ s = true := atoms_spec (ws := wLw_expandLabel) B.pre _ List.mem_cons_self
  refine vx_catch (own := R_Lw) (name := "java/lang/IllegalArgumentException") hown [(⟨0, 12, 15, 25⟩ : ExceptionTableEntry)] ⟨0, 12, 19, 19⟩ [] (vx_table (x := yLw_expandLabel) (hh := [(0, 12, 15, 25), (0, 12, 19, 19)]) B hcw) (fun z hz => by rw [List.mem_singleton.mp hz]; exact Or.inr ⟨by decide, _, hts _ gm_300, hnc⟩) (by decide) (by decide) (hts _ gm_279) (hG.nest gn_36 rfl) hce hcv hcl ?_
  refine W.eq (g2 := F0 m 19 ls [.ref q9]) rfl ?_
  refine lv_astore (lv' := [(5, .ref q9), (0, .ref bx), (1, .int (nI kd)), (2, .int x), (3, .int x1), (4, .ref ou)]) hx hb dLw_expandLabel_19 hl (by decide) rfl (fun ls hl => ?_)
  refine lv_iconst (v := nI 2) hx hb dLw_expandLabel_21 (by decide) ?_
  have hP := hP.sub (ws' := [(bx, .inr (4, [.ref rt, .ref rs, .ref ro, .ref ri, .ref ra, .ref ma])), (ra, .inl (k 3, 3, .inr (.inr (.inr (.inr fr))))), (h, .inr (3, [.ref a1, .ref a2, .int (nI nh), .ref (tb j), .int (nI 8), .int (nI fl), .long tot, .int bc, .ref a3])), (ou, .inl (k 2, 1, .inr (.inl fq)))]) [1, 2, 3, 0] rfl
  have hD := hD.sub (ws' := [(bx, .inr (4, [.ref rt, .ref rs, .ref ro, .ref ri, .ref ra, .ref ma])), (ra, .inl (k 3, 3, .inr (.inr (.inr (.inr fr))))), (h, .inr (3, [.ref a1, .ref a2, .int (nI nh), .ref (tb j), .int (nI 8), .int (nI fl), .long tot, .int bc, .ref a3])), (ou, .inl (k 2, 1, .inr (.inl fq)))]) [1, 2, 3, 0] (by decide) rfl
  refine W.widen (k := 1) (n := 6) (by omega) (by omega) ?_
  exact W.iret (v := nI 2) hx hb hr (fun t ht hW => ⟨⟨nI 2, (), rfl, rfl, by rw [ht]; exact hP, hD⟩, hS.F ht⟩) hS.2.2 dLw_expandLabel_22
set_option maxHeartbeats 600000 in
set_option maxRecDepth 100000 in
theorem lt_expandLabelW2 (l : Launch) (D : va_G) (k : Nat → ClassId) (tb : Nat → Nat) (hls : l.stackTraces = false) (sz : Nat) (bx rt rs ro ri ra ma : Nat) (kd j nh : Nat) (hkd : kd < 3) (hnh : nh ≤ 64) (fr : Nat → Option Nat) (h a1 a2 a3 fl : Nat) (tot : Int64) (bc : Int32) (hfr : fr kd = some h) (n bt nt : Nat) (hn : 1 ≤ n) (hn2 : n ≤ 255 * nh) (x1 : Int32) (hq : ¬ x1 < nI 1 → ¬ nI 249 < x1 → ¬ nI nt < x1 → nI nt - x1 ≤ nI 255 → False) (ou : Nat) (fq : Nat → Int64) : Met l yLw_expandLabel wLw_expandLabel ({ frames := 8, cells := 1, slots := 6, locals := 134 }) (cPN D k tb [(bx, .inr (4, [.ref rt, .ref rs, .ref ro, .ref ri, .ref ra, .ref ma])), (ra, .inl (k 3, 3, .inr (.inr (.inr (.inr fr))))), (h, .inr (3, [.ref a1, .ref a2, .int (nI nh), .ref (tb j), .int (nI 8), .int (nI fl), .long tot, .int bc, .ref a3])), (rt, .inr (2, [.ref bt, .int (nI nt)])), (ou, .inl (k 2, 1, .inr (.inl fq)))] sz [.ref bx, .int (nI kd), .int (nI n), .int x1, .ref ou]) (va_Qi (fun (r : Int32) (u : Unit) => r = nI 2) (fun (u : Unit) (t : State) => va_P D vwCl [(bx, .inr (4, [.ref rt, .ref rs, .ref ro, .ref ri, .ref ra, .ref ma])), (ra, .inl (k 3, 3, .inr (.inr (.inr (.inr fr))))), (h, .inr (3, [.ref a1, .ref a2, .int (nI nh), .ref (tb j), .int (nI 8), .int (nI fl), .long tot, .int bc, .ref a3])), (rt, .inr (2, [.ref bt, .int (nI nt)])), (ou, .inl (k 2, 1, .inr (.inl fq)))] t.heap ∧ va_D (va_A [(bx, .inr (4, [.ref rt, .ref rs, .ref ro, .ref ri, .ref ra, .ref ma])), (ra, .inl (k 3, 3, .inr (.inr (.inr (.inr fr))))), (h, .inr (3, [.ref a1, .ref a2, .int (nI nh), .ref (tb j), .int (nI 8), .int (nI fl), .long tot, .int bc, .ref a3])), (rt, .inr (2, [.ref bt, .int (nI nt)])), (ou, .inl (k 2, 1, .inr (.inl fq)))] sz) [(bx, .inr (4, [.ref rt, .ref rs, .ref ro, .ref ri, .ref ra, .ref ma])), (ra, .inl (k 3, 3, .inr (.inr (.inr (.inr fr))))), (h, .inr (3, [.ref a1, .ref a2, .int (nI nh), .ref (tb j), .int (nI 8), .int (nI fl), .long tot, .int bc, .ref a3])), (rt, .inr (2, [.ref bt, .int (nI nt)])), (ou, .inl (k 2, 1, .inr (.inl fq)))]) (va_A [(bx, .inr (4, [.ref rt, .ref rs, .ref ro, .ref ri, .ref ra, .ref ma])), (ra, .inl (k 3, 3, .inr (.inr (.inr (.inr fr))))), (h, .inr (3, [.ref a1, .ref a2, .int (nI nh), .ref (tb j), .int (nI 8), .int (nI fl), .long tot, .int bc, .ref a3])), (rt, .inr (2, [.ref bt, .int (nI nt)])), (ou, .inl (k 2, 1, .inr (.inl fq)))] sz)) (1) (6) (va_A [(bx, .inr (4, [.ref rt, .ref rs, .ref ro, .ref ri, .ref ra, .ref ma])), (ra, .inl (k 3, 3, .inr (.inr (.inr (.inr fr))))), (h, .inr (3, [.ref a1, .ref a2, .int (nI nh), .ref (tb j), .int (nI 8), .int (nI fl), .long tot, .int bc, .ref a3])), (rt, .inr (2, [.ref bt, .int (nI nt)])), (ou, .inl (k 2, 1, .inr (.inl fq)))] sz) := by
  refine va_MetW (hh := [(0, 12, 15, 25), (0, 12, 19, 19)]) (cc := cLw_expandLabel) (maxL := 6) (ret := (some .int)) (by decide) rfl ?_
  intro p e s m args below meth c s₁ B hml hv
  obtain ⟨⟨rfl, hsz, hP, hK, hD0, hG⟩, hnc⟩ := hv
  have hx := B.exec
  have hb := B.bytes
  have hr := B.returns
  have hts : ∀ w ∈ GT, w.before _ s = true := fun w h => atoms_spec (ws := wLw_expandLabel) B.pre w (List.mem_cons_of_mem _ h)
  have hown : s.vm.findClass R_Lw = some m.cls := findClass_of_methodNamed B.named
  have hlocks := B.notSynchronized
  subst hsz
  have hD := hD0.self (sz := s.heap.size)
  generalize hAe : va_A [(bx, .inr (4, [.ref rt, .ref rs, .ref ro, .ref ri, .ref ra, .ref ma])), (ra, .inl (k 3, 3, .inr (.inr (.inr (.inr fr))))), (h, .inr (3, [.ref a1, .ref a2, .int (nI nh), .ref (tb j), .int (nI 8), .int (nI fl), .long tot, .int bc, .ref a3])), (rt, .inr (2, [.ref bt, .int (nI nt)])), (ou, .inl (k 2, 1, .inr (.inl fq)))] s.heap.size = A at hD hG ⊢
  have hA : ∀ q : Nat, s.heap.size ≤ q → A q := fun q h => by rw [← hAe]; exact Or.inr h
  have hl := lv_entry ([.ref bx, .int (nI kd), .int (nI n), .int x1, .ref ou]) (n := 6) (Nat.le_of_ble_eq_true rfl)
  rw [lg_entry_eq]
  generalize (lg_sl ([.ref bx, .int (nI kd), .int (nI n), .int x1, .ref ou]) ++ List.replicate (6 - (lg_sl ([.ref bx, .int (nI kd), .int (nI n), .int x1, .ref ou])).length) Slot.unset).toArray = ls at hl ⊢
  have hl : lv_has ls 6 [(0, .ref bx), (1, .int (nI kd)), (2, .int (nI n)), (3, .int x1), (4, .ref ou)] := hl
  refine cw_start (A := A) hP (fun H locs hP hS => ?_)
  refine lv_aload hx hb dLw_expandLabel_0 (lv_at hl 4 rfl) ?_
  refine lv_iconst (v := nI 0) hx hb dLw_expandLabel_2 (by decide) ?_
  refine lv_aload_n hx hb dLw_expandLabel_3 rfl (lv_at hl 0 rfl) ?_
  refine lv_iload_n hx hb dLw_expandLabel_4 rfl (lv_at hl 1 rfl) ?_
  refine lv_iload_n hx hb dLw_expandLabel_5 rfl (lv_at hl 2 rfl) ?_
  refine lv_iload_n hx hb dLw_expandLabel_6 rfl (lv_at hl 3 rfl) ?_
  refine rx_c (wr := [(ou, .inl (k 2, 1, .inr (.inl fq)))]) (vx_runV (As := [.int (nI kd), .int (nI n), .int x1]) (rest := [.int (nI 0), .ref ou]) ⟨hx, hb, hml, hown, hts⟩ (t_expandLabelW2 l D k tb hls H.size bx rt rs ro ri ra ma kd j nh hkd hnh fr h a1 a2 a3 fl tot bc hfr n bt nt hn hn2 x1 hq) (cwV 3 hts (gV gm_471 gm_472 gm_473 gm_50 gm_474) rfl rfl rfl (by decide +kernel) ⟨Nat.le_of_ble_eq_true rfl, Nat.le_of_ble_eq_true rfl⟩) (cP_V hP hD hK hG hS hA [0, 1, 2, 3] (by decide) rfl (ci := 4) (q0 := 0) rfl rfl) rfl rfl hl.1 rfl (lv_room (Nat.le_of_ble_eq_true rfl)) dLw_expandLabel_7 ⟨Nat.le_of_ble_eq_true rfl, Nat.le_of_ble_eq_true rfl⟩) hS hA hP hD [0, 1, 2, 3] [4] rfl rfl (by decide) (by decide) (fun ce q9 H locs hP hD hS hce hcv hcl => ?_)
  have hP : va_P D vwCl [(ou, .inl (k 2, 1, .inr (.inl fq))), (bx, .inr (4, [.ref rt, .ref rs, .ref ro, .ref ri, .ref ra, .ref ma])), (ra, .inl (k 3, 3, .inr (.inr (.inr (.inr fr))))), (h, .inr (3, [.ref a1, .ref a2, .int (nI nh), .ref (tb j), .int (nI 8), .int (nI fl), .long tot, .int bc, .ref a3])), (rt, .inr (2, [.ref bt, .int (nI nt)]))] H := hP
  have hD : va_D A [(ou, .inl (k 2, 1, .inr (.inl fq))), (bx, .inr (4, [.ref rt, .ref rs, .ref ro, .ref ri, .ref ra, .ref ma])), (ra, .inl (k 3, 3, .inr (.inr (.inr (.inr fr))))), (h, .inr (3, [.ref a1, .ref a2, .int (nI nh), .ref (tb j), .int (nI 8), .int (nI fl), .long tot, .int bc, .ref a3])), (rt, .inr (2, [.ref bt, .int (nI nt)]))] := hD
  have hcw : (Cond.codeWith yLw_expandLabel cLw_expandLabel 6 (some .int) [(0, 12, 15, 25), (0, 12, 19, 19)]).before _ s = true := atoms_spec (ws := wLw_expandLabel) B.pre _ List.mem_cons_self
  refine vx_catch (own := R_Lw) (name := "java/lang/IllegalArgumentException") hown [(⟨0, 12, 15, 25⟩ : ExceptionTableEntry)] ⟨0, 12, 19, 19⟩ [] (vx_table (x := yLw_expandLabel) (hh := [(0, 12, 15, 25), (0, 12, 19, 19)]) B hcw) (fun z hz => by rw [List.mem_singleton.mp hz]; exact Or.inr ⟨by decide, _, hts _ gm_300, hnc⟩) (by decide) (by decide) (hts _ gm_279) (hG.nest gn_36 rfl) hce hcv hcl ?_
  refine W.eq (g2 := F0 m 19 ls [.ref q9]) rfl ?_
  refine lv_astore (lv' := [(5, .ref q9), (0, .ref bx), (1, .int (nI kd)), (2, .int (nI n)), (3, .int x1), (4, .ref ou)]) hx hb dLw_expandLabel_19 hl (by decide) rfl (fun ls hl => ?_)
  refine lv_iconst (v := nI 2) hx hb dLw_expandLabel_21 (by decide) ?_
  have hP := hP.sub (ws' := [(bx, .inr (4, [.ref rt, .ref rs, .ref ro, .ref ri, .ref ra, .ref ma])), (ra, .inl (k 3, 3, .inr (.inr (.inr (.inr fr))))), (h, .inr (3, [.ref a1, .ref a2, .int (nI nh), .ref (tb j), .int (nI 8), .int (nI fl), .long tot, .int bc, .ref a3])), (rt, .inr (2, [.ref bt, .int (nI nt)])), (ou, .inl (k 2, 1, .inr (.inl fq)))]) [1, 2, 3, 4, 0] rfl
  have hD := hD.sub (ws' := [(bx, .inr (4, [.ref rt, .ref rs, .ref ro, .ref ri, .ref ra, .ref ma])), (ra, .inl (k 3, 3, .inr (.inr (.inr (.inr fr))))), (h, .inr (3, [.ref a1, .ref a2, .int (nI nh), .ref (tb j), .int (nI 8), .int (nI fl), .long tot, .int bc, .ref a3])), (rt, .inr (2, [.ref bt, .int (nI nt)])), (ou, .inl (k 2, 1, .inr (.inl fq)))]) [1, 2, 3, 4, 0] (by decide) rfl
  refine W.widen (k := 1) (n := 6) (by omega) (by omega) ?_
  exact W.iret (v := nI 2) hx hb hr (fun t ht hW => ⟨⟨nI 2, (), rfl, rfl, by rw [ht]; exact hP, hD⟩, hS.F ht⟩) hS.2.2 dLw_expandLabel_22
