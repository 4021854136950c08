/-! DigestBox: the calls that throw -/
set_option maxHeartbeats 600000 in
set_option maxRecDepth 100000 in
theorem t_checkKind (l : Launch) (D : va_G) (k : Nat → ClassId) (tb : Nat → Nat) (hls : l.stackTraces = false) (sz : Nat) (x : Int32) (hq : ¬ x < 0 → x < nI 3 → False) : vx_Met l yBx_checkKind wBx_checkKind ({ frames := 6, cells := 1, slots := 6, locals := 90 }) (cP D k tb [] sz [.int x]) vxF (xX D "java/util/NoSuchElementException" [] (va_A [] sz)) 1 6 (va_A [] sz) := by
  refine vx_ofW (cc := cBx_checkKind) (maxL := 1) (ret := none) (by decide) rfl ?_
  intro p e s m args below meth c s₁ B hml htab hv
  obtain ⟨rfl, hsz, hP, hK, hD0, hG⟩ := hv
  have hx := B.exec
  have hb := B.bytes
  have hts : ∀ w ∈ GT, w.before _ s = true := fun w h => atoms_spec (ws := wBx_checkKind) B.pre w (List.mem_cons_of_mem _ h)
  have hown : s.vm.findClass R_Bx = some m.cls := findClass_of_methodNamed B.named
  have hlocks := B.notSynchronized
  subst hsz
  have hD := hD0.self (sz := s.heap.size)
  generalize hAe : va_A [] s.heap.size = A at hD hG ⊢
  have hA : ∀ q : Nat, s.heap.size ≤ q → A q := fun q h => by rw [← hAe]; exact Or.inr h
  have hl := lv_entry ([.int x]) (n := 1) (Nat.le_of_ble_eq_true rfl)
  rw [lg_entry_eq]
  generalize (lg_sl ([.int x]) ++ List.replicate (1 - (lg_sl ([.int x])).length) Slot.unset).toArray = ls at hl ⊢
  have hl : lv_has ls 1 [(0, .int x)] := hl
  refine cw_start (A := A) hP (fun H locs hP hS => ?_)
  refine lv_iload_n hx hb dBx_checkKind_0 rfl (lv_at hl 0 rfl) ?_
  refine lv_if_lt (tgt := 9) hx hb dBx_checkKind_1 (by decide) (fun c_1 => ?_) (fun c_1 => ?_)
  · skip
    have hP := hP.sub (ws' := []) [] rfl
    have hD := hD.sub (ws' := []) [] (by decide) rfl
    exact vx_throw0 (own := R_Bx) (cls := "java/util/NoSuchElementException") (names := xNm) hx hb hls hown (by decide +kernel) (by decide +kernel) (hts _ gm_308) (hts _ gm_65) (xa_NSE hts hG.1) xg_NSE hG.2.1.2.2.2.2.2.2.1 hG.2.1.2.2.2.2.2.2.2 hS (hl.1.trans hml.symm) dBx_checkKind_9 dBx_checkKind_12 dBx_checkKind_13 dBx_checkKind_16 (fun x h => (htab x h).elim) (Nat.le_of_ble_eq_true rfl) (Nat.le_of_ble_eq_true rfl) (Nat.le_of_ble_eq_true rfl) (Nat.le_of_ble_eq_true rfl) hlocks (xq_end hP hD hS) hS.2.2 (Nat.le_of_ble_eq_true rfl) (Nat.le_of_ble_eq_true rfl)
  · skip
    refine lv_iload_n hx hb dBx_checkKind_4 rfl (lv_at hl 0 rfl) ?_
    refine lv_iconst (v := nI 3) hx hb dBx_checkKind_5 (by decide) ?_
    refine lv_icmp_lt (tgt := 17) hx hb dBx_checkKind_6 (by decide) (fun c_6 => ?_) (fun c_6 => ?_)
    · skip
      exact (hq c_1 c_6).elim
    · skip
      have hP := hP.sub (ws' := []) [] rfl
      have hD := hD.sub (ws' := []) [] (by decide) rfl
      exact vx_throw0 (own := R_Bx) (cls := "java/util/NoSuchElementException") (names := xNm) hx hb hls hown (by decide +kernel) (by decide +kernel) (hts _ gm_308) (hts _ gm_65) (xa_NSE hts hG.1) xg_NSE hG.2.1.2.2.2.2.2.2.1 hG.2.1.2.2.2.2.2.2.2 hS (hl.1.trans hml.symm) dBx_checkKind_9 dBx_checkKind_12 dBx_checkKind_13 dBx_checkKind_16 (fun x h => (htab x h).elim) (Nat.le_of_ble_eq_true rfl) (Nat.le_of_ble_eq_true rfl) (Nat.le_of_ble_eq_true rfl) (Nat.le_of_ble_eq_true rfl) hlocks (xq_end hP hD hS) hS.2.2 (Nat.le_of_ble_eq_true rfl) (Nat.le_of_ble_eq_true rfl)
set_option maxHeartbeats 600000 in
set_option maxRecDepth 100000 in
theorem t_restart (l : Launch) (D : va_G) (k : Nat → ClassId) (tb : Nat → Nat) (hls : l.stackTraces = false) (sz : Nat) (bx : Nat) (x : Int32) (hq : ¬ x < 0 → x < nI 3 → False) : vx_Met l yBx_restart wBx_restart ({ frames := 7, cells := 1, slots := 6, locals := 110 }) (cP D k tb [] sz [.ref bx, .int x]) vxF (xX D "java/util/NoSuchElementException" [] (va_A [] sz)) 1 6 (va_A [] sz) := by
  refine vx_ofW (cc := cBx_restart) (maxL := 2) (ret := none) (by decide) rfl ?_
  intro p e s m args below meth c s₁ B hml htab hv
  obtain ⟨rfl, hsz, hP, hK, hD0, hG⟩ := hv
  have hx := B.exec
  have hb := B.bytes
  have hts : ∀ w ∈ GT, w.before _ s = true := fun w h => atoms_spec (ws := wBx_restart) B.pre w (List.mem_cons_of_mem _ h)
  have hown : s.vm.findClass R_Bx = some m.cls := findClass_of_methodNamed B.named
  have hlocks := B.notSynchronized
  subst hsz
  have hD := hD0.self (sz := s.heap.size)
  generalize hAe : va_A [] s.heap.size = A at hD hG ⊢
  have hA : ∀ q : Nat, s.heap.size ≤ q → A q := fun q h => by rw [← hAe]; exact Or.inr h
  have hl := lv_entry ([.ref bx, .int x]) (n := 2) (Nat.le_of_ble_eq_true rfl)
  rw [lg_entry_eq]
  generalize (lg_sl ([.ref bx, .int x]) ++ List.replicate (2 - (lg_sl ([.ref bx, .int x])).length) Slot.unset).toArray = ls at hl ⊢
  have hl : lv_has ls 2 [(0, .ref bx), (1, .int x)] := hl
  refine cw_start (A := A) hP (fun H locs hP hS => ?_)
  refine lv_iload_n hx hb dBx_restart_0 rfl (lv_at hl 1 rfl) ?_
  refine rx_c (wr := []) (vx_runS (As := [.int x]) (rest := []) ⟨hx, hb, hml, hown, hts⟩ (t_checkKind l D k tb hls H.size x hq) (va_cwS 1 hts (gS gm_305 gm_306 gm_50 gm_307) rfl rfl rfl (by decide +kernel) ⟨Nat.le_of_ble_eq_true rfl, Nat.le_of_ble_eq_true rfl⟩) (cP_S hP hD hK hG hS hA [] (by decide) rfl) rfl rfl hl.1 rfl (lv_room (Nat.le_of_ble_eq_true rfl)) dBx_restart_1 ⟨Nat.le_of_ble_eq_true rfl, Nat.le_of_ble_eq_true rfl⟩) hS hA hP hD [] [] rfl rfl (by decide) (by decide) (fun ce q9 H locs hP hD hS hce hcv hcl => ?_)
  have hP : va_P D vwCl [] H := hP
  have hD : va_D A [] := hD
  have hP := hP.sub (ws' := []) [] rfl
  have hD := hD.sub (ws' := []) [] (by decide) rfl
  exact vx_out (fun x h => (htab x h).elim) hlocks hce hcv hcl (xq_out hP hD hS) hS.2.2 (Nat.le_of_ble_eq_true rfl) (Nat.le_of_ble_eq_true rfl)
set_option maxHeartbeats 600000 in
set_option maxRecDepth 100000 in
theorem t_more (l : Launch) (D : va_G) (k : Nat → ClassId) (tb : Nat → Nat) (hls : l.stackTraces = false) (sz : Nat) (bx : Nat) (x : Int32) (hq : ¬ x < 0 → x < nI 3 → False) : vx_Met l yBx_more wBx_more ({ frames := 7, cells := 1, slots := 6, locals := 110 }) (cP D k tb [] sz [.ref bx, .int x]) vxF (xX D "java/util/NoSuchElementException" [] (va_A [] sz)) 1 6 (va_A [] sz) := by
  refine vx_ofW (cc := cBx_more) (maxL := 2) (ret := (some .long)) (by decide) rfl ?_
  intro p e s m args below meth c s₁ B hml htab hv
  obtain ⟨rfl, hsz, hP, hK, hD0, hG⟩ := hv
  have hx := B.exec
  have hb := B.bytes
  have hts : ∀ w ∈ GT, w.before _ s = true := fun w h => atoms_spec (ws := wBx_more) B.pre w (List.mem_cons_of_mem _ h)
  have hown : s.vm.findClass R_Bx = some m.cls := findClass_of_methodNamed B.named
  have hlocks := B.notSynchronized
  subst hsz
  have hD := hD0.self (sz := s.heap.size)
  generalize hAe : va_A [] s.heap.size = A at hD hG ⊢
  have hA : ∀ q : Nat, s.heap.size ≤ q → A q := fun q h => by rw [← hAe]; exact Or.inr h
  have hl := lv_entry ([.ref bx, .int x]) (n := 2) (Nat.le_of_ble_eq_true rfl)
  rw [lg_entry_eq]
  generalize (lg_sl ([.ref bx, .int x]) ++ List.replicate (2 - (lg_sl ([.ref bx, .int x])).length) Slot.unset).toArray = ls at hl ⊢
  have hl : lv_has ls 2 [(0, .ref bx), (1, .int x)] := hl
  refine cw_start (A := A) hP (fun H locs hP hS => ?_)
  refine lv_iload_n hx hb dBx_more_0 rfl (lv_at hl 1 rfl) ?_
  refine rx_c (wr := []) (vx_runS (As := [.int x]) (rest := []) ⟨hx, hb, hml, hown, hts⟩ (t_checkKind l D k tb hls H.size x hq) (va_cwS 1 hts (gS gm_305 gm_306 gm_50 gm_307) rfl rfl rfl (by decide +kernel) ⟨Nat.le_of_ble_eq_true rfl, Nat.le_of_ble_eq_true rfl⟩) (cP_S hP hD hK hG hS hA [] (by decide) rfl) rfl rfl hl.1 rfl (lv_room (Nat.le_of_ble_eq_true rfl)) dBx_more_1 ⟨Nat.le_of_ble_eq_true rfl, Nat.le_of_ble_eq_true rfl⟩) hS hA hP hD [] [] rfl rfl (by decide) (by decide) (fun ce q9 H locs hP hD hS hce hcv hcl => ?_)
  have hP : va_P D vwCl [] H := hP
  have hD : va_D A [] := hD
  have hP := hP.sub (ws' := []) [] rfl
  have hD := hD.sub (ws' := []) [] (by decide) rfl
  exact vx_out (fun x h => (htab x h).elim) hlocks hce hcv hcl (xq_out hP hD hS) hS.2.2 (Nat.le_of_ble_eq_true rfl) (Nat.le_of_ble_eq_true rfl)
set_option maxHeartbeats 600000 in
set_option maxRecDepth 100000 in
theorem t_peek (l : Launch) (D : va_G) (k : Nat → ClassId) (tb : Nat → Nat) (hls : l.stackTraces = false) (sz : Nat) (bx : Nat) (x : Int32) (hq : ¬ x < 0 → x < nI 3 → False) : vx_Met l yBx_peek wBx_peek ({ frames := 7, cells := 1, slots := 6, locals := 110 }) (cP D k tb [] sz [.ref bx, .int x]) vxF (xX D "java/util/NoSuchElementException" [] (va_A [] sz)) 1 6 (va_A [] sz) := by
  refine vx_ofW (cc := cBx_peek) (maxL := 3) (ret := (some .int)) (by decide) rfl ?_
  intro p e s m args below meth c s₁ B hml htab hv
  obtain ⟨rfl, hsz, hP, hK, hD0, hG⟩ := hv
  have hx := B.exec
  have hb := B.bytes
  have hts : ∀ w ∈ GT, w.before _ s = true := fun w h => atoms_spec (ws := wBx_peek) B.pre w (List.mem_cons_of_mem _ h)
  have hown : s.vm.findClass R_Bx = some m.cls := findClass_of_methodNamed B.named
  have hlocks := B.notSynchronized
  subst hsz
  have hD := hD0.self (sz := s.heap.size)
  generalize hAe : va_A [] s.heap.size = A at hD hG ⊢
  have hA : ∀ q : Nat, s.heap.size ≤ q → A q := fun q h => by rw [← hAe]; exact Or.inr h
  have hl := lv_entry ([.ref bx, .int x]) (n := 3) (Nat.le_of_ble_eq_true rfl)
  rw [lg_entry_eq]
  generalize (lg_sl ([.ref bx, .int x]) ++ List.replicate (3 - (lg_sl ([.ref bx, .int x])).length) Slot.unset).toArray = ls at hl ⊢
  have hl : lv_has ls 3 [(0, .ref bx), (1, .int x)] := hl
  refine cw_start (A := A) hP (fun H locs hP hS => ?_)
  refine lv_iload_n hx hb dBx_peek_0 rfl (lv_at hl 1 rfl) ?_
  refine rx_c (wr := []) (vx_runS (As := [.int x]) (rest := []) ⟨hx, hb, hml, hown, hts⟩ (t_checkKind l D k tb hls H.size x hq) (va_cwS 1 hts (gS gm_305 gm_306 gm_50 gm_307) rfl rfl rfl (by decide +kernel) ⟨Nat.le_of_ble_eq_true rfl, Nat.le_of_ble_eq_true rfl⟩) (cP_S hP hD hK hG hS hA [] (by decide) rfl) rfl rfl hl.1 rfl (lv_room (Nat.le_of_ble_eq_true rfl)) dBx_peek_1 ⟨Nat.le_of_ble_eq_true rfl, Nat.le_of_ble_eq_true rfl⟩) hS hA hP hD [] [] rfl rfl (by decide) (by decide) (fun ce q9 H locs hP hD hS hce hcv hcl => ?_)
  have hP : va_P D vwCl [] H := hP
  have hD : va_D A [] := hD
  have hP := hP.sub (ws' := []) [] rfl
  have hD := hD.sub (ws' := []) [] (by decide) rfl
  exact vx_out (fun x h => (htab x h).elim) hlocks hce hcv hcl (xq_out hP hD hS) hS.2.2 (Nat.le_of_ble_eq_true rfl) (Nat.le_of_ble_eq_true rfl)
set_option maxHeartbeats 600000 in
set_option maxRecDepth 100000 in
theorem t_hmac (l : Launch) (D : va_G) (k : Nat → ClassId) (tb : Nat → Nat) (hls : l.stackTraces = false) (sz : Nat) (bx : Nat) (x : Int32) (hq : ¬ x < 0 → x < nI 3 → False) : vx_Met l yBx_hmac wBx_hmac ({ frames := 7, cells := 1, slots := 6, locals := 110 }) (cP D k tb [] sz [.ref bx, .int x]) vxF (xX D "java/util/NoSuchElementException" [] (va_A [] sz)) 1 6 (va_A [] sz) := by
  refine vx_ofW (cc := cBx_hmac) (maxL := 3) (ret := (some .int)) (by decide) rfl ?_
  intro p e s m args below meth c s₁ B hml htab hv
  obtain ⟨rfl, hsz, hP, hK, hD0, hG⟩ := hv
  have hx := B.exec
  have hb := B.bytes
  have hts : ∀ w ∈ GT, w.before _ s = true := fun w h => atoms_spec (ws := wBx_hmac) B.pre w (List.mem_cons_of_mem _ h)
  have hown : s.vm.findClass R_Bx = some m.cls := findClass_of_methodNamed B.named
  have hlocks := B.notSynchronized
  subst hsz
  have hD := hD0.self (sz := s.heap.size)
  generalize hAe : va_A [] s.heap.size = A at hD hG ⊢
  have hA : ∀ q : Nat, s.heap.size ≤ q → A q := fun q h => by rw [← hAe]; exact Or.inr h
  have hl := lv_entry ([.ref bx, .int x]) (n := 3) (Nat.le_of_ble_eq_true rfl)
  rw [lg_entry_eq]
  generalize (lg_sl ([.ref bx, .int x]) ++ List.replicate (3 - (lg_sl ([.ref bx, .int x])).length) Slot.unset).toArray = ls at hl ⊢
  have hl : lv_has ls 3 [(0, .ref bx), (1, .int x)] := hl
  refine cw_start (A := A) hP (fun H locs hP hS => ?_)
  refine lv_iload_n hx hb dBx_hmac_0 rfl (lv_at hl 1 rfl) ?_
  refine rx_c (wr := []) (vx_runS (As := [.int x]) (rest := []) ⟨hx, hb, hml, hown, hts⟩ (t_checkKind l D k tb hls H.size x hq) (va_cwS 1 hts (gS gm_305 gm_306 gm_50 gm_307) rfl rfl rfl (by decide +kernel) ⟨Nat.le_of_ble_eq_true rfl, Nat.le_of_ble_eq_true rfl⟩) (cP_S hP hD hK hG hS hA [] (by decide) rfl) rfl rfl hl.1 rfl (lv_room (Nat.le_of_ble_eq_true rfl)) dBx_hmac_1 ⟨Nat.le_of_ble_eq_true rfl, Nat.le_of_ble_eq_true rfl⟩) hS hA hP hD [] [] rfl rfl (by decide) (by decide) (fun ce q9 H locs hP hD hS hce hcv hcl => ?_)
  have hP : va_P D vwCl [] H := hP
  have hD : va_D A [] := hD
  have hP := hP.sub (ws' := []) [] rfl
  have hD := hD.sub (ws' := []) [] (by decide) rfl
  exact vx_out (fun x h => (htab x h).elim) hlocks hce hcv hcl (xq_out hP hD hS) hS.2.2 (Nat.le_of_ble_eq_true rfl) (Nat.le_of_ble_eq_true rfl)
set_option maxHeartbeats 600000 in
set_option maxRecDepth 100000 in
theorem t_expand (l : Launch) (D : va_G) (k : Nat → ClassId) (tb : Nat → Nat) (hls : l.stackTraces = false) (sz : Nat) (bx : Nat) (x x0 : Int32) (hq : ¬ x < 0 → x < nI 3 → False) : vx_Met l yBx_expand wBx_expand ({ frames := 7, cells := 1, slots := 6, locals := 110 }) (cP D k tb [] sz [.ref bx, .int x, .int x0]) vxF (xX D "java/util/NoSuchElementException" [] (va_A [] sz)) 1 6 (va_A [] sz) := by
  refine vx_ofW (cc := cBx_expand) (maxL := 3) (ret := (some .int)) (by decide) rfl ?_
  intro p e s m args below meth c s₁ B hml htab hv
  obtain ⟨rfl, hsz, hP, hK, hD0, hG⟩ := hv
  have hx := B.exec
  have hb := B.bytes
  have hts : ∀ w ∈ GT, w.before _ s = true := fun w h => atoms_spec (ws := wBx_expand) B.pre w (List.mem_cons_of_mem _ h)
  have hown : s.vm.findClass R_Bx = some m.cls := findClass_of_methodNamed B.named
  have hlocks := B.notSynchronized
  subst hsz
  have hD := hD0.self (sz := s.heap.size)
  generalize hAe : va_A [] s.heap.size = A at hD hG ⊢
  have hA : ∀ q : Nat, s.heap.size ≤ q → A q := fun q h => by rw [← hAe]; exact Or.inr h
  have hl := lv_entry ([.ref bx, .int x, .int x0]) (n := 3) (Nat.le_of_ble_eq_true rfl)
  rw [lg_entry_eq]
  generalize (lg_sl ([.ref bx, .int x, .int x0]) ++ List.replicate (3 - (lg_sl ([.ref bx, .int x, .int x0])).length) Slot.unset).toArray = ls at hl ⊢
  have hl : lv_has ls 3 [(0, .ref bx), (1, .int x), (2, .int x0)] := hl
  refine cw_start (A := A) hP (fun H locs hP hS => ?_)
  refine lv_iload_n hx hb dBx_expand_0 rfl (lv_at hl 1 rfl) ?_
  refine rx_c (wr := []) (vx_runS (As := [.int x]) (rest := []) ⟨hx, hb, hml, hown, hts⟩ (t_checkKind l D k tb hls H.size x hq) (va_cwS 1 hts (gS gm_305 gm_306 gm_50 gm_307) rfl rfl rfl (by decide +kernel) ⟨Nat.le_of_ble_eq_true rfl, Nat.le_of_ble_eq_true rfl⟩) (cP_S hP hD hK hG hS hA [] (by decide) rfl) rfl rfl hl.1 rfl (lv_room (Nat.le_of_ble_eq_true rfl)) dBx_expand_1 ⟨Nat.le_of_ble_eq_true rfl, Nat.le_of_ble_eq_true rfl⟩) hS hA hP hD [] [] rfl rfl (by decide) (by decide) (fun ce q9 H locs hP hD hS hce hcv hcl => ?_)
  have hP : va_P D vwCl [] H := hP
  have hD : va_D A [] := hD
  have hP := hP.sub (ws' := []) [] rfl
  have hD := hD.sub (ws' := []) [] (by decide) rfl
  exact vx_out (fun x h => (htab x h).elim) hlocks hce hcv hcl (xq_out hP hD hS) hS.2.2 (Nat.le_of_ble_eq_true rfl) (Nat.le_of_ble_eq_true rfl)
set_option maxHeartbeats 600000 in
set_option maxRecDepth 100000 in
theorem t_expandLabel (l : Launch) (D : va_G) (k : Nat → ClassId) (tb : Nat → Nat) (hls : l.stackTraces = false) (sz : Nat) (bx : Nat) (x x0 x1 : Int32) (hq : ¬ x < 0 → x < nI 3 → False) : vx_Met l yBx_expandLabel wBx_expandLabel ({ frames := 7, cells := 1, slots := 6, locals := 110 }) (cP D k tb [] sz [.ref bx, .int x, .int x0, .int x1]) vxF (xX D "java/util/NoSuchElementException" [] (va_A [] sz)) 1 6 (va_A [] sz) := by
  refine vx_ofW (cc := cBx_expandLabel) (maxL := 4) (ret := (some .int)) (by decide) rfl ?_
  intro p e s m args below meth c s₁ B hml htab hv
  obtain ⟨rfl, hsz, hP, hK, hD0, hG⟩ := hv
  have hx := B.exec
  have hb := B.bytes
  have hts : ∀ w ∈ GT, w.before _ s = true := fun w h => atoms_spec (ws := wBx_expandLabel) B.pre w (List.mem_cons_of_mem _ h)
  have hown : s.vm.findClass R_Bx = some m.cls := findClass_of_methodNamed B.named
  have hlocks := B.notSynchronized
  subst hsz
  have hD := hD0.self (sz := s.heap.size)
  generalize hAe : va_A [] s.heap.size = A at hD hG ⊢
  have hA : ∀ q : Nat, s.heap.size ≤ q → A q := fun q h => by rw [← hAe]; exact Or.inr h
  have hl := lv_entry ([.ref bx, .int x, .int x0, .int x1]) (n := 4) (Nat.le_of_ble_eq_true rfl)
  rw [lg_entry_eq]
  generalize (lg_sl ([.ref bx, .int x, .int x0, .int x1]) ++ List.replicate (4 - (lg_sl ([.ref bx, .int x, .int x0, .int x1])).length) Slot.unset).toArray = ls at hl ⊢
  have hl : lv_has ls 4 [(0, .ref bx), (1, .int x), (2, .int x0), (3, .int x1)] := hl
  refine cw_start (A := A) hP (fun H locs hP hS => ?_)
  refine lv_iload_n hx hb dBx_expandLabel_0 rfl (lv_at hl 1 rfl) ?_
  refine rx_c (wr := []) (vx_runS (As := [.int x]) (rest := []) ⟨hx, hb, hml, hown, hts⟩ (t_checkKind l D k tb hls H.size x hq) (va_cwS 1 hts (gS gm_305 gm_306 gm_50 gm_307) rfl rfl rfl (by decide +kernel) ⟨Nat.le_of_ble_eq_true rfl, Nat.le_of_ble_eq_true rfl⟩) (cP_S hP hD hK hG hS hA [] (by decide) rfl) rfl rfl hl.1 rfl (lv_room (Nat.le_of_ble_eq_true rfl)) dBx_expandLabel_1 ⟨Nat.le_of_ble_eq_true rfl, Nat.le_of_ble_eq_true rfl⟩) hS hA hP hD [] [] rfl rfl (by decide) (by decide) (fun ce q9 H locs hP hD hS hce hcv hcl => ?_)
  have hP : va_P D vwCl [] H := hP
  have hD : va_D A [] := hD
  have hP := hP.sub (ws' := []) [] rfl
  have hD := hD.sub (ws' := []) [] (by decide) rfl
  exact vx_out (fun x h => (htab x h).elim) hlocks hce hcv hcl (xq_out hP hD hS) hS.2.2 (Nat.le_of_ble_eq_true rfl) (Nat.le_of_ble_eq_true rfl)
set_option maxHeartbeats 600000 in
set_option maxRecDepth 100000 in
theorem t_end (l : Launch) (D : va_G) (k : Nat → ClassId) (tb : Nat → Nat) (hls : l.stackTraces = false) (sz : Nat) (bx rt rs ro ri ra ma : Nat) (bt nt : Nat) (x : Int32) (hq : ¬ x < 0 → x ≤ nI nt → False) : vx_Met l yBx_end wBx_end ({ frames := 6, cells := 1, slots := 6, locals := 90 }) (cP D k tb [(bx, .inr (4, [.ref rt, .ref rs, .ref ro, .ref ri, .ref ra, .ref ma])), (rt, .inr (2, [.ref bt, .int (nI nt)]))] sz [.ref bx, .int x]) vxF (xX D "java/lang/IllegalArgumentException" [(bx, .inr (4, [.ref rt, .ref rs, .ref ro, .ref ri, .ref ra, .ref ma])), (rt, .inr (2, [.ref bt, .int (nI nt)]))] (va_A [(bx, .inr (4, [.ref rt, .ref rs, .ref ro, .ref ri, .ref ra, .ref ma])), (rt, .inr (2, [.ref bt, .int (nI nt)]))] sz)) 1 6 (va_A [(bx, .inr (4, [.ref rt, .ref rs, .ref ro, .ref ri, .ref ra, .ref ma])), (rt, .inr (2, [.ref bt, .int (nI nt)]))] sz) := by
  refine vx_ofW (cc := cBx_end) (maxL := 2) (ret := (some .int)) (by decide) rfl ?_
  intro p e s m args below meth c s₁ B hml htab hv
  obtain ⟨rfl, hsz, hP, hK, hD0, hG⟩ := hv
  have hx := B.exec
  have hb := B.bytes
  have hts : ∀ w ∈ GT, w.before _ s = true := fun w h => atoms_spec (ws := wBx_end) B.pre w (List.mem_cons_of_mem _ h)
  have hown : s.vm.findClass R_Bx = some m.cls := findClass_of_methodNamed B.named
  have hlocks := B.notSynchronized
  subst hsz
  have hD := hD0.self (sz := s.heap.size)
  generalize hAe : va_A [(bx, .inr (4, [.ref rt, .ref rs, .ref ro, .ref ri, .ref ra, .ref ma])), (rt, .inr (2, [.ref bt, .int (nI nt)]))] s.heap.size = A at hD hG ⊢
  have hA : ∀ q : Nat, s.heap.size ≤ q → A q := fun q h => by rw [← hAe]; exact Or.inr h
  have hl := lv_entry ([.ref bx, .int x]) (n := 2) (Nat.le_of_ble_eq_true rfl)
  rw [lg_entry_eq]
  generalize (lg_sl ([.ref bx, .int x]) ++ List.replicate (2 - (lg_sl ([.ref bx, .int x])).length) Slot.unset).toArray = ls at hl ⊢
  have hl : lv_has ls 2 [(0, .ref bx), (1, .int x)] := hl
  refine cw_start (A := A) hP (fun H locs hP hS => ?_)
  refine lv_iload_n hx hb dBx_end_0 rfl (lv_at hl 1 rfl) ?_
  refine lv_if_lt (tgt := 15) hx hb dBx_end_1 (by decide) (fun c_1 => ?_) (fun c_1 => ?_)
  · skip
    have hP := hP.sub (ws' := [(bx, .inr (4, [.ref rt, .ref rs, .ref ro, .ref ri, .ref ra, .ref ma])), (rt, .inr (2, [.ref bt, .int (nI nt)]))]) [0, 1] rfl
    have hD := hD.sub (ws' := [(bx, .inr (4, [.ref rt, .ref rs, .ref ro, .ref ri, .ref ra, .ref ma])), (rt, .inr (2, [.ref bt, .int (nI nt)]))]) [0, 1] (by decide) rfl
    exact vx_throw0 (own := R_Bx) (cls := "java/lang/IllegalArgumentException") (names := xNm) hx hb hls hown (by decide +kernel) (by decide +kernel) (hts _ gm_284) (hts _ gm_64) (xa_IAE hts hG.1) xg_IAE hG.2.1.2.2.2.2.2.2.1 hG.2.1.2.2.2.2.2.2.2 hS (hl.1.trans hml.symm) dBx_end_15 dBx_end_18 dBx_end_19 dBx_end_22 (fun x h => (htab x h).elim) (Nat.le_of_ble_eq_true rfl) (Nat.le_of_ble_eq_true rfl) (Nat.le_of_ble_eq_true rfl) (Nat.le_of_ble_eq_true rfl) hlocks (xq_end hP hD hS) hS.2.2 (Nat.le_of_ble_eq_true rfl) (Nat.le_of_ble_eq_true rfl)
  · skip
    refine lv_iload_n hx hb dBx_end_4 rfl (lv_at hl 1 rfl) ?_
    refine lv_aload_n hx hb dBx_end_5 rfl (lv_at hl 0 rfl) ?_
    refine va_get (D := D) (ci := 4) (v := .ref rt) (C := R_Bx) (T := T_Bx) (N := 6) hx hb hts in_Bx hown hK hP 0 rfl rfl 0 (by decide) (hts _ gm_167) (fun _ h9 => h9) rfl dBx_end_6 ?_
    refine va_getN (D := D) (ci := 2) (v := .int (nI nt)) (C := R_Rw) (T := T_Rw) (N := 2) hx hb hts in_Rw hown hK hP 1 rfl rfl 1 (by decide) (hG.nest gn_3 rfl) (fun _ h9 => h9) rfl dBx_end_9 ?_
    refine lv_icmp_le (tgt := 23) hx hb dBx_end_12 (by decide) (fun c_12 => ?_) (fun c_12 => ?_)
    · skip
      exact (hq c_1 c_12).elim
    · skip
      have hP := hP.sub (ws' := [(bx, .inr (4, [.ref rt, .ref rs, .ref ro, .ref ri, .ref ra, .ref ma])), (rt, .inr (2, [.ref bt, .int (nI nt)]))]) [0, 1] rfl
      have hD := hD.sub (ws' := [(bx, .inr (4, [.ref rt, .ref rs, .ref ro, .ref ri, .ref ra, .ref ma])), (rt, .inr (2, [.ref bt, .int (nI nt)]))]) [0, 1] (by decide) rfl
      exact vx_throw0 (own := R_Bx) (cls := "java/lang/IllegalArgumentException") (names := xNm) hx hb hls hown (by decide +kernel) (by decide +kernel) (hts _ gm_284) (hts _ gm_64) (xa_IAE hts hG.1) xg_IAE hG.2.1.2.2.2.2.2.2.1 hG.2.1.2.2.2.2.2.2.2 hS (hl.1.trans hml.symm) dBx_end_15 dBx_end_18 dBx_end_19 dBx_end_22 (fun x h => (htab x h).elim) (Nat.le_of_ble_eq_true rfl) (Nat.le_of_ble_eq_true rfl) (Nat.le_of_ble_eq_true rfl) (Nat.le_of_ble_eq_true rfl) hlocks (xq_end hP hD hS) hS.2.2 (Nat.le_of_ble_eq_true rfl) (Nat.le_of_ble_eq_true rfl)
set_option maxHeartbeats 600000 in
set_option maxRecDepth 100000 in
theorem t_result (l : Launch) (D : va_G) (k : Nat → ClassId) (tb : Nat → Nat) (hls : l.stackTraces = false) (sz : Nat) (bx rt rs ro ri ra ma : Nat) (bo no : Nat) (x : Int32) (hq : ¬ x < 0 → x < nI no → False) : vx_Met l yBx_result wBx_result ({ frames := 6, cells := 1, slots := 6, locals := 90 }) (cP D k tb [(bx, .inr (4, [.ref rt, .ref rs, .ref ro, .ref ri, .ref ra, .ref ma])), (ro, .inr (2, [.ref bo, .int (nI no)]))] sz [.ref bx, .int x]) vxF (xX D "java/lang/IndexOutOfBoundsException" [(bx, .inr (4, [.ref rt, .ref rs, .ref ro, .ref ri, .ref ra, .ref ma])), (ro, .inr (2, [.ref bo, .int (nI no)]))] (va_A [(bx, .inr (4, [.ref rt, .ref rs, .ref ro, .ref ri, .ref ra, .ref ma])), (ro, .inr (2, [.ref bo, .int (nI no)]))] sz)) 1 6 (va_A [(bx, .inr (4, [.ref rt, .ref rs, .ref ro, .ref ri, .ref ra, .ref ma])), (ro, .inr (2, [.ref bo, .int (nI no)]))] sz) := by
  refine vx_ofW (cc := cBx_result) (maxL := 2) (ret := (some .int)) (by decide) rfl ?_
  intro p e s m args below meth c s₁ B hml htab hv
  obtain ⟨rfl, hsz, hP, hK, hD0, hG⟩ := hv
  have hx := B.exec
  have hb := B.bytes
  have hts : ∀ w ∈ GT, w.before _ s = true := fun w h => atoms_spec (ws := wBx_result) B.pre w (List.mem_cons_of_mem _ h)
  have hown : s.vm.findClass R_Bx = some m.cls := findClass_of_methodNamed B.named
  have hlocks := B.notSynchronized
  subst hsz
  have hD := hD0.self (sz := s.heap.size)
  generalize hAe : va_A [(bx, .inr (4, [.ref rt, .ref rs, .ref ro, .ref ri, .ref ra, .ref ma])), (ro, .inr (2, [.ref bo, .int (nI no)]))] s.heap.size = A at hD hG ⊢
  have hA : ∀ q : Nat, s.heap.size ≤ q → A q := fun q h => by rw [← hAe]; exact Or.inr h
  have hl := lv_entry ([.ref bx, .int x]) (n := 2) (Nat.le_of_ble_eq_true rfl)
  rw [lg_entry_eq]
  generalize (lg_sl ([.ref bx, .int x]) ++ List.replicate (2 - (lg_sl ([.ref bx, .int x])).length) Slot.unset).toArray = ls at hl ⊢
  have hl : lv_has ls 2 [(0, .ref bx), (1, .int x)] := hl
  refine cw_start (A := A) hP (fun H locs hP hS => ?_)
  refine lv_iload_n hx hb dBx_result_0 rfl (lv_at hl 1 rfl) ?_
  refine lv_if_lt (tgt := 15) hx hb dBx_result_1 (by decide) (fun c_1 => ?_) (fun c_1 => ?_)
  · skip
    have hP := hP.sub (ws' := [(bx, .inr (4, [.ref rt, .ref rs, .ref ro, .ref ri, .ref ra, .ref ma])), (ro, .inr (2, [.ref bo, .int (nI no)]))]) [0, 1] rfl
    have hD := hD.sub (ws' := [(bx, .inr (4, [.ref rt, .ref rs, .ref ro, .ref ri, .ref ra, .ref ma])), (ro, .inr (2, [.ref bo, .int (nI no)]))]) [0, 1] (by decide) rfl
    exact vx_throw0 (own := R_Bx) (cls := "java/lang/IndexOutOfBoundsException") (names := xNm) hx hb hls hown (by decide +kernel) (by decide +kernel) (hts _ gm_490) (hts _ gm_66) (xa_IOB hts hG.1) xg_IOB hG.2.1.2.2.2.2.2.2.1 hG.2.1.2.2.2.2.2.2.2 hS (hl.1.trans hml.symm) dBx_result_15 dBx_result_18 dBx_result_19 dBx_result_22 (fun x h => (htab x h).elim) (Nat.le_of_ble_eq_true rfl) (Nat.le_of_ble_eq_true rfl) (Nat.le_of_ble_eq_true rfl) (Nat.le_of_ble_eq_true rfl) hlocks (xq_end hP hD hS) hS.2.2 (Nat.le_of_ble_eq_true rfl) (Nat.le_of_ble_eq_true rfl)
  · skip
    refine lv_iload_n hx hb dBx_result_4 rfl (lv_at hl 1 rfl) ?_
    refine lv_aload_n hx hb dBx_result_5 rfl (lv_at hl 0 rfl) ?_
    refine va_get (D := D) (ci := 4) (v := .ref ro) (C := R_Bx) (T := T_Bx) (N := 6) hx hb hts in_Bx hown hK hP 0 rfl rfl 2 (by decide) (hts _ gm_169) (fun _ h9 => h9) rfl dBx_result_6 ?_
    refine va_getN (D := D) (ci := 2) (v := .int (nI no)) (C := R_Rw) (T := T_Rw) (N := 2) hx hb hts in_Rw hown hK hP 1 rfl rfl 1 (by decide) (hG.nest gn_3 rfl) (fun _ h9 => h9) rfl dBx_result_9 ?_
    refine lv_icmp_lt (tgt := 23) hx hb dBx_result_12 (by decide) (fun c_12 => ?_) (fun c_12 => ?_)
    · skip
      exact (hq c_1 c_12).elim
    · skip
      have hP := hP.sub (ws' := [(bx, .inr (4, [.ref rt, .ref rs, .ref ro, .ref ri, .ref ra, .ref ma])), (ro, .inr (2, [.ref bo, .int (nI no)]))]) [0, 1] rfl
      have hD := hD.sub (ws' := [(bx, .inr (4, [.ref rt, .ref rs, .ref ro, .ref ri, .ref ra, .ref ma])), (ro, .inr (2, [.ref bo, .int (nI no)]))]) [0, 1] (by decide) rfl
      exact vx_throw0 (own := R_Bx) (cls := "java/lang/IndexOutOfBoundsException") (names := xNm) hx hb hls hown (by decide +kernel) (by decide +kernel) (hts _ gm_490) (hts _ gm_66) (xa_IOB hts hG.1) xg_IOB hG.2.1.2.2.2.2.2.2.1 hG.2.1.2.2.2.2.2.2.2 hS (hl.1.trans hml.symm) dBx_result_15 dBx_result_18 dBx_result_19 dBx_result_22 (fun x h => (htab x h).elim) (Nat.le_of_ble_eq_true rfl) (Nat.le_of_ble_eq_true rfl) (Nat.le_of_ble_eq_true rfl) (Nat.le_of_ble_eq_true rfl) hlocks (xq_end hP hD hS) hS.2.2 (Nat.le_of_ble_eq_true rfl) (Nat.le_of_ble_eq_true rfl)
set_option maxHeartbeats 600000 in
set_option maxRecDepth 100000 in
theorem t_checkLabel (l : Launch) (D : va_G) (k : Nat → ClassId) (tb : Nat → Nat) (hls : l.stackTraces = false) (sz : Nat) (bx rt rs ro ri ra ma : Nat) (bt nt : Nat) (x1 : Int32) (hq : ¬ x1 < nI 1 → ¬ nI 249 < x1 → ¬ nI nt < x1 → nI nt - x1 ≤ nI 255 → False) : vx_Met l yBx_checkLabelLength wBx_checkLabelLength ({ frames := 6, cells := 1, slots := 6, locals := 90 }) (cP D k tb [(bx, .inr (4, [.ref rt, .ref rs, .ref ro, .ref ri, .ref ra, .ref ma])), (rt, .inr (2, [.ref bt, .int (nI nt)]))] sz [.ref bx, .int x1]) vxF (xX D "java/lang/IllegalArgumentException" [(bx, .inr (4, [.ref rt, .ref rs, .ref ro, .ref ri, .ref ra, .ref ma])), (rt, .inr (2, [.ref bt, .int (nI nt)]))] (va_A [(bx, .inr (4, [.ref rt, .ref rs, .ref ro, .ref ri, .ref ra, .ref ma])), (rt, .inr (2, [.ref bt, .int (nI nt)]))] sz)) 1 6 (va_A [(bx, .inr (4, [.ref rt, .ref rs, .ref ro, .ref ri, .ref ra, .ref ma])), (rt, .inr (2, [.ref bt, .int (nI nt)]))] sz) := by
  refine vx_ofW (cc := cBx_checkLabelLength) (maxL := 2) (ret := none) (by decide) rfl ?_
  intro p e s m args below meth c s₁ B hml htab hv
  obtain ⟨rfl, hsz, hP, hK, hD0, hG⟩ := hv
  have hx := B.exec
  have hb := B.bytes
  have hts : ∀ w ∈ GT, w.before _ s = true := fun w h => atoms_spec (ws := wBx_checkLabelLength) B.pre w (List.mem_cons_of_mem _ h)
  have hown : s.vm.findClass R_Bx = some m.cls := findClass_of_methodNamed B.named
  have hlocks := B.notSynchronized
  subst hsz
  have hD := hD0.self (sz := s.heap.size)
  generalize hAe : va_A [(bx, .inr (4, [.ref rt, .ref rs, .ref ro, .ref ri, .ref ra, .ref ma])), (rt, .inr (2, [.ref bt, .int (nI nt)]))] s.heap.size = A at hD hG ⊢
  have hA : ∀ q : Nat, s.heap.size ≤ q → A q := fun q h => by rw [← hAe]; exact Or.inr h
  have hl := lv_entry ([.ref bx, .int x1]) (n := 2) (Nat.le_of_ble_eq_true rfl)
  rw [lg_entry_eq]
  generalize (lg_sl ([.ref bx, .int x1]) ++ List.replicate (2 - (lg_sl ([.ref bx, .int x1])).length) Slot.unset).toArray = ls at hl ⊢
  have hl : lv_has ls 2 [(0, .ref bx), (1, .int x1)] := hl
  refine cw_start (A := A) hP (fun H locs hP hS => ?_)
  refine lv_iload_n hx hb dBx_checkLabelLength_0 rfl (lv_at hl 1 rfl) ?_
  refine lv_iconst (v := nI 1) hx hb dBx_checkLabelLength_1 (by decide) ?_
  refine lv_icmp_lt (tgt := 38) hx hb dBx_checkLabelLength_2 (by decide) (fun c_2 => ?_) (fun c_2 => ?_)
  · skip
    have hP := hP.sub (ws' := [(bx, .inr (4, [.ref rt, .ref rs, .ref ro, .ref ri, .ref ra, .ref ma])), (rt, .inr (2, [.ref bt, .int (nI nt)]))]) [0, 1] rfl
    have hD := hD.sub (ws' := [(bx, .inr (4, [.ref rt, .ref rs, .ref ro, .ref ri, .ref ra, .ref ma])), (rt, .inr (2, [.ref bt, .int (nI nt)]))]) [0, 1] (by decide) rfl
    exact vx_throw0 (own := R_Bx) (cls := "java/lang/IllegalArgumentException") (names := xNm) hx hb hls hown (by decide +kernel) (by decide +kernel) (hts _ gm_284) (hts _ gm_64) (xa_IAE hts hG.1) xg_IAE hG.2.1.2.2.2.2.2.2.1 hG.2.1.2.2.2.2.2.2.2 hS (hl.1.trans hml.symm) dBx_checkLabelLength_38 dBx_checkLabelLength_41 dBx_checkLabelLength_42 dBx_checkLabelLength_45 (fun x h => (htab x h).elim) (Nat.le_of_ble_eq_true rfl) (Nat.le_of_ble_eq_true rfl) (Nat.le_of_ble_eq_true rfl) (Nat.le_of_ble_eq_true rfl) hlocks (xq_end hP hD hS) hS.2.2 (Nat.le_of_ble_eq_true rfl) (Nat.le_of_ble_eq_true rfl)
  · skip
    refine lv_iload_n hx hb dBx_checkLabelLength_5 rfl (lv_at hl 1 rfl) ?_
    refine lv_sipush (v := nI 249) hx hb dBx_checkLabelLength_6 (by decide) ?_
    refine lv_icmp_gt (tgt := 38) hx hb dBx_checkLabelLength_9 (by decide) (fun c_9 => ?_) (fun c_9 => ?_)
    · skip
      have hP := hP.sub (ws' := [(bx, .inr (4, [.ref rt, .ref rs, .ref ro, .ref ri, .ref ra, .ref ma])), (rt, .inr (2, [.ref bt, .int (nI nt)]))]) [0, 1] rfl
      have hD := hD.sub (ws' := [(bx, .inr (4, [.ref rt, .ref rs, .ref ro, .ref ri, .ref ra, .ref ma])), (rt, .inr (2, [.ref bt, .int (nI nt)]))]) [0, 1] (by decide) rfl
      exact vx_throw0 (own := R_Bx) (cls := "java/lang/IllegalArgumentException") (names := xNm) hx hb hls hown (by decide +kernel) (by decide +kernel) (hts _ gm_284) (hts _ gm_64) (xa_IAE hts hG.1) xg_IAE hG.2.1.2.2.2.2.2.2.1 hG.2.1.2.2.2.2.2.2.2 hS (hl.1.trans hml.symm) dBx_checkLabelLength_38 dBx_checkLabelLength_41 dBx_checkLabelLength_42 dBx_checkLabelLength_45 (fun x h => (htab x h).elim) (Nat.le_of_ble_eq_true rfl) (Nat.le_of_ble_eq_true rfl) (Nat.le_of_ble_eq_true rfl) (Nat.le_of_ble_eq_true rfl) hlocks (xq_end hP hD hS) hS.2.2 (Nat.le_of_ble_eq_true rfl) (Nat.le_of_ble_eq_true rfl)
    · skip
      refine lv_iload_n hx hb dBx_checkLabelLength_12 rfl (lv_at hl 1 rfl) ?_
      refine lv_aload_n hx hb dBx_checkLabelLength_13 rfl (lv_at hl 0 rfl) ?_
      refine va_get (D := D) (ci := 4) (v := .ref rt) (C := R_Bx) (T := T_Bx) (N := 6) hx hb hts in_Bx hown hK hP 0 rfl rfl 0 (by decide) (hts _ gm_167) (fun _ h9 => h9) rfl dBx_checkLabelLength_14 ?_
      refine va_getN (D := D) (ci := 2) (v := .int (nI nt)) (C := R_Rw) (T := T_Rw) (N := 2) hx hb hts in_Rw hown hK hP 1 rfl rfl 1 (by decide) (hG.nest gn_3 rfl) (fun _ h9 => h9) rfl dBx_checkLabelLength_17 ?_
      refine lv_icmp_gt (tgt := 38) hx hb dBx_checkLabelLength_20 (by decide) (fun c_20 => ?_) (fun c_20 => ?_)
      · skip
        have hP := hP.sub (ws' := [(bx, .inr (4, [.ref rt, .ref rs, .ref ro, .ref ri, .ref ra, .ref ma])), (rt, .inr (2, [.ref bt, .int (nI nt)]))]) [0, 1] rfl
        have hD := hD.sub (ws' := [(bx, .inr (4, [.ref rt, .ref rs, .ref ro, .ref ri, .ref ra, .ref ma])), (rt, .inr (2, [.ref bt, .int (nI nt)]))]) [0, 1] (by decide) rfl
        exact vx_throw0 (own := R_Bx) (cls := "java/lang/IllegalArgumentException") (names := xNm) hx hb hls hown (by decide +kernel) (by decide +kernel) (hts _ gm_284) (hts _ gm_64) (xa_IAE hts hG.1) xg_IAE hG.2.1.2.2.2.2.2.2.1 hG.2.1.2.2.2.2.2.2.2 hS (hl.1.trans hml.symm) dBx_checkLabelLength_38 dBx_checkLabelLength_41 dBx_checkLabelLength_42 dBx_checkLabelLength_45 (fun x h => (htab x h).elim) (Nat.le_of_ble_eq_true rfl) (Nat.le_of_ble_eq_true rfl) (Nat.le_of_ble_eq_true rfl) (Nat.le_of_ble_eq_true rfl) hlocks (xq_end hP hD hS) hS.2.2 (Nat.le_of_ble_eq_true rfl) (Nat.le_of_ble_eq_true rfl)
      · skip
        refine lv_aload_n hx hb dBx_checkLabelLength_23 rfl (lv_at hl 0 rfl) ?_
        refine va_get (D := D) (ci := 4) (v := .ref rt) (C := R_Bx) (T := T_Bx) (N := 6) hx hb hts in_Bx hown hK hP 0 rfl rfl 0 (by decide) (hts _ gm_167) (fun _ h9 => h9) rfl dBx_checkLabelLength_24 ?_
        refine va_getN (D := D) (ci := 2) (v := .int (nI nt)) (C := R_Rw) (T := T_Rw) (N := 2) hx hb hts in_Rw hown hK hP 1 rfl rfl 1 (by decide) (hG.nest gn_3 rfl) (fun _ h9 => h9) rfl dBx_checkLabelLength_27 ?_
        refine lv_iload_n hx hb dBx_checkLabelLength_30 rfl (lv_at hl 1 rfl) ?_
        refine lv_isub hx hb dBx_checkLabelLength_31 ?_
        refine lv_sipush (v := nI 255) hx hb dBx_checkLabelLength_32 (by decide) ?_
        refine lv_icmp_le (tgt := 46) hx hb dBx_checkLabelLength_35 (by decide) (fun c_35 => ?_) (fun c_35 => ?_)
        · skip
          exact (hq c_2 c_9 c_20 c_35).elim
        · skip
          have hP := hP.sub (ws' := [(bx, .inr (4, [.ref rt, .ref rs, .ref ro, .ref ri, .ref ra, .ref ma])), (rt, .inr (2, [.ref bt, .int (nI nt)]))]) [0, 1] rfl
          have hD := hD.sub (ws' := [(bx, .inr (4, [.ref rt, .ref rs, .ref ro, .ref ri, .ref ra, .ref ma])), (rt, .inr (2, [.ref bt, .int (nI nt)]))]) [0, 1] (by decide) rfl
          exact vx_throw0 (own := R_Bx) (cls := "java/lang/IllegalArgumentException") (names := xNm) hx hb hls hown (by decide +kernel) (by decide +kernel) (hts _ gm_284) (hts _ gm_64) (xa_IAE hts hG.1) xg_IAE hG.2.1.2.2.2.2.2.2.1 hG.2.1.2.2.2.2.2.2.2 hS (hl.1.trans hml.symm) dBx_checkLabelLength_38 dBx_checkLabelLength_41 dBx_checkLabelLength_42 dBx_checkLabelLength_45 (fun x h => (htab x h).elim) (Nat.le_of_ble_eq_true rfl) (Nat.le_of_ble_eq_true rfl) (Nat.le_of_ble_eq_true rfl) (Nat.le_of_ble_eq_true rfl) hlocks (xq_end hP hD hS) hS.2.2 (Nat.le_of_ble_eq_true rfl) (Nat.le_of_ble_eq_true rfl)
set_option maxHeartbeats 600000 in
set_option maxRecDepth 100000 in
theorem t_checkExpN (l : Launch) (D : va_G) (k : Nat → ClassId) (tb : Nat → Nat) (hls : l.stackTraces = false) (sz : Nat) (bx rt rs ro ri ra ma : Nat) (kd j nh : Nat) (hkd : kd < 3) (hnh : nh ≤ 64) (fr : Nat → Option Nat) (h a1 a2 a3 fl : Nat) (tot : Int64) (bc : Int32) (hfr : fr kd = some h) (x : Int32) (hq : ¬ x < nI 1 → x ≤ nI (255 * nh) → False) : vx_Met l yBx_checkExpandedLength wBx_checkExpandedLength ({ frames := 6, cells := 1, slots := 6, locals := 90 }) (cP D k tb [(bx, .inr (4, [.ref rt, .ref rs, .ref ro, .ref ri, .ref ra, .ref ma])), (ra, .inl (k 3, 3, .inr (.inr (.inr (.inr fr))))), (h, .inr (1, [.ref a1, .ref a2, .int (nI nh), .ref (tb j), .int (nI 4), .int (nI fl), .long tot, .int bc, .ref a3]))] sz [.ref bx, .int (nI kd), .int x]) vxF (xX D "java/lang/IllegalArgumentException" [(bx, .inr (4, [.ref rt, .ref rs, .ref ro, .ref ri, .ref ra, .ref ma])), (ra, .inl (k 3, 3, .inr (.inr (.inr (.inr fr))))), (h, .inr (1, [.ref a1, .ref a2, .int (nI nh), .ref (tb j), .int (nI 4), .int (nI fl), .long tot, .int bc, .ref a3]))] (va_A [(bx, .inr (4, [.ref rt, .ref rs, .ref ro, .ref ri, .ref ra, .ref ma])), (ra, .inl (k 3, 3, .inr (.inr (.inr (.inr fr))))), (h, .inr (1, [.ref a1, .ref a2, .int (nI nh), .ref (tb j), .int (nI 4), .int (nI fl), .long tot, .int bc, .ref a3]))] sz)) 1 6 (va_A [(bx, .inr (4, [.ref rt, .ref rs, .ref ro, .ref ri, .ref ra, .ref ma])), (ra, .inl (k 3, 3, .inr (.inr (.inr (.inr fr))))), (h, .inr (1, [.ref a1, .ref a2, .int (nI nh), .ref (tb j), .int (nI 4), .int (nI fl), .long tot, .int bc, .ref a3]))] sz) := by
  refine vx_ofW (cc := cBx_checkExpandedLength) (maxL := 3) (ret := none) (by decide) rfl ?_
  intro p e s m args below meth c s₁ B hml htab hv
  obtain ⟨rfl, hsz, hP, hK, hD0, hG⟩ := hv
  have hx := B.exec
  have hb := B.bytes
  have hts : ∀ w ∈ GT, w.before _ s = true := fun w h => atoms_spec (ws := wBx_checkExpandedLength) B.pre w (List.mem_cons_of_mem _ h)
  have hown : s.vm.findClass R_Bx = some m.cls := findClass_of_methodNamed B.named
  have hlocks := B.notSynchronized
  subst hsz
  have hD := hD0.self (sz := s.heap.size)
  generalize hAe : va_A [(bx, .inr (4, [.ref rt, .ref rs, .ref ro, .ref ri, .ref ra, .ref ma])), (ra, .inl (k 3, 3, .inr (.inr (.inr (.inr fr))))), (h, .inr (1, [.ref a1, .ref a2, .int (nI nh), .ref (tb j), .int (nI 4), .int (nI fl), .long tot, .int bc, .ref a3]))] s.heap.size = A at hD hG ⊢
  have hA : ∀ q : Nat, s.heap.size ≤ q → A q := fun q h => by rw [← hAe]; exact Or.inr h
  have hl := lv_entry ([.ref bx, .int (nI kd), .int x]) (n := 3) (Nat.le_of_ble_eq_true rfl)
  rw [lg_entry_eq]
  generalize (lg_sl ([.ref bx, .int (nI kd), .int x]) ++ List.replicate (3 - (lg_sl ([.ref bx, .int (nI kd), .int x])).length) Slot.unset).toArray = ls at hl ⊢
  have hl : lv_has ls 3 [(0, .ref bx), (1, .int (nI kd)), (2, .int x)] := hl
  refine cw_start (A := A) hP (fun H locs hP hS => ?_)
  refine lv_iload_n hx hb dBx_checkExpandedLength_0 rfl (lv_at hl 2 rfl) ?_
  refine lv_iconst (v := nI 1) hx hb dBx_checkExpandedLength_1 (by decide) ?_
  refine lv_icmp_lt (tgt := 22) hx hb dBx_checkExpandedLength_2 (by decide) (fun c_2 => ?_) (fun c_2 => ?_)
  · skip
    have hP := hP.sub (ws' := [(bx, .inr (4, [.ref rt, .ref rs, .ref ro, .ref ri, .ref ra, .ref ma])), (ra, .inl (k 3, 3, .inr (.inr (.inr (.inr fr))))), (h, .inr (1, [.ref a1, .ref a2, .int (nI nh), .ref (tb j), .int (nI 4), .int (nI fl), .long tot, .int bc, .ref a3]))]) [0, 1, 2] rfl
    have hD := hD.sub (ws' := [(bx, .inr (4, [.ref rt, .ref rs, .ref ro, .ref ri, .ref ra, .ref ma])), (ra, .inl (k 3, 3, .inr (.inr (.inr (.inr fr))))), (h, .inr (1, [.ref a1, .ref a2, .int (nI nh), .ref (tb j), .int (nI 4), .int (nI fl), .long tot, .int bc, .ref a3]))]) [0, 1, 2] (by decide) rfl
    exact vx_throw0 (own := R_Bx) (cls := "java/lang/IllegalArgumentException") (names := xNm) hx hb hls hown (by decide +kernel) (by decide +kernel) (hts _ gm_284) (hts _ gm_64) (xa_IAE hts hG.1) xg_IAE hG.2.1.2.2.2.2.2.2.1 hG.2.1.2.2.2.2.2.2.2 hS (hl.1.trans hml.symm) dBx_checkExpandedLength_22 dBx_checkExpandedLength_25 dBx_checkExpandedLength_26 dBx_checkExpandedLength_29 (fun x h => (htab x h).elim) (Nat.le_of_ble_eq_true rfl) (Nat.le_of_ble_eq_true rfl) (Nat.le_of_ble_eq_true rfl) (Nat.le_of_ble_eq_true rfl) hlocks (xq_end hP hD hS) hS.2.2 (Nat.le_of_ble_eq_true rfl) (Nat.le_of_ble_eq_true rfl)
  · skip
    refine lv_iload_n hx hb dBx_checkExpandedLength_5 rfl (lv_at hl 2 rfl) ?_
    refine lv_sipush (v := nI 255) hx hb dBx_checkExpandedLength_6 (by decide) ?_
    refine lv_aload_n hx hb dBx_checkExpandedLength_9 rfl (lv_at hl 0 rfl) ?_
    refine va_get (D := D) (ci := 4) (v := .ref ra) (C := R_Bx) (T := T_Bx) (N := 6) hx hb hts in_Bx hown hK hP 0 rfl rfl 4 (by decide) (hts _ gm_171) (fun _ h9 => h9) rfl dBx_checkExpandedLength_10 ?_
    refine lv_iload_n hx hb dBx_checkExpandedLength_13 rfl (lv_at hl 1 rfl) ?_
    refine rq_ld hx hb hK hP 1 3 rfl rfl (by omega) (by decide) hfr dBx_checkExpandedLength_14 ?_
    refine va_get (D := D) (ci := 1) (v := .int (nI nh)) (C := R_Ns) (T := T_Ns) (N := 9) hx hb hts in_Ns hown hK hP 2 rfl rfl 2 (by decide) (hts _ gm_114) (fun _ h9 => h9) rfl dBx_checkExpandedLength_15 ?_
    refine ri_mul hx hb dBx_checkExpandedLength_18 ?_
    refine lv_icmp_le (tgt := 30) hx hb dBx_checkExpandedLength_19 (by decide) (fun c_19 => ?_) (fun c_19 => ?_)
    · skip
      exact (hq c_2 c_19).elim
    · skip
      have hP := hP.sub (ws' := [(bx, .inr (4, [.ref rt, .ref rs, .ref ro, .ref ri, .ref ra, .ref ma])), (ra, .inl (k 3, 3, .inr (.inr (.inr (.inr fr))))), (h, .inr (1, [.ref a1, .ref a2, .int (nI nh), .ref (tb j), .int (nI 4), .int (nI fl), .long tot, .int bc, .ref a3]))]) [0, 1, 2] rfl
      have hD := hD.sub (ws' := [(bx, .inr (4, [.ref rt, .ref rs, .ref ro, .ref ri, .ref ra, .ref ma])), (ra, .inl (k 3, 3, .inr (.inr (.inr (.inr fr))))), (h, .inr (1, [.ref a1, .ref a2, .int (nI nh), .ref (tb j), .int (nI 4), .int (nI fl), .long tot, .int bc, .ref a3]))]) [0, 1, 2] (by decide) rfl
      exact vx_throw0 (own := R_Bx) (cls := "java/lang/IllegalArgumentException") (names := xNm) hx hb hls hown (by decide +kernel) (by decide +kernel) (hts _ gm_284) (hts _ gm_64) (xa_IAE hts hG.1) xg_IAE hG.2.1.2.2.2.2.2.2.1 hG.2.1.2.2.2.2.2.2.2 hS (hl.1.trans hml.symm) dBx_checkExpandedLength_22 dBx_checkExpandedLength_25 dBx_checkExpandedLength_26 dBx_checkExpandedLength_29 (fun x h => (htab x h).elim) (Nat.le_of_ble_eq_true rfl) (Nat.le_of_ble_eq_true rfl) (Nat.le_of_ble_eq_true rfl) (Nat.le_of_ble_eq_true rfl) hlocks (xq_end hP hD hS) hS.2.2 (Nat.le_of_ble_eq_true rfl) (Nat.le_of_ble_eq_true rfl)
set_option maxHeartbeats 600000 in
set_option maxRecDepth 100000 in
theorem t_expandN1 (l : Launch) (D : va_G) (k : Nat → ClassId) (tb : Nat → Nat) (hls : l.stackTraces = false) (sz : Nat) (bx rt rs ro ri ra ma : Nat) (kd j nh : Nat) (hkd : kd < 3) (hnh : nh ≤ 64) (fr : Nat → Option Nat) (h a1 a2 a3 fl : Nat) (tot : Int64) (bc : Int32) (hfr : fr kd = some h) (x : Int32) (hq : ¬ x < nI 1 → x ≤ nI (255 * nh) → False) : vx_Met l yBx_expand wBx_expand ({ frames := 7, cells := 1, slots := 6, locals := 112 }) (cP D k tb [(bx, .inr (4, [.ref rt, .ref rs, .ref ro, .ref ri, .ref ra, .ref ma])), (ra, .inl (k 3, 3, .inr (.inr (.inr (.inr fr))))), (h, .inr (1, [.ref a1, .ref a2, .int (nI nh), .ref (tb j), .int (nI 4), .int (nI fl), .long tot, .int bc, .ref a3]))] sz [.ref bx, .int (nI kd), .int x]) vxF (xX D "java/lang/IllegalArgumentException" [(bx, .inr (4, [.ref rt, .ref rs, .ref ro, .ref ri, .ref ra, .ref ma])), (ra, .inl (k 3, 3, .inr (.inr (.inr (.inr fr))))), (h, .inr (1, [.ref a1, .ref a2, .int (nI nh), .ref (tb j), .int (nI 4), .int (nI fl), .long tot, .int bc, .ref a3]))] (va_A [(bx, .inr (4, [.ref rt, .ref rs, .ref ro, .ref ri, .ref ra, .ref ma])), (ra, .inl (k 3, 3, .inr (.inr (.inr (.inr fr))))), (h, .inr (1, [.ref a1, .ref a2, .int (nI nh), .ref (tb j), .int (nI 4), .int (nI fl), .long tot, .int bc, .ref a3]))] sz)) 1 6 (va_A [(bx, .inr (4, [.ref rt, .ref rs, .ref ro, .ref ri, .ref ra, .ref ma])), (ra, .inl (k 3, 3, .inr (.inr (.inr (.inr fr))))), (h, .inr (1, [.ref a1, .ref a2, .int (nI nh), .ref (tb j), .int (nI 4), .int (nI fl), .long tot, .int bc, .ref a3]))] sz) := by
  refine vx_ofW (cc := cBx_expand) (maxL := 3) (ret := (some .int)) (by decide) rfl ?_
  intro p e s m args below meth c s₁ B hml htab hv
  obtain ⟨rfl, hsz, hP, hK, hD0, hG⟩ := hv
  have hx := B.exec
  have hb := B.bytes
  have hts : ∀ w ∈ GT, w.before _ s = true := fun w h => atoms_spec (ws := wBx_expand) B.pre w (List.mem_cons_of_mem _ h)
  have hown : s.vm.findClass R_Bx = some m.cls := findClass_of_methodNamed B.named
  have hlocks := B.notSynchronized
  subst hsz
  have hD := hD0.self (sz := s.heap.size)
  generalize hAe : va_A [(bx, .inr (4, [.ref rt, .ref rs, .ref ro, .ref ri, .ref ra, .ref ma])), (ra, .inl (k 3, 3, .inr (.inr (.inr (.inr fr))))), (h, .inr (1, [.ref a1, .ref a2, .int (nI nh), .ref (tb j), .int (nI 4), .int (nI fl), .long tot, .int bc, .ref a3]))] s.heap.size = A at hD hG ⊢
  have hA : ∀ q : Nat, s.heap.size ≤ q → A q := fun q h => by rw [← hAe]; exact Or.inr h
  have hl := lv_entry ([.ref bx, .int (nI kd), .int x]) (n := 3) (Nat.le_of_ble_eq_true rfl)
  rw [lg_entry_eq]
  generalize (lg_sl ([.ref bx, .int (nI kd), .int x]) ++ List.replicate (3 - (lg_sl ([.ref bx, .int (nI kd), .int x])).length) Slot.unset).toArray = ls at hl ⊢
  have hl : lv_has ls 3 [(0, .ref bx), (1, .int (nI kd)), (2, .int x)] := hl
  refine cw_start (A := A) hP (fun H locs hP hS => ?_)
  refine lv_iload_n hx hb dBx_expand_0 rfl (lv_at hl 1 rfl) ?_
  refine rc_v (wr := [(bx, .inr (4, [.ref rt, .ref rs, .ref ro, .ref ri, .ref ra, .ref ma])), (ra, .inl (k 3, 3, .inr (.inr (.inr (.inr fr))))), (h, .inr (1, [.ref a1, .ref a2, .int (nI nh), .ref (tb j), .int (nI 4), .int (nI fl), .long tot, .int bc, .ref a3]))]) (va_runS (As := [.int (nI kd)]) (rest := []) ⟨hx, hb, hml, hown, hts⟩ (c_checkKind l D k tb H.size kd hkd) (va_cwS 1 hts (gS gm_305 gm_306 gm_50 gm_307) rfl rfl rfl (by decide +kernel) ⟨Nat.le_of_ble_eq_true rfl, Nat.le_of_ble_eq_true rfl⟩) (cP_S hP hD hK hG hS hA [] (by decide) rfl) rfl rfl hl.1 rfl (lv_room (Nat.le_of_ble_eq_true rfl)) dBx_expand_1 ⟨Nat.le_of_ble_eq_true rfl, Nat.le_of_ble_eq_true rfl⟩) hS hA hP hD [] [0, 1, 2] rfl rfl (by decide) (by decide) (fun u H locs hw hP hD hS => ?_)
  have hP : va_P D vwCl [(bx, .inr (4, [.ref rt, .ref rs, .ref ro, .ref ri, .ref ra, .ref ma])), (ra, .inl (k 3, 3, .inr (.inr (.inr (.inr fr))))), (h, .inr (1, [.ref a1, .ref a2, .int (nI nh), .ref (tb j), .int (nI 4), .int (nI fl), .long tot, .int bc, .ref a3]))] H := hP
  have hD : va_D A [(bx, .inr (4, [.ref rt, .ref rs, .ref ro, .ref ri, .ref ra, .ref ma])), (ra, .inl (k 3, 3, .inr (.inr (.inr (.inr fr))))), (h, .inr (1, [.ref a1, .ref a2, .int (nI nh), .ref (tb j), .int (nI 4), .int (nI fl), .long tot, .int bc, .ref a3]))] := hD
  refine lv_aload_n hx hb dBx_expand_4 rfl (lv_at hl 0 rfl) ?_
  refine lv_iload_n hx hb dBx_expand_5 rfl (lv_at hl 1 rfl) ?_
  refine lv_iload_n hx hb dBx_expand_6 rfl (lv_at hl 2 rfl) ?_
  refine rx_c (wr := []) (vx_runV (As := [.int (nI kd), .int x]) (rest := []) ⟨hx, hb, hml, hown, hts⟩ (t_checkExpN l D k tb hls H.size bx rt rs ro ri ra ma kd j nh hkd hnh fr h a1 a2 a3 fl tot bc hfr x hq) (cwV 2 hts (gV gm_462 gm_463 gm_32 gm_50 gm_464) rfl rfl rfl (by decide +kernel) ⟨Nat.le_of_ble_eq_true rfl, Nat.le_of_ble_eq_true rfl⟩) (cP_V hP hD hK hG hS hA [0, 1, 2] (by decide) rfl (ci := 4) (q0 := 0) rfl rfl) rfl rfl hl.1 rfl (lv_room (Nat.le_of_ble_eq_true rfl)) dBx_expand_7 ⟨Nat.le_of_ble_eq_true rfl, Nat.le_of_ble_eq_true rfl⟩) hS hA hP hD [0, 1, 2] [] rfl rfl (by decide) (by decide) (fun ce q9 H locs hP hD hS hce hcv hcl => ?_)
  have hP : va_P D vwCl [(bx, .inr (4, [.ref rt, .ref rs, .ref ro, .ref ri, .ref ra, .ref ma])), (ra, .inl (k 3, 3, .inr (.inr (.inr (.inr fr))))), (h, .inr (1, [.ref a1, .ref a2, .int (nI nh), .ref (tb j), .int (nI 4), .int (nI fl), .long tot, .int bc, .ref a3]))] H := hP
  have hD : va_D A [(bx, .inr (4, [.ref rt, .ref rs, .ref ro, .ref ri, .ref ra, .ref ma])), (ra, .inl (k 3, 3, .inr (.inr (.inr (.inr fr))))), (h, .inr (1, [.ref a1, .ref a2, .int (nI nh), .ref (tb j), .int (nI 4), .int (nI fl), .long tot, .int bc, .ref a3]))] := hD
  have hP := hP.sub (ws' := [(bx, .inr (4, [.ref rt, .ref rs, .ref ro, .ref ri, .ref ra, .ref ma])), (ra, .inl (k 3, 3, .inr (.inr (.inr (.inr fr))))), (h, .inr (1, [.ref a1, .ref a2, .int (nI nh), .ref (tb j), .int (nI 4), .int (nI fl), .long tot, .int bc, .ref a3]))]) [0, 1, 2] rfl
  have hD := hD.sub (ws' := [(bx, .inr (4, [.ref rt, .ref rs, .ref ro, .ref ri, .ref ra, .ref ma])), (ra, .inl (k 3, 3, .inr (.inr (.inr (.inr fr))))), (h, .inr (1, [.ref a1, .ref a2, .int (nI nh), .ref (tb j), .int (nI 4), .int (nI fl), .long tot, .int bc, .ref a3]))]) [0, 1, 2] (by decide) rfl
  exact vx_out (fun x h => (htab x h).elim) hlocks hce hcv hcl (xq_out hP hD hS) hS.2.2 (Nat.le_of_ble_eq_true rfl) (Nat.le_of_ble_eq_true rfl)
set_option maxHeartbeats 600000 in
set_option maxRecDepth 100000 in
theorem t_expandLabelN1 (l : Launch) (D : va_G) (k : Nat → ClassId) (tb : Nat → Nat) (hls : l.stackTraces = false) (sz : Nat) (bx rt rs ro ri ra ma : Nat) (kd j nh : Nat) (hkd : kd < 3) (hnh : nh ≤ 64) (fr : Nat → Option Nat) (h a1 a2 a3 fl : Nat) (tot : Int64) (bc : Int32) (hfr : fr kd = some h) (x : Int32) (hq : ¬ x < nI 1 → x ≤ nI (255 * nh) → False) (x1 : Int32) : vx_Met l yBx_expandLabel wBx_expandLabel ({ frames := 7, cells := 1, slots := 6, locals := 112 }) (cP D k tb [(bx, .inr (4, [.ref rt, .ref rs, .ref ro, .ref ri, .ref ra, .ref ma])), (ra, .inl (k 3, 3, .inr (.inr (.inr (.inr fr))))), (h, .inr (1, [.ref a1, .ref a2, .int (nI nh), .ref (tb j), .int (nI 4), .int (nI fl), .long tot, .int bc, .ref a3]))] sz [.ref bx, .int (nI kd), .int x, .int x1]) vxF (xX D "java/lang/IllegalArgumentException" [(bx, .inr (4, [.ref rt, .ref rs, .ref ro, .ref ri, .ref ra, .ref ma])), (ra, .inl (k 3, 3, .inr (.inr (.inr (.inr fr))))), (h, .inr (1, [.ref a1, .ref a2, .int (nI nh), .ref (tb j), .int (nI 4), .int (nI fl), .long tot, .int bc, .ref a3]))] (va_A [(bx, .inr (4, [.ref rt, .ref rs, .ref ro, .ref ri, .ref ra, .ref ma])), (ra, .inl (k 3, 3, .inr (.inr (.inr (.inr fr))))), (h, .inr (1, [.ref a1, .ref a2, .int (nI nh), .ref (tb j), .int (nI 4), .int (nI fl), .long tot, .int bc, .ref a3]))] sz)) 1 6 (va_A [(bx, .inr (4, [.ref rt, .ref rs, .ref ro, .ref ri, .ref ra, .ref ma])), (ra, .inl (k 3, 3, .inr (.inr (.inr (.inr fr))))), (h, .inr (1, [.ref a1, .ref a2, .int (nI nh), .ref (tb j), .int (nI 4), .int (nI fl), .long tot, .int bc, .ref a3]))] sz) := by
  refine vx_ofW (cc := cBx_expandLabel) (maxL := 4) (ret := (some .int)) (by decide) rfl ?_
  intro p e s m args below meth c s₁ B hml htab hv
  obtain ⟨rfl, hsz, hP, hK, hD0, hG⟩ := hv
  have hx := B.exec
  have hb := B.bytes
  have hts : ∀ w ∈ GT, w.before _ s = true := fun w h => atoms_spec (ws := wBx_expandLabel) B.pre w (List.mem_cons_of_mem _ h)
  have hown : s.vm.findClass R_Bx = some m.cls := findClass_of_methodNamed B.named
  have hlocks := B.notSynchronized
  subst hsz
  have hD := hD0.self (sz := s.heap.size)
  generalize hAe : va_A [(bx, .inr (4, [.ref rt, .ref rs, .ref ro, .ref ri, .ref ra, .ref ma])), (ra, .inl (k 3, 3, .inr (.inr (.inr (.inr fr))))), (h, .inr (1, [.ref a1, .ref a2, .int (nI nh), .ref (tb j), .int (nI 4), .int (nI fl), .long tot, .int bc, .ref a3]))] s.heap.size = A at hD hG ⊢
  have hA : ∀ q : Nat, s.heap.size ≤ q → A q := fun q h => by rw [← hAe]; exact Or.inr h
  have hl := lv_entry ([.ref bx, .int (nI kd), .int x, .int x1]) (n := 4) (Nat.le_of_ble_eq_true rfl)
  rw [lg_entry_eq]
  generalize (lg_sl ([.ref bx, .int (nI kd), .int x, .int x1]) ++ List.replicate (4 - (lg_sl ([.ref bx, .int (nI kd), .int x, .int x1])).length) Slot.unset).toArray = ls at hl ⊢
  have hl : lv_has ls 4 [(0, .ref bx), (1, .int (nI kd)), (2, .int x), (3, .int x1)] := hl
  refine cw_start (A := A) hP (fun H locs hP hS => ?_)
  refine lv_iload_n hx hb dBx_expandLabel_0 rfl (lv_at hl 1 rfl) ?_
  refine rc_v (wr := [(bx, .inr (4, [.ref rt, .ref rs, .ref ro, .ref ri, .ref ra, .ref ma])), (ra, .inl (k 3, 3, .inr (.inr (.inr (.inr fr))))), (h, .inr (1, [.ref a1, .ref a2, .int (nI nh), .ref (tb j), .int (nI 4), .int (nI fl), .long tot, .int bc, .ref a3]))]) (va_runS (As := [.int (nI kd)]) (rest := []) ⟨hx, hb, hml, hown, hts⟩ (c_checkKind l D k tb H.size kd hkd) (va_cwS 1 hts (gS gm_305 gm_306 gm_50 gm_307) rfl rfl rfl (by decide +kernel) ⟨Nat.le_of_ble_eq_true rfl, Nat.le_of_ble_eq_true rfl⟩) (cP_S hP hD hK hG hS hA [] (by decide) rfl) rfl rfl hl.1 rfl (lv_room (Nat.le_of_ble_eq_true rfl)) dBx_expandLabel_1 ⟨Nat.le_of_ble_eq_true rfl, Nat.le_of_ble_eq_true rfl⟩) hS hA hP hD [] [0, 1, 2] rfl rfl (by decide) (by decide) (fun u H locs hw hP hD hS => ?_)
  have hP : va_P D vwCl [(bx, .inr (4, [.ref rt, .ref rs, .ref ro, .ref ri, .ref ra, .ref ma])), (ra, .inl (k 3, 3, .inr (.inr (.inr (.inr fr))))), (h, .inr (1, [.ref a1, .ref a2, .int (nI nh), .ref (tb j), .int (nI 4), .int (nI fl), .long tot, .int bc, .ref a3]))] H := hP
  have hD : va_D A [(bx, .inr (4, [.ref rt, .ref rs, .ref ro, .ref ri, .ref ra, .ref ma])), (ra, .inl (k 3, 3, .inr (.inr (.inr (.inr fr))))), (h, .inr (1, [.ref a1, .ref a2, .int (nI nh), .ref (tb j), .int (nI 4), .int (nI fl), .long tot, .int bc, .ref a3]))] := hD
  refine lv_aload_n hx hb dBx_expandLabel_4 rfl (lv_at hl 0 rfl) ?_
  refine lv_iload_n hx hb dBx_expandLabel_5 rfl (lv_at hl 1 rfl) ?_
  refine lv_iload_n hx hb dBx_expandLabel_6 rfl (lv_at hl 2 rfl) ?_
  refine rx_c (wr := []) (vx_runV (As := [.int (nI kd), .int x]) (rest := []) ⟨hx, hb, hml, hown, hts⟩ (t_checkExpN l D k tb hls H.size bx rt rs ro ri ra ma kd j nh hkd hnh fr h a1 a2 a3 fl tot bc hfr x hq) (cwV 2 hts (gV gm_462 gm_463 gm_32 gm_50 gm_464) rfl rfl rfl (by decide +kernel) ⟨Nat.le_of_ble_eq_true rfl, Nat.le_of_ble_eq_true rfl⟩) (cP_V hP hD hK hG hS hA [0, 1, 2] (by decide) rfl (ci := 4) (q0 := 0) rfl rfl) rfl rfl hl.1 rfl (lv_room (Nat.le_of_ble_eq_true rfl)) dBx_expandLabel_7 ⟨Nat.le_of_ble_eq_true rfl, Nat.le_of_ble_eq_true rfl⟩) hS hA hP hD [0, 1, 2] [] rfl rfl (by decide) (by decide) (fun ce q9 H locs hP hD hS hce hcv hcl => ?_)
  have hP : va_P D vwCl [(bx, .inr (4, [.ref rt, .ref rs, .ref ro, .ref ri, .ref ra, .ref ma])), (ra, .inl (k 3, 3, .inr (.inr (.inr (.inr fr))))), (h, .inr (1, [.ref a1, .ref a2, .int (nI nh), .ref (tb j), .int (nI 4), .int (nI fl), .long tot, .int bc, .ref a3]))] H := hP
  have hD : va_D A [(bx, .inr (4, [.ref rt, .ref rs, .ref ro, .ref ri, .ref ra, .ref ma])), (ra, .inl (k 3, 3, .inr (.inr (.inr (.inr fr))))), (h, .inr (1, [.ref a1, .ref a2, .int (nI nh), .ref (tb j), .int (nI 4), .int (nI fl), .long tot, .int bc, .ref a3]))] := hD
  have hP := hP.sub (ws' := [(bx, .inr (4, [.ref rt, .ref rs, .ref ro, .ref ri, .ref ra, .ref ma])), (ra, .inl (k 3, 3, .inr (.inr (.inr (.inr fr))))), (h, .inr (1, [.ref a1, .ref a2, .int (nI nh), .ref (tb j), .int (nI 4), .int (nI fl), .long tot, .int bc, .ref a3]))]) [0, 1, 2] rfl
  have hD := hD.sub (ws' := [(bx, .inr (4, [.ref rt, .ref rs, .ref ro, .ref ri, .ref ra, .ref ma])), (ra, .inl (k 3, 3, .inr (.inr (.inr (.inr fr))))), (h, .inr (1, [.ref a1, .ref a2, .int (nI nh), .ref (tb j), .int (nI 4), .int (nI fl), .long tot, .int bc, .ref a3]))]) [0, 1, 2] (by decide) rfl
  exact vx_out (fun x h => (htab x h).elim) hlocks hce hcv hcl (xq_out hP hD hS) hS.2.2 (Nat.le_of_ble_eq_true rfl) (Nat.le_of_ble_eq_true rfl)
set_option maxHeartbeats 600000 in
set_option maxRecDepth 100000 in
theorem t_expandLabelN2 (l : Launch) (D : va_G) (k : Nat → ClassId) (tb : Nat → Nat) (hls : l.stackTraces = false) (sz : Nat) (bx rt rs ro ri ra ma : Nat) (kd j nh : Nat) (hkd : kd < 3) (hnh : nh ≤ 64) (fr : Nat → Option Nat) (h a1 a2 a3 fl : Nat) (tot : Int64) (bc : Int32) (hfr : fr kd = some h) (n bt nt : Nat) (hn : 1 ≤ n) (hn2 : n ≤ 255 * nh) (x1 : Int32) (hq : ¬ x1 < nI 1 → ¬ nI 249 < x1 → ¬ nI nt < x1 → nI nt - x1 ≤ nI 255 → False) : vx_Met l yBx_expandLabel wBx_expandLabel ({ frames := 7, cells := 1, slots := 6, locals := 111 }) (cP D k tb [(bx, .inr (4, [.ref rt, .ref rs, .ref ro, .ref ri, .ref ra, .ref ma])), (ra, .inl (k 3, 3, .inr (.inr (.inr (.inr fr))))), (h, .inr (1, [.ref a1, .ref a2, .int (nI nh), .ref (tb j), .int (nI 4), .int (nI fl), .long tot, .int bc, .ref a3])), (rt, .inr (2, [.ref bt, .int (nI nt)]))] sz [.ref bx, .int (nI kd), .int (nI n), .int x1]) vxF (xX D "java/lang/IllegalArgumentException" [(bx, .inr (4, [.ref rt, .ref rs, .ref ro, .ref ri, .ref ra, .ref ma])), (ra, .inl (k 3, 3, .inr (.inr (.inr (.inr fr))))), (h, .inr (1, [.ref a1, .ref a2, .int (nI nh), .ref (tb j), .int (nI 4), .int (nI fl), .long tot, .int bc, .ref a3])), (rt, .inr (2, [.ref bt, .int (nI nt)]))] (va_A [(bx, .inr (4, [.ref rt, .ref rs, .ref ro, .ref ri, .ref ra, .ref ma])), (ra, .inl (k 3, 3, .inr (.inr (.inr (.inr fr))))), (h, .inr (1, [.ref a1, .ref a2, .int (nI nh), .ref (tb j), .int (nI 4), .int (nI fl), .long tot, .int bc, .ref a3])), (rt, .inr (2, [.ref bt, .int (nI nt)]))] sz)) 1 6 (va_A [(bx, .inr (4, [.ref rt, .ref rs, .ref ro, .ref ri, .ref ra, .ref ma])), (ra, .inl (k 3, 3, .inr (.inr (.inr (.inr fr))))), (h, .inr (1, [.ref a1, .ref a2, .int (nI nh), .ref (tb j), .int (nI 4), .int (nI fl), .long tot, .int bc, .ref a3])), (rt, .inr (2, [.ref bt, .int (nI nt)]))] sz) := by
  refine vx_ofW (cc := cBx_expandLabel) (maxL := 4) (ret := (some .int)) (by decide) rfl ?_
  intro p e s m args below meth c s₁ B hml htab hv
  obtain ⟨rfl, hsz, hP, hK, hD0, hG⟩ := hv
  have hx := B.exec
  have hb := B.bytes
  have hts : ∀ w ∈ GT, w.before _ s = true := fun w h => atoms_spec (ws := wBx_expandLabel) B.pre w (List.mem_cons_of_mem _ h)
  have hown : s.vm.findClass R_Bx = some m.cls := findClass_of_methodNamed B.named
  have hlocks := B.notSynchronized
  subst hsz
  have hD := hD0.self (sz := s.heap.size)
  generalize hAe : va_A [(bx, .inr (4, [.ref rt, .ref rs, .ref ro, .ref ri, .ref ra, .ref ma])), (ra, .inl (k 3, 3, .inr (.inr (.inr (.inr fr))))), (h, .inr (1, [.ref a1, .ref a2, .int (nI nh), .ref (tb j), .int (nI 4), .int (nI fl), .long tot, .int bc, .ref a3])), (rt, .inr (2, [.ref bt, .int (nI nt)]))] s.heap.size = A at hD hG ⊢
  have hA : ∀ q : Nat, s.heap.size ≤ q → A q := fun q h => by rw [← hAe]; exact Or.inr h
  have hl := lv_entry ([.ref bx, .int (nI kd), .int (nI n), .int x1]) (n := 4) (Nat.le_of_ble_eq_true rfl)
  rw [lg_entry_eq]
  generalize (lg_sl ([.ref bx, .int (nI kd), .int (nI n), .int x1]) ++ List.replicate (4 - (lg_sl ([.ref bx, .int (nI kd), .int (nI n), .int x1])).length) Slot.unset).toArray = ls at hl ⊢
  have hl : lv_has ls 4 [(0, .ref bx), (1, .int (nI kd)), (2, .int (nI n)), (3, .int x1)] := hl
  refine cw_start (A := A) hP (fun H locs hP hS => ?_)
  refine lv_iload_n hx hb dBx_expandLabel_0 rfl (lv_at hl 1 rfl) ?_
  refine rc_v (wr := [(bx, .inr (4, [.ref rt, .ref rs, .ref ro, .ref ri, .ref ra, .ref ma])), (ra, .inl (k 3, 3, .inr (.inr (.inr (.inr fr))))), (h, .inr (1, [.ref a1, .ref a2, .int (nI nh), .ref (tb j), .int (nI 4), .int (nI fl), .long tot, .int bc, .ref a3])), (rt, .inr (2, [.ref bt, .int (nI nt)]))]) (va_runS (As := [.int (nI kd)]) (rest := []) ⟨hx, hb, hml, hown, hts⟩ (c_checkKind l D k tb H.size kd hkd) (va_cwS 1 hts (gS gm_305 gm_306 gm_50 gm_307) rfl rfl rfl (by decide +kernel) ⟨Nat.le_of_ble_eq_true rfl, Nat.le_of_ble_eq_true rfl⟩) (cP_S hP hD hK hG hS hA [] (by decide) rfl) rfl rfl hl.1 rfl (lv_room (Nat.le_of_ble_eq_true rfl)) dBx_expandLabel_1 ⟨Nat.le_of_ble_eq_true rfl, Nat.le_of_ble_eq_true rfl⟩) hS hA hP hD [] [0, 1, 2, 3] rfl rfl (by decide) (by decide) (fun u H locs hw hP hD hS => ?_)
  have hP : va_P D vwCl [(bx, .inr (4, [.ref rt, .ref rs, .ref ro, .ref ri, .ref ra, .ref ma])), (ra, .inl (k 3, 3, .inr (.inr (.inr (.inr fr))))), (h, .inr (1, [.ref a1, .ref a2, .int (nI nh), .ref (tb j), .int (nI 4), .int (nI fl), .long tot, .int bc, .ref a3])), (rt, .inr (2, [.ref bt, .int (nI nt)]))] H := hP
  have hD : va_D A [(bx, .inr (4, [.ref rt, .ref rs, .ref ro, .ref ri, .ref ra, .ref ma])), (ra, .inl (k 3, 3, .inr (.inr (.inr (.inr fr))))), (h, .inr (1, [.ref a1, .ref a2, .int (nI nh), .ref (tb j), .int (nI 4), .int (nI fl), .long tot, .int bc, .ref a3])), (rt, .inr (2, [.ref bt, .int (nI nt)]))] := hD
  refine lv_aload_n hx hb dBx_expandLabel_4 rfl (lv_at hl 0 rfl) ?_
  refine lv_iload_n hx hb dBx_expandLabel_5 rfl (lv_at hl 1 rfl) ?_
  refine lv_iload_n hx hb dBx_expandLabel_6 rfl (lv_at hl 2 rfl) ?_
  refine rc_v (wr := [(rt, .inr (2, [.ref bt, .int (nI nt)]))]) (va_runV (As := [.int (nI kd), .int (nI n)]) (rest := []) ⟨hx, hb, hml, hown, hts⟩ (c_checkExpN l D k tb H.size bx rt rs ro ri ra ma kd j nh n hkd hnh fr h a1 a2 a3 fl tot bc hfr hn hn2) (cwV 2 hts (gV gm_462 gm_463 gm_32 gm_50 gm_464) rfl rfl rfl (by decide +kernel) ⟨Nat.le_of_ble_eq_true rfl, Nat.le_of_ble_eq_true rfl⟩) (cP_V hP hD hK hG hS hA [0, 1, 2] (by decide) rfl (ci := 4) (q0 := 0) rfl rfl) rfl rfl hl.1 rfl (lv_room (Nat.le_of_ble_eq_true rfl)) dBx_expandLabel_7 ⟨Nat.le_of_ble_eq_true rfl, Nat.le_of_ble_eq_true rfl⟩) hS hA hP hD [0, 1, 2] [3] rfl rfl (by decide) (by decide) (fun u H locs hw hP hD hS => ?_)
  have hP : va_P D vwCl [(rt, .inr (2, [.ref bt, .int (nI nt)])), (bx, .inr (4, [.ref rt, .ref rs, .ref ro, .ref ri, .ref ra, .ref ma])), (ra, .inl (k 3, 3, .inr (.inr (.inr (.inr fr))))), (h, .inr (1, [.ref a1, .ref a2, .int (nI nh), .ref (tb j), .int (nI 4), .int (nI fl), .long tot, .int bc, .ref a3]))] H := hP
  have hD : va_D A [(rt, .inr (2, [.ref bt, .int (nI nt)])), (bx, .inr (4, [.ref rt, .ref rs, .ref ro, .ref ri, .ref ra, .ref ma])), (ra, .inl (k 3, 3, .inr (.inr (.inr (.inr fr))))), (h, .inr (1, [.ref a1, .ref a2, .int (nI nh), .ref (tb j), .int (nI 4), .int (nI fl), .long tot, .int bc, .ref a3]))] := hD
  refine lv_aload_n hx hb dBx_expandLabel_10 rfl (lv_at hl 0 rfl) ?_
  refine lv_iload_n hx hb dBx_expandLabel_11 rfl (lv_at hl 3 rfl) ?_
  refine rx_c (wr := [(ra, .inl (k 3, 3, .inr (.inr (.inr (.inr fr))))), (h, .inr (1, [.ref a1, .ref a2, .int (nI nh), .ref (tb j), .int (nI 4), .int (nI fl), .long tot, .int bc, .ref a3]))]) (vx_runV (As := [.int x1]) (rest := []) ⟨hx, hb, hml, hown, hts⟩ (t_checkLabel l D k tb hls H.size bx rt rs ro ri ra ma bt nt x1 hq) (cwV 1 hts (gV gm_475 gm_476 gm_34 gm_50 gm_477) rfl rfl rfl (by decide +kernel) ⟨Nat.le_of_ble_eq_true rfl, Nat.le_of_ble_eq_true rfl⟩) (cP_V hP hD hK hG hS hA [1, 0] (by decide) rfl (ci := 4) (q0 := 1) rfl rfl) rfl rfl hl.1 rfl (lv_room (Nat.le_of_ble_eq_true rfl)) dBx_expandLabel_12 ⟨Nat.le_of_ble_eq_true rfl, Nat.le_of_ble_eq_true rfl⟩) hS hA hP hD [1, 0] [2, 3] rfl rfl (by decide) (by decide) (fun ce q9 H locs hP hD hS hce hcv hcl => ?_)
  have hP : va_P D vwCl [(ra, .inl (k 3, 3, .inr (.inr (.inr (.inr fr))))), (h, .inr (1, [.ref a1, .ref a2, .int (nI nh), .ref (tb j), .int (nI 4), .int (nI fl), .long tot, .int bc, .ref a3])), (bx, .inr (4, [.ref rt, .ref rs, .ref ro, .ref ri, .ref ra, .ref ma])), (rt, .inr (2, [.ref bt, .int (nI nt)]))] H := hP
  have hD : va_D A [(ra, .inl (k 3, 3, .inr (.inr (.inr (.inr fr))))), (h, .inr (1, [.ref a1, .ref a2, .int (nI nh), .ref (tb j), .int (nI 4), .int (nI fl), .long tot, .int bc, .ref a3])), (bx, .inr (4, [.ref rt, .ref rs, .ref ro, .ref ri, .ref ra, .ref ma])), (rt, .inr (2, [.ref bt, .int (nI nt)]))] := hD
  have hP := hP.sub (ws' := [(bx, .inr (4, [.ref rt, .ref rs, .ref ro, .ref ri, .ref ra, .ref ma])), (ra, .inl (k 3, 3, .inr (.inr (.inr (.inr fr))))), (h, .inr (1, [.ref a1, .ref a2, .int (nI nh), .ref (tb j), .int (nI 4), .int (nI fl), .long tot, .int bc, .ref a3])), (rt, .inr (2, [.ref bt, .int (nI nt)]))]) [2, 0, 1, 3] rfl
  have hD := hD.sub (ws' := [(bx, .inr (4, [.ref rt, .ref rs, .ref ro, .ref ri, .ref ra, .ref ma])), (ra, .inl (k 3, 3, .inr (.inr (.inr (.inr fr))))), (h, .inr (1, [.ref a1, .ref a2, .int (nI nh), .ref (tb j), .int (nI 4), .int (nI fl), .long tot, .int bc, .ref a3])), (rt, .inr (2, [.ref bt, .int (nI nt)]))]) [2, 0, 1, 3] (by decide) rfl
  exact vx_out (fun x h => (htab x h).elim) hlocks hce hcv hcl (xq_out hP hD hS) hS.2.2 (Nat.le_of_ble_eq_true rfl) (Nat.le_of_ble_eq_true rfl)
set_option maxHeartbeats 600000 in
set_option maxRecDepth 100000 in
theorem t_checkExpW (l : Launch) (D : va_G) (k : Nat → ClassId) (tb : Nat → Nat) (hls : l.stackTraces = false) (sz : Nat) (bx rt rs ro ri ra ma : Nat) (kd j nh : Nat) (hkd : kd < 3) (hnh : nh ≤ 64) (fr : Nat → Option Nat) (h a1 a2 a3 fl : Nat) (tot : Int64) (bc : Int32) (hfr : fr kd = some h) (x : Int32) (hq : ¬ x < nI 1 → x ≤ nI (255 * nh) → False) : vx_Met l yBx_checkExpandedLength wBx_checkExpandedLength ({ frames := 6, cells := 1, slots := 6, locals := 90 }) (cP D k tb [(bx, .inr (4, [.ref rt, .ref rs, .ref ro, .ref ri, .ref ra, .ref ma])), (ra, .inl (k 3, 3, .inr (.inr (.inr (.inr fr))))), (h, .inr (3, [.ref a1, .ref a2, .int (nI nh), .ref (tb j), .int (nI 8), .int (nI fl), .long tot, .int bc, .ref a3]))] sz [.ref bx, .int (nI kd), .int x]) vxF (xX D "java/lang/IllegalArgumentException" [(bx, .inr (4, [.ref rt, .ref rs, .ref ro, .ref ri, .ref ra, .ref ma])), (ra, .inl (k 3, 3, .inr (.inr (.inr (.inr fr))))), (h, .inr (3, [.ref a1, .ref a2, .int (nI nh), .ref (tb j), .int (nI 8), .int (nI fl), .long tot, .int bc, .ref a3]))] (va_A [(bx, .inr (4, [.ref rt, .ref rs, .ref ro, .ref ri, .ref ra, .ref ma])), (ra, .inl (k 3, 3, .inr (.inr (.inr (.inr fr))))), (h, .inr (3, [.ref a1, .ref a2, .int (nI nh), .ref (tb j), .int (nI 8), .int (nI fl), .long tot, .int bc, .ref a3]))] sz)) 1 6 (va_A [(bx, .inr (4, [.ref rt, .ref rs, .ref ro, .ref ri, .ref ra, .ref ma])), (ra, .inl (k 3, 3, .inr (.inr (.inr (.inr fr))))), (h, .inr (3, [.ref a1, .ref a2, .int (nI nh), .ref (tb j), .int (nI 8), .int (nI fl), .long tot, .int bc, .ref a3]))] sz) := by
  refine vx_ofW (cc := cBx_checkExpandedLength) (maxL := 3) (ret := none) (by decide) rfl ?_
  intro p e s m args below meth c s₁ B hml htab hv
  obtain ⟨rfl, hsz, hP, hK, hD0, hG⟩ := hv
  have hx := B.exec
  have hb := B.bytes
  have hts : ∀ w ∈ GT, w.before _ s = true := fun w h => atoms_spec (ws := wBx_checkExpandedLength) B.pre w (List.mem_cons_of_mem _ h)
  have hown : s.vm.findClass R_Bx = some m.cls := findClass_of_methodNamed B.named
  have hlocks := B.notSynchronized
  subst hsz
  have hD := hD0.self (sz := s.heap.size)
  generalize hAe : va_A [(bx, .inr (4, [.ref rt, .ref rs, .ref ro, .ref ri, .ref ra, .ref ma])), (ra, .inl (k 3, 3, .inr (.inr (.inr (.inr fr))))), (h, .inr (3, [.ref a1, .ref a2, .int (nI nh), .ref (tb j), .int (nI 8), .int (nI fl), .long tot, .int bc, .ref a3]))] s.heap.size = A at hD hG ⊢
  have hA : ∀ q : Nat, s.heap.size ≤ q → A q := fun q h => by rw [← hAe]; exact Or.inr h
  have hl := lv_entry ([.ref bx, .int (nI kd), .int x]) (n := 3) (Nat.le_of_ble_eq_true rfl)
  rw [lg_entry_eq]
  generalize (lg_sl ([.ref bx, .int (nI kd), .int x]) ++ List.replicate (3 - (lg_sl ([.ref bx, .int (nI kd), .int x])).length) Slot.unset).toArray = ls at hl ⊢
  have hl : lv_has ls 3 [(0, .ref bx), (1, .int (nI kd)), (2, .int x)] := hl
  refine cw_start (A := A) hP (fun H locs hP hS => ?_)
  refine lv_iload_n hx hb dBx_checkExpandedLength_0 rfl (lv_at hl 2 rfl) ?_
  refine lv_iconst (v := nI 1) hx hb dBx_checkExpandedLength_1 (by decide) ?_
  refine lv_icmp_lt (tgt := 22) hx hb dBx_checkExpandedLength_2 (by decide) (fun c_2 => ?_) (fun c_2 => ?_)
  · skip
    have hP := hP.sub (ws' := [(bx, .inr (4, [.ref rt, .ref rs, .ref ro, .ref ri, .ref ra, .ref ma])), (ra, .inl (k 3, 3, .inr (.inr (.inr (.inr fr))))), (h, .inr (3, [.ref a1, .ref a2, .int (nI nh), .ref (tb j), .int (nI 8), .int (nI fl), .long tot, .int bc, .ref a3]))]) [0, 1, 2] rfl
    have hD := hD.sub (ws' := [(bx, .inr (4, [.ref rt, .ref rs, .ref ro, .ref ri, .ref ra, .ref ma])), (ra, .inl (k 3, 3, .inr (.inr (.inr (.inr fr))))), (h, .inr (3, [.ref a1, .ref a2, .int (nI nh), .ref (tb j), .int (nI 8), .int (nI fl), .long tot, .int bc, .ref a3]))]) [0, 1, 2] (by decide) rfl
    exact vx_throw0 (own := R_Bx) (cls := "java/lang/IllegalArgumentException") (names := xNm) hx hb hls hown (by decide +kernel) (by decide +kernel) (hts _ gm_284) (hts _ gm_64) (xa_IAE hts hG.1) xg_IAE hG.2.1.2.2.2.2.2.2.1 hG.2.1.2.2.2.2.2.2.2 hS (hl.1.trans hml.symm) dBx_checkExpandedLength_22 dBx_checkExpandedLength_25 dBx_checkExpandedLength_26 dBx_checkExpandedLength_29 (fun x h => (htab x h).elim) (Nat.le_of_ble_eq_true rfl) (Nat.le_of_ble_eq_true rfl) (Nat.le_of_ble_eq_true rfl) (Nat.le_of_ble_eq_true rfl) hlocks (xq_end hP hD hS) hS.2.2 (Nat.le_of_ble_eq_true rfl) (Nat.le_of_ble_eq_true rfl)
  · skip
    refine lv_iload_n hx hb dBx_checkExpandedLength_5 rfl (lv_at hl 2 rfl) ?_
    refine lv_sipush (v := nI 255) hx hb dBx_checkExpandedLength_6 (by decide) ?_
    refine lv_aload_n hx hb dBx_checkExpandedLength_9 rfl (lv_at hl 0 rfl) ?_
    refine va_get (D := D) (ci := 4) (v := .ref ra) (C := R_Bx) (T := T_Bx) (N := 6) hx hb hts in_Bx hown hK hP 0 rfl rfl 4 (by decide) (hts _ gm_171) (fun _ h9 => h9) rfl dBx_checkExpandedLength_10 ?_
    refine lv_iload_n hx hb dBx_checkExpandedLength_13 rfl (lv_at hl 1 rfl) ?_
    refine rq_ld hx hb hK hP 1 3 rfl rfl (by omega) (by decide) hfr dBx_checkExpandedLength_14 ?_
    refine va_get (D := D) (ci := 3) (v := .int (nI nh)) (C := R_Ws) (T := T_Ws) (N := 9) hx hb hts in_Ws hown hK hP 2 rfl rfl 2 (by decide) (hts _ gm_114) (fun _ h9 => h9) rfl dBx_checkExpandedLength_15 ?_
    refine ri_mul hx hb dBx_checkExpandedLength_18 ?_
    refine lv_icmp_le (tgt := 30) hx hb dBx_checkExpandedLength_19 (by decide) (fun c_19 => ?_) (fun c_19 => ?_)
    · skip
      exact (hq c_2 c_19).elim
    · skip
      have hP := hP.sub (ws' := [(bx, .inr (4, [.ref rt, .ref rs, .ref ro, .ref ri, .ref ra, .ref ma])), (ra, .inl (k 3, 3, .inr (.inr (.inr (.inr fr))))), (h, .inr (3, [.ref a1, .ref a2, .int (nI nh), .ref (tb j), .int (nI 8), .int (nI fl), .long tot, .int bc, .ref a3]))]) [0, 1, 2] rfl
      have hD := hD.sub (ws' := [(bx, .inr (4, [.ref rt, .ref rs, .ref ro, .ref ri, .ref ra, .ref ma])), (ra, .inl (k 3, 3, .inr (.inr (.inr (.inr fr))))), (h, .inr (3, [.ref a1, .ref a2, .int (nI nh), .ref (tb j), .int (nI 8), .int (nI fl), .long tot, .int bc, .ref a3]))]) [0, 1, 2] (by decide) rfl
      exact vx_throw0 (own := R_Bx) (cls := "java/lang/IllegalArgumentException") (names := xNm) hx hb hls hown (by decide +kernel) (by decide +kernel) (hts _ gm_284) (hts _ gm_64) (xa_IAE hts hG.1) xg_IAE hG.2.1.2.2.2.2.2.2.1 hG.2.1.2.2.2.2.2.2.2 hS (hl.1.trans hml.symm) dBx_checkExpandedLength_22 dBx_checkExpandedLength_25 dBx_checkExpandedLength_26 dBx_checkExpandedLength_29 (fun x h => (htab x h).elim) (Nat.le_of_ble_eq_true rfl) (Nat.le_of_ble_eq_true rfl) (Nat.le_of_ble_eq_true rfl) (Nat.le_of_ble_eq_true rfl) hlocks (xq_end hP hD hS) hS.2.2 (Nat.le_of_ble_eq_true rfl) (Nat.le_of_ble_eq_true rfl)
set_option maxHeartbeats 600000 in
set_option maxRecDepth 100000 in
theorem t_expandW1 (l : Launch) (D : va_G) (k : Nat → ClassId) (tb : Nat → Nat) (hls : l.stackTraces = false) (sz : Nat) (bx rt rs ro ri ra ma : Nat) (kd j nh : Nat) (hkd : kd < 3) (hnh : nh ≤ 64) (fr : Nat → Option Nat) (h a1 a2 a3 fl : Nat) (tot : Int64) (bc : Int32) (hfr : fr kd = some h) (x : Int32) (hq : ¬ x < nI 1 → x ≤ nI (255 * nh) → False) : vx_Met l yBx_expand wBx_expand ({ frames := 7, cells := 1, slots := 6, locals := 112 }) (cP D k tb [(bx, .inr (4, [.ref rt, .ref rs, .ref ro, .ref ri, .ref ra, .ref ma])), (ra, .inl (k 3, 3, .inr (.inr (.inr (.inr fr))))), (h, .inr (3, [.ref a1, .ref a2, .int (nI nh), .ref (tb j), .int (nI 8), .int (nI fl), .long tot, .int bc, .ref a3]))] sz [.ref bx, .int (nI kd), .int x]) vxF (xX D "java/lang/IllegalArgumentException" [(bx, .inr (4, [.ref rt, .ref rs, .ref ro, .ref ri, .ref ra, .ref ma])), (ra, .inl (k 3, 3, .inr (.inr (.inr (.inr fr))))), (h, .inr (3, [.ref a1, .ref a2, .int (nI nh), .ref (tb j), .int (nI 8), .int (nI fl), .long tot, .int bc, .ref a3]))] (va_A [(bx, .inr (4, [.ref rt, .ref rs, .ref ro, .ref ri, .ref ra, .ref ma])), (ra, .inl (k 3, 3, .inr (.inr (.inr (.inr fr))))), (h, .inr (3, [.ref a1, .ref a2, .int (nI nh), .ref (tb j), .int (nI 8), .int (nI fl), .long tot, .int bc, .ref a3]))] sz)) 1 6 (va_A [(bx, .inr (4, [.ref rt, .ref rs, .ref ro, .ref ri, .ref ra, .ref ma])), (ra, .inl (k 3, 3, .inr (.inr (.inr (.inr fr))))), (h, .inr (3, [.ref a1, .ref a2, .int (nI nh), .ref (tb j), .int (nI 8), .int (nI fl), .long tot, .int bc, .ref a3]))] sz) := by
  refine vx_ofW (cc := cBx_expand) (maxL := 3) (ret := (some .int)) (by decide) rfl ?_
  intro p e s m args below meth c s₁ B hml htab hv
  obtain ⟨rfl, hsz, hP, hK, hD0, hG⟩ := hv
  have hx := B.exec
  have hb := B.bytes
  have hts : ∀ w ∈ GT, w.before _ s = true := fun w h => atoms_spec (ws := wBx_expand) B.pre w (List.mem_cons_of_mem _ h)
  have hown : s.vm.findClass R_Bx = some m.cls := findClass_of_methodNamed B.named
  have hlocks := B.notSynchronized
  subst hsz
  have hD := hD0.self (sz := s.heap.size)
  generalize hAe : va_A [(bx, .inr (4, [.ref rt, .ref rs, .ref ro, .ref ri, .ref ra, .ref ma])), (ra, .inl (k 3, 3, .inr (.inr (.inr (.inr fr))))), (h, .inr (3, [.ref a1, .ref a2, .int (nI nh), .ref (tb j), .int (nI 8), .int (nI fl), .long tot, .int bc, .ref a3]))] s.heap.size = A at hD hG ⊢
  have hA : ∀ q : Nat, s.heap.size ≤ q → A q := fun q h => by rw [← hAe]; exact Or.inr h
  have hl := lv_entry ([.ref bx, .int (nI kd), .int x]) (n := 3) (Nat.le_of_ble_eq_true rfl)
  rw [lg_entry_eq]
  generalize (lg_sl ([.ref bx, .int (nI kd), .int x]) ++ List.replicate (3 - (lg_sl ([.ref bx, .int (nI kd), .int x])).length) Slot.unset).toArray = ls at hl ⊢
  have hl : lv_has ls 3 [(0, .ref bx), (1, .int (nI kd)), (2, .int x)] := hl
  refine cw_start (A := A) hP (fun H locs hP hS => ?_)
  refine lv_iload_n hx hb dBx_expand_0 rfl (lv_at hl 1 rfl) ?_
  refine rc_v (wr := [(bx, .inr (4, [.ref rt, .ref rs, .ref ro, .ref ri, .ref ra, .ref ma])), (ra, .inl (k 3, 3, .inr (.inr (.inr (.inr fr))))), (h, .inr (3, [.ref a1, .ref a2, .int (nI nh), .ref (tb j), .int (nI 8), .int (nI fl), .long tot, .int bc, .ref a3]))]) (va_runS (As := [.int (nI kd)]) (rest := []) ⟨hx, hb, hml, hown, hts⟩ (c_checkKind l D k tb H.size kd hkd) (va_cwS 1 hts (gS gm_305 gm_306 gm_50 gm_307) rfl rfl rfl (by decide +kernel) ⟨Nat.le_of_ble_eq_true rfl, Nat.le_of_ble_eq_true rfl⟩) (cP_S hP hD hK hG hS hA [] (by decide) rfl) rfl rfl hl.1 rfl (lv_room (Nat.le_of_ble_eq_true rfl)) dBx_expand_1 ⟨Nat.le_of_ble_eq_true rfl, Nat.le_of_ble_eq_true rfl⟩) hS hA hP hD [] [0, 1, 2] rfl rfl (by decide) (by decide) (fun u H locs hw hP hD hS => ?_)
  have hP : va_P D vwCl [(bx, .inr (4, [.ref rt, .ref rs, .ref ro, .ref ri, .ref ra, .ref ma])), (ra, .inl (k 3, 3, .inr (.inr (.inr (.inr fr))))), (h, .inr (3, [.ref a1, .ref a2, .int (nI nh), .ref (tb j), .int (nI 8), .int (nI fl), .long tot, .int bc, .ref a3]))] H := hP
  have hD : va_D A [(bx, .inr (4, [.ref rt, .ref rs, .ref ro, .ref ri, .ref ra, .ref ma])), (ra, .inl (k 3, 3, .inr (.inr (.inr (.inr fr))))), (h, .inr (3, [.ref a1, .ref a2, .int (nI nh), .ref (tb j), .int (nI 8), .int (nI fl), .long tot, .int bc, .ref a3]))] := hD
  refine lv_aload_n hx hb dBx_expand_4 rfl (lv_at hl 0 rfl) ?_
  refine lv_iload_n hx hb dBx_expand_5 rfl (lv_at hl 1 rfl) ?_
  refine lv_iload_n hx hb dBx_expand_6 rfl (lv_at hl 2 rfl) ?_
  refine rx_c (wr := []) (vx_runV (As := [.int (nI kd), .int x]) (rest := []) ⟨hx, hb, hml, hown, hts⟩ (t_checkExpW l D k tb hls H.size bx rt rs ro ri ra ma kd j nh hkd hnh fr h a1 a2 a3 fl tot bc hfr x hq) (cwV 2 hts (gV gm_462 gm_463 gm_32 gm_50 gm_464) rfl rfl rfl (by decide +kernel) ⟨Nat.le_of_ble_eq_true rfl, Nat.le_of_ble_eq_true rfl⟩) (cP_V hP hD hK hG hS hA [0, 1, 2] (by decide) rfl (ci := 4) (q0 := 0) rfl rfl) rfl rfl hl.1 rfl (lv_room (Nat.le_of_ble_eq_true rfl)) dBx_expand_7 ⟨Nat.le_of_ble_eq_true rfl, Nat.le_of_ble_eq_true rfl⟩) hS hA hP hD [0, 1, 2] [] rfl rfl (by decide) (by decide) (fun ce q9 H locs hP hD hS hce hcv hcl => ?_)
  have hP : va_P D vwCl [(bx, .inr (4, [.ref rt, .ref rs, .ref ro, .ref ri, .ref ra, .ref ma])), (ra, .inl (k 3, 3, .inr (.inr (.inr (.inr fr))))), (h, .inr (3, [.ref a1, .ref a2, .int (nI nh), .ref (tb j), .int (nI 8), .int (nI fl), .long tot, .int bc, .ref a3]))] H := hP
  have hD : va_D A [(bx, .inr (4, [.ref rt, .ref rs, .ref ro, .ref ri, .ref ra, .ref ma])), (ra, .inl (k 3, 3, .inr (.inr (.inr (.inr fr))))), (h, .inr (3, [.ref a1, .ref a2, .int (nI nh), .ref (tb j), .int (nI 8), .int (nI fl), .long tot, .int bc, .ref a3]))] := hD
  have hP := hP.sub (ws' := [(bx, .inr (4, [.ref rt, .ref rs, .ref ro, .ref ri, .ref ra, .ref ma])), (ra, .inl (k 3, 3, .inr (.inr (.inr (.inr fr))))), (h, .inr (3, [.ref a1, .ref a2, .int (nI nh), .ref (tb j), .int (nI 8), .int (nI fl), .long tot, .int bc, .ref a3]))]) [0, 1, 2] rfl
  have hD := hD.sub (ws' := [(bx, .inr (4, [.ref rt, .ref rs, .ref ro, .ref ri, .ref ra, .ref ma])), (ra, .inl (k 3, 3, .inr (.inr (.inr (.inr fr))))), (h, .inr (3, [.ref a1, .ref a2, .int (nI nh), .ref (tb j), .int (nI 8), .int (nI fl), .long tot, .int bc, .ref a3]))]) [0, 1, 2] (by decide) rfl
  exact vx_out (fun x h => (htab x h).elim) hlocks hce hcv hcl (xq_out hP hD hS) hS.2.2 (Nat.le_of_ble_eq_true rfl) (Nat.le_of_ble_eq_true rfl)
set_option maxHeartbeats 600000 in
set_option maxRecDepth 100000 in
theorem t_expandLabelW1 (l : Launch) (D : va_G) (k : Nat → ClassId) (tb : Nat → Nat) (hls : l.stackTraces = false) (sz : Nat) (bx rt rs ro ri ra ma : Nat) (kd j nh : Nat) (hkd : kd < 3) (hnh : nh ≤ 64) (fr : Nat → Option Nat) (h a1 a2 a3 fl : Nat) (tot : Int64) (bc : Int32) (hfr : fr kd = some h) (x : Int32) (hq : ¬ x < nI 1 → x ≤ nI (255 * nh) → False) (x1 : Int32) : vx_Met l yBx_expandLabel wBx_expandLabel ({ frames := 7, cells := 1, slots := 6, locals := 112 }) (cP D k tb [(bx, .inr (4, [.ref rt, .ref rs, .ref ro, .ref ri, .ref ra, .ref ma])), (ra, .inl (k 3, 3, .inr (.inr (.inr (.inr fr))))), (h, .inr (3, [.ref a1, .ref a2, .int (nI nh), .ref (tb j), .int (nI 8), .int (nI fl), .long tot, .int bc, .ref a3]))] sz [.ref bx, .int (nI kd), .int x, .int x1]) vxF (xX D "java/lang/IllegalArgumentException" [(bx, .inr (4, [.ref rt, .ref rs, .ref ro, .ref ri, .ref ra, .ref ma])), (ra, .inl (k 3, 3, .inr (.inr (.inr (.inr fr))))), (h, .inr (3, [.ref a1, .ref a2, .int (nI nh), .ref (tb j), .int (nI 8), .int (nI fl), .long tot, .int bc, .ref a3]))] (va_A [(bx, .inr (4, [.ref rt, .ref rs, .ref ro, .ref ri, .ref ra, .ref ma])), (ra, .inl (k 3, 3, .inr (.inr (.inr (.inr fr))))), (h, .inr (3, [.ref a1, .ref a2, .int (nI nh), .ref (tb j), .int (nI 8), .int (nI fl), .long tot, .int bc, .ref a3]))] sz)) 1 6 (va_A [(bx, .inr (4, [.ref rt, .ref rs, .ref ro, .ref ri, .ref ra, .ref ma])), (ra, .inl (k 3, 3, .inr (.inr (.inr (.inr fr))))), (h, .inr (3, [.ref a1, .ref a2, .int (nI nh), .ref (tb j), .int (nI 8), .int (nI fl), .long tot, .int bc, .ref a3]))] sz) := by
  refine vx_ofW (cc := cBx_expandLabel) (maxL := 4) (ret := (some .int)) (by decide) rfl ?_
  intro p e s m args below meth c s₁ B hml htab hv
  obtain ⟨rfl, hsz, hP, hK, hD0, hG⟩ := hv
  have hx := B.exec
  have hb := B.bytes
  have hts : ∀ w ∈ GT, w.before _ s = true := fun w h => atoms_spec (ws := wBx_expandLabel) B.pre w (List.mem_cons_of_mem _ h)
  have hown : s.vm.findClass R_Bx = some m.cls := findClass_of_methodNamed B.named
  have hlocks := B.notSynchronized
  subst hsz
  have hD := hD0.self (sz := s.heap.size)
  generalize hAe : va_A [(bx, .inr (4, [.ref rt, .ref rs, .ref ro, .ref ri, .ref ra, .ref ma])), (ra, .inl (k 3, 3, .inr (.inr (.inr (.inr fr))))), (h, .inr (3, [.ref a1, .ref a2, .int (nI nh), .ref (tb j), .int (nI 8), .int (nI fl), .long tot, .int bc, .ref a3]))] s.heap.size = A at hD hG ⊢
  have hA : ∀ q : Nat, s.heap.size ≤ q → A q := fun q h => by rw [← hAe]; exact Or.inr h
  have hl := lv_entry ([.ref bx, .int (nI kd), .int x, .int x1]) (n := 4) (Nat.le_of_ble_eq_true rfl)
  rw [lg_entry_eq]
  generalize (lg_sl ([.ref bx, .int (nI kd), .int x, .int x1]) ++ List.replicate (4 - (lg_sl ([.ref bx, .int (nI kd), .int x, .int x1])).length) Slot.unset).toArray = ls at hl ⊢
  have hl : lv_has ls 4 [(0, .ref bx), (1, .int (nI kd)), (2, .int x), (3, .int x1)] := hl
  refine cw_start (A := A) hP (fun H locs hP hS => ?_)
  refine lv_iload_n hx hb dBx_expandLabel_0 rfl (lv_at hl 1 rfl) ?_
  refine rc_v (wr := [(bx, .inr (4, [.ref rt, .ref rs, .ref ro, .ref ri, .ref ra, .ref ma])), (ra, .inl (k 3, 3, .inr (.inr (.inr (.inr fr))))), (h, .inr (3, [.ref a1, .ref a2, .int (nI nh), .ref (tb j), .int (nI 8), .int (nI fl), .long tot, .int bc, .ref a3]))]) (va_runS (As := [.int (nI kd)]) (rest := []) ⟨hx, hb, hml, hown, hts⟩ (c_checkKind l D k tb H.size kd hkd) (va_cwS 1 hts (gS gm_305 gm_306 gm_50 gm_307) rfl rfl rfl (by decide +kernel) ⟨Nat.le_of_ble_eq_true rfl, Nat.le_of_ble_eq_true rfl⟩) (cP_S hP hD hK hG hS hA [] (by decide) rfl) rfl rfl hl.1 rfl (lv_room (Nat.le_of_ble_eq_true rfl)) dBx_expandLabel_1 ⟨Nat.le_of_ble_eq_true rfl, Nat.le_of_ble_eq_true rfl⟩) hS hA hP hD [] [0, 1, 2] rfl rfl (by decide) (by decide) (fun u H locs hw hP hD hS => ?_)
  have hP : va_P D vwCl [(bx, .inr (4, [.ref rt, .ref rs, .ref ro, .ref ri, .ref ra, .ref ma])), (ra, .inl (k 3, 3, .inr (.inr (.inr (.inr fr))))), (h, .inr (3, [.ref a1, .ref a2, .int (nI nh), .ref (tb j), .int (nI 8), .int (nI fl), .long tot, .int bc, .ref a3]))] H := hP
  have hD : va_D A [(bx, .inr (4, [.ref rt, .ref rs, .ref ro, .ref ri, .ref ra, .ref ma])), (ra, .inl (k 3, 3, .inr (.inr (.inr (.inr fr))))), (h, .inr (3, [.ref a1, .ref a2, .int (nI nh), .ref (tb j), .int (nI 8), .int (nI fl), .long tot, .int bc, .ref a3]))] := hD
  refine lv_aload_n hx hb dBx_expandLabel_4 rfl (lv_at hl 0 rfl) ?_
  refine lv_iload_n hx hb dBx_expandLabel_5 rfl (lv_at hl 1 rfl) ?_
  refine lv_iload_n hx hb dBx_expandLabel_6 rfl (lv_at hl 2 rfl) ?_
  refine rx_c (wr := []) (vx_runV (As := [.int (nI kd), .int x]) (rest := []) ⟨hx, hb, hml, hown, hts⟩ (t_checkExpW l D k tb hls H.size bx rt rs ro ri ra ma kd j nh hkd hnh fr h a1 a2 a3 fl tot bc hfr x hq) (cwV 2 hts (gV gm_462 gm_463 gm_32 gm_50 gm_464) rfl rfl rfl (by decide +kernel) ⟨Nat.le_of_ble_eq_true rfl, Nat.le_of_ble_eq_true rfl⟩) (cP_V hP hD hK hG hS hA [0, 1, 2] (by decide) rfl (ci := 4) (q0 := 0) rfl rfl) rfl rfl hl.1 rfl (lv_room (Nat.le_of_ble_eq_true rfl)) dBx_expandLabel_7 ⟨Nat.le_of_ble_eq_true rfl, Nat.le_of_ble_eq_true rfl⟩) hS hA hP hD [0, 1, 2] [] rfl rfl (by decide) (by decide) (fun ce q9 H locs hP hD hS hce hcv hcl => ?_)
  have hP : va_P D vwCl [(bx, .inr (4, [.ref rt, .ref rs, .ref ro, .ref ri, .ref ra, .ref ma])), (ra, .inl (k 3, 3, .inr (.inr (.inr (.inr fr))))), (h, .inr (3, [.ref a1, .ref a2, .int (nI nh), .ref (tb j), .int (nI 8), .int (nI fl), .long tot, .int bc, .ref a3]))] H := hP
  have hD : va_D A [(bx, .inr (4, [.ref rt, .ref rs, .ref ro, .ref ri, .ref ra, .ref ma])), (ra, .inl (k 3, 3, .inr (.inr (.inr (.inr fr))))), (h, .inr (3, [.ref a1, .ref a2, .int (nI nh), .ref (tb j), .int (nI 8), .int (nI fl), .long tot, .int bc, .ref a3]))] := hD
  have hP := hP.sub (ws' := [(bx, .inr (4, [.ref rt, .ref rs, .ref ro, .ref ri, .ref ra, .ref ma])), (ra, .inl (k 3, 3, .inr (.inr (.inr (.inr fr))))), (h, .inr (3, [.ref a1, .ref a2, .int (nI nh), .ref (tb j), .int (nI 8), .int (nI fl), .long tot, .int bc, .ref a3]))]) [0, 1, 2] rfl
  have hD := hD.sub (ws' := [(bx, .inr (4, [.ref rt, .ref rs, .ref ro, .ref ri, .ref ra, .ref ma])), (ra, .inl (k 3, 3, .inr (.inr (.inr (.inr fr))))), (h, .inr (3, [.ref a1, .ref a2, .int (nI nh), .ref (tb j), .int (nI 8), .int (nI fl), .long tot, .int bc, .ref a3]))]) [0, 1, 2] (by decide) rfl
  exact vx_out (fun x h => (htab x h).elim) hlocks hce hcv hcl (xq_out hP hD hS) hS.2.2 (Nat.le_of_ble_eq_true rfl) (Nat.le_of_ble_eq_true rfl)
set_option maxHeartbeats 600000 in
set_option maxRecDepth 100000 in
theorem t_expandLabelW2 (l : Launch) (D : va_G) (k : Nat → ClassId) (tb : Nat → Nat) (hls : l.stackTraces = false) (sz : Nat) (bx rt rs ro ri ra ma : Nat) (kd j nh : Nat) (hkd : kd < 3) (hnh : nh ≤ 64) (fr : Nat → Option Nat) (h a1 a2 a3 fl : Nat) (tot : Int64) (bc : Int32) (hfr : fr kd = some h) (n bt nt : Nat) (hn : 1 ≤ n) (hn2 : n ≤ 255 * nh) (x1 : Int32) (hq : ¬ x1 < nI 1 → ¬ nI 249 < x1 → ¬ nI nt < x1 → nI nt - x1 ≤ nI 255 → False) : vx_Met l yBx_expandLabel wBx_expandLabel ({ frames := 7, cells := 1, slots := 6, locals := 111 }) (cP D k tb [(bx, .inr (4, [.ref rt, .ref rs, .ref ro, .ref ri, .ref ra, .ref ma])), (ra, .inl (k 3, 3, .inr (.inr (.inr (.inr fr))))), (h, .inr (3, [.ref a1, .ref a2, .int (nI nh), .ref (tb j), .int (nI 8), .int (nI fl), .long tot, .int bc, .ref a3])), (rt, .inr (2, [.ref bt, .int (nI nt)]))] sz [.ref bx, .int (nI kd), .int (nI n), .int x1]) vxF (xX D "java/lang/IllegalArgumentException" [(bx, .inr (4, [.ref rt, .ref rs, .ref ro, .ref ri, .ref ra, .ref ma])), (ra, .inl (k 3, 3, .inr (.inr (.inr (.inr fr))))), (h, .inr (3, [.ref a1, .ref a2, .int (nI nh), .ref (tb j), .int (nI 8), .int (nI fl), .long tot, .int bc, .ref a3])), (rt, .inr (2, [.ref bt, .int (nI nt)]))] (va_A [(bx, .inr (4, [.ref rt, .ref rs, .ref ro, .ref ri, .ref ra, .ref ma])), (ra, .inl (k 3, 3, .inr (.inr (.inr (.inr fr))))), (h, .inr (3, [.ref a1, .ref a2, .int (nI nh), .ref (tb j), .int (nI 8), .int (nI fl), .long tot, .int bc, .ref a3])), (rt, .inr (2, [.ref bt, .int (nI nt)]))] sz)) 1 6 (va_A [(bx, .inr (4, [.ref rt, .ref rs, .ref ro, .ref ri, .ref ra, .ref ma])), (ra, .inl (k 3, 3, .inr (.inr (.inr (.inr fr))))), (h, .inr (3, [.ref a1, .ref a2, .int (nI nh), .ref (tb j), .int (nI 8), .int (nI fl), .long tot, .int bc, .ref a3])), (rt, .inr (2, [.ref bt, .int (nI nt)]))] sz) := by
  refine vx_ofW (cc := cBx_expandLabel) (maxL := 4) (ret := (some .int)) (by decide) rfl ?_
  intro p e s m args below meth c s₁ B hml htab hv
  obtain ⟨rfl, hsz, hP, hK, hD0, hG⟩ := hv
  have hx := B.exec
  have hb := B.bytes
  have hts : ∀ w ∈ GT, w.before _ s = true := fun w h => atoms_spec (ws := wBx_expandLabel) B.pre w (List.mem_cons_of_mem _ h)
  have hown : s.vm.findClass R_Bx = some m.cls := findClass_of_methodNamed B.named
  have hlocks := B.notSynchronized
  subst hsz
  have hD := hD0.self (sz := s.heap.size)
  generalize hAe : va_A [(bx, .inr (4, [.ref rt, .ref rs, .ref ro, .ref ri, .ref ra, .ref ma])), (ra, .inl (k 3, 3, .inr (.inr (.inr (.inr fr))))), (h, .inr (3, [.ref a1, .ref a2, .int (nI nh), .ref (tb j), .int (nI 8), .int (nI fl), .long tot, .int bc, .ref a3])), (rt, .inr (2, [.ref bt, .int (nI nt)]))] s.heap.size = A at hD hG ⊢
  have hA : ∀ q : Nat, s.heap.size ≤ q → A q := fun q h => by rw [← hAe]; exact Or.inr h
  have hl := lv_entry ([.ref bx, .int (nI kd), .int (nI n), .int x1]) (n := 4) (Nat.le_of_ble_eq_true rfl)
  rw [lg_entry_eq]
  generalize (lg_sl ([.ref bx, .int (nI kd), .int (nI n), .int x1]) ++ List.replicate (4 - (lg_sl ([.ref bx, .int (nI kd), .int (nI n), .int x1])).length) Slot.unset).toArray = ls at hl ⊢
  have hl : lv_has ls 4 [(0, .ref bx), (1, .int (nI kd)), (2, .int (nI n)), (3, .int x1)] := hl
  refine cw_start (A := A) hP (fun H locs hP hS => ?_)
  refine lv_iload_n hx hb dBx_expandLabel_0 rfl (lv_at hl 1 rfl) ?_
  refine rc_v (wr := [(bx, .inr (4, [.ref rt, .ref rs, .ref ro, .ref ri, .ref ra, .ref ma])), (ra, .inl (k 3, 3, .inr (.inr (.inr (.inr fr))))), (h, .inr (3, [.ref a1, .ref a2, .int (nI nh), .ref (tb j), .int (nI 8), .int (nI fl), .long tot, .int bc, .ref a3])), (rt, .inr (2, [.ref bt, .int (nI nt)]))]) (va_runS (As := [.int (nI kd)]) (rest := []) ⟨hx, hb, hml, hown, hts⟩ (c_checkKind l D k tb H.size kd hkd) (va_cwS 1 hts (gS gm_305 gm_306 gm_50 gm_307) rfl rfl rfl (by decide +kernel) ⟨Nat.le_of_ble_eq_true rfl, Nat.le_of_ble_eq_true rfl⟩) (cP_S hP hD hK hG hS hA [] (by decide) rfl) rfl rfl hl.1 rfl (lv_room (Nat.le_of_ble_eq_true rfl)) dBx_expandLabel_1 ⟨Nat.le_of_ble_eq_true rfl, Nat.le_of_ble_eq_true rfl⟩) hS hA hP hD [] [0, 1, 2, 3] rfl rfl (by decide) (by decide) (fun u H locs hw hP hD hS => ?_)
  have hP : va_P D vwCl [(bx, .inr (4, [.ref rt, .ref rs, .ref ro, .ref ri, .ref ra, .ref ma])), (ra, .inl (k 3, 3, .inr (.inr (.inr (.inr fr))))), (h, .inr (3, [.ref a1, .ref a2, .int (nI nh), .ref (tb j), .int (nI 8), .int (nI fl), .long tot, .int bc, .ref a3])), (rt, .inr (2, [.ref bt, .int (nI nt)]))] H := hP
  have hD : va_D A [(bx, .inr (4, [.ref rt, .ref rs, .ref ro, .ref ri, .ref ra, .ref ma])), (ra, .inl (k 3, 3, .inr (.inr (.inr (.inr fr))))), (h, .inr (3, [.ref a1, .ref a2, .int (nI nh), .ref (tb j), .int (nI 8), .int (nI fl), .long tot, .int bc, .ref a3])), (rt, .inr (2, [.ref bt, .int (nI nt)]))] := hD
  refine lv_aload_n hx hb dBx_expandLabel_4 rfl (lv_at hl 0 rfl) ?_
  refine lv_iload_n hx hb dBx_expandLabel_5 rfl (lv_at hl 1 rfl) ?_
  refine lv_iload_n hx hb dBx_expandLabel_6 rfl (lv_at hl 2 rfl) ?_
  refine rc_v (wr := [(rt, .inr (2, [.ref bt, .int (nI nt)]))]) (va_runV (As := [.int (nI kd), .int (nI n)]) (rest := []) ⟨hx, hb, hml, hown, hts⟩ (c_checkExpW l D k tb H.size bx rt rs ro ri ra ma kd j nh n hkd hnh fr h a1 a2 a3 fl tot bc hfr hn hn2) (cwV 2 hts (gV gm_462 gm_463 gm_32 gm_50 gm_464) rfl rfl rfl (by decide +kernel) ⟨Nat.le_of_ble_eq_true rfl, Nat.le_of_ble_eq_true rfl⟩) (cP_V hP hD hK hG hS hA [0, 1, 2] (by decide) rfl (ci := 4) (q0 := 0) rfl rfl) rfl rfl hl.1 rfl (lv_room (Nat.le_of_ble_eq_true rfl)) dBx_expandLabel_7 ⟨Nat.le_of_ble_eq_true rfl, Nat.le_of_ble_eq_true rfl⟩) hS hA hP hD [0, 1, 2] [3] rfl rfl (by decide) (by decide) (fun u H locs hw hP hD hS => ?_)
  have hP : va_P D vwCl [(rt, .inr (2, [.ref bt, .int (nI nt)])), (bx, .inr (4, [.ref rt, .ref rs, .ref ro, .ref ri, .ref ra, .ref ma])), (ra, .inl (k 3, 3, .inr (.inr (.inr (.inr fr))))), (h, .inr (3, [.ref a1, .ref a2, .int (nI nh), .ref (tb j), .int (nI 8), .int (nI fl), .long tot, .int bc, .ref a3]))] H := hP
  have hD : va_D A [(rt, .inr (2, [.ref bt, .int (nI nt)])), (bx, .inr (4, [.ref rt, .ref rs, .ref ro, .ref ri, .ref ra, .ref ma])), (ra, .inl (k 3, 3, .inr (.inr (.inr (.inr fr))))), (h, .inr (3, [.ref a1, .ref a2, .int (nI nh), .ref (tb j), .int (nI 8), .int (nI fl), .long tot, .int bc, .ref a3]))] := hD
  refine lv_aload_n hx hb dBx_expandLabel_10 rfl (lv_at hl 0 rfl) ?_
  refine lv_iload_n hx hb dBx_expandLabel_11 rfl (lv_at hl 3 rfl) ?_
  refine rx_c (wr := [(ra, .inl (k 3, 3, .inr (.inr (.inr (.inr fr))))), (h, .inr (3, [.ref a1, .ref a2, .int (nI nh), .ref (tb j), .int (nI 8), .int (nI fl), .long tot, .int bc, .ref a3]))]) (vx_runV (As := [.int x1]) (rest := []) ⟨hx, hb, hml, hown, hts⟩ (t_checkLabel l D k tb hls H.size bx rt rs ro ri ra ma bt nt x1 hq) (cwV 1 hts (gV gm_475 gm_476 gm_34 gm_50 gm_477) rfl rfl rfl (by decide +kernel) ⟨Nat.le_of_ble_eq_true rfl, Nat.le_of_ble_eq_true rfl⟩) (cP_V hP hD hK hG hS hA [1, 0] (by decide) rfl (ci := 4) (q0 := 1) rfl rfl) rfl rfl hl.1 rfl (lv_room (Nat.le_of_ble_eq_true rfl)) dBx_expandLabel_12 ⟨Nat.le_of_ble_eq_true rfl, Nat.le_of_ble_eq_true rfl⟩) hS hA hP hD [1, 0] [2, 3] rfl rfl (by decide) (by decide) (fun ce q9 H locs hP hD hS hce hcv hcl => ?_)
  have hP : va_P D vwCl [(ra, .inl (k 3, 3, .inr (.inr (.inr (.inr fr))))), (h, .inr (3, [.ref a1, .ref a2, .int (nI nh), .ref (tb j), .int (nI 8), .int (nI fl), .long tot, .int bc, .ref a3])), (bx, .inr (4, [.ref rt, .ref rs, .ref ro, .ref ri, .ref ra, .ref ma])), (rt, .inr (2, [.ref bt, .int (nI nt)]))] H := hP
  have hD : va_D A [(ra, .inl (k 3, 3, .inr (.inr (.inr (.inr fr))))), (h, .inr (3, [.ref a1, .ref a2, .int (nI nh), .ref (tb j), .int (nI 8), .int (nI fl), .long tot, .int bc, .ref a3])), (bx, .inr (4, [.ref rt, .ref rs, .ref ro, .ref ri, .ref ra, .ref ma])), (rt, .inr (2, [.ref bt, .int (nI nt)]))] := hD
  have hP := hP.sub (ws' := [(bx, .inr (4, [.ref rt, .ref rs, .ref ro, .ref ri, .ref ra, .ref ma])), (ra, .inl (k 3, 3, .inr (.inr (.inr (.inr fr))))), (h, .inr (3, [.ref a1, .ref a2, .int (nI nh), .ref (tb j), .int (nI 8), .int (nI fl), .long tot, .int bc, .ref a3])), (rt, .inr (2, [.ref bt, .int (nI nt)]))]) [2, 0, 1, 3] rfl
  have hD := hD.sub (ws' := [(bx, .inr (4, [.ref rt, .ref rs, .ref ro, .ref ri, .ref ra, .ref ma])), (ra, .inl (k 3, 3, .inr (.inr (.inr (.inr fr))))), (h, .inr (3, [.ref a1, .ref a2, .int (nI nh), .ref (tb j), .int (nI 8), .int (nI fl), .long tot, .int bc, .ref a3])), (rt, .inr (2, [.ref bt, .int (nI nt)]))]) [2, 0, 1, 3] (by decide) rfl
  exact vx_out (fun x h => (htab x h).elim) hlocks hce hcv hcl (xq_out hP hD hS) hS.2.2 (Nat.le_of_ble_eq_true rfl) (Nat.le_of_ble_eq_true rfl)
