/-! THE REFERENCE: more, and the calls with a strange kind -/
set_option maxHeartbeats 600000 in
set_option maxRecDepth 100000 in
theorem t_r_more (l : Launch) (D : va_G) (k : Nat → ClassId) (tb : Nat → Nat) (sz : Nat) (mo xt xk xr nt nk nr xu xv xb xw xo xl xp yr ys yw yt yl yc wd : Nat) (th : Int32) (x : Int32) (hq : ¬ x < 0 → x < nI 3 → False) : Met l yMd_more wMd_more ({ frames := 1, cells := 0, slots := 0, locals := 21 }) (cP D k tb [(mo, .inr (5, [.int th, .ref xt, .ref xk, .ref xr, .int (nI nt), .int (nI nk), .int (nI nr), .ref xu, .ref xv, .ref xb, .ref xw, .ref xo, .ref xl, .ref xp, .ref yr, .ref ys, .ref yw, .ref yt, .ref yl, .ref yc, .int (nI wd)]))] sz [.ref mo, .int x]) (va_Ql (fun (r : Int64) (u : Unit) => r = (nI 0).toInt64) (fun (u : Unit) (t : State) => va_P D vwCl [(mo, .inr (5, [.int (nI 1), .ref xt, .ref xk, .ref xr, .int (nI nt), .int (nI nk), .int (nI nr), .ref xu, .ref xv, .ref xb, .ref xw, .ref xo, .ref xl, .ref xp, .ref yr, .ref ys, .ref yw, .ref yt, .ref yl, .ref yc, .int (nI wd)]))] t.heap ∧ va_D (va_A [(mo, .inr (5, [.int th, .ref xt, .ref xk, .ref xr, .int (nI nt), .int (nI nk), .int (nI nr), .ref xu, .ref xv, .ref xb, .ref xw, .ref xo, .ref xl, .ref xp, .ref yr, .ref ys, .ref yw, .ref yt, .ref yl, .ref yc, .int (nI wd)]))] sz) [(mo, .inr (5, [.int (nI 1), .ref xt, .ref xk, .ref xr, .int (nI nt), .int (nI nk), .int (nI nr), .ref xu, .ref xv, .ref xb, .ref xw, .ref xo, .ref xl, .ref xp, .ref yr, .ref ys, .ref yw, .ref yt, .ref yl, .ref yc, .int (nI wd)]))]) (va_A [(mo, .inr (5, [.int th, .ref xt, .ref xk, .ref xr, .int (nI nt), .int (nI nk), .int (nI nr), .ref xu, .ref xv, .ref xb, .ref xw, .ref xo, .ref xl, .ref xp, .ref yr, .ref ys, .ref yw, .ref yt, .ref yl, .ref yc, .int (nI wd)]))] sz)) (0) (0) (va_A [(mo, .inr (5, [.int th, .ref xt, .ref xk, .ref xr, .int (nI nt), .int (nI nk), .int (nI nr), .ref xu, .ref xv, .ref xb, .ref xw, .ref xo, .ref xl, .ref xp, .ref yr, .ref ys, .ref yw, .ref yt, .ref yl, .ref yc, .int (nI wd)]))] sz) := by
  refine Met.ofW (cc := cMd_more) (maxL := 4) (ret := (some .long)) (by decide) rfl ?_
  intro p e s m args below meth c s₁ B hml hv
  obtain ⟨rfl, hsz, hP, hK, hD0, hG⟩ := hv
  have hx := B.exec
  have hb := B.bytes
  have hr := B.returns
  have hts : ∀ w ∈ GT, w.before _ s = true := fun w h => atoms_spec (ws := wMd_more) B.pre w (List.mem_cons_of_mem _ h)
  have hown : s.vm.findClass R_Md = some m.cls := findClass_of_methodNamed B.named
  have hlocks := B.notSynchronized
  subst hsz
  have hD := hD0.self (sz := s.heap.size)
  generalize hAe : va_A [(mo, .inr (5, [.int th, .ref xt, .ref xk, .ref xr, .int (nI nt), .int (nI nk), .int (nI nr), .ref xu, .ref xv, .ref xb, .ref xw, .ref xo, .ref xl, .ref xp, .ref yr, .ref ys, .ref yw, .ref yt, .ref yl, .ref yc, .int (nI wd)]))] s.heap.size = A at hD hG ⊢
  have hA : ∀ q : Nat, s.heap.size ≤ q → A q := fun q h => by rw [← hAe]; exact Or.inr h
  have hl := lv_entry ([.ref mo, .int x]) (n := 4) (Nat.le_of_ble_eq_true rfl)
  rw [lg_entry_eq]
  generalize (lg_sl ([.ref mo, .int x]) ++ List.replicate (4 - (lg_sl ([.ref mo, .int x])).length) Slot.unset).toArray = ls at hl ⊢
  have hl : lv_has ls 4 [(0, .ref mo), (1, .int x)] := hl
  refine cw_start (A := A) hP (fun H locs hP hS => ?_)
  refine lv_aload_n hx hb dMd_more_0 rfl (lv_at hl 0 rfl) ?_
  refine lv_iconst (v := nI 0) hx hb dMd_more_1 (by decide) ?_
  refine va_put (D := D) (ci := 5) (v := .int (nI 0)) (ty := .int) (C := R_Md) (T := T_Md) (N := 21) hx hb hts in_Md t_Md tk_Md nm_Md hown hK hP hD hS 0 rfl rfl 0 (by decide) (hts _ gm_525) (fun _ h9 => h9) rfl (by decide +kernel) rfl rfl (Nat.le_of_ble_eq_true rfl) dMd_more_2 (fun H locs hP hD hS => ?_)
  have hP : va_P D vwCl [(mo, .inr (5, [.int (nI 0), .ref xt, .ref xk, .ref xr, .int (nI nt), .int (nI nk), .int (nI nr), .ref xu, .ref xv, .ref xb, .ref xw, .ref xo, .ref xl, .ref xp, .ref yr, .ref ys, .ref yw, .ref yt, .ref yl, .ref yc, .int (nI wd)]))] H := hP
  have hD : va_D A [(mo, .inr (5, [.int (nI 0), .ref xt, .ref xk, .ref xr, .int (nI nt), .int (nI nk), .int (nI nr), .ref xu, .ref xv, .ref xb, .ref xw, .ref xo, .ref xl, .ref xp, .ref yr, .ref ys, .ref yw, .ref yt, .ref yl, .ref yc, .int (nI wd)]))] := hD
  refine lv_iload_n hx hb dMd_more_5 rfl (lv_at hl 1 rfl) ?_
  refine rc_i (wr := [(mo, .inr (5, [.int (nI 0), .ref xt, .ref xk, .ref xr, .int (nI nt), .int (nI nk), .int (nI nr), .ref xu, .ref xv, .ref xb, .ref xw, .ref xo, .ref xl, .ref xp, .ref yr, .ref ys, .ref yw, .ref yt, .ref yl, .ref yc, .int (nI wd)]))]) (va_runS (As := [.int x]) (rest := []) ⟨hx, hb, hml, hown, hts⟩ (t_r_strange l D k tb H.size x hq) (va_cwS 1 hts (gS gm_587 gm_588 gm_57 gm_589) rfl rfl rfl (by decide +kernel) ⟨Nat.le_of_ble_eq_true rfl, Nat.le_of_ble_eq_true rfl⟩) (cP_S hP hD hK hG hS hA [] (by decide) rfl) rfl rfl hl.1 rfl (lv_room (Nat.le_of_ble_eq_true rfl)) dMd_more_6 ⟨Nat.le_of_ble_eq_true rfl, Nat.le_of_ble_eq_true rfl⟩) hS hA hP hD [] [0] rfl rfl (by decide) (by decide) (fun r1 u H locs hw hP hD hS => ?_)
  have hP : va_P D vwCl [(mo, .inr (5, [.int (nI 0), .ref xt, .ref xk, .ref xr, .int (nI nt), .int (nI nk), .int (nI nr), .ref xu, .ref xv, .ref xb, .ref xw, .ref xo, .ref xl, .ref xp, .ref yr, .ref ys, .ref yw, .ref yt, .ref yl, .ref yc, .int (nI wd)]))] H := hP
  have hD : va_D A [(mo, .inr (5, [.int (nI 0), .ref xt, .ref xk, .ref xr, .int (nI nt), .int (nI nk), .int (nI nr), .ref xu, .ref xv, .ref xb, .ref xw, .ref xo, .ref xl, .ref xp, .ref yr, .ref ys, .ref yw, .ref yt, .ref yl, .ref yc, .int (nI wd)]))] := hD
  subst hw
  refine rz_eq (tgt := 19) hx hb dMd_more_9 (by decide) (by omega) (fun c_9 => absurd c_9 (by omega)) (fun c_9 => ?_)
  refine lv_aload_n hx hb dMd_more_12 rfl (lv_at hl 0 rfl) ?_
  refine lv_iconst (v := nI 1) hx hb dMd_more_13 (by decide) ?_
  refine rc_i (wr := []) (va_runV (As := [.int (nI 1)]) (rest := []) ⟨hx, hb, hml, hown, hts⟩ (c_r_fail l D k tb H.size mo xt xk xr nt nk nr xu xv xb xw xo xl xp yr ys yw yt yl yc wd (nI 0) (nI 1)) (cwV 1 hts (gV gm_576 gm_577 gm_39 gm_57 gm_578) rfl rfl rfl (by decide +kernel) ⟨Nat.le_of_ble_eq_true rfl, Nat.le_of_ble_eq_true rfl⟩) (cP_V hP hD hK hG hS hA [0] (by decide) rfl (ci := 5) (q0 := 0) rfl rfl) rfl rfl hl.1 rfl (lv_room (Nat.le_of_ble_eq_true rfl)) dMd_more_14 ⟨Nat.le_of_ble_eq_true rfl, Nat.le_of_ble_eq_true rfl⟩) hS hA hP hD [0] [] rfl rfl (by decide) (by decide) (fun r1 u H locs hw hP hD hS => ?_)
  have hP : va_P D vwCl [(mo, .inr (5, [.int (nI 1), .ref xt, .ref xk, .ref xr, .int (nI nt), .int (nI nk), .int (nI nr), .ref xu, .ref xv, .ref xb, .ref xw, .ref xo, .ref xl, .ref xp, .ref yr, .ref ys, .ref yw, .ref yt, .ref yl, .ref yc, .int (nI wd)]))] H := hP
  have hD : va_D A [(mo, .inr (5, [.int (nI 1), .ref xt, .ref xk, .ref xr, .int (nI nt), .int (nI nk), .int (nI nr), .ref xu, .ref xv, .ref xb, .ref xw, .ref xo, .ref xl, .ref xp, .ref yr, .ref ys, .ref yw, .ref yt, .ref yl, .ref yc, .int (nI wd)]))] := hD
  subst hw
  refine lv_i2l (v := (nI 0).toInt64) hx hb dMd_more_17 rfl ?_
  refine W.widen (k := 0) (n := 0) (Nat.le_refl _) (Nat.le_refl _) ?_
  exact W.lret (v := (nI 0).toInt64) hx hb hr (fun t ht hW => ⟨⟨(nI 0).toInt64, (), rfl, rfl, by rw [ht]; exact hP, hD⟩, hS.F ht⟩) hS.2.2 dMd_more_18
set_option maxHeartbeats 600000 in
set_option maxRecDepth 100000 in
theorem t_r_peek (l : Launch) (D : va_G) (k : Nat → ClassId) (tb : Nat → Nat) (sz : Nat) (mo xt xk xr nt nk nr xu xv xb xw xo xl xp yr ys yw yt yl yc wd : Nat) (th : Int32) (x : Int32) (hq : ¬ x < 0 → x < nI 3 → False) : Met l yMd_peek wMd_peek ({ frames := 1, cells := 0, slots := 0, locals := 21 }) (cP D k tb [(mo, .inr (5, [.int th, .ref xt, .ref xk, .ref xr, .int (nI nt), .int (nI nk), .int (nI nr), .ref xu, .ref xv, .ref xb, .ref xw, .ref xo, .ref xl, .ref xp, .ref yr, .ref ys, .ref yw, .ref yt, .ref yl, .ref yc, .int (nI wd)]))] sz [.ref mo, .int x]) (va_Qi (fun (r : Int32) (u : Unit) => r = nI 0) (fun (u : Unit) (t : State) => va_P D vwCl [(mo, .inr (5, [.int (nI 1), .ref xt, .ref xk, .ref xr, .int (nI nt), .int (nI nk), .int (nI nr), .ref xu, .ref xv, .ref xb, .ref xw, .ref xo, .ref xl, .ref xp, .ref yr, .ref ys, .ref yw, .ref yt, .ref yl, .ref yc, .int (nI wd)]))] t.heap ∧ va_D (va_A [(mo, .inr (5, [.int th, .ref xt, .ref xk, .ref xr, .int (nI nt), .int (nI nk), .int (nI nr), .ref xu, .ref xv, .ref xb, .ref xw, .ref xo, .ref xl, .ref xp, .ref yr, .ref ys, .ref yw, .ref yt, .ref yl, .ref yc, .int (nI wd)]))] sz) [(mo, .inr (5, [.int (nI 1), .ref xt, .ref xk, .ref xr, .int (nI nt), .int (nI nk), .int (nI nr), .ref xu, .ref xv, .ref xb, .ref xw, .ref xo, .ref xl, .ref xp, .ref yr, .ref ys, .ref yw, .ref yt, .ref yl, .ref yc, .int (nI wd)]))]) (va_A [(mo, .inr (5, [.int th, .ref xt, .ref xk, .ref xr, .int (nI nt), .int (nI nk), .int (nI nr), .ref xu, .ref xv, .ref xb, .ref xw, .ref xo, .ref xl, .ref xp, .ref yr, .ref ys, .ref yw, .ref yt, .ref yl, .ref yc, .int (nI wd)]))] sz)) (0) (0) (va_A [(mo, .inr (5, [.int th, .ref xt, .ref xk, .ref xr, .int (nI nt), .int (nI nk), .int (nI nr), .ref xu, .ref xv, .ref xb, .ref xw, .ref xo, .ref xl, .ref xp, .ref yr, .ref ys, .ref yw, .ref yt, .ref yl, .ref yc, .int (nI wd)]))] sz) := by
  refine Met.ofW (cc := cMd_peek) (maxL := 3) (ret := (some .int)) (by decide) rfl ?_
  intro p e s m args below meth c s₁ B hml hv
  obtain ⟨rfl, hsz, hP, hK, hD0, hG⟩ := hv
  have hx := B.exec
  have hb := B.bytes
  have hr := B.returns
  have hts : ∀ w ∈ GT, w.before _ s = true := fun w h => atoms_spec (ws := wMd_peek) B.pre w (List.mem_cons_of_mem _ h)
  have hown : s.vm.findClass R_Md = some m.cls := findClass_of_methodNamed B.named
  have hlocks := B.notSynchronized
  subst hsz
  have hD := hD0.self (sz := s.heap.size)
  generalize hAe : va_A [(mo, .inr (5, [.int th, .ref xt, .ref xk, .ref xr, .int (nI nt), .int (nI nk), .int (nI nr), .ref xu, .ref xv, .ref xb, .ref xw, .ref xo, .ref xl, .ref xp, .ref yr, .ref ys, .ref yw, .ref yt, .ref yl, .ref yc, .int (nI wd)]))] s.heap.size = A at hD hG ⊢
  have hA : ∀ q : Nat, s.heap.size ≤ q → A q := fun q h => by rw [← hAe]; exact Or.inr h
  have hl := lv_entry ([.ref mo, .int x]) (n := 3) (Nat.le_of_ble_eq_true rfl)
  rw [lg_entry_eq]
  generalize (lg_sl ([.ref mo, .int x]) ++ List.replicate (3 - (lg_sl ([.ref mo, .int x])).length) Slot.unset).toArray = ls at hl ⊢
  have hl : lv_has ls 3 [(0, .ref mo), (1, .int x)] := hl
  refine cw_start (A := A) hP (fun H locs hP hS => ?_)
  refine lv_aload_n hx hb dMd_peek_0 rfl (lv_at hl 0 rfl) ?_
  refine lv_iconst (v := nI 0) hx hb dMd_peek_1 (by decide) ?_
  refine va_put (D := D) (ci := 5) (v := .int (nI 0)) (ty := .int) (C := R_Md) (T := T_Md) (N := 21) hx hb hts in_Md t_Md tk_Md nm_Md hown hK hP hD hS 0 rfl rfl 0 (by decide) (hts _ gm_525) (fun _ h9 => h9) rfl (by decide +kernel) rfl rfl (Nat.le_of_ble_eq_true rfl) dMd_peek_2 (fun H locs hP hD hS => ?_)
  have hP : va_P D vwCl [(mo, .inr (5, [.int (nI 0), .ref xt, .ref xk, .ref xr, .int (nI nt), .int (nI nk), .int (nI nr), .ref xu, .ref xv, .ref xb, .ref xw, .ref xo, .ref xl, .ref xp, .ref yr, .ref ys, .ref yw, .ref yt, .ref yl, .ref yc, .int (nI wd)]))] H := hP
  have hD : va_D A [(mo, .inr (5, [.int (nI 0), .ref xt, .ref xk, .ref xr, .int (nI nt), .int (nI nk), .int (nI nr), .ref xu, .ref xv, .ref xb, .ref xw, .ref xo, .ref xl, .ref xp, .ref yr, .ref ys, .ref yw, .ref yt, .ref yl, .ref yc, .int (nI wd)]))] := hD
  refine lv_iload_n hx hb dMd_peek_5 rfl (lv_at hl 1 rfl) ?_
  refine rc_i (wr := [(mo, .inr (5, [.int (nI 0), .ref xt, .ref xk, .ref xr, .int (nI nt), .int (nI nk), .int (nI nr), .ref xu, .ref xv, .ref xb, .ref xw, .ref xo, .ref xl, .ref xp, .ref yr, .ref ys, .ref yw, .ref yt, .ref yl, .ref yc, .int (nI wd)]))]) (va_runS (As := [.int x]) (rest := []) ⟨hx, hb, hml, hown, hts⟩ (t_r_strange l D k tb H.size x hq) (va_cwS 1 hts (gS gm_587 gm_588 gm_57 gm_589) rfl rfl rfl (by decide +kernel) ⟨Nat.le_of_ble_eq_true rfl, Nat.le_of_ble_eq_true rfl⟩) (cP_S hP hD hK hG hS hA [] (by decide) rfl) rfl rfl hl.1 rfl (lv_room (Nat.le_of_ble_eq_true rfl)) dMd_peek_6 ⟨Nat.le_of_ble_eq_true rfl, Nat.le_of_ble_eq_true rfl⟩) hS hA hP hD [] [0] rfl rfl (by decide) (by decide) (fun r1 u H locs hw hP hD hS => ?_)
  have hP : va_P D vwCl [(mo, .inr (5, [.int (nI 0), .ref xt, .ref xk, .ref xr, .int (nI nt), .int (nI nk), .int (nI nr), .ref xu, .ref xv, .ref xb, .ref xw, .ref xo, .ref xl, .ref xp, .ref yr, .ref ys, .ref yw, .ref yt, .ref yl, .ref yc, .int (nI wd)]))] H := hP
  have hD : va_D A [(mo, .inr (5, [.int (nI 0), .ref xt, .ref xk, .ref xr, .int (nI nt), .int (nI nk), .int (nI nr), .ref xu, .ref xv, .ref xb, .ref xw, .ref xo, .ref xl, .ref xp, .ref yr, .ref ys, .ref yw, .ref yt, .ref yl, .ref yc, .int (nI wd)]))] := hD
  subst hw
  refine rz_eq (tgt := 18) hx hb dMd_peek_9 (by decide) (by omega) (fun c_9 => absurd c_9 (by omega)) (fun c_9 => ?_)
  refine lv_aload_n hx hb dMd_peek_12 rfl (lv_at hl 0 rfl) ?_
  refine lv_iconst (v := nI 1) hx hb dMd_peek_13 (by decide) ?_
  refine rc_i (wr := []) (va_runV (As := [.int (nI 1)]) (rest := []) ⟨hx, hb, hml, hown, hts⟩ (c_r_fail l D k tb H.size mo xt xk xr nt nk nr xu xv xb xw xo xl xp yr ys yw yt yl yc wd (nI 0) (nI 1)) (cwV 1 hts (gV gm_576 gm_577 gm_39 gm_57 gm_578) rfl rfl rfl (by decide +kernel) ⟨Nat.le_of_ble_eq_true rfl, Nat.le_of_ble_eq_true rfl⟩) (cP_V hP hD hK hG hS hA [0] (by decide) rfl (ci := 5) (q0 := 0) rfl rfl) rfl rfl hl.1 rfl (lv_room (Nat.le_of_ble_eq_true rfl)) dMd_peek_14 ⟨Nat.le_of_ble_eq_true rfl, Nat.le_of_ble_eq_true rfl⟩) hS hA hP hD [0] [] rfl rfl (by decide) (by decide) (fun r1 u H locs hw hP hD hS => ?_)
  have hP : va_P D vwCl [(mo, .inr (5, [.int (nI 1), .ref xt, .ref xk, .ref xr, .int (nI nt), .int (nI nk), .int (nI nr), .ref xu, .ref xv, .ref xb, .ref xw, .ref xo, .ref xl, .ref xp, .ref yr, .ref ys, .ref yw, .ref yt, .ref yl, .ref yc, .int (nI wd)]))] H := hP
  have hD : va_D A [(mo, .inr (5, [.int (nI 1), .ref xt, .ref xk, .ref xr, .int (nI nt), .int (nI nk), .int (nI nr), .ref xu, .ref xv, .ref xb, .ref xw, .ref xo, .ref xl, .ref xp, .ref yr, .ref ys, .ref yw, .ref yt, .ref yl, .ref yc, .int (nI wd)]))] := hD
  subst hw
  refine W.widen (k := 0) (n := 0) (Nat.le_refl _) (Nat.le_refl _) ?_
  exact W.iret (v := nI 0) hx hb hr (fun t ht hW => ⟨⟨nI 0, (), rfl, rfl, by rw [ht]; exact hP, hD⟩, hS.F ht⟩) hS.2.2 dMd_peek_17
set_option maxHeartbeats 600000 in
set_option maxRecDepth 100000 in
theorem t_r_hmac (l : Launch) (D : va_G) (k : Nat → ClassId) (tb : Nat → Nat) (sz : Nat) (mo xt xk xr nt nk nr xu xv xb xw xo xl xp yr ys yw yt yl yc wd : Nat) (th : Int32) (x : Int32) (hq : ¬ x < 0 → x < nI 3 → False) : Met l yMd_hmac wMd_hmac ({ frames := 1, cells := 0, slots := 0, locals := 21 }) (cP D k tb [(mo, .inr (5, [.int th, .ref xt, .ref xk, .ref xr, .int (nI nt), .int (nI nk), .int (nI nr), .ref xu, .ref xv, .ref xb, .ref xw, .ref xo, .ref xl, .ref xp, .ref yr, .ref ys, .ref yw, .ref yt, .ref yl, .ref yc, .int (nI wd)]))] sz [.ref mo, .int x]) (va_Qi (fun (r : Int32) (u : Unit) => r = nI 0) (fun (u : Unit) (t : State) => va_P D vwCl [(mo, .inr (5, [.int (nI 1), .ref xt, .ref xk, .ref xr, .int (nI nt), .int (nI nk), .int (nI nr), .ref xu, .ref xv, .ref xb, .ref xw, .ref xo, .ref xl, .ref xp, .ref yr, .ref ys, .ref yw, .ref yt, .ref yl, .ref yc, .int (nI wd)]))] t.heap ∧ va_D (va_A [(mo, .inr (5, [.int th, .ref xt, .ref xk, .ref xr, .int (nI nt), .int (nI nk), .int (nI nr), .ref xu, .ref xv, .ref xb, .ref xw, .ref xo, .ref xl, .ref xp, .ref yr, .ref ys, .ref yw, .ref yt, .ref yl, .ref yc, .int (nI wd)]))] sz) [(mo, .inr (5, [.int (nI 1), .ref xt, .ref xk, .ref xr, .int (nI nt), .int (nI nk), .int (nI nr), .ref xu, .ref xv, .ref xb, .ref xw, .ref xo, .ref xl, .ref xp, .ref yr, .ref ys, .ref yw, .ref yt, .ref yl, .ref yc, .int (nI wd)]))]) (va_A [(mo, .inr (5, [.int th, .ref xt, .ref xk, .ref xr, .int (nI nt), .int (nI nk), .int (nI nr), .ref xu, .ref xv, .ref xb, .ref xw, .ref xo, .ref xl, .ref xp, .ref yr, .ref ys, .ref yw, .ref yt, .ref yl, .ref yc, .int (nI wd)]))] sz)) (0) (0) (va_A [(mo, .inr (5, [.int th, .ref xt, .ref xk, .ref xr, .int (nI nt), .int (nI nk), .int (nI nr), .ref xu, .ref xv, .ref xb, .ref xw, .ref xo, .ref xl, .ref xp, .ref yr, .ref ys, .ref yw, .ref yt, .ref yl, .ref yc, .int (nI wd)]))] sz) := by
  refine Met.ofW (cc := cMd_hmac) (maxL := 3) (ret := (some .int)) (by decide) rfl ?_
  intro p e s m args below meth c s₁ B hml hv
  obtain ⟨rfl, hsz, hP, hK, hD0, hG⟩ := hv
  have hx := B.exec
  have hb := B.bytes
  have hr := B.returns
  have hts : ∀ w ∈ GT, w.before _ s = true := fun w h => atoms_spec (ws := wMd_hmac) B.pre w (List.mem_cons_of_mem _ h)
  have hown : s.vm.findClass R_Md = some m.cls := findClass_of_methodNamed B.named
  have hlocks := B.notSynchronized
  subst hsz
  have hD := hD0.self (sz := s.heap.size)
  generalize hAe : va_A [(mo, .inr (5, [.int th, .ref xt, .ref xk, .ref xr, .int (nI nt), .int (nI nk), .int (nI nr), .ref xu, .ref xv, .ref xb, .ref xw, .ref xo, .ref xl, .ref xp, .ref yr, .ref ys, .ref yw, .ref yt, .ref yl, .ref yc, .int (nI wd)]))] s.heap.size = A at hD hG ⊢
  have hA : ∀ q : Nat, s.heap.size ≤ q → A q := fun q h => by rw [← hAe]; exact Or.inr h
  have hl := lv_entry ([.ref mo, .int x]) (n := 3) (Nat.le_of_ble_eq_true rfl)
  rw [lg_entry_eq]
  generalize (lg_sl ([.ref mo, .int x]) ++ List.replicate (3 - (lg_sl ([.ref mo, .int x])).length) Slot.unset).toArray = ls at hl ⊢
  have hl : lv_has ls 3 [(0, .ref mo), (1, .int x)] := hl
  refine cw_start (A := A) hP (fun H locs hP hS => ?_)
  refine lv_aload_n hx hb dMd_hmac_0 rfl (lv_at hl 0 rfl) ?_
  refine lv_iconst (v := nI 0) hx hb dMd_hmac_1 (by decide) ?_
  refine va_put (D := D) (ci := 5) (v := .int (nI 0)) (ty := .int) (C := R_Md) (T := T_Md) (N := 21) hx hb hts in_Md t_Md tk_Md nm_Md hown hK hP hD hS 0 rfl rfl 0 (by decide) (hts _ gm_525) (fun _ h9 => h9) rfl (by decide +kernel) rfl rfl (Nat.le_of_ble_eq_true rfl) dMd_hmac_2 (fun H locs hP hD hS => ?_)
  have hP : va_P D vwCl [(mo, .inr (5, [.int (nI 0), .ref xt, .ref xk, .ref xr, .int (nI nt), .int (nI nk), .int (nI nr), .ref xu, .ref xv, .ref xb, .ref xw, .ref xo, .ref xl, .ref xp, .ref yr, .ref ys, .ref yw, .ref yt, .ref yl, .ref yc, .int (nI wd)]))] H := hP
  have hD : va_D A [(mo, .inr (5, [.int (nI 0), .ref xt, .ref xk, .ref xr, .int (nI nt), .int (nI nk), .int (nI nr), .ref xu, .ref xv, .ref xb, .ref xw, .ref xo, .ref xl, .ref xp, .ref yr, .ref ys, .ref yw, .ref yt, .ref yl, .ref yc, .int (nI wd)]))] := hD
  refine lv_iload_n hx hb dMd_hmac_5 rfl (lv_at hl 1 rfl) ?_
  refine rc_i (wr := [(mo, .inr (5, [.int (nI 0), .ref xt, .ref xk, .ref xr, .int (nI nt), .int (nI nk), .int (nI nr), .ref xu, .ref xv, .ref xb, .ref xw, .ref xo, .ref xl, .ref xp, .ref yr, .ref ys, .ref yw, .ref yt, .ref yl, .ref yc, .int (nI wd)]))]) (va_runS (As := [.int x]) (rest := []) ⟨hx, hb, hml, hown, hts⟩ (t_r_strange l D k tb H.size x hq) (va_cwS 1 hts (gS gm_587 gm_588 gm_57 gm_589) rfl rfl rfl (by decide +kernel) ⟨Nat.le_of_ble_eq_true rfl, Nat.le_of_ble_eq_true rfl⟩) (cP_S hP hD hK hG hS hA [] (by decide) rfl) rfl rfl hl.1 rfl (lv_room (Nat.le_of_ble_eq_true rfl)) dMd_hmac_6 ⟨Nat.le_of_ble_eq_true rfl, Nat.le_of_ble_eq_true rfl⟩) hS hA hP hD [] [0] rfl rfl (by decide) (by decide) (fun r1 u H locs hw hP hD hS => ?_)
  have hP : va_P D vwCl [(mo, .inr (5, [.int (nI 0), .ref xt, .ref xk, .ref xr, .int (nI nt), .int (nI nk), .int (nI nr), .ref xu, .ref xv, .ref xb, .ref xw, .ref xo, .ref xl, .ref xp, .ref yr, .ref ys, .ref yw, .ref yt, .ref yl, .ref yc, .int (nI wd)]))] H := hP
  have hD : va_D A [(mo, .inr (5, [.int (nI 0), .ref xt, .ref xk, .ref xr, .int (nI nt), .int (nI nk), .int (nI nr), .ref xu, .ref xv, .ref xb, .ref xw, .ref xo, .ref xl, .ref xp, .ref yr, .ref ys, .ref yw, .ref yt, .ref yl, .ref yc, .int (nI wd)]))] := hD
  subst hw
  refine rz_eq (tgt := 18) hx hb dMd_hmac_9 (by decide) (by omega) (fun c_9 => absurd c_9 (by omega)) (fun c_9 => ?_)
  refine lv_aload_n hx hb dMd_hmac_12 rfl (lv_at hl 0 rfl) ?_
  refine lv_iconst (v := nI 1) hx hb dMd_hmac_13 (by decide) ?_
  refine rc_i (wr := []) (va_runV (As := [.int (nI 1)]) (rest := []) ⟨hx, hb, hml, hown, hts⟩ (c_r_fail l D k tb H.size mo xt xk xr nt nk nr xu xv xb xw xo xl xp yr ys yw yt yl yc wd (nI 0) (nI 1)) (cwV 1 hts (gV gm_576 gm_577 gm_39 gm_57 gm_578) rfl rfl rfl (by decide +kernel) ⟨Nat.le_of_ble_eq_true rfl, Nat.le_of_ble_eq_true rfl⟩) (cP_V hP hD hK hG hS hA [0] (by decide) rfl (ci := 5) (q0 := 0) rfl rfl) rfl rfl hl.1 rfl (lv_room (Nat.le_of_ble_eq_true rfl)) dMd_hmac_14 ⟨Nat.le_of_ble_eq_true rfl, Nat.le_of_ble_eq_true rfl⟩) hS hA hP hD [0] [] rfl rfl (by decide) (by decide) (fun r1 u H locs hw hP hD hS => ?_)
  have hP : va_P D vwCl [(mo, .inr (5, [.int (nI 1), .ref xt, .ref xk, .ref xr, .int (nI nt), .int (nI nk), .int (nI nr), .ref xu, .ref xv, .ref xb, .ref xw, .ref xo, .ref xl, .ref xp, .ref yr, .ref ys, .ref yw, .ref yt, .ref yl, .ref yc, .int (nI wd)]))] H := hP
  have hD : va_D A [(mo, .inr (5, [.int (nI 1), .ref xt, .ref xk, .ref xr, .int (nI nt), .int (nI nk), .int (nI nr), .ref xu, .ref xv, .ref xb, .ref xw, .ref xo, .ref xl, .ref xp, .ref yr, .ref ys, .ref yw, .ref yt, .ref yl, .ref yc, .int (nI wd)]))] := hD
  subst hw
  refine W.widen (k := 0) (n := 0) (Nat.le_refl _) (Nat.le_refl _) ?_
  exact W.iret (v := nI 0) hx hb hr (fun t ht hW => ⟨⟨nI 0, (), rfl, rfl, by rw [ht]; exact hP, hD⟩, hS.F ht⟩) hS.2.2 dMd_hmac_17
set_option maxHeartbeats 600000 in
set_option maxRecDepth 100000 in
theorem t_r_expand (l : Launch) (D : va_G) (k : Nat → ClassId) (tb : Nat → Nat) (sz : Nat) (mo xt xk xr nt nk nr xu xv xb xw xo xl xp yr ys yw yt yl yc wd : Nat) (th : Int32) (x x0 : Int32) (hq : ¬ x < 0 → x < nI 3 → False) : Met l yMd_expand wMd_expand ({ frames := 1, cells := 0, slots := 0, locals := 21 }) (cP D k tb [(mo, .inr (5, [.int th, .ref xt, .ref xk, .ref xr, .int (nI nt), .int (nI nk), .int (nI nr), .ref xu, .ref xv, .ref xb, .ref xw, .ref xo, .ref xl, .ref xp, .ref yr, .ref ys, .ref yw, .ref yt, .ref yl, .ref yc, .int (nI wd)]))] sz [.ref mo, .int x, .int x0]) (va_Qi (fun (r : Int32) (u : Unit) => r = nI 0) (fun (u : Unit) (t : State) => va_P D vwCl [(mo, .inr (5, [.int (nI 1), .ref xt, .ref xk, .ref xr, .int (nI nt), .int (nI nk), .int (nI nr), .ref xu, .ref xv, .ref xb, .ref xw, .ref xo, .ref xl, .ref xp, .ref yr, .ref ys, .ref yw, .ref yt, .ref yl, .ref yc, .int (nI wd)]))] t.heap ∧ va_D (va_A [(mo, .inr (5, [.int th, .ref xt, .ref xk, .ref xr, .int (nI nt), .int (nI nk), .int (nI nr), .ref xu, .ref xv, .ref xb, .ref xw, .ref xo, .ref xl, .ref xp, .ref yr, .ref ys, .ref yw, .ref yt, .ref yl, .ref yc, .int (nI wd)]))] sz) [(mo, .inr (5, [.int (nI 1), .ref xt, .ref xk, .ref xr, .int (nI nt), .int (nI nk), .int (nI nr), .ref xu, .ref xv, .ref xb, .ref xw, .ref xo, .ref xl, .ref xp, .ref yr, .ref ys, .ref yw, .ref yt, .ref yl, .ref yc, .int (nI wd)]))]) (va_A [(mo, .inr (5, [.int th, .ref xt, .ref xk, .ref xr, .int (nI nt), .int (nI nk), .int (nI nr), .ref xu, .ref xv, .ref xb, .ref xw, .ref xo, .ref xl, .ref xp, .ref yr, .ref ys, .ref yw, .ref yt, .ref yl, .ref yc, .int (nI wd)]))] sz)) (0) (0) (va_A [(mo, .inr (5, [.int th, .ref xt, .ref xk, .ref xr, .int (nI nt), .int (nI nk), .int (nI nr), .ref xu, .ref xv, .ref xb, .ref xw, .ref xo, .ref xl, .ref xp, .ref yr, .ref ys, .ref yw, .ref yt, .ref yl, .ref yc, .int (nI wd)]))] sz) := by
  refine Met.ofW (cc := cMd_expand) (maxL := 3) (ret := (some .int)) (by decide) rfl ?_
  intro p e s m args below meth c s₁ B hml hv
  obtain ⟨rfl, hsz, hP, hK, hD0, hG⟩ := hv
  have hx := B.exec
  have hb := B.bytes
  have hr := B.returns
  have hts : ∀ w ∈ GT, w.before _ s = true := fun w h => atoms_spec (ws := wMd_expand) B.pre w (List.mem_cons_of_mem _ h)
  have hown : s.vm.findClass R_Md = some m.cls := findClass_of_methodNamed B.named
  have hlocks := B.notSynchronized
  subst hsz
  have hD := hD0.self (sz := s.heap.size)
  generalize hAe : va_A [(mo, .inr (5, [.int th, .ref xt, .ref xk, .ref xr, .int (nI nt), .int (nI nk), .int (nI nr), .ref xu, .ref xv, .ref xb, .ref xw, .ref xo, .ref xl, .ref xp, .ref yr, .ref ys, .ref yw, .ref yt, .ref yl, .ref yc, .int (nI wd)]))] s.heap.size = A at hD hG ⊢
  have hA : ∀ q : Nat, s.heap.size ≤ q → A q := fun q h => by rw [← hAe]; exact Or.inr h
  have hl := lv_entry ([.ref mo, .int x, .int x0]) (n := 3) (Nat.le_of_ble_eq_true rfl)
  rw [lg_entry_eq]
  generalize (lg_sl ([.ref mo, .int x, .int x0]) ++ List.replicate (3 - (lg_sl ([.ref mo, .int x, .int x0])).length) Slot.unset).toArray = ls at hl ⊢
  have hl : lv_has ls 3 [(0, .ref mo), (1, .int x), (2, .int x0)] := hl
  refine cw_start (A := A) hP (fun H locs hP hS => ?_)
  refine lv_aload_n hx hb dMd_expand_0 rfl (lv_at hl 0 rfl) ?_
  refine lv_iconst (v := nI 0) hx hb dMd_expand_1 (by decide) ?_
  refine va_put (D := D) (ci := 5) (v := .int (nI 0)) (ty := .int) (C := R_Md) (T := T_Md) (N := 21) hx hb hts in_Md t_Md tk_Md nm_Md hown hK hP hD hS 0 rfl rfl 0 (by decide) (hts _ gm_525) (fun _ h9 => h9) rfl (by decide +kernel) rfl rfl (Nat.le_of_ble_eq_true rfl) dMd_expand_2 (fun H locs hP hD hS => ?_)
  have hP : va_P D vwCl [(mo, .inr (5, [.int (nI 0), .ref xt, .ref xk, .ref xr, .int (nI nt), .int (nI nk), .int (nI nr), .ref xu, .ref xv, .ref xb, .ref xw, .ref xo, .ref xl, .ref xp, .ref yr, .ref ys, .ref yw, .ref yt, .ref yl, .ref yc, .int (nI wd)]))] H := hP
  have hD : va_D A [(mo, .inr (5, [.int (nI 0), .ref xt, .ref xk, .ref xr, .int (nI nt), .int (nI nk), .int (nI nr), .ref xu, .ref xv, .ref xb, .ref xw, .ref xo, .ref xl, .ref xp, .ref yr, .ref ys, .ref yw, .ref yt, .ref yl, .ref yc, .int (nI wd)]))] := hD
  refine lv_iload_n hx hb dMd_expand_5 rfl (lv_at hl 1 rfl) ?_
  refine rc_i (wr := [(mo, .inr (5, [.int (nI 0), .ref xt, .ref xk, .ref xr, .int (nI nt), .int (nI nk), .int (nI nr), .ref xu, .ref xv, .ref xb, .ref xw, .ref xo, .ref xl, .ref xp, .ref yr, .ref ys, .ref yw, .ref yt, .ref yl, .ref yc, .int (nI wd)]))]) (va_runS (As := [.int x]) (rest := []) ⟨hx, hb, hml, hown, hts⟩ (t_r_strange l D k tb H.size x hq) (va_cwS 1 hts (gS gm_587 gm_588 gm_57 gm_589) rfl rfl rfl (by decide +kernel) ⟨Nat.le_of_ble_eq_true rfl, Nat.le_of_ble_eq_true rfl⟩) (cP_S hP hD hK hG hS hA [] (by decide) rfl) rfl rfl hl.1 rfl (lv_room (Nat.le_of_ble_eq_true rfl)) dMd_expand_6 ⟨Nat.le_of_ble_eq_true rfl, Nat.le_of_ble_eq_true rfl⟩) hS hA hP hD [] [0] rfl rfl (by decide) (by decide) (fun r1 u H locs hw hP hD hS => ?_)
  have hP : va_P D vwCl [(mo, .inr (5, [.int (nI 0), .ref xt, .ref xk, .ref xr, .int (nI nt), .int (nI nk), .int (nI nr), .ref xu, .ref xv, .ref xb, .ref xw, .ref xo, .ref xl, .ref xp, .ref yr, .ref ys, .ref yw, .ref yt, .ref yl, .ref yc, .int (nI wd)]))] H := hP
  have hD : va_D A [(mo, .inr (5, [.int (nI 0), .ref xt, .ref xk, .ref xr, .int (nI nt), .int (nI nk), .int (nI nr), .ref xu, .ref xv, .ref xb, .ref xw, .ref xo, .ref xl, .ref xp, .ref yr, .ref ys, .ref yw, .ref yt, .ref yl, .ref yc, .int (nI wd)]))] := hD
  subst hw
  refine rz_eq (tgt := 18) hx hb dMd_expand_9 (by decide) (by omega) (fun c_9 => absurd c_9 (by omega)) (fun c_9 => ?_)
  refine lv_aload_n hx hb dMd_expand_12 rfl (lv_at hl 0 rfl) ?_
  refine lv_iconst (v := nI 1) hx hb dMd_expand_13 (by decide) ?_
  refine rc_i (wr := []) (va_runV (As := [.int (nI 1)]) (rest := []) ⟨hx, hb, hml, hown, hts⟩ (c_r_fail l D k tb H.size mo xt xk xr nt nk nr xu xv xb xw xo xl xp yr ys yw yt yl yc wd (nI 0) (nI 1)) (cwV 1 hts (gV gm_576 gm_577 gm_39 gm_57 gm_578) rfl rfl rfl (by decide +kernel) ⟨Nat.le_of_ble_eq_true rfl, Nat.le_of_ble_eq_true rfl⟩) (cP_V hP hD hK hG hS hA [0] (by decide) rfl (ci := 5) (q0 := 0) rfl rfl) rfl rfl hl.1 rfl (lv_room (Nat.le_of_ble_eq_true rfl)) dMd_expand_14 ⟨Nat.le_of_ble_eq_true rfl, Nat.le_of_ble_eq_true rfl⟩) hS hA hP hD [0] [] rfl rfl (by decide) (by decide) (fun r1 u H locs hw hP hD hS => ?_)
  have hP : va_P D vwCl [(mo, .inr (5, [.int (nI 1), .ref xt, .ref xk, .ref xr, .int (nI nt), .int (nI nk), .int (nI nr), .ref xu, .ref xv, .ref xb, .ref xw, .ref xo, .ref xl, .ref xp, .ref yr, .ref ys, .ref yw, .ref yt, .ref yl, .ref yc, .int (nI wd)]))] H := hP
  have hD : va_D A [(mo, .inr (5, [.int (nI 1), .ref xt, .ref xk, .ref xr, .int (nI nt), .int (nI nk), .int (nI nr), .ref xu, .ref xv, .ref xb, .ref xw, .ref xo, .ref xl, .ref xp, .ref yr, .ref ys, .ref yw, .ref yt, .ref yl, .ref yc, .int (nI wd)]))] := hD
  subst hw
  refine W.widen (k := 0) (n := 0) (Nat.le_refl _) (Nat.le_refl _) ?_
  exact W.iret (v := nI 0) hx hb hr (fun t ht hW => ⟨⟨nI 0, (), rfl, rfl, by rw [ht]; exact hP, hD⟩, hS.F ht⟩) hS.2.2 dMd_expand_17
set_option maxHeartbeats 600000 in
set_option maxRecDepth 100000 in
theorem t_r_expandLabel (l : Launch) (D : va_G) (k : Nat → ClassId) (tb : Nat → Nat) (sz : Nat) (mo xt xk xr nt nk nr xu xv xb xw xo xl xp yr ys yw yt yl yc wd : Nat) (th : Int32) (x x0 x1 : Int32) (hq : ¬ x < 0 → x < nI 3 → False) : Met l yMd_expandLabel wMd_expandLabel ({ frames := 1, cells := 0, slots := 0, locals := 21 }) (cP D k tb [(mo, .inr (5, [.int th, .ref xt, .ref xk, .ref xr, .int (nI nt), .int (nI nk), .int (nI nr), .ref xu, .ref xv, .ref xb, .ref xw, .ref xo, .ref xl, .ref xp, .ref yr, .ref ys, .ref yw, .ref yt, .ref yl, .ref yc, .int (nI wd)]))] sz [.ref mo, .int x, .int x0, .int x1]) (va_Qi (fun (r : Int32) (u : Unit) => r = nI 0) (fun (u : Unit) (t : State) => va_P D vwCl [(mo, .inr (5, [.int (nI 1), .ref xt, .ref xk, .ref xr, .int (nI nt), .int (nI nk), .int (nI nr), .ref xu, .ref xv, .ref xb, .ref xw, .ref xo, .ref xl, .ref xp, .ref yr, .ref ys, .ref yw, .ref yt, .ref yl, .ref yc, .int (nI wd)]))] t.heap ∧ va_D (va_A [(mo, .inr (5, [.int th, .ref xt, .ref xk, .ref xr, .int (nI nt), .int (nI nk), .int (nI nr), .ref xu, .ref xv, .ref xb, .ref xw, .ref xo, .ref xl, .ref xp, .ref yr, .ref ys, .ref yw, .ref yt, .ref yl, .ref yc, .int (nI wd)]))] sz) [(mo, .inr (5, [.int (nI 1), .ref xt, .ref xk, .ref xr, .int (nI nt), .int (nI nk), .int (nI nr), .ref xu, .ref xv, .ref xb, .ref xw, .ref xo, .ref xl, .ref xp, .ref yr, .ref ys, .ref yw, .ref yt, .ref yl, .ref yc, .int (nI wd)]))]) (va_A [(mo, .inr (5, [.int th, .ref xt, .ref xk, .ref xr, .int (nI nt), .int (nI nk), .int (nI nr), .ref xu, .ref xv, .ref xb, .ref xw, .ref xo, .ref xl, .ref xp, .ref yr, .ref ys, .ref yw, .ref yt, .ref yl, .ref yc, .int (nI wd)]))] sz)) (0) (0) (va_A [(mo, .inr (5, [.int th, .ref xt, .ref xk, .ref xr, .int (nI nt), .int (nI nk), .int (nI nr), .ref xu, .ref xv, .ref xb, .ref xw, .ref xo, .ref xl, .ref xp, .ref yr, .ref ys, .ref yw, .ref yt, .ref yl, .ref yc, .int (nI wd)]))] sz) := by
  refine Met.ofW (cc := cMd_expandLabel) (maxL := 6) (ret := (some .int)) (by decide) rfl ?_
  intro p e s m args below meth c s₁ B hml hv
  obtain ⟨rfl, hsz, hP, hK, hD0, hG⟩ := hv
  have hx := B.exec
  have hb := B.bytes
  have hr := B.returns
  have hts : ∀ w ∈ GT, w.before _ s = true := fun w h => atoms_spec (ws := wMd_expandLabel) B.pre w (List.mem_cons_of_mem _ h)
  have hown : s.vm.findClass R_Md = some m.cls := findClass_of_methodNamed B.named
  have hlocks := B.notSynchronized
  subst hsz
  have hD := hD0.self (sz := s.heap.size)
  generalize hAe : va_A [(mo, .inr (5, [.int th, .ref xt, .ref xk, .ref xr, .int (nI nt), .int (nI nk), .int (nI nr), .ref xu, .ref xv, .ref xb, .ref xw, .ref xo, .ref xl, .ref xp, .ref yr, .ref ys, .ref yw, .ref yt, .ref yl, .ref yc, .int (nI wd)]))] s.heap.size = A at hD hG ⊢
  have hA : ∀ q : Nat, s.heap.size ≤ q → A q := fun q h => by rw [← hAe]; exact Or.inr h
  have hl := lv_entry ([.ref mo, .int x, .int x0, .int x1]) (n := 6) (Nat.le_of_ble_eq_true rfl)
  rw [lg_entry_eq]
  generalize (lg_sl ([.ref mo, .int x, .int x0, .int x1]) ++ List.replicate (6 - (lg_sl ([.ref mo, .int x, .int x0, .int x1])).length) Slot.unset).toArray = ls at hl ⊢
  have hl : lv_has ls 6 [(0, .ref mo), (1, .int x), (2, .int x0), (3, .int x1)] := hl
  refine cw_start (A := A) hP (fun H locs hP hS => ?_)
  refine lv_aload_n hx hb dMd_expandLabel_0 rfl (lv_at hl 0 rfl) ?_
  refine lv_iconst (v := nI 0) hx hb dMd_expandLabel_1 (by decide) ?_
  refine va_put (D := D) (ci := 5) (v := .int (nI 0)) (ty := .int) (C := R_Md) (T := T_Md) (N := 21) hx hb hts in_Md t_Md tk_Md nm_Md hown hK hP hD hS 0 rfl rfl 0 (by decide) (hts _ gm_525) (fun _ h9 => h9) rfl (by decide +kernel) rfl rfl (Nat.le_of_ble_eq_true rfl) dMd_expandLabel_2 (fun H locs hP hD hS => ?_)
  have hP : va_P D vwCl [(mo, .inr (5, [.int (nI 0), .ref xt, .ref xk, .ref xr, .int (nI nt), .int (nI nk), .int (nI nr), .ref xu, .ref xv, .ref xb, .ref xw, .ref xo, .ref xl, .ref xp, .ref yr, .ref ys, .ref yw, .ref yt, .ref yl, .ref yc, .int (nI wd)]))] H := hP
  have hD : va_D A [(mo, .inr (5, [.int (nI 0), .ref xt, .ref xk, .ref xr, .int (nI nt), .int (nI nk), .int (nI nr), .ref xu, .ref xv, .ref xb, .ref xw, .ref xo, .ref xl, .ref xp, .ref yr, .ref ys, .ref yw, .ref yt, .ref yl, .ref yc, .int (nI wd)]))] := hD
  refine lv_iload_n hx hb dMd_expandLabel_5 rfl (lv_at hl 1 rfl) ?_
  refine rc_i (wr := [(mo, .inr (5, [.int (nI 0), .ref xt, .ref xk, .ref xr, .int (nI nt), .int (nI nk), .int (nI nr), .ref xu, .ref xv, .ref xb, .ref xw, .ref xo, .ref xl, .ref xp, .ref yr, .ref ys, .ref yw, .ref yt, .ref yl, .ref yc, .int (nI wd)]))]) (va_runS (As := [.int x]) (rest := []) ⟨hx, hb, hml, hown, hts⟩ (t_r_strange l D k tb H.size x hq) (va_cwS 1 hts (gS gm_587 gm_588 gm_57 gm_589) rfl rfl rfl (by decide +kernel) ⟨Nat.le_of_ble_eq_true rfl, Nat.le_of_ble_eq_true rfl⟩) (cP_S hP hD hK hG hS hA [] (by decide) rfl) rfl rfl hl.1 rfl (lv_room (Nat.le_of_ble_eq_true rfl)) dMd_expandLabel_6 ⟨Nat.le_of_ble_eq_true rfl, Nat.le_of_ble_eq_true rfl⟩) hS hA hP hD [] [0] rfl rfl (by decide) (by decide) (fun r1 u H locs hw hP hD hS => ?_)
  have hP : va_P D vwCl [(mo, .inr (5, [.int (nI 0), .ref xt, .ref xk, .ref xr, .int (nI nt), .int (nI nk), .int (nI nr), .ref xu, .ref xv, .ref xb, .ref xw, .ref xo, .ref xl, .ref xp, .ref yr, .ref ys, .ref yw, .ref yt, .ref yl, .ref yc, .int (nI wd)]))] H := hP
  have hD : va_D A [(mo, .inr (5, [.int (nI 0), .ref xt, .ref xk, .ref xr, .int (nI nt), .int (nI nk), .int (nI nr), .ref xu, .ref xv, .ref xb, .ref xw, .ref xo, .ref xl, .ref xp, .ref yr, .ref ys, .ref yw, .ref yt, .ref yl, .ref yc, .int (nI wd)]))] := hD
  subst hw
  refine rz_eq (tgt := 18) hx hb dMd_expandLabel_9 (by decide) (by omega) (fun c_9 => absurd c_9 (by omega)) (fun c_9 => ?_)
  refine lv_aload_n hx hb dMd_expandLabel_12 rfl (lv_at hl 0 rfl) ?_
  refine lv_iconst (v := nI 1) hx hb dMd_expandLabel_13 (by decide) ?_
  refine rc_i (wr := []) (va_runV (As := [.int (nI 1)]) (rest := []) ⟨hx, hb, hml, hown, hts⟩ (c_r_fail l D k tb H.size mo xt xk xr nt nk nr xu xv xb xw xo xl xp yr ys yw yt yl yc wd (nI 0) (nI 1)) (cwV 1 hts (gV gm_576 gm_577 gm_39 gm_57 gm_578) rfl rfl rfl (by decide +kernel) ⟨Nat.le_of_ble_eq_true rfl, Nat.le_of_ble_eq_true rfl⟩) (cP_V hP hD hK hG hS hA [0] (by decide) rfl (ci := 5) (q0 := 0) rfl rfl) rfl rfl hl.1 rfl (lv_room (Nat.le_of_ble_eq_true rfl)) dMd_expandLabel_14 ⟨Nat.le_of_ble_eq_true rfl, Nat.le_of_ble_eq_true rfl⟩) hS hA hP hD [0] [] rfl rfl (by decide) (by decide) (fun r1 u H locs hw hP hD hS => ?_)
  have hP : va_P D vwCl [(mo, .inr (5, [.int (nI 1), .ref xt, .ref xk, .ref xr, .int (nI nt), .int (nI nk), .int (nI nr), .ref xu, .ref xv, .ref xb, .ref xw, .ref xo, .ref xl, .ref xp, .ref yr, .ref ys, .ref yw, .ref yt, .ref yl, .ref yc, .int (nI wd)]))] H := hP
  have hD : va_D A [(mo, .inr (5, [.int (nI 1), .ref xt, .ref xk, .ref xr, .int (nI nt), .int (nI nk), .int (nI nr), .ref xu, .ref xv, .ref xb, .ref xw, .ref xo, .ref xl, .ref xp, .ref yr, .ref ys, .ref yw, .ref yt, .ref yl, .ref yc, .int (nI wd)]))] := hD
  subst hw
  refine W.widen (k := 0) (n := 0) (Nat.le_refl _) (Nat.le_refl _) ?_
  exact W.iret (v := nI 0) hx hb hr (fun t ht hW => ⟨⟨nI 0, (), rfl, rfl, by rw [ht]; exact hP, hD⟩, hS.F ht⟩) hS.2.2 dMd_expandLabel_17
def rcq (src dst : Nat → Int8) (d : Nat) : Nat → Nat → Int8
  | 0 => dst
  | n + 1 => va_up (rcq src dst d n) (d + n) (src n)
theorem rcq_eq (src dst : Nat → Int8) (d : Nat) : ∀ n, rcq src dst d n = rcp src dst 0 d n
  | 0 => rfl
  | n + 1 => by show va_up (rcq src dst d n) (d + n) (src n) = va_up (rcp src dst 0 d n) (d + n) (src (0 + n)); rw [rcq_eq src dst d n, Nat.zero_add]
set_option maxHeartbeats 600000 in
set_option maxRecDepth 100000 in
theorem c_r_more (l : Launch) (D : va_G) (k : Nat → ClassId) (tb : Nat → Nat) (sz : Nat) (mo xt xk xr nt nk nr xu xv xb xw xo xl xp yr ys yw yt yl yc wd : Nat) (th : Int32) (kd nu : Nat) (hkd : kd < 3) (ft fu : Nat → Int8) (fv fb : Nat → Int32) (hvk : fv kd = nI nu) (hnt : nt < 20000) (hnu : nu + nt < 81920) : Met l yMd_more wMd_more ({ frames := 1, cells := 0, slots := 0, locals := 20 }) (cP D k tb [(mo, .inr (5, [.int th, .ref xt, .ref xk, .ref xr, .int (nI nt), .int (nI nk), .int (nI nr), .ref xu, .ref xv, .ref xb, .ref xw, .ref xo, .ref xl, .ref xp, .ref yr, .ref ys, .ref yw, .ref yt, .ref yl, .ref yc, .int (nI wd)])), (xt, .inl (k 0, 65536, .inl (by_ ft))), (xu, .inl (k 0, 245760, .inl (by_ fu))), (xv, .inl (k 1, 3, .inl fv)), (xb, .inl (k 1, 3, .inl fb))] sz [.ref mo, .int (nI kd)]) (va_Ql (fun (r : Int64) (u : Unit) => r = (nI (nu + nt)).toInt64) (fun (u : Unit) (t : State) => va_P D vwCl [(mo, .inr (5, [.int (nI 0), .ref xt, .ref xk, .ref xr, .int (nI 0), .int (nI nk), .int (nI nr), .ref xu, .ref xv, .ref xb, .ref xw, .ref xo, .ref xl, .ref xp, .ref yr, .ref ys, .ref yw, .ref yt, .ref yl, .ref yc, .int (nI wd)])), (xt, .inl (k 0, 65536, .inl (by_ ft))), (xu, .inl (k 0, 245760, .inl (by_ (rcq ft fu (81920 * kd + nu) nt)))), (xv, .inl (k 1, 3, .inl (upd fv kd (nI (nu + nt))))), (xb, .inl (k 1, 3, .inl (upd fb kd (fb kd + nI ((nu + nt) / rBl kd - nu / rBl kd)))))] t.heap ∧ va_D (va_A [(mo, .inr (5, [.int th, .ref xt, .ref xk, .ref xr, .int (nI nt), .int (nI nk), .int (nI nr), .ref xu, .ref xv, .ref xb, .ref xw, .ref xo, .ref xl, .ref xp, .ref yr, .ref ys, .ref yw, .ref yt, .ref yl, .ref yc, .int (nI wd)])), (xt, .inl (k 0, 65536, .inl (by_ ft))), (xu, .inl (k 0, 245760, .inl (by_ fu))), (xv, .inl (k 1, 3, .inl fv)), (xb, .inl (k 1, 3, .inl fb))] sz) [(mo, .inr (5, [.int (nI 0), .ref xt, .ref xk, .ref xr, .int (nI 0), .int (nI nk), .int (nI nr), .ref xu, .ref xv, .ref xb, .ref xw, .ref xo, .ref xl, .ref xp, .ref yr, .ref ys, .ref yw, .ref yt, .ref yl, .ref yc, .int (nI wd)])), (xt, .inl (k 0, 65536, .inl (by_ ft))), (xu, .inl (k 0, 245760, .inl (by_ (rcq ft fu (81920 * kd + nu) nt)))), (xv, .inl (k 1, 3, .inl (upd fv kd (nI (nu + nt))))), (xb, .inl (k 1, 3, .inl (upd fb kd (fb kd + nI ((nu + nt) / rBl kd - nu / rBl kd)))))]) (va_A [(mo, .inr (5, [.int th, .ref xt, .ref xk, .ref xr, .int (nI nt), .int (nI nk), .int (nI nr), .ref xu, .ref xv, .ref xb, .ref xw, .ref xo, .ref xl, .ref xp, .ref yr, .ref ys, .ref yw, .ref yt, .ref yl, .ref yc, .int (nI wd)])), (xt, .inl (k 0, 65536, .inl (by_ ft))), (xu, .inl (k 0, 245760, .inl (by_ fu))), (xv, .inl (k 1, 3, .inl fv)), (xb, .inl (k 1, 3, .inl fb))] sz)) (0) (0) (va_A [(mo, .inr (5, [.int th, .ref xt, .ref xk, .ref xr, .int (nI nt), .int (nI nk), .int (nI nr), .ref xu, .ref xv, .ref xb, .ref xw, .ref xo, .ref xl, .ref xp, .ref yr, .ref ys, .ref yw, .ref yt, .ref yl, .ref yc, .int (nI wd)])), (xt, .inl (k 0, 65536, .inl (by_ ft))), (xu, .inl (k 0, 245760, .inl (by_ fu))), (xv, .inl (k 1, 3, .inl fv)), (xb, .inl (k 1, 3, .inl fb))] sz) := by
  refine Met.ofW (cc := cMd_more) (maxL := 4) (ret := (some .long)) (by decide) rfl ?_
  intro p e s m args below meth c s₁ B hml hv
  obtain ⟨rfl, hsz, hP, hK, hD0, hG⟩ := hv
  have hx := B.exec
  have hb := B.bytes
  have hr := B.returns
  have hts : ∀ w ∈ GT, w.before _ s = true := fun w h => atoms_spec (ws := wMd_more) B.pre w (List.mem_cons_of_mem _ h)
  have hown : s.vm.findClass R_Md = some m.cls := findClass_of_methodNamed B.named
  have hlocks := B.notSynchronized
  subst hsz
  have hD := hD0.self (sz := s.heap.size)
  generalize hAe : va_A [(mo, .inr (5, [.int th, .ref xt, .ref xk, .ref xr, .int (nI nt), .int (nI nk), .int (nI nr), .ref xu, .ref xv, .ref xb, .ref xw, .ref xo, .ref xl, .ref xp, .ref yr, .ref ys, .ref yw, .ref yt, .ref yl, .ref yc, .int (nI wd)])), (xt, .inl (k 0, 65536, .inl (by_ ft))), (xu, .inl (k 0, 245760, .inl (by_ fu))), (xv, .inl (k 1, 3, .inl fv)), (xb, .inl (k 1, 3, .inl fb))] s.heap.size = A at hD hG ⊢
  have hA : ∀ q : Nat, s.heap.size ≤ q → A q := fun q h => by rw [← hAe]; exact Or.inr h
  have hl := lv_entry ([.ref mo, .int (nI kd)]) (n := 4) (Nat.le_of_ble_eq_true rfl)
  rw [lg_entry_eq]
  generalize (lg_sl ([.ref mo, .int (nI kd)]) ++ List.replicate (4 - (lg_sl ([.ref mo, .int (nI kd)])).length) Slot.unset).toArray = ls at hl ⊢
  have hl : lv_has ls 4 [(0, .ref mo), (1, .int (nI kd))] := hl
  refine cw_start (A := A) hP (fun H locs hP hS => ?_)
  refine lv_aload_n hx hb dMd_more_0 rfl (lv_at hl 0 rfl) ?_
  refine lv_iconst (v := nI 0) hx hb dMd_more_1 (by decide) ?_
  refine va_put (D := D) (ci := 5) (v := .int (nI 0)) (ty := .int) (C := R_Md) (T := T_Md) (N := 21) hx hb hts in_Md t_Md tk_Md nm_Md hown hK hP hD hS 0 rfl rfl 0 (by decide) (hts _ gm_525) (fun _ h9 => h9) rfl (by decide +kernel) rfl rfl (Nat.le_of_ble_eq_true rfl) dMd_more_2 (fun H locs hP hD hS => ?_)
  have hP : va_P D vwCl [(mo, .inr (5, [.int (nI 0), .ref xt, .ref xk, .ref xr, .int (nI nt), .int (nI nk), .int (nI nr), .ref xu, .ref xv, .ref xb, .ref xw, .ref xo, .ref xl, .ref xp, .ref yr, .ref ys, .ref yw, .ref yt, .ref yl, .ref yc, .int (nI wd)])), (xt, .inl (k 0, 65536, .inl (by_ ft))), (xu, .inl (k 0, 245760, .inl (by_ fu))), (xv, .inl (k 1, 3, .inl fv)), (xb, .inl (k 1, 3, .inl fb))] H := hP
  have hD : va_D A [(mo, .inr (5, [.int (nI 0), .ref xt, .ref xk, .ref xr, .int (nI nt), .int (nI nk), .int (nI nr), .ref xu, .ref xv, .ref xb, .ref xw, .ref xo, .ref xl, .ref xp, .ref yr, .ref ys, .ref yw, .ref yt, .ref yl, .ref yc, .int (nI wd)])), (xt, .inl (k 0, 65536, .inl (by_ ft))), (xu, .inl (k 0, 245760, .inl (by_ fu))), (xv, .inl (k 1, 3, .inl fv)), (xb, .inl (k 1, 3, .inl fb))] := hD
  refine lv_iload_n hx hb dMd_more_5 rfl (lv_at hl 1 rfl) ?_
  refine rc_i (wr := [(mo, .inr (5, [.int (nI 0), .ref xt, .ref xk, .ref xr, .int (nI nt), .int (nI nk), .int (nI nr), .ref xu, .ref xv, .ref xb, .ref xw, .ref xo, .ref xl, .ref xp, .ref yr, .ref ys, .ref yw, .ref yt, .ref yl, .ref yc, .int (nI wd)])), (xt, .inl (k 0, 65536, .inl (by_ ft))), (xu, .inl (k 0, 245760, .inl (by_ fu))), (xv, .inl (k 1, 3, .inl fv)), (xb, .inl (k 1, 3, .inl fb))]) (va_runS (As := [.int (nI kd)]) (rest := []) ⟨hx, hb, hml, hown, hts⟩ (c_r_strange l D k tb H.size kd hkd) (va_cwS 1 hts (gS gm_587 gm_588 gm_57 gm_589) rfl rfl rfl (by decide +kernel) ⟨Nat.le_of_ble_eq_true rfl, Nat.le_of_ble_eq_true rfl⟩) (cP_S hP hD hK hG hS hA [] (by decide) rfl) rfl rfl hl.1 rfl (lv_room (Nat.le_of_ble_eq_true rfl)) dMd_more_6 ⟨Nat.le_of_ble_eq_true rfl, Nat.le_of_ble_eq_true rfl⟩) hS hA hP hD [] [0, 1, 2, 3, 4] rfl rfl (by decide) (by decide) (fun r1 u H locs hw hP hD hS => ?_)
  have hP : va_P D vwCl [(mo, .inr (5, [.int (nI 0), .ref xt, .ref xk, .ref xr, .int (nI nt), .int (nI nk), .int (nI nr), .ref xu, .ref xv, .ref xb, .ref xw, .ref xo, .ref xl, .ref xp, .ref yr, .ref ys, .ref yw, .ref yt, .ref yl, .ref yc, .int (nI wd)])), (xt, .inl (k 0, 65536, .inl (by_ ft))), (xu, .inl (k 0, 245760, .inl (by_ fu))), (xv, .inl (k 1, 3, .inl fv)), (xb, .inl (k 1, 3, .inl fb))] H := hP
  have hD : va_D A [(mo, .inr (5, [.int (nI 0), .ref xt, .ref xk, .ref xr, .int (nI nt), .int (nI nk), .int (nI nr), .ref xu, .ref xv, .ref xb, .ref xw, .ref xo, .ref xl, .ref xp, .ref yr, .ref ys, .ref yw, .ref yt, .ref yl, .ref yc, .int (nI wd)])), (xt, .inl (k 0, 65536, .inl (by_ ft))), (xu, .inl (k 0, 245760, .inl (by_ fu))), (xv, .inl (k 1, 3, .inl fv)), (xb, .inl (k 1, 3, .inl fb))] := hD
  subst hw
  refine rz_eq (tgt := 19) hx hb dMd_more_9 (by decide) (by omega) (fun c_9 => ?_) (fun c_9 => absurd c_9 (by omega))
  refine lv_aload_n hx hb dMd_more_19 rfl (lv_at hl 0 rfl) ?_
  refine va_get (D := D) (ci := 5) (v := .ref xv) (C := R_Md) (T := T_Md) (N := 21) hx hb hts in_Md hown hK hP 0 rfl rfl 8 (by decide) (hts _ gm_533) (fun _ h9 => h9) rfl dMd_more_20 ?_
  refine lv_iload_n hx hb dMd_more_23 rfl (lv_at hl 1 rfl) ?_
  refine rn_ld hx hb hK hP 3 1 rfl rfl (by omega) (by omega) dMd_more_24 ?_
  rw [hvk]
  refine lv_iload_n hx hb dMd_more_25 rfl (lv_at hl 1 rfl) ?_
  refine rc_i (wr := [(mo, .inr (5, [.int (nI 0), .ref xt, .ref xk, .ref xr, .int (nI nt), .int (nI nk), .int (nI nr), .ref xu, .ref xv, .ref xb, .ref xw, .ref xo, .ref xl, .ref xp, .ref yr, .ref ys, .ref yw, .ref yt, .ref yl, .ref yc, .int (nI wd)])), (xt, .inl (k 0, 65536, .inl (by_ ft))), (xu, .inl (k 0, 245760, .inl (by_ fu))), (xv, .inl (k 1, 3, .inl fv)), (xb, .inl (k 1, 3, .inl fb))]) (va_runS (As := [.int (nI kd)]) (rest := [.int (nI nu)]) ⟨hx, hb, hml, hown, hts⟩ (c_r_block l D k tb H.size kd hkd) (va_cwS 1 hts (gS gm_594 gm_595 gm_57 gm_596) rfl rfl rfl (by decide +kernel) ⟨Nat.le_of_ble_eq_true rfl, Nat.le_of_ble_eq_true rfl⟩) (cP_S hP hD hK hG hS hA [] (by decide) rfl) rfl rfl hl.1 rfl (lv_room (Nat.le_of_ble_eq_true rfl)) dMd_more_26 ⟨Nat.le_of_ble_eq_true rfl, Nat.le_of_ble_eq_true rfl⟩) hS hA hP hD [] [0, 1, 2, 3, 4] rfl rfl (by decide) (by decide) (fun r1 u H locs hw hP hD hS => ?_)
  have hP : va_P D vwCl [(mo, .inr (5, [.int (nI 0), .ref xt, .ref xk, .ref xr, .int (nI nt), .int (nI nk), .int (nI nr), .ref xu, .ref xv, .ref xb, .ref xw, .ref xo, .ref xl, .ref xp, .ref yr, .ref ys, .ref yw, .ref yt, .ref yl, .ref yc, .int (nI wd)])), (xt, .inl (k 0, 65536, .inl (by_ ft))), (xu, .inl (k 0, 245760, .inl (by_ fu))), (xv, .inl (k 1, 3, .inl fv)), (xb, .inl (k 1, 3, .inl fb))] H := hP
  have hD : va_D A [(mo, .inr (5, [.int (nI 0), .ref xt, .ref xk, .ref xr, .int (nI nt), .int (nI nk), .int (nI nr), .ref xu, .ref xv, .ref xb, .ref xw, .ref xo, .ref xl, .ref xp, .ref yr, .ref ys, .ref yw, .ref yt, .ref yl, .ref yc, .int (nI wd)])), (xt, .inl (k 0, 65536, .inl (by_ ft))), (xu, .inl (k 0, 245760, .inl (by_ fu))), (xv, .inl (k 1, 3, .inl fv)), (xb, .inl (k 1, 3, .inl fb))] := hD
  subst hw
  have hbl := rBl_pos kd
  have hbu := rBl_le kd
  refine ri_div hx hb (by omega) (by omega) (by omega) dMd_more_29 ?_
  refine lv_istore_n (lv' := [(2, .int (nI (nu / (rBl kd)))), (0, .ref mo), (1, .int (nI kd))]) hx hb dMd_more_30 rfl hl (by decide) rfl (fun ls hl => ?_)
  refine lv_iconst (v := nI 0) hx hb dMd_more_31 (by decide) ?_
  refine lv_istore_n (lv' := [(3, .int (nI 0)), (2, .int (nI (nu / (rBl kd)))), (0, .ref mo), (1, .int (nI kd))]) hx hb dMd_more_32 rfl hl (by decide) rfl (fun ls hl => ?_)
  refine ri_loop (fun i H locs ls => va_P D vwCl [(mo, .inr (5, [.int (nI 0), .ref xt, .ref xk, .ref xr, .int (nI nt), .int (nI nk), .int (nI nr), .ref xu, .ref xv, .ref xb, .ref xw, .ref xo, .ref xl, .ref xp, .ref yr, .ref ys, .ref yw, .ref yt, .ref yl, .ref yc, .int (nI wd)])), (xt, .inl (k 0, 65536, .inl (by_ ft))), (xu, .inl (k 0, 245760, .inl (by_ (rcq ft fu (81920 * kd + nu) i)))), (xv, .inl (k 1, 3, .inl fv)), (xb, .inl (k 1, 3, .inl fb))] H ∧ va_D A [(mo, .inr (5, [.int (nI 0), .ref xt, .ref xk, .ref xr, .int (nI nt), .int (nI nk), .int (nI nr), .ref xu, .ref xv, .ref xb, .ref xw, .ref xo, .ref xl, .ref xp, .ref yr, .ref ys, .ref yw, .ref yt, .ref yl, .ref yc, .int (nI wd)])), (xt, .inl (k 0, 65536, .inl (by_ ft))), (xu, .inl (k 0, 245760, .inl (by_ (rcq ft fu (81920 * kd + nu) i)))), (xv, .inl (k 1, 3, .inl fv)), (xb, .inl (k 1, 3, .inl fb))] ∧ va_S A s.heap H locs ∧ lv_has ls 4 [(3, .int (nI i)), (2, .int (nI (nu / (rBl kd)))), (0, .ref mo), (1, .int (nI kd))]) nt 0 ⟨hP, hD, hS, lv_sub hl [0, 1, 2, 3] rfl⟩ (by omega) (fun i H locs ls lt_i ⟨hP, hD, hS, hl⟩ ih => ?_) (fun H locs ls ⟨hP, hD, hS, hl⟩ => ?_)
  · skip
    refine lv_iload_n hx hb dMd_more_33 rfl (lv_at hl 0 rfl) ?_
    refine lv_aload_n hx hb dMd_more_34 rfl (lv_at hl 2 rfl) ?_
    refine va_get (D := D) (ci := 5) (v := .int (nI nt)) (C := R_Md) (T := T_Md) (N := 21) hx hb hts in_Md hown hK hP 0 rfl rfl 4 (by decide) (hts _ gm_529) (fun _ h9 => h9) rfl dMd_more_35 ?_
    refine ri_ge (tgt := 71) hx hb dMd_more_38 (by decide) (by omega) (by omega) (fun c_38 => absurd c_38 (by omega)) (fun c_38 => ?_)
    refine lv_aload_n hx hb dMd_more_41 rfl (lv_at hl 2 rfl) ?_
    refine va_get (D := D) (ci := 5) (v := .ref xu) (C := R_Md) (T := T_Md) (N := 21) hx hb hts in_Md hown hK hP 0 rfl rfl 7 (by decide) (hts _ gm_532) (fun _ h9 => h9) rfl dMd_more_42 ?_
    refine lv_ldc (v := 81920) hx hb hown (hts _ gm_597) dMd_more_45 ?_
    rw [show (81920 : Int32) = nI 81920 from rfl]
    refine lv_iload_n hx hb dMd_more_47 rfl (lv_at hl 3 rfl) ?_
    refine ri_mul hx hb dMd_more_48 ?_
    refine lv_aload_n hx hb dMd_more_49 rfl (lv_at hl 2 rfl) ?_
    refine va_get (D := D) (ci := 5) (v := .ref xv) (C := R_Md) (T := T_Md) (N := 21) hx hb hts in_Md hown hK hP 0 rfl rfl 8 (by decide) (hts _ gm_533) (fun _ h9 => h9) rfl dMd_more_50 ?_
    refine lv_iload_n hx hb dMd_more_53 rfl (lv_at hl 3 rfl) ?_
    refine rn_ld hx hb hK hP 3 1 rfl rfl (by omega) (by omega) dMd_more_54 ?_
    rw [hvk]
    refine ri_add hx hb dMd_more_55 ?_
    refine lv_iload_n hx hb dMd_more_56 rfl (lv_at hl 0 rfl) ?_
    refine ri_add hx hb dMd_more_57 ?_
    refine lv_aload_n hx hb dMd_more_58 rfl (lv_at hl 2 rfl) ?_
    refine va_get (D := D) (ci := 5) (v := .ref xt) (C := R_Md) (T := T_Md) (N := 21) hx hb hts in_Md hown hK hP 0 rfl rfl 1 (by decide) (hts _ gm_526) (fun _ h9 => h9) rfl dMd_more_59 ?_
    refine lv_iload_n hx hb dMd_more_62 rfl (lv_at hl 0 rfl) ?_
    refine rb_ld hx hb hK hP 1 0 rfl rfl (by omega) (by omega) dMd_more_63 ?_
    refine rb_st (z := (ft i)) hx hb hK hP hD hS 2 0 rfl rfl (by omega) (by omega) dMd_more_64 (fun H locs hP hD hS => ?_)
    have hP : va_P D vwCl [(mo, .inr (5, [.int (nI 0), .ref xt, .ref xk, .ref xr, .int (nI nt), .int (nI nk), .int (nI nr), .ref xu, .ref xv, .ref xb, .ref xw, .ref xo, .ref xl, .ref xp, .ref yr, .ref ys, .ref yw, .ref yt, .ref yl, .ref yc, .int (nI wd)])), (xt, .inl (k 0, 65536, .inl (by_ ft))), (xu, .inl (k 0, 245760, .inl (by_ (va_up (rcq ft fu (81920 * kd + nu) i) (((81920 * kd) + nu) + i) (ft i))))), (xv, .inl (k 1, 3, .inl fv)), (xb, .inl (k 1, 3, .inl fb))] H := hP
    have hD : va_D A [(mo, .inr (5, [.int (nI 0), .ref xt, .ref xk, .ref xr, .int (nI nt), .int (nI nk), .int (nI nr), .ref xu, .ref xv, .ref xb, .ref xw, .ref xo, .ref xl, .ref xp, .ref yr, .ref ys, .ref yw, .ref yt, .ref yl, .ref yc, .int (nI wd)])), (xt, .inl (k 0, 65536, .inl (by_ ft))), (xu, .inl (k 0, 245760, .inl (by_ (va_up (rcq ft fu (81920 * kd + nu) i) (((81920 * kd) + nu) + i) (ft i))))), (xv, .inl (k 1, 3, .inl fv)), (xb, .inl (k 1, 3, .inl fb))] := hD
    refine ri_inc (lv' := [(3, .int (nI (i + 1))), (2, .int (nI (nu / (rBl kd)))), (0, .ref mo), (1, .int (nI kd))]) (k := 0) (d := 1) hx hb dMd_more_65 hl rfl (by decide) (by decide) rfl (fun ls hl => ?_)
    refine lv_goto (tgt := 33) hx hb dMd_more_68 (by decide) ?_
    exact ih _ _ _ ⟨hP, hD, hS, lv_sub hl [0, 1, 2, 3] rfl⟩
  · skip
    refine lv_iload_n hx hb dMd_more_33 rfl (lv_at hl 0 rfl) ?_
    refine lv_aload_n hx hb dMd_more_34 rfl (lv_at hl 2 rfl) ?_
    refine va_get (D := D) (ci := 5) (v := .int (nI nt)) (C := R_Md) (T := T_Md) (N := 21) hx hb hts in_Md hown hK hP 0 rfl rfl 4 (by decide) (hts _ gm_529) (fun _ h9 => h9) rfl dMd_more_35 ?_
    refine ri_ge (tgt := 71) hx hb dMd_more_38 (by decide) (by omega) (by omega) (fun c_38 => ?_) (fun c_38 => absurd c_38 (by omega))
    refine lv_aload_n hx hb dMd_more_71 rfl (lv_at hl 2 rfl) ?_
    refine va_get (D := D) (ci := 5) (v := .ref xv) (C := R_Md) (T := T_Md) (N := 21) hx hb hts in_Md hown hK hP 0 rfl rfl 8 (by decide) (hts _ gm_533) (fun _ h9 => h9) rfl dMd_more_72 ?_
    refine lv_iload_n hx hb dMd_more_75 rfl (lv_at hl 3 rfl) ?_
    refine lv_dup2_11 hx hb dMd_more_76 rfl rfl ?_
    refine rn_ld hx hb hK hP 3 1 rfl rfl (by omega) (by omega) dMd_more_77 ?_
    rw [hvk]
    refine lv_aload_n hx hb dMd_more_78 rfl (lv_at hl 2 rfl) ?_
    refine va_get (D := D) (ci := 5) (v := .int (nI nt)) (C := R_Md) (T := T_Md) (N := 21) hx hb hts in_Md hown hK hP 0 rfl rfl 4 (by decide) (hts _ gm_529) (fun _ h9 => h9) rfl dMd_more_79 ?_
    refine ri_add hx hb dMd_more_82 ?_
    refine rn_st hx hb hK hP hD hS 3 1 rfl rfl (by omega) (by omega) dMd_more_83 (fun H locs hP hD hS => ?_)
    have hP : va_P D vwCl [(mo, .inr (5, [.int (nI 0), .ref xt, .ref xk, .ref xr, .int (nI nt), .int (nI nk), .int (nI nr), .ref xu, .ref xv, .ref xb, .ref xw, .ref xo, .ref xl, .ref xp, .ref yr, .ref ys, .ref yw, .ref yt, .ref yl, .ref yc, .int (nI wd)])), (xt, .inl (k 0, 65536, .inl (by_ ft))), (xu, .inl (k 0, 245760, .inl (by_ (rcq ft fu (81920 * kd + nu) nt)))), (xv, .inl (k 1, 3, .inl (upd fv kd (nI (nu + nt))))), (xb, .inl (k 1, 3, .inl fb))] H := hP
    have hD : va_D A [(mo, .inr (5, [.int (nI 0), .ref xt, .ref xk, .ref xr, .int (nI nt), .int (nI nk), .int (nI nr), .ref xu, .ref xv, .ref xb, .ref xw, .ref xo, .ref xl, .ref xp, .ref yr, .ref ys, .ref yw, .ref yt, .ref yl, .ref yc, .int (nI wd)])), (xt, .inl (k 0, 65536, .inl (by_ ft))), (xu, .inl (k 0, 245760, .inl (by_ (rcq ft fu (81920 * kd + nu) nt)))), (xv, .inl (k 1, 3, .inl (upd fv kd (nI (nu + nt))))), (xb, .inl (k 1, 3, .inl fb))] := hD
    refine lv_aload_n hx hb dMd_more_84 rfl (lv_at hl 2 rfl) ?_
    refine lv_iconst (v := nI 0) hx hb dMd_more_85 (by decide) ?_
    refine va_put (D := D) (ci := 5) (v := .int (nI 0)) (ty := .int) (C := R_Md) (T := T_Md) (N := 21) hx hb hts in_Md t_Md tk_Md nm_Md hown hK hP hD hS 0 rfl rfl 4 (by decide) (hts _ gm_529) (fun _ h9 => h9) rfl (by decide +kernel) rfl rfl (Nat.le_of_ble_eq_true rfl) dMd_more_86 (fun H locs hP hD hS => ?_)
    have hP : va_P D vwCl [(mo, .inr (5, [.int (nI 0), .ref xt, .ref xk, .ref xr, .int (nI 0), .int (nI nk), .int (nI nr), .ref xu, .ref xv, .ref xb, .ref xw, .ref xo, .ref xl, .ref xp, .ref yr, .ref ys, .ref yw, .ref yt, .ref yl, .ref yc, .int (nI wd)])), (xt, .inl (k 0, 65536, .inl (by_ ft))), (xu, .inl (k 0, 245760, .inl (by_ (rcq ft fu (81920 * kd + nu) nt)))), (xv, .inl (k 1, 3, .inl (upd fv kd (nI (nu + nt))))), (xb, .inl (k 1, 3, .inl fb))] H := hP
    have hD : va_D A [(mo, .inr (5, [.int (nI 0), .ref xt, .ref xk, .ref xr, .int (nI 0), .int (nI nk), .int (nI nr), .ref xu, .ref xv, .ref xb, .ref xw, .ref xo, .ref xl, .ref xp, .ref yr, .ref ys, .ref yw, .ref yt, .ref yl, .ref yc, .int (nI wd)])), (xt, .inl (k 0, 65536, .inl (by_ ft))), (xu, .inl (k 0, 245760, .inl (by_ (rcq ft fu (81920 * kd + nu) nt)))), (xv, .inl (k 1, 3, .inl (upd fv kd (nI (nu + nt))))), (xb, .inl (k 1, 3, .inl fb))] := hD
    refine lv_aload_n hx hb dMd_more_89 rfl (lv_at hl 2 rfl) ?_
    refine va_get (D := D) (ci := 5) (v := .ref xb) (C := R_Md) (T := T_Md) (N := 21) hx hb hts in_Md hown hK hP 0 rfl rfl 9 (by decide) (hts _ gm_534) (fun _ h9 => h9) rfl dMd_more_90 ?_
    refine lv_iload_n hx hb dMd_more_93 rfl (lv_at hl 3 rfl) ?_
    refine lv_dup2_11 hx hb dMd_more_94 rfl rfl ?_
    refine rn_ld hx hb hK hP 4 1 rfl rfl (by omega) (by omega) dMd_more_95 ?_
    refine lv_aload_n hx hb dMd_more_96 rfl (lv_at hl 2 rfl) ?_
    refine va_get (D := D) (ci := 5) (v := .ref xv) (C := R_Md) (T := T_Md) (N := 21) hx hb hts in_Md hown hK hP 0 rfl rfl 8 (by decide) (hts _ gm_533) (fun _ h9 => h9) rfl dMd_more_97 ?_
    refine lv_iload_n hx hb dMd_more_100 rfl (lv_at hl 3 rfl) ?_
    refine rn_ld hx hb hK hP 3 1 rfl rfl (by omega) (by omega) dMd_more_101 ?_
    rw [show upd fv kd (nI (nu + nt)) kd = nI (nu + nt) from by simp [upd]]
    refine lv_iload_n hx hb dMd_more_102 rfl (lv_at hl 3 rfl) ?_
    refine rc_i (wr := [(mo, .inr (5, [.int (nI 0), .ref xt, .ref xk, .ref xr, .int (nI 0), .int (nI nk), .int (nI nr), .ref xu, .ref xv, .ref xb, .ref xw, .ref xo, .ref xl, .ref xp, .ref yr, .ref ys, .ref yw, .ref yt, .ref yl, .ref yc, .int (nI wd)])), (xt, .inl (k 0, 65536, .inl (by_ ft))), (xu, .inl (k 0, 245760, .inl (by_ (rcq ft fu (81920 * kd + nu) nt)))), (xv, .inl (k 1, 3, .inl (upd fv kd (nI (nu + nt))))), (xb, .inl (k 1, 3, .inl fb))]) (va_runS (As := [.int (nI kd)]) (rest := [.int (nI (nu + nt)), .int (fb kd), .int (nI kd), .ref xb]) ⟨hx, hb, hml, hown, hts⟩ (c_r_block l D k tb H.size kd hkd) (va_cwS 1 hts (gS gm_594 gm_595 gm_57 gm_596) rfl rfl rfl (by decide +kernel) ⟨Nat.le_of_ble_eq_true rfl, Nat.le_of_ble_eq_true rfl⟩) (cP_S hP hD hK hG hS hA [] (by decide) rfl) rfl rfl hl.1 rfl (lv_room (Nat.le_of_ble_eq_true rfl)) dMd_more_103 ⟨Nat.le_of_ble_eq_true rfl, Nat.le_of_ble_eq_true rfl⟩) hS hA hP hD [] [0, 1, 2, 3, 4] rfl rfl (by decide) (by decide) (fun r1 u H locs hw hP hD hS => ?_)
    have hP : va_P D vwCl [(mo, .inr (5, [.int (nI 0), .ref xt, .ref xk, .ref xr, .int (nI 0), .int (nI nk), .int (nI nr), .ref xu, .ref xv, .ref xb, .ref xw, .ref xo, .ref xl, .ref xp, .ref yr, .ref ys, .ref yw, .ref yt, .ref yl, .ref yc, .int (nI wd)])), (xt, .inl (k 0, 65536, .inl (by_ ft))), (xu, .inl (k 0, 245760, .inl (by_ (rcq ft fu (81920 * kd + nu) nt)))), (xv, .inl (k 1, 3, .inl (upd fv kd (nI (nu + nt))))), (xb, .inl (k 1, 3, .inl fb))] H := hP
    have hD : va_D A [(mo, .inr (5, [.int (nI 0), .ref xt, .ref xk, .ref xr, .int (nI 0), .int (nI nk), .int (nI nr), .ref xu, .ref xv, .ref xb, .ref xw, .ref xo, .ref xl, .ref xp, .ref yr, .ref ys, .ref yw, .ref yt, .ref yl, .ref yc, .int (nI wd)])), (xt, .inl (k 0, 65536, .inl (by_ ft))), (xu, .inl (k 0, 245760, .inl (by_ (rcq ft fu (81920 * kd + nu) nt)))), (xv, .inl (k 1, 3, .inl (upd fv kd (nI (nu + nt))))), (xb, .inl (k 1, 3, .inl fb))] := hD
    subst hw
    have hbl := rBl_pos kd
    have hbu := rBl_le kd
    refine ri_div hx hb (by omega) (by omega) (by omega) dMd_more_106 ?_
    refine lv_iload_n hx hb dMd_more_107 rfl (lv_at hl 1 rfl) ?_
    refine ri_sub hx hb (Nat.div_le_div_right (by omega)) dMd_more_108 ?_
    refine lv_iadd hx hb dMd_more_109 ?_
    refine rn_st hx hb hK hP hD hS 4 1 rfl rfl (by omega) (by omega) dMd_more_110 (fun H locs hP hD hS => ?_)
    have hP : va_P D vwCl [(mo, .inr (5, [.int (nI 0), .ref xt, .ref xk, .ref xr, .int (nI 0), .int (nI nk), .int (nI nr), .ref xu, .ref xv, .ref xb, .ref xw, .ref xo, .ref xl, .ref xp, .ref yr, .ref ys, .ref yw, .ref yt, .ref yl, .ref yc, .int (nI wd)])), (xt, .inl (k 0, 65536, .inl (by_ ft))), (xu, .inl (k 0, 245760, .inl (by_ (rcq ft fu (81920 * kd + nu) nt)))), (xv, .inl (k 1, 3, .inl (upd fv kd (nI (nu + nt))))), (xb, .inl (k 1, 3, .inl (upd fb kd ((fb kd) + (nI (((nu + nt) / (rBl kd)) - (nu / (rBl kd))))))))] H := hP
    have hD : va_D A [(mo, .inr (5, [.int (nI 0), .ref xt, .ref xk, .ref xr, .int (nI 0), .int (nI nk), .int (nI nr), .ref xu, .ref xv, .ref xb, .ref xw, .ref xo, .ref xl, .ref xp, .ref yr, .ref ys, .ref yw, .ref yt, .ref yl, .ref yc, .int (nI wd)])), (xt, .inl (k 0, 65536, .inl (by_ ft))), (xu, .inl (k 0, 245760, .inl (by_ (rcq ft fu (81920 * kd + nu) nt)))), (xv, .inl (k 1, 3, .inl (upd fv kd (nI (nu + nt))))), (xb, .inl (k 1, 3, .inl (upd fb kd ((fb kd) + (nI (((nu + nt) / (rBl kd)) - (nu / (rBl kd))))))))] := hD
    refine lv_aload_n hx hb dMd_more_111 rfl (lv_at hl 2 rfl) ?_
    refine va_get (D := D) (ci := 5) (v := .ref xv) (C := R_Md) (T := T_Md) (N := 21) hx hb hts in_Md hown hK hP 0 rfl rfl 8 (by decide) (hts _ gm_533) (fun _ h9 => h9) rfl dMd_more_112 ?_
    refine lv_iload_n hx hb dMd_more_115 rfl (lv_at hl 3 rfl) ?_
    refine rn_ld hx hb hK hP 3 1 rfl rfl (by omega) (by omega) dMd_more_116 ?_
    rw [show upd fv kd (nI (nu + nt)) kd = nI (nu + nt) from by simp [upd]]
    refine lv_i2l (v := (nI (nu + nt)).toInt64) hx hb dMd_more_117 rfl ?_
    refine W.widen (k := 0) (n := 0) (Nat.le_refl _) (Nat.le_refl _) ?_
    exact W.lret (v := (nI (nu + nt)).toInt64) hx hb hr (fun t ht hW => ⟨⟨(nI (nu + nt)).toInt64, (), rfl, rfl, by rw [ht]; exact hP, hD⟩, hS.F ht⟩) hS.2.2 dMd_more_118
